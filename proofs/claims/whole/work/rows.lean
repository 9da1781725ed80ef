section
-- ===== PART A: goes FIRST, ahead of the names: the tables' words, and 'selects' of the private methods out of them =====
/-- a private method of a class that the tables say can be made, by its rows of tables_1 -/
def lw_okq (q : MethodName × Nat) : Prop := (q.1.cls ≠ "java/lang/invoke/MethodHandle" ∧ q.1.cls ≠ "java/lang/invoke/VarHandle") ∧ Cond.instantiable q.1.cls q.2 ∈ tables_1 ∧ Cond.privateMethod q.1 ∈ tables_1 ∧ Cond.instanceMethod q.1 ∈ tables_1
theorem lw_p0 : lw_okq (⟨"MixedMill$Mill", "clear", "()V"⟩, 12) := ⟨⟨by decide +kernel, by decide +kernel⟩, List.mem_of_getElem? (i := 37) (by decide +kernel), List.mem_of_getElem? (i := 43) (by decide +kernel), List.mem_of_getElem? (i := 44) (by decide +kernel)⟩
theorem lw_p1 : lw_okq (⟨"MixedMill$Mill", "add", "(IIII)V"⟩, 12) := ⟨⟨by decide +kernel, by decide +kernel⟩, List.mem_of_getElem? (i := 37) (by decide +kernel), List.mem_of_getElem? (i := 201) (by decide +kernel), List.mem_of_getElem? (i := 202) (by decide +kernel)⟩
theorem lw_p2 : lw_okq (⟨"MixedMill$Reader", "read", "([BILMixedMill$Mill;)I"⟩, 2) := ⟨⟨by decide +kernel, by decide +kernel⟩, List.mem_of_getElem? (i := 22) (by decide +kernel), List.mem_of_getElem? (i := 260) (by decide +kernel), List.mem_of_getElem? (i := 261) (by decide +kernel)⟩
theorem lw_p3 : lw_okq (⟨"MixedMill$Reader", "readItem", "([BILMixedMill$Mill;)Z"⟩, 2) := ⟨⟨by decide +kernel, by decide +kernel⟩, List.mem_of_getElem? (i := 22) (by decide +kernel), List.mem_of_getElem? (i := 265) (by decide +kernel), List.mem_of_getElem? (i := 266) (by decide +kernel)⟩
theorem lw_p4 : lw_okq (⟨"MixedMill$Reader", "readNumbers", "([BII)Z"⟩, 2) := ⟨⟨by decide +kernel, by decide +kernel⟩, List.mem_of_getElem? (i := 22) (by decide +kernel), List.mem_of_getElem? (i := 269) (by decide +kernel), List.mem_of_getElem? (i := 270) (by decide +kernel)⟩
theorem lw_p5 : lw_okq (⟨"MixedMill$Reader", "readNumber", "([BI)I"⟩, 2) := ⟨⟨by decide +kernel, by decide +kernel⟩, List.mem_of_getElem? (i := 22) (by decide +kernel), List.mem_of_getElem? (i := 273) (by decide +kernel), List.mem_of_getElem? (i := 274) (by decide +kernel)⟩
theorem lw_p6 : lw_okq (⟨"MixedMill$Reader", "isFigure", "([BI)Z"⟩, 2) := ⟨⟨by decide +kernel, by decide +kernel⟩, List.mem_of_getElem? (i := 22) (by decide +kernel), List.mem_of_getElem? (i := 277) (by decide +kernel), List.mem_of_getElem? (i := 278) (by decide +kernel)⟩
theorem lw_p7 : lw_okq (⟨"MixedMill$Reader", "isSign", "([BII)Z"⟩, 2) := ⟨⟨by decide +kernel, by decide +kernel⟩, List.mem_of_getElem? (i := 22) (by decide +kernel), List.mem_of_getElem? (i := 284) (by decide +kernel), List.mem_of_getElem? (i := 285) (by decide +kernel)⟩
theorem lw_p8 : lw_okq (⟨"MixedMill$Reader", "takeSack", "(LMixedMill$Mill;)Z"⟩, 2) := ⟨⟨by decide +kernel, by decide +kernel⟩, List.mem_of_getElem? (i := 22) (by decide +kernel), List.mem_of_getElem? (i := 288) (by decide +kernel), List.mem_of_getElem? (i := 289) (by decide +kernel)⟩
theorem lw_p9 : lw_okq (⟨"MixedMill$Reader", "takeLaw", "(LMixedMill$Mill;)Z"⟩, 2) := ⟨⟨by decide +kernel, by decide +kernel⟩, List.mem_of_getElem? (i := 22) (by decide +kernel), List.mem_of_getElem? (i := 299) (by decide +kernel), List.mem_of_getElem? (i := 300) (by decide +kernel)⟩
theorem lw_p10 : lw_okq (⟨"MixedMill$Reader", "takePrice", "(LMixedMill$Mill;)Z"⟩, 2) := ⟨⟨by decide +kernel, by decide +kernel⟩, List.mem_of_getElem? (i := 22) (by decide +kernel), List.mem_of_getElem? (i := 303) (by decide +kernel), List.mem_of_getElem? (i := 304) (by decide +kernel)⟩
theorem lw_p11 : lw_okq (⟨"MixedMill$Mill", "copyFrom", "(LMixedMill$Mill;)V"⟩, 12) := ⟨⟨by decide +kernel, by decide +kernel⟩, List.mem_of_getElem? (i := 37) (by decide +kernel), List.mem_of_getElem? (i := 311) (by decide +kernel), List.mem_of_getElem? (i := 312) (by decide +kernel)⟩
theorem lw_p12 : lw_okq (⟨"MixedMill$Mill", "has", "(I)Z"⟩, 12) := ⟨⟨by decide +kernel, by decide +kernel⟩, List.mem_of_getElem? (i := 37) (by decide +kernel), List.mem_of_getElem? (i := 322) (by decide +kernel), List.mem_of_getElem? (i := 323) (by decide +kernel)⟩
theorem lw_p13 : lw_okq (⟨"MixedMill$Mill", "waits", "(I)Z"⟩, 12) := ⟨⟨by decide +kernel, by decide +kernel⟩, List.mem_of_getElem? (i := 37) (by decide +kernel), List.mem_of_getElem? (i := 330) (by decide +kernel), List.mem_of_getElem? (i := 331) (by decide +kernel)⟩
theorem lw_p14 : lw_okq (⟨"MixedMill$Mill", "fitsNow", "(I)Z"⟩, 12) := ⟨⟨by decide +kernel, by decide +kernel⟩, List.mem_of_getElem? (i := 37) (by decide +kernel), List.mem_of_getElem? (i := 335) (by decide +kernel), List.mem_of_getElem? (i := 336) (by decide +kernel)⟩
theorem lw_p15 : lw_okq (⟨"MixedMill$Mill", "kindOf", "(I)I"⟩, 12) := ⟨⟨by decide +kernel, by decide +kernel⟩, List.mem_of_getElem? (i := 37) (by decide +kernel), List.mem_of_getElem? (i := 339) (by decide +kernel), List.mem_of_getElem? (i := 340) (by decide +kernel)⟩
def lw_privs_1 : List (MethodName × Nat) := [(⟨"MixedMill$Mill", "clear", "()V"⟩, 12), (⟨"MixedMill$Mill", "add", "(IIII)V"⟩, 12), (⟨"MixedMill$Reader", "read", "([BILMixedMill$Mill;)I"⟩, 2), (⟨"MixedMill$Reader", "readItem", "([BILMixedMill$Mill;)Z"⟩, 2), (⟨"MixedMill$Reader", "readNumbers", "([BII)Z"⟩, 2), (⟨"MixedMill$Reader", "readNumber", "([BI)I"⟩, 2), (⟨"MixedMill$Reader", "isFigure", "([BI)Z"⟩, 2), (⟨"MixedMill$Reader", "isSign", "([BII)Z"⟩, 2), (⟨"MixedMill$Reader", "takeSack", "(LMixedMill$Mill;)Z"⟩, 2), (⟨"MixedMill$Reader", "takeLaw", "(LMixedMill$Mill;)Z"⟩, 2), (⟨"MixedMill$Reader", "takePrice", "(LMixedMill$Mill;)Z"⟩, 2), (⟨"MixedMill$Mill", "copyFrom", "(LMixedMill$Mill;)V"⟩, 12), (⟨"MixedMill$Mill", "has", "(I)Z"⟩, 12), (⟨"MixedMill$Mill", "waits", "(I)Z"⟩, 12), (⟨"MixedMill$Mill", "fitsNow", "(I)Z"⟩, 12), (⟨"MixedMill$Mill", "kindOf", "(I)I"⟩, 12)]
theorem lw_r1 : ∀ q ∈ lw_privs_1, lw_okq q := List.forall_mem_cons.mpr ⟨lw_p0, List.forall_mem_cons.mpr ⟨lw_p1, List.forall_mem_cons.mpr ⟨lw_p2, List.forall_mem_cons.mpr ⟨lw_p3, List.forall_mem_cons.mpr ⟨lw_p4, List.forall_mem_cons.mpr ⟨lw_p5, List.forall_mem_cons.mpr ⟨lw_p6, List.forall_mem_cons.mpr ⟨lw_p7, List.forall_mem_cons.mpr ⟨lw_p8, List.forall_mem_cons.mpr ⟨lw_p9, List.forall_mem_cons.mpr ⟨lw_p10, List.forall_mem_cons.mpr ⟨lw_p11, List.forall_mem_cons.mpr ⟨lw_p12, List.forall_mem_cons.mpr ⟨lw_p13, List.forall_mem_cons.mpr ⟨lw_p14, List.forall_mem_cons.mpr ⟨lw_p15, fun _ h => absurd h List.not_mem_nil⟩⟩⟩⟩⟩⟩⟩⟩⟩⟩⟩⟩⟩⟩⟩⟩
theorem lw_p16 : lw_okq (⟨"MixedMill", "remember", "()V"⟩, 14) := ⟨⟨by decide +kernel, by decide +kernel⟩, List.mem_of_getElem? (i := 14) (by decide +kernel), List.mem_of_getElem? (i := 350) (by decide +kernel), List.mem_of_getElem? (i := 351) (by decide +kernel)⟩
theorem lw_p17 : lw_okq (⟨"MixedMill$Mill", "setPoured", "(I)V"⟩, 12) := ⟨⟨by decide +kernel, by decide +kernel⟩, List.mem_of_getElem? (i := 37) (by decide +kernel), List.mem_of_getElem? (i := 354) (by decide +kernel), List.mem_of_getElem? (i := 355) (by decide +kernel)⟩
theorem lw_p18 : lw_okq (⟨"MixedMill$Mill", "hourAfter", "(II)I"⟩, 12) := ⟨⟨by decide +kernel, by decide +kernel⟩, List.mem_of_getElem? (i := 37) (by decide +kernel), List.mem_of_getElem? (i := 358) (by decide +kernel), List.mem_of_getElem? (i := 359) (by decide +kernel)⟩
theorem lw_p19 : lw_okq (⟨"MixedMill$Mill", "part", "(II)V"⟩, 12) := ⟨⟨by decide +kernel, by decide +kernel⟩, List.mem_of_getElem? (i := 37) (by decide +kernel), List.mem_of_getElem? (i := 370) (by decide +kernel), List.mem_of_getElem? (i := 371) (by decide +kernel)⟩
theorem lw_p20 : lw_okq (⟨"MixedMill", "isInLine", "(I)Z"⟩, 14) := ⟨⟨by decide +kernel, by decide +kernel⟩, List.mem_of_getElem? (i := 14) (by decide +kernel), List.mem_of_getElem? (i := 391) (by decide +kernel), List.mem_of_getElem? (i := 392) (by decide +kernel)⟩
theorem lw_p21 : lw_okq (⟨"MixedMill", "stopsNowhere", "()Z"⟩, 14) := ⟨⟨by decide +kernel, by decide +kernel⟩, List.mem_of_getElem? (i := 14) (by decide +kernel), List.mem_of_getElem? (i := 403) (by decide +kernel), List.mem_of_getElem? (i := 404) (by decide +kernel)⟩
theorem lw_p22 : lw_okq (⟨"MixedMill", "stopPlace", "()I"⟩, 14) := ⟨⟨by decide +kernel, by decide +kernel⟩, List.mem_of_getElem? (i := 14) (by decide +kernel), List.mem_of_getElem? (i := 407) (by decide +kernel), List.mem_of_getElem? (i := 408) (by decide +kernel)⟩
theorem lw_p23 : lw_okq (⟨"MixedMill", "lineEnds", "()I"⟩, 14) := ⟨⟨by decide +kernel, by decide +kernel⟩, List.mem_of_getElem? (i := 14) (by decide +kernel), List.mem_of_getElem? (i := 414) (by decide +kernel), List.mem_of_getElem? (i := 415) (by decide +kernel)⟩
theorem lw_p24 : lw_okq (⟨"MixedMill", "bread", "()I"⟩, 14) := ⟨⟨by decide +kernel, by decide +kernel⟩, List.mem_of_getElem? (i := 14) (by decide +kernel), List.mem_of_getElem? (i := 419) (by decide +kernel), List.mem_of_getElem? (i := 420) (by decide +kernel)⟩
theorem lw_p25 : lw_okq (⟨"MixedMill$Ahead", "takeAll", "(LMixedMill$Mill;)V"⟩, 5) := ⟨⟨by decide +kernel, by decide +kernel⟩, List.mem_of_getElem? (i := 110) (by decide +kernel), List.mem_of_getElem? (i := 427) (by decide +kernel), List.mem_of_getElem? (i := 428) (by decide +kernel)⟩
theorem lw_p26 : lw_okq (⟨"MixedMill$Ahead", "takeNone", "()V"⟩, 5) := ⟨⟨by decide +kernel, by decide +kernel⟩, List.mem_of_getElem? (i := 110) (by decide +kernel), List.mem_of_getElem? (i := 431) (by decide +kernel), List.mem_of_getElem? (i := 432) (by decide +kernel)⟩
theorem lw_p27 : lw_okq (⟨"MixedMill$Ahead", "addOne", "(I)V"⟩, 5) := ⟨⟨by decide +kernel, by decide +kernel⟩, List.mem_of_getElem? (i := 110) (by decide +kernel), List.mem_of_getElem? (i := 440) (by decide +kernel), List.mem_of_getElem? (i := 441) (by decide +kernel)⟩
theorem lw_p28 : lw_okq (⟨"MixedMill$Ahead", "countWays", "(LMixedMill$Mill;)I"⟩, 5) := ⟨⟨by decide +kernel, by decide +kernel⟩, List.mem_of_getElem? (i := 110) (by decide +kernel), List.mem_of_getElem? (i := 445) (by decide +kernel), List.mem_of_getElem? (i := 446) (by decide +kernel)⟩
theorem lw_p29 : lw_okq (⟨"MixedMill$Ahead", "fillAnswers", "(LMixedMill$Mill;Z)I"⟩, 5) := ⟨⟨by decide +kernel, by decide +kernel⟩, List.mem_of_getElem? (i := 110) (by decide +kernel), List.mem_of_getElem? (i := 449) (by decide +kernel), List.mem_of_getElem? (i := 450) (by decide +kernel)⟩
theorem lw_p30 : lw_okq (⟨"MixedMill$Ahead", "weigh", "()V"⟩, 5) := ⟨⟨by decide +kernel, by decide +kernel⟩, List.mem_of_getElem? (i := 110) (by decide +kernel), List.mem_of_getElem? (i := 453) (by decide +kernel), List.mem_of_getElem? (i := 454) (by decide +kernel)⟩
theorem lw_p31 : lw_okq (⟨"MixedMill$Ahead", "unfold", "(I)V"⟩, 5) := ⟨⟨by decide +kernel, by decide +kernel⟩, List.mem_of_getElem? (i := 110) (by decide +kernel), List.mem_of_getElem? (i := 461) (by decide +kernel), List.mem_of_getElem? (i := 462) (by decide +kernel)⟩
def lw_privs_2 : List (MethodName × Nat) := [(⟨"MixedMill", "remember", "()V"⟩, 14), (⟨"MixedMill$Mill", "setPoured", "(I)V"⟩, 12), (⟨"MixedMill$Mill", "hourAfter", "(II)I"⟩, 12), (⟨"MixedMill$Mill", "part", "(II)V"⟩, 12), (⟨"MixedMill", "isInLine", "(I)Z"⟩, 14), (⟨"MixedMill", "stopsNowhere", "()Z"⟩, 14), (⟨"MixedMill", "stopPlace", "()I"⟩, 14), (⟨"MixedMill", "lineEnds", "()I"⟩, 14), (⟨"MixedMill", "bread", "()I"⟩, 14), (⟨"MixedMill$Ahead", "takeAll", "(LMixedMill$Mill;)V"⟩, 5), (⟨"MixedMill$Ahead", "takeNone", "()V"⟩, 5), (⟨"MixedMill$Ahead", "addOne", "(I)V"⟩, 5), (⟨"MixedMill$Ahead", "countWays", "(LMixedMill$Mill;)I"⟩, 5), (⟨"MixedMill$Ahead", "fillAnswers", "(LMixedMill$Mill;Z)I"⟩, 5), (⟨"MixedMill$Ahead", "weigh", "()V"⟩, 5), (⟨"MixedMill$Ahead", "unfold", "(I)V"⟩, 5)]
theorem lw_r2 : ∀ q ∈ lw_privs_2, lw_okq q := List.forall_mem_cons.mpr ⟨lw_p16, List.forall_mem_cons.mpr ⟨lw_p17, List.forall_mem_cons.mpr ⟨lw_p18, List.forall_mem_cons.mpr ⟨lw_p19, List.forall_mem_cons.mpr ⟨lw_p20, List.forall_mem_cons.mpr ⟨lw_p21, List.forall_mem_cons.mpr ⟨lw_p22, List.forall_mem_cons.mpr ⟨lw_p23, List.forall_mem_cons.mpr ⟨lw_p24, List.forall_mem_cons.mpr ⟨lw_p25, List.forall_mem_cons.mpr ⟨lw_p26, List.forall_mem_cons.mpr ⟨lw_p27, List.forall_mem_cons.mpr ⟨lw_p28, List.forall_mem_cons.mpr ⟨lw_p29, List.forall_mem_cons.mpr ⟨lw_p30, List.forall_mem_cons.mpr ⟨lw_p31, fun _ h => absurd h List.not_mem_nil⟩⟩⟩⟩⟩⟩⟩⟩⟩⟩⟩⟩⟩⟩⟩⟩
theorem lw_p32 : lw_okq (⟨"MixedMill$Ahead", "answer", "(IIIIZ)I"⟩, 5) := ⟨⟨by decide +kernel, by decide +kernel⟩, List.mem_of_getElem? (i := 110) (by decide +kernel), List.mem_of_getElem? (i := 471) (by decide +kernel), List.mem_of_getElem? (i := 472) (by decide +kernel)⟩
theorem lw_p33 : lw_okq (⟨"MixedMill$Ahead", "answerAt", "(II)I"⟩, 5) := ⟨⟨by decide +kernel, by decide +kernel⟩, List.mem_of_getElem? (i := 110) (by decide +kernel), List.mem_of_getElem? (i := 477) (by decide +kernel), List.mem_of_getElem? (i := 478) (by decide +kernel)⟩
theorem lw_p34 : lw_okq (⟨"MixedMill$Mill", "memoryNow", "()I"⟩, 12) := ⟨⟨by decide +kernel, by decide +kernel⟩, List.mem_of_getElem? (i := 37) (by decide +kernel), List.mem_of_getElem? (i := 482) (by decide +kernel), List.mem_of_getElem? (i := 483) (by decide +kernel)⟩
theorem lw_p35 : lw_okq (⟨"MixedMill$Ahead", "longest", "(LMixedMill$Mill;)I"⟩, 5) := ⟨⟨by decide +kernel, by decide +kernel⟩, List.mem_of_getElem? (i := 110) (by decide +kernel), List.mem_of_getElem? (i := 491) (by decide +kernel), List.mem_of_getElem? (i := 492) (by decide +kernel)⟩
theorem lw_p36 : lw_okq (⟨"MixedMill$Hours", "soonest", "(LMixedMill$Mill;I)I"⟩, 13) := ⟨⟨by decide +kernel, by decide +kernel⟩, List.mem_of_getElem? (i := 132) (by decide +kernel), List.mem_of_getElem? (i := 495) (by decide +kernel), List.mem_of_getElem? (i := 496) (by decide +kernel)⟩
theorem lw_p37 : lw_okq (⟨"MixedMill$Hours", "takeWaiting", "(LMixedMill$Mill;)V"⟩, 13) := ⟨⟨by decide +kernel, by decide +kernel⟩, List.mem_of_getElem? (i := 132) (by decide +kernel), List.mem_of_getElem? (i := 499) (by decide +kernel), List.mem_of_getElem? (i := 500) (by decide +kernel)⟩
theorem lw_p38 : lw_okq (⟨"MixedMill$Hours", "fillEnds", "(III[I)V"⟩, 13) := ⟨⟨by decide +kernel, by decide +kernel⟩, List.mem_of_getElem? (i := 132) (by decide +kernel), List.mem_of_getElem? (i := 506) (by decide +kernel), List.mem_of_getElem? (i := 507) (by decide +kernel)⟩
theorem lw_p39 : lw_okq (⟨"MixedMill$Hours", "takeRest", "(I)V"⟩, 13) := ⟨⟨by decide +kernel, by decide +kernel⟩, List.mem_of_getElem? (i := 132) (by decide +kernel), List.mem_of_getElem? (i := 512) (by decide +kernel), List.mem_of_getElem? (i := 513) (by decide +kernel)⟩
theorem lw_p40 : lw_okq (⟨"MixedMill$Hours", "pourOneMore", "(IIIII)V"⟩, 13) := ⟨⟨by decide +kernel, by decide +kernel⟩, List.mem_of_getElem? (i := 132) (by decide +kernel), List.mem_of_getElem? (i := 522) (by decide +kernel), List.mem_of_getElem? (i := 523) (by decide +kernel)⟩
theorem lw_p41 : lw_okq (⟨"MixedMill$Ahead", "rowSack", "(LMixedMill$Mill;I)I"⟩, 5) := ⟨⟨by decide +kernel, by decide +kernel⟩, List.mem_of_getElem? (i := 110) (by decide +kernel), List.mem_of_getElem? (i := 532) (by decide +kernel), List.mem_of_getElem? (i := 533) (by decide +kernel)⟩
theorem lw_p42 : lw_okq (⟨"MixedMill$Ahead", "nextInRow", "(LMixedMill$Mill;IIII)I"⟩, 5) := ⟨⟨by decide +kernel, by decide +kernel⟩, List.mem_of_getElem? (i := 110) (by decide +kernel), List.mem_of_getElem? (i := 536) (by decide +kernel), List.mem_of_getElem? (i := 537) (by decide +kernel)⟩
theorem lw_p43 : lw_okq (⟨"MixedMill$Ahead", "fewestHalvings", "(LMixedMill$Mill;)I"⟩, 5) := ⟨⟨by decide +kernel, by decide +kernel⟩, List.mem_of_getElem? (i := 110) (by decide +kernel), List.mem_of_getElem? (i := 544) (by decide +kernel), List.mem_of_getElem? (i := 545) (by decide +kernel)⟩
theorem lw_p44 : lw_okq (⟨"MixedMill$Ahead", "total", "()I"⟩, 5) := ⟨⟨by decide +kernel, by decide +kernel⟩, List.mem_of_getElem? (i := 110) (by decide +kernel), List.mem_of_getElem? (i := 549) (by decide +kernel), List.mem_of_getElem? (i := 550) (by decide +kernel)⟩
theorem lw_p45 : lw_okq (⟨"MixedMill$Ahead", "dropKind", "(I)V"⟩, 5) := ⟨⟨by decide +kernel, by decide +kernel⟩, List.mem_of_getElem? (i := 110) (by decide +kernel), List.mem_of_getElem? (i := 566) (by decide +kernel), List.mem_of_getElem? (i := 567) (by decide +kernel)⟩
theorem lw_p46 : lw_okq (⟨"MixedMill$Pairs", "find", "(LMixedMill$Mill;LMixedMill$Ahead;)V"⟩, 4) := ⟨⟨by decide +kernel, by decide +kernel⟩, List.mem_of_getElem? (i := 180) (by decide +kernel), List.mem_of_getElem? (i := 575) (by decide +kernel), List.mem_of_getElem? (i := 576) (by decide +kernel)⟩
theorem lw_p47 : lw_okq (⟨"MixedMill$Mill", "isWaitedFor", "(I)Z"⟩, 12) := ⟨⟨by decide +kernel, by decide +kernel⟩, List.mem_of_getElem? (i := 37) (by decide +kernel), List.mem_of_getElem? (i := 582) (by decide +kernel), List.mem_of_getElem? (i := 583) (by decide +kernel)⟩
def lw_privs_3 : List (MethodName × Nat) := [(⟨"MixedMill$Ahead", "answer", "(IIIIZ)I"⟩, 5), (⟨"MixedMill$Ahead", "answerAt", "(II)I"⟩, 5), (⟨"MixedMill$Mill", "memoryNow", "()I"⟩, 12), (⟨"MixedMill$Ahead", "longest", "(LMixedMill$Mill;)I"⟩, 5), (⟨"MixedMill$Hours", "soonest", "(LMixedMill$Mill;I)I"⟩, 13), (⟨"MixedMill$Hours", "takeWaiting", "(LMixedMill$Mill;)V"⟩, 13), (⟨"MixedMill$Hours", "fillEnds", "(III[I)V"⟩, 13), (⟨"MixedMill$Hours", "takeRest", "(I)V"⟩, 13), (⟨"MixedMill$Hours", "pourOneMore", "(IIIII)V"⟩, 13), (⟨"MixedMill$Ahead", "rowSack", "(LMixedMill$Mill;I)I"⟩, 5), (⟨"MixedMill$Ahead", "nextInRow", "(LMixedMill$Mill;IIII)I"⟩, 5), (⟨"MixedMill$Ahead", "fewestHalvings", "(LMixedMill$Mill;)I"⟩, 5), (⟨"MixedMill$Ahead", "total", "()I"⟩, 5), (⟨"MixedMill$Ahead", "dropKind", "(I)V"⟩, 5), (⟨"MixedMill$Pairs", "find", "(LMixedMill$Mill;LMixedMill$Ahead;)V"⟩, 4), (⟨"MixedMill$Mill", "isWaitedFor", "(I)Z"⟩, 12)]
theorem lw_r3 : ∀ q ∈ lw_privs_3, lw_okq q := List.forall_mem_cons.mpr ⟨lw_p32, List.forall_mem_cons.mpr ⟨lw_p33, List.forall_mem_cons.mpr ⟨lw_p34, List.forall_mem_cons.mpr ⟨lw_p35, List.forall_mem_cons.mpr ⟨lw_p36, List.forall_mem_cons.mpr ⟨lw_p37, List.forall_mem_cons.mpr ⟨lw_p38, List.forall_mem_cons.mpr ⟨lw_p39, List.forall_mem_cons.mpr ⟨lw_p40, List.forall_mem_cons.mpr ⟨lw_p41, List.forall_mem_cons.mpr ⟨lw_p42, List.forall_mem_cons.mpr ⟨lw_p43, List.forall_mem_cons.mpr ⟨lw_p44, List.forall_mem_cons.mpr ⟨lw_p45, List.forall_mem_cons.mpr ⟨lw_p46, List.forall_mem_cons.mpr ⟨lw_p47, fun _ h => absurd h List.not_mem_nil⟩⟩⟩⟩⟩⟩⟩⟩⟩⟩⟩⟩⟩⟩⟩⟩
theorem lw_p48 : lw_okq (⟨"MixedMill$Ahead", "takeOwners", "(LMixedMill$Mill;II)V"⟩, 5) := ⟨⟨by decide +kernel, by decide +kernel⟩, List.mem_of_getElem? (i := 110) (by decide +kernel), List.mem_of_getElem? (i := 587) (by decide +kernel), List.mem_of_getElem? (i := 588) (by decide +kernel)⟩
theorem lw_p49 : lw_okq (⟨"MixedMill$Pairs", "choose", "(II)V"⟩, 4) := ⟨⟨by decide +kernel, by decide +kernel⟩, List.mem_of_getElem? (i := 180) (by decide +kernel), List.mem_of_getElem? (i := 594) (by decide +kernel), List.mem_of_getElem? (i := 595) (by decide +kernel)⟩
theorem lw_p50 : lw_okq (⟨"MixedMill$Pairs", "partnerOf", "(I)I"⟩, 4) := ⟨⟨by decide +kernel, by decide +kernel⟩, List.mem_of_getElem? (i := 180) (by decide +kernel), List.mem_of_getElem? (i := 599) (by decide +kernel), List.mem_of_getElem? (i := 600) (by decide +kernel)⟩
theorem lw_p51 : lw_okq (⟨"MixedMill$Ahead", "takeGrown", "(LMixedMill$Mill;II)V"⟩, 5) := ⟨⟨by decide +kernel, by decide +kernel⟩, List.mem_of_getElem? (i := 110) (by decide +kernel), List.mem_of_getElem? (i := 609) (by decide +kernel), List.mem_of_getElem? (i := 610) (by decide +kernel)⟩
theorem lw_p52 : lw_okq (⟨"MixedMill$Hours", "partBetweenTwo", "(LMixedMill$Mill;)Z"⟩, 13) := ⟨⟨by decide +kernel, by decide +kernel⟩, List.mem_of_getElem? (i := 132) (by decide +kernel), List.mem_of_getElem? (i := 617) (by decide +kernel), List.mem_of_getElem? (i := 618) (by decide +kernel)⟩
theorem lw_p53 : lw_okq (⟨"MixedMill$Hours", "sackBits", "(I)I"⟩, 13) := ⟨⟨by decide +kernel, by decide +kernel⟩, List.mem_of_getElem? (i := 132) (by decide +kernel), List.mem_of_getElem? (i := 622) (by decide +kernel), List.mem_of_getElem? (i := 623) (by decide +kernel)⟩
theorem lw_p54 : lw_okq (⟨"MixedMill$Year", "bring", "(I)V"⟩, 5) := ⟨⟨by decide +kernel, by decide +kernel⟩, List.mem_of_getElem? (i := 630) (by decide +kernel), List.mem_of_getElem? (i := 660) (by decide +kernel), List.mem_of_getElem? (i := 661) (by decide +kernel)⟩
theorem lw_p55 : lw_okq (⟨"MixedMill$Year", "take", "(I)V"⟩, 5) := ⟨⟨by decide +kernel, by decide +kernel⟩, List.mem_of_getElem? (i := 630) (by decide +kernel), List.mem_of_getElem? (i := 666) (by decide +kernel), List.mem_of_getElem? (i := 667) (by decide +kernel)⟩
theorem lw_p56 : lw_okq (⟨"MixedMill$Year", "lowestPutBy", "()I"⟩, 5) := ⟨⟨by decide +kernel, by decide +kernel⟩, List.mem_of_getElem? (i := 630) (by decide +kernel), List.mem_of_getElem? (i := 671) (by decide +kernel), List.mem_of_getElem? (i := 672) (by decide +kernel)⟩
theorem lw_p57 : lw_okq (⟨"MixedMill$Mill", "howMany", "(I)I"⟩, 12) := ⟨⟨by decide +kernel, by decide +kernel⟩, List.mem_of_getElem? (i := 37) (by decide +kernel), List.mem_of_getElem? (i := 687) (by decide +kernel), List.mem_of_getElem? (i := 688) (by decide +kernel)⟩
theorem lw_p58 : lw_okq (⟨"MixedMillModel", "begins", "()V"⟩, 24) := ⟨⟨by decide +kernel, by decide +kernel⟩, List.mem_of_getElem? (i := 691) (by decide +kernel), List.mem_of_getElem? (i := 698) (by decide +kernel), List.mem_of_getElem? (i := 699) (by decide +kernel)⟩
theorem lw_p59 : lw_okq (⟨"MixedMillModel", "takes", "()V"⟩, 24) := ⟨⟨by decide +kernel, by decide +kernel⟩, List.mem_of_getElem? (i := 691) (by decide +kernel), List.mem_of_getElem? (i := 702) (by decide +kernel), List.mem_of_getElem? (i := 703) (by decide +kernel)⟩
theorem lw_p60 : lw_okq (⟨"MixedMillModel", "isItem", "()Z"⟩, 24) := ⟨⟨by decide +kernel, by decide +kernel⟩, List.mem_of_getElem? (i := 691) (by decide +kernel), List.mem_of_getElem? (i := 796) (by decide +kernel), List.mem_of_getElem? (i := 797) (by decide +kernel)⟩
theorem lw_p61 : lw_okq (⟨"MixedMillModel", "number", "()I"⟩, 24) := ⟨⟨by decide +kernel, by decide +kernel⟩, List.mem_of_getElem? (i := 691) (by decide +kernel), List.mem_of_getElem? (i := 800) (by decide +kernel), List.mem_of_getElem? (i := 801) (by decide +kernel)⟩
theorem lw_p62 : lw_okq (⟨"MixedMillModel", "isGood", "(I)Z"⟩, 24) := ⟨⟨by decide +kernel, by decide +kernel⟩, List.mem_of_getElem? (i := 691) (by decide +kernel), List.mem_of_getElem? (i := 807) (by decide +kernel), List.mem_of_getElem? (i := 808) (by decide +kernel)⟩
theorem lw_p63 : lw_okq (⟨"MixedMillModel", "isSack", "(I)Z"⟩, 24) := ⟨⟨by decide +kernel, by decide +kernel⟩, List.mem_of_getElem? (i := 691) (by decide +kernel), List.mem_of_getElem? (i := 822) (by decide +kernel), List.mem_of_getElem? (i := 823) (by decide +kernel)⟩
def lw_privs_4 : List (MethodName × Nat) := [(⟨"MixedMill$Ahead", "takeOwners", "(LMixedMill$Mill;II)V"⟩, 5), (⟨"MixedMill$Pairs", "choose", "(II)V"⟩, 4), (⟨"MixedMill$Pairs", "partnerOf", "(I)I"⟩, 4), (⟨"MixedMill$Ahead", "takeGrown", "(LMixedMill$Mill;II)V"⟩, 5), (⟨"MixedMill$Hours", "partBetweenTwo", "(LMixedMill$Mill;)Z"⟩, 13), (⟨"MixedMill$Hours", "sackBits", "(I)I"⟩, 13), (⟨"MixedMill$Year", "bring", "(I)V"⟩, 5), (⟨"MixedMill$Year", "take", "(I)V"⟩, 5), (⟨"MixedMill$Year", "lowestPutBy", "()I"⟩, 5), (⟨"MixedMill$Mill", "howMany", "(I)I"⟩, 12), (⟨"MixedMillModel", "begins", "()V"⟩, 24), (⟨"MixedMillModel", "takes", "()V"⟩, 24), (⟨"MixedMillModel", "isItem", "()Z"⟩, 24), (⟨"MixedMillModel", "number", "()I"⟩, 24), (⟨"MixedMillModel", "isGood", "(I)Z"⟩, 24), (⟨"MixedMillModel", "isSack", "(I)Z"⟩, 24)]
theorem lw_r4 : ∀ q ∈ lw_privs_4, lw_okq q := List.forall_mem_cons.mpr ⟨lw_p48, List.forall_mem_cons.mpr ⟨lw_p49, List.forall_mem_cons.mpr ⟨lw_p50, List.forall_mem_cons.mpr ⟨lw_p51, List.forall_mem_cons.mpr ⟨lw_p52, List.forall_mem_cons.mpr ⟨lw_p53, List.forall_mem_cons.mpr ⟨lw_p54, List.forall_mem_cons.mpr ⟨lw_p55, List.forall_mem_cons.mpr ⟨lw_p56, List.forall_mem_cons.mpr ⟨lw_p57, List.forall_mem_cons.mpr ⟨lw_p58, List.forall_mem_cons.mpr ⟨lw_p59, List.forall_mem_cons.mpr ⟨lw_p60, List.forall_mem_cons.mpr ⟨lw_p61, List.forall_mem_cons.mpr ⟨lw_p62, List.forall_mem_cons.mpr ⟨lw_p63, fun _ h => absurd h List.not_mem_nil⟩⟩⟩⟩⟩⟩⟩⟩⟩⟩⟩⟩⟩⟩⟩⟩
theorem lw_p64 : lw_okq (⟨"MixedMillModel", "of", "(II)I"⟩, 24) := ⟨⟨by decide +kernel, by decide +kernel⟩, List.mem_of_getElem? (i := 691) (by decide +kernel), List.mem_of_getElem? (i := 826) (by decide +kernel), List.mem_of_getElem? (i := 827) (by decide +kernel)⟩
theorem lw_p65 : lw_okq (⟨"MixedMillModel", "isWaiting", "(I)Z"⟩, 24) := ⟨⟨by decide +kernel, by decide +kernel⟩, List.mem_of_getElem? (i := 691) (by decide +kernel), List.mem_of_getElem? (i := 834) (by decide +kernel), List.mem_of_getElem? (i := 835) (by decide +kernel)⟩
theorem lw_p66 : lw_okq (⟨"MixedMillModel", "mayNow", "(I)Z"⟩, 24) := ⟨⟨by decide +kernel, by decide +kernel⟩, List.mem_of_getElem? (i := 691) (by decide +kernel), List.mem_of_getElem? (i := 838) (by decide +kernel), List.mem_of_getElem? (i := 839) (by decide +kernel)⟩
theorem lw_p67 : lw_okq (⟨"MixedMillModel", "isMixed", "(III)Z"⟩, 24) := ⟨⟨by decide +kernel, by decide +kernel⟩, List.mem_of_getElem? (i := 691) (by decide +kernel), List.mem_of_getElem? (i := 842) (by decide +kernel), List.mem_of_getElem? (i := 843) (by decide +kernel)⟩
theorem lw_p68 : lw_okq (⟨"MixedMillModel", "known", "()V"⟩, 24) := ⟨⟨by decide +kernel, by decide +kernel⟩, List.mem_of_getElem? (i := 691) (by decide +kernel), List.mem_of_getElem? (i := 850) (by decide +kernel), List.mem_of_getElem? (i := 851) (by decide +kernel)⟩
theorem lw_p69 : lw_okq (⟨"MixedMillModel", "copies", "(II)V"⟩, 24) := ⟨⟨by decide +kernel, by decide +kernel⟩, List.mem_of_getElem? (i := 691) (by decide +kernel), List.mem_of_getElem? (i := 854) (by decide +kernel), List.mem_of_getElem? (i := 855) (by decide +kernel)⟩
theorem lw_p70 : lw_okq (⟨"MixedMillModel", "ends", "(II)I"⟩, 24) := ⟨⟨by decide +kernel, by decide +kernel⟩, List.mem_of_getElem? (i := 691) (by decide +kernel), List.mem_of_getElem? (i := 858) (by decide +kernel), List.mem_of_getElem? (i := 859) (by decide +kernel)⟩
theorem lw_p71 : lw_okq (⟨"MixedMillModel", "bread", "()I"⟩, 24) := ⟨⟨by decide +kernel, by decide +kernel⟩, List.mem_of_getElem? (i := 691) (by decide +kernel), List.mem_of_getElem? (i := 890) (by decide +kernel), List.mem_of_getElem? (i := 891) (by decide +kernel)⟩
theorem lw_p72 : lw_okq (⟨"MixedMillModel", "counts", "()V"⟩, 24) := ⟨⟨by decide +kernel, by decide +kernel⟩, List.mem_of_getElem? (i := 691) (by decide +kernel), List.mem_of_getElem? (i := 898) (by decide +kernel), List.mem_of_getElem? (i := 899) (by decide +kernel)⟩
theorem lw_p73 : lw_okq (⟨"MixedMillModel", "size", "()I"⟩, 24) := ⟨⟨by decide +kernel, by decide +kernel⟩, List.mem_of_getElem? (i := 691) (by decide +kernel), List.mem_of_getElem? (i := 902) (by decide +kernel), List.mem_of_getElem? (i := 903) (by decide +kernel)⟩
theorem lw_p74 : lw_okq (⟨"MixedMillModel", "counted", "(I)V"⟩, 24) := ⟨⟨by decide +kernel, by decide +kernel⟩, List.mem_of_getElem? (i := 691) (by decide +kernel), List.mem_of_getElem? (i := 906) (by decide +kernel), List.mem_of_getElem? (i := 907) (by decide +kernel)⟩
theorem lw_p75 : lw_okq (⟨"MixedMillModel", "step", "(I)I"⟩, 24) := ⟨⟨by decide +kernel, by decide +kernel⟩, List.mem_of_getElem? (i := 691) (by decide +kernel), List.mem_of_getElem? (i := 910) (by decide +kernel), List.mem_of_getElem? (i := 911) (by decide +kernel)⟩
theorem lw_p76 : lw_okq (⟨"MixedMillModel", "firstMost", "()V"⟩, 24) := ⟨⟨by decide +kernel, by decide +kernel⟩, List.mem_of_getElem? (i := 691) (by decide +kernel), List.mem_of_getElem? (i := 918) (by decide +kernel), List.mem_of_getElem? (i := 919) (by decide +kernel)⟩
theorem lw_p77 : lw_okq (⟨"MixedMillModel", "mostOf", "()I"⟩, 24) := ⟨⟨by decide +kernel, by decide +kernel⟩, List.mem_of_getElem? (i := 691) (by decide +kernel), List.mem_of_getElem? (i := 922) (by decide +kernel), List.mem_of_getElem? (i := 923) (by decide +kernel)⟩
theorem lw_p78 : lw_okq (⟨"MixedMillModel", "earliest", "(III)V"⟩, 24) := ⟨⟨by decide +kernel, by decide +kernel⟩, List.mem_of_getElem? (i := 691) (by decide +kernel), List.mem_of_getElem? (i := 926) (by decide +kernel), List.mem_of_getElem? (i := 927) (by decide +kernel)⟩
theorem lw_p79 : lw_okq (⟨"MixedMillModel", "soonestOf", "(I)I"⟩, 24) := ⟨⟨by decide +kernel, by decide +kernel⟩, List.mem_of_getElem? (i := 691) (by decide +kernel), List.mem_of_getElem? (i := 934) (by decide +kernel), List.mem_of_getElem? (i := 935) (by decide +kernel)⟩
def lw_privs_5 : List (MethodName × Nat) := [(⟨"MixedMillModel", "of", "(II)I"⟩, 24), (⟨"MixedMillModel", "isWaiting", "(I)Z"⟩, 24), (⟨"MixedMillModel", "mayNow", "(I)Z"⟩, 24), (⟨"MixedMillModel", "isMixed", "(III)Z"⟩, 24), (⟨"MixedMillModel", "known", "()V"⟩, 24), (⟨"MixedMillModel", "copies", "(II)V"⟩, 24), (⟨"MixedMillModel", "ends", "(II)I"⟩, 24), (⟨"MixedMillModel", "bread", "()I"⟩, 24), (⟨"MixedMillModel", "counts", "()V"⟩, 24), (⟨"MixedMillModel", "size", "()I"⟩, 24), (⟨"MixedMillModel", "counted", "(I)V"⟩, 24), (⟨"MixedMillModel", "step", "(I)I"⟩, 24), (⟨"MixedMillModel", "firstMost", "()V"⟩, 24), (⟨"MixedMillModel", "mostOf", "()I"⟩, 24), (⟨"MixedMillModel", "earliest", "(III)V"⟩, 24), (⟨"MixedMillModel", "soonestOf", "(I)I"⟩, 24)]
theorem lw_r5 : ∀ q ∈ lw_privs_5, lw_okq q := List.forall_mem_cons.mpr ⟨lw_p64, List.forall_mem_cons.mpr ⟨lw_p65, List.forall_mem_cons.mpr ⟨lw_p66, List.forall_mem_cons.mpr ⟨lw_p67, List.forall_mem_cons.mpr ⟨lw_p68, List.forall_mem_cons.mpr ⟨lw_p69, List.forall_mem_cons.mpr ⟨lw_p70, List.forall_mem_cons.mpr ⟨lw_p71, List.forall_mem_cons.mpr ⟨lw_p72, List.forall_mem_cons.mpr ⟨lw_p73, List.forall_mem_cons.mpr ⟨lw_p74, List.forall_mem_cons.mpr ⟨lw_p75, List.forall_mem_cons.mpr ⟨lw_p76, List.forall_mem_cons.mpr ⟨lw_p77, List.forall_mem_cons.mpr ⟨lw_p78, List.forall_mem_cons.mpr ⟨lw_p79, fun _ h => absurd h List.not_mem_nil⟩⟩⟩⟩⟩⟩⟩⟩⟩⟩⟩⟩⟩⟩⟩⟩
theorem lw_p80 : lw_okq (⟨"MixedMillModel", "splits", "(I)I"⟩, 24) := ⟨⟨by decide +kernel, by decide +kernel⟩, List.mem_of_getElem? (i := 691) (by decide +kernel), List.mem_of_getElem? (i := 942) (by decide +kernel), List.mem_of_getElem? (i := 943) (by decide +kernel)⟩
theorem lw_p81 : lw_okq (⟨"MixedMillModel", "isPair", "(II)Z"⟩, 24) := ⟨⟨by decide +kernel, by decide +kernel⟩, List.mem_of_getElem? (i := 691) (by decide +kernel), List.mem_of_getElem? (i := 962) (by decide +kernel), List.mem_of_getElem? (i := 963) (by decide +kernel)⟩
theorem lw_p82 : lw_okq (⟨"MixedMillModel", "hasMany", "(I)I"⟩, 24) := ⟨⟨by decide +kernel, by decide +kernel⟩, List.mem_of_getElem? (i := 691) (by decide +kernel), List.mem_of_getElem? (i := 966) (by decide +kernel), List.mem_of_getElem? (i := 967) (by decide +kernel)⟩
theorem lw_p83 : lw_okq (⟨"MixedMillModel", "paired", "(II)I"⟩, 24) := ⟨⟨by decide +kernel, by decide +kernel⟩, List.mem_of_getElem? (i := 691) (by decide +kernel), List.mem_of_getElem? (i := 970) (by decide +kernel), List.mem_of_getElem? (i := 971) (by decide +kernel)⟩
theorem lw_p84 : lw_okq (⟨"MixedMillModel", "pours", "(I)V"⟩, 24) := ⟨⟨by decide +kernel, by decide +kernel⟩, List.mem_of_getElem? (i := 691) (by decide +kernel), List.mem_of_getElem? (i := 992) (by decide +kernel), List.mem_of_getElem? (i := 993) (by decide +kernel)⟩
theorem lw_p85 : lw_okq (⟨"MixedMillModel", "waits", "()I"⟩, 24) := ⟨⟨by decide +kernel, by decide +kernel⟩, List.mem_of_getElem? (i := 691) (by decide +kernel), List.mem_of_getElem? (i := 996) (by decide +kernel), List.mem_of_getElem? (i := 997) (by decide +kernel)⟩
theorem lw_p86 : lw_okq (⟨"MixedMillModel", "such", "(I)I"⟩, 24) := ⟨⟨by decide +kernel, by decide +kernel⟩, List.mem_of_getElem? (i := 691) (by decide +kernel), List.mem_of_getElem? (i := 1012) (by decide +kernel), List.mem_of_getElem? (i := 1013) (by decide +kernel)⟩
def lw_privs_6 : List (MethodName × Nat) := [(⟨"MixedMillModel", "splits", "(I)I"⟩, 24), (⟨"MixedMillModel", "isPair", "(II)Z"⟩, 24), (⟨"MixedMillModel", "hasMany", "(I)I"⟩, 24), (⟨"MixedMillModel", "paired", "(II)I"⟩, 24), (⟨"MixedMillModel", "pours", "(I)V"⟩, 24), (⟨"MixedMillModel", "waits", "()I"⟩, 24), (⟨"MixedMillModel", "such", "(I)I"⟩, 24)]
theorem lw_r6 : ∀ q ∈ lw_privs_6, lw_okq q := List.forall_mem_cons.mpr ⟨lw_p80, List.forall_mem_cons.mpr ⟨lw_p81, List.forall_mem_cons.mpr ⟨lw_p82, List.forall_mem_cons.mpr ⟨lw_p83, List.forall_mem_cons.mpr ⟨lw_p84, List.forall_mem_cons.mpr ⟨lw_p85, List.forall_mem_cons.mpr ⟨lw_p86, fun _ h => absurd h List.not_mem_nil⟩⟩⟩⟩⟩⟩⟩
def lw_privs : List (MethodName × Nat) := lw_privs_1 ++ (lw_privs_2 ++ (lw_privs_3 ++ (lw_privs_4 ++ (lw_privs_5 ++ (lw_privs_6)))))
def lw_tbl : List Cond := k2_sels lw_privs ++ tables_1
theorem lw_privs_ok : ∀ q ∈ lw_privs, lw_okq q := by
  show ∀ q ∈ lw_privs_1 ++ (lw_privs_2 ++ (lw_privs_3 ++ (lw_privs_4 ++ (lw_privs_5 ++ (lw_privs_6))))), lw_okq q
  exact List.forall_mem_append.mpr ⟨lw_r1, List.forall_mem_append.mpr ⟨lw_r2, List.forall_mem_append.mpr ⟨lw_r3, List.forall_mem_append.mpr ⟨lw_r4, List.forall_mem_append.mpr ⟨lw_r5, lw_r6⟩⟩⟩⟩⟩
def RX0 : String := "MixedMill$Ahead"
def TX0 : u_T := fun k => match k with
  | 0 => ("MixedMill$Ahead", "amount", "[I", true)
  | 1 => ("MixedMill$Ahead", "weight", "[I", true)
  | 2 => ("MixedMill$Ahead", "left", "[I", true)
  | 3 => ("MixedMill$Ahead", "indexes", "I", false)
  | _ => ("MixedMill$Ahead", "answers", "[I", false)
def tyX0 : Nat → FieldType := fun k => match k with
  | 0 => .array .int
  | 1 => .array .int
  | 2 => .array .int
  | 3 => .int
  | _ => .array .int
abbrev wsX00 : List Cond := u_ws RX0 TX0 5
theorem nmX0 : ∀ a, a < 5 → ∀ b, b < 5 → a ≠ b → (TX0 a).2.1 ≠ (TX0 b).2.1 := by decide +kernel
theorem tyX0_ok : ∀ k, k < 5 → parseFieldDescriptor (TX0 k).2.2.1 = some (tyX0 k) := by decide +kernel
abbrev cX0_init : ByteArray := prog_2_method_1_code
def yX0_init : MethodName := ⟨RX0, "<init>", "()V"⟩
abbrev cX0_takeNone : ByteArray := prog_2_method_2_code
def yX0_takeNone : MethodName := ⟨RX0, "takeNone", "()V"⟩
abbrev cX0_addOne : ByteArray := prog_2_method_3_code
def yX0_addOne : MethodName := ⟨RX0, "addOne", "(I)V"⟩
abbrev cX0_dropKind : ByteArray := prog_2_method_4_code
def yX0_dropKind : MethodName := ⟨RX0, "dropKind", "(I)V"⟩
abbrev cX0_takeAll : ByteArray := prog_2_method_5_code
def yX0_takeAll : MethodName := ⟨RX0, "takeAll", "(LMixedMill$Mill;)V"⟩
abbrev cX0_takeOwners : ByteArray := prog_2_method_6_code
def yX0_takeOwners : MethodName := ⟨RX0, "takeOwners", "(LMixedMill$Mill;II)V"⟩
abbrev cX0_takeGrown : ByteArray := prog_2_method_7_code
def yX0_takeGrown : MethodName := ⟨RX0, "takeGrown", "(LMixedMill$Mill;II)V"⟩
abbrev cX0_total : ByteArray := prog_2_method_8_code
def yX0_total : MethodName := ⟨RX0, "total", "()I"⟩
abbrev cX0_weigh : ByteArray := prog_2_method_9_code
def yX0_weigh : MethodName := ⟨RX0, "weigh", "()V"⟩
abbrev cX0_unfold : ByteArray := prog_2_method_10_code
def yX0_unfold : MethodName := ⟨RX0, "unfold", "(I)V"⟩
abbrev cX0_longest : ByteArray := prog_2_method_11_code
def yX0_longest : MethodName := ⟨RX0, "longest", "(LMixedMill$Mill;)I"⟩
abbrev cX0_countWays : ByteArray := prog_2_method_12_code
def yX0_countWays : MethodName := ⟨RX0, "countWays", "(LMixedMill$Mill;)I"⟩
abbrev cX0_fillAnswers : ByteArray := prog_2_method_13_code
def yX0_fillAnswers : MethodName := ⟨RX0, "fillAnswers", "(LMixedMill$Mill;Z)I"⟩
abbrev cX0_answer : ByteArray := prog_2_method_14_code
def yX0_answer : MethodName := ⟨RX0, "answer", "(IIIIZ)I"⟩
abbrev cX0_answerAt : ByteArray := prog_2_method_15_code
def yX0_answerAt : MethodName := ⟨RX0, "answerAt", "(II)I"⟩
abbrev cX0_rowSack : ByteArray := prog_2_method_16_code
def yX0_rowSack : MethodName := ⟨RX0, "rowSack", "(LMixedMill$Mill;I)I"⟩
abbrev cX0_nextInRow : ByteArray := prog_2_method_17_code
def yX0_nextInRow : MethodName := ⟨RX0, "nextInRow", "(LMixedMill$Mill;IIII)I"⟩
abbrev cX0_fewestHalvings : ByteArray := prog_2_method_18_code
def yX0_fewestHalvings : MethodName := ⟨RX0, "fewestHalvings", "(LMixedMill$Mill;)I"⟩
abbrev cX0_sizesBeside : ByteArray := prog_2_method_19_code
def yX0_sizesBeside : MethodName := ⟨RX0, "sizesBeside", "(LMixedMill$Mill;I)I"⟩
def RX1 : String := "MixedMill$Hours"
def TX1 : u_T := fun k => match k with
  | 0 => ("MixedMill$Hours", "sackAt", "[I", true)
  | 1 => ("MixedMill$Hours", "kind", "[I", true)
  | 2 => ("MixedMill$Hours", "size", "[I", true)
  | 3 => ("MixedMill$Hours", "comes", "[I", true)
  | 4 => ("MixedMill$Hours", "waiting", "I", false)
  | 5 => ("MixedMill$Hours", "sets", "I", false)
  | 6 => ("MixedMill$Hours", "rest", "[I", true)
  | 7 => ("MixedMill$Hours", "restCount", "I", false)
  | 8 => ("MixedMill$Hours", "least", "[I", false)
  | 9 => ("MixedMill$Hours", "here", "[I", false)
  | 10 => ("MixedMill$Hours", "there", "[I", false)
  | 11 => ("MixedMill$Hours", "bothDone", "I", false)
  | _ => ("MixedMill$Hours", "partHere", "I", false)
def tyX1 : Nat → FieldType := fun k => match k with
  | 0 => .array .int
  | 1 => .array .int
  | 2 => .array .int
  | 3 => .array .int
  | 4 => .int
  | 5 => .int
  | 6 => .array .int
  | 7 => .int
  | 8 => .array .int
  | 9 => .array .int
  | 10 => .array .int
  | 11 => .int
  | _ => .int
abbrev wsX10 : List Cond := u_ws RX1 TX1 13
theorem nmX1 : ∀ a, a < 13 → ∀ b, b < 13 → a ≠ b → (TX1 a).2.1 ≠ (TX1 b).2.1 := by decide +kernel
theorem tyX1_ok : ∀ k, k < 13 → parseFieldDescriptor (TX1 k).2.2.1 = some (tyX1 k) := by decide +kernel
abbrev cX1_init : ByteArray := prog_3_method_1_code
def yX1_init : MethodName := ⟨RX1, "<init>", "()V"⟩
abbrev cX1_soonest : ByteArray := prog_3_method_2_code
def yX1_soonest : MethodName := ⟨RX1, "soonest", "(LMixedMill$Mill;I)I"⟩
abbrev cX1_partBetweenTwo : ByteArray := prog_3_method_3_code
def yX1_partBetweenTwo : MethodName := ⟨RX1, "partBetweenTwo", "(LMixedMill$Mill;)Z"⟩
abbrev cX1_takeWaiting : ByteArray := prog_3_method_4_code
def yX1_takeWaiting : MethodName := ⟨RX1, "takeWaiting", "(LMixedMill$Mill;)V"⟩
abbrev cX1_sackBits : ByteArray := prog_3_method_5_code
def yX1_sackBits : MethodName := ⟨RX1, "sackBits", "(I)I"⟩
abbrev cX1_fillEnds : ByteArray := prog_3_method_6_code
def yX1_fillEnds : MethodName := ⟨RX1, "fillEnds", "(III[I)V"⟩
abbrev cX1_takeRest : ByteArray := prog_3_method_7_code
def yX1_takeRest : MethodName := ⟨RX1, "takeRest", "(I)V"⟩
abbrev cX1_pourOneMore : ByteArray := prog_3_method_8_code
def yX1_pourOneMore : MethodName := ⟨RX1, "pourOneMore", "(IIIII)V"⟩
def RX2 : String := "MixedMill$Mill"
def TX2 : u_T := fun k => match k with
  | 0 => ("MixedMill$Mill", "law", "I", false)
  | 1 => ("MixedMill$Mill", "price", "I", false)
  | 2 => ("MixedMill$Mill", "sacks", "I", false)
  | 3 => ("MixedMill$Mill", "kind", "[I", true)
  | 4 => ("MixedMill$Mill", "size", "[I", true)
  | 5 => ("MixedMill$Mill", "owner", "[I", true)
  | 6 => ("MixedMill$Mill", "comes", "[I", true)
  | 7 => ("MixedMill$Mill", "state", "[I", true)
  | 8 => ("MixedMill$Mill", "hour", "I", false)
  | 9 => ("MixedMill$Mill", "last", "I", false)
  | 10 => ("MixedMill$Mill", "before", "I", false)
  | _ => ("MixedMill$Mill", "spent", "I", false)
def tyX2 : Nat → FieldType := fun k => match k with
  | 0 => .int
  | 1 => .int
  | 2 => .int
  | 3 => .array .int
  | 4 => .array .int
  | 5 => .array .int
  | 6 => .array .int
  | 7 => .array .int
  | 8 => .int
  | 9 => .int
  | 10 => .int
  | _ => .int
abbrev wsX20 : List Cond := u_ws RX2 TX2 12
theorem nmX2 : ∀ a, a < 12 → ∀ b, b < 12 → a ≠ b → (TX2 a).2.1 ≠ (TX2 b).2.1 := by decide +kernel
theorem tyX2_ok : ∀ k, k < 12 → parseFieldDescriptor (TX2 k).2.2.1 = some (tyX2 k) := by decide +kernel
abbrev cX2_init : ByteArray := prog_4_method_1_code
def yX2_init : MethodName := ⟨RX2, "<init>", "()V"⟩
abbrev cX2_clear : ByteArray := prog_4_method_2_code
def yX2_clear : MethodName := ⟨RX2, "clear", "()V"⟩
abbrev cX2_copyFrom : ByteArray := prog_4_method_3_code
def yX2_copyFrom : MethodName := ⟨RX2, "copyFrom", "(LMixedMill$Mill;)V"⟩
abbrev cX2_add : ByteArray := prog_4_method_4_code
def yX2_add : MethodName := ⟨RX2, "add", "(IIII)V"⟩
abbrev cX2_has : ByteArray := prog_4_method_5_code
def yX2_has : MethodName := ⟨RX2, "has", "(I)Z"⟩
abbrev cX2_waits : ByteArray := prog_4_method_6_code
def yX2_waits : MethodName := ⟨RX2, "waits", "(I)Z"⟩
abbrev cX2_kindOf : ByteArray := prog_4_method_7_code
def yX2_kindOf : MethodName := ⟨RX2, "kindOf", "(I)I"⟩
abbrev cX2_fitsNow : ByteArray := prog_4_method_8_code
def yX2_fitsNow : MethodName := ⟨RX2, "fitsNow", "(I)Z"⟩
abbrev cX2_memoryNow : ByteArray := prog_4_method_9_code
def yX2_memoryNow : MethodName := ⟨RX2, "memoryNow", "()I"⟩
abbrev cX2_hourAfter : ByteArray := prog_4_method_10_code
def yX2_hourAfter : MethodName := ⟨RX2, "hourAfter", "(II)I"⟩
abbrev cX2_setPoured : ByteArray := prog_4_method_11_code
def yX2_setPoured : MethodName := ⟨RX2, "setPoured", "(I)V"⟩
abbrev cX2_part : ByteArray := prog_4_method_12_code
def yX2_part : MethodName := ⟨RX2, "part", "(II)V"⟩
abbrev cX2_howMany : ByteArray := prog_4_method_13_code
def yX2_howMany : MethodName := ⟨RX2, "howMany", "(I)I"⟩
abbrev cX2_isWaitedFor : ByteArray := prog_4_method_14_code
def yX2_isWaitedFor : MethodName := ⟨RX2, "isWaitedFor", "(I)Z"⟩
def RX3 : String := "MixedMill$Pairs"
def TX3 : u_T := fun k => match k with
  | 0 => ("MixedMill$Pairs", "pairable", "[Z", true)
  | 1 => ("MixedMill$Pairs", "partner", "[I", true)
  | 2 => ("MixedMill$Pairs", "best", "[I", true)
  | _ => ("MixedMill$Pairs", "bestCount", "I", false)
def tyX3 : Nat → FieldType := fun k => match k with
  | 0 => .array .boolean
  | 1 => .array .int
  | 2 => .array .int
  | _ => .int
abbrev wsX30 : List Cond := u_ws RX3 TX3 4
theorem nmX3 : ∀ a, a < 4 → ∀ b, b < 4 → a ≠ b → (TX3 a).2.1 ≠ (TX3 b).2.1 := by decide +kernel
theorem tyX3_ok : ∀ k, k < 4 → parseFieldDescriptor (TX3 k).2.2.1 = some (tyX3 k) := by decide +kernel
abbrev cX3_init : ByteArray := prog_5_method_1_code
def yX3_init : MethodName := ⟨RX3, "<init>", "()V"⟩
abbrev cX3_find : ByteArray := prog_5_method_2_code
def yX3_find : MethodName := ⟨RX3, "find", "(LMixedMill$Mill;LMixedMill$Ahead;)V"⟩
abbrev cX3_isPair : ByteArray := prog_5_method_3_code
def yX3_isPair : MethodName := ⟨RX3, "isPair", "(LMixedMill$Mill;LMixedMill$Ahead;II)Z"⟩
abbrev cX3_choose : ByteArray := prog_5_method_4_code
def yX3_choose : MethodName := ⟨RX3, "choose", "(II)V"⟩
abbrev cX3_partnerOf : ByteArray := prog_5_method_5_code
def yX3_partnerOf : MethodName := ⟨RX3, "partnerOf", "(I)I"⟩
def RX4 : String := "MixedMill$Reader"
def TX4 : u_T := fun k => match k with
  | 0 => ("MixedMill$Reader", "number", "[I", true)
  | _ => ("MixedMill$Reader", "place", "I", false)
def tyX4 : Nat → FieldType := fun k => match k with
  | 0 => .array .int
  | _ => .int
abbrev wsX40 : List Cond := u_ws RX4 TX4 2
theorem nmX4 : ∀ a, a < 2 → ∀ b, b < 2 → a ≠ b → (TX4 a).2.1 ≠ (TX4 b).2.1 := by decide +kernel
theorem tyX4_ok : ∀ k, k < 2 → parseFieldDescriptor (TX4 k).2.2.1 = some (tyX4 k) := by decide +kernel
abbrev cX4_init : ByteArray := prog_6_method_1_code
def yX4_init : MethodName := ⟨RX4, "<init>", "()V"⟩
abbrev cX4_read : ByteArray := prog_6_method_2_code
def yX4_read : MethodName := ⟨RX4, "read", "([BILMixedMill$Mill;)I"⟩
abbrev cX4_readItem : ByteArray := prog_6_method_3_code
def yX4_readItem : MethodName := ⟨RX4, "readItem", "([BILMixedMill$Mill;)Z"⟩
abbrev cX4_readNumbers : ByteArray := prog_6_method_4_code
def yX4_readNumbers : MethodName := ⟨RX4, "readNumbers", "([BII)Z"⟩
abbrev cX4_readNumber : ByteArray := prog_6_method_5_code
def yX4_readNumber : MethodName := ⟨RX4, "readNumber", "([BI)I"⟩
abbrev cX4_isFigure : ByteArray := prog_6_method_6_code
def yX4_isFigure : MethodName := ⟨RX4, "isFigure", "([BI)Z"⟩
abbrev cX4_isSign : ByteArray := prog_6_method_7_code
def yX4_isSign : MethodName := ⟨RX4, "isSign", "([BII)Z"⟩
abbrev cX4_takeSack : ByteArray := prog_6_method_8_code
def yX4_takeSack : MethodName := ⟨RX4, "takeSack", "(LMixedMill$Mill;)Z"⟩
abbrev cX4_takeLaw : ByteArray := prog_6_method_9_code
def yX4_takeLaw : MethodName := ⟨RX4, "takeLaw", "(LMixedMill$Mill;)Z"⟩
abbrev cX4_takePrice : ByteArray := prog_6_method_10_code
def yX4_takePrice : MethodName := ⟨RX4, "takePrice", "(LMixedMill$Mill;)Z"⟩
def RX5 : String := "MixedMill$Year"
def TX5 : u_T := fun k => match k with
  | 0 => ("MixedMill$Year", "law", "I", true)
  | 1 => ("MixedMill$Year", "putBy", "[I", true)
  | 2 => ("MixedMill$Year", "last", "I", false)
  | 3 => ("MixedMill$Year", "before", "I", false)
  | _ => ("MixedMill$Year", "poured", "I", false)
def tyX5 : Nat → FieldType := fun k => match k with
  | 0 => .int
  | 1 => .array .int
  | 2 => .int
  | 3 => .int
  | _ => .int
abbrev wsX50 : List Cond := u_ws RX5 TX5 5
theorem nmX5 : ∀ a, a < 5 → ∀ b, b < 5 → a ≠ b → (TX5 a).2.1 ≠ (TX5 b).2.1 := by decide +kernel
theorem tyX5_ok : ∀ k, k < 5 → parseFieldDescriptor (TX5 k).2.2.1 = some (tyX5 k) := by decide +kernel
abbrev cX5_init : ByteArray := prog_7_method_1_code
def yX5_init : MethodName := ⟨RX5, "<init>", "(I)V"⟩
abbrev cX5_bring : ByteArray := prog_7_method_2_code
def yX5_bring : MethodName := ⟨RX5, "bring", "(I)V"⟩
abbrev cX5_take : ByteArray := prog_7_method_3_code
def yX5_take : MethodName := ⟨RX5, "take", "(I)V"⟩
abbrev cX5_lowestPutBy : ByteArray := prog_7_method_4_code
def yX5_lowestPutBy : MethodName := ⟨RX5, "lowestPutBy", "()I"⟩
def RX6 : String := "MixedMill"
def TX6 : u_T := fun k => match k with
  | 0 => ("MixedMill", "text", "[B", true)
  | 1 => ("MixedMill", "textLength", "I", false)
  | 2 => ("MixedMill", "reader", "LMixedMill$Reader;", true)
  | 3 => ("MixedMill", "told", "LMixedMill$Mill;", true)
  | 4 => ("MixedMill", "mill", "LMixedMill$Mill;", true)
  | 5 => ("MixedMill", "past", "[LMixedMill$Mill;", true)
  | 6 => ("MixedMill", "pastCount", "I", false)
  | 7 => ("MixedMill", "kept", "[LMixedMill$Mill;", true)
  | 8 => ("MixedMill", "keptCount", "I", false)
  | 9 => ("MixedMill", "line", "[I", true)
  | 10 => ("MixedMill", "lineLength", "I", false)
  | 11 => ("MixedMill", "ahead", "LMixedMill$Ahead;", true)
  | 12 => ("MixedMill", "hours", "LMixedMill$Hours;", true)
  | _ => ("MixedMill", "pairs", "LMixedMill$Pairs;", true)
def tyX6 : Nat → FieldType := fun k => match k with
  | 0 => .array .byte
  | 1 => .int
  | 2 => .object "MixedMill$Reader"
  | 3 => .object "MixedMill$Mill"
  | 4 => .object "MixedMill$Mill"
  | 5 => .array (.object "MixedMill$Mill")
  | 6 => .int
  | 7 => .array (.object "MixedMill$Mill")
  | 8 => .int
  | 9 => .array .int
  | 10 => .int
  | 11 => .object "MixedMill$Ahead"
  | 12 => .object "MixedMill$Hours"
  | _ => .object "MixedMill$Pairs"
abbrev wsX60 : List Cond := u_ws RX6 TX6 14
theorem nmX6 : ∀ a, a < 14 → ∀ b, b < 14 → a ≠ b → (TX6 a).2.1 ≠ (TX6 b).2.1 := by decide +kernel
theorem tyX6_ok : ∀ k, k < 14 → parseFieldDescriptor (TX6 k).2.2.1 = some (tyX6 k) := by decide +kernel
abbrev cX6_init : ByteArray := prog_1_method_1_code
def yX6_init : MethodName := ⟨RX6, "<init>", "()V"⟩
abbrev cX6_write : ByteArray := prog_1_method_2_code
def yX6_write : MethodName := ⟨RX6, "write", "(IJ)I"⟩
abbrev cX6_wipe : ByteArray := prog_1_method_3_code
def yX6_wipe : MethodName := ⟨RX6, "wipe", "()I"⟩
abbrev cX6_fault : ByteArray := prog_1_method_4_code
def yX6_fault : MethodName := ⟨RX6, "fault", "()I"⟩
abbrev cX6_lay : ByteArray := prog_1_method_5_code
def yX6_lay : MethodName := ⟨RX6, "lay", "()I"⟩
abbrev cX6_sack : ByteArray := prog_1_method_6_code
def yX6_sack : MethodName := ⟨RX6, "sack", "(II)I"⟩
abbrev cX6_may : ByteArray := prog_1_method_7_code
def yX6_may : MethodName := ⟨RX6, "may", "(I)I"⟩
abbrev cX6_pour : ByteArray := prog_1_method_8_code
def yX6_pour : MethodName := ⟨RX6, "pour", "(I)I"⟩
abbrev cX6_halve : ByteArray := prog_1_method_9_code
def yX6_halve : MethodName := ⟨RX6, "halve", "(II)I"⟩
abbrev cX6_sell : ByteArray := prog_1_method_10_code
def yX6_sell : MethodName := ⟨RX6, "sell", "(I)I"⟩
abbrev cX6_undo : ByteArray := prog_1_method_11_code
def yX6_undo : MethodName := ⟨RX6, "undo", "()I"⟩
abbrev cX6_cost : ByteArray := prog_1_method_12_code
def yX6_cost : MethodName := ⟨RX6, "cost", "()I"⟩
abbrev cX6_remember : ByteArray := prog_1_method_13_code
def yX6_remember : MethodName := ⟨RX6, "remember", "()V"⟩
abbrev cX6_queue : ByteArray := prog_1_method_14_code
def yX6_queue : MethodName := ⟨RX6, "queue", "(I)I"⟩
abbrev cX6_noQueue : ByteArray := prog_1_method_15_code
def yX6_noQueue : MethodName := ⟨RX6, "noQueue", "()I"⟩
abbrev cX6_stops : ByteArray := prog_1_method_16_code
def yX6_stops : MethodName := ⟨RX6, "stops", "(I)I"⟩
abbrev cX6_isInLine : ByteArray := prog_1_method_17_code
def yX6_isInLine : MethodName := ⟨RX6, "isInLine", "(I)Z"⟩
abbrev cX6_stopPlace : ByteArray := prog_1_method_18_code
def yX6_stopPlace : MethodName := ⟨RX6, "stopPlace", "()I"⟩
abbrev cX6_stopsNowhere : ByteArray := prog_1_method_19_code
def yX6_stopsNowhere : MethodName := ⟨RX6, "stopsNowhere", "()Z"⟩
abbrev cX6_lineEnds : ByteArray := prog_1_method_20_code
def yX6_lineEnds : MethodName := ⟨RX6, "lineEnds", "()I"⟩
abbrev cX6_bread : ByteArray := prog_1_method_21_code
def yX6_bread : MethodName := ⟨RX6, "bread", "()I"⟩
abbrev cX6_orders : ByteArray := prog_1_method_22_code
def yX6_orders : MethodName := ⟨RX6, "orders", "()J"⟩
abbrev cX6_most : ByteArray := prog_1_method_23_code
def yX6_most : MethodName := ⟨RX6, "most", "(I)I"⟩
abbrev cX6_halvings : ByteArray := prog_1_method_24_code
def yX6_halvings : MethodName := ⟨RX6, "halvings", "()I"⟩
abbrev cX6_more : ByteArray := prog_1_method_25_code
def yX6_more : MethodName := ⟨RX6, "more", "(I)I"⟩
abbrev cX6_lacks : ByteArray := prog_1_method_26_code
def yX6_lacks : MethodName := ⟨RX6, "lacks", "(I)I"⟩
abbrev cX6_together : ByteArray := prog_1_method_27_code
def yX6_together : MethodName := ⟨RX6, "together", "(I)I"⟩
abbrev cX6_grows : ByteArray := prog_1_method_28_code
def yX6_grows : MethodName := ⟨RX6, "grows", "(I)I"⟩
abbrev cX6_twoMills : ByteArray := prog_1_method_29_code
def yX6_twoMills : MethodName := ⟨RX6, "twoMills", "(I)I"⟩
abbrev cX6_year : ByteArray := prog_1_method_30_code
def yX6_year : MethodName := ⟨RX6, "year", "(III)I"⟩
abbrev cX6_keep : ByteArray := prog_1_method_31_code
def yX6_keep : MethodName := ⟨RX6, "keep", "()I"⟩
abbrev cX6_back : ByteArray := prog_1_method_32_code
def yX6_back : MethodName := ⟨RX6, "back", "()I"⟩
abbrev cX6_count : ByteArray := prog_1_method_33_code
def yX6_count : MethodName := ⟨RX6, "count", "(I)I"⟩
abbrev cX6_drawnKind : ByteArray := prog_1_method_34_code
def yX6_drawnKind : MethodName := ⟨RX6, "drawnKind", "(II)I"⟩
abbrev cX6_isKind : ByteArray := prog_1_method_35_code
def yX6_isKind : MethodName := ⟨RX6, "isKind", "(I)Z"⟩
abbrev cX6_isOwner : ByteArray := prog_1_method_36_code
def yX6_isOwner : MethodName := ⟨RX6, "isOwner", "(I)Z"⟩
abbrev cX6_fits : ByteArray := prog_1_method_37_code
def yX6_fits : MethodName := ⟨RX6, "fits", "(III)Z"⟩
abbrev cX6_heldBefore : ByteArray := prog_1_method_38_code
def yX6_heldBefore : MethodName := ⟨RX6, "heldBefore", "(II)I"⟩
abbrev cX6_firstBefore : ByteArray := prog_1_method_39_code
def yX6_firstBefore : MethodName := ⟨RX6, "firstBefore", "(I)I"⟩
abbrev cX6_memoryOf : ByteArray := prog_1_method_40_code
def yX6_memoryOf : MethodName := ⟨RX6, "memoryOf", "(II)I"⟩
abbrev cX6_roomFor : ByteArray := prog_1_method_41_code
def yX6_roomFor : MethodName := ⟨RX6, "roomFor", "([II)[I"⟩
def RX7 : String := "MixedMillModel"
def TX7 : u_T := fun k => match k with
  | 0 => ("MixedMillModel", "length", "I", false)
  | 1 => ("MixedMillModel", "text", "[B", true)
  | 2 => ("MixedMillModel", "at", "I", false)
  | 3 => ("MixedMillModel", "told", "[I", true)
  | 4 => ("MixedMillModel", "sacks", "[I", true)
  | 5 => ("MixedMillModel", "sack", "[I", true)
  | 6 => ("MixedMillModel", "slot", "[I", true)
  | 7 => ("MixedMillModel", "kept", "I", false)
  | 8 => ("MixedMillModel", "done", "I", false)
  | 9 => ("MixedMillModel", "queued", "I", false)
  | 10 => ("MixedMillModel", "queue", "[I", true)
  | 11 => ("MixedMillModel", "when", "[I", true)
  | 12 => ("MixedMillModel", "other", "[I", true)
  | 13 => ("MixedMillModel", "own", "[I", true)
  | 14 => ("MixedMillModel", "best", "[I", true)
  | 15 => ("MixedMillModel", "bestMany", "I", false)
  | 16 => ("MixedMillModel", "many", "[I", true)
  | 17 => ("MixedMillModel", "base", "[I", true)
  | 18 => ("MixedMillModel", "mate", "[I", true)
  | 19 => ("MixedMillModel", "bestMate", "[I", true)
  | 20 => ("MixedMillModel", "got", "[I", true)
  | 21 => ("MixedMillModel", "table", "[J", true)
  | 22 => ("MixedMillModel", "yearLast", "I", false)
  | _ => ("MixedMillModel", "yearAhead", "I", false)
def tyX7 : Nat → FieldType := fun k => match k with
  | 0 => .int
  | 1 => .array .byte
  | 2 => .int
  | 3 => .array .int
  | 4 => .array .int
  | 5 => .array .int
  | 6 => .array .int
  | 7 => .int
  | 8 => .int
  | 9 => .int
  | 10 => .array .int
  | 11 => .array .int
  | 12 => .array .int
  | 13 => .array .int
  | 14 => .array .int
  | 15 => .int
  | 16 => .array .int
  | 17 => .array .int
  | 18 => .array .int
  | 19 => .array .int
  | 20 => .array .int
  | 21 => .array .long
  | 22 => .int
  | _ => .int
abbrev wsX70 : List Cond := u_ws RX7 TX7 24
theorem nmX7 : ∀ a, a < 24 → ∀ b, b < 24 → a ≠ b → (TX7 a).2.1 ≠ (TX7 b).2.1 := by decide +kernel
theorem tyX7_ok : ∀ k, k < 24 → parseFieldDescriptor (TX7 k).2.2.1 = some (tyX7 k) := by decide +kernel
abbrev cX7_init : ByteArray := prog_9_method_1_code
def yX7_init : MethodName := ⟨RX7, "<init>", "()V"⟩
abbrev cX7_in : ByteArray := prog_9_method_2_code
def yX7_in : MethodName := ⟨RX7, "in", "(JJJ)Z"⟩
abbrev cX7_write : ByteArray := prog_9_method_3_code
def yX7_write : MethodName := ⟨RX7, "write", "(IJ)I"⟩
abbrev cX7_wipe : ByteArray := prog_9_method_4_code
def yX7_wipe : MethodName := ⟨RX7, "wipe", "()I"⟩
abbrev cX7_number : ByteArray := prog_9_method_5_code
def yX7_number : MethodName := ⟨RX7, "number", "()I"⟩
abbrev cX7_isItem : ByteArray := prog_9_method_6_code
def yX7_isItem : MethodName := ⟨RX7, "isItem", "()Z"⟩
abbrev cX7_isGood : ByteArray := prog_9_method_7_code
def yX7_isGood : MethodName := ⟨RX7, "isGood", "(I)Z"⟩
abbrev cX7_begins : ByteArray := prog_9_method_8_code
def yX7_begins : MethodName := ⟨RX7, "begins", "()V"⟩
abbrev cX7_takes : ByteArray := prog_9_method_9_code
def yX7_takes : MethodName := ⟨RX7, "takes", "()V"⟩
abbrev cX7_fault : ByteArray := prog_9_method_10_code
def yX7_fault : MethodName := ⟨RX7, "fault", "()I"⟩
abbrev cX7_lay : ByteArray := prog_9_method_11_code
def yX7_lay : MethodName := ⟨RX7, "lay", "()I"⟩
abbrev cX7_isSack : ByteArray := prog_9_method_12_code
def yX7_isSack : MethodName := ⟨RX7, "isSack", "(I)Z"⟩
abbrev cX7_of : ByteArray := prog_9_method_13_code
def yX7_of : MethodName := ⟨RX7, "of", "(II)I"⟩
abbrev cX7_isWaiting : ByteArray := prog_9_method_14_code
def yX7_isWaiting : MethodName := ⟨RX7, "isWaiting", "(I)Z"⟩
abbrev cX7_sack : ByteArray := prog_9_method_15_code
def yX7_sack : MethodName := ⟨RX7, "sack", "(II)I"⟩
abbrev cX7_isMixed : ByteArray := prog_9_method_16_code
def yX7_isMixed : MethodName := ⟨RX7, "isMixed", "(III)Z"⟩
abbrev cX7_mayNow : ByteArray := prog_9_method_17_code
def yX7_mayNow : MethodName := ⟨RX7, "mayNow", "(I)Z"⟩
abbrev cX7_may : ByteArray := prog_9_method_18_code
def yX7_may : MethodName := ⟨RX7, "may", "(I)I"⟩
abbrev cX7_copies : ByteArray := prog_9_method_19_code
def yX7_copies : MethodName := ⟨RX7, "copies", "(II)V"⟩
abbrev cX7_known : ByteArray := prog_9_method_20_code
def yX7_known : MethodName := ⟨RX7, "known", "()V"⟩
abbrev cX7_ends : ByteArray := prog_9_method_21_code
def yX7_ends : MethodName := ⟨RX7, "ends", "(II)I"⟩
abbrev cX7_pour : ByteArray := prog_9_method_22_code
def yX7_pour : MethodName := ⟨RX7, "pour", "(I)I"⟩
abbrev cX7_halve : ByteArray := prog_9_method_23_code
def yX7_halve : MethodName := ⟨RX7, "halve", "(II)I"⟩
abbrev cX7_sell : ByteArray := prog_9_method_24_code
def yX7_sell : MethodName := ⟨RX7, "sell", "(I)I"⟩
abbrev cX7_undo : ByteArray := prog_9_method_25_code
def yX7_undo : MethodName := ⟨RX7, "undo", "()I"⟩
abbrev cX7_cost : ByteArray := prog_9_method_26_code
def yX7_cost : MethodName := ⟨RX7, "cost", "()I"⟩
abbrev cX7_queue : ByteArray := prog_9_method_27_code
def yX7_queue : MethodName := ⟨RX7, "queue", "(I)I"⟩
abbrev cX7_noQueue : ByteArray := prog_9_method_28_code
def yX7_noQueue : MethodName := ⟨RX7, "noQueue", "()I"⟩
abbrev cX7_stops : ByteArray := prog_9_method_29_code
def yX7_stops : MethodName := ⟨RX7, "stops", "(I)I"⟩
abbrev cX7_bread : ByteArray := prog_9_method_30_code
def yX7_bread : MethodName := ⟨RX7, "bread", "()I"⟩
abbrev cX7_counts : ByteArray := prog_9_method_31_code
def yX7_counts : MethodName := ⟨RX7, "counts", "()V"⟩
abbrev cX7_size : ByteArray := prog_9_method_32_code
def yX7_size : MethodName := ⟨RX7, "size", "()I"⟩
abbrev cX7_counted : ByteArray := prog_9_method_33_code
def yX7_counted : MethodName := ⟨RX7, "counted", "(I)V"⟩
abbrev cX7_step : ByteArray := prog_9_method_34_code
def yX7_step : MethodName := ⟨RX7, "step", "(I)I"⟩
abbrev cX7_orders : ByteArray := prog_9_method_35_code
def yX7_orders : MethodName := ⟨RX7, "orders", "()J"⟩
abbrev cX7_mostOf : ByteArray := prog_9_method_36_code
def yX7_mostOf : MethodName := ⟨RX7, "mostOf", "()I"⟩
abbrev cX7_earliest : ByteArray := prog_9_method_37_code
def yX7_earliest : MethodName := ⟨RX7, "earliest", "(III)V"⟩
abbrev cX7_soonestOf : ByteArray := prog_9_method_38_code
def yX7_soonestOf : MethodName := ⟨RX7, "soonestOf", "(I)I"⟩
abbrev cX7_bits : ByteArray := prog_9_method_39_code
def yX7_bits : MethodName := ⟨RX7, "bits", "(I)I"⟩
abbrev cX7_firstMost : ByteArray := prog_9_method_40_code
def yX7_firstMost : MethodName := ⟨RX7, "firstMost", "()V"⟩
abbrev cX7_most : ByteArray := prog_9_method_41_code
def yX7_most : MethodName := ⟨RX7, "most", "(I)I"⟩
abbrev cX7_halvings : ByteArray := prog_9_method_42_code
def yX7_halvings : MethodName := ⟨RX7, "halvings", "()I"⟩
abbrev cX7_splits : ByteArray := prog_9_method_43_code
def yX7_splits : MethodName := ⟨RX7, "splits", "(I)I"⟩
abbrev cX7_isKind : ByteArray := prog_9_method_44_code
def yX7_isKind : MethodName := ⟨RX7, "isKind", "(I)Z"⟩
abbrev cX7_more : ByteArray := prog_9_method_45_code
def yX7_more : MethodName := ⟨RX7, "more", "(I)I"⟩
abbrev cX7_lacks : ByteArray := prog_9_method_46_code
def yX7_lacks : MethodName := ⟨RX7, "lacks", "(I)I"⟩
abbrev cX7_hasMany : ByteArray := prog_9_method_47_code
def yX7_hasMany : MethodName := ⟨RX7, "hasMany", "(I)I"⟩
abbrev cX7_isPair : ByteArray := prog_9_method_48_code
def yX7_isPair : MethodName := ⟨RX7, "isPair", "(II)Z"⟩
abbrev cX7_together : ByteArray := prog_9_method_49_code
def yX7_together : MethodName := ⟨RX7, "together", "(I)I"⟩
abbrev cX7_paired : ByteArray := prog_9_method_50_code
def yX7_paired : MethodName := ⟨RX7, "paired", "(II)I"⟩
abbrev cX7_grows : ByteArray := prog_9_method_51_code
def yX7_grows : MethodName := ⟨RX7, "grows", "(I)I"⟩
abbrev cX7_twoMills : ByteArray := prog_9_method_52_code
def yX7_twoMills : MethodName := ⟨RX7, "twoMills", "(I)I"⟩
abbrev cX7_pours : ByteArray := prog_9_method_53_code
def yX7_pours : MethodName := ⟨RX7, "pours", "(I)V"⟩
abbrev cX7_waits : ByteArray := prog_9_method_54_code
def yX7_waits : MethodName := ⟨RX7, "waits", "()I"⟩
abbrev cX7_year : ByteArray := prog_9_method_55_code
def yX7_year : MethodName := ⟨RX7, "year", "(III)I"⟩
abbrev cX7_keep : ByteArray := prog_9_method_56_code
def yX7_keep : MethodName := ⟨RX7, "keep", "()I"⟩
abbrev cX7_back : ByteArray := prog_9_method_57_code
def yX7_back : MethodName := ⟨RX7, "back", "()I"⟩
abbrev cX7_such : ByteArray := prog_9_method_58_code
def yX7_such : MethodName := ⟨RX7, "such", "(I)I"⟩
abbrev cX7_count : ByteArray := prog_9_method_59_code
def yX7_count : MethodName := ⟨RX7, "count", "(I)I"⟩
def RJ6 : String := "java/lang/Integer"
def TJ6 : u_T := fun k => match k with
  | _ => ("", "", "", false)
def tyJ6 : Nat → FieldType := fun k => match k with
  | _ => .int
abbrev wsJ60 : List Cond := u_ws RJ6 TJ6 0
theorem nmJ6 : ∀ a, a < 0 → ∀ b, b < 0 → a ≠ b → (TJ6 a).2.1 ≠ (TJ6 b).2.1 := by decide +kernel
theorem tyJ6_ok : ∀ k, k < 0 → parseFieldDescriptor (TJ6 k).2.2.1 = some (tyJ6 k) := by decide +kernel
abbrev cJ6_bitCount_0f7a4 : ByteArray := prog_10_method_49_code
def yJ6_bitCount_0f7a4 : MethodName := ⟨RJ6, "bitCount", "(I)I"⟩
def RJ9 : String := "java/lang/Math"
def TJ9 : u_T := fun k => match k with
  | _ => ("", "", "", false)
def tyJ9 : Nat → FieldType := fun k => match k with
  | _ => .int
abbrev wsJ90 : List Cond := u_ws RJ9 TJ9 0
theorem nmJ9 : ∀ a, a < 0 → ∀ b, b < 0 → a ≠ b → (TJ9 a).2.1 ≠ (TJ9 b).2.1 := by decide +kernel
theorem tyJ9_ok : ∀ k, k < 0 → parseFieldDescriptor (TJ9 k).2.2.1 = some (tyJ9 k) := by decide +kernel
abbrev cJ9_max_7cf53 : ByteArray := prog_11_method_65_code
def yJ9_max_7cf53 : MethodName := ⟨RJ9, "max", "(II)I"⟩
abbrev cJ9_min_7cf53 : ByteArray := prog_11_method_69_code
def yJ9_min_7cf53 : MethodName := ⟨RJ9, "min", "(II)I"⟩
def RJ10 : String := "java/lang/System"
def TJ10 : u_T := fun k => match k with
  | _ => ("", "", "", false)
def tyJ10 : Nat → FieldType := fun k => match k with
  | _ => .int
abbrev wsJ100 : List Cond := u_ws RJ10 TJ10 0
theorem nmJ10 : ∀ a, a < 0 → ∀ b, b < 0 → a ≠ b → (TJ10 a).2.1 ≠ (TJ10 b).2.1 := by decide +kernel
theorem tyJ10_ok : ∀ k, k < 0 → parseFieldDescriptor (TJ10 k).2.2.1 = some (tyJ10 k) := by decide +kernel
def RJ7 : String := "java/util/Arrays"
def TJ7 : u_T := fun k => match k with
  | _ => ("", "", "", false)
def tyJ7 : Nat → FieldType := fun k => match k with
  | _ => .int
abbrev wsJ70 : List Cond := u_ws RJ7 TJ7 0
theorem nmJ7 : ∀ a, a < 0 → ∀ b, b < 0 → a ≠ b → (TJ7 a).2.1 ≠ (TJ7 b).2.1 := by decide +kernel
theorem tyJ7_ok : ∀ k, k < 0 → parseFieldDescriptor (TJ7 k).2.2.1 = some (tyJ7 k) := by decide +kernel
abbrev cJ7_fill_53178 : ByteArray := prog_13_method_103_code
def yJ7_fill_53178 : MethodName := ⟨RJ7, "fill", "([II)V"⟩
def RL : String := "MixedMillLaw"
abbrev cL_law : ByteArray := code
def yL_law : MethodName := ⟨RL, "law", "([I)Z"⟩
abbrev vwCl : List vw_C := [(RX0, TX0, 5), (RX1, TX1, 13), (RX2, TX2, 12), (RX3, TX3, 4), (RX4, TX4, 2), (RX5, TX5, 5), (RX6, TX6, 14), (RX7, TX7, 24)]
end
section
/-! ===== the abstract heap: cells at addresses counted from the law's start ===== -/
abbrev HE : Type := (Nat × Nat × ((Nat → Int32) ⊕ (Nat → Int64) ⊕ (Nat → Option Nat))) ⊕ (Nat × List Value)
abbrev Hp : Type := (Nat → HE) × Nat × Nat
abbrev hD : Type := (Nat → ClassId) × (Nat → Nat → Nat) × (Nat → ClassId) × Heap
abbrev aI (t n : Nat) (f : Nat → Int32) : HE := .inl (t, n, .inl f)
abbrev aL (n : Nat) (f : Nat → Int64) : HE := .inl (3, n, .inr (.inl f))
abbrev aR (n : Nat) (f : Nat → Option Nat) : HE := .inl (4, n, .inr (.inr f))
abbrev oB (ci : Nat) (fs : List Value) : HE := .inr (ci, fs)
def hz (D : hD) : Nat := D.2.2.2.size
def htot (H : Heap) : Nat := (H.toList.map (fun (c : Cell) => c.slots.size)).sum
def h_sh (z : Nat) (v : Value) : Value := match v with
  | .ref a => .ref (z + a)
  | v => v
def h_arr (D : hD) (t n : Nat) (f : Nat → Value) : Cell := arrV (D.2.2.1 t) n f
def h_cell (D : hD) (a : Nat) (e : HE) (H : Heap) : Prop := match e with
  | .inl (t, n, .inl f) => H[hz D + a]? = some (arrV (D.2.2.1 t) n (fun j => .int (f j)))
  | .inl (t, n, .inr (.inl f)) => H[hz D + a]? = some (arrV (D.2.2.1 t) n (fun j => .long (f j)))
  | .inl (t, n, .inr (.inr f)) => H[hz D + a]? = some (arrV (D.2.2.1 t) n (fun j => va_rf ((f j).map (hz D + ·))))
  | .inr (ci, fs) => ∃ r : vw_C, vwCl[ci]? = some r ∧ fs.length = r.2.2 ∧ t_OB (hz D + a) (D.1 ci) r.2.2 (D.2.1 ci) H (vp_V (fs.map (h_sh (hz D))))
theorem h_cell.kept {D : hD} {a : Nat} {e : HE} {H H1 : Heap} (h : h_cell D a e H) (hq : H1[hz D + a]? = H[hz D + a]?) : h_cell D a e H1 := by
  rcases e with ⟨t, n, f | f | f⟩ | ⟨ci, fs⟩
  · exact hq.trans h
  · exact hq.trans h
  · exact hq.trans h
  · obtain ⟨r, h1, h2, h3⟩ := h
    exact ⟨r, h1, h2, h3.kept hq⟩
/-- the heap H holds the abstract heap h, and below the start it is what it was -/
def h_R (D : hD) (h : Hp) (H : Heap) : Prop :=
  H.size = hz D + h.2.1 ∧ htot H = htot D.2.2.2 + h.2.2 ∧ h.2.1 ≤ 600000 ∧ h.2.2 ≤ 7302250 ∧ (∀ q : Nat, q < hz D → H[q]? = D.2.2.2[q]?) ∧ ∀ a : Nat, a < h.2.1 → h_cell D a (h.1 a) H
def h_tys : List FieldType := [.int, .byte, .boolean, .long, .object RX2]
def h_isNest : Cond → Bool
  | .fieldLinkNest _ _ _ _ _ _ => true
  | .methodLinkNest _ _ _ _ => true
  | _ => false
def h_nest : List Cond := lw_tbl.filter h_isNest
def h_tbl : List Cond := lw_tbl.filter goodWord
theorem h_tblm {w : Cond} (i : Nat) (h : lw_tbl[i]? = some w) (hg : goodWord w = true) : w ∈ h_tbl := List.mem_filter.mpr ⟨List.mem_of_getElem? h, hg⟩
theorem h_nestm {w : Cond} (i : Nat) (h : lw_tbl[i]? = some w) (hg : h_isNest w = true) : w ∈ h_nest := List.mem_filter.mpr ⟨List.mem_of_getElem? h, hg⟩
/-- what the tables say -/
def h_K (D : hD) (U : State) : Prop :=
  (∀ (c : Nat) (q : vw_C), vwCl[c]? = some q → u_Kn U q.1 q.2.1 q.2.2 (D.1 c) (D.2.1 c)) ∧ (∀ (t : Nat) (ty : FieldType), h_tys[t]? = some ty → ArrOfT U (D.2.2.1 t) ty ∧ va_RA U (D.2.2.1 t) ty) ∧ va_AO RX2 U ∧ ∀ w ∈ h_nest, va_Nw w U
theorem h_K.warm {D : hD} {s U : State} (hW : s.WarmedH U.vm) (h : h_K D s) : h_K D U := by
  obtain ⟨h1, h2, h3, h4⟩ := h
  refine ⟨fun c q hq => u_Kn_moved hW.alike (h1 c q hq), fun t ty ht => ⟨arrOfT_moved hW.alike (h2 t ty ht).1, (h2 t ty ht).2.moved hW.alike⟩, h3.moved hW.alike, fun w hw => ?_⟩
  have h5 := h4 w hw
  have h6 := (List.mem_filter.mp hw).2
  cases w with
  | fieldLinkNest a b c d e f => exact va_Nw.warmF hW h5
  | methodLinkNest a b c d => exact va_Nw.warmM hW h5
  | _ => cases h6
theorem h_K.calling {D : hD} {U : State} {g : JFrame} {mk : MethodId} {a : Array Value} (h : h_K D U) : h_K D (U.calling g mk a) := by
  obtain ⟨h1, h2, h3, h4⟩ := h
  have hal : U.vm.Alike (U.calling g mk a).vm := Vm.Alike.refl U.vm
  refine ⟨fun c q hq => u_Kn_moved hal (h1 c q hq), fun t ty ht => ⟨arrOfT_moved hal (h2 t ty ht).1, (h2 t ty ht).2.moved hal⟩, h3.moved hal, fun w hw => ?_⟩
  have h6 := (List.mem_filter.mp hw).2
  refine va_Nw.same (u := U) ?_ rfl (h4 w hw)
  cases w with
  | fieldLinkNest a b c d e f => rfl
  | methodLinkNest a b c d => rfl
  | _ => cases h6
/-! ===== counting slots ===== -/
theorem htot_eq {H H' : Heap} (hz : H'.size = H.size) (h : ∀ q : Nat, (H'[q]?).map (fun (c : Cell) => c.slots.size) = (H[q]?).map (fun (c : Cell) => c.slots.size)) : htot H' = htot H := by
  unfold htot
  congr 1
  apply List.ext_getElem?
  intro i
  simp only [List.getElem?_map, Array.getElem?_toList]
  exact h i
theorem htot_push {H H' : Heap} {x : Cell} (hz : H'.size = H.size + 1) (hx : H'[H.size]? = some x) (h : ∀ q : Nat, q < H.size → H'[q]? = H[q]?) : htot H' = htot H + x.slots.size := by
  have e : H' = H.push x := by
    apply Array.ext_getElem?
    intro i
    rw [Array.getElem?_push]
    by_cases hi : i = H.size
    · rw [if_pos hi, hi]; exact hx
    · rw [if_neg hi]
      by_cases hl : i < H.size
      · exact h i hl
      · rw [Array.getElem?_eq_none (by omega), Array.getElem?_eq_none (by omega)]
  subst e
  simp [htot]
theorem htot_drop {H0 H : Heap} (hle : H0.size ≤ H.size) (h : ∀ (a : Nat) (c : Cell), H0[a]? = some c → ∃ c', H[a]? = some c' ∧ c'.slots.size = c.slots.size) :
    ((H.toList.drop H0.size).map (fun (c : Cell) => c.slots.size)).sum = htot H - htot H0 ∧ htot H0 ≤ htot H := by
  have e1 : (H.toList.take H0.size).map (fun (c : Cell) => c.slots.size) = H0.toList.map (fun (c : Cell) => c.slots.size) := by
    apply List.ext_getElem?
    intro i
    simp only [List.getElem?_map, List.getElem?_take, Array.getElem?_toList]
    by_cases hi : i < H0.size
    · rw [if_pos hi]
      obtain ⟨c', h1, h2⟩ := h i (H0[i]) (by simp [hi])
      rw [h1]
      simp [hi, h2]
    · rw [if_neg hi, Array.getElem?_eq_none (by omega)]
  have e2 : htot H = ((H.toList.take H0.size).map (fun (c : Cell) => c.slots.size)).sum + ((H.toList.drop H0.size).map (fun (c : Cell) => c.slots.size)).sum := by
    unfold htot
    rw [← List.sum_append, ← List.map_append, List.take_append_drop]
  rw [e1] at e2
  unfold htot at e2 ⊢
  omega
section TIGHT
variable {p : Program} {l : Launch} {e : Env} {R : Room} {s : State} {m : MethodId} {args : Array Value} {below : List Frame} {meth : Method} {c : Code} {H : Heap} {locs : List Loc} {cells slots : Nat} {Q : State → Prop}
theorem stand_le {T : State} (X : Stand p l e R s m args below meth c T locs cells slots) : s.heap.size ≤ T.heap.size ∧ htot s.heap ≤ htot T.heap ∧ ((T.heap.toList.drop s.heap.size).map (fun (c : Cell) => c.slots.size)).sum = htot T.heap - htot s.heap := by
  obtain ⟨h1, h2, h3, h4, h5, h6⟩ := X.same
  have h7 := htot_drop (H0 := s.heap) (H := T.heap) h2 (fun a c hc => by
    obtain ⟨c', g1, g2, g3, -⟩ := h6 a c hc
    exact ⟨c', g1, g3⟩)
  exact ⟨h2, h7.2, h7.1⟩
/-- the counts may be set to what the heap itself shows -/
theorem W.tight {g : JFrame} (kk : s.heap.size ≤ H.size → htot s.heap ≤ htot H → W p l e R s m args below meth c H locs (H.size - s.heap.size) (htot H - htot s.heap) Q g) : W p l e R s m args below meth c H locs cells slots Q g := by
  intro T hT X
  obtain ⟨a1, a2, a3⟩ := stand_le X
  subst hT
  refine kk a1 a2 T rfl { X with same := ?_ }
  obtain ⟨h1, h2, h3, h4, h5, h6⟩ := X.same
  refine ⟨h1, h2, ?_, h4, ?_, h6⟩
  · show T.heap.size ≤ s.heap.size + (T.heap.size - s.heap.size)
    omega
  · show ((T.heap.toList.drop s.heap.size).map (fun (c : Cell) => c.slots.size)).sum ≤ _
    rw [a3]
    exact Nat.le_refl _
end TIGHT
end
section
/-! ===== the judgement J: at pc, with these locals and this stack (references relative), the function t tells what comes ===== -/
abbrev Bx : Type := Program × Launch × Env × Room × State × MethodId × Array Value × List Frame × Method × Code × hD
abbrev bP (B : Bx) : Program := B.1
abbrev bL (B : Bx) : Launch := B.2.1
abbrev bE (B : Bx) : Env := B.2.2.1
abbrev bR (B : Bx) : Room := B.2.2.2.1
abbrev bS (B : Bx) : State := B.2.2.2.2.1
abbrev bM (B : Bx) : MethodId := B.2.2.2.2.2.1
abbrev bA (B : Bx) : Array Value := B.2.2.2.2.2.2.1
abbrev bBel (B : Bx) : List Frame := B.2.2.2.2.2.2.2.1
abbrev bMe (B : Bx) : Method := B.2.2.2.2.2.2.2.2.1
abbrev bC (B : Bx) : Code := B.2.2.2.2.2.2.2.2.2.1
abbrev bD (B : Bx) : hD := B.2.2.2.2.2.2.2.2.2.2
abbrev WB (B : Bx) (H : Heap) (locs : List Loc) (cells slots : Nat) (Q : State → Prop) (g : JFrame) : Prop := W (bP B) (bL B) (bE B) (bR B) (bS B) (bM B) (bA B) (bBel B) (bMe B) (bC B) H locs cells slots Q g
abbrev shv (B : Bx) (st : List Value) : List Value := st.map (h_sh (hz (bD B)))
abbrev shl (B : Bx) (lv : List (Nat × Value)) : List (Nat × Value) := lv.map (fun q => (q.1, h_sh (hz (bD B)) q.2))
def J {ρ : Type} (B : Bx) (Qf : ρ → State → Prop) (t : Option ρ) (h : Hp) (pc : Nat) (lv : List (Nat × Value)) (st : List Value) : Prop :=
  ∀ r : ρ, t = some r → ∀ (H : Heap) (locs : List Loc) (ls : Array Slot), h_R (bD B) h H → (∀ q ∈ locs, hz (bD B) ≤ q.base) → lv_has ls (bC B).maxLocals (shl B lv) →
    WB B H locs (H.size - (bS B).heap.size) (htot H - htot (bS B).heap) (Qf r) (F0 (bM B) pc ls (shv B st))
/-- what is known in a method's body: its code, class, return type, the tables, where it began (n0 cells, s0 slots), its frames and words of stack -/
def Cx (B : Bx) (cc : ByteArray) (own : String) (ret : Option FieldType) (nL n0 s0 kF kL : Nat) : Prop :=
  (bP B).tables.exec = Jvm.exec ∧ (bC B).code = cc ∧ (bMe B).sig.returnType = ret ∧ (bC B).maxLocals = nL ∧ (bS B).vm.findClass own = some (bM B).cls ∧ (∀ w ∈ h_tbl, w.before (bA B) (bS B) = true) ∧ (bMe B).locks = false ∧ h_K (bD B) (bS B) ∧
  (bS B).heap.size = hz (bD B) + n0 ∧ htot (bS B).heap = htot (bD B).2.2.2 + s0 ∧ (bR B) = ⟨kF, 600000 - n0, 7302250 - s0, kL⟩
section JR
variable {ρ : Type} {B : Bx} {Qf : ρ → State → Prop} {t : Option ρ} {h : Hp} {pc pc' : Nat} {lv lv' : List (Nat × Value)} {st st' : List Value} {cc : ByteArray} {own : String} {ret : Option FieldType} {nL n0 s0 kF kL : Nat}
/-- an instruction that leaves heap and locals alone -/
theorem J.pure (hW : ∀ (H : Heap) (locs : List Loc) (cells slots : Nat) (Q : State → Prop) (ls : Array Slot), lv_has ls (bC B).maxLocals (shl B lv) → WB B H locs cells slots Q (F0 (bM B) pc' ls (shv B st')) → WB B H locs cells slots Q (F0 (bM B) pc ls (shv B st)))
    (k : J B Qf t h pc' lv st') : J B Qf t h pc lv st := fun r hr H locs ls hR hlo hls => hW H locs _ _ _ ls hls (k r hr H locs ls hR hlo hls)
theorem J.none : J B Qf none h pc lv st := fun r hr => by cases hr
theorem shl_at {lv : List (Nat × Value)} {k i : Nat} {v : Value} (hk : lv[k]? = some (i, v)) : (shl B lv)[k]? = some (i, h_sh (hz (bD B)) v) := by
  simp [shl, List.getElem?_map, hk]
theorem j_aload_n (C : Cx B cc own ret nL n0 s0 kF kL) {k : Fin 4} {i a : Nat} (d : decode cc pc = .ok (.aload_n k, 1)) (q : Nat) (hi : (k : Nat) = i) (hk : lv[q]? = some (i, .ref a)) (kk : J B Qf t h (pc + 1) lv (.ref a :: st)) : J B Qf t h pc lv st :=
  J.pure (fun H locs cells slots Q ls hls k => lv_aload_n C.1 C.2.1 d hi (lv_at hls q (shl_at hk)) k) kk
theorem j_aload (C : Cx B cc own ret nL n0 s0 kF kL) {i a : Nat} (d : decode cc pc = .ok (.aload i, 2)) (q : Nat) (hk : lv[q]? = some (i, .ref a)) (kk : J B Qf t h (pc + 2) lv (.ref a :: st)) : J B Qf t h pc lv st :=
  J.pure (fun H locs cells slots Q ls hls k => lv_aload C.1 C.2.1 d (lv_at hls q (shl_at hk)) k) kk
theorem j_iload_n (C : Cx B cc own ret nL n0 s0 kF kL) {k : Fin 4} {i : Nat} {x : Int32} (d : decode cc pc = .ok (.iload_n k, 1)) (q : Nat) (hi : (k : Nat) = i) (hk : lv[q]? = some (i, .int x)) (kk : J B Qf t h (pc + 1) lv (.int x :: st)) : J B Qf t h pc lv st :=
  J.pure (fun H locs cells slots Q ls hls k => lv_iload_n C.1 C.2.1 d hi (lv_at hls q (shl_at hk)) k) kk
theorem j_iload (C : Cx B cc own ret nL n0 s0 kF kL) {i : Nat} {x : Int32} (d : decode cc pc = .ok (.iload i, 2)) (q : Nat) (hk : lv[q]? = some (i, .int x)) (kk : J B Qf t h (pc + 2) lv (.int x :: st)) : J B Qf t h pc lv st :=
  J.pure (fun H locs cells slots Q ls hls k => lv_iload C.1 C.2.1 d (lv_at hls q (shl_at hk)) k) kk
theorem j_lload_n (C : Cx B cc own ret nL n0 s0 kF kL) {k : Fin 4} {i : Nat} {x : Int64} (d : decode cc pc = .ok (.lload_n k, 1)) (q : Nat) (hi : (k : Nat) = i) (hk : lv[q]? = some (i, .long x)) (kk : J B Qf t h (pc + 1) lv (.long x :: st)) : J B Qf t h pc lv st :=
  J.pure (fun H locs cells slots Q ls hls k => lv_lload_n C.1 C.2.1 d hi (lv_at hls q (shl_at hk)) k) kk
theorem j_lload (C : Cx B cc own ret nL n0 s0 kF kL) {i : Nat} {x : Int64} (d : decode cc pc = .ok (.lload i, 2)) (q : Nat) (hk : lv[q]? = some (i, .long x)) (kk : J B Qf t h (pc + 2) lv (.long x :: st)) : J B Qf t h pc lv st :=
  J.pure (fun H locs cells slots Q ls hls k => lv_lload C.1 C.2.1 d (lv_at hls q (shl_at hk)) k) kk
theorem j_iconst (C : Cx B cc own ret nL n0 s0 kF kL) {n : Int} (v : Int32) (d : decode cc pc = .ok (.iconst n, 1)) (hv : Int32.ofInt n = v) (kk : J B Qf t h (pc + 1) lv (.int v :: st)) : J B Qf t h pc lv st :=
  J.pure (fun H locs cells slots Q ls hls k => lv_iconst C.1 C.2.1 d hv k) kk
theorem j_bipush (C : Cx B cc own ret nL n0 s0 kF kL) {n : Int} (v : Int32) (d : decode cc pc = .ok (.bipush n, 2)) (hv : (Int8.ofInt n).toInt32 = v) (kk : J B Qf t h (pc + 2) lv (.int v :: st)) : J B Qf t h pc lv st :=
  J.pure (fun H locs cells slots Q ls hls k => lv_bipush C.1 C.2.1 d hv k) kk
theorem j_sipush (C : Cx B cc own ret nL n0 s0 kF kL) {n : Int} (v : Int32) (d : decode cc pc = .ok (.sipush n, 3)) (hv : (Int16.ofInt n).toInt32 = v) (kk : J B Qf t h (pc + 3) lv (.int v :: st)) : J B Qf t h pc lv st :=
  J.pure (fun H locs cells slots Q ls hls k => lv_sipush C.1 C.2.1 d hv k) kk
theorem j_lconst (C : Cx B cc own ret nL n0 s0 kF kL) {n : Fin 2} (v : Int64) (d : decode cc pc = .ok (.lconst n, 1)) (hv : Int64.ofNat (n : Nat) = v) (kk : J B Qf t h (pc + 1) lv (.long v :: st)) : J B Qf t h pc lv st :=
  J.pure (fun H locs cells slots Q ls hls k => lv_lconst C.1 C.2.1 d hv k) kk
theorem j_ldc (C : Cx B cc own ret nL n0 s0 kF kL) {i : Nat} {v : Int32} (d : decode cc pc = .ok (.ldc i, 2)) (hw : Cond.constant own i v ∈ h_tbl) (kk : J B Qf t h (pc + 2) lv (.int v :: st)) : J B Qf t h pc lv st :=
  J.pure (fun H locs cells slots Q ls hls k => lv_ldc C.1 C.2.1 C.2.2.2.2.1 (C.2.2.2.2.2.1 _ hw) d k) kk
theorem j_ldc_w (C : Cx B cc own ret nL n0 s0 kF kL) {i : Nat} {v : Int32} (d : decode cc pc = .ok (.ldc_w i, 3)) (hw : Cond.constant own i v ∈ h_tbl) (kk : J B Qf t h (pc + 3) lv (.int v :: st)) : J B Qf t h pc lv st :=
  J.pure (fun H locs cells slots Q ls hls k => lv_ldcw C.1 C.2.1 C.2.2.2.2.1 (C.2.2.2.2.2.1 _ hw) d k) kk
theorem j_ldc2_w (C : Cx B cc own ret nL n0 s0 kF kL) {i : Nat} {v : Int64} (d : decode cc pc = .ok (.ldc2_w i, 3)) (hw : Cond.constantLong own i v ∈ h_tbl) (kk : J B Qf t h (pc + 3) lv (.long v :: st)) : J B Qf t h pc lv st :=
  J.pure (fun H locs cells slots Q ls hls k => lv_ldc2 C.1 C.2.1 C.2.2.2.2.1 (C.2.2.2.2.2.1 _ hw) d k) kk
theorem j_iadd (C : Cx B cc own ret nL n0 s0 kF kL) {x y : Int32} (d : decode cc pc = .ok (.iadd, 1)) (kk : J B Qf t h (pc + 1) lv (.int (x + y) :: st)) : J B Qf t h pc lv (.int y :: .int x :: st) :=
  J.pure (fun H locs cells slots Q ls hls k => lv_iadd C.1 C.2.1 d k) kk
theorem j_isub (C : Cx B cc own ret nL n0 s0 kF kL) {x y : Int32} (d : decode cc pc = .ok (.isub, 1)) (kk : J B Qf t h (pc + 1) lv (.int (x - y) :: st)) : J B Qf t h pc lv (.int y :: .int x :: st) :=
  J.pure (fun H locs cells slots Q ls hls k => lv_isub C.1 C.2.1 d k) kk
theorem j_imul (C : Cx B cc own ret nL n0 s0 kF kL) {x y : Int32} (d : decode cc pc = .ok (.imul, 1)) (kk : J B Qf t h (pc + 1) lv (.int (x * y) :: st)) : J B Qf t h pc lv (.int y :: .int x :: st) :=
  J.pure (fun H locs cells slots Q ls hls k => lv_imul C.1 C.2.1 d k) kk
theorem j_iand (C : Cx B cc own ret nL n0 s0 kF kL) {x y : Int32} (d : decode cc pc = .ok (.iand, 1)) (kk : J B Qf t h (pc + 1) lv (.int (x &&& y) :: st)) : J B Qf t h pc lv (.int y :: .int x :: st) :=
  J.pure (fun H locs cells slots Q ls hls k => lv_iand C.1 C.2.1 d k) kk
theorem j_ior (C : Cx B cc own ret nL n0 s0 kF kL) {x y : Int32} (d : decode cc pc = .ok (.ior, 1)) (kk : J B Qf t h (pc + 1) lv (.int (x ||| y) :: st)) : J B Qf t h pc lv (.int y :: .int x :: st) :=
  J.pure (fun H locs cells slots Q ls hls k => lv_ior C.1 C.2.1 d k) kk
theorem j_ixor (C : Cx B cc own ret nL n0 s0 kF kL) {x y : Int32} (d : decode cc pc = .ok (.ixor, 1)) (kk : J B Qf t h (pc + 1) lv (.int (x ^^^ y) :: st)) : J B Qf t h pc lv (.int y :: .int x :: st) :=
  J.pure (fun H locs cells slots Q ls hls k => lv_ixor C.1 C.2.1 d k) kk
theorem j_ishl (C : Cx B cc own ret nL n0 s0 kF kL) {x y : Int32} (d : decode cc pc = .ok (.ishl, 1)) (kk : J B Qf t h (pc + 1) lv (.int (x <<< (y &&& 31)) :: st)) : J B Qf t h pc lv (.int y :: .int x :: st) :=
  J.pure (fun H locs cells slots Q ls hls k => lv_ishl C.1 C.2.1 d k) kk
theorem j_ishr (C : Cx B cc own ret nL n0 s0 kF kL) {x y : Int32} (d : decode cc pc = .ok (.ishr, 1)) (kk : J B Qf t h (pc + 1) lv (.int (x >>> (y &&& 31)) :: st)) : J B Qf t h pc lv (.int y :: .int x :: st) :=
  J.pure (fun H locs cells slots Q ls hls k => lv_ishr C.1 C.2.1 d k) kk
theorem j_iushr (C : Cx B cc own ret nL n0 s0 kF kL) {x y : Int32} (d : decode cc pc = .ok (.iushr, 1)) (kk : J B Qf t h (pc + 1) lv (.int (x.toUInt32 >>> (y.toUInt32 &&& Int32.toUInt32 31)).toInt32 :: st)) : J B Qf t h pc lv (.int y :: .int x :: st) :=
  J.pure (fun H locs cells slots Q ls hls k => lv_iushr C.1 C.2.1 d rfl k) kk
theorem j_ladd (C : Cx B cc own ret nL n0 s0 kF kL) {x y : Int64} (d : decode cc pc = .ok (.ladd, 1)) (kk : J B Qf t h (pc + 1) lv (.long (x + y) :: st)) : J B Qf t h pc lv (.long y :: .long x :: st) :=
  J.pure (fun H locs cells slots Q ls hls k => lv_ladd C.1 C.2.1 d k) kk
theorem j_lmul (C : Cx B cc own ret nL n0 s0 kF kL) {x y : Int64} (d : decode cc pc = .ok (.lmul, 1)) (kk : J B Qf t h (pc + 1) lv (.long (x * y) :: st)) : J B Qf t h pc lv (.long y :: .long x :: st) :=
  J.pure (fun H locs cells slots Q ls hls k => lv_lmul C.1 C.2.1 d k) kk
theorem j_land (C : Cx B cc own ret nL n0 s0 kF kL) {x y : Int64} (d : decode cc pc = .ok (.land, 1)) (kk : J B Qf t h (pc + 1) lv (.long (x &&& y) :: st)) : J B Qf t h pc lv (.long y :: .long x :: st) :=
  J.pure (fun H locs cells slots Q ls hls k => lv_land C.1 C.2.1 d k) kk
theorem j_lor (C : Cx B cc own ret nL n0 s0 kF kL) {x y : Int64} (d : decode cc pc = .ok (.lor, 1)) (kk : J B Qf t h (pc + 1) lv (.long (x ||| y) :: st)) : J B Qf t h pc lv (.long y :: .long x :: st) :=
  J.pure (fun H locs cells slots Q ls hls k => lv_lor C.1 C.2.1 d k) kk
theorem j_i2l (C : Cx B cc own ret nL n0 s0 kF kL) {x : Int32} (d : decode cc pc = .ok (.i2l, 1)) (kk : J B Qf t h (pc + 1) lv (.long x.toInt64 :: st)) : J B Qf t h pc lv (.int x :: st) :=
  J.pure (fun H locs cells slots Q ls hls k => lv_i2l C.1 C.2.1 d rfl k) kk
theorem j_l2i (C : Cx B cc own ret nL n0 s0 kF kL) {x : Int64} (d : decode cc pc = .ok (.l2i, 1)) (kk : J B Qf t h (pc + 1) lv (.int x.toInt32 :: st)) : J B Qf t h pc lv (.long x :: st) :=
  J.pure (fun H locs cells slots Q ls hls k => lv_l2i C.1 C.2.1 d rfl k) kk
theorem j_i2b (C : Cx B cc own ret nL n0 s0 kF kL) {x : Int32} (d : decode cc pc = .ok (.i2b, 1)) (kk : J B Qf t h (pc + 1) lv (.int x.toInt8.toInt32 :: st)) : J B Qf t h pc lv (.int x :: st) :=
  J.pure (fun H locs cells slots Q ls hls k => lv_i2b C.1 C.2.1 d rfl k) kk
theorem j_lshr (C : Cx B cc own ret nL n0 s0 kF kL) {x : Int64} {y : Int32} (d : decode cc pc = .ok (.lshr, 1)) (kk : J B Qf t h (pc + 1) lv (.long (x >>> (y.toInt64 &&& 63)) :: st)) : J B Qf t h pc lv (.int y :: .long x :: st) :=
  J.pure (fun H locs cells slots Q ls hls k => lv_lshr C.1 C.2.1 d rfl k) kk
theorem j_lshl (C : Cx B cc own ret nL n0 s0 kF kL) {x : Int64} {y : Int32} (d : decode cc pc = .ok (.lshl, 1)) (kk : J B Qf t h (pc + 1) lv (.long (x <<< (y.toInt64 &&& 63)) :: st)) : J B Qf t h pc lv (.int y :: .long x :: st) :=
  J.pure (fun H locs cells slots Q ls hls k => lv_lshl C.1 C.2.1 d rfl k) kk
theorem j_lcmp (C : Cx B cc own ret nL n0 s0 kF kL) {x y : Int64} (d : decode cc pc = .ok (.lcmp, 1)) (kk : J B Qf t h (pc + 1) lv (.int (lg_cmp x y) :: st)) : J B Qf t h pc lv (.long y :: .long x :: st) :=
  J.pure (fun H locs cells slots Q ls hls k => W.lcmp C.1 C.2.1 d k) kk
theorem j_dup (C : Cx B cc own ret nL n0 s0 kF kL) {v : Value} (d : decode cc pc = .ok (.dup, 1)) (hc : ∀ z, (h_sh z v).category = 1) (kk : J B Qf t h (pc + 1) lv (v :: v :: st)) : J B Qf t h pc lv (v :: st) :=
  J.pure (fun H locs cells slots Q ls hls k => lv_dup C.1 C.2.1 d (hc _) k) kk
theorem j_goto (C : Cx B cc own ret nL n0 s0 kF kL) {off : Int} (tgt : Nat) (d : decode cc pc = .ok (.goto off, 3)) (ht : (pc : Int) + off = (tgt : Int)) (kk : J B Qf t h tgt lv st) : J B Qf t h pc lv st :=
  J.pure (fun H locs cells slots Q ls hls k => lv_goto C.1 C.2.1 d ht k) kk
/-- a division: the divisor is looked at -/
theorem j_idiv (C : Cx B cc own ret nL n0 s0 kF kL) {x y : Int32} {u : Option ρ} (d : decode cc pc = .ok (.idiv, 1)) (kk : J B Qf u h (pc + 1) lv (.int (x / y) :: st)) : J B Qf (if y = 0 then none else u) h pc lv (.int y :: .int x :: st) := by
  intro r hr H locs ls hR hlo hls
  by_cases hy : y = 0
  · rw [if_pos hy] at hr; cases hr
  · rw [if_neg hy] at hr
    exact lv_idiv C.1 C.2.1 d hy (kk r hr H locs ls hR hlo hls)
theorem j_irem (C : Cx B cc own ret nL n0 s0 kF kL) {x y : Int32} {u : Option ρ} (d : decode cc pc = .ok (.irem, 1)) (kk : J B Qf u h (pc + 1) lv (.int (x - x / y * y) :: st)) : J B Qf (if y = 0 then none else u) h pc lv (.int y :: .int x :: st) := by
  intro r hr H locs ls hR hlo hls
  by_cases hy : y = 0
  · rw [if_pos hy] at hr; cases hr
  · rw [if_neg hy] at hr
    exact lv_irem C.1 C.2.1 d hy (kk r hr H locs ls hR hlo hls)
theorem j_lrem (C : Cx B cc own ret nL n0 s0 kF kL) {x y : Int64} {u : Option ρ} (d : decode cc pc = .ok (.lrem, 1)) (kk : J B Qf u h (pc + 1) lv (.long (x - x / y * y) :: st)) : J B Qf (if y = 0 then none else u) h pc lv (.long y :: .long x :: st) := by
  intro r hr H locs ls hR hlo hls
  by_cases hy : y = 0
  · rw [if_pos hy] at hr; cases hr
  · rw [if_neg hy] at hr
    exact lv_lrem C.1 C.2.1 d hy (kk r hr H locs ls hR hlo hls)
/-- the locals that are not needed any more are dropped -/
theorem J.sub (ks : List Nat) (hl : lv_pick lv ks = lv') (kk : J B Qf t h pc lv' st) : J B Qf t h pc lv st := by
  intro r hr H locs ls hR hlo hls
  refine kk r hr H locs ls hR hlo (lv_sub hls ks ?_)
  rw [← hl]
  simp only [lv_pick, shl, List.getElem?_map, List.map_filterMap]
/-! stores -/
theorem h_cat (z : Nat) (v : Value) : (h_sh z v).category = v.category := by cases v <;> rfl
theorem shl_filter {i : Nat} (f : Nat → Value → Bool) (hf : ∀ k z v, f k (h_sh z v) = f k v) : (shl B lv).filter (fun q => f q.1 q.2) = shl B (lv.filter (fun q => f q.1 q.2)) := by
  induction lv with
  | nil => rfl
  | cons x l ih =>
    simp only [shl, List.map_cons, List.filter_cons, hf] at ih ⊢
    split
    · rw [List.map_cons, ← ih]
    · rw [← ih]
theorem shl_put1 {i : Nat} {v : Value} (hl : (i, v) :: lv.filter (fun q => !(q.1 == i) && !(q.1 + 1 == i && q.2.category == 2)) = lv') : (i, h_sh (hz (bD B)) v) :: (shl B lv).filter (fun q => !(q.1 == i) && !(q.1 + 1 == i && q.2.category == 2)) = shl B lv' := by
  rw [← hl, shl_filter (i := i) (fun k v => !(k == i) && !(k + 1 == i && v.category == 2)) (fun k z v => by rw [h_cat])]
  rfl
theorem shl_put2 {i : Nat} {v : Value} (hl : (i, v) :: lv.filter (fun q => !(q.1 == i) && (!(q.1 == i + 1) && !(q.1 + 1 == i && q.2.category == 2))) = lv') : (i, h_sh (hz (bD B)) v) :: (shl B lv).filter (fun q => !(q.1 == i) && (!(q.1 == i + 1) && !(q.1 + 1 == i && q.2.category == 2))) = shl B lv' := by
  rw [← hl, shl_filter (i := i) (fun k v => !(k == i) && (!(k == i + 1) && !(k + 1 == i && v.category == 2))) (fun k z v => by rw [h_cat])]
  rfl
theorem j_istore_n (C : Cx B cc own ret nL n0 s0 kF kL) {k : Fin 4} {i : Nat} {x : Int32} (d : decode cc pc = .ok (.istore_n k, 1)) (hi : (k : Nat) = i) (hn : Nat.blt i nL = true) (hl : (i, Value.int x) :: lv.filter (fun q => !(q.1 == i) && !(q.1 + 1 == i && q.2.category == 2)) = lv') (kk : J B Qf t h (pc + 1) lv' st) : J B Qf t h pc lv (.int x :: st) :=
  fun r hr H locs ls hR hlo hls => lv_istore_n C.1 C.2.1 d hi hls (by rw [C.2.2.2.1]; simpa using hn) (shl_put1 (v := .int x) hl) (fun ls' hls' => kk r hr H locs ls' hR hlo hls')
theorem j_istore (C : Cx B cc own ret nL n0 s0 kF kL) {i : Nat} {x : Int32} (d : decode cc pc = .ok (.istore i, 2)) (hn : Nat.blt i nL = true) (hl : (i, Value.int x) :: lv.filter (fun q => !(q.1 == i) && !(q.1 + 1 == i && q.2.category == 2)) = lv') (kk : J B Qf t h (pc + 2) lv' st) : J B Qf t h pc lv (.int x :: st) :=
  fun r hr H locs ls hR hlo hls => lv_istore C.1 C.2.1 d hls (by rw [C.2.2.2.1]; simpa using hn) (shl_put1 (v := .int x) hl) (fun ls' hls' => kk r hr H locs ls' hR hlo hls')
theorem j_astore_n (C : Cx B cc own ret nL n0 s0 kF kL) {k : Fin 4} {i a : Nat} (d : decode cc pc = .ok (.astore_n k, 1)) (hi : (k : Nat) = i) (hn : Nat.blt i nL = true) (hl : (i, Value.ref a) :: lv.filter (fun q => !(q.1 == i) && !(q.1 + 1 == i && q.2.category == 2)) = lv') (kk : J B Qf t h (pc + 1) lv' st) : J B Qf t h pc lv (.ref a :: st) :=
  fun r hr H locs ls hR hlo hls => lv_astore_n C.1 C.2.1 d hi hls (by rw [C.2.2.2.1]; simpa using hn) (shl_put1 (v := .ref a) hl) (fun ls' hls' => kk r hr H locs ls' hR hlo hls')
theorem j_astore (C : Cx B cc own ret nL n0 s0 kF kL) {i a : Nat} (d : decode cc pc = .ok (.astore i, 2)) (hn : Nat.blt i nL = true) (hl : (i, Value.ref a) :: lv.filter (fun q => !(q.1 == i) && !(q.1 + 1 == i && q.2.category == 2)) = lv') (kk : J B Qf t h (pc + 2) lv' st) : J B Qf t h pc lv (.ref a :: st) :=
  fun r hr H locs ls hR hlo hls => lv_astore C.1 C.2.1 d hls (by rw [C.2.2.2.1]; simpa using hn) (shl_put1 (v := .ref a) hl) (fun ls' hls' => kk r hr H locs ls' hR hlo hls')
theorem j_lstore (C : Cx B cc own ret nL n0 s0 kF kL) {i : Nat} {x : Int64} (d : decode cc pc = .ok (.lstore i, 2)) (hn : Nat.blt (i + 1) nL = true) (hl : (i, Value.long x) :: lv.filter (fun q => !(q.1 == i) && (!(q.1 == i + 1) && !(q.1 + 1 == i && q.2.category == 2))) = lv') (kk : J B Qf t h (pc + 2) lv' st) : J B Qf t h pc lv (.long x :: st) :=
  fun r hr H locs ls hR hlo hls => lv_lstore C.1 C.2.1 d hls (by rw [C.2.2.2.1]; simpa using hn) (shl_put2 (v := .long x) hl) (fun ls' hls' => kk r hr H locs ls' hR hlo hls')
theorem j_lstore_n (C : Cx B cc own ret nL n0 s0 kF kL) {k : Fin 4} {i : Nat} {x : Int64} (d : decode cc pc = .ok (.lstore_n k, 1)) (hi : (k : Nat) = i) (hn : Nat.blt (i + 1) nL = true) (hl : (i, Value.long x) :: lv.filter (fun q => !(q.1 == i) && (!(q.1 == i + 1) && !(q.1 + 1 == i && q.2.category == 2))) = lv') (kk : J B Qf t h (pc + 1) lv' st) : J B Qf t h pc lv (.long x :: st) :=
  fun r hr H locs ls hR hlo hls => lv_lstore_n C.1 C.2.1 d hi hls (by rw [C.2.2.2.1]; simpa using hn) (shl_put2 (v := .long x) hl) (fun ls' hls' => kk r hr H locs ls' hR hlo hls')
theorem j_iinc (C : Cx B cc own ret nL n0 s0 kF kL) {i : Nat} {n : Int} {x : Int32} (y : Int32) (d : decode cc pc = .ok (.iinc i n, 3)) (q : Nat) (hk : lv[q]? = some (i, .int x)) (hy : Int32.ofInt n = y) (hn : Nat.blt i nL = true) (hl : (i, Value.int (x + y)) :: lv.filter (fun q => !(q.1 == i) && !(q.1 + 1 == i && q.2.category == 2)) = lv') (kk : J B Qf t h (pc + 3) lv' st) : J B Qf t h pc lv st :=
  fun r hr H locs ls hR hlo hls => lv_iinc (v := x + y) C.1 C.2.1 d hls (shl_at hk) (by rw [hy]) (by rw [C.2.2.2.1]; simpa using hn) (shl_put1 (v := .int (x + y)) hl) (fun ls' hls' => kk r hr H locs ls' hR hlo hls')
/-! branches -/
theorem J.ite {c : Prop} [Decidable c] {u v : Option ρ} (hW : ∀ (H : Heap) (locs : List Loc) (cells slots : Nat) (Q : State → Prop) (ls : Array Slot), lv_has ls (bC B).maxLocals (shl B lv) → (c → WB B H locs cells slots Q (F0 (bM B) pc' ls (shv B st'))) → (¬ c → WB B H locs cells slots Q (F0 (bM B) (pc + 3) ls (shv B st'))) → WB B H locs cells slots Q (F0 (bM B) pc ls (shv B st)))
    (kt : c → J B Qf u h pc' lv st') (kf : ¬ c → J B Qf v h (pc + 3) lv st') : J B Qf (if c then u else v) h pc lv st := by
  intro r hr H locs ls hR hlo hls
  refine hW H locs _ _ _ ls hls (fun hc => ?_) (fun hc => ?_)
  · rw [if_pos hc] at hr
    exact kt hc r hr H locs ls hR hlo hls
  · rw [if_neg hc] at hr
    exact kf hc r hr H locs ls hR hlo hls
theorem j_icmp_eq (C : Cx B cc own ret nL n0 s0 kF kL) {x y : Int32} {off : Int} (tgt : Nat) {u v : Option ρ} (d : decode cc pc = .ok (.if_icmp .eq off, 3)) (ht : (pc : Int) + off = (tgt : Int)) (kt : x = y → J B Qf u h tgt lv st) (kf : ¬ x = y → J B Qf v h (pc + 3) lv st) : J B Qf (if x = y then u else v) h pc lv (.int y :: .int x :: st) :=
  J.ite (fun H locs cells slots Q ls hls k1 k2 => lv_icmp_eq C.1 C.2.1 d ht k1 k2) kt kf
theorem j_icmp_ne (C : Cx B cc own ret nL n0 s0 kF kL) {x y : Int32} {off : Int} (tgt : Nat) {u v : Option ρ} (d : decode cc pc = .ok (.if_icmp .ne off, 3)) (ht : (pc : Int) + off = (tgt : Int)) (kt : ¬ x = y → J B Qf u h tgt lv st) (kf : x = y → J B Qf v h (pc + 3) lv st) : J B Qf (if x = y then v else u) h pc lv (.int y :: .int x :: st) := by
  intro r hr H locs ls hR hlo hls
  refine lv_icmp_ne C.1 C.2.1 d ht (fun hc => ?_) (fun hc => ?_)
  · rw [if_neg hc] at hr
    exact kt hc r hr H locs ls hR hlo hls
  · rw [if_pos hc] at hr
    exact kf hc r hr H locs ls hR hlo hls
theorem j_icmp_ge (C : Cx B cc own ret nL n0 s0 kF kL) {x y : Int32} {off : Int} (tgt : Nat) {u v : Option ρ} (d : decode cc pc = .ok (.if_icmp .ge off, 3)) (ht : (pc : Int) + off = (tgt : Int)) (kt : y ≤ x → J B Qf u h tgt lv st) (kf : ¬ y ≤ x → J B Qf v h (pc + 3) lv st) : J B Qf (if y ≤ x then u else v) h pc lv (.int y :: .int x :: st) :=
  J.ite (fun H locs cells slots Q ls hls k1 k2 => lv_icmp_ge C.1 C.2.1 d ht k1 k2) kt kf
theorem j_icmp_lt (C : Cx B cc own ret nL n0 s0 kF kL) {x y : Int32} {off : Int} (tgt : Nat) {u v : Option ρ} (d : decode cc pc = .ok (.if_icmp .lt off, 3)) (ht : (pc : Int) + off = (tgt : Int)) (kt : x < y → J B Qf u h tgt lv st) (kf : ¬ x < y → J B Qf v h (pc + 3) lv st) : J B Qf (if x < y then u else v) h pc lv (.int y :: .int x :: st) :=
  J.ite (fun H locs cells slots Q ls hls k1 k2 => lv_icmp_lt C.1 C.2.1 d ht k1 k2) kt kf
theorem j_icmp_gt (C : Cx B cc own ret nL n0 s0 kF kL) {x y : Int32} {off : Int} (tgt : Nat) {u v : Option ρ} (d : decode cc pc = .ok (.if_icmp .gt off, 3)) (ht : (pc : Int) + off = (tgt : Int)) (kt : y < x → J B Qf u h tgt lv st) (kf : ¬ y < x → J B Qf v h (pc + 3) lv st) : J B Qf (if y < x then u else v) h pc lv (.int y :: .int x :: st) :=
  J.ite (fun H locs cells slots Q ls hls k1 k2 => lv_icmp_gt C.1 C.2.1 d ht k1 k2) kt kf
theorem j_icmp_le (C : Cx B cc own ret nL n0 s0 kF kL) {x y : Int32} {off : Int} (tgt : Nat) {u v : Option ρ} (d : decode cc pc = .ok (.if_icmp .le off, 3)) (ht : (pc : Int) + off = (tgt : Int)) (kt : x ≤ y → J B Qf u h tgt lv st) (kf : ¬ x ≤ y → J B Qf v h (pc + 3) lv st) : J B Qf (if x ≤ y then u else v) h pc lv (.int y :: .int x :: st) :=
  J.ite (fun H locs cells slots Q ls hls k1 k2 => lv_icmp_le C.1 C.2.1 d ht k1 k2) kt kf
theorem j_if_eq (C : Cx B cc own ret nL n0 s0 kF kL) {x : Int32} {off : Int} (tgt : Nat) {u v : Option ρ} (d : decode cc pc = .ok (.ifCond .eq off, 3)) (ht : (pc : Int) + off = (tgt : Int)) (kt : x = 0 → J B Qf u h tgt lv st) (kf : ¬ x = 0 → J B Qf v h (pc + 3) lv st) : J B Qf (if x = 0 then u else v) h pc lv (.int x :: st) :=
  J.ite (fun H locs cells slots Q ls hls k1 k2 => lv_if_eq C.1 C.2.1 d ht k1 k2) kt kf
theorem j_if_ne (C : Cx B cc own ret nL n0 s0 kF kL) {x : Int32} {off : Int} (tgt : Nat) {u v : Option ρ} (d : decode cc pc = .ok (.ifCond .ne off, 3)) (ht : (pc : Int) + off = (tgt : Int)) (kt : ¬ x = 0 → J B Qf u h tgt lv st) (kf : x = 0 → J B Qf v h (pc + 3) lv st) : J B Qf (if x = 0 then v else u) h pc lv (.int x :: st) := by
  intro r hr H locs ls hR hlo hls
  refine lv_if_ne C.1 C.2.1 d ht (fun hc => ?_) (fun hc => ?_)
  · rw [if_neg hc] at hr
    exact kt hc r hr H locs ls hR hlo hls
  · rw [if_pos hc] at hr
    exact kf hc r hr H locs ls hR hlo hls
theorem j_if_ge (C : Cx B cc own ret nL n0 s0 kF kL) {x : Int32} {off : Int} (tgt : Nat) {u v : Option ρ} (d : decode cc pc = .ok (.ifCond .ge off, 3)) (ht : (pc : Int) + off = (tgt : Int)) (kt : 0 ≤ x → J B Qf u h tgt lv st) (kf : ¬ 0 ≤ x → J B Qf v h (pc + 3) lv st) : J B Qf (if 0 ≤ x then u else v) h pc lv (.int x :: st) :=
  J.ite (fun H locs cells slots Q ls hls k1 k2 => lv_if_ge C.1 C.2.1 d ht k1 k2) kt kf
theorem j_if_lt (C : Cx B cc own ret nL n0 s0 kF kL) {x : Int32} {off : Int} (tgt : Nat) {u v : Option ρ} (d : decode cc pc = .ok (.ifCond .lt off, 3)) (ht : (pc : Int) + off = (tgt : Int)) (kt : x < 0 → J B Qf u h tgt lv st) (kf : ¬ x < 0 → J B Qf v h (pc + 3) lv st) : J B Qf (if x < 0 then u else v) h pc lv (.int x :: st) :=
  J.ite (fun H locs cells slots Q ls hls k1 k2 => lv_if_lt C.1 C.2.1 d ht k1 k2) kt kf
theorem j_if_gt (C : Cx B cc own ret nL n0 s0 kF kL) {x : Int32} {off : Int} (tgt : Nat) {u v : Option ρ} (d : decode cc pc = .ok (.ifCond .gt off, 3)) (ht : (pc : Int) + off = (tgt : Int)) (kt : 0 < x → J B Qf u h tgt lv st) (kf : ¬ 0 < x → J B Qf v h (pc + 3) lv st) : J B Qf (if 0 < x then u else v) h pc lv (.int x :: st) :=
  J.ite (fun H locs cells slots Q ls hls k1 k2 => lv_if_gt C.1 C.2.1 d ht k1 k2) kt kf
theorem j_if_le (C : Cx B cc own ret nL n0 s0 kF kL) {x : Int32} {off : Int} (tgt : Nat) {u v : Option ρ} (d : decode cc pc = .ok (.ifCond .le off, 3)) (ht : (pc : Int) + off = (tgt : Int)) (kt : x ≤ 0 → J B Qf u h tgt lv st) (kf : ¬ x ≤ 0 → J B Qf v h (pc + 3) lv st) : J B Qf (if x ≤ 0 then u else v) h pc lv (.int x :: st) :=
  J.ite (fun H locs cells slots Q ls hls k1 k2 => lv_if_le C.1 C.2.1 d ht k1 k2) kt kf
end JR
end
section
/-! ===== what the instructions do to the abstract heap ===== -/
def bnd {α β : Type} (o : Option α) (k : α → Option β) : Option β := match o with
  | some a => k a
  | none => none
def bnd2 {α γ β : Type} (o : Option (α × γ)) (k : α → γ → Option β) : Option β := match o with
  | some a => k a.1 a.2
  | none => none
def hset (h : Hp) (a : Nat) (e : HE) : Hp := (fun b => if b = a then e else h.1 b, h.2)
def hnew (h : Hp) (e : HE) (n : Nat) : Hp := (fun b => if b = h.2.1 then e else h.1 b, h.2.1 + 1, h.2.2 + n)
def gO (h : Hp) (a ci : Nat) : Option (List Value) := if a < h.2.1 then (match h.1 a with
  | .inr (c, fs) => if c = ci then some fs else none
  | _ => none) else none
def isI (v : Option Value) : Option Int32 := match v with
  | some (.int x) => some x
  | _ => none
def isR (v : Option Value) : Option Nat := match v with
  | some (.ref x) => some x
  | _ => none
def gI (h : Hp) (a ci k : Nat) : Option Int32 := bnd (gO h a ci) fun fs => isI fs[k]?
def gR (h : Hp) (a ci k : Nat) : Option Nat := bnd (gO h a ci) fun fs => isR fs[k]?
def pF (h : Hp) (a ci k : Nat) (v : Value) : Option Hp := bnd (gO h a ci) fun fs => if k < fs.length then some (hset h a (.inr (ci, fs.set k v))) else none
def arI (h : Hp) (a t : Nat) : Option (Nat × (Nat → Int32)) := if a < h.2.1 then (match h.1 a with
  | .inl (t', n, .inl f) => if t' = t then some (n, f) else none
  | _ => none) else none
def arL (h : Hp) (a : Nat) : Option (Nat × (Nat → Int64)) := if a < h.2.1 then (match h.1 a with
  | .inl (t', n, .inr (.inl f)) => if t' = 3 then some (n, f) else none
  | _ => none) else none
def arR (h : Hp) (a : Nat) : Option (Nat × (Nat → Option Nat)) := if a < h.2.1 then (match h.1 a with
  | .inl (t', n, .inr (.inr f)) => if t' = 4 then some (n, f) else none
  | _ => none) else none
def nrw (t : Nat) (x : Int32) : Int32 := match t with
  | 1 => vp_nar .byte x
  | 2 => vp_nar .boolean x
  | _ => x
def ldI (t : Nat) (h : Hp) (a : Nat) (i : Int32) : Option Int32 := bnd2 (arI h a t) fun n f => if i < 0 ∨ n ≤ i.toNatClampNeg then none else some (f i.toNatClampNeg)
def stI (t : Nat) (h : Hp) (a : Nat) (i x : Int32) : Option Hp := bnd2 (arI h a t) fun n f => if i < 0 ∨ n ≤ i.toNatClampNeg then none else some (hset h a (aI t n (upd f i.toNatClampNeg (nrw t x))))
def ldL (h : Hp) (a : Nat) (i : Int32) : Option Int64 := bnd2 (arL h a) fun n f => if i < 0 ∨ n ≤ i.toNatClampNeg then none else some (f i.toNatClampNeg)
def stL (h : Hp) (a : Nat) (i : Int32) (x : Int64) : Option Hp := bnd2 (arL h a) fun n f => if i < 0 ∨ n ≤ i.toNatClampNeg then none else some (hset h a (aL n (vp_updL f i.toNatClampNeg x)))
def ldR (h : Hp) (a : Nat) (i : Int32) : Option Nat := bnd2 (arR h a) fun n f => if i < 0 ∨ n ≤ i.toNatClampNeg then none else f i.toNatClampNeg
def stR (h : Hp) (a : Nat) (i : Int32) (v : Nat) : Option Hp := bnd2 (arR h a) fun n f => bnd (gO h v 2) fun _ => if i < 0 ∨ n ≤ i.toNatClampNeg then none else some (hset h a (aR n (va_up f i.toNatClampNeg (some v))))
def aLn (h : Hp) (a : Nat) : Option Int32 := if a < h.2.1 then (match h.1 a with
  | .inl (t, n, _) => if t < 5 then some (Int32.ofNat n) else none
  | _ => none) else none
def nwO (h : Hp) (ci : Nat) (fs : List Value) : Option (Nat × Hp) := if h.2.1 + 1 ≤ 600000 ∧ h.2.2 + fs.length ≤ 7302250 then some (h.2.1, hnew h (.inr (ci, fs)) fs.length) else none
def nwI (t : Nat) (h : Hp) (n : Int32) : Option (Nat × Hp) := if n < 0 then none else if h.2.1 + 1 ≤ 600000 ∧ h.2.2 + n.toNatClampNeg ≤ 7302250 then some (h.2.1, hnew h (aI t n.toNatClampNeg (fun _ => 0)) n.toNatClampNeg) else none
def nwL (h : Hp) (n : Int32) : Option (Nat × Hp) := if n < 0 then none else if h.2.1 + 1 ≤ 600000 ∧ h.2.2 + n.toNatClampNeg ≤ 7302250 then some (h.2.1, hnew h (aL n.toNatClampNeg (fun _ => 0)) n.toNatClampNeg) else none
def nwR (h : Hp) (n : Int32) : Option (Nat × Hp) := if n < 0 then none else if h.2.1 + 1 ≤ 600000 ∧ h.2.2 + n.toNatClampNeg ≤ 7302250 then some (h.2.1, hnew h (aR n.toNatClampNeg (fun _ => none)) n.toNatClampNeg) else none
def cpI (h : Hp) (a0 : Nat) (sp : Int32) (a : Nat) (dp n : Int32) : Option Hp := bnd2 (arI h a0 0) fun n0 f => bnd2 (arI h a 0) fun n1 g =>
  if sp < 0 ∨ dp < 0 ∨ n < 0 ∨ n0 < sp.toNatClampNeg + n.toNatClampNeg ∨ n1 < dp.toNatClampNeg + n.toNatClampNeg then none else some (hset h a (aI 0 n1 (va_cpy f g sp.toNatClampNeg dp.toNatClampNeg n.toNatClampNeg)))
/-! ===== out of a function's success ===== -/
theorem bnd_some {α β : Type} {o : Option α} {k : α → Option β} {r : β} (h : bnd o k = some r) : ∃ a, o = some a ∧ k a = some r := by
  cases o with
  | none => cases h
  | some a => exact ⟨a, rfl, h⟩
theorem bnd2_some {α γ β : Type} {o : Option (α × γ)} {k : α → γ → Option β} {r : β} (h : bnd2 o k = some r) : ∃ a c, o = some (a, c) ∧ k a c = some r := by
  cases o with
  | none => cases h
  | some a => exact ⟨a.1, a.2, rfl, h⟩
theorem if_none {c : Prop} [Decidable c] {β : Type} {u : Option β} {r : β} (h : (if c then none else u) = some r) : ¬ c ∧ u = some r := by
  by_cases hc : c
  · rw [if_pos hc] at h; cases h
  · rw [if_neg hc] at h; exact ⟨hc, h⟩
theorem if_some {c : Prop} [Decidable c] {β : Type} {u : Option β} {r : β} (h : (if c then u else none) = some r) : c ∧ u = some r := by
  by_cases hc : c
  · rw [if_pos hc] at h; exact ⟨hc, h⟩
  · rw [if_neg hc] at h; cases h
theorem gO_some {h : Hp} {a ci : Nat} {fs : List Value} (e : gO h a ci = some fs) : a < h.2.1 ∧ h.1 a = .inr (ci, fs) := by
  obtain ⟨h1, h2⟩ := if_some e
  refine ⟨h1, ?_⟩
  split at h2
  · rename_i c fs' hx
    obtain ⟨h3, h4⟩ := if_some h2
    rw [hx, h3]; cases h4; rfl
  · cases h2
theorem arI_some {h : Hp} {a t n : Nat} {f : Nat → Int32} (e : arI h a t = some (n, f)) : a < h.2.1 ∧ h.1 a = aI t n f := by
  obtain ⟨h1, h2⟩ := if_some e
  refine ⟨h1, ?_⟩
  split at h2
  · rename_i c n' fs' hx
    obtain ⟨h3, h4⟩ := if_some h2
    rw [hx, h3]; cases h4; rfl
  · cases h2
theorem arL_some {h : Hp} {a n : Nat} {f : Nat → Int64} (e : arL h a = some (n, f)) : a < h.2.1 ∧ h.1 a = aL n f := by
  obtain ⟨h1, h2⟩ := if_some e
  refine ⟨h1, ?_⟩
  split at h2
  · rename_i c n' fs' hx
    obtain ⟨h3, h4⟩ := if_some h2
    rw [hx, h3]; cases h4; rfl
  · cases h2
theorem arR_some {h : Hp} {a n : Nat} {f : Nat → Option Nat} (e : arR h a = some (n, f)) : a < h.2.1 ∧ h.1 a = aR n f := by
  obtain ⟨h1, h2⟩ := if_some e
  refine ⟨h1, ?_⟩
  split at h2
  · rename_i c n' fs' hx
    obtain ⟨h3, h4⟩ := if_some h2
    rw [hx, h3]; cases h4; rfl
  · cases h2
theorem isI_some {v : Option Value} {x : Int32} (e : isI v = some x) : v = some (.int x) := by
  unfold isI at e
  split at e
  · cases e; rfl
  · cases e
theorem isR_some {v : Option Value} {x : Nat} (e : isR v = some x) : v = some (.ref x) := by
  unfold isR at e
  split at e
  · cases e; rfl
  · cases e
/-! ===== the heap relation under a store and under a making ===== -/
theorem h_R.set {D : hD} {h : Hp} {H H' : Heap} {a : Nat} {e : HE} (hR : h_R D h H) (ha : a < h.2.1) (z : H'.size = H.size) (oq : ∀ q : Nat, q ≠ hz D + a → H'[q]? = H[q]?) (hc : h_cell D a e H') (hs : (H'[hz D + a]?).map (fun (c : Cell) => c.slots.size) = (H[hz D + a]?).map (fun (c : Cell) => c.slots.size)) : h_R D (hset h a e) H' := by
  obtain ⟨r1, r2, r3, r4, r5, r6⟩ := hR
  refine ⟨z.trans r1, ?_, r3, r4, fun q hq => ?_, fun b hb => ?_⟩
  · rw [← show htot H = htot D.2.2.2 + (hset h a e).2.2 from r2]
    refine htot_eq z fun q => ?_
    by_cases hq : q = hz D + a
    · rw [hq]; exact hs
    · rw [oq q hq]
  · rw [oq q (by omega)]; exact r5 q hq
  · by_cases hba : b = a
    · subst hba
      simp only [hset, if_true]
      exact hc
    · simp only [hset, if_neg hba]
      exact (r6 b hb).kept (oq _ (by omega))
theorem h_R.push {D : hD} {h : Hp} {H H' : Heap} {e : HE} {n : Nat} {x : Cell} (hR : h_R D h H) (z : H'.size = H.size + 1) (oq : ∀ q : Nat, q < H.size → H'[q]? = H[q]?) (hx : H'[H.size]? = some x) (hn : x.slots.size = n) (hc : h_cell D h.2.1 e H') (l1 : h.2.1 + 1 ≤ 600000) (l2 : h.2.2 + n ≤ 7302250) : h_R D (hnew h e n) H' := by
  obtain ⟨r1, r2, r3, r4, r5, r6⟩ := hR
  refine ⟨?_, ?_, l1, l2, fun q hq => ?_, fun b hb => ?_⟩
  · show H'.size = hz D + (h.2.1 + 1)
    omega
  · show htot H' = htot D.2.2.2 + (h.2.2 + n)
    rw [htot_push z hx oq, hn, r2]; omega
  · rw [oq q (by omega)]; exact r5 q hq
  · by_cases hba : b = h.2.1
    · subst hba
      simp only [hnew, if_true]
      exact hc
    · simp only [hnew, if_neg hba]
      have hb' : b < h.2.1 + 1 := hb
      have hb2 : b < h.2.1 := by omega
      exact (r6 b hb2).kept (oq _ (by omega))
theorem h_R.at {D : hD} {h : Hp} {H : Heap} {a : Nat} {e : HE} (hR : h_R D h H) (ha : a < h.2.1) (he : h.1 a = e) : h_cell D a e H := by
  rw [← he]; exact hR.2.2.2.2.2 a ha
/-! ===== the classes' tables ===== -/
def h_ty (ci : Nat) : Nat → FieldType := match ci with
  | 0 => tyX0
  | 1 => tyX1
  | 2 => tyX2
  | 3 => tyX3
  | 4 => tyX4
  | 5 => tyX5
  | 6 => tyX6
  | _ => tyX7
def h_cl (ci : Nat) : vw_C := match ci with
  | 0 => (RX0, TX0, 5)
  | 1 => (RX1, TX1, 13)
  | 2 => (RX2, TX2, 12)
  | 3 => (RX3, TX3, 4)
  | 4 => (RX4, TX4, 2)
  | 5 => (RX5, TX5, 5)
  | 6 => (RX6, TX6, 14)
  | _ => (RX7, TX7, 24)
theorem h_cl_at {ci : Nat} (h : ci < 8) : vwCl[ci]? = some (h_cl ci) := by
  match ci, h with
  | 0, _ => rfl
  | 1, _ => rfl
  | 2, _ => rfl
  | 3, _ => rfl
  | 4, _ => rfl
  | 5, _ => rfl
  | 6, _ => rfl
  | 7, _ => rfl
theorem h_ty_ok {ci : Nat} (h : ci < 8) : ∀ k, k < (h_cl ci).2.2 → parseFieldDescriptor ((h_cl ci).2.1 k).2.2.1 = some (h_ty ci k) := by
  match ci, h with
  | 0, _ => exact tyX0_ok
  | 1, _ => exact tyX1_ok
  | 2, _ => exact tyX2_ok
  | 3, _ => exact tyX3_ok
  | 4, _ => exact tyX4_ok
  | 5, _ => exact tyX5_ok
  | 6, _ => exact tyX6_ok
  | 7, _ => exact tyX7_ok
theorem h_nm {ci : Nat} (h : ci < 8) : ∀ a, a < (h_cl ci).2.2 → ∀ b, b < (h_cl ci).2.2 → a ≠ b → ((h_cl ci).2.1 a).2.1 ≠ ((h_cl ci).2.1 b).2.1 := by
  match ci, h with
  | 0, _ => exact nmX0
  | 1, _ => exact nmX1
  | 2, _ => exact nmX2
  | 3, _ => exact nmX3
  | 4, _ => exact nmX4
  | 5, _ => exact nmX5
  | 6, _ => exact nmX6
  | 7, _ => exact nmX7
set_option maxRecDepth 100000 in
theorem h_in0 : (u_ws RX0 TX0 5 ++ u_ws RX1 TX1 13 ++ u_ws RX2 TX2 12 ++ u_ws RX3 TX3 4).all (fun w => decide (w ∈ lw_tbl) && goodWord w) = true := by decide +kernel
set_option maxRecDepth 100000 in
theorem h_in1 : (u_ws RX4 TX4 2 ++ u_ws RX5 TX5 5 ++ u_ws RX6 TX6 14 ++ u_ws RX7 TX7 24).all (fun w => decide (w ∈ lw_tbl) && goodWord w) = true := by decide +kernel
theorem h_in_of {ws : List Cond} (h : ws.all (fun w => decide (w ∈ lw_tbl) && goodWord w) = true) : ∀ w ∈ ws, w ∈ h_tbl := fun w hw => by
  have h1 := List.all_eq_true.mp h w hw
  simp only [Bool.and_eq_true, decide_eq_true_eq] at h1
  exact List.mem_filter.mpr h1
theorem h_in {ci : Nat} (h : ci < 8) : ∀ w ∈ u_ws (h_cl ci).1 (h_cl ci).2.1 (h_cl ci).2.2, w ∈ h_tbl := by
  have e0 := h_in_of h_in0
  have e1 := h_in_of h_in1
  match ci, h with
  | 0, _ => exact fun w hw => e0 w (List.mem_append_left _ (List.mem_append_left _ (List.mem_append_left _ hw)))
  | 1, _ => exact fun w hw => e0 w (List.mem_append_left _ (List.mem_append_left _ (List.mem_append_right _ hw)))
  | 2, _ => exact fun w hw => e0 w (List.mem_append_left _ (List.mem_append_right _ hw))
  | 3, _ => exact fun w hw => e0 w (List.mem_append_right _ hw)
  | 4, _ => exact fun w hw => e1 w (List.mem_append_left _ (List.mem_append_left _ (List.mem_append_left _ hw)))
  | 5, _ => exact fun w hw => e1 w (List.mem_append_left _ (List.mem_append_left _ (List.mem_append_right _ hw)))
  | 6, _ => exact fun w hw => e1 w (List.mem_append_left _ (List.mem_append_right _ hw))
  | 7, _ => exact fun w hw => e1 w (List.mem_append_right _ hw)
end
section
/-! ===== rows of J over the heap ===== -/
/-- the field k of class ci, as the entry idx of the class own names it -/
def FL (own : String) (idx ci k : Nat) : Prop := ci < 8 ∧ k < (h_cl ci).2.2 ∧ ((h_cl ci).2.1 k).1 = (h_cl ci).1 ∧
  (Cond.fieldLink own idx (h_cl ci).1 ((h_cl ci).2.1 k).2.1 ((h_cl ci).2.1 k).2.2.1 ∈ h_tbl ∨ ∃ host : String, Cond.fieldLinkNest own idx (h_cl ci).1 ((h_cl ci).2.1 k).2.1 ((h_cl ci).2.1 k).2.2.1 host ∈ h_nest)
def FVi (v : Value) : Prop := ∃ x : Int32, v = .int x
def FVr (v : Value) : Prop := ∃ x : Nat, v = .ref x
/-- it may be written with such values: not final -/
def FP (own : String) (idx ci k : Nat) (ok : Value → Prop) : Prop := FL own idx ci k ∧ ((h_cl ci).2.1 k).2.2.2 = false ∧ ∀ v, ok v → narrow (h_ty ci k) v = v ∧ fits (h_ty ci k) v = true
/-- final: in its own class's constructor -/
def FF (own : String) (idx ci k : Nat) (ok : Value → Prop) : Prop := ci < 8 ∧ k < (h_cl ci).2.2 ∧ ((h_cl ci).2.1 k).1 = own ∧ (h_cl ci).1 = own ∧ Cond.fieldLink own idx (h_cl ci).1 ((h_cl ci).2.1 k).2.1 ((h_cl ci).2.1 k).2.2.1 ∈ h_tbl ∧ ((h_cl ci).2.1 k).2.2.2 = true ∧ ∀ v, ok v → narrow (h_ty ci k) v = v ∧ fits (h_ty ci k) v = true
theorem FVr.sh {v : Value} (z : Nat) (h : FVr v) : FVr (h_sh z v) := by obtain ⟨x, rfl⟩ := h; exact ⟨z + x, rfl⟩
theorem FVi.sh {v : Value} (z : Nat) (h : FVi v) : FVi (h_sh z v) := by obtain ⟨x, rfl⟩ := h; exact ⟨x, rfl⟩
section HR
variable {ρ : Type} {B : Bx} {Qf : ρ → State → Prop} {t : Option ρ} {h : Hp} {pc pc' : Nat} {lv lv' : List (Nat × Value)} {st st' : List Value} {cc : ByteArray} {own : String} {ret : Option FieldType} {nL n0 s0 kF kL : Nat}
variable {H : Heap} {locs : List Loc} {cells slots : Nat} {Q : State → Prop} {ls : Array Slot} {rest : List Value}
theorem h_K.cls {D : hD} {s : State} (hK : h_K D s) {ci : Nat} (hci : ci < 8) : u_Kn s (h_cl ci).1 (h_cl ci).2.1 (h_cl ci).2.2 (D.1 ci) (D.2.1 ci) := hK.1 ci _ (h_cl_at hci)
theorem h_obj {D : hD} {a ci : Nat} {fs : List Value} (hci : ci < 8) (hc : h_cell D a (.inr (ci, fs)) H) : fs.length = (h_cl ci).2.2 ∧ t_OB (hz D + a) (D.1 ci) (h_cl ci).2.2 (D.2.1 ci) H (vp_V (fs.map (h_sh (hz D)))) := by
  obtain ⟨r, h1, h2, h3⟩ := hc
  have hr : r = h_cl ci := Option.some.inj (h1.symm.trans (h_cl_at hci))
  subst hr
  exact ⟨h2, h3⟩
theorem w_get (C : Cx B cc own ret nL n0 s0 kF kL) {idx ci k a : Nat} (F : FL own idx ci k) (hR : h_R (bD B) h H) {fs : List Value} (e : gO h a ci = some fs) {v : Value} (hv : fs[k]? = some v) (d : decode cc pc = .ok (.getfield idx, 3))
    (kk : WB B H locs cells slots Q (F0 (bM B) (pc + 3) ls (h_sh (hz (bD B)) v :: rest))) : WB B H locs cells slots Q (F0 (bM B) pc ls (.ref (hz (bD B) + a) :: rest)) := by
  obtain ⟨f1, f2, f3, f4⟩ := F
  obtain ⟨e1, e2⟩ := gO_some e
  obtain ⟨hx, hb, -, -, hown, hts, -, hK, -⟩ := C
  obtain ⟨hlen, cell, q1, q2, q3, q4⟩ := h_obj f1 (hR.at e1 e2)
  obtain ⟨hS, hfc, kC, hkC, hkind⟩ := hK.cls f1
  obtain ⟨cf, kf, fi, f, hi, hsl⟩ := hS k f2
  have hslot : cell.slots[f.slot]? = some (h_sh (hz (bD B)) v) := by
    rw [hsl, q4 k f2]
    simp [vp_V, hv]
  have hi' := hi
  rw [f3] at hi'
  have hst := (u_facts hfc hkC (u_lays hts (h_in f1) f2) hi).1
  rcases f4 with f4 | ⟨host, f4⟩
  · exact W.getf hx hb hown (hts _ f4) hi' hst q1 (by rw [q3]; exact fun h => by cases h) hslot rfl rfl d kk
  · exact va_Wgetf hx hb hown (va_Nw.use rfl (hK.2.2.2 _ f4)) hi' hst q1 (by rw [q3]; exact fun h => by cases h) hslot rfl rfl d kk
theorem j_getI (C : Cx B cc own ret nL n0 s0 kF kL) {idx ci k a : Nat} (F : FL own idx ci k) {u : Int32 → Option ρ} (d : decode cc pc = .ok (.getfield idx, 3)) (kk : ∀ x : Int32, J B Qf (u x) h (pc + 3) lv (.int x :: st)) : J B Qf (bnd (gI h a ci k) u) h pc lv (.ref a :: st) := by
  intro r hr H locs ls hR hlo hls
  obtain ⟨x, h1, h2⟩ := bnd_some hr
  obtain ⟨fs, h3, h4⟩ := bnd_some h1
  exact w_get C F hR h3 (isI_some h4) d (kk x r h2 H locs ls hR hlo hls)
theorem j_getR (C : Cx B cc own ret nL n0 s0 kF kL) {idx ci k a : Nat} (F : FL own idx ci k) {u : Nat → Option ρ} (d : decode cc pc = .ok (.getfield idx, 3)) (kk : ∀ x : Nat, J B Qf (u x) h (pc + 3) lv (.ref x :: st)) : J B Qf (bnd (gR h a ci k) u) h pc lv (.ref a :: st) := by
  intro r hr H locs ls hR hlo hls
  obtain ⟨x, h1, h2⟩ := bnd_some hr
  obtain ⟨fs, h3, h4⟩ := bnd_some h1
  exact w_get C F hR h3 (isR_some h4) d (kk x r h2 H locs ls hR hlo hls)
theorem locs_add {z a k : Nat} (hlo : ∀ q ∈ locs, z ≤ q.base) : ∀ q ∈ locs ++ [(⟨z + a, k⟩ : Loc)], z ≤ q.base := by
  intro q hq
  rcases List.mem_append.mp hq with h | h
  · exact hlo q h
  · rw [List.mem_singleton.mp h]; exact Nat.le_add_right _ _
theorem set_size {cell : Cell} {i : Nat} {v : Value} : (cell.setSlot i v).slots.size = cell.slots.size := by simp [Cell.setSlot]
theorem h_put {D : hD} {a ci k : Nat} {fs : List Value} {v : Value} {H' : Heap} {cell : Cell} (hci : ci < 8) (hk : k < (h_cl ci).2.2) (hlen : fs.length = (h_cl ci).2.2) (q2 : cell.cls = D.1 ci) (q3 : cell.vm = .none) (q4 : ∀ k, k < (h_cl ci).2.2 → cell.slots[D.2.1 ci k]? = some (vp_V (fs.map (h_sh (hz D))) k)) (hap : ∀ x y, x < (h_cl ci).2.2 → y < (h_cl ci).2.2 → x ≠ y → D.2.1 ci x ≠ D.2.1 ci y)
    (e1 : H'[hz D + a]? = some (cell.setSlot (D.2.1 ci k) (h_sh (hz D) v))) : h_cell D a (.inr (ci, fs.set k v)) H' := by
  refine ⟨h_cl ci, h_cl_at hci, by simp [hlen], ?_⟩
  refine t_OB.to (V := updV (vp_V (fs.map (h_sh (hz D)))) k (h_sh (hz D) v)) ⟨_, e1, q2, q3, t_set q4 hap hk _⟩ (fun j _ => ?_)
  rw [vp_updV_set (by simp; omega), List.map_set]
theorem h_apart {D : hD} {s : State} {args : Array Value} {ci : Nat} (hts : ∀ w ∈ h_tbl, w.before args s = true) (hK : h_K D s) (hci : ci < 8) : ∀ x y, x < (h_cl ci).2.2 → y < (h_cl ci).2.2 → x ≠ y → D.2.1 ci x ≠ D.2.1 ci y :=
  va_apart (own := "") (D := (D.1, D.2.1)) (cl := vwCl) (tys := []) hts (h_in hci) (h_ty ci) (h_ty_ok hci) (h_nm hci) ⟨hK.1, fun k q hq => by simp at hq⟩ (h_cl_at hci)
theorem j_put (C : Cx B cc own ret nL n0 s0 kF kL) {idx ci k a : Nat} {ok : Value → Prop} (F : FP own idx ci k ok) {u : Hp → Option ρ} {v : Value} (d : decode cc pc = .ok (.putfield idx, 3)) (hv : ok (h_sh (hz (bD B)) v)) (kk : ∀ h' : Hp, J B Qf (u h') h' (pc + 3) lv st) : J B Qf (bnd (pF h a ci k v) u) h pc lv (v :: .ref a :: st) := by
  intro r hr H locs ls hR hlo hls
  obtain ⟨h', h1, h2⟩ := bnd_some hr
  obtain ⟨fs, h3, h4⟩ := bnd_some h1
  obtain ⟨h5, h6⟩ := if_some h4
  cases h6
  obtain ⟨⟨f1, f2, f3, f4⟩, f5, f6⟩ := F
  obtain ⟨e1, e2⟩ := gO_some h3
  obtain ⟨hx, hb, -, -, hown, hts, -, hK, -⟩ := id C
  obtain ⟨hlen, cell, q1, q2, q3, q4⟩ := h_obj f1 (hR.at e1 e2)
  obtain ⟨hS, hfc, kC, hkC, hkind⟩ := hK.cls f1
  obtain ⟨cf, kf, fi, f, hi, hsl⟩ := hS k f2
  have hi' := hi
  rw [f3] at hi'
  have hlay := hts _ (h_in f1 _ (u_in_lay f2))
  unfold u_lay at hlay
  rw [if_neg (by rw [f5]; decide)] at hlay
  have hst := (u_facts hfc hkC (u_lays hts (h_in f1) f2) hi).1
  have h8 := u_store hfc hkC hkind hlay hi (h_ty_ok f1 k f2) (f6 _ hv).1 (f6 _ hv).2
  have fin : ∀ H' : Heap, H'[hz (bD B) + a]? = some (cell.setSlot f.slot (h_sh (hz (bD B)) v)) → H'.size = H.size → (∀ q, q ≠ hz (bD B) + a → H'[q]? = H[q]?) → WB B H' (locs ++ [⟨hz (bD B) + a, f.slot⟩]) (H.size - (bS B).heap.size) (htot H - htot (bS B).heap) (Qf r) (F0 (bM B) (pc + 3) ls (shv B st)) := by
    intro H' g1 g2 g3
    have hR' : h_R (bD B) (hset h a (.inr (ci, fs.set k v))) H' := hR.set e1 g2 g3 (h_put f1 f2 hlen q2 q3 q4 (h_apart hts hK f1) (by rw [← hsl]; exact g1)) (by rw [g1, q1]; simp [set_size])
    exact W.tight fun _ _ => kk _ r h2 H' _ ls hR' (locs_add hlo) hls
  rcases f4 with f4 | ⟨host, f4⟩
  · exact W.putK hx hb (f := f) ⟨hown, hts _ f4, ⟨_, _, _, hi'⟩, hst⟩ (by rw [q2]; exact h8) q1 q3 (by rw [hsl]; exact k2_hasslot (q4 k f2)) rfl rfl d fin
  · exact va_WputK hx hb (f := f) hown (va_Nw.use rfl (hK.2.2.2 _ f4)) hi' hst (by rw [q2]; exact h8) q1 q3 (by rw [hsl]; exact k2_hasslot (q4 k f2)) rfl rfl d fin
theorem j_putF (C : Cx B cc own ret nL n0 s0 kF kL) (hin : (bMe B).name = "<init>") {idx ci k a : Nat} {ok : Value → Prop} (F : FF own idx ci k ok) {u : Hp → Option ρ} {v : Value} (d : decode cc pc = .ok (.putfield idx, 3)) (hv : ok (h_sh (hz (bD B)) v)) (kk : ∀ h' : Hp, J B Qf (u h') h' (pc + 3) lv st) : J B Qf (bnd (pF h a ci k v) u) h pc lv (v :: .ref a :: st) := by
  intro r hr H locs ls hR hlo hls
  obtain ⟨h', h1, h2⟩ := bnd_some hr
  obtain ⟨fs, h3, h4⟩ := bnd_some h1
  obtain ⟨h5, h6⟩ := if_some h4
  cases h6
  obtain ⟨f1, f2, f3, f3', f4, f5, f6⟩ := F
  obtain ⟨e1, e2⟩ := gO_some h3
  obtain ⟨hx, hb, -, -, hown, hts, -, hK, -⟩ := id C
  obtain ⟨hlen, cell, q1, q2, q3, q4⟩ := h_obj f1 (hR.at e1 e2)
  obtain ⟨hS, hfc, kC, hkC, hkind⟩ := hK.cls f1
  obtain ⟨cf, kf, fi, f, hi, hsl⟩ := hS k f2
  have hi' := hi
  rw [f3, ← f3'] at hi'
  have hlay := hts _ (h_in f1 _ (u_in_lay f2))
  unfold u_lay at hlay
  rw [if_pos f5] at hlay
  have hst := (u_facts hfc hkC (u_lays hts (h_in f1) f2) hi).1
  have hcf : (bM B).cls = cf := by
    obtain ⟨_, _, c', _, _, _, -, -, hf', -, -, -, hown2, -⟩ := Cond.laysFinal_spec hlay
    have e1 : c' = cf := by have := hi.symm.trans hf'; simp at this; exact this.1.symm
    rw [f3] at hown2
    rw [← e1]; exact Option.some.inj (hown.symm.trans hown2)
  have h8 := u_fits hfc hkC hkind (Or.inr hlay) hi (h_ty_ok f1 k f2) (f6 _ hv).1 (f6 _ hv).2
  refine W.putFinK hx hb hown (hts _ f4) hi' hst hcf hin (by rw [q2]; exact h8) q1 q3 (by rw [hsl]; exact k2_hasslot (q4 k f2)) rfl rfl d ?_
  intro H' g1 g2 g3
  have hR' : h_R (bD B) (hset h a (.inr (ci, fs.set k v))) H' := hR.set e1 g2 g3 (h_put f1 f2 hlen q2 q3 q4 (h_apart hts hK f1) (by rw [← hsl]; exact g1)) (by rw [g1, q1]; simp [set_size])
  exact W.tight fun _ _ => kk _ r h2 H' _ ls hR' (locs_add hlo) hls
end HR
end
section
/-! ===== rows of J over arrays and makings ===== -/
section AR
variable {ρ : Type} {B : Bx} {Qf : ρ → State → Prop} {t : Option ρ} {h : Hp} {pc pc' : Nat} {lv lv' : List (Nat × Value)} {st st' : List Value} {cc : ByteArray} {own : String} {ret : Option FieldType} {nL n0 s0 kF kL : Nat}
variable {H : Heap} {locs : List Loc} {cells slots : Nat} {Q : State → Prop} {ls : Array Slot} {rest : List Value}
theorem h_K.arr {D : hD} {s : State} (hK : h_K D s) {t : Nat} {ty : FieldType} (ht : h_tys[t]? = some ty) (n : Nat) (z : Nat → Value) : s.isArrayOf (arrV (D.2.2.1 t) n z) ty := (hK.2.1 t ty ht).1 n z
theorem in_size {cA : ClassId} {n : Nat} {z : Nat → Value} {i : Int32} (hin : ¬ (i < 0 ∨ n ≤ i.toNatClampNeg)) : ¬ (i < 0 ∨ (arrV cA n z).slots.size ≤ i.toNatClampNeg) := by rw [arrV_size]; exact hin
theorem in_read {cA : ClassId} {n : Nat} {z : Nat → Value} {i : Int32} (hin : ¬ (i < 0 ∨ n ≤ i.toNatClampNeg)) : (arrV cA n z).slots[i.toNatClampNeg]? = some (z i.toNatClampNeg) := arrV_read _ _ (Nat.not_le.mp fun q => hin (Or.inr q))
theorem j_iaload (C : Cx B cc own ret nL n0 s0 kF kL) {a : Nat} {i : Int32} {u : Int32 → Option ρ} (d : decode cc pc = .ok (.iaload, 1)) (kk : ∀ x : Int32, J B Qf (u x) h (pc + 1) lv (.int x :: st)) : J B Qf (bnd (ldI 0 h a i) u) h pc lv (.int i :: .ref a :: st) := by
  intro r hr H locs ls hR hlo hls
  obtain ⟨x, h1, h2⟩ := bnd_some hr
  obtain ⟨n, f, h3, h4⟩ := bnd2_some h1
  obtain ⟨h5, h6⟩ := if_none h4
  cases h6
  obtain ⟨e1, e2⟩ := arI_some h3
  exact W.iald C.1 C.2.1 (hR.at e1 e2) (C.2.2.2.2.2.2.2.1.arr (t := 0) rfl _ _) (fun q => by cases q) (in_size h5) (in_read h5) rfl rfl d (kk _ r h2 H locs ls hR hlo hls)
theorem j_baload (C : Cx B cc own ret nL n0 s0 kF kL) {a : Nat} {i : Int32} {u : Int32 → Option ρ} (d : decode cc pc = .ok (.baload, 1)) (kk : ∀ x : Int32, J B Qf (u x) h (pc + 1) lv (.int x :: st)) : J B Qf (bnd (ldI 1 h a i) u) h pc lv (.int i :: .ref a :: st) := by
  intro r hr H locs ls hR hlo hls
  obtain ⟨x, h1, h2⟩ := bnd_some hr
  obtain ⟨n, f, h3, h4⟩ := bnd2_some h1
  obtain ⟨h5, h6⟩ := if_none h4
  cases h6
  obtain ⟨e1, e2⟩ := arI_some h3
  exact W.bald C.1 C.2.1 (hR.at e1 e2) (C.2.2.2.2.2.2.2.1.arr (t := 1) rfl _ _) (fun q => by cases q) (in_size h5) (in_read h5) rfl rfl d (kk _ r h2 H locs ls hR hlo hls)
theorem j_zaload (C : Cx B cc own ret nL n0 s0 kF kL) {a : Nat} {i : Int32} {u : Int32 → Option ρ} (d : decode cc pc = .ok (.baload, 1)) (kk : ∀ x : Int32, J B Qf (u x) h (pc + 1) lv (.int x :: st)) : J B Qf (bnd (ldI 2 h a i) u) h pc lv (.int i :: .ref a :: st) := by
  intro r hr H locs ls hR hlo hls
  obtain ⟨x, h1, h2⟩ := bnd_some hr
  obtain ⟨n, f, h3, h4⟩ := bnd2_some h1
  obtain ⟨h5, h6⟩ := if_none h4
  cases h6
  obtain ⟨e1, e2⟩ := arI_some h3
  exact W.zald C.1 C.2.1 (hR.at e1 e2) (C.2.2.2.2.2.2.2.1.arr (t := 2) rfl _ _) (fun q => by cases q) (in_size h5) (in_read h5) rfl rfl d (kk _ r h2 H locs ls hR hlo hls)
theorem j_laload (C : Cx B cc own ret nL n0 s0 kF kL) {a : Nat} {i : Int32} {u : Int64 → Option ρ} (d : decode cc pc = .ok (.laload, 1)) (kk : ∀ x : Int64, J B Qf (u x) h (pc + 1) lv (.long x :: st)) : J B Qf (bnd (ldL h a i) u) h pc lv (.int i :: .ref a :: st) := by
  intro r hr H locs ls hR hlo hls
  obtain ⟨x, h1, h2⟩ := bnd_some hr
  obtain ⟨n, f, h3, h4⟩ := bnd2_some h1
  obtain ⟨h5, h6⟩ := if_none h4
  cases h6
  obtain ⟨e1, e2⟩ := arL_some h3
  exact W.lald C.1 C.2.1 (hR.at e1 e2) (C.2.2.2.2.2.2.2.1.arr (t := 3) rfl _ _) (fun q => by cases q) (in_size h5) (in_read h5) rfl rfl d (kk _ r h2 H locs ls hR hlo hls)
theorem j_aaload (C : Cx B cc own ret nL n0 s0 kF kL) {a : Nat} {i : Int32} {u : Nat → Option ρ} (d : decode cc pc = .ok (.aaload, 1)) (kk : ∀ x : Nat, J B Qf (u x) h (pc + 1) lv (.ref x :: st)) : J B Qf (bnd (ldR h a i) u) h pc lv (.int i :: .ref a :: st) := by
  intro r hr H locs ls hR hlo hls
  obtain ⟨x, h1, h2⟩ := bnd_some hr
  obtain ⟨n, f, h3, h4⟩ := bnd2_some h1
  obtain ⟨h5, h6⟩ := if_none h4
  obtain ⟨e1, e2⟩ := arR_some h3
  have h7 := in_read (cA := (bD B).2.2.1 4) (z := fun j => va_rf ((f j).map (hz (bD B) + ·))) h5
  rw [h6] at h7
  exact W.aald (ty := .object RX2) C.1 C.2.1 (hR.at e1 e2) (C.2.2.2.2.2.2.2.1.arr (t := 4) rfl _ _) rfl (fun q => by cases q) (in_size h5) h7 rfl rfl d (kk _ r h2 H locs ls hR hlo hls)
theorem h_ast {D : hD} {s : State} {a t n : Nat} {f : Nat → Int32} {i x : Int32} {H' : Heap} (e1 : H'[hz D + a]? = some ((arrV (D.2.2.1 t) n (fun j => .int (f j))).setSlot i.toNatClampNeg (.int x))) : h_cell D a (aI t n (upd f i.toNatClampNeg x)) H' := by
  show H'[hz D + a]? = some (arrV _ _ _)
  rw [e1, arrV_store]
  congr 2
  funext q
  by_cases hq : q = i.toNatClampNeg
  · subst hq; simp [updV, upd]
  · simp [updV, upd, hq]
theorem h_astL {D : hD} {s : State} {a n : Nat} {f : Nat → Int64} {i : Int32} {x : Int64} {H' : Heap} (e1 : H'[hz D + a]? = some ((arrV (D.2.2.1 3) n (fun j => .long (f j))).setSlot i.toNatClampNeg (.long x))) : h_cell D a (aL n (vp_updL f i.toNatClampNeg x)) H' := by
  show H'[hz D + a]? = some (arrV _ _ _)
  rw [e1, arrV_store]
  congr 2
  funext q
  by_cases hq : q = i.toNatClampNeg
  · subst hq; simp [updV, vp_updL]
  · simp [updV, vp_updL, hq]
theorem h_astR {D : hD} {s : State} {a n v : Nat} {f : Nat → Option Nat} {i : Int32} {H' : Heap} (e1 : H'[hz D + a]? = some ((arrV (D.2.2.1 4) n (fun j => va_rf ((f j).map (hz D + ·)))).setSlot i.toNatClampNeg (.ref (hz D + v)))) : h_cell D a (aR n (va_up f i.toNatClampNeg (some v))) H' := by
  show H'[hz D + a]? = some (arrV _ _ _)
  rw [e1, arrV_store]
  congr 2
  funext q
  by_cases hq : q = i.toNatClampNeg
  · subst hq; simp [updV, va_up, va_rf]
  · simp [updV, va_up, hq]
theorem j_iastore (C : Cx B cc own ret nL n0 s0 kF kL) {a : Nat} {i x : Int32} {u : Hp → Option ρ} (d : decode cc pc = .ok (.iastore, 1)) (kk : ∀ h' : Hp, J B Qf (u h') h' (pc + 1) lv st) : J B Qf (bnd (stI 0 h a i x) u) h pc lv (.int x :: .int i :: .ref a :: st) := by
  intro r hr H locs ls hR hlo hls
  obtain ⟨h', h1, h2⟩ := bnd_some hr
  obtain ⟨n, f, h3, h4⟩ := bnd2_some h1
  obtain ⟨h5, h6⟩ := if_none h4
  cases h6
  obtain ⟨e1, e2⟩ := arI_some h3
  have hc := hR.at e1 e2
  refine W.iast C.1 C.2.1 hc (C.2.2.2.2.2.2.2.1.arr (t := 0) rfl _ _) (fun q => by cases q) (in_size h5) rfl rfl d fun H' g1 g2 g3 => ?_
  have hR' := hR.set e1 g2 g3 (h_ast (s := bS B) g1) (by rw [g1, show H[hz (bD B) + a]? = _ from hc]; simp [set_size])
  exact W.tight fun _ _ => kk _ r h2 H' _ ls hR' (locs_add hlo) hls
theorem nar_b (ty : FieldType) (hty : ∀ x : Int32, ∃ y : Int32, narrow ty (.int x) = .int y) (x : Int32) : narrow ty (.int x) = .int (vp_nar ty x) := by
  obtain ⟨y, hy⟩ := hty x
  unfold vp_nar
  rw [hy]
theorem j_bastore (C : Cx B cc own ret nL n0 s0 kF kL) {a : Nat} {i x : Int32} {u : Hp → Option ρ} (d : decode cc pc = .ok (.bastore, 1)) (kk : ∀ h' : Hp, J B Qf (u h') h' (pc + 1) lv st) : J B Qf (bnd (stI 1 h a i x) u) h pc lv (.int x :: .int i :: .ref a :: st) := by
  intro r hr H locs ls hR hlo hls
  obtain ⟨h', h1, h2⟩ := bnd_some hr
  obtain ⟨n, f, h3, h4⟩ := bnd2_some h1
  obtain ⟨h5, h6⟩ := if_none h4
  cases h6
  obtain ⟨e1, e2⟩ := arI_some h3
  have hc := hR.at e1 e2
  refine W.bast C.1 C.2.1 hc (C.2.2.2.2.2.2.2.1.arr (t := 1) rfl _ _) (fun q => by cases q) (in_size h5) rfl rfl d fun H' g1 g2 g3 => ?_
  rw [nar_b .byte (fun x => ⟨_, rfl⟩)] at g1
  have hR' := hR.set e1 g2 g3 (h_ast (s := bS B) g1) (by rw [g1, show H[hz (bD B) + a]? = _ from hc]; simp [set_size])
  exact W.tight fun _ _ => kk _ r h2 H' _ ls hR' (locs_add hlo) hls
theorem j_zastore (C : Cx B cc own ret nL n0 s0 kF kL) {a : Nat} {i x : Int32} {u : Hp → Option ρ} (d : decode cc pc = .ok (.bastore, 1)) (kk : ∀ h' : Hp, J B Qf (u h') h' (pc + 1) lv st) : J B Qf (bnd (stI 2 h a i x) u) h pc lv (.int x :: .int i :: .ref a :: st) := by
  intro r hr H locs ls hR hlo hls
  obtain ⟨h', h1, h2⟩ := bnd_some hr
  obtain ⟨n, f, h3, h4⟩ := bnd2_some h1
  obtain ⟨h5, h6⟩ := if_none h4
  cases h6
  obtain ⟨e1, e2⟩ := arI_some h3
  have hc := hR.at e1 e2
  refine W.zast C.1 C.2.1 hc (C.2.2.2.2.2.2.2.1.arr (t := 2) rfl _ _) (fun q => by cases q) (in_size h5) rfl rfl d fun H' g1 g2 g3 => ?_
  rw [nar_b .boolean (fun x => ⟨_, rfl⟩)] at g1
  have hR' := hR.set e1 g2 g3 (h_ast (s := bS B) g1) (by rw [g1, show H[hz (bD B) + a]? = _ from hc]; simp [set_size])
  exact W.tight fun _ _ => kk _ r h2 H' _ ls hR' (locs_add hlo) hls
theorem j_lastore (C : Cx B cc own ret nL n0 s0 kF kL) {a : Nat} {i : Int32} {x : Int64} {u : Hp → Option ρ} (d : decode cc pc = .ok (.lastore, 1)) (kk : ∀ h' : Hp, J B Qf (u h') h' (pc + 1) lv st) : J B Qf (bnd (stL h a i x) u) h pc lv (.long x :: .int i :: .ref a :: st) := by
  intro r hr H locs ls hR hlo hls
  obtain ⟨h', h1, h2⟩ := bnd_some hr
  obtain ⟨n, f, h3, h4⟩ := bnd2_some h1
  obtain ⟨h5, h6⟩ := if_none h4
  cases h6
  obtain ⟨e1, e2⟩ := arL_some h3
  have hc := hR.at e1 e2
  refine W.last C.1 C.2.1 hc (C.2.2.2.2.2.2.2.1.arr (t := 3) rfl _ _) (fun q => by cases q) (in_size h5) rfl rfl d fun H' g1 g2 g3 => ?_
  have hR' := hR.set e1 g2 g3 (h_astL (s := bS B) g1) (by rw [g1, show H[hz (bD B) + a]? = _ from hc]; simp [set_size])
  exact W.tight fun _ _ => kk _ r h2 H' _ ls hR' (locs_add hlo) hls
theorem j_aastore (C : Cx B cc own ret nL n0 s0 kF kL) {a v : Nat} {i : Int32} {u : Hp → Option ρ} (d : decode cc pc = .ok (.aastore, 1)) (kk : ∀ h' : Hp, J B Qf (u h') h' (pc + 1) lv st) : J B Qf (bnd (stR h a i v) u) h pc lv (.ref v :: .int i :: .ref a :: st) := by
  intro r hr H locs ls hR hlo hls
  obtain ⟨h', h1, h2⟩ := bnd_some hr
  obtain ⟨n, f, h3, h4⟩ := bnd2_some h1
  obtain ⟨fs, h7, h8⟩ := bnd_some h4
  obtain ⟨h5, h6⟩ := if_none h8
  cases h6
  obtain ⟨e1, e2⟩ := arR_some h3
  obtain ⟨v1, v2⟩ := gO_some h7
  have hc := hR.at e1 e2
  have hK := C.2.2.2.2.2.2.2.1
  obtain ⟨hlen, cellV, g1, g2, g3, -⟩ := h_obj (ci := 2) (by decide) (hR.at v1 v2)
  have hcls := (hK.cls (ci := 2) (by decide)).2
  obtain ⟨kA, comp, k1, k2, k3, -⟩ := (hK.2.1 4 (.object RX2) rfl).2
  have hcomp : comp = (bD B).1 2 := Option.some.inj (k3.symm.trans hcls.1)
  subst hcomp
  obtain ⟨kC, hkC, -⟩ := hcls.2
  have h0 : ¬ i < 0 := fun q => h5 (Or.inl q)
  have hlt : i.toNatClampNeg < n := Nat.not_le.mp fun q => h5 (Or.inr q)
  refine W.aast C.1 C.2.1 hc (fun q h => by cases h) (fun h => by cases h) k1 k2 rfl hkC ⟨h0, by rw [arrV_size]; exact hlt⟩ g1 (fun q h => by rw [g3] at h; cases h) (by rw [g2]; exact hkC) (by rw [g2]; exact va_assign hcls) rfl rfl d fun H' e z oq => ?_
  have hR' := hR.set e1 z oq (h_astR (s := bS B) e) (by rw [e, show H[hz (bD B) + a]? = _ from hc]; simp [set_size])
  exact W.tight fun _ _ => kk _ r h2 H' _ ls hR' (locs_add hlo) hls
theorem j_alen (C : Cx B cc own ret nL n0 s0 kF kL) {a : Nat} {u : Int32 → Option ρ} (d : decode cc pc = .ok (.arraylength, 1)) (kk : ∀ x : Int32, J B Qf (u x) h (pc + 1) lv (.int x :: st)) : J B Qf (bnd (aLn h a) u) h pc lv (.ref a :: st) := by
  intro r hr H locs ls hR hlo hls
  obtain ⟨x, h1, h2⟩ := bnd_some hr
  obtain ⟨h3, h4⟩ := if_some h1
  have hK := C.2.2.2.2.2.2.2.1
  split at h4
  · rename_i t n f hx
    obtain ⟨h5, h6⟩ := if_some h4
    cases h6
    have hc := hR.at h3 hx
    have ht : ∃ ty, h_tys[t]? = some ty := ⟨h_tys[t]'(by simpa [h_tys] using h5), by simp⟩
    obtain ⟨ty, ht⟩ := ht
    rcases f with f | f | f
    · exact W.alen C.1 C.2.1 hc (hK.arr ht _ _) (by rw [arrV_size]) rfl rfl d (kk _ r h2 H locs ls hR hlo hls)
    · exact W.alen C.1 C.2.1 hc (hK.arr ht _ _) (by rw [arrV_size]) rfl rfl d (kk _ r h2 H locs ls hR hlo hls)
    · exact W.alen C.1 C.2.1 hc (hK.arr ht _ _) (by rw [arrV_size]) rfl rfl d (kk _ r h2 H locs ls hR hlo hls)
  · cases h4
/-! makings -/
theorem room_new (C : Cx B cc own ret nL n0 s0 kF kL) (hR : h_R (bD B) h H) {n : Nat} (l1 : h.2.1 + 1 ≤ 600000) (l2 : h.2.2 + n ≤ 7302250) (a1 : (bS B).heap.size ≤ H.size) (a2 : htot (bS B).heap ≤ htot H) : H.size - (bS B).heap.size + 1 ≤ (bR B).cells ∧ htot H - htot (bS B).heap + n ≤ (bR B).slots := by
  obtain ⟨-, -, -, -, -, -, -, -, c1, c2, c3⟩ := C
  obtain ⟨r1, r2, -⟩ := hR
  rw [c3]
  constructor
  · show _ ≤ 600000 - n0
    omega
  · show _ ≤ 7302250 - s0
    omega
theorem j_new (C : Cx B cc own ret nL n0 s0 kF kL) {idx ci : Nat} {fs : List Value} (hci : ci < 8) (hw : Cond.classLink own idx (h_cl ci).1 ∈ h_tbl) (hi : Cond.instantiable (h_cl ci).1 (h_cl ci).2.2 ∈ h_tbl) (hini : Cond.initialized (h_cl ci).1 ∈ h_tbl) (hlen : fs.length = (h_cl ci).2.2) (hfs : ∀ z j, j < (h_cl ci).2.2 → defaultValue (h_ty ci j) = vp_V (fs.map (h_sh z)) j) {u : Nat → Hp → Option ρ} (d : decode cc pc = .ok (.new idx, 3)) (kk : ∀ (a : Nat) (h' : Hp), J B Qf (u a h') h' (pc + 3) lv (.ref a :: st)) : J B Qf (bnd2 (nwO h ci fs) u) h pc lv st := by
  intro r hr H locs ls hR hlo hls
  obtain ⟨a, h', h1, h2⟩ := bnd2_some hr
  obtain ⟨⟨l1, l2⟩, h4⟩ := if_some h1
  cases h4
  have hts := C.2.2.2.2.2.1
  have hKn := C.2.2.2.2.2.2.2.1.cls hci
  refine W.tight fun a1 a2 => ?_
  obtain ⟨m1, m2⟩ := room_new C hR l1 l2 a1 a2
  rw [hlen] at m2
  refine W.newcK C.1 C.2.1 C.2.2.2.2.1 (hts _ hw) (hts _ hi) (hts _ hini) rfl d m1 m2 hKn.2.1 rfl fun H1 kC hkC e1 z1 o1 => ?_
  have hz1 : H.size = hz (bD B) + h.2.1 := hR.1
  have hns : (blank ((bD B).1 ci) kC).slots.size = fs.length := by
    obtain ⟨cC, kC', i1, i2, i3, i4⟩ := Cond.instantiable_spec (hts _ hi)
    have e2 : cC = (bD B).1 ci := Option.some.inj (i1.symm.trans hKn.2.1)
    subst e2
    have e3 : kC' = kC := Option.some.inj (i2.symm.trans hkC)
    subst e3
    rw [hlen]
    simp [blank, i4]
  have hR' : h_R (bD B) (hnew h (.inr (ci, fs)) fs.length) H1 := hR.push z1 o1 e1 hns ⟨h_cl ci, h_cl_at hci, hlen, by
    rw [← hz1]
    exact (u_born (h_ty ci) hts (h_in hci) hKn hkC e1 (h_ty_ok hci)).to (fun j hj => hfs _ j hj)⟩ l1 l2
  refine W.tight fun _ _ => ?_
  have hg := kk _ _ r h2 H1 locs ls hR' hlo hls
  rw [hz1]
  exact hg
theorem j_newI (C : Cx B cc own ret nL n0 s0 kF kL) (ty : Nat) {n : Int32} {at' : ArrayType} {fty : FieldType} (hat : newarray.typeOf at' = fty) (hty : h_tys[ty]? = some fty) (hdf : defaultValue fty = .int 0) (hcb : componentBytes fty ≤ 8) (hnn : ∀ C', fty ≠ .object C') (hw : Cond.arrayClass (newarray.typeOf at') ∈ h_tbl) {u : Nat → Hp → Option ρ} (d : decode cc pc = .ok (.newarray at', 2)) (kk : ∀ (a : Nat) (h' : Hp), J B Qf (u a h') h' (pc + 2) lv (.ref a :: st)) : J B Qf (bnd2 (nwI ty h n) u) h pc lv (.int n :: st) := by
  intro r hr H locs ls hR hlo hls
  obtain ⟨a, h', h1, h2⟩ := bnd2_some hr
  obtain ⟨hn, h3⟩ := if_none h1
  obtain ⟨⟨l1, l2⟩, h4⟩ := if_some h3
  cases h4
  subst hat
  have hts := C.2.2.2.2.2.1
  have hK := C.2.2.2.2.2.2.2.1
  refine W.tight fun a1 a2 => ?_
  obtain ⟨m1, m2⟩ := room_new C hR l1 l2 a1 a2
  refine va_newaK C.1 C.2.1 (hts _ hw) rfl d rfl hn rfl (by have := Nat.mul_le_mul_left n.toNatClampNeg hcb; omega) m1 m2 rfl fun H1 cA e1 z1 o1 hAr hNm => ?_
  have hz1 : H.size = hz (bD B) + h.2.1 := hR.1
  have hcA : cA = (bD B).2.2.1 ty := by
    have h7 := (hK.2.1 ty _ hty).2
    cases hft : newarray.typeOf at' with
    | object C' => exact absurd hft (hnn C')
    | _ =>
      rw [hft] at h7 hNm
      exact Option.some.inj (hNm.symm.trans h7)
  rw [hdf] at e1
  have hR' : h_R (bD B) (hnew h (aI ty n.toNatClampNeg (fun _ => 0)) n.toNatClampNeg) H1 := hR.push z1 o1 e1 (arrV_size _ _ _) (by
    show H1[hz (bD B) + h.2.1]? = _
    rw [← hz1, e1, hcA]) l1 l2
  refine W.tight fun _ _ => ?_
  have hg := kk _ _ r h2 H1 locs ls hR' hlo hls
  rw [hz1]
  exact hg
theorem j_newL (C : Cx B cc own ret nL n0 s0 kF kL) {n : Int32} {at' : ArrayType} (hat : newarray.typeOf at' = .long) (hw : Cond.arrayClass (newarray.typeOf at') ∈ h_tbl) {u : Nat → Hp → Option ρ} (d : decode cc pc = .ok (.newarray at', 2)) (kk : ∀ (a : Nat) (h' : Hp), J B Qf (u a h') h' (pc + 2) lv (.ref a :: st)) : J B Qf (bnd2 (nwL h n) u) h pc lv (.int n :: st) := by
  intro r hr H locs ls hR hlo hls
  obtain ⟨a, h', h1, h2⟩ := bnd2_some hr
  obtain ⟨hn, h3⟩ := if_none h1
  obtain ⟨⟨l1, l2⟩, h4⟩ := if_some h3
  cases h4
  have hts := C.2.2.2.2.2.1
  have hK := C.2.2.2.2.2.2.2.1
  refine W.tight fun a1 a2 => ?_
  obtain ⟨m1, m2⟩ := room_new C hR l1 l2 a1 a2
  refine va_newaK C.1 C.2.1 (hts _ hw) rfl d rfl hn rfl (by rw [hat]; have : componentBytes .long ≤ 8 := by decide
                                                            have := Nat.mul_le_mul_left n.toNatClampNeg this; omega) m1 m2 rfl fun H1 cA e1 z1 o1 hAr hNm => ?_
  have hz1 : H.size = hz (bD B) + h.2.1 := hR.1
  have hcA : cA = (bD B).2.2.1 3 := by
    have h7 := (hK.2.1 3 .long rfl).2
    rw [hat] at hNm
    exact Option.some.inj (hNm.symm.trans h7)
  rw [hat] at e1
  have hR' : h_R (bD B) (hnew h (aL n.toNatClampNeg (fun _ => 0)) n.toNatClampNeg) H1 := hR.push z1 o1 e1 (arrV_size _ _ _) (by
    show H1[hz (bD B) + h.2.1]? = _
    rw [← hz1, e1, hcA]
    rfl) l1 l2
  refine W.tight fun _ _ => ?_
  have hg := kk _ _ r h2 H1 locs ls hR' hlo hls
  rw [hz1]
  exact hg
theorem j_newR (C : Cx B cc own ret nL n0 s0 kF kL) {idx : Nat} {n : Int32} (hw : Cond.classLink own idx RX2 ∈ h_tbl) {u : Nat → Hp → Option ρ} (d : decode cc pc = .ok (.anewarray idx, 3)) (kk : ∀ (a : Nat) (h' : Hp), J B Qf (u a h') h' (pc + 3) lv (.ref a :: st)) : J B Qf (bnd2 (nwR h n) u) h pc lv (.int n :: st) := by
  intro r hr H locs ls hR hlo hls
  obtain ⟨a, h', h1, h2⟩ := bnd2_some hr
  obtain ⟨hn, h3⟩ := if_none h1
  obtain ⟨⟨l1, l2⟩, h4⟩ := if_some h3
  cases h4
  have hts := C.2.2.2.2.2.1
  have hK := C.2.2.2.2.2.2.2.1
  refine W.tight fun a1 a2 => ?_
  obtain ⟨m1, m2⟩ := room_new C hR l1 l2 a1 a2
  refine W.anew C.1 C.2.1 C.2.2.2.2.1 (hts _ hw) (va_AO.use hK.2.2.1) rfl d rfl hn (by omega) m1 m2 fun cA kA comp f1 f2 f3 f4 => ?_
  have hz1 : H.size = hz (bD B) + h.2.1 := hR.1
  generalize hH1 : H.push ({ cls := cA, slots := Array.replicate n.toNatClampNeg .null, vm := .none } : Cell) = H1
  have z1 : H1.size = H.size + 1 := by rw [← hH1, Array.size_push]
  have e1 : H1[H.size]? = some (arrV cA n.toNatClampNeg (fun _ => .null)) := by rw [← hH1, Array.getElem?_push_size, ← arrV_new]
  have o1 : ∀ q : Nat, q < H.size → H1[q]? = H[q]? := fun q hq => by rw [← hH1, Array.getElem?_push, if_neg (Nat.ne_of_lt hq)]
  have hcA : cA = (bD B).2.2.1 4 := by
    obtain ⟨kA', comp', k1, k2, k3, k4⟩ := (hK.2.1 4 (.object RX2) rfl).2
    exact Option.some.inj (f1.symm.trans k4)
  have hR' : h_R (bD B) (hnew h (aR n.toNatClampNeg (fun _ => none)) n.toNatClampNeg) H1 := hR.push z1 o1 e1 (arrV_size _ _ _) (by
    show H1[hz (bD B) + h.2.1]? = _
    rw [← hz1, e1, hcA]
    rfl) l1 l2
  refine W.tight fun _ _ => ?_
  have hg := kk _ _ r h2 H1 locs ls hR' hlo hls
  rw [hz1]
  exact hg
end AR
end
section
/-! ===== calls, returns, switches, the native copy ===== -/
def oI (r : Int32 × Hp) : Option Value × Hp := (some (.int r.1), r.2)
def oL (r : Int64 × Hp) : Option Value × Hp := (some (.long r.1), r.2)
def oR (r : Nat × Hp) : Option Value × Hp := (some (.ref r.1), r.2)
def oV (r : Hp) : Option Value × Hp := (none, r)
def Qm {σ : Type} (B : Bx) (n0 s0 : Nat) (out : σ → Option Value × Hp) (r : σ) : State → Prop :=
  MQ (bBel B) (fun _ _ o t => o = .returned ((out r).1.map (h_sh (hz (bD B)))) ∧ h_R (bD B) (out r).2 t.heap) (bA B) (bS B) (600000 - n0) (7302250 - s0) (fun q => hz (bD B) ≤ q)
/-- a method's contract: from a heap that holds h, it answers out, and the heap holds h' -/
def Ct (l : Launch) (D : hD) (y : MethodName) (cy : ByteArray) (nLy : Nat) (rety : Option FieldType) (kF kL : Nat) (As : List Value) (h : Hp) (out : Option Value) (h' : Hp) : Prop :=
  Met l y (Cond.code y cy nLy rety :: h_tbl) ⟨kF, 600000 - h.2.1, 7302250 - h.2.2, kL⟩ (fun v U => v = (As.map (h_sh (hz D))).toArray ∧ h_R D h U.heap ∧ h_K D U) (fun _ _ o t => o = .returned (out.map (h_sh (hz D))) ∧ h_R D h' t.heap) (600000 - h.2.1) (7302250 - h.2.2) (fun q => hz D ≤ q)
def rZ (x : Int32) (h : Hp) : Option (Int32 × Hp) := if x = 0 ∨ x = 1 then some (x, h) else none
def ML (own : String) (idx : Nat) (y : MethodName) : Prop := Cond.methodLink own idx y ∈ h_tbl ∨ ∃ host : String, Cond.methodLinkNest own idx y host ∈ h_nest
def CeB (y : MethodName) (cy : ByteArray) (nLy : Nat) (rety : Option FieldType) (n : Nat) : Prop := Cond.code y cy nLy rety ∈ h_tbl ∧ Cond.initialized y.cls ∈ h_tbl ∧ (y.cls ≠ "java/lang/invoke/MethodHandle" ∧ y.cls ≠ "java/lang/invoke/VarHandle" ∧ (parseMethodDescriptor y.desc).map (fun d => d.parameters.length) = some n)
def CeV (ci : Nat) (y : MethodName) (cy : ByteArray) (nLy : Nat) (rety : Option FieldType) (n : Nat) : Prop := CeB y cy nLy rety n ∧ ci < 8 ∧ y.cls = (h_cl ci).1 ∧ Cond.instanceMethod y ∈ h_tbl ∧ Cond.selects y.cls y y ∈ h_tbl
def CeS (y : MethodName) (cy : ByteArray) (nLy : Nat) (rety : Option FieldType) (n : Nat) : Prop := CeB y cy nLy rety n ∧ Cond.static y ∈ h_tbl
def CeI (y : MethodName) (cy : ByteArray) (nLy : Nat) (n : Nat) : Prop := CeB y cy nLy none n ∧ y.name = "<init>" ∧ Cond.instanceMethod y ∈ h_tbl
theorem good_tbl {w : Cond} (h : w ∈ h_tbl) : GoodIn h_tbl (w :: h_tbl) := by
  intro x hx
  have h1 : x ∈ h_tbl := by
    rcases List.mem_cons.mp hx with e | e
    · rw [e]; exact h
    · exact e
  exact ⟨h1, good_of_word (List.mem_filter.mp h1).2⟩
section CR
variable {ρ : Type} {B : Bx} {Qf : ρ → State → Prop} {t : Option ρ} {h : Hp} {pc pc' : Nat} {lv lv' : List (Nat × Value)} {st st' stk : List Value} {cc : ByteArray} {own : String} {ret : Option FieldType} {nL n0 s0 kF kL : Nat}
variable {H : Heap} {locs : List Loc} {cells slots : Nat} {Q : State → Prop} {ls : Array Slot} {rest : List Value}
/-- the call at pc, with the arguments As of which the stack stk is st and they, goes through for every outcome that the callee's contract tells -/
def Runs (B : Bx) (y : MethodName) (cy : ByteArray) (nLy : Nat) (rety : Option FieldType) (kF' kL' : Nat) (As : List Value) (h : Hp) (pc : Nat) (stk st : List Value) : Prop :=
  ∀ (out : Option Value) (h' : Hp), Ct (bL B) (bD B) y cy nLy rety kF' kL' As h out h' → ∀ (H : Heap) (locs : List Loc) (ls : Array Slot) (Q : State → Prop), h_R (bD B) h H → ls.size = (bC B).maxLocals → (∀ q ∈ locs, hz (bD B) ≤ q.base) →
    (∀ (H' : Heap) (locs' : List Loc), h_R (bD B) h' H' → (∀ q ∈ locs', hz (bD B) ≤ q.base) → WB B H' locs' (H'.size - (bS B).heap.size) (htot H' - htot (bS B).heap) Q (F0 (bM B) (pc + 3) ls ((out.map (h_sh (hz (bD B)))).toList ++ shv B st))) →
    WB B H locs (H.size - (bS B).heap.size) (htot H - htot (bS B).heap) Q (F0 (bM B) pc ls (shv B stk))
theorem w_call {out : Option Value} {h' : Hp} {mc ms : Nat} {st0 : List Value} (hlo : ∀ q ∈ locs, hz (bD B) ≤ q.base) (hrun : va_Run (bP B) (bL B) (bE B) (bR B) (bS B) (bM B) (bA B) (bBel B) (bMe B) (bC B) H locs cells slots mc ms (F0 (bM B) pc ls st0) rest (fun _ o t => o = .returned out ∧ h_R (bD B) h' t.heap) (fun q => hz (bD B) ≤ q))
    (kk : ∀ (H' : Heap) (locs' : List Loc), h_R (bD B) h' H' → (∀ q ∈ locs', hz (bD B) ≤ q.base) → WB B H' locs' (H'.size - (bS B).heap.size) (htot H' - htot (bS B).heap) Q (F0 (bM B) (pc + 3) ls (out.toList ++ rest))) : WB B H locs cells slots Q (F0 (bM B) pc ls st0) := by
  intro T hT X
  obtain ⟨v, st₀, t, T', L, h0, X', hL, e1, e2, ⟨hv, hR'⟩, go⟩ := hrun T hT X
  cases hv
  rw [← e1] at hR'
  have k2 := kk T'.heap (locs ++ L) hR' (fun q hq => by
    rcases List.mem_append.mp hq with h | h
    · exact hlo q h
    · exact hL q h)
  obtain ⟨t2, a1, b1⟩ := W.tight (fun _ _ => k2) T' rfl X'
  exact ⟨t2, go t2 a1, b1⟩
theorem room_call (C : Cx B cc own ret nL n0 s0 kF kL) (hR : h_R (bD B) h H) (a1 : (bS B).heap.size ≤ H.size) (a2 : htot (bS B).heap ≤ htot H) : H.size - (bS B).heap.size + (600000 - h.2.1) ≤ (bR B).cells ∧ htot H - htot (bS B).heap + (7302250 - h.2.2) ≤ (bR B).slots := by
  obtain ⟨-, -, -, -, -, -, -, -, c1, c2, c3⟩ := C
  obtain ⟨r1, r2, r3, r4, -⟩ := hR
  rw [c3]
  constructor
  · show _ ≤ 600000 - n0
    omega
  · show _ ≤ 7302250 - s0
    omega
theorem room_fr (C : Cx B cc own ret nL n0 s0 kF kL) {kF' kL' nLy a b : Nat} (hf : Nat.ble (kF' + 1) kF = true) (hl : Nat.ble (8 + (nLy + 11) + kL') kL = true) : (⟨kF', a, b, kL'⟩ : Room).frames + 1 ≤ (bR B).frames ∧ 8 + (nLy + 11) + (⟨kF', a, b, kL'⟩ : Room).locals ≤ (bR B).locals := by
  obtain ⟨-, -, -, -, -, -, -, -, c1, c2, c3⟩ := C
  rw [c3]
  exact ⟨Nat.le_of_ble_eq_true hf, Nat.le_of_ble_eq_true hl⟩
theorem cat_room (hs : Nat.ble ((st.map fun v => v.category).sum) 8 = true) : ((shv B st).map fun v => v.category).sum ≤ 8 := by
  have e : (shv B st).map (fun v => v.category) = st.map (fun v => v.category) := by
    simp only [shv, List.map_map]
    congr 1
    funext v
    exact h_cat _ v
  rw [e]
  exact Nat.le_of_ble_eq_true hs
theorem pre_call {D : hD} {s : State} {y : MethodName} {As : List Value} {h : Hp} : FrameBlind (fun v U => v = (As.map (h_sh (hz D))).toArray ∧ h_R D h U.heap ∧ h_K D U) := fun _ _ _ _ q => ⟨q.1, q.2.1, q.2.2.calling⟩
theorem stk_sh {As : List Value} {b : Nat} (hstk : As.reverse ++ .ref b :: st = stk) : shv B stk = (As.map (h_sh (hz (bD B)))).reverse ++ .ref (hz (bD B) + b) :: shv B st := by
  rw [← hstk]
  simp [shv, h_sh]
theorem stk_shS {As : List Value} (hstk : As.reverse ++ st = stk) : shv B stk = (As.map (h_sh (hz (bD B)))).reverse ++ shv B st := by
  rw [← hstk]
  simp [shv]
theorem runsV (C : Cx B cc own ret nL n0 s0 kF kL) {y : MethodName} {cy : ByteArray} {nLy : Nat} {rety : Option FieldType} {kF' kL' idx ci b n : Nat} {As : List Value} (ml : ML own idx y) (ce : CeV ci y cy nLy rety n) (hrec : ∃ fs, gO h b ci = some fs) (hn : As.length = n) (hstk : As.reverse ++ .ref b :: st = stk) (hs : Nat.ble ((st.map fun v => v.category).sum) 8 = true) (hf : Nat.ble (kF' + 1) kF = true) (hl : Nat.ble (8 + (nLy + 11) + kL') kL = true) (d : decode cc pc = .ok (.invokevirtual idx, 3)) : Runs B y cy nLy rety kF' kL' (.ref b :: As) h pc stk st := by
  intro out h' M H locs ls Q hR hls hlo kk
  obtain ⟨⟨b1, b2, b3⟩, ci8, hcls, v1, v2⟩ := ce
  have hts := C.2.2.2.2.2.1
  have hK := C.2.2.2.2.2.2.2.1
  obtain ⟨fs, hrec⟩ := hrec
  obtain ⟨g1, g2⟩ := gO_some hrec
  obtain ⟨-, cell, q1, q2, q3, -⟩ := h_obj ci8 (hR.at g1 g2)
  have hpre : PreV (bS B) H y.cls (hz (bD B) + b) (fun v U => v = ((Value.ref b :: As).map (h_sh (hz (bD B)))).toArray ∧ h_R (bD B) h U.heap ∧ h_K (bD B) U) (As.map (h_sh (hz (bD B)))) :=
    ⟨pre_call (s := bS B) (y := y), ⟨cell, q1, by rw [q3]; rfl, by rw [q2, hcls]; exact (hK.cls ci8).2.1⟩, fun U hU hW => ⟨rfl, by rw [hU]; exact hR, hK.warm hW⟩⟩
  rw [stk_sh hstk]
  refine W.tight fun a1 a2 => ?_
  refine w_call (mc := 600000 - h.2.1) (ms := 7302250 - h.2.2) hlo ?_ kk
  have hS : CallFix (bP B) (bM B) (bC B) cc nL (bS B) (bA B) h_tbl own := ⟨C.1, C.2.1, C.2.2.2.1, C.2.2.2.2.1, hts⟩
  rcases ml with ml | ⟨host, ml⟩
  · exact va_runV (C := y.cls) hS M ⟨callB_of n hts (good_tbl b1) rfl rfl rfl (hts _ b2) (hts _ ml) b3 (room_fr C hf hl), hts _ v1, hts _ v2⟩ hpre rfl (by simpa using hn) (hls.trans C.2.2.2.1) rfl (lv_room (cat_room hs)) d (room_call C hR a1 a2)
  · exact va_runVN (C := y.cls) hS M ⟨va_cnB n hts (good_tbl b1) rfl rfl rfl (hK.2.2.2 _ ml) (hts _ b2) b3 (room_fr C hf hl), hts _ v1, hts _ v2⟩ hpre rfl (by simpa using hn) (hls.trans C.2.2.2.1) rfl (lv_room (cat_room hs)) d (room_call C hR a1 a2)
theorem runsS (C : Cx B cc own ret nL n0 s0 kF kL) {y : MethodName} {cy : ByteArray} {nLy : Nat} {rety : Option FieldType} {kF' kL' idx n : Nat} {As : List Value} (ml : ML own idx y) (ce : CeS y cy nLy rety n) (hn : As.length = n) (hstk : As.reverse ++ st = stk) (hs : Nat.ble ((st.map fun v => v.category).sum) 8 = true) (hf : Nat.ble (kF' + 1) kF = true) (hl : Nat.ble (8 + (nLy + 11) + kL') kL = true) (d : decode cc pc = .ok (.invokestatic idx, 3)) : Runs B y cy nLy rety kF' kL' As h pc stk st := by
  intro out h' M H locs ls Q hR hls hlo kk
  obtain ⟨⟨b1, b2, b3⟩, v1⟩ := ce
  have hts := C.2.2.2.2.2.1
  have hK := C.2.2.2.2.2.2.2.1
  have hpre : PreS (bS B) H (fun v U => v = (As.map (h_sh (hz (bD B)))).toArray ∧ h_R (bD B) h U.heap ∧ h_K (bD B) U) (As.map (h_sh (hz (bD B)))) :=
    ⟨pre_call (s := bS B) (y := y), fun U hU hW => ⟨rfl, by rw [hU]; exact hR, hK.warm hW⟩⟩
  rw [stk_shS hstk]
  refine W.tight fun a1 a2 => ?_
  refine w_call (mc := 600000 - h.2.1) (ms := 7302250 - h.2.2) hlo ?_ kk
  have hS : CallFix (bP B) (bM B) (bC B) cc nL (bS B) (bA B) h_tbl own := ⟨C.1, C.2.1, C.2.2.2.1, C.2.2.2.2.1, hts⟩
  rcases ml with ml | ⟨host, ml⟩
  · exact va_runS hS M ⟨callB_of n hts (good_tbl b1) rfl rfl rfl (hts _ b2) (hts _ ml) b3 (room_fr C hf hl), hts _ v1⟩ hpre rfl (by simpa using hn) (hls.trans C.2.2.2.1) rfl (lv_room (cat_room hs)) d (room_call C hR a1 a2)
  · exact va_runSN hS M ⟨va_cnB n hts (good_tbl b1) rfl rfl rfl (hK.2.2.2 _ ml) (hts _ b2) b3 (room_fr C hf hl), hts _ v1, trivial⟩ hpre rfl (by simpa using hn) (hls.trans C.2.2.2.1) rfl (lv_room (cat_room hs)) d (room_call C hR a1 a2)
theorem runsI (C : Cx B cc own ret nL n0 s0 kF kL) {y : MethodName} {cy : ByteArray} {nLy : Nat} {kF' kL' idx b n : Nat} {As : List Value} (ml : ML own idx y) (ce : CeI y cy nLy n) (hn : As.length = n) (hstk : As.reverse ++ .ref b :: st = stk) (hs : Nat.ble ((st.map fun v => v.category).sum) 8 = true) (hf : Nat.ble (kF' + 1) kF = true) (hl : Nat.ble (8 + (nLy + 11) + kL') kL = true) (d : decode cc pc = .ok (.invokespecial idx, 3)) : Runs B y cy nLy none kF' kL' (.ref b :: As) h pc stk st := by
  intro out h' M H locs ls Q hR hls hlo kk
  obtain ⟨⟨b1, b2, b3⟩, v1, v2⟩ := ce
  have hts := C.2.2.2.2.2.1
  have hK := C.2.2.2.2.2.2.2.1
  have hpre : PreS (bS B) H (fun v U => v = ((Value.ref b :: As).map (h_sh (hz (bD B)))).toArray ∧ h_R (bD B) h U.heap ∧ h_K (bD B) U) (.ref (hz (bD B) + b) :: As.map (h_sh (hz (bD B)))) :=
    ⟨pre_call (s := bS B) (y := y), fun U hU hW => ⟨rfl, by rw [hU]; exact hR, hK.warm hW⟩⟩
  rw [stk_sh hstk]
  refine W.tight fun a1 a2 => ?_
  refine w_call (mc := 600000 - h.2.1) (ms := 7302250 - h.2.2) hlo ?_ kk
  have hS : CallFix (bP B) (bM B) (bC B) cc nL (bS B) (bA B) h_tbl own := ⟨C.1, C.2.1, C.2.2.2.1, C.2.2.2.2.1, hts⟩
  rcases ml with ml | ⟨host, ml⟩
  · exact va_runI hS M ⟨callB_of n hts (good_tbl b1) rfl rfl rfl (hts _ b2) (hts _ ml) b3 (room_fr C hf hl), v1, hts _ v2⟩ hpre rfl (by simpa using hn) (hls.trans C.2.2.2.1) rfl (lv_room (cat_room hs)) d (room_call C hR a1 a2)
  · exact va_runIN hS M ⟨va_cnB n hts (good_tbl b1) rfl rfl rfl (hK.2.2.2 _ ml) (hts _ b2) b3 (room_fr C hf hl), v1, hts _ v2⟩ hpre rfl (by simpa using hn) (hls.trans C.2.2.2.1) rfl (lv_room (cat_room hs)) d (room_call C hR a1 a2)
/-! what comes back: an int, a long, a reference, nothing -/
theorem j_cI {f : Option (Int32 × Hp)} {u : Int32 → Hp → Option ρ} {y : MethodName} {cy : ByteArray} {nLy : Nat} {rety : Option FieldType} {kF' kL' : Nat} {As : List Value} (hc : ∀ x, f = some x → Runs B y cy nLy rety kF' kL' As h pc stk st ∧ Ct (bL B) (bD B) y cy nLy rety kF' kL' As h (some (.int x.1)) x.2) (kk : ∀ (r : Int32) (h' : Hp), J B Qf (u r h') h' (pc + 3) lv (.int r :: st)) : J B Qf (bnd2 f u) h pc lv stk := by
  intro r hr H locs ls hR hlo hls
  obtain ⟨a, h', h1, h2⟩ := bnd2_some hr
  obtain ⟨R, M⟩ := hc _ h1
  exact R _ _ M H locs ls _ hR hls.1 hlo (fun H' locs' hR' hlo' => kk a h' r h2 H' locs' ls hR' hlo' hls)
theorem j_cL {f : Option (Int64 × Hp)} {u : Int64 → Hp → Option ρ} {y : MethodName} {cy : ByteArray} {nLy : Nat} {rety : Option FieldType} {kF' kL' : Nat} {As : List Value} (hc : ∀ x, f = some x → Runs B y cy nLy rety kF' kL' As h pc stk st ∧ Ct (bL B) (bD B) y cy nLy rety kF' kL' As h (some (.long x.1)) x.2) (kk : ∀ (r : Int64) (h' : Hp), J B Qf (u r h') h' (pc + 3) lv (.long r :: st)) : J B Qf (bnd2 f u) h pc lv stk := by
  intro r hr H locs ls hR hlo hls
  obtain ⟨a, h', h1, h2⟩ := bnd2_some hr
  obtain ⟨R, M⟩ := hc _ h1
  exact R _ _ M H locs ls _ hR hls.1 hlo (fun H' locs' hR' hlo' => kk a h' r h2 H' locs' ls hR' hlo' hls)
theorem j_cR {f : Option (Nat × Hp)} {u : Nat → Hp → Option ρ} {y : MethodName} {cy : ByteArray} {nLy : Nat} {rety : Option FieldType} {kF' kL' : Nat} {As : List Value} (hc : ∀ x, f = some x → Runs B y cy nLy rety kF' kL' As h pc stk st ∧ Ct (bL B) (bD B) y cy nLy rety kF' kL' As h (some (.ref x.1)) x.2) (kk : ∀ (r : Nat) (h' : Hp), J B Qf (u r h') h' (pc + 3) lv (.ref r :: st)) : J B Qf (bnd2 f u) h pc lv stk := by
  intro r hr H locs ls hR hlo hls
  obtain ⟨a, h', h1, h2⟩ := bnd2_some hr
  obtain ⟨R, M⟩ := hc _ h1
  exact R _ _ M H locs ls _ hR hls.1 hlo (fun H' locs' hR' hlo' => kk a h' r h2 H' locs' ls hR' hlo' hls)
theorem j_cV {f : Option Hp} {u : Hp → Option ρ} {y : MethodName} {cy : ByteArray} {nLy : Nat} {rety : Option FieldType} {kF' kL' : Nat} {As : List Value} (hc : ∀ x, f = some x → Runs B y cy nLy rety kF' kL' As h pc stk st ∧ Ct (bL B) (bD B) y cy nLy rety kF' kL' As h none x) (kk : ∀ h' : Hp, J B Qf (u h') h' (pc + 3) lv st) : J B Qf (bnd f u) h pc lv stk := by
  intro r hr H locs ls hR hlo hls
  obtain ⟨h', h1, h2⟩ := bnd_some hr
  obtain ⟨R, M⟩ := hc _ h1
  exact R _ _ M H locs ls _ hR hls.1 hlo (fun H' locs' hR' hlo' => kk h' r h2 H' locs' ls hR' hlo' hls)
/-! returns -/
theorem room_ret (C : Cx B cc own ret nL n0 s0 kF kL) (hR : h_R (bD B) h H) : H.size - (bS B).heap.size ≤ 600000 - n0 ∧ htot H - htot (bS B).heap ≤ 7302250 - s0 := by
  obtain ⟨-, -, -, -, -, -, -, -, c1, c2, c3⟩ := C
  obtain ⟨r1, r2, r3, r4, -⟩ := hR
  omega
theorem j_iret (C : Cx B cc own (some .int) nL n0 s0 kF kL) {x : Int32} (d : decode cc pc = .ok (.ireturn, 1)) : J B (Qm B n0 s0 oI) (some (x, h)) h pc lv [.int x] := by
  intro r hr H locs ls hR hlo hls
  cases hr
  obtain ⟨m1, m2⟩ := room_ret C hR
  refine W.widen m1 m2 ?_
  exact W.iret C.1 C.2.1 C.2.2.1 (fun t ht hW => ⟨rfl, by rw [ht]; exact hR⟩) hlo d C.2.2.2.2.2.2.1
theorem nar01 {x : Int32} (h : x = 0 ∨ x = 1) : narrow .boolean (.int x) = .int x := by
  rcases h with rfl | rfl <;> rfl
theorem j_zret (C : Cx B cc own (some .boolean) nL n0 s0 kF kL) {x : Int32} (d : decode cc pc = .ok (.ireturn, 1)) : J B (Qm B n0 s0 oI) (rZ x h) h pc lv [.int x] := by
  intro r hr H locs ls hR hlo hls
  obtain ⟨h01, hr⟩ := if_some hr
  cases hr
  obtain ⟨m1, m2⟩ := room_ret C hR
  refine W.widen m1 m2 ?_
  exact W.zret C.1 C.2.1 C.2.2.1 (nar01 h01) (fun t ht hW => ⟨rfl, by rw [ht]; exact hR⟩) hlo d C.2.2.2.2.2.2.1
theorem j_lret (C : Cx B cc own (some .long) nL n0 s0 kF kL) {x : Int64} (d : decode cc pc = .ok (.lreturn, 1)) : J B (Qm B n0 s0 oL) (some (x, h)) h pc lv [.long x] := by
  intro r hr H locs ls hR hlo hls
  cases hr
  obtain ⟨m1, m2⟩ := room_ret C hR
  refine W.widen m1 m2 ?_
  exact W.lret C.1 C.2.1 C.2.2.1 (fun t ht hW => ⟨rfl, by rw [ht]; exact hR⟩) hlo d C.2.2.2.2.2.2.1
theorem j_aret {et : FieldType} (C : Cx B cc own (some (.array et)) nL n0 s0 kF kL) {a : Nat} (d : decode cc pc = .ok (.areturn, 1)) : J B (Qm B n0 s0 oR) (some (a, h)) h pc lv [.ref a] := by
  intro r hr H locs ls hR hlo hls
  cases hr
  obtain ⟨m1, m2⟩ := room_ret C hR
  refine W.widen m1 m2 ?_
  exact W.aret C.1 C.2.1 C.2.2.1 (Or.inr ⟨_, rfl⟩) (Or.inr ⟨_, rfl⟩) (fun t ht hW => ⟨rfl, by rw [ht]; exact hR⟩) hlo d C.2.2.2.2.2.2.1
theorem j_vret (C : Cx B cc own none nL n0 s0 kF kL) (d : decode cc pc = .ok (.return_, 1)) : J B (Qm B n0 s0 oV) (some h) h pc lv [] := by
  intro r hr H locs ls hR hlo hls
  cases hr
  obtain ⟨m1, m2⟩ := room_ret C hR
  refine W.widen m1 m2 ?_
  exact W.vret C.1 C.2.1 C.2.2.1 (fun t ht hW => ⟨rfl, by rw [ht]; exact hR⟩) hlo d C.2.2.2.2.2.2.1
theorem j_objInit (C : Cx B cc own ret nL n0 s0 kF kL) {idx a : Nat} (hw : Cond.methodLink own idx objectInit ∈ h_tbl) (hi : Cond.instanceMethod objectInit ∈ h_tbl) (hc : Cond.code objectInit ⟨#[0xb1]⟩ 1 none ∈ h_tbl) (hf : Nat.ble 1 kF = true) (hl : Nat.ble 20 kL = true) (hs : Nat.ble ((st.map fun v => v.category).sum) 8 = true) (d : decode cc pc = .ok (.invokespecial idx, 3)) (kk : J B Qf t h (pc + 3) lv st) : J B Qf t h pc lv (.ref a :: st) := by
  intro r hr H locs ls hR hlo hls
  have hts := C.2.2.2.2.2.1
  obtain ⟨-, -, -, -, -, -, -, -, c1, c2, c3⟩ := id C
  have h1 := Nat.le_of_ble_eq_true hf
  have h2 := Nat.le_of_ble_eq_true hl
  have h3 := cat_room (B := B) hs
  refine W.objInit C.1 C.2.1 C.2.2.2.2.1 (hts _ hw) (hts _ hi) (hts _ hc) rfl hls.1 (rest := shv B st) rfl d (by rw [c3]; exact h1) (by
    rw [c3]
    show 2 * 0 + _ + 12 ≤ kL
    omega) (kk r hr H locs ls hR hlo hls)
theorem j_dup2 (C : Cx B cc own ret nL n0 s0 kF kL) {v w : Value} (d : decode cc pc = .ok (.dup2, 1)) (hv : v.category = 1) (hw : w.category = 1) (kk : J B Qf t h (pc + 1) lv (v :: w :: v :: w :: st)) : J B Qf t h pc lv (v :: w :: st) :=
  J.pure (fun H locs cells slots Q ls hls k => lv_dup2_11 C.1 C.2.1 d ((h_cat _ _).trans hv) ((h_cat _ _).trans hw) k) kk
end CR
end
