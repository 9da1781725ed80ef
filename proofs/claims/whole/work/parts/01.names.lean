-- ===== PART A: goes FIRST, ahead of the names: the tables' words, and 'selects' of the private methods out of them =====
/-- a private method of a class that the tables say can be made, by its rows of tables_1 -/
def lw_okq (q : MethodName × Nat) : Prop := (q.1.cls ≠ "java/lang/invoke/MethodHandle" ∧ q.1.cls ≠ "java/lang/invoke/VarHandle") ∧ Cond.instantiable q.1.cls q.2 ∈ tables_1 ∧ Cond.privateMethod q.1 ∈ tables_1 ∧ Cond.instanceMethod q.1 ∈ tables_1
theorem lw_p0 : lw_okq (⟨"MixedMill$Mill", "clear", "()V"⟩, 12) := ⟨⟨by decide +kernel, by decide +kernel⟩, List.mem_of_getElem? (i := 37) (by decide +kernel), List.mem_of_getElem? (i := 43) (by decide +kernel), List.mem_of_getElem? (i := 44) (by decide +kernel)⟩
theorem lw_p1 : lw_okq (⟨"MixedMill$Mill", "add", "(IIII)V"⟩, 12) := ⟨⟨by decide +kernel, by decide +kernel⟩, List.mem_of_getElem? (i := 37) (by decide +kernel), List.mem_of_getElem? (i := 224) (by decide +kernel), List.mem_of_getElem? (i := 225) (by decide +kernel)⟩
theorem lw_p2 : lw_okq (⟨"MixedMill$Reader", "read", "([BILMixedMill$Mill;)I"⟩, 2) := ⟨⟨by decide +kernel, by decide +kernel⟩, List.mem_of_getElem? (i := 22) (by decide +kernel), List.mem_of_getElem? (i := 286) (by decide +kernel), List.mem_of_getElem? (i := 287) (by decide +kernel)⟩
theorem lw_p3 : lw_okq (⟨"MixedMill$Reader", "readItem", "([BILMixedMill$Mill;)Z"⟩, 2) := ⟨⟨by decide +kernel, by decide +kernel⟩, List.mem_of_getElem? (i := 22) (by decide +kernel), List.mem_of_getElem? (i := 291) (by decide +kernel), List.mem_of_getElem? (i := 292) (by decide +kernel)⟩
theorem lw_p4 : lw_okq (⟨"MixedMill$Reader", "readNumbers", "([BII)Z"⟩, 2) := ⟨⟨by decide +kernel, by decide +kernel⟩, List.mem_of_getElem? (i := 22) (by decide +kernel), List.mem_of_getElem? (i := 295) (by decide +kernel), List.mem_of_getElem? (i := 296) (by decide +kernel)⟩
theorem lw_p5 : lw_okq (⟨"MixedMill$Reader", "readNumber", "([BI)I"⟩, 2) := ⟨⟨by decide +kernel, by decide +kernel⟩, List.mem_of_getElem? (i := 22) (by decide +kernel), List.mem_of_getElem? (i := 299) (by decide +kernel), List.mem_of_getElem? (i := 300) (by decide +kernel)⟩
theorem lw_p6 : lw_okq (⟨"MixedMill$Reader", "isFigure", "([BI)Z"⟩, 2) := ⟨⟨by decide +kernel, by decide +kernel⟩, List.mem_of_getElem? (i := 22) (by decide +kernel), List.mem_of_getElem? (i := 303) (by decide +kernel), List.mem_of_getElem? (i := 304) (by decide +kernel)⟩
theorem lw_p7 : lw_okq (⟨"MixedMill$Reader", "isSign", "([BII)Z"⟩, 2) := ⟨⟨by decide +kernel, by decide +kernel⟩, List.mem_of_getElem? (i := 22) (by decide +kernel), List.mem_of_getElem? (i := 310) (by decide +kernel), List.mem_of_getElem? (i := 311) (by decide +kernel)⟩
theorem lw_p8 : lw_okq (⟨"MixedMill$Reader", "takeSack", "(LMixedMill$Mill;)Z"⟩, 2) := ⟨⟨by decide +kernel, by decide +kernel⟩, List.mem_of_getElem? (i := 22) (by decide +kernel), List.mem_of_getElem? (i := 314) (by decide +kernel), List.mem_of_getElem? (i := 315) (by decide +kernel)⟩
theorem lw_p9 : lw_okq (⟨"MixedMill$Reader", "takeLaw", "(LMixedMill$Mill;)Z"⟩, 2) := ⟨⟨by decide +kernel, by decide +kernel⟩, List.mem_of_getElem? (i := 22) (by decide +kernel), List.mem_of_getElem? (i := 325) (by decide +kernel), List.mem_of_getElem? (i := 326) (by decide +kernel)⟩
theorem lw_p10 : lw_okq (⟨"MixedMill$Reader", "takePrice", "(LMixedMill$Mill;)Z"⟩, 2) := ⟨⟨by decide +kernel, by decide +kernel⟩, List.mem_of_getElem? (i := 22) (by decide +kernel), List.mem_of_getElem? (i := 329) (by decide +kernel), List.mem_of_getElem? (i := 330) (by decide +kernel)⟩
theorem lw_p11 : lw_okq (⟨"MixedMill$Mill", "copyFrom", "(LMixedMill$Mill;)V"⟩, 12) := ⟨⟨by decide +kernel, by decide +kernel⟩, List.mem_of_getElem? (i := 37) (by decide +kernel), List.mem_of_getElem? (i := 337) (by decide +kernel), List.mem_of_getElem? (i := 338) (by decide +kernel)⟩
theorem lw_p12 : lw_okq (⟨"MixedMill$Mill", "has", "(I)Z"⟩, 12) := ⟨⟨by decide +kernel, by decide +kernel⟩, List.mem_of_getElem? (i := 37) (by decide +kernel), List.mem_of_getElem? (i := 348) (by decide +kernel), List.mem_of_getElem? (i := 349) (by decide +kernel)⟩
theorem lw_p13 : lw_okq (⟨"MixedMill$Mill", "waits", "(I)Z"⟩, 12) := ⟨⟨by decide +kernel, by decide +kernel⟩, List.mem_of_getElem? (i := 37) (by decide +kernel), List.mem_of_getElem? (i := 356) (by decide +kernel), List.mem_of_getElem? (i := 357) (by decide +kernel)⟩
theorem lw_p14 : lw_okq (⟨"MixedMill$Mill", "fitsNow", "(I)Z"⟩, 12) := ⟨⟨by decide +kernel, by decide +kernel⟩, List.mem_of_getElem? (i := 37) (by decide +kernel), List.mem_of_getElem? (i := 361) (by decide +kernel), List.mem_of_getElem? (i := 362) (by decide +kernel)⟩
theorem lw_p15 : lw_okq (⟨"MixedMill$Mill", "kindOf", "(I)I"⟩, 12) := ⟨⟨by decide +kernel, by decide +kernel⟩, List.mem_of_getElem? (i := 37) (by decide +kernel), List.mem_of_getElem? (i := 365) (by decide +kernel), List.mem_of_getElem? (i := 366) (by decide +kernel)⟩
def lw_privs_1 : List (MethodName × Nat) := [(⟨"MixedMill$Mill", "clear", "()V"⟩, 12), (⟨"MixedMill$Mill", "add", "(IIII)V"⟩, 12), (⟨"MixedMill$Reader", "read", "([BILMixedMill$Mill;)I"⟩, 2), (⟨"MixedMill$Reader", "readItem", "([BILMixedMill$Mill;)Z"⟩, 2), (⟨"MixedMill$Reader", "readNumbers", "([BII)Z"⟩, 2), (⟨"MixedMill$Reader", "readNumber", "([BI)I"⟩, 2), (⟨"MixedMill$Reader", "isFigure", "([BI)Z"⟩, 2), (⟨"MixedMill$Reader", "isSign", "([BII)Z"⟩, 2), (⟨"MixedMill$Reader", "takeSack", "(LMixedMill$Mill;)Z"⟩, 2), (⟨"MixedMill$Reader", "takeLaw", "(LMixedMill$Mill;)Z"⟩, 2), (⟨"MixedMill$Reader", "takePrice", "(LMixedMill$Mill;)Z"⟩, 2), (⟨"MixedMill$Mill", "copyFrom", "(LMixedMill$Mill;)V"⟩, 12), (⟨"MixedMill$Mill", "has", "(I)Z"⟩, 12), (⟨"MixedMill$Mill", "waits", "(I)Z"⟩, 12), (⟨"MixedMill$Mill", "fitsNow", "(I)Z"⟩, 12), (⟨"MixedMill$Mill", "kindOf", "(I)I"⟩, 12)]
theorem lw_r1 : ∀ q ∈ lw_privs_1, lw_okq q := List.forall_mem_cons.mpr ⟨lw_p0, List.forall_mem_cons.mpr ⟨lw_p1, List.forall_mem_cons.mpr ⟨lw_p2, List.forall_mem_cons.mpr ⟨lw_p3, List.forall_mem_cons.mpr ⟨lw_p4, List.forall_mem_cons.mpr ⟨lw_p5, List.forall_mem_cons.mpr ⟨lw_p6, List.forall_mem_cons.mpr ⟨lw_p7, List.forall_mem_cons.mpr ⟨lw_p8, List.forall_mem_cons.mpr ⟨lw_p9, List.forall_mem_cons.mpr ⟨lw_p10, List.forall_mem_cons.mpr ⟨lw_p11, List.forall_mem_cons.mpr ⟨lw_p12, List.forall_mem_cons.mpr ⟨lw_p13, List.forall_mem_cons.mpr ⟨lw_p14, List.forall_mem_cons.mpr ⟨lw_p15, fun _ h => absurd h List.not_mem_nil⟩⟩⟩⟩⟩⟩⟩⟩⟩⟩⟩⟩⟩⟩⟩⟩
theorem lw_p16 : lw_okq (⟨"MixedMill", "remember", "()V"⟩, 15) := ⟨⟨by decide +kernel, by decide +kernel⟩, List.mem_of_getElem? (i := 14) (by decide +kernel), List.mem_of_getElem? (i := 376) (by decide +kernel), List.mem_of_getElem? (i := 377) (by decide +kernel)⟩
theorem lw_p17 : lw_okq (⟨"MixedMill$Mill", "setPoured", "(I)V"⟩, 12) := ⟨⟨by decide +kernel, by decide +kernel⟩, List.mem_of_getElem? (i := 37) (by decide +kernel), List.mem_of_getElem? (i := 380) (by decide +kernel), List.mem_of_getElem? (i := 381) (by decide +kernel)⟩
theorem lw_p18 : lw_okq (⟨"MixedMill$Mill", "hourAfter", "(II)I"⟩, 12) := ⟨⟨by decide +kernel, by decide +kernel⟩, List.mem_of_getElem? (i := 37) (by decide +kernel), List.mem_of_getElem? (i := 384) (by decide +kernel), List.mem_of_getElem? (i := 385) (by decide +kernel)⟩
theorem lw_p19 : lw_okq (⟨"MixedMill$Mill", "part", "(II)V"⟩, 12) := ⟨⟨by decide +kernel, by decide +kernel⟩, List.mem_of_getElem? (i := 37) (by decide +kernel), List.mem_of_getElem? (i := 396) (by decide +kernel), List.mem_of_getElem? (i := 397) (by decide +kernel)⟩
theorem lw_p20 : lw_okq (⟨"MixedMill", "isInLine", "(I)Z"⟩, 15) := ⟨⟨by decide +kernel, by decide +kernel⟩, List.mem_of_getElem? (i := 14) (by decide +kernel), List.mem_of_getElem? (i := 417) (by decide +kernel), List.mem_of_getElem? (i := 418) (by decide +kernel)⟩
theorem lw_p21 : lw_okq (⟨"MixedMill", "stopsNowhere", "()Z"⟩, 15) := ⟨⟨by decide +kernel, by decide +kernel⟩, List.mem_of_getElem? (i := 14) (by decide +kernel), List.mem_of_getElem? (i := 429) (by decide +kernel), List.mem_of_getElem? (i := 430) (by decide +kernel)⟩
theorem lw_p22 : lw_okq (⟨"MixedMill", "stopPlace", "()I"⟩, 15) := ⟨⟨by decide +kernel, by decide +kernel⟩, List.mem_of_getElem? (i := 14) (by decide +kernel), List.mem_of_getElem? (i := 433) (by decide +kernel), List.mem_of_getElem? (i := 434) (by decide +kernel)⟩
theorem lw_p23 : lw_okq (⟨"MixedMill", "lineEnds", "()I"⟩, 15) := ⟨⟨by decide +kernel, by decide +kernel⟩, List.mem_of_getElem? (i := 14) (by decide +kernel), List.mem_of_getElem? (i := 440) (by decide +kernel), List.mem_of_getElem? (i := 441) (by decide +kernel)⟩
theorem lw_p24 : lw_okq (⟨"MixedMill", "bread", "()I"⟩, 15) := ⟨⟨by decide +kernel, by decide +kernel⟩, List.mem_of_getElem? (i := 14) (by decide +kernel), List.mem_of_getElem? (i := 445) (by decide +kernel), List.mem_of_getElem? (i := 446) (by decide +kernel)⟩
theorem lw_p25 : lw_okq (⟨"MixedMill$Ahead", "takeAll", "(LMixedMill$Mill;)V"⟩, 5) := ⟨⟨by decide +kernel, by decide +kernel⟩, List.mem_of_getElem? (i := 110) (by decide +kernel), List.mem_of_getElem? (i := 453) (by decide +kernel), List.mem_of_getElem? (i := 454) (by decide +kernel)⟩
theorem lw_p26 : lw_okq (⟨"MixedMill$Ahead", "takeNone", "()V"⟩, 5) := ⟨⟨by decide +kernel, by decide +kernel⟩, List.mem_of_getElem? (i := 110) (by decide +kernel), List.mem_of_getElem? (i := 457) (by decide +kernel), List.mem_of_getElem? (i := 458) (by decide +kernel)⟩
theorem lw_p27 : lw_okq (⟨"MixedMill$Ahead", "addOne", "(I)V"⟩, 5) := ⟨⟨by decide +kernel, by decide +kernel⟩, List.mem_of_getElem? (i := 110) (by decide +kernel), List.mem_of_getElem? (i := 466) (by decide +kernel), List.mem_of_getElem? (i := 467) (by decide +kernel)⟩
theorem lw_p28 : lw_okq (⟨"MixedMill$Ahead", "countWays", "(LMixedMill$Mill;)I"⟩, 5) := ⟨⟨by decide +kernel, by decide +kernel⟩, List.mem_of_getElem? (i := 110) (by decide +kernel), List.mem_of_getElem? (i := 471) (by decide +kernel), List.mem_of_getElem? (i := 472) (by decide +kernel)⟩
theorem lw_p29 : lw_okq (⟨"MixedMill$Ahead", "fillAnswers", "(LMixedMill$Mill;Z)I"⟩, 5) := ⟨⟨by decide +kernel, by decide +kernel⟩, List.mem_of_getElem? (i := 110) (by decide +kernel), List.mem_of_getElem? (i := 475) (by decide +kernel), List.mem_of_getElem? (i := 476) (by decide +kernel)⟩
theorem lw_p30 : lw_okq (⟨"MixedMill$Ahead", "weigh", "()V"⟩, 5) := ⟨⟨by decide +kernel, by decide +kernel⟩, List.mem_of_getElem? (i := 110) (by decide +kernel), List.mem_of_getElem? (i := 479) (by decide +kernel), List.mem_of_getElem? (i := 480) (by decide +kernel)⟩
theorem lw_p31 : lw_okq (⟨"MixedMill$Ahead", "unfold", "(I)V"⟩, 5) := ⟨⟨by decide +kernel, by decide +kernel⟩, List.mem_of_getElem? (i := 110) (by decide +kernel), List.mem_of_getElem? (i := 487) (by decide +kernel), List.mem_of_getElem? (i := 488) (by decide +kernel)⟩
def lw_privs_2 : List (MethodName × Nat) := [(⟨"MixedMill", "remember", "()V"⟩, 15), (⟨"MixedMill$Mill", "setPoured", "(I)V"⟩, 12), (⟨"MixedMill$Mill", "hourAfter", "(II)I"⟩, 12), (⟨"MixedMill$Mill", "part", "(II)V"⟩, 12), (⟨"MixedMill", "isInLine", "(I)Z"⟩, 15), (⟨"MixedMill", "stopsNowhere", "()Z"⟩, 15), (⟨"MixedMill", "stopPlace", "()I"⟩, 15), (⟨"MixedMill", "lineEnds", "()I"⟩, 15), (⟨"MixedMill", "bread", "()I"⟩, 15), (⟨"MixedMill$Ahead", "takeAll", "(LMixedMill$Mill;)V"⟩, 5), (⟨"MixedMill$Ahead", "takeNone", "()V"⟩, 5), (⟨"MixedMill$Ahead", "addOne", "(I)V"⟩, 5), (⟨"MixedMill$Ahead", "countWays", "(LMixedMill$Mill;)I"⟩, 5), (⟨"MixedMill$Ahead", "fillAnswers", "(LMixedMill$Mill;Z)I"⟩, 5), (⟨"MixedMill$Ahead", "weigh", "()V"⟩, 5), (⟨"MixedMill$Ahead", "unfold", "(I)V"⟩, 5)]
theorem lw_r2 : ∀ q ∈ lw_privs_2, lw_okq q := List.forall_mem_cons.mpr ⟨lw_p16, List.forall_mem_cons.mpr ⟨lw_p17, List.forall_mem_cons.mpr ⟨lw_p18, List.forall_mem_cons.mpr ⟨lw_p19, List.forall_mem_cons.mpr ⟨lw_p20, List.forall_mem_cons.mpr ⟨lw_p21, List.forall_mem_cons.mpr ⟨lw_p22, List.forall_mem_cons.mpr ⟨lw_p23, List.forall_mem_cons.mpr ⟨lw_p24, List.forall_mem_cons.mpr ⟨lw_p25, List.forall_mem_cons.mpr ⟨lw_p26, List.forall_mem_cons.mpr ⟨lw_p27, List.forall_mem_cons.mpr ⟨lw_p28, List.forall_mem_cons.mpr ⟨lw_p29, List.forall_mem_cons.mpr ⟨lw_p30, List.forall_mem_cons.mpr ⟨lw_p31, fun _ h => absurd h List.not_mem_nil⟩⟩⟩⟩⟩⟩⟩⟩⟩⟩⟩⟩⟩⟩⟩⟩
theorem lw_p32 : lw_okq (⟨"MixedMill$Ahead", "answer", "(IIIIZ)I"⟩, 5) := ⟨⟨by decide +kernel, by decide +kernel⟩, List.mem_of_getElem? (i := 110) (by decide +kernel), List.mem_of_getElem? (i := 497) (by decide +kernel), List.mem_of_getElem? (i := 498) (by decide +kernel)⟩
theorem lw_p33 : lw_okq (⟨"MixedMill$Ahead", "answerAt", "(II)I"⟩, 5) := ⟨⟨by decide +kernel, by decide +kernel⟩, List.mem_of_getElem? (i := 110) (by decide +kernel), List.mem_of_getElem? (i := 503) (by decide +kernel), List.mem_of_getElem? (i := 504) (by decide +kernel)⟩
theorem lw_p34 : lw_okq (⟨"MixedMill$Mill", "memoryNow", "()I"⟩, 12) := ⟨⟨by decide +kernel, by decide +kernel⟩, List.mem_of_getElem? (i := 37) (by decide +kernel), List.mem_of_getElem? (i := 508) (by decide +kernel), List.mem_of_getElem? (i := 509) (by decide +kernel)⟩
theorem lw_p35 : lw_okq (⟨"MixedMill$Ahead", "longest", "(LMixedMill$Mill;)I"⟩, 5) := ⟨⟨by decide +kernel, by decide +kernel⟩, List.mem_of_getElem? (i := 110) (by decide +kernel), List.mem_of_getElem? (i := 517) (by decide +kernel), List.mem_of_getElem? (i := 518) (by decide +kernel)⟩
theorem lw_p36 : lw_okq (⟨"MixedMill$Hours", "soonest", "(LMixedMill$Mill;I)I"⟩, 13) := ⟨⟨by decide +kernel, by decide +kernel⟩, List.mem_of_getElem? (i := 132) (by decide +kernel), List.mem_of_getElem? (i := 521) (by decide +kernel), List.mem_of_getElem? (i := 522) (by decide +kernel)⟩
theorem lw_p37 : lw_okq (⟨"MixedMill$Hours", "takeWaiting", "(LMixedMill$Mill;)V"⟩, 13) := ⟨⟨by decide +kernel, by decide +kernel⟩, List.mem_of_getElem? (i := 132) (by decide +kernel), List.mem_of_getElem? (i := 525) (by decide +kernel), List.mem_of_getElem? (i := 526) (by decide +kernel)⟩
theorem lw_p38 : lw_okq (⟨"MixedMill$Hours", "fillEnds", "(III[I)V"⟩, 13) := ⟨⟨by decide +kernel, by decide +kernel⟩, List.mem_of_getElem? (i := 132) (by decide +kernel), List.mem_of_getElem? (i := 532) (by decide +kernel), List.mem_of_getElem? (i := 533) (by decide +kernel)⟩
theorem lw_p39 : lw_okq (⟨"MixedMill$Hours", "takeRest", "(I)V"⟩, 13) := ⟨⟨by decide +kernel, by decide +kernel⟩, List.mem_of_getElem? (i := 132) (by decide +kernel), List.mem_of_getElem? (i := 538) (by decide +kernel), List.mem_of_getElem? (i := 539) (by decide +kernel)⟩
theorem lw_p40 : lw_okq (⟨"MixedMill$Hours", "pourOneMore", "(IIIII)V"⟩, 13) := ⟨⟨by decide +kernel, by decide +kernel⟩, List.mem_of_getElem? (i := 132) (by decide +kernel), List.mem_of_getElem? (i := 548) (by decide +kernel), List.mem_of_getElem? (i := 549) (by decide +kernel)⟩
theorem lw_p41 : lw_okq (⟨"MixedMill$Ahead", "rowSack", "(LMixedMill$Mill;I)I"⟩, 5) := ⟨⟨by decide +kernel, by decide +kernel⟩, List.mem_of_getElem? (i := 110) (by decide +kernel), List.mem_of_getElem? (i := 558) (by decide +kernel), List.mem_of_getElem? (i := 559) (by decide +kernel)⟩
theorem lw_p42 : lw_okq (⟨"MixedMill$Ahead", "nextInRow", "(LMixedMill$Mill;IIII)I"⟩, 5) := ⟨⟨by decide +kernel, by decide +kernel⟩, List.mem_of_getElem? (i := 110) (by decide +kernel), List.mem_of_getElem? (i := 562) (by decide +kernel), List.mem_of_getElem? (i := 563) (by decide +kernel)⟩
theorem lw_p43 : lw_okq (⟨"MixedMill$Ahead", "fewestHalvings", "(LMixedMill$Mill;)I"⟩, 5) := ⟨⟨by decide +kernel, by decide +kernel⟩, List.mem_of_getElem? (i := 110) (by decide +kernel), List.mem_of_getElem? (i := 570) (by decide +kernel), List.mem_of_getElem? (i := 571) (by decide +kernel)⟩
theorem lw_p44 : lw_okq (⟨"MixedMill$Ahead", "total", "()I"⟩, 5) := ⟨⟨by decide +kernel, by decide +kernel⟩, List.mem_of_getElem? (i := 110) (by decide +kernel), List.mem_of_getElem? (i := 575) (by decide +kernel), List.mem_of_getElem? (i := 576) (by decide +kernel)⟩
theorem lw_p45 : lw_okq (⟨"MixedMill$Ahead", "dropKind", "(I)V"⟩, 5) := ⟨⟨by decide +kernel, by decide +kernel⟩, List.mem_of_getElem? (i := 110) (by decide +kernel), List.mem_of_getElem? (i := 592) (by decide +kernel), List.mem_of_getElem? (i := 593) (by decide +kernel)⟩
theorem lw_p46 : lw_okq (⟨"MixedMill$Pairs", "find", "(LMixedMill$Mill;LMixedMill$Ahead;)V"⟩, 4) := ⟨⟨by decide +kernel, by decide +kernel⟩, List.mem_of_getElem? (i := 180) (by decide +kernel), List.mem_of_getElem? (i := 601) (by decide +kernel), List.mem_of_getElem? (i := 602) (by decide +kernel)⟩
theorem lw_p47 : lw_okq (⟨"MixedMill$Mill", "isWaitedFor", "(I)Z"⟩, 12) := ⟨⟨by decide +kernel, by decide +kernel⟩, List.mem_of_getElem? (i := 37) (by decide +kernel), List.mem_of_getElem? (i := 608) (by decide +kernel), List.mem_of_getElem? (i := 609) (by decide +kernel)⟩
def lw_privs_3 : List (MethodName × Nat) := [(⟨"MixedMill$Ahead", "answer", "(IIIIZ)I"⟩, 5), (⟨"MixedMill$Ahead", "answerAt", "(II)I"⟩, 5), (⟨"MixedMill$Mill", "memoryNow", "()I"⟩, 12), (⟨"MixedMill$Ahead", "longest", "(LMixedMill$Mill;)I"⟩, 5), (⟨"MixedMill$Hours", "soonest", "(LMixedMill$Mill;I)I"⟩, 13), (⟨"MixedMill$Hours", "takeWaiting", "(LMixedMill$Mill;)V"⟩, 13), (⟨"MixedMill$Hours", "fillEnds", "(III[I)V"⟩, 13), (⟨"MixedMill$Hours", "takeRest", "(I)V"⟩, 13), (⟨"MixedMill$Hours", "pourOneMore", "(IIIII)V"⟩, 13), (⟨"MixedMill$Ahead", "rowSack", "(LMixedMill$Mill;I)I"⟩, 5), (⟨"MixedMill$Ahead", "nextInRow", "(LMixedMill$Mill;IIII)I"⟩, 5), (⟨"MixedMill$Ahead", "fewestHalvings", "(LMixedMill$Mill;)I"⟩, 5), (⟨"MixedMill$Ahead", "total", "()I"⟩, 5), (⟨"MixedMill$Ahead", "dropKind", "(I)V"⟩, 5), (⟨"MixedMill$Pairs", "find", "(LMixedMill$Mill;LMixedMill$Ahead;)V"⟩, 4), (⟨"MixedMill$Mill", "isWaitedFor", "(I)Z"⟩, 12)]
theorem lw_r3 : ∀ q ∈ lw_privs_3, lw_okq q := List.forall_mem_cons.mpr ⟨lw_p32, List.forall_mem_cons.mpr ⟨lw_p33, List.forall_mem_cons.mpr ⟨lw_p34, List.forall_mem_cons.mpr ⟨lw_p35, List.forall_mem_cons.mpr ⟨lw_p36, List.forall_mem_cons.mpr ⟨lw_p37, List.forall_mem_cons.mpr ⟨lw_p38, List.forall_mem_cons.mpr ⟨lw_p39, List.forall_mem_cons.mpr ⟨lw_p40, List.forall_mem_cons.mpr ⟨lw_p41, List.forall_mem_cons.mpr ⟨lw_p42, List.forall_mem_cons.mpr ⟨lw_p43, List.forall_mem_cons.mpr ⟨lw_p44, List.forall_mem_cons.mpr ⟨lw_p45, List.forall_mem_cons.mpr ⟨lw_p46, List.forall_mem_cons.mpr ⟨lw_p47, fun _ h => absurd h List.not_mem_nil⟩⟩⟩⟩⟩⟩⟩⟩⟩⟩⟩⟩⟩⟩⟩⟩
theorem lw_p48 : lw_okq (⟨"MixedMill$Ahead", "takeOwners", "(LMixedMill$Mill;II)V"⟩, 5) := ⟨⟨by decide +kernel, by decide +kernel⟩, List.mem_of_getElem? (i := 110) (by decide +kernel), List.mem_of_getElem? (i := 613) (by decide +kernel), List.mem_of_getElem? (i := 614) (by decide +kernel)⟩
theorem lw_p49 : lw_okq (⟨"MixedMill$Pairs", "choose", "(II)V"⟩, 4) := ⟨⟨by decide +kernel, by decide +kernel⟩, List.mem_of_getElem? (i := 180) (by decide +kernel), List.mem_of_getElem? (i := 620) (by decide +kernel), List.mem_of_getElem? (i := 621) (by decide +kernel)⟩
theorem lw_p50 : lw_okq (⟨"MixedMill$Pairs", "partnerOf", "(I)I"⟩, 4) := ⟨⟨by decide +kernel, by decide +kernel⟩, List.mem_of_getElem? (i := 180) (by decide +kernel), List.mem_of_getElem? (i := 625) (by decide +kernel), List.mem_of_getElem? (i := 626) (by decide +kernel)⟩
theorem lw_p51 : lw_okq (⟨"MixedMill$Ahead", "takeGrown", "(LMixedMill$Mill;II)V"⟩, 5) := ⟨⟨by decide +kernel, by decide +kernel⟩, List.mem_of_getElem? (i := 110) (by decide +kernel), List.mem_of_getElem? (i := 635) (by decide +kernel), List.mem_of_getElem? (i := 636) (by decide +kernel)⟩
theorem lw_p52 : lw_okq (⟨"MixedMill$Hours", "partBetweenTwo", "(LMixedMill$Mill;)Z"⟩, 13) := ⟨⟨by decide +kernel, by decide +kernel⟩, List.mem_of_getElem? (i := 132) (by decide +kernel), List.mem_of_getElem? (i := 643) (by decide +kernel), List.mem_of_getElem? (i := 644) (by decide +kernel)⟩
theorem lw_p53 : lw_okq (⟨"MixedMill$Hours", "sackBits", "(I)I"⟩, 13) := ⟨⟨by decide +kernel, by decide +kernel⟩, List.mem_of_getElem? (i := 132) (by decide +kernel), List.mem_of_getElem? (i := 648) (by decide +kernel), List.mem_of_getElem? (i := 649) (by decide +kernel)⟩
theorem lw_p54 : lw_okq (⟨"MixedMill$Year", "start", "(I)V"⟩, 5) := ⟨⟨by decide +kernel, by decide +kernel⟩, List.mem_of_getElem? (i := 201) (by decide +kernel), List.mem_of_getElem? (i := 656) (by decide +kernel), List.mem_of_getElem? (i := 657) (by decide +kernel)⟩
theorem lw_p55 : lw_okq (⟨"MixedMill$Year", "bring", "(I)V"⟩, 5) := ⟨⟨by decide +kernel, by decide +kernel⟩, List.mem_of_getElem? (i := 201) (by decide +kernel), List.mem_of_getElem? (i := 668) (by decide +kernel), List.mem_of_getElem? (i := 669) (by decide +kernel)⟩
theorem lw_p56 : lw_okq (⟨"MixedMill$Year", "take", "(I)V"⟩, 5) := ⟨⟨by decide +kernel, by decide +kernel⟩, List.mem_of_getElem? (i := 201) (by decide +kernel), List.mem_of_getElem? (i := 674) (by decide +kernel), List.mem_of_getElem? (i := 675) (by decide +kernel)⟩
theorem lw_p57 : lw_okq (⟨"MixedMill$Year", "lowestPutBy", "()I"⟩, 5) := ⟨⟨by decide +kernel, by decide +kernel⟩, List.mem_of_getElem? (i := 201) (by decide +kernel), List.mem_of_getElem? (i := 679) (by decide +kernel), List.mem_of_getElem? (i := 680) (by decide +kernel)⟩
theorem lw_p58 : lw_okq (⟨"MixedMill$Mill", "howMany", "(I)I"⟩, 12) := ⟨⟨by decide +kernel, by decide +kernel⟩, List.mem_of_getElem? (i := 37) (by decide +kernel), List.mem_of_getElem? (i := 695) (by decide +kernel), List.mem_of_getElem? (i := 696) (by decide +kernel)⟩
theorem lw_p59 : lw_okq (⟨"MixedMillModel", "begins", "()V"⟩, 24) := ⟨⟨by decide +kernel, by decide +kernel⟩, List.mem_of_getElem? (i := 699) (by decide +kernel), List.mem_of_getElem? (i := 706) (by decide +kernel), List.mem_of_getElem? (i := 707) (by decide +kernel)⟩
theorem lw_p60 : lw_okq (⟨"MixedMillModel", "takes", "()V"⟩, 24) := ⟨⟨by decide +kernel, by decide +kernel⟩, List.mem_of_getElem? (i := 699) (by decide +kernel), List.mem_of_getElem? (i := 710) (by decide +kernel), List.mem_of_getElem? (i := 711) (by decide +kernel)⟩
theorem lw_p61 : lw_okq (⟨"MixedMillModel", "isItem", "()Z"⟩, 24) := ⟨⟨by decide +kernel, by decide +kernel⟩, List.mem_of_getElem? (i := 699) (by decide +kernel), List.mem_of_getElem? (i := 804) (by decide +kernel), List.mem_of_getElem? (i := 805) (by decide +kernel)⟩
theorem lw_p62 : lw_okq (⟨"MixedMillModel", "number", "()I"⟩, 24) := ⟨⟨by decide +kernel, by decide +kernel⟩, List.mem_of_getElem? (i := 699) (by decide +kernel), List.mem_of_getElem? (i := 808) (by decide +kernel), List.mem_of_getElem? (i := 809) (by decide +kernel)⟩
theorem lw_p63 : lw_okq (⟨"MixedMillModel", "isGood", "(I)Z"⟩, 24) := ⟨⟨by decide +kernel, by decide +kernel⟩, List.mem_of_getElem? (i := 699) (by decide +kernel), List.mem_of_getElem? (i := 815) (by decide +kernel), List.mem_of_getElem? (i := 816) (by decide +kernel)⟩
def lw_privs_4 : List (MethodName × Nat) := [(⟨"MixedMill$Ahead", "takeOwners", "(LMixedMill$Mill;II)V"⟩, 5), (⟨"MixedMill$Pairs", "choose", "(II)V"⟩, 4), (⟨"MixedMill$Pairs", "partnerOf", "(I)I"⟩, 4), (⟨"MixedMill$Ahead", "takeGrown", "(LMixedMill$Mill;II)V"⟩, 5), (⟨"MixedMill$Hours", "partBetweenTwo", "(LMixedMill$Mill;)Z"⟩, 13), (⟨"MixedMill$Hours", "sackBits", "(I)I"⟩, 13), (⟨"MixedMill$Year", "start", "(I)V"⟩, 5), (⟨"MixedMill$Year", "bring", "(I)V"⟩, 5), (⟨"MixedMill$Year", "take", "(I)V"⟩, 5), (⟨"MixedMill$Year", "lowestPutBy", "()I"⟩, 5), (⟨"MixedMill$Mill", "howMany", "(I)I"⟩, 12), (⟨"MixedMillModel", "begins", "()V"⟩, 24), (⟨"MixedMillModel", "takes", "()V"⟩, 24), (⟨"MixedMillModel", "isItem", "()Z"⟩, 24), (⟨"MixedMillModel", "number", "()I"⟩, 24), (⟨"MixedMillModel", "isGood", "(I)Z"⟩, 24)]
theorem lw_r4 : ∀ q ∈ lw_privs_4, lw_okq q := List.forall_mem_cons.mpr ⟨lw_p48, List.forall_mem_cons.mpr ⟨lw_p49, List.forall_mem_cons.mpr ⟨lw_p50, List.forall_mem_cons.mpr ⟨lw_p51, List.forall_mem_cons.mpr ⟨lw_p52, List.forall_mem_cons.mpr ⟨lw_p53, List.forall_mem_cons.mpr ⟨lw_p54, List.forall_mem_cons.mpr ⟨lw_p55, List.forall_mem_cons.mpr ⟨lw_p56, List.forall_mem_cons.mpr ⟨lw_p57, List.forall_mem_cons.mpr ⟨lw_p58, List.forall_mem_cons.mpr ⟨lw_p59, List.forall_mem_cons.mpr ⟨lw_p60, List.forall_mem_cons.mpr ⟨lw_p61, List.forall_mem_cons.mpr ⟨lw_p62, List.forall_mem_cons.mpr ⟨lw_p63, fun _ h => absurd h List.not_mem_nil⟩⟩⟩⟩⟩⟩⟩⟩⟩⟩⟩⟩⟩⟩⟩⟩
theorem lw_p64 : lw_okq (⟨"MixedMillModel", "isSack", "(I)Z"⟩, 24) := ⟨⟨by decide +kernel, by decide +kernel⟩, List.mem_of_getElem? (i := 699) (by decide +kernel), List.mem_of_getElem? (i := 830) (by decide +kernel), List.mem_of_getElem? (i := 831) (by decide +kernel)⟩
theorem lw_p65 : lw_okq (⟨"MixedMillModel", "of", "(II)I"⟩, 24) := ⟨⟨by decide +kernel, by decide +kernel⟩, List.mem_of_getElem? (i := 699) (by decide +kernel), List.mem_of_getElem? (i := 834) (by decide +kernel), List.mem_of_getElem? (i := 835) (by decide +kernel)⟩
theorem lw_p66 : lw_okq (⟨"MixedMillModel", "isWaiting", "(I)Z"⟩, 24) := ⟨⟨by decide +kernel, by decide +kernel⟩, List.mem_of_getElem? (i := 699) (by decide +kernel), List.mem_of_getElem? (i := 842) (by decide +kernel), List.mem_of_getElem? (i := 843) (by decide +kernel)⟩
theorem lw_p67 : lw_okq (⟨"MixedMillModel", "mayNow", "(I)Z"⟩, 24) := ⟨⟨by decide +kernel, by decide +kernel⟩, List.mem_of_getElem? (i := 699) (by decide +kernel), List.mem_of_getElem? (i := 846) (by decide +kernel), List.mem_of_getElem? (i := 847) (by decide +kernel)⟩
theorem lw_p68 : lw_okq (⟨"MixedMillModel", "isMixed", "(III)Z"⟩, 24) := ⟨⟨by decide +kernel, by decide +kernel⟩, List.mem_of_getElem? (i := 699) (by decide +kernel), List.mem_of_getElem? (i := 850) (by decide +kernel), List.mem_of_getElem? (i := 851) (by decide +kernel)⟩
theorem lw_p69 : lw_okq (⟨"MixedMillModel", "known", "()V"⟩, 24) := ⟨⟨by decide +kernel, by decide +kernel⟩, List.mem_of_getElem? (i := 699) (by decide +kernel), List.mem_of_getElem? (i := 858) (by decide +kernel), List.mem_of_getElem? (i := 859) (by decide +kernel)⟩
theorem lw_p70 : lw_okq (⟨"MixedMillModel", "copies", "(II)V"⟩, 24) := ⟨⟨by decide +kernel, by decide +kernel⟩, List.mem_of_getElem? (i := 699) (by decide +kernel), List.mem_of_getElem? (i := 862) (by decide +kernel), List.mem_of_getElem? (i := 863) (by decide +kernel)⟩
theorem lw_p71 : lw_okq (⟨"MixedMillModel", "ends", "(II)I"⟩, 24) := ⟨⟨by decide +kernel, by decide +kernel⟩, List.mem_of_getElem? (i := 699) (by decide +kernel), List.mem_of_getElem? (i := 866) (by decide +kernel), List.mem_of_getElem? (i := 867) (by decide +kernel)⟩
theorem lw_p72 : lw_okq (⟨"MixedMillModel", "bread", "()I"⟩, 24) := ⟨⟨by decide +kernel, by decide +kernel⟩, List.mem_of_getElem? (i := 699) (by decide +kernel), List.mem_of_getElem? (i := 898) (by decide +kernel), List.mem_of_getElem? (i := 899) (by decide +kernel)⟩
theorem lw_p73 : lw_okq (⟨"MixedMillModel", "counts", "()V"⟩, 24) := ⟨⟨by decide +kernel, by decide +kernel⟩, List.mem_of_getElem? (i := 699) (by decide +kernel), List.mem_of_getElem? (i := 906) (by decide +kernel), List.mem_of_getElem? (i := 907) (by decide +kernel)⟩
theorem lw_p74 : lw_okq (⟨"MixedMillModel", "size", "()I"⟩, 24) := ⟨⟨by decide +kernel, by decide +kernel⟩, List.mem_of_getElem? (i := 699) (by decide +kernel), List.mem_of_getElem? (i := 910) (by decide +kernel), List.mem_of_getElem? (i := 911) (by decide +kernel)⟩
theorem lw_p75 : lw_okq (⟨"MixedMillModel", "counted", "(I)V"⟩, 24) := ⟨⟨by decide +kernel, by decide +kernel⟩, List.mem_of_getElem? (i := 699) (by decide +kernel), List.mem_of_getElem? (i := 914) (by decide +kernel), List.mem_of_getElem? (i := 915) (by decide +kernel)⟩
theorem lw_p76 : lw_okq (⟨"MixedMillModel", "step", "(I)I"⟩, 24) := ⟨⟨by decide +kernel, by decide +kernel⟩, List.mem_of_getElem? (i := 699) (by decide +kernel), List.mem_of_getElem? (i := 918) (by decide +kernel), List.mem_of_getElem? (i := 919) (by decide +kernel)⟩
theorem lw_p77 : lw_okq (⟨"MixedMillModel", "firstMost", "()V"⟩, 24) := ⟨⟨by decide +kernel, by decide +kernel⟩, List.mem_of_getElem? (i := 699) (by decide +kernel), List.mem_of_getElem? (i := 926) (by decide +kernel), List.mem_of_getElem? (i := 927) (by decide +kernel)⟩
theorem lw_p78 : lw_okq (⟨"MixedMillModel", "mostOf", "()I"⟩, 24) := ⟨⟨by decide +kernel, by decide +kernel⟩, List.mem_of_getElem? (i := 699) (by decide +kernel), List.mem_of_getElem? (i := 930) (by decide +kernel), List.mem_of_getElem? (i := 931) (by decide +kernel)⟩
theorem lw_p79 : lw_okq (⟨"MixedMillModel", "earliest", "(III)V"⟩, 24) := ⟨⟨by decide +kernel, by decide +kernel⟩, List.mem_of_getElem? (i := 699) (by decide +kernel), List.mem_of_getElem? (i := 934) (by decide +kernel), List.mem_of_getElem? (i := 935) (by decide +kernel)⟩
def lw_privs_5 : List (MethodName × Nat) := [(⟨"MixedMillModel", "isSack", "(I)Z"⟩, 24), (⟨"MixedMillModel", "of", "(II)I"⟩, 24), (⟨"MixedMillModel", "isWaiting", "(I)Z"⟩, 24), (⟨"MixedMillModel", "mayNow", "(I)Z"⟩, 24), (⟨"MixedMillModel", "isMixed", "(III)Z"⟩, 24), (⟨"MixedMillModel", "known", "()V"⟩, 24), (⟨"MixedMillModel", "copies", "(II)V"⟩, 24), (⟨"MixedMillModel", "ends", "(II)I"⟩, 24), (⟨"MixedMillModel", "bread", "()I"⟩, 24), (⟨"MixedMillModel", "counts", "()V"⟩, 24), (⟨"MixedMillModel", "size", "()I"⟩, 24), (⟨"MixedMillModel", "counted", "(I)V"⟩, 24), (⟨"MixedMillModel", "step", "(I)I"⟩, 24), (⟨"MixedMillModel", "firstMost", "()V"⟩, 24), (⟨"MixedMillModel", "mostOf", "()I"⟩, 24), (⟨"MixedMillModel", "earliest", "(III)V"⟩, 24)]
theorem lw_r5 : ∀ q ∈ lw_privs_5, lw_okq q := List.forall_mem_cons.mpr ⟨lw_p64, List.forall_mem_cons.mpr ⟨lw_p65, List.forall_mem_cons.mpr ⟨lw_p66, List.forall_mem_cons.mpr ⟨lw_p67, List.forall_mem_cons.mpr ⟨lw_p68, List.forall_mem_cons.mpr ⟨lw_p69, List.forall_mem_cons.mpr ⟨lw_p70, List.forall_mem_cons.mpr ⟨lw_p71, List.forall_mem_cons.mpr ⟨lw_p72, List.forall_mem_cons.mpr ⟨lw_p73, List.forall_mem_cons.mpr ⟨lw_p74, List.forall_mem_cons.mpr ⟨lw_p75, List.forall_mem_cons.mpr ⟨lw_p76, List.forall_mem_cons.mpr ⟨lw_p77, List.forall_mem_cons.mpr ⟨lw_p78, List.forall_mem_cons.mpr ⟨lw_p79, fun _ h => absurd h List.not_mem_nil⟩⟩⟩⟩⟩⟩⟩⟩⟩⟩⟩⟩⟩⟩⟩⟩
theorem lw_p80 : lw_okq (⟨"MixedMillModel", "soonestOf", "(I)I"⟩, 24) := ⟨⟨by decide +kernel, by decide +kernel⟩, List.mem_of_getElem? (i := 699) (by decide +kernel), List.mem_of_getElem? (i := 942) (by decide +kernel), List.mem_of_getElem? (i := 943) (by decide +kernel)⟩
theorem lw_p81 : lw_okq (⟨"MixedMillModel", "splits", "(I)I"⟩, 24) := ⟨⟨by decide +kernel, by decide +kernel⟩, List.mem_of_getElem? (i := 699) (by decide +kernel), List.mem_of_getElem? (i := 950) (by decide +kernel), List.mem_of_getElem? (i := 951) (by decide +kernel)⟩
theorem lw_p82 : lw_okq (⟨"MixedMillModel", "isPair", "(II)Z"⟩, 24) := ⟨⟨by decide +kernel, by decide +kernel⟩, List.mem_of_getElem? (i := 699) (by decide +kernel), List.mem_of_getElem? (i := 970) (by decide +kernel), List.mem_of_getElem? (i := 971) (by decide +kernel)⟩
theorem lw_p83 : lw_okq (⟨"MixedMillModel", "hasMany", "(I)I"⟩, 24) := ⟨⟨by decide +kernel, by decide +kernel⟩, List.mem_of_getElem? (i := 699) (by decide +kernel), List.mem_of_getElem? (i := 974) (by decide +kernel), List.mem_of_getElem? (i := 975) (by decide +kernel)⟩
theorem lw_p84 : lw_okq (⟨"MixedMillModel", "paired", "(II)I"⟩, 24) := ⟨⟨by decide +kernel, by decide +kernel⟩, List.mem_of_getElem? (i := 699) (by decide +kernel), List.mem_of_getElem? (i := 978) (by decide +kernel), List.mem_of_getElem? (i := 979) (by decide +kernel)⟩
theorem lw_p85 : lw_okq (⟨"MixedMillModel", "pours", "(I)V"⟩, 24) := ⟨⟨by decide +kernel, by decide +kernel⟩, List.mem_of_getElem? (i := 699) (by decide +kernel), List.mem_of_getElem? (i := 1000) (by decide +kernel), List.mem_of_getElem? (i := 1001) (by decide +kernel)⟩
theorem lw_p86 : lw_okq (⟨"MixedMillModel", "waits", "()I"⟩, 24) := ⟨⟨by decide +kernel, by decide +kernel⟩, List.mem_of_getElem? (i := 699) (by decide +kernel), List.mem_of_getElem? (i := 1004) (by decide +kernel), List.mem_of_getElem? (i := 1005) (by decide +kernel)⟩
theorem lw_p87 : lw_okq (⟨"MixedMillModel", "such", "(I)I"⟩, 24) := ⟨⟨by decide +kernel, by decide +kernel⟩, List.mem_of_getElem? (i := 699) (by decide +kernel), List.mem_of_getElem? (i := 1020) (by decide +kernel), List.mem_of_getElem? (i := 1021) (by decide +kernel)⟩
def lw_privs_6 : List (MethodName × Nat) := [(⟨"MixedMillModel", "soonestOf", "(I)I"⟩, 24), (⟨"MixedMillModel", "splits", "(I)I"⟩, 24), (⟨"MixedMillModel", "isPair", "(II)Z"⟩, 24), (⟨"MixedMillModel", "hasMany", "(I)I"⟩, 24), (⟨"MixedMillModel", "paired", "(II)I"⟩, 24), (⟨"MixedMillModel", "pours", "(I)V"⟩, 24), (⟨"MixedMillModel", "waits", "()I"⟩, 24), (⟨"MixedMillModel", "such", "(I)I"⟩, 24)]
theorem lw_r6 : ∀ q ∈ lw_privs_6, lw_okq q := List.forall_mem_cons.mpr ⟨lw_p80, List.forall_mem_cons.mpr ⟨lw_p81, List.forall_mem_cons.mpr ⟨lw_p82, List.forall_mem_cons.mpr ⟨lw_p83, List.forall_mem_cons.mpr ⟨lw_p84, List.forall_mem_cons.mpr ⟨lw_p85, List.forall_mem_cons.mpr ⟨lw_p86, List.forall_mem_cons.mpr ⟨lw_p87, fun _ h => absurd h List.not_mem_nil⟩⟩⟩⟩⟩⟩⟩⟩
def lw_privs : List (MethodName × Nat) := lw_privs_1 ++ (lw_privs_2 ++ (lw_privs_3 ++ (lw_privs_4 ++ (lw_privs_5 ++ (lw_privs_6)))))
def lw_tbl : List Cond := k2_sels lw_privs ++ tables_1
theorem lw_privs_ok : ∀ q ∈ lw_privs, lw_okq q := by
  show ∀ q ∈ lw_privs_1 ++ (lw_privs_2 ++ (lw_privs_3 ++ (lw_privs_4 ++ (lw_privs_5 ++ (lw_privs_6))))), lw_okq q
  exact List.forall_mem_append.mpr ⟨lw_r1, List.forall_mem_append.mpr ⟨lw_r2, List.forall_mem_append.mpr ⟨lw_r3, List.forall_mem_append.mpr ⟨lw_r4, List.forall_mem_append.mpr ⟨lw_r5, lw_r6⟩⟩⟩⟩⟩
def RX0 : String := "MixedMill$Ahead"
def TX0 : u_T := fun k => match k with
  | 0 => ("MixedMill$Ahead", "amount", "[I", true)
  | 1 => ("MixedMill$Ahead", "weight", "[I", true)
  | 2 => ("MixedMill$Ahead", "left", "[I", true)
  | 3 => ("MixedMill$Ahead", "indexes", "I", false)
  | _ => ("MixedMill$Ahead", "answers", "[I", false)
def tyX0 : Nat → FieldType := fun k => match k with
  | 0 => .array .int
  | 1 => .array .int
  | 2 => .array .int
  | 3 => .int
  | _ => .array .int
abbrev wsX00 : List Cond := u_ws RX0 TX0 5
theorem nmX0 : ∀ a, a < 5 → ∀ b, b < 5 → a ≠ b → (TX0 a).2.1 ≠ (TX0 b).2.1 := by decide +kernel
theorem tyX0_ok : ∀ k, k < 5 → parseFieldDescriptor (TX0 k).2.2.1 = some (tyX0 k) := by decide +kernel
abbrev cX0_init : ByteArray := prog_2_method_1_code
def yX0_init : MethodName := ⟨RX0, "<init>", "()V"⟩
abbrev cX0_takeNone : ByteArray := prog_2_method_2_code
def yX0_takeNone : MethodName := ⟨RX0, "takeNone", "()V"⟩
abbrev cX0_addOne : ByteArray := prog_2_method_3_code
def yX0_addOne : MethodName := ⟨RX0, "addOne", "(I)V"⟩
abbrev cX0_dropKind : ByteArray := prog_2_method_4_code
def yX0_dropKind : MethodName := ⟨RX0, "dropKind", "(I)V"⟩
abbrev cX0_takeAll : ByteArray := prog_2_method_5_code
def yX0_takeAll : MethodName := ⟨RX0, "takeAll", "(LMixedMill$Mill;)V"⟩
abbrev cX0_takeOwners : ByteArray := prog_2_method_6_code
def yX0_takeOwners : MethodName := ⟨RX0, "takeOwners", "(LMixedMill$Mill;II)V"⟩
abbrev cX0_takeGrown : ByteArray := prog_2_method_7_code
def yX0_takeGrown : MethodName := ⟨RX0, "takeGrown", "(LMixedMill$Mill;II)V"⟩
abbrev cX0_total : ByteArray := prog_2_method_8_code
def yX0_total : MethodName := ⟨RX0, "total", "()I"⟩
abbrev cX0_weigh : ByteArray := prog_2_method_9_code
def yX0_weigh : MethodName := ⟨RX0, "weigh", "()V"⟩
abbrev cX0_unfold : ByteArray := prog_2_method_10_code
def yX0_unfold : MethodName := ⟨RX0, "unfold", "(I)V"⟩
abbrev cX0_longest : ByteArray := prog_2_method_11_code
def yX0_longest : MethodName := ⟨RX0, "longest", "(LMixedMill$Mill;)I"⟩
abbrev cX0_countWays : ByteArray := prog_2_method_12_code
def yX0_countWays : MethodName := ⟨RX0, "countWays", "(LMixedMill$Mill;)I"⟩
abbrev cX0_fillAnswers : ByteArray := prog_2_method_13_code
def yX0_fillAnswers : MethodName := ⟨RX0, "fillAnswers", "(LMixedMill$Mill;Z)I"⟩
abbrev cX0_answer : ByteArray := prog_2_method_14_code
def yX0_answer : MethodName := ⟨RX0, "answer", "(IIIIZ)I"⟩
abbrev cX0_answerAt : ByteArray := prog_2_method_15_code
def yX0_answerAt : MethodName := ⟨RX0, "answerAt", "(II)I"⟩
abbrev cX0_rowSack : ByteArray := prog_2_method_16_code
def yX0_rowSack : MethodName := ⟨RX0, "rowSack", "(LMixedMill$Mill;I)I"⟩
abbrev cX0_nextInRow : ByteArray := prog_2_method_17_code
def yX0_nextInRow : MethodName := ⟨RX0, "nextInRow", "(LMixedMill$Mill;IIII)I"⟩
abbrev cX0_fewestHalvings : ByteArray := prog_2_method_18_code
def yX0_fewestHalvings : MethodName := ⟨RX0, "fewestHalvings", "(LMixedMill$Mill;)I"⟩
abbrev cX0_sizesBeside : ByteArray := prog_2_method_19_code
def yX0_sizesBeside : MethodName := ⟨RX0, "sizesBeside", "(LMixedMill$Mill;I)I"⟩
def RX1 : String := "MixedMill$Hours"
def TX1 : u_T := fun k => match k with
  | 0 => ("MixedMill$Hours", "sackAt", "[I", true)
  | 1 => ("MixedMill$Hours", "kind", "[I", true)
  | 2 => ("MixedMill$Hours", "size", "[I", true)
  | 3 => ("MixedMill$Hours", "comes", "[I", true)
  | 4 => ("MixedMill$Hours", "waiting", "I", false)
  | 5 => ("MixedMill$Hours", "sets", "I", false)
  | 6 => ("MixedMill$Hours", "rest", "[I", true)
  | 7 => ("MixedMill$Hours", "restCount", "I", false)
  | 8 => ("MixedMill$Hours", "least", "[I", false)
  | 9 => ("MixedMill$Hours", "here", "[I", false)
  | 10 => ("MixedMill$Hours", "there", "[I", false)
  | 11 => ("MixedMill$Hours", "bothDone", "I", false)
  | _ => ("MixedMill$Hours", "partHere", "I", false)
def tyX1 : Nat → FieldType := fun k => match k with
  | 0 => .array .int
  | 1 => .array .int
  | 2 => .array .int
  | 3 => .array .int
  | 4 => .int
  | 5 => .int
  | 6 => .array .int
  | 7 => .int
  | 8 => .array .int
  | 9 => .array .int
  | 10 => .array .int
  | 11 => .int
  | _ => .int
abbrev wsX10 : List Cond := u_ws RX1 TX1 13
theorem nmX1 : ∀ a, a < 13 → ∀ b, b < 13 → a ≠ b → (TX1 a).2.1 ≠ (TX1 b).2.1 := by decide +kernel
theorem tyX1_ok : ∀ k, k < 13 → parseFieldDescriptor (TX1 k).2.2.1 = some (tyX1 k) := by decide +kernel
abbrev cX1_init : ByteArray := prog_3_method_1_code
def yX1_init : MethodName := ⟨RX1, "<init>", "()V"⟩
abbrev cX1_soonest : ByteArray := prog_3_method_2_code
def yX1_soonest : MethodName := ⟨RX1, "soonest", "(LMixedMill$Mill;I)I"⟩
abbrev cX1_partBetweenTwo : ByteArray := prog_3_method_3_code
def yX1_partBetweenTwo : MethodName := ⟨RX1, "partBetweenTwo", "(LMixedMill$Mill;)Z"⟩
abbrev cX1_takeWaiting : ByteArray := prog_3_method_4_code
def yX1_takeWaiting : MethodName := ⟨RX1, "takeWaiting", "(LMixedMill$Mill;)V"⟩
abbrev cX1_sackBits : ByteArray := prog_3_method_5_code
def yX1_sackBits : MethodName := ⟨RX1, "sackBits", "(I)I"⟩
abbrev cX1_fillEnds : ByteArray := prog_3_method_6_code
def yX1_fillEnds : MethodName := ⟨RX1, "fillEnds", "(III[I)V"⟩
abbrev cX1_takeRest : ByteArray := prog_3_method_7_code
def yX1_takeRest : MethodName := ⟨RX1, "takeRest", "(I)V"⟩
abbrev cX1_pourOneMore : ByteArray := prog_3_method_8_code
def yX1_pourOneMore : MethodName := ⟨RX1, "pourOneMore", "(IIIII)V"⟩
def RX2 : String := "MixedMill$Mill"
def TX2 : u_T := fun k => match k with
  | 0 => ("MixedMill$Mill", "law", "I", false)
  | 1 => ("MixedMill$Mill", "price", "I", false)
  | 2 => ("MixedMill$Mill", "sacks", "I", false)
  | 3 => ("MixedMill$Mill", "kind", "[I", true)
  | 4 => ("MixedMill$Mill", "size", "[I", true)
  | 5 => ("MixedMill$Mill", "owner", "[I", true)
  | 6 => ("MixedMill$Mill", "comes", "[I", true)
  | 7 => ("MixedMill$Mill", "state", "[I", true)
  | 8 => ("MixedMill$Mill", "hour", "I", false)
  | 9 => ("MixedMill$Mill", "last", "I", false)
  | 10 => ("MixedMill$Mill", "before", "I", false)
  | _ => ("MixedMill$Mill", "spent", "I", false)
def tyX2 : Nat → FieldType := fun k => match k with
  | 0 => .int
  | 1 => .int
  | 2 => .int
  | 3 => .array .int
  | 4 => .array .int
  | 5 => .array .int
  | 6 => .array .int
  | 7 => .array .int
  | 8 => .int
  | 9 => .int
  | 10 => .int
  | _ => .int
abbrev wsX20 : List Cond := u_ws RX2 TX2 12
theorem nmX2 : ∀ a, a < 12 → ∀ b, b < 12 → a ≠ b → (TX2 a).2.1 ≠ (TX2 b).2.1 := by decide +kernel
theorem tyX2_ok : ∀ k, k < 12 → parseFieldDescriptor (TX2 k).2.2.1 = some (tyX2 k) := by decide +kernel
abbrev cX2_init : ByteArray := prog_4_method_1_code
def yX2_init : MethodName := ⟨RX2, "<init>", "()V"⟩
abbrev cX2_clear : ByteArray := prog_4_method_2_code
def yX2_clear : MethodName := ⟨RX2, "clear", "()V"⟩
abbrev cX2_copyFrom : ByteArray := prog_4_method_3_code
def yX2_copyFrom : MethodName := ⟨RX2, "copyFrom", "(LMixedMill$Mill;)V"⟩
abbrev cX2_add : ByteArray := prog_4_method_4_code
def yX2_add : MethodName := ⟨RX2, "add", "(IIII)V"⟩
abbrev cX2_has : ByteArray := prog_4_method_5_code
def yX2_has : MethodName := ⟨RX2, "has", "(I)Z"⟩
abbrev cX2_waits : ByteArray := prog_4_method_6_code
def yX2_waits : MethodName := ⟨RX2, "waits", "(I)Z"⟩
abbrev cX2_kindOf : ByteArray := prog_4_method_7_code
def yX2_kindOf : MethodName := ⟨RX2, "kindOf", "(I)I"⟩
abbrev cX2_fitsNow : ByteArray := prog_4_method_8_code
def yX2_fitsNow : MethodName := ⟨RX2, "fitsNow", "(I)Z"⟩
abbrev cX2_memoryNow : ByteArray := prog_4_method_9_code
def yX2_memoryNow : MethodName := ⟨RX2, "memoryNow", "()I"⟩
abbrev cX2_hourAfter : ByteArray := prog_4_method_10_code
def yX2_hourAfter : MethodName := ⟨RX2, "hourAfter", "(II)I"⟩
abbrev cX2_setPoured : ByteArray := prog_4_method_11_code
def yX2_setPoured : MethodName := ⟨RX2, "setPoured", "(I)V"⟩
abbrev cX2_part : ByteArray := prog_4_method_12_code
def yX2_part : MethodName := ⟨RX2, "part", "(II)V"⟩
abbrev cX2_howMany : ByteArray := prog_4_method_13_code
def yX2_howMany : MethodName := ⟨RX2, "howMany", "(I)I"⟩
abbrev cX2_isWaitedFor : ByteArray := prog_4_method_14_code
def yX2_isWaitedFor : MethodName := ⟨RX2, "isWaitedFor", "(I)Z"⟩
def RX3 : String := "MixedMill$Pairs"
def TX3 : u_T := fun k => match k with
  | 0 => ("MixedMill$Pairs", "pairable", "[Z", true)
  | 1 => ("MixedMill$Pairs", "partner", "[I", true)
  | 2 => ("MixedMill$Pairs", "best", "[I", true)
  | _ => ("MixedMill$Pairs", "bestCount", "I", false)
def tyX3 : Nat → FieldType := fun k => match k with
  | 0 => .array .boolean
  | 1 => .array .int
  | 2 => .array .int
  | _ => .int
abbrev wsX30 : List Cond := u_ws RX3 TX3 4
theorem nmX3 : ∀ a, a < 4 → ∀ b, b < 4 → a ≠ b → (TX3 a).2.1 ≠ (TX3 b).2.1 := by decide +kernel
theorem tyX3_ok : ∀ k, k < 4 → parseFieldDescriptor (TX3 k).2.2.1 = some (tyX3 k) := by decide +kernel
abbrev cX3_init : ByteArray := prog_5_method_1_code
def yX3_init : MethodName := ⟨RX3, "<init>", "()V"⟩
abbrev cX3_find : ByteArray := prog_5_method_2_code
def yX3_find : MethodName := ⟨RX3, "find", "(LMixedMill$Mill;LMixedMill$Ahead;)V"⟩
abbrev cX3_isPair : ByteArray := prog_5_method_3_code
def yX3_isPair : MethodName := ⟨RX3, "isPair", "(LMixedMill$Mill;LMixedMill$Ahead;II)Z"⟩
abbrev cX3_choose : ByteArray := prog_5_method_4_code
def yX3_choose : MethodName := ⟨RX3, "choose", "(II)V"⟩
abbrev cX3_partnerOf : ByteArray := prog_5_method_5_code
def yX3_partnerOf : MethodName := ⟨RX3, "partnerOf", "(I)I"⟩
def RX4 : String := "MixedMill$Reader"
def TX4 : u_T := fun k => match k with
  | 0 => ("MixedMill$Reader", "number", "[I", true)
  | _ => ("MixedMill$Reader", "place", "I", false)
def tyX4 : Nat → FieldType := fun k => match k with
  | 0 => .array .int
  | _ => .int
abbrev wsX40 : List Cond := u_ws RX4 TX4 2
theorem nmX4 : ∀ a, a < 2 → ∀ b, b < 2 → a ≠ b → (TX4 a).2.1 ≠ (TX4 b).2.1 := by decide +kernel
theorem tyX4_ok : ∀ k, k < 2 → parseFieldDescriptor (TX4 k).2.2.1 = some (tyX4 k) := by decide +kernel
abbrev cX4_init : ByteArray := prog_6_method_1_code
def yX4_init : MethodName := ⟨RX4, "<init>", "()V"⟩
abbrev cX4_read : ByteArray := prog_6_method_2_code
def yX4_read : MethodName := ⟨RX4, "read", "([BILMixedMill$Mill;)I"⟩
abbrev cX4_readItem : ByteArray := prog_6_method_3_code
def yX4_readItem : MethodName := ⟨RX4, "readItem", "([BILMixedMill$Mill;)Z"⟩
abbrev cX4_readNumbers : ByteArray := prog_6_method_4_code
def yX4_readNumbers : MethodName := ⟨RX4, "readNumbers", "([BII)Z"⟩
abbrev cX4_readNumber : ByteArray := prog_6_method_5_code
def yX4_readNumber : MethodName := ⟨RX4, "readNumber", "([BI)I"⟩
abbrev cX4_isFigure : ByteArray := prog_6_method_6_code
def yX4_isFigure : MethodName := ⟨RX4, "isFigure", "([BI)Z"⟩
abbrev cX4_isSign : ByteArray := prog_6_method_7_code
def yX4_isSign : MethodName := ⟨RX4, "isSign", "([BII)Z"⟩
abbrev cX4_takeSack : ByteArray := prog_6_method_8_code
def yX4_takeSack : MethodName := ⟨RX4, "takeSack", "(LMixedMill$Mill;)Z"⟩
abbrev cX4_takeLaw : ByteArray := prog_6_method_9_code
def yX4_takeLaw : MethodName := ⟨RX4, "takeLaw", "(LMixedMill$Mill;)Z"⟩
abbrev cX4_takePrice : ByteArray := prog_6_method_10_code
def yX4_takePrice : MethodName := ⟨RX4, "takePrice", "(LMixedMill$Mill;)Z"⟩
def RX5 : String := "MixedMill$Year"
def TX5 : u_T := fun k => match k with
  | 0 => ("MixedMill$Year", "law", "I", false)
  | 1 => ("MixedMill$Year", "putBy", "[I", true)
  | 2 => ("MixedMill$Year", "last", "I", false)
  | 3 => ("MixedMill$Year", "before", "I", false)
  | _ => ("MixedMill$Year", "poured", "I", false)
def tyX5 : Nat → FieldType := fun k => match k with
  | 0 => .int
  | 1 => .array .int
  | 2 => .int
  | 3 => .int
  | _ => .int
abbrev wsX50 : List Cond := u_ws RX5 TX5 5
theorem nmX5 : ∀ a, a < 5 → ∀ b, b < 5 → a ≠ b → (TX5 a).2.1 ≠ (TX5 b).2.1 := by decide +kernel
theorem tyX5_ok : ∀ k, k < 5 → parseFieldDescriptor (TX5 k).2.2.1 = some (tyX5 k) := by decide +kernel
abbrev cX5_init : ByteArray := prog_7_method_1_code
def yX5_init : MethodName := ⟨RX5, "<init>", "()V"⟩
abbrev cX5_start : ByteArray := prog_7_method_2_code
def yX5_start : MethodName := ⟨RX5, "start", "(I)V"⟩
abbrev cX5_bring : ByteArray := prog_7_method_3_code
def yX5_bring : MethodName := ⟨RX5, "bring", "(I)V"⟩
abbrev cX5_take : ByteArray := prog_7_method_4_code
def yX5_take : MethodName := ⟨RX5, "take", "(I)V"⟩
abbrev cX5_lowestPutBy : ByteArray := prog_7_method_5_code
def yX5_lowestPutBy : MethodName := ⟨RX5, "lowestPutBy", "()I"⟩
def RX6 : String := "MixedMill"
def TX6 : u_T := fun k => match k with
  | 0 => ("MixedMill", "text", "[B", true)
  | 1 => ("MixedMill", "textLength", "I", false)
  | 2 => ("MixedMill", "reader", "LMixedMill$Reader;", true)
  | 3 => ("MixedMill", "told", "LMixedMill$Mill;", true)
  | 4 => ("MixedMill", "mill", "LMixedMill$Mill;", true)
  | 5 => ("MixedMill", "past", "[LMixedMill$Mill;", true)
  | 6 => ("MixedMill", "pastCount", "I", false)
  | 7 => ("MixedMill", "kept", "[LMixedMill$Mill;", true)
  | 8 => ("MixedMill", "keptCount", "I", false)
  | 9 => ("MixedMill", "line", "[I", true)
  | 10 => ("MixedMill", "lineLength", "I", false)
  | 11 => ("MixedMill", "ahead", "LMixedMill$Ahead;", true)
  | 12 => ("MixedMill", "hours", "LMixedMill$Hours;", true)
  | 13 => ("MixedMill", "pairs", "LMixedMill$Pairs;", true)
  | _ => ("MixedMill", "drawn", "LMixedMill$Year;", true)
def tyX6 : Nat → FieldType := fun k => match k with
  | 0 => .array .byte
  | 1 => .int
  | 2 => .object "MixedMill$Reader"
  | 3 => .object "MixedMill$Mill"
  | 4 => .object "MixedMill$Mill"
  | 5 => .array (.object "MixedMill$Mill")
  | 6 => .int
  | 7 => .array (.object "MixedMill$Mill")
  | 8 => .int
  | 9 => .array .int
  | 10 => .int
  | 11 => .object "MixedMill$Ahead"
  | 12 => .object "MixedMill$Hours"
  | 13 => .object "MixedMill$Pairs"
  | _ => .object "MixedMill$Year"
abbrev wsX60 : List Cond := u_ws RX6 TX6 15
theorem nmX6 : ∀ a, a < 15 → ∀ b, b < 15 → a ≠ b → (TX6 a).2.1 ≠ (TX6 b).2.1 := by decide +kernel
theorem tyX6_ok : ∀ k, k < 15 → parseFieldDescriptor (TX6 k).2.2.1 = some (tyX6 k) := by decide +kernel
abbrev cX6_init : ByteArray := prog_1_method_1_code
def yX6_init : MethodName := ⟨RX6, "<init>", "()V"⟩
abbrev cX6_write : ByteArray := prog_1_method_2_code
def yX6_write : MethodName := ⟨RX6, "write", "(IJ)I"⟩
abbrev cX6_wipe : ByteArray := prog_1_method_3_code
def yX6_wipe : MethodName := ⟨RX6, "wipe", "()I"⟩
abbrev cX6_fault : ByteArray := prog_1_method_4_code
def yX6_fault : MethodName := ⟨RX6, "fault", "()I"⟩
abbrev cX6_lay : ByteArray := prog_1_method_5_code
def yX6_lay : MethodName := ⟨RX6, "lay", "()I"⟩
abbrev cX6_sack : ByteArray := prog_1_method_6_code
def yX6_sack : MethodName := ⟨RX6, "sack", "(II)I"⟩
abbrev cX6_may : ByteArray := prog_1_method_7_code
def yX6_may : MethodName := ⟨RX6, "may", "(I)I"⟩
abbrev cX6_pour : ByteArray := prog_1_method_8_code
def yX6_pour : MethodName := ⟨RX6, "pour", "(I)I"⟩
abbrev cX6_halve : ByteArray := prog_1_method_9_code
def yX6_halve : MethodName := ⟨RX6, "halve", "(II)I"⟩
abbrev cX6_sell : ByteArray := prog_1_method_10_code
def yX6_sell : MethodName := ⟨RX6, "sell", "(I)I"⟩
abbrev cX6_undo : ByteArray := prog_1_method_11_code
def yX6_undo : MethodName := ⟨RX6, "undo", "()I"⟩
abbrev cX6_cost : ByteArray := prog_1_method_12_code
def yX6_cost : MethodName := ⟨RX6, "cost", "()I"⟩
abbrev cX6_remember : ByteArray := prog_1_method_13_code
def yX6_remember : MethodName := ⟨RX6, "remember", "()V"⟩
abbrev cX6_queue : ByteArray := prog_1_method_14_code
def yX6_queue : MethodName := ⟨RX6, "queue", "(I)I"⟩
abbrev cX6_noQueue : ByteArray := prog_1_method_15_code
def yX6_noQueue : MethodName := ⟨RX6, "noQueue", "()I"⟩
abbrev cX6_stops : ByteArray := prog_1_method_16_code
def yX6_stops : MethodName := ⟨RX6, "stops", "(I)I"⟩
abbrev cX6_isInLine : ByteArray := prog_1_method_17_code
def yX6_isInLine : MethodName := ⟨RX6, "isInLine", "(I)Z"⟩
abbrev cX6_stopPlace : ByteArray := prog_1_method_18_code
def yX6_stopPlace : MethodName := ⟨RX6, "stopPlace", "()I"⟩
abbrev cX6_stopsNowhere : ByteArray := prog_1_method_19_code
def yX6_stopsNowhere : MethodName := ⟨RX6, "stopsNowhere", "()Z"⟩
abbrev cX6_lineEnds : ByteArray := prog_1_method_20_code
def yX6_lineEnds : MethodName := ⟨RX6, "lineEnds", "()I"⟩
abbrev cX6_bread : ByteArray := prog_1_method_21_code
def yX6_bread : MethodName := ⟨RX6, "bread", "()I"⟩
abbrev cX6_orders : ByteArray := prog_1_method_22_code
def yX6_orders : MethodName := ⟨RX6, "orders", "()J"⟩
abbrev cX6_most : ByteArray := prog_1_method_23_code
def yX6_most : MethodName := ⟨RX6, "most", "(I)I"⟩
abbrev cX6_halvings : ByteArray := prog_1_method_24_code
def yX6_halvings : MethodName := ⟨RX6, "halvings", "()I"⟩
abbrev cX6_more : ByteArray := prog_1_method_25_code
def yX6_more : MethodName := ⟨RX6, "more", "(I)I"⟩
abbrev cX6_lacks : ByteArray := prog_1_method_26_code
def yX6_lacks : MethodName := ⟨RX6, "lacks", "(I)I"⟩
abbrev cX6_together : ByteArray := prog_1_method_27_code
def yX6_together : MethodName := ⟨RX6, "together", "(I)I"⟩
abbrev cX6_grows : ByteArray := prog_1_method_28_code
def yX6_grows : MethodName := ⟨RX6, "grows", "(I)I"⟩
abbrev cX6_twoMills : ByteArray := prog_1_method_29_code
def yX6_twoMills : MethodName := ⟨RX6, "twoMills", "(I)I"⟩
abbrev cX6_year : ByteArray := prog_1_method_30_code
def yX6_year : MethodName := ⟨RX6, "year", "(III)I"⟩
abbrev cX6_keep : ByteArray := prog_1_method_31_code
def yX6_keep : MethodName := ⟨RX6, "keep", "()I"⟩
abbrev cX6_back : ByteArray := prog_1_method_32_code
def yX6_back : MethodName := ⟨RX6, "back", "()I"⟩
abbrev cX6_count : ByteArray := prog_1_method_33_code
def yX6_count : MethodName := ⟨RX6, "count", "(I)I"⟩
abbrev cX6_drawnKind : ByteArray := prog_1_method_34_code
def yX6_drawnKind : MethodName := ⟨RX6, "drawnKind", "(II)I"⟩
abbrev cX6_isKind : ByteArray := prog_1_method_35_code
def yX6_isKind : MethodName := ⟨RX6, "isKind", "(I)Z"⟩
abbrev cX6_isOwner : ByteArray := prog_1_method_36_code
def yX6_isOwner : MethodName := ⟨RX6, "isOwner", "(I)Z"⟩
abbrev cX6_fits : ByteArray := prog_1_method_37_code
def yX6_fits : MethodName := ⟨RX6, "fits", "(III)Z"⟩
abbrev cX6_heldBefore : ByteArray := prog_1_method_38_code
def yX6_heldBefore : MethodName := ⟨RX6, "heldBefore", "(II)I"⟩
abbrev cX6_firstBefore : ByteArray := prog_1_method_39_code
def yX6_firstBefore : MethodName := ⟨RX6, "firstBefore", "(I)I"⟩
abbrev cX6_memoryOf : ByteArray := prog_1_method_40_code
def yX6_memoryOf : MethodName := ⟨RX6, "memoryOf", "(II)I"⟩
abbrev cX6_roomFor : ByteArray := prog_1_method_41_code
def yX6_roomFor : MethodName := ⟨RX6, "roomFor", "([II)[I"⟩
def RX7 : String := "MixedMillModel"
def TX7 : u_T := fun k => match k with
  | 0 => ("MixedMillModel", "length", "I", false)
  | 1 => ("MixedMillModel", "text", "[B", true)
  | 2 => ("MixedMillModel", "at", "I", false)
  | 3 => ("MixedMillModel", "told", "[I", true)
  | 4 => ("MixedMillModel", "sacks", "[I", true)
  | 5 => ("MixedMillModel", "sack", "[I", true)
  | 6 => ("MixedMillModel", "slot", "[I", true)
  | 7 => ("MixedMillModel", "kept", "I", false)
  | 8 => ("MixedMillModel", "done", "I", false)
  | 9 => ("MixedMillModel", "queued", "I", false)
  | 10 => ("MixedMillModel", "queue", "[I", true)
  | 11 => ("MixedMillModel", "when", "[I", true)
  | 12 => ("MixedMillModel", "other", "[I", true)
  | 13 => ("MixedMillModel", "own", "[I", true)
  | 14 => ("MixedMillModel", "best", "[I", true)
  | 15 => ("MixedMillModel", "bestMany", "I", false)
  | 16 => ("MixedMillModel", "many", "[I", true)
  | 17 => ("MixedMillModel", "base", "[I", true)
  | 18 => ("MixedMillModel", "mate", "[I", true)
  | 19 => ("MixedMillModel", "bestMate", "[I", true)
  | 20 => ("MixedMillModel", "got", "[I", true)
  | 21 => ("MixedMillModel", "table", "[J", true)
  | 22 => ("MixedMillModel", "yearLast", "I", false)
  | _ => ("MixedMillModel", "yearAhead", "I", false)
def tyX7 : Nat → FieldType := fun k => match k with
  | 0 => .int
  | 1 => .array .byte
  | 2 => .int
  | 3 => .array .int
  | 4 => .array .int
  | 5 => .array .int
  | 6 => .array .int
  | 7 => .int
  | 8 => .int
  | 9 => .int
  | 10 => .array .int
  | 11 => .array .int
  | 12 => .array .int
  | 13 => .array .int
  | 14 => .array .int
  | 15 => .int
  | 16 => .array .int
  | 17 => .array .int
  | 18 => .array .int
  | 19 => .array .int
  | 20 => .array .int
  | 21 => .array .long
  | 22 => .int
  | _ => .int
abbrev wsX70 : List Cond := u_ws RX7 TX7 24
theorem nmX7 : ∀ a, a < 24 → ∀ b, b < 24 → a ≠ b → (TX7 a).2.1 ≠ (TX7 b).2.1 := by decide +kernel
theorem tyX7_ok : ∀ k, k < 24 → parseFieldDescriptor (TX7 k).2.2.1 = some (tyX7 k) := by decide +kernel
abbrev cX7_init : ByteArray := prog_9_method_1_code
def yX7_init : MethodName := ⟨RX7, "<init>", "()V"⟩
abbrev cX7_in : ByteArray := prog_9_method_2_code
def yX7_in : MethodName := ⟨RX7, "in", "(JJJ)Z"⟩
abbrev cX7_write : ByteArray := prog_9_method_3_code
def yX7_write : MethodName := ⟨RX7, "write", "(IJ)I"⟩
abbrev cX7_wipe : ByteArray := prog_9_method_4_code
def yX7_wipe : MethodName := ⟨RX7, "wipe", "()I"⟩
abbrev cX7_number : ByteArray := prog_9_method_5_code
def yX7_number : MethodName := ⟨RX7, "number", "()I"⟩
abbrev cX7_isItem : ByteArray := prog_9_method_6_code
def yX7_isItem : MethodName := ⟨RX7, "isItem", "()Z"⟩
abbrev cX7_isGood : ByteArray := prog_9_method_7_code
def yX7_isGood : MethodName := ⟨RX7, "isGood", "(I)Z"⟩
abbrev cX7_begins : ByteArray := prog_9_method_8_code
def yX7_begins : MethodName := ⟨RX7, "begins", "()V"⟩
abbrev cX7_takes : ByteArray := prog_9_method_9_code
def yX7_takes : MethodName := ⟨RX7, "takes", "()V"⟩
abbrev cX7_fault : ByteArray := prog_9_method_10_code
def yX7_fault : MethodName := ⟨RX7, "fault", "()I"⟩
abbrev cX7_lay : ByteArray := prog_9_method_11_code
def yX7_lay : MethodName := ⟨RX7, "lay", "()I"⟩
abbrev cX7_isSack : ByteArray := prog_9_method_12_code
def yX7_isSack : MethodName := ⟨RX7, "isSack", "(I)Z"⟩
abbrev cX7_of : ByteArray := prog_9_method_13_code
def yX7_of : MethodName := ⟨RX7, "of", "(II)I"⟩
abbrev cX7_isWaiting : ByteArray := prog_9_method_14_code
def yX7_isWaiting : MethodName := ⟨RX7, "isWaiting", "(I)Z"⟩
abbrev cX7_sack : ByteArray := prog_9_method_15_code
def yX7_sack : MethodName := ⟨RX7, "sack", "(II)I"⟩
abbrev cX7_isMixed : ByteArray := prog_9_method_16_code
def yX7_isMixed : MethodName := ⟨RX7, "isMixed", "(III)Z"⟩
abbrev cX7_mayNow : ByteArray := prog_9_method_17_code
def yX7_mayNow : MethodName := ⟨RX7, "mayNow", "(I)Z"⟩
abbrev cX7_may : ByteArray := prog_9_method_18_code
def yX7_may : MethodName := ⟨RX7, "may", "(I)I"⟩
abbrev cX7_copies : ByteArray := prog_9_method_19_code
def yX7_copies : MethodName := ⟨RX7, "copies", "(II)V"⟩
abbrev cX7_known : ByteArray := prog_9_method_20_code
def yX7_known : MethodName := ⟨RX7, "known", "()V"⟩
abbrev cX7_ends : ByteArray := prog_9_method_21_code
def yX7_ends : MethodName := ⟨RX7, "ends", "(II)I"⟩
abbrev cX7_pour : ByteArray := prog_9_method_22_code
def yX7_pour : MethodName := ⟨RX7, "pour", "(I)I"⟩
abbrev cX7_halve : ByteArray := prog_9_method_23_code
def yX7_halve : MethodName := ⟨RX7, "halve", "(II)I"⟩
abbrev cX7_sell : ByteArray := prog_9_method_24_code
def yX7_sell : MethodName := ⟨RX7, "sell", "(I)I"⟩
abbrev cX7_undo : ByteArray := prog_9_method_25_code
def yX7_undo : MethodName := ⟨RX7, "undo", "()I"⟩
abbrev cX7_cost : ByteArray := prog_9_method_26_code
def yX7_cost : MethodName := ⟨RX7, "cost", "()I"⟩
abbrev cX7_queue : ByteArray := prog_9_method_27_code
def yX7_queue : MethodName := ⟨RX7, "queue", "(I)I"⟩
abbrev cX7_noQueue : ByteArray := prog_9_method_28_code
def yX7_noQueue : MethodName := ⟨RX7, "noQueue", "()I"⟩
abbrev cX7_stops : ByteArray := prog_9_method_29_code
def yX7_stops : MethodName := ⟨RX7, "stops", "(I)I"⟩
abbrev cX7_bread : ByteArray := prog_9_method_30_code
def yX7_bread : MethodName := ⟨RX7, "bread", "()I"⟩
abbrev cX7_counts : ByteArray := prog_9_method_31_code
def yX7_counts : MethodName := ⟨RX7, "counts", "()V"⟩
abbrev cX7_size : ByteArray := prog_9_method_32_code
def yX7_size : MethodName := ⟨RX7, "size", "()I"⟩
abbrev cX7_counted : ByteArray := prog_9_method_33_code
def yX7_counted : MethodName := ⟨RX7, "counted", "(I)V"⟩
abbrev cX7_step : ByteArray := prog_9_method_34_code
def yX7_step : MethodName := ⟨RX7, "step", "(I)I"⟩
abbrev cX7_orders : ByteArray := prog_9_method_35_code
def yX7_orders : MethodName := ⟨RX7, "orders", "()J"⟩
abbrev cX7_mostOf : ByteArray := prog_9_method_36_code
def yX7_mostOf : MethodName := ⟨RX7, "mostOf", "()I"⟩
abbrev cX7_earliest : ByteArray := prog_9_method_37_code
def yX7_earliest : MethodName := ⟨RX7, "earliest", "(III)V"⟩
abbrev cX7_soonestOf : ByteArray := prog_9_method_38_code
def yX7_soonestOf : MethodName := ⟨RX7, "soonestOf", "(I)I"⟩
abbrev cX7_bits : ByteArray := prog_9_method_39_code
def yX7_bits : MethodName := ⟨RX7, "bits", "(I)I"⟩
abbrev cX7_firstMost : ByteArray := prog_9_method_40_code
def yX7_firstMost : MethodName := ⟨RX7, "firstMost", "()V"⟩
abbrev cX7_most : ByteArray := prog_9_method_41_code
def yX7_most : MethodName := ⟨RX7, "most", "(I)I"⟩
abbrev cX7_halvings : ByteArray := prog_9_method_42_code
def yX7_halvings : MethodName := ⟨RX7, "halvings", "()I"⟩
abbrev cX7_splits : ByteArray := prog_9_method_43_code
def yX7_splits : MethodName := ⟨RX7, "splits", "(I)I"⟩
abbrev cX7_isKind : ByteArray := prog_9_method_44_code
def yX7_isKind : MethodName := ⟨RX7, "isKind", "(I)Z"⟩
abbrev cX7_more : ByteArray := prog_9_method_45_code
def yX7_more : MethodName := ⟨RX7, "more", "(I)I"⟩
abbrev cX7_lacks : ByteArray := prog_9_method_46_code
def yX7_lacks : MethodName := ⟨RX7, "lacks", "(I)I"⟩
abbrev cX7_hasMany : ByteArray := prog_9_method_47_code
def yX7_hasMany : MethodName := ⟨RX7, "hasMany", "(I)I"⟩
abbrev cX7_isPair : ByteArray := prog_9_method_48_code
def yX7_isPair : MethodName := ⟨RX7, "isPair", "(II)Z"⟩
abbrev cX7_together : ByteArray := prog_9_method_49_code
def yX7_together : MethodName := ⟨RX7, "together", "(I)I"⟩
abbrev cX7_paired : ByteArray := prog_9_method_50_code
def yX7_paired : MethodName := ⟨RX7, "paired", "(II)I"⟩
abbrev cX7_grows : ByteArray := prog_9_method_51_code
def yX7_grows : MethodName := ⟨RX7, "grows", "(I)I"⟩
abbrev cX7_twoMills : ByteArray := prog_9_method_52_code
def yX7_twoMills : MethodName := ⟨RX7, "twoMills", "(I)I"⟩
abbrev cX7_pours : ByteArray := prog_9_method_53_code
def yX7_pours : MethodName := ⟨RX7, "pours", "(I)V"⟩
abbrev cX7_waits : ByteArray := prog_9_method_54_code
def yX7_waits : MethodName := ⟨RX7, "waits", "()I"⟩
abbrev cX7_year : ByteArray := prog_9_method_55_code
def yX7_year : MethodName := ⟨RX7, "year", "(III)I"⟩
abbrev cX7_keep : ByteArray := prog_9_method_56_code
def yX7_keep : MethodName := ⟨RX7, "keep", "()I"⟩
abbrev cX7_back : ByteArray := prog_9_method_57_code
def yX7_back : MethodName := ⟨RX7, "back", "()I"⟩
abbrev cX7_such : ByteArray := prog_9_method_58_code
def yX7_such : MethodName := ⟨RX7, "such", "(I)I"⟩
abbrev cX7_count : ByteArray := prog_9_method_59_code
def yX7_count : MethodName := ⟨RX7, "count", "(I)I"⟩
def RJ6 : String := "java/lang/Integer"
def TJ6 : u_T := fun k => match k with
  | _ => ("", "", "", false)
def tyJ6 : Nat → FieldType := fun k => match k with
  | _ => .int
abbrev wsJ60 : List Cond := u_ws RJ6 TJ6 0
theorem nmJ6 : ∀ a, a < 0 → ∀ b, b < 0 → a ≠ b → (TJ6 a).2.1 ≠ (TJ6 b).2.1 := by decide +kernel
theorem tyJ6_ok : ∀ k, k < 0 → parseFieldDescriptor (TJ6 k).2.2.1 = some (tyJ6 k) := by decide +kernel
abbrev cJ6_bitCount_0f7a4 : ByteArray := prog_10_method_49_code
def yJ6_bitCount_0f7a4 : MethodName := ⟨RJ6, "bitCount", "(I)I"⟩
def RJ9 : String := "java/lang/Math"
def TJ9 : u_T := fun k => match k with
  | _ => ("", "", "", false)
def tyJ9 : Nat → FieldType := fun k => match k with
  | _ => .int
abbrev wsJ90 : List Cond := u_ws RJ9 TJ9 0
theorem nmJ9 : ∀ a, a < 0 → ∀ b, b < 0 → a ≠ b → (TJ9 a).2.1 ≠ (TJ9 b).2.1 := by decide +kernel
theorem tyJ9_ok : ∀ k, k < 0 → parseFieldDescriptor (TJ9 k).2.2.1 = some (tyJ9 k) := by decide +kernel
abbrev cJ9_max_7cf53 : ByteArray := prog_11_method_65_code
def yJ9_max_7cf53 : MethodName := ⟨RJ9, "max", "(II)I"⟩
abbrev cJ9_min_7cf53 : ByteArray := prog_11_method_69_code
def yJ9_min_7cf53 : MethodName := ⟨RJ9, "min", "(II)I"⟩
def RJ10 : String := "java/lang/System"
def TJ10 : u_T := fun k => match k with
  | _ => ("", "", "", false)
def tyJ10 : Nat → FieldType := fun k => match k with
  | _ => .int
abbrev wsJ100 : List Cond := u_ws RJ10 TJ10 0
theorem nmJ10 : ∀ a, a < 0 → ∀ b, b < 0 → a ≠ b → (TJ10 a).2.1 ≠ (TJ10 b).2.1 := by decide +kernel
theorem tyJ10_ok : ∀ k, k < 0 → parseFieldDescriptor (TJ10 k).2.2.1 = some (tyJ10 k) := by decide +kernel
def RJ7 : String := "java/util/Arrays"
def TJ7 : u_T := fun k => match k with
  | _ => ("", "", "", false)
def tyJ7 : Nat → FieldType := fun k => match k with
  | _ => .int
abbrev wsJ70 : List Cond := u_ws RJ7 TJ7 0
theorem nmJ7 : ∀ a, a < 0 → ∀ b, b < 0 → a ≠ b → (TJ7 a).2.1 ≠ (TJ7 b).2.1 := by decide +kernel
theorem tyJ7_ok : ∀ k, k < 0 → parseFieldDescriptor (TJ7 k).2.2.1 = some (tyJ7 k) := by decide +kernel
abbrev cJ7_fill_53178 : ByteArray := prog_13_method_103_code
def yJ7_fill_53178 : MethodName := ⟨RJ7, "fill", "([II)V"⟩
def RL : String := "MixedMillLaw"
abbrev cL_law : ByteArray := code
def yL_law : MethodName := ⟨RL, "law", "([I)Z"⟩
abbrev vwCl : List vw_C := [(RX0, TX0, 5), (RX1, TX1, 13), (RX2, TX2, 12), (RX3, TX3, 4), (RX4, TX4, 2), (RX5, TX5, 5), (RX6, TX6, 15), (RX7, TX7, 24)]
