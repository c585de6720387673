-- ===== PART A: goes FIRST, ahead of the names: the tables' words, and 'selects' of the private methods out of them =====
/-- a private method of a class that the tables say can be made, by its rows of tables_1 -/
def lw_okq (q : MethodName × Nat) : Prop := (q.1.cls ≠ "java/lang/invoke/MethodHandle" ∧ q.1.cls ≠ "java/lang/invoke/VarHandle") ∧ Cond.instantiable q.1.cls q.2 ∈ tables_1 ∧ Cond.privateMethod q.1 ∈ tables_1 ∧ Cond.instanceMethod q.1 ∈ tables_1
theorem lw_p0 : lw_okq (⟨"NextFigures$Rows", "valueOn", "(III)I"⟩, 8) := ⟨⟨by decide +kernel, by decide +kernel⟩, List.mem_of_getElem? (i := 26) (by decide +kernel), List.mem_of_getElem? (i := 339) (by decide +kernel), List.mem_of_getElem? (i := 340) (by decide +kernel)⟩
theorem lw_p1 : lw_okq (⟨"NextFigures$Rows", "tell", "(III)V"⟩, 8) := ⟨⟨by decide +kernel, by decide +kernel⟩, List.mem_of_getElem? (i := 26) (by decide +kernel), List.mem_of_getElem? (i := 345) (by decide +kernel), List.mem_of_getElem? (i := 346) (by decide +kernel)⟩
theorem lw_p2 : lw_okq (⟨"NextFigures$Tape", "push", "(J)I"⟩, 7) := ⟨⟨by decide +kernel, by decide +kernel⟩, List.mem_of_getElem? (i := 94) (by decide +kernel), List.mem_of_getElem? (i := 361) (by decide +kernel), List.mem_of_getElem? (i := 362) (by decide +kernel)⟩
theorem lw_p3 : lw_okq (⟨"NextFigures$Tape", "readAll", "()V"⟩, 7) := ⟨⟨by decide +kernel, by decide +kernel⟩, List.mem_of_getElem? (i := 94) (by decide +kernel), List.mem_of_getElem? (i := 373) (by decide +kernel), List.mem_of_getElem? (i := 374) (by decide +kernel)⟩
theorem lw_p4 : lw_okq (⟨"NextFigures$Tape", "advance", "()V"⟩, 7) := ⟨⟨by decide +kernel, by decide +kernel⟩, List.mem_of_getElem? (i := 94) (by decide +kernel), List.mem_of_getElem? (i := 377) (by decide +kernel), List.mem_of_getElem? (i := 378) (by decide +kernel)⟩
theorem lw_p5 : lw_okq (⟨"NextFigures$Tape", "readLine", "()V"⟩, 7) := ⟨⟨by decide +kernel, by decide +kernel⟩, List.mem_of_getElem? (i := 94) (by decide +kernel), List.mem_of_getElem? (i := 387) (by decide +kernel), List.mem_of_getElem? (i := 388) (by decide +kernel)⟩
theorem lw_p6 : lw_okq (⟨"NextFigures$Tape", "kindOfName", "()I"⟩, 7) := ⟨⟨by decide +kernel, by decide +kernel⟩, List.mem_of_getElem? (i := 94) (by decide +kernel), List.mem_of_getElem? (i := 391) (by decide +kernel), List.mem_of_getElem? (i := 392) (by decide +kernel)⟩
theorem lw_p7 : lw_okq (⟨"NextFigures$Tape", "isName", "(Ljava/lang/String;)Z"⟩, 7) := ⟨⟨by decide +kernel, by decide +kernel⟩, List.mem_of_getElem? (i := 94) (by decide +kernel), List.mem_of_getElem? (i := 396) (by decide +kernel), List.mem_of_getElem? (i := 397) (by decide +kernel)⟩
theorem lw_p8 : lw_okq (⟨"NextFigures$Tape", "readNumber", "(I)I"⟩, 7) := ⟨⟨by decide +kernel, by decide +kernel⟩, List.mem_of_getElem? (i := 94) (by decide +kernel), List.mem_of_getElem? (i := 452) (by decide +kernel), List.mem_of_getElem? (i := 453) (by decide +kernel)⟩
theorem lw_p9 : lw_okq (⟨"NextFigures$Tape", "expect", "(I)V"⟩, 7) := ⟨⟨by decide +kernel, by decide +kernel⟩, List.mem_of_getElem? (i := 94) (by decide +kernel), List.mem_of_getElem? (i := 456) (by decide +kernel), List.mem_of_getElem? (i := 457) (by decide +kernel)⟩
theorem lw_p10 : lw_okq (⟨"NextFigures$Lines", "add", "(III)V"⟩, 4) := ⟨⟨by decide +kernel, by decide +kernel⟩, List.mem_of_getElem? (i := 66) (by decide +kernel), List.mem_of_getElem? (i := 464) (by decide +kernel), List.mem_of_getElem? (i := 465) (by decide +kernel)⟩
theorem lw_p11 : lw_okq (⟨"NextFigures$Lines", "copy", "(LNextFigures$Lines;)V"⟩, 4) := ⟨⟨by decide +kernel, by decide +kernel⟩, List.mem_of_getElem? (i := 66) (by decide +kernel), List.mem_of_getElem? (i := 468) (by decide +kernel), List.mem_of_getElem? (i := 469) (by decide +kernel)⟩
theorem lw_p12 : lw_okq (⟨"NextFigures", "isTeller", "(I)Z"⟩, 7) := ⟨⟨by decide +kernel, by decide +kernel⟩, List.mem_of_getElem? (i := 18) (by decide +kernel), List.mem_of_getElem? (i := 482) (by decide +kernel), List.mem_of_getElem? (i := 483) (by decide +kernel)⟩
theorem lw_p13 : lw_okq (⟨"NextFigures", "isAsked", "(III)Z"⟩, 7) := ⟨⟨by decide +kernel, by decide +kernel⟩, List.mem_of_getElem? (i := 18) (by decide +kernel), List.mem_of_getElem? (i := 490) (by decide +kernel), List.mem_of_getElem? (i := 491) (by decide +kernel)⟩
theorem lw_p14 : lw_okq (⟨"NextFigures$Play", "run", "(IIIII)V"⟩, 14) := ⟨⟨by decide +kernel, by decide +kernel⟩, List.mem_of_getElem? (i := 128) (by decide +kernel), List.mem_of_getElem? (i := 497) (by decide +kernel), List.mem_of_getElem? (i := 498) (by decide +kernel)⟩
theorem lw_p15 : lw_okq (⟨"NextFigures$Play", "playPlain", "(IIII)V"⟩, 14) := ⟨⟨by decide +kernel, by decide +kernel⟩, List.mem_of_getElem? (i := 128) (by decide +kernel), List.mem_of_getElem? (i := 507) (by decide +kernel), List.mem_of_getElem? (i := 508) (by decide +kernel)⟩
def lw_privs_1 : List (MethodName × Nat) := [(⟨"NextFigures$Rows", "valueOn", "(III)I"⟩, 8), (⟨"NextFigures$Rows", "tell", "(III)V"⟩, 8), (⟨"NextFigures$Tape", "push", "(J)I"⟩, 7), (⟨"NextFigures$Tape", "readAll", "()V"⟩, 7), (⟨"NextFigures$Tape", "advance", "()V"⟩, 7), (⟨"NextFigures$Tape", "readLine", "()V"⟩, 7), (⟨"NextFigures$Tape", "kindOfName", "()I"⟩, 7), (⟨"NextFigures$Tape", "isName", "(Ljava/lang/String;)Z"⟩, 7), (⟨"NextFigures$Tape", "readNumber", "(I)I"⟩, 7), (⟨"NextFigures$Tape", "expect", "(I)V"⟩, 7), (⟨"NextFigures$Lines", "add", "(III)V"⟩, 4), (⟨"NextFigures$Lines", "copy", "(LNextFigures$Lines;)V"⟩, 4), (⟨"NextFigures", "isTeller", "(I)Z"⟩, 7), (⟨"NextFigures", "isAsked", "(III)Z"⟩, 7), (⟨"NextFigures$Play", "run", "(IIIII)V"⟩, 14), (⟨"NextFigures$Play", "playPlain", "(IIII)V"⟩, 14)]
theorem lw_r1 : ∀ q ∈ lw_privs_1, lw_okq q := List.forall_mem_cons.mpr ⟨lw_p0, List.forall_mem_cons.mpr ⟨lw_p1, List.forall_mem_cons.mpr ⟨lw_p2, List.forall_mem_cons.mpr ⟨lw_p3, List.forall_mem_cons.mpr ⟨lw_p4, List.forall_mem_cons.mpr ⟨lw_p5, List.forall_mem_cons.mpr ⟨lw_p6, List.forall_mem_cons.mpr ⟨lw_p7, List.forall_mem_cons.mpr ⟨lw_p8, List.forall_mem_cons.mpr ⟨lw_p9, List.forall_mem_cons.mpr ⟨lw_p10, List.forall_mem_cons.mpr ⟨lw_p11, List.forall_mem_cons.mpr ⟨lw_p12, List.forall_mem_cons.mpr ⟨lw_p13, List.forall_mem_cons.mpr ⟨lw_p14, List.forall_mem_cons.mpr ⟨lw_p15, fun _ h => absurd h List.not_mem_nil⟩⟩⟩⟩⟩⟩⟩⟩⟩⟩⟩⟩⟩⟩⟩⟩
theorem lw_p16 : lw_okq (⟨"NextFigures$View", "open", "(II)V"⟩, 3) := ⟨⟨by decide +kernel, by decide +kernel⟩, List.mem_of_getElem? (i := 134) (by decide +kernel), List.mem_of_getElem? (i := 511) (by decide +kernel), List.mem_of_getElem? (i := 512) (by decide +kernel)⟩
theorem lw_p17 : lw_okq (⟨"NextFigures$View", "foretell", "(IIII)I"⟩, 3) := ⟨⟨by decide +kernel, by decide +kernel⟩, List.mem_of_getElem? (i := 134) (by decide +kernel), List.mem_of_getElem? (i := 517) (by decide +kernel), List.mem_of_getElem? (i := 518) (by decide +kernel)⟩
theorem lw_p18 : lw_okq (⟨"NextFigures$View", "bySame", "(II)I"⟩, 3) := ⟨⟨by decide +kernel, by decide +kernel⟩, List.mem_of_getElem? (i := 134) (by decide +kernel), List.mem_of_getElem? (i := 521) (by decide +kernel), List.mem_of_getElem? (i := 522) (by decide +kernel)⟩
theorem lw_p19 : lw_okq (⟨"NextFigures$View", "byMean", "(I)I"⟩, 3) := ⟨⟨by decide +kernel, by decide +kernel⟩, List.mem_of_getElem? (i := 134) (by decide +kernel), List.mem_of_getElem? (i := 525) (by decide +kernel), List.mem_of_getElem? (i := 526) (by decide +kernel)⟩
theorem lw_p20 : lw_okq (⟨"NextFigures$View", "byStep", "(III)I"⟩, 3) := ⟨⟨by decide +kernel, by decide +kernel⟩, List.mem_of_getElem? (i := 134) (by decide +kernel), List.mem_of_getElem? (i := 529) (by decide +kernel), List.mem_of_getElem? (i := 530) (by decide +kernel)⟩
theorem lw_p21 : lw_okq (⟨"NextFigures$View", "byLike", "(II)I"⟩, 3) := ⟨⟨by decide +kernel, by decide +kernel⟩, List.mem_of_getElem? (i := 134) (by decide +kernel), List.mem_of_getElem? (i := 554) (by decide +kernel), List.mem_of_getElem? (i := 555) (by decide +kernel)⟩
theorem lw_p22 : lw_okq (⟨"NextFigures$Rows", "isFeast", "(I)Z"⟩, 8) := ⟨⟨by decide +kernel, by decide +kernel⟩, List.mem_of_getElem? (i := 26) (by decide +kernel), List.mem_of_getElem? (i := 558) (by decide +kernel), List.mem_of_getElem? (i := 559) (by decide +kernel)⟩
theorem lw_p23 : lw_okq (⟨"NextFigures$Play", "join", "(II)I"⟩, 14) := ⟨⟨by decide +kernel, by decide +kernel⟩, List.mem_of_getElem? (i := 128) (by decide +kernel), List.mem_of_getElem? (i := 562) (by decide +kernel), List.mem_of_getElem? (i := 563) (by decide +kernel)⟩
theorem lw_p24 : lw_okq (⟨"NextFigures$Play", "weightOf", "(III)I"⟩, 14) := ⟨⟨by decide +kernel, by decide +kernel⟩, List.mem_of_getElem? (i := 128) (by decide +kernel), List.mem_of_getElem? (i := 566) (by decide +kernel), List.mem_of_getElem? (i := 567) (by decide +kernel)⟩
theorem lw_p25 : lw_okq (⟨"NextFigures$Play", "toldBy", "(II)I"⟩, 14) := ⟨⟨by decide +kernel, by decide +kernel⟩, List.mem_of_getElem? (i := 128) (by decide +kernel), List.mem_of_getElem? (i := 570) (by decide +kernel), List.mem_of_getElem? (i := 571) (by decide +kernel)⟩
theorem lw_p26 : lw_okq (⟨"NextFigures", "isJoinedTo", "(II)Z"⟩, 7) := ⟨⟨by decide +kernel, by decide +kernel⟩, List.mem_of_getElem? (i := 18) (by decide +kernel), List.mem_of_getElem? (i := 583) (by decide +kernel), List.mem_of_getElem? (i := 584) (by decide +kernel)⟩
theorem lw_p27 : lw_okq (⟨"NextFigures$Play", "compare", "(IIIII)V"⟩, 14) := ⟨⟨by decide +kernel, by decide +kernel⟩, List.mem_of_getElem? (i := 128) (by decide +kernel), List.mem_of_getElem? (i := 592) (by decide +kernel), List.mem_of_getElem? (i := 593) (by decide +kernel)⟩
theorem lw_p28 : lw_okq (⟨"NextFigures$Play", "missOf", "(I)I"⟩, 14) := ⟨⟨by decide +kernel, by decide +kernel⟩, List.mem_of_getElem? (i := 128) (by decide +kernel), List.mem_of_getElem? (i := 601) (by decide +kernel), List.mem_of_getElem? (i := 602) (by decide +kernel)⟩
theorem lw_p29 : lw_okq (⟨"NextFigures$Play", "worstDay", "(II)I"⟩, 14) := ⟨⟨by decide +kernel, by decide +kernel⟩, List.mem_of_getElem? (i := 128) (by decide +kernel), List.mem_of_getElem? (i := 613) (by decide +kernel), List.mem_of_getElem? (i := 614) (by decide +kernel)⟩
theorem lw_p30 : lw_okq (⟨"NextFigures$Grid", "run", "(IIIII)V"⟩, 10) := ⟨⟨by decide +kernel, by decide +kernel⟩, List.mem_of_getElem? (i := 201) (by decide +kernel), List.mem_of_getElem? (i := 626) (by decide +kernel), List.mem_of_getElem? (i := 627) (by decide +kernel)⟩
theorem lw_p31 : lw_okq (⟨"NextFigures$Grid", "restart", "()V"⟩, 10) := ⟨⟨by decide +kernel, by decide +kernel⟩, List.mem_of_getElem? (i := 201) (by decide +kernel), List.mem_of_getElem? (i := 631) (by decide +kernel), List.mem_of_getElem? (i := 632) (by decide +kernel)⟩
def lw_privs_2 : List (MethodName × Nat) := [(⟨"NextFigures$View", "open", "(II)V"⟩, 3), (⟨"NextFigures$View", "foretell", "(IIII)I"⟩, 3), (⟨"NextFigures$View", "bySame", "(II)I"⟩, 3), (⟨"NextFigures$View", "byMean", "(I)I"⟩, 3), (⟨"NextFigures$View", "byStep", "(III)I"⟩, 3), (⟨"NextFigures$View", "byLike", "(II)I"⟩, 3), (⟨"NextFigures$Rows", "isFeast", "(I)Z"⟩, 8), (⟨"NextFigures$Play", "join", "(II)I"⟩, 14), (⟨"NextFigures$Play", "weightOf", "(III)I"⟩, 14), (⟨"NextFigures$Play", "toldBy", "(II)I"⟩, 14), (⟨"NextFigures", "isJoinedTo", "(II)Z"⟩, 7), (⟨"NextFigures$Play", "compare", "(IIIII)V"⟩, 14), (⟨"NextFigures$Play", "missOf", "(I)I"⟩, 14), (⟨"NextFigures$Play", "worstDay", "(II)I"⟩, 14), (⟨"NextFigures$Grid", "run", "(IIIII)V"⟩, 10), (⟨"NextFigures$Grid", "restart", "()V"⟩, 10)]
theorem lw_r2 : ∀ q ∈ lw_privs_2, lw_okq q := List.forall_mem_cons.mpr ⟨lw_p16, List.forall_mem_cons.mpr ⟨lw_p17, List.forall_mem_cons.mpr ⟨lw_p18, List.forall_mem_cons.mpr ⟨lw_p19, List.forall_mem_cons.mpr ⟨lw_p20, List.forall_mem_cons.mpr ⟨lw_p21, List.forall_mem_cons.mpr ⟨lw_p22, List.forall_mem_cons.mpr ⟨lw_p23, List.forall_mem_cons.mpr ⟨lw_p24, List.forall_mem_cons.mpr ⟨lw_p25, List.forall_mem_cons.mpr ⟨lw_p26, List.forall_mem_cons.mpr ⟨lw_p27, List.forall_mem_cons.mpr ⟨lw_p28, List.forall_mem_cons.mpr ⟨lw_p29, List.forall_mem_cons.mpr ⟨lw_p30, List.forall_mem_cons.mpr ⟨lw_p31, fun _ h => absurd h List.not_mem_nil⟩⟩⟩⟩⟩⟩⟩⟩⟩⟩⟩⟩⟩⟩⟩⟩
theorem lw_p32 : lw_okq (⟨"NextFigures$Grid", "follow", "()V"⟩, 10) := ⟨⟨by decide +kernel, by decide +kernel⟩, List.mem_of_getElem? (i := 201) (by decide +kernel), List.mem_of_getElem? (i := 639) (by decide +kernel), List.mem_of_getElem? (i := 640) (by decide +kernel)⟩
theorem lw_p33 : lw_okq (⟨"NextFigures$Grid", "take", "(I)V"⟩, 10) := ⟨⟨by decide +kernel, by decide +kernel⟩, List.mem_of_getElem? (i := 201) (by decide +kernel), List.mem_of_getElem? (i := 643) (by decide +kernel), List.mem_of_getElem? (i := 644) (by decide +kernel)⟩
theorem lw_p34 : lw_okq (⟨"NextFigures$Grid", "score", "(III)V"⟩, 10) := ⟨⟨by decide +kernel, by decide +kernel⟩, List.mem_of_getElem? (i := 201) (by decide +kernel), List.mem_of_getElem? (i := 650) (by decide +kernel), List.mem_of_getElem? (i := 651) (by decide +kernel)⟩
theorem lw_p35 : lw_okq (⟨"NextFigures$Grid", "stepTold", "(II)I"⟩, 10) := ⟨⟨by decide +kernel, by decide +kernel⟩, List.mem_of_getElem? (i := 201) (by decide +kernel), List.mem_of_getElem? (i := 654) (by decide +kernel), List.mem_of_getElem? (i := 655) (by decide +kernel)⟩
theorem lw_p36 : lw_okq (⟨"NextFigures$Grid", "bestPoint", "()I"⟩, 10) := ⟨⟨by decide +kernel, by decide +kernel⟩, List.mem_of_getElem? (i := 201) (by decide +kernel), List.mem_of_getElem? (i := 661) (by decide +kernel), List.mem_of_getElem? (i := 662) (by decide +kernel)⟩
theorem lw_p37 : lw_okq (⟨"NextFigures$Play", "sortMiss", "(I)V"⟩, 14) := ⟨⟨by decide +kernel, by decide +kernel⟩, List.mem_of_getElem? (i := 128) (by decide +kernel), List.mem_of_getElem? (i := 672) (by decide +kernel), List.mem_of_getElem? (i := 673) (by decide +kernel)⟩
theorem lw_p38 : lw_okq (⟨"NextFigures$Play", "sortIn", "(I)V"⟩, 14) := ⟨⟨by decide +kernel, by decide +kernel⟩, List.mem_of_getElem? (i := 128) (by decide +kernel), List.mem_of_getElem? (i := 676) (by decide +kernel), List.mem_of_getElem? (i := 677) (by decide +kernel)⟩
theorem lw_p39 : lw_okq (⟨"NextFigures$Play", "spanOf", "(I)I"⟩, 14) := ⟨⟨by decide +kernel, by decide +kernel⟩, List.mem_of_getElem? (i := 128) (by decide +kernel), List.mem_of_getElem? (i := 680) (by decide +kernel), List.mem_of_getElem? (i := 681) (by decide +kernel)⟩
theorem lw_p40 : lw_okq (⟨"NextFigures$Play", "leastOver", "(II)I"⟩, 14) := ⟨⟨by decide +kernel, by decide +kernel⟩, List.mem_of_getElem? (i := 128) (by decide +kernel), List.mem_of_getElem? (i := 684) (by decide +kernel), List.mem_of_getElem? (i := 685) (by decide +kernel)⟩
theorem lw_p41 : lw_okq (⟨"NextFigures$Play", "leastCostly", "(IIIII)I"⟩, 14) := ⟨⟨by decide +kernel, by decide +kernel⟩, List.mem_of_getElem? (i := 128) (by decide +kernel), List.mem_of_getElem? (i := 722) (by decide +kernel), List.mem_of_getElem? (i := 723) (by decide +kernel)⟩
theorem lw_p42 : lw_okq (⟨"NextFigures$Play", "costOf", "(IIIII)I"⟩, 14) := ⟨⟨by decide +kernel, by decide +kernel⟩, List.mem_of_getElem? (i := 128) (by decide +kernel), List.mem_of_getElem? (i := 726) (by decide +kernel), List.mem_of_getElem? (i := 727) (by decide +kernel)⟩
theorem lw_p43 : lw_okq (⟨"NextFigures$Play", "gather", "(II)V"⟩, 14) := ⟨⟨by decide +kernel, by decide +kernel⟩, List.mem_of_getElem? (i := 128) (by decide +kernel), List.mem_of_getElem? (i := 734) (by decide +kernel), List.mem_of_getElem? (i := 735) (by decide +kernel)⟩
theorem lw_p44 : lw_okq (⟨"NextFigures$Rows", "changeOf", "(III)I"⟩, 8) := ⟨⟨by decide +kernel, by decide +kernel⟩, List.mem_of_getElem? (i := 26) (by decide +kernel), List.mem_of_getElem? (i := 750) (by decide +kernel), List.mem_of_getElem? (i := 751) (by decide +kernel)⟩
theorem lw_p45 : lw_okq (⟨"NextFigures$Notes", "add", "(IIIIII)I"⟩, 8) := ⟨⟨by decide +kernel, by decide +kernel⟩, List.mem_of_getElem? (i := 243) (by decide +kernel), List.mem_of_getElem? (i := 759) (by decide +kernel), List.mem_of_getElem? (i := 760) (by decide +kernel)⟩
theorem lw_p46 : lw_okq (⟨"NextFigures", "figureOfNote", "(I)I"⟩, 7) := ⟨⟨by decide +kernel, by decide +kernel⟩, List.mem_of_getElem? (i := 18) (by decide +kernel), List.mem_of_getElem? (i := 767) (by decide +kernel), List.mem_of_getElem? (i := 768) (by decide +kernel)⟩
theorem lw_p47 : lw_okq (⟨"NextFigures", "heldOfNote", "(I)I"⟩, 7) := ⟨⟨by decide +kernel, by decide +kernel⟩, List.mem_of_getElem? (i := 18) (by decide +kernel), List.mem_of_getElem? (i := 771) (by decide +kernel), List.mem_of_getElem? (i := 772) (by decide +kernel)⟩
def lw_privs_3 : List (MethodName × Nat) := [(⟨"NextFigures$Grid", "follow", "()V"⟩, 10), (⟨"NextFigures$Grid", "take", "(I)V"⟩, 10), (⟨"NextFigures$Grid", "score", "(III)V"⟩, 10), (⟨"NextFigures$Grid", "stepTold", "(II)I"⟩, 10), (⟨"NextFigures$Grid", "bestPoint", "()I"⟩, 10), (⟨"NextFigures$Play", "sortMiss", "(I)V"⟩, 14), (⟨"NextFigures$Play", "sortIn", "(I)V"⟩, 14), (⟨"NextFigures$Play", "spanOf", "(I)I"⟩, 14), (⟨"NextFigures$Play", "leastOver", "(II)I"⟩, 14), (⟨"NextFigures$Play", "leastCostly", "(IIIII)I"⟩, 14), (⟨"NextFigures$Play", "costOf", "(IIIII)I"⟩, 14), (⟨"NextFigures$Play", "gather", "(II)V"⟩, 14), (⟨"NextFigures$Rows", "changeOf", "(III)I"⟩, 8), (⟨"NextFigures$Notes", "add", "(IIIIII)I"⟩, 8), (⟨"NextFigures", "figureOfNote", "(I)I"⟩, 7), (⟨"NextFigures", "heldOfNote", "(I)I"⟩, 7)]
theorem lw_r3 : ∀ q ∈ lw_privs_3, lw_okq q := List.forall_mem_cons.mpr ⟨lw_p32, List.forall_mem_cons.mpr ⟨lw_p33, List.forall_mem_cons.mpr ⟨lw_p34, List.forall_mem_cons.mpr ⟨lw_p35, List.forall_mem_cons.mpr ⟨lw_p36, List.forall_mem_cons.mpr ⟨lw_p37, List.forall_mem_cons.mpr ⟨lw_p38, List.forall_mem_cons.mpr ⟨lw_p39, List.forall_mem_cons.mpr ⟨lw_p40, List.forall_mem_cons.mpr ⟨lw_p41, List.forall_mem_cons.mpr ⟨lw_p42, List.forall_mem_cons.mpr ⟨lw_p43, List.forall_mem_cons.mpr ⟨lw_p44, List.forall_mem_cons.mpr ⟨lw_p45, List.forall_mem_cons.mpr ⟨lw_p46, List.forall_mem_cons.mpr ⟨lw_p47, fun _ h => absurd h List.not_mem_nil⟩⟩⟩⟩⟩⟩⟩⟩⟩⟩⟩⟩⟩⟩⟩⟩
theorem lw_p48 : lw_okq (⟨"NextFigures$Sheets", "renew", "(III)V"⟩, 4) := ⟨⟨by decide +kernel, by decide +kernel⟩, List.mem_of_getElem? (i := 282) (by decide +kernel), List.mem_of_getElem? (i := 793) (by decide +kernel), List.mem_of_getElem? (i := 794) (by decide +kernel)⟩
theorem lw_p49 : lw_okq (⟨"NextFigures$Sheets", "faultAt", "(III)I"⟩, 4) := ⟨⟨by decide +kernel, by decide +kernel⟩, List.mem_of_getElem? (i := 282) (by decide +kernel), List.mem_of_getElem? (i := 801) (by decide +kernel), List.mem_of_getElem? (i := 802) (by decide +kernel)⟩
theorem lw_p50 : lw_okq (⟨"NextFigures$Sheets", "put", "(III)V"⟩, 4) := ⟨⟨by decide +kernel, by decide +kernel⟩, List.mem_of_getElem? (i := 282) (by decide +kernel), List.mem_of_getElem? (i := 805) (by decide +kernel), List.mem_of_getElem? (i := 806) (by decide +kernel)⟩
theorem lw_p51 : lw_okq (⟨"NextFigures$Sheets", "cell", "(II)I"⟩, 4) := ⟨⟨by decide +kernel, by decide +kernel⟩, List.mem_of_getElem? (i := 282) (by decide +kernel), List.mem_of_getElem? (i := 813) (by decide +kernel), List.mem_of_getElem? (i := 814) (by decide +kernel)⟩
theorem lw_p52 : lw_okq (⟨"NextFigures", "isKnownSo", "(III)Z"⟩, 7) := ⟨⟨by decide +kernel, by decide +kernel⟩, List.mem_of_getElem? (i := 18) (by decide +kernel), List.mem_of_getElem? (i := 817) (by decide +kernel), List.mem_of_getElem? (i := 818) (by decide +kernel)⟩
theorem lw_p53 : lw_okq (⟨"NextFigures", "tellFromSheet", "(IIIII)V"⟩, 7) := ⟨⟨by decide +kernel, by decide +kernel⟩, List.mem_of_getElem? (i := 18) (by decide +kernel), List.mem_of_getElem? (i := 821) (by decide +kernel), List.mem_of_getElem? (i := 822) (by decide +kernel)⟩
theorem lw_p54 : lw_okq (⟨"NextFigures$Rows", "gaps", "()I"⟩, 8) := ⟨⟨by decide +kernel, by decide +kernel⟩, List.mem_of_getElem? (i := 26) (by decide +kernel), List.mem_of_getElem? (i := 836) (by decide +kernel), List.mem_of_getElem? (i := 837) (by decide +kernel)⟩
theorem lw_p55 : lw_okq (⟨"NextFiguresModel", "knownOn", "(III)I"⟩, 40) := ⟨⟨by decide +kernel, by decide +kernel⟩, List.mem_of_getElem? (i := 840) (by decide +kernel), List.mem_of_getElem? (i := 984) (by decide +kernel), List.mem_of_getElem? (i := 985) (by decide +kernel)⟩
theorem lw_p56 : lw_okq (⟨"NextFiguresModel", "tellFigure", "(III)V"⟩, 40) := ⟨⟨by decide +kernel, by decide +kernel⟩, List.mem_of_getElem? (i := 840) (by decide +kernel), List.mem_of_getElem? (i := 994) (by decide +kernel), List.mem_of_getElem? (i := 995) (by decide +kernel)⟩
theorem lw_p57 : lw_okq (⟨"NextFiguresModel", "next", "()V"⟩, 40) := ⟨⟨by decide +kernel, by decide +kernel⟩, List.mem_of_getElem? (i := 840) (by decide +kernel), List.mem_of_getElem? (i := 1018) (by decide +kernel), List.mem_of_getElem? (i := 1019) (by decide +kernel)⟩
theorem lw_p58 : lw_okq (⟨"NextFiguresModel", "byteAt", "(I)I"⟩, 40) := ⟨⟨by decide +kernel, by decide +kernel⟩, List.mem_of_getElem? (i := 840) (by decide +kernel), List.mem_of_getElem? (i := 1022) (by decide +kernel), List.mem_of_getElem? (i := 1023) (by decide +kernel)⟩
theorem lw_p59 : lw_okq (⟨"NextFiguresModel", "fails", "(I)V"⟩, 40) := ⟨⟨by decide +kernel, by decide +kernel⟩, List.mem_of_getElem? (i := 840) (by decide +kernel), List.mem_of_getElem? (i := 1030) (by decide +kernel), List.mem_of_getElem? (i := 1031) (by decide +kernel)⟩
theorem lw_p60 : lw_okq (⟨"NextFiguresModel", "readLine", "()V"⟩, 40) := ⟨⟨by decide +kernel, by decide +kernel⟩, List.mem_of_getElem? (i := 840) (by decide +kernel), List.mem_of_getElem? (i := 1034) (by decide +kernel), List.mem_of_getElem? (i := 1035) (by decide +kernel)⟩
theorem lw_p61 : lw_okq (⟨"NextFiguresModel", "nameHere", "()I"⟩, 40) := ⟨⟨by decide +kernel, by decide +kernel⟩, List.mem_of_getElem? (i := 840) (by decide +kernel), List.mem_of_getElem? (i := 1038) (by decide +kernel), List.mem_of_getElem? (i := 1039) (by decide +kernel)⟩
theorem lw_p62 : lw_okq (⟨"NextFiguresModel", "number", "(II)I"⟩, 40) := ⟨⟨by decide +kernel, by decide +kernel⟩, List.mem_of_getElem? (i := 840) (by decide +kernel), List.mem_of_getElem? (i := 1042) (by decide +kernel), List.mem_of_getElem? (i := 1043) (by decide +kernel)⟩
theorem lw_p63 : lw_okq (⟨"NextFiguresModel", "isTeller", "(I)Z"⟩, 40) := ⟨⟨by decide +kernel, by decide +kernel⟩, List.mem_of_getElem? (i := 840) (by decide +kernel), List.mem_of_getElem? (i := 1054) (by decide +kernel), List.mem_of_getElem? (i := 1055) (by decide +kernel)⟩
def lw_privs_4 : List (MethodName × Nat) := [(⟨"NextFigures$Sheets", "renew", "(III)V"⟩, 4), (⟨"NextFigures$Sheets", "faultAt", "(III)I"⟩, 4), (⟨"NextFigures$Sheets", "put", "(III)V"⟩, 4), (⟨"NextFigures$Sheets", "cell", "(II)I"⟩, 4), (⟨"NextFigures", "isKnownSo", "(III)Z"⟩, 7), (⟨"NextFigures", "tellFromSheet", "(IIIII)V"⟩, 7), (⟨"NextFigures$Rows", "gaps", "()I"⟩, 8), (⟨"NextFiguresModel", "knownOn", "(III)I"⟩, 40), (⟨"NextFiguresModel", "tellFigure", "(III)V"⟩, 40), (⟨"NextFiguresModel", "next", "()V"⟩, 40), (⟨"NextFiguresModel", "byteAt", "(I)I"⟩, 40), (⟨"NextFiguresModel", "fails", "(I)V"⟩, 40), (⟨"NextFiguresModel", "readLine", "()V"⟩, 40), (⟨"NextFiguresModel", "nameHere", "()I"⟩, 40), (⟨"NextFiguresModel", "number", "(II)I"⟩, 40), (⟨"NextFiguresModel", "isTeller", "(I)Z"⟩, 40)]
theorem lw_r4 : ∀ q ∈ lw_privs_4, lw_okq q := List.forall_mem_cons.mpr ⟨lw_p48, List.forall_mem_cons.mpr ⟨lw_p49, List.forall_mem_cons.mpr ⟨lw_p50, List.forall_mem_cons.mpr ⟨lw_p51, List.forall_mem_cons.mpr ⟨lw_p52, List.forall_mem_cons.mpr ⟨lw_p53, List.forall_mem_cons.mpr ⟨lw_p54, List.forall_mem_cons.mpr ⟨lw_p55, List.forall_mem_cons.mpr ⟨lw_p56, List.forall_mem_cons.mpr ⟨lw_p57, List.forall_mem_cons.mpr ⟨lw_p58, List.forall_mem_cons.mpr ⟨lw_p59, List.forall_mem_cons.mpr ⟨lw_p60, List.forall_mem_cons.mpr ⟨lw_p61, List.forall_mem_cons.mpr ⟨lw_p62, List.forall_mem_cons.mpr ⟨lw_p63, fun _ h => absurd h List.not_mem_nil⟩⟩⟩⟩⟩⟩⟩⟩⟩⟩⟩⟩⟩⟩⟩⟩
theorem lw_p64 : lw_okq (⟨"NextFiguresModel", "tellBy", "(IIII)I"⟩, 40) := ⟨⟨by decide +kernel, by decide +kernel⟩, List.mem_of_getElem? (i := 840) (by decide +kernel), List.mem_of_getElem? (i := 1066) (by decide +kernel), List.mem_of_getElem? (i := 1067) (by decide +kernel)⟩
theorem lw_p65 : lw_okq (⟨"NextFiguresModel", "tellJoined", "(IIII)I"⟩, 40) := ⟨⟨by decide +kernel, by decide +kernel⟩, List.mem_of_getElem? (i := 840) (by decide +kernel), List.mem_of_getElem? (i := 1070) (by decide +kernel), List.mem_of_getElem? (i := 1071) (by decide +kernel)⟩
theorem lw_p66 : lw_okq (⟨"NextFiguresModel", "tellPlain", "(IIIIII)I"⟩, 40) := ⟨⟨by decide +kernel, by decide +kernel⟩, List.mem_of_getElem? (i := 840) (by decide +kernel), List.mem_of_getElem? (i := 1074) (by decide +kernel), List.mem_of_getElem? (i := 1075) (by decide +kernel)⟩
theorem lw_p67 : lw_okq (⟨"NextFiguresModel", "tellSame", "(IIII)I"⟩, 40) := ⟨⟨by decide +kernel, by decide +kernel⟩, List.mem_of_getElem? (i := 840) (by decide +kernel), List.mem_of_getElem? (i := 1078) (by decide +kernel), List.mem_of_getElem? (i := 1079) (by decide +kernel)⟩
theorem lw_p68 : lw_okq (⟨"NextFiguresModel", "tellMean", "(III)I"⟩, 40) := ⟨⟨by decide +kernel, by decide +kernel⟩, List.mem_of_getElem? (i := 840) (by decide +kernel), List.mem_of_getElem? (i := 1082) (by decide +kernel), List.mem_of_getElem? (i := 1083) (by decide +kernel)⟩
theorem lw_p69 : lw_okq (⟨"NextFiguresModel", "tellStep", "(IIIII)I"⟩, 40) := ⟨⟨by decide +kernel, by decide +kernel⟩, List.mem_of_getElem? (i := 840) (by decide +kernel), List.mem_of_getElem? (i := 1086) (by decide +kernel), List.mem_of_getElem? (i := 1087) (by decide +kernel)⟩
theorem lw_p70 : lw_okq (⟨"NextFiguresModel", "tellLike", "(IIII)I"⟩, 40) := ⟨⟨by decide +kernel, by decide +kernel⟩, List.mem_of_getElem? (i := 840) (by decide +kernel), List.mem_of_getElem? (i := 1093) (by decide +kernel), List.mem_of_getElem? (i := 1094) (by decide +kernel)⟩
theorem lw_p71 : lw_okq (⟨"NextFiguresModel", "isFeast", "(I)Z"⟩, 40) := ⟨⟨by decide +kernel, by decide +kernel⟩, List.mem_of_getElem? (i := 840) (by decide +kernel), List.mem_of_getElem? (i := 1097) (by decide +kernel), List.mem_of_getElem? (i := 1098) (by decide +kernel)⟩
theorem lw_p72 : lw_okq (⟨"NextFiguresModel", "weightOf", "(IIIII)I"⟩, 40) := ⟨⟨by decide +kernel, by decide +kernel⟩, List.mem_of_getElem? (i := 840) (by decide +kernel), List.mem_of_getElem? (i := 1101) (by decide +kernel), List.mem_of_getElem? (i := 1102) (by decide +kernel)⟩
theorem lw_p73 : lw_okq (⟨"NextFiguresModel", "isAsked", "(IIIII)Z"⟩, 40) := ⟨⟨by decide +kernel, by decide +kernel⟩, List.mem_of_getElem? (i := 840) (by decide +kernel), List.mem_of_getElem? (i := 1113) (by decide +kernel), List.mem_of_getElem? (i := 1114) (by decide +kernel)⟩
theorem lw_p74 : lw_okq (⟨"NextFiguresModel", "layMisses", "(IIIII)V"⟩, 40) := ⟨⟨by decide +kernel, by decide +kernel⟩, List.mem_of_getElem? (i := 840) (by decide +kernel), List.mem_of_getElem? (i := 1120) (by decide +kernel), List.mem_of_getElem? (i := 1121) (by decide +kernel)⟩
theorem lw_p75 : lw_okq (⟨"NextFiguresModel", "layDay", "(III)V"⟩, 40) := ⟨⟨by decide +kernel, by decide +kernel⟩, List.mem_of_getElem? (i := 840) (by decide +kernel), List.mem_of_getElem? (i := 1124) (by decide +kernel), List.mem_of_getElem? (i := 1125) (by decide +kernel)⟩
theorem lw_p76 : lw_okq (⟨"NextFiguresModel", "manyIn", "(II)I"⟩, 40) := ⟨⟨by decide +kernel, by decide +kernel⟩, List.mem_of_getElem? (i := 840) (by decide +kernel), List.mem_of_getElem? (i := 1135) (by decide +kernel), List.mem_of_getElem? (i := 1136) (by decide +kernel)⟩
theorem lw_p77 : lw_okq (⟨"NextFiguresModel", "sumIn", "(II)I"⟩, 40) := ⟨⟨by decide +kernel, by decide +kernel⟩, List.mem_of_getElem? (i := 840) (by decide +kernel), List.mem_of_getElem? (i := 1139) (by decide +kernel), List.mem_of_getElem? (i := 1140) (by decide +kernel)⟩
theorem lw_p78 : lw_okq (⟨"NextFiguresModel", "spanOf", "(III)I"⟩, 40) := ⟨⟨by decide +kernel, by decide +kernel⟩, List.mem_of_getElem? (i := 840) (by decide +kernel), List.mem_of_getElem? (i := 1157) (by decide +kernel), List.mem_of_getElem? (i := 1158) (by decide +kernel)⟩
theorem lw_p79 : lw_okq (⟨"NextFiguresModel", "within", "(III)I"⟩, 40) := ⟨⟨by decide +kernel, by decide +kernel⟩, List.mem_of_getElem? (i := 840) (by decide +kernel), List.mem_of_getElem? (i := 1161) (by decide +kernel), List.mem_of_getElem? (i := 1162) (by decide +kernel)⟩
def lw_privs_5 : List (MethodName × Nat) := [(⟨"NextFiguresModel", "tellBy", "(IIII)I"⟩, 40), (⟨"NextFiguresModel", "tellJoined", "(IIII)I"⟩, 40), (⟨"NextFiguresModel", "tellPlain", "(IIIIII)I"⟩, 40), (⟨"NextFiguresModel", "tellSame", "(IIII)I"⟩, 40), (⟨"NextFiguresModel", "tellMean", "(III)I"⟩, 40), (⟨"NextFiguresModel", "tellStep", "(IIIII)I"⟩, 40), (⟨"NextFiguresModel", "tellLike", "(IIII)I"⟩, 40), (⟨"NextFiguresModel", "isFeast", "(I)Z"⟩, 40), (⟨"NextFiguresModel", "weightOf", "(IIIII)I"⟩, 40), (⟨"NextFiguresModel", "isAsked", "(IIIII)Z"⟩, 40), (⟨"NextFiguresModel", "layMisses", "(IIIII)V"⟩, 40), (⟨"NextFiguresModel", "layDay", "(III)V"⟩, 40), (⟨"NextFiguresModel", "manyIn", "(II)I"⟩, 40), (⟨"NextFiguresModel", "sumIn", "(II)I"⟩, 40), (⟨"NextFiguresModel", "spanOf", "(III)I"⟩, 40), (⟨"NextFiguresModel", "within", "(III)I"⟩, 40)]
theorem lw_r5 : ∀ q ∈ lw_privs_5, lw_okq q := List.forall_mem_cons.mpr ⟨lw_p64, List.forall_mem_cons.mpr ⟨lw_p65, List.forall_mem_cons.mpr ⟨lw_p66, List.forall_mem_cons.mpr ⟨lw_p67, List.forall_mem_cons.mpr ⟨lw_p68, List.forall_mem_cons.mpr ⟨lw_p69, List.forall_mem_cons.mpr ⟨lw_p70, List.forall_mem_cons.mpr ⟨lw_p71, List.forall_mem_cons.mpr ⟨lw_p72, List.forall_mem_cons.mpr ⟨lw_p73, List.forall_mem_cons.mpr ⟨lw_p74, List.forall_mem_cons.mpr ⟨lw_p75, List.forall_mem_cons.mpr ⟨lw_p76, List.forall_mem_cons.mpr ⟨lw_p77, List.forall_mem_cons.mpr ⟨lw_p78, List.forall_mem_cons.mpr ⟨lw_p79, fun _ h => absurd h List.not_mem_nil⟩⟩⟩⟩⟩⟩⟩⟩⟩⟩⟩⟩⟩⟩⟩⟩
theorem lw_p80 : lw_okq (⟨"NextFiguresModel", "cameTo", "(I)I"⟩, 40) := ⟨⟨by decide +kernel, by decide +kernel⟩, List.mem_of_getElem? (i := 840) (by decide +kernel), List.mem_of_getElem? (i := 1208) (by decide +kernel), List.mem_of_getElem? (i := 1209) (by decide +kernel)⟩
theorem lw_p81 : lw_okq (⟨"NextFiguresModel", "heldOf", "(I)I"⟩, 40) := ⟨⟨by decide +kernel, by decide +kernel⟩, List.mem_of_getElem? (i := 840) (by decide +kernel), List.mem_of_getElem? (i := 1212) (by decide +kernel), List.mem_of_getElem? (i := 1213) (by decide +kernel)⟩
def lw_privs_6 : List (MethodName × Nat) := [(⟨"NextFiguresModel", "cameTo", "(I)I"⟩, 40), (⟨"NextFiguresModel", "heldOf", "(I)I"⟩, 40)]
theorem lw_r6 : ∀ q ∈ lw_privs_6, lw_okq q := List.forall_mem_cons.mpr ⟨lw_p80, List.forall_mem_cons.mpr ⟨lw_p81, fun _ h => absurd h List.not_mem_nil⟩⟩
def lw_privs : List (MethodName × Nat) := lw_privs_1 ++ (lw_privs_2 ++ (lw_privs_3 ++ (lw_privs_4 ++ (lw_privs_5 ++ (lw_privs_6)))))
def lw_tbl : List Cond := k2_sels lw_privs ++ tables_1
theorem lw_privs_ok : ∀ q ∈ lw_privs, lw_okq q := by
  show ∀ q ∈ lw_privs_1 ++ (lw_privs_2 ++ (lw_privs_3 ++ (lw_privs_4 ++ (lw_privs_5 ++ (lw_privs_6))))), lw_okq q
  exact List.forall_mem_append.mpr ⟨lw_r1, List.forall_mem_append.mpr ⟨lw_r2, List.forall_mem_append.mpr ⟨lw_r3, List.forall_mem_append.mpr ⟨lw_r4, List.forall_mem_append.mpr ⟨lw_r5, lw_r6⟩⟩⟩⟩⟩
def RX0 : String := "NextFigures$Grid"
def TX0 : u_T := fun k => match k with
  | 0 => ("NextFigures$Grid", "rows", "LNextFigures$Rows;", true)
  | 1 => ("NextFigures$Grid", "view", "LNextFigures$View;", true)
  | 2 => ("NextFigures$Grid", "size", "I", false)
  | 3 => ("NextFigures$Grid", "days", "[I", true)
  | 4 => ("NextFigures$Grid", "sums", "[I", true)
  | 5 => ("NextFigures$Grid", "followed", "[I", true)
  | 6 => ("NextFigures$Grid", "followedDays", "I", false)
  | 7 => ("NextFigures$Grid", "seen", "I", false)
  | 8 => ("NextFigures$Grid", "level", "[J", true)
  | _ => ("NextFigures$Grid", "slope", "[J", true)
def tyX0 : Nat → FieldType := fun k => match k with
  | 0 => .object "NextFigures$Rows"
  | 1 => .object "NextFigures$View"
  | 2 => .int
  | 3 => .array .int
  | 4 => .array .int
  | 5 => .array .int
  | 6 => .int
  | 7 => .int
  | 8 => .array .long
  | _ => .array .long
theorem nmX0 : ∀ a, a < 10 → ∀ b, b < 10 → a ≠ b → (TX0 a).2.1 ≠ (TX0 b).2.1 := by decide +kernel
theorem tyX0_ok : ∀ k, k < 10 → parseFieldDescriptor (TX0 k).2.2.1 = some (tyX0 k) := by decide +kernel
abbrev cX0_init : ByteArray := prog_2_method_1_code
def yX0_init : MethodName := ⟨RX0, "<init>", "(LNextFigures$Rows;)V"⟩
abbrev cX0_run : ByteArray := prog_2_method_2_code
def yX0_run : MethodName := ⟨RX0, "run", "(IIIII)V"⟩
abbrev cX0_restart : ByteArray := prog_2_method_3_code
def yX0_restart : MethodName := ⟨RX0, "restart", "()V"⟩
abbrev cX0_follow : ByteArray := prog_2_method_4_code
def yX0_follow : MethodName := ⟨RX0, "follow", "()V"⟩
abbrev cX0_take : ByteArray := prog_2_method_5_code
def yX0_take : MethodName := ⟨RX0, "take", "(I)V"⟩
abbrev cX0_score : ByteArray := prog_2_method_6_code
def yX0_score : MethodName := ⟨RX0, "score", "(III)V"⟩
abbrev cX0_stepTold : ByteArray := prog_2_method_7_code
def yX0_stepTold : MethodName := ⟨RX0, "stepTold", "(II)I"⟩
abbrev cX0_bestPoint : ByteArray := prog_2_method_8_code
def yX0_bestPoint : MethodName := ⟨RX0, "bestPoint", "()I"⟩
def RX1 : String := "NextFigures$Lines"
def TX1 : u_T := fun k => match k with
  | 0 => ("NextFigures$Lines", "size", "I", false)
  | 1 => ("NextFigures$Lines", "kind", "[I", true)
  | 2 => ("NextFigures$Lines", "first", "[I", true)
  | _ => ("NextFigures$Lines", "second", "[I", true)
def tyX1 : Nat → FieldType := fun k => match k with
  | 0 => .int
  | 1 => .array .int
  | 2 => .array .int
  | _ => .array .int
theorem nmX1 : ∀ a, a < 4 → ∀ b, b < 4 → a ≠ b → (TX1 a).2.1 ≠ (TX1 b).2.1 := by decide +kernel
theorem tyX1_ok : ∀ k, k < 4 → parseFieldDescriptor (TX1 k).2.2.1 = some (tyX1 k) := by decide +kernel
abbrev cX1_init : ByteArray := prog_3_method_1_code
def yX1_init : MethodName := ⟨RX1, "<init>", "()V"⟩
abbrev cX1_add : ByteArray := prog_3_method_2_code
def yX1_add : MethodName := ⟨RX1, "add", "(III)V"⟩
abbrev cX1_copy : ByteArray := prog_3_method_3_code
def yX1_copy : MethodName := ⟨RX1, "copy", "(LNextFigures$Lines;)V"⟩
def RX2 : String := "NextFigures$Notes"
def TX2 : u_T := fun k => match k with
  | 0 => ("NextFigures$Notes", "size", "I", false)
  | 1 => ("NextFigures$Notes", "shop", "[I", true)
  | 2 => ("NextFigures$Notes", "teller", "[I", true)
  | 3 => ("NextFigures$Notes", "on", "[I", true)
  | 4 => ("NextFigures$Notes", "day", "[I", true)
  | 5 => ("NextFigures$Notes", "told", "[I", true)
  | 6 => ("NextFigures$Notes", "width", "[I", true)
  | _ => ("NextFigures$Notes", "acted", "[Z", true)
def tyX2 : Nat → FieldType := fun k => match k with
  | 0 => .int
  | 1 => .array .int
  | 2 => .array .int
  | 3 => .array .int
  | 4 => .array .int
  | 5 => .array .int
  | 6 => .array .int
  | _ => .array .boolean
theorem nmX2 : ∀ a, a < 8 → ∀ b, b < 8 → a ≠ b → (TX2 a).2.1 ≠ (TX2 b).2.1 := by decide +kernel
theorem tyX2_ok : ∀ k, k < 8 → parseFieldDescriptor (TX2 k).2.2.1 = some (tyX2 k) := by decide +kernel
abbrev cX2_init : ByteArray := prog_4_method_1_code
def yX2_init : MethodName := ⟨RX2, "<init>", "()V"⟩
abbrev cX2_add : ByteArray := prog_4_method_2_code
def yX2_add : MethodName := ⟨RX2, "add", "(IIIIII)I"⟩
def RX3 : String := "NextFigures$Play"
def TX3 : u_T := fun k => match k with
  | 0 => ("NextFigures$Play", "rows", "LNextFigures$Rows;", true)
  | 1 => ("NextFigures$Play", "tellers", "LNextFigures$Lines;", true)
  | 2 => ("NextFigures$Play", "view", "LNextFigures$View;", true)
  | 3 => ("NextFigures$Play", "shop", "I", false)
  | 4 => ("NextFigures$Play", "h", "I", false)
  | 5 => ("NextFigures$Play", "told", "[I", true)
  | 6 => ("NextFigures$Play", "differences", "[I", true)
  | 7 => ("NextFigures$Play", "missed", "I", false)
  | 8 => ("NextFigures$Play", "missSum", "I", false)
  | 9 => ("NextFigures$Play", "sorted", "[I", true)
  | 10 => ("NextFigures$Play", "sortedSize", "I", false)
  | 11 => ("NextFigures$Play", "choice", "[I", true)
  | 12 => ("NextFigures$Play", "deedCount", "I", false)
  | _ => ("NextFigures$Play", "deedSum", "I", false)
def tyX3 : Nat → FieldType := fun k => match k with
  | 0 => .object "NextFigures$Rows"
  | 1 => .object "NextFigures$Lines"
  | 2 => .object "NextFigures$View"
  | 3 => .int
  | 4 => .int
  | 5 => .array .int
  | 6 => .array .int
  | 7 => .int
  | 8 => .int
  | 9 => .array .int
  | 10 => .int
  | 11 => .array .int
  | 12 => .int
  | _ => .int
theorem nmX3 : ∀ a, a < 14 → ∀ b, b < 14 → a ≠ b → (TX3 a).2.1 ≠ (TX3 b).2.1 := by decide +kernel
theorem tyX3_ok : ∀ k, k < 14 → parseFieldDescriptor (TX3 k).2.2.1 = some (tyX3 k) := by decide +kernel
abbrev cX3_init : ByteArray := prog_5_method_1_code
def yX3_init : MethodName := ⟨RX3, "<init>", "(LNextFigures$Rows;LNextFigures$Lines;)V"⟩
abbrev cX3_run : ByteArray := prog_5_method_2_code
def yX3_run : MethodName := ⟨RX3, "run", "(IIIII)V"⟩
abbrev cX3_playPlain : ByteArray := prog_5_method_3_code
def yX3_playPlain : MethodName := ⟨RX3, "playPlain", "(IIII)V"⟩
abbrev cX3_join : ByteArray := prog_5_method_4_code
def yX3_join : MethodName := ⟨RX3, "join", "(II)I"⟩
abbrev cX3_weightOf : ByteArray := prog_5_method_5_code
def yX3_weightOf : MethodName := ⟨RX3, "weightOf", "(III)I"⟩
abbrev cX3_toldBy : ByteArray := prog_5_method_6_code
def yX3_toldBy : MethodName := ⟨RX3, "toldBy", "(II)I"⟩
abbrev cX3_compare : ByteArray := prog_5_method_7_code
def yX3_compare : MethodName := ⟨RX3, "compare", "(IIIII)V"⟩
abbrev cX3_missOf : ByteArray := prog_5_method_8_code
def yX3_missOf : MethodName := ⟨RX3, "missOf", "(I)I"⟩
abbrev cX3_worstDay : ByteArray := prog_5_method_9_code
def yX3_worstDay : MethodName := ⟨RX3, "worstDay", "(II)I"⟩
abbrev cX3_sortMiss : ByteArray := prog_5_method_10_code
def yX3_sortMiss : MethodName := ⟨RX3, "sortMiss", "(I)V"⟩
abbrev cX3_sortIn : ByteArray := prog_5_method_11_code
def yX3_sortIn : MethodName := ⟨RX3, "sortIn", "(I)V"⟩
abbrev cX3_leastOver : ByteArray := prog_5_method_12_code
def yX3_leastOver : MethodName := ⟨RX3, "leastOver", "(II)I"⟩
abbrev cX3_spanOf : ByteArray := prog_5_method_13_code
def yX3_spanOf : MethodName := ⟨RX3, "spanOf", "(I)I"⟩
abbrev cX3_leastCostly : ByteArray := prog_5_method_14_code
def yX3_leastCostly : MethodName := ⟨RX3, "leastCostly", "(IIIII)I"⟩
abbrev cX3_costOf : ByteArray := prog_5_method_15_code
def yX3_costOf : MethodName := ⟨RX3, "costOf", "(IIIII)I"⟩
abbrev cX3_gather : ByteArray := prog_5_method_16_code
def yX3_gather : MethodName := ⟨RX3, "gather", "(II)V"⟩
abbrev cX3_waysFrom : ByteArray := prog_5_method_17_code
def yX3_waysFrom : MethodName := ⟨RX3, "waysFrom", "([IIIII)I"⟩
def RX4 : String := "NextFigures$Rows"
def TX4 : u_T := fun k => match k with
  | 0 => ("NextFigures$Rows", "now", "I", false)
  | 1 => ("NextFigures$Rows", "tellings", "I", false)
  | 2 => ("NextFigures$Rows", "latest", "[I", true)
  | 3 => ("NextFigures$Rows", "earlier", "[I", true)
  | 4 => ("NextFigures$Rows", "toldOn", "[I", true)
  | 5 => ("NextFigures$Rows", "value", "[I", true)
  | 6 => ("NextFigures$Rows", "feasts", "[Z", true)
  | _ => ("NextFigures$Rows", "deeds", "[Z", true)
def tyX4 : Nat → FieldType := fun k => match k with
  | 0 => .int
  | 1 => .int
  | 2 => .array .int
  | 3 => .array .int
  | 4 => .array .int
  | 5 => .array .int
  | 6 => .array .boolean
  | _ => .array .boolean
theorem nmX4 : ∀ a, a < 8 → ∀ b, b < 8 → a ≠ b → (TX4 a).2.1 ≠ (TX4 b).2.1 := by decide +kernel
theorem tyX4_ok : ∀ k, k < 8 → parseFieldDescriptor (TX4 k).2.2.1 = some (tyX4 k) := by decide +kernel
abbrev cX4_init : ByteArray := prog_6_method_1_code
def yX4_init : MethodName := ⟨RX4, "<init>", "()V"⟩
abbrev cX4_valueOn : ByteArray := prog_6_method_2_code
def yX4_valueOn : MethodName := ⟨RX4, "valueOn", "(III)I"⟩
abbrev cX4_tell : ByteArray := prog_6_method_3_code
def yX4_tell : MethodName := ⟨RX4, "tell", "(III)V"⟩
abbrev cX4_isFeast : ByteArray := prog_6_method_4_code
def yX4_isFeast : MethodName := ⟨RX4, "isFeast", "(I)Z"⟩
abbrev cX4_gaps : ByteArray := prog_6_method_5_code
def yX4_gaps : MethodName := ⟨RX4, "gaps", "()I"⟩
abbrev cX4_changeOf : ByteArray := prog_6_method_6_code
def yX4_changeOf : MethodName := ⟨RX4, "changeOf", "(III)I"⟩
def RX5 : String := "NextFigures$Sheets"
def TX5 : u_T := fun k => match k with
  | 0 => ("NextFigures$Sheets", "lane", "[I", true)
  | 1 => ("NextFigures$Sheets", "length", "[I", true)
  | 2 => ("NextFigures$Sheets", "cells", "[I", true)
  | _ => ("NextFigures$Sheets", "torn", "I", false)
def tyX5 : Nat → FieldType := fun k => match k with
  | 0 => .array .int
  | 1 => .array .int
  | 2 => .array .int
  | _ => .int
theorem nmX5 : ∀ a, a < 4 → ∀ b, b < 4 → a ≠ b → (TX5 a).2.1 ≠ (TX5 b).2.1 := by decide +kernel
theorem tyX5_ok : ∀ k, k < 4 → parseFieldDescriptor (TX5 k).2.2.1 = some (tyX5 k) := by decide +kernel
abbrev cX5_init : ByteArray := prog_7_method_1_code
def yX5_init : MethodName := ⟨RX5, "<init>", "()V"⟩
abbrev cX5_renew : ByteArray := prog_7_method_2_code
def yX5_renew : MethodName := ⟨RX5, "renew", "(III)V"⟩
abbrev cX5_faultAt : ByteArray := prog_7_method_3_code
def yX5_faultAt : MethodName := ⟨RX5, "faultAt", "(III)I"⟩
abbrev cX5_put : ByteArray := prog_7_method_4_code
def yX5_put : MethodName := ⟨RX5, "put", "(III)V"⟩
abbrev cX5_cell : ByteArray := prog_7_method_5_code
def yX5_cell : MethodName := ⟨RX5, "cell", "(II)I"⟩
def RX6 : String := "NextFigures$Tape"
def TX6 : u_T := fun k => match k with
  | 0 => ("NextFigures$Tape", "bytes", "[I", true)
  | 1 => ("NextFigures$Tape", "length", "I", false)
  | 2 => ("NextFigures$Tape", "lines", "LNextFigures$Lines;", true)
  | 3 => ("NextFigures$Tape", "found", "I", false)
  | 4 => ("NextFigures$Tape", "token", "I", false)
  | 5 => ("NextFigures$Tape", "start", "I", false)
  | _ => ("NextFigures$Tape", "stop", "I", false)
def tyX6 : Nat → FieldType := fun k => match k with
  | 0 => .array .int
  | 1 => .int
  | 2 => .object "NextFigures$Lines"
  | 3 => .int
  | 4 => .int
  | 5 => .int
  | _ => .int
theorem nmX6 : ∀ a, a < 7 → ∀ b, b < 7 → a ≠ b → (TX6 a).2.1 ≠ (TX6 b).2.1 := by decide +kernel
theorem tyX6_ok : ∀ k, k < 7 → parseFieldDescriptor (TX6 k).2.2.1 = some (tyX6 k) := by decide +kernel
abbrev cX6_init : ByteArray := prog_8_method_1_code
def yX6_init : MethodName := ⟨RX6, "<init>", "()V"⟩
abbrev cX6_push : ByteArray := prog_8_method_2_code
def yX6_push : MethodName := ⟨RX6, "push", "(J)I"⟩
abbrev cX6_readAll : ByteArray := prog_8_method_3_code
def yX6_readAll : MethodName := ⟨RX6, "readAll", "()V"⟩
abbrev cX6_readLine : ByteArray := prog_8_method_4_code
def yX6_readLine : MethodName := ⟨RX6, "readLine", "()V"⟩
abbrev cX6_readNumber : ByteArray := prog_8_method_5_code
def yX6_readNumber : MethodName := ⟨RX6, "readNumber", "(I)I"⟩
abbrev cX6_expect : ByteArray := prog_8_method_6_code
def yX6_expect : MethodName := ⟨RX6, "expect", "(I)V"⟩
abbrev cX6_advance : ByteArray := prog_8_method_7_code
def yX6_advance : MethodName := ⟨RX6, "advance", "()V"⟩
abbrev cX6_isLetter : ByteArray := prog_8_method_8_code
def yX6_isLetter : MethodName := ⟨RX6, "isLetter", "(I)Z"⟩
abbrev cX6_isDigit : ByteArray := prog_8_method_9_code
def yX6_isDigit : MethodName := ⟨RX6, "isDigit", "(I)Z"⟩
abbrev cX6_kindOfName : ByteArray := prog_8_method_10_code
def yX6_kindOfName : MethodName := ⟨RX6, "kindOfName", "()I"⟩
abbrev cX6_isName : ByteArray := prog_8_method_11_code
def yX6_isName : MethodName := ⟨RX6, "isName", "(Ljava/lang/String;)Z"⟩
def RX7 : String := "NextFigures$View"
def TX7 : u_T := fun k => match k with
  | 0 => ("NextFigures$View", "rows", "LNextFigures$Rows;", true)
  | 1 => ("NextFigures$View", "figures", "[I", true)
  | _ => ("NextFigures$View", "last", "I", false)
def tyX7 : Nat → FieldType := fun k => match k with
  | 0 => .object "NextFigures$Rows"
  | 1 => .array .int
  | _ => .int
theorem nmX7 : ∀ a, a < 3 → ∀ b, b < 3 → a ≠ b → (TX7 a).2.1 ≠ (TX7 b).2.1 := by decide +kernel
theorem tyX7_ok : ∀ k, k < 3 → parseFieldDescriptor (TX7 k).2.2.1 = some (tyX7 k) := by decide +kernel
abbrev cX7_init : ByteArray := prog_9_method_1_code
def yX7_init : MethodName := ⟨RX7, "<init>", "(LNextFigures$Rows;)V"⟩
abbrev cX7_open : ByteArray := prog_9_method_2_code
def yX7_open : MethodName := ⟨RX7, "open", "(II)V"⟩
abbrev cX7_foretell : ByteArray := prog_9_method_3_code
def yX7_foretell : MethodName := ⟨RX7, "foretell", "(IIII)I"⟩
abbrev cX7_bySame : ByteArray := prog_9_method_4_code
def yX7_bySame : MethodName := ⟨RX7, "bySame", "(II)I"⟩
abbrev cX7_byMean : ByteArray := prog_9_method_5_code
def yX7_byMean : MethodName := ⟨RX7, "byMean", "(I)I"⟩
abbrev cX7_byStep : ByteArray := prog_9_method_6_code
def yX7_byStep : MethodName := ⟨RX7, "byStep", "(III)I"⟩
abbrev cX7_byLike : ByteArray := prog_9_method_7_code
def yX7_byLike : MethodName := ⟨RX7, "byLike", "(II)I"⟩
abbrev cX7_levelAfter : ByteArray := prog_9_method_8_code
def yX7_levelAfter : MethodName := ⟨RX7, "levelAfter", "(IIJJI)J"⟩
abbrev cX7_slopeAfter : ByteArray := prog_9_method_9_code
def yX7_slopeAfter : MethodName := ⟨RX7, "slopeAfter", "(IIJJI)J"⟩
abbrev cX7_toldByStep : ByteArray := prog_9_method_10_code
def yX7_toldByStep : MethodName := ⟨RX7, "toldByStep", "(JJI)I"⟩
def RX8 : String := "NextFigures"
def TX8 : u_T := fun k => match k with
  | 0 => ("NextFigures", "rows", "LNextFigures$Rows;", true)
  | 1 => ("NextFigures", "tape", "LNextFigures$Tape;", true)
  | 2 => ("NextFigures", "tellers", "LNextFigures$Lines;", true)
  | 3 => ("NextFigures", "play", "LNextFigures$Play;", true)
  | 4 => ("NextFigures", "grid", "LNextFigures$Grid;", true)
  | 5 => ("NextFigures", "kept", "LNextFigures$Notes;", true)
  | _ => ("NextFigures", "sheets", "LNextFigures$Sheets;", true)
def tyX8 : Nat → FieldType := fun k => match k with
  | 0 => .object "NextFigures$Rows"
  | 1 => .object "NextFigures$Tape"
  | 2 => .object "NextFigures$Lines"
  | 3 => .object "NextFigures$Play"
  | 4 => .object "NextFigures$Grid"
  | 5 => .object "NextFigures$Notes"
  | _ => .object "NextFigures$Sheets"
theorem nmX8 : ∀ a, a < 7 → ∀ b, b < 7 → a ≠ b → (TX8 a).2.1 ≠ (TX8 b).2.1 := by decide +kernel
theorem tyX8_ok : ∀ k, k < 7 → parseFieldDescriptor (TX8 k).2.2.1 = some (tyX8 k) := by decide +kernel
abbrev cX8_init : ByteArray := prog_1_method_1_code
def yX8_init : MethodName := ⟨RX8, "<init>", "()V"⟩
abbrev cX8_now : ByteArray := prog_1_method_2_code
def yX8_now : MethodName := ⟨RX8, "now", "(I)I"⟩
abbrev cX8_figure : ByteArray := prog_1_method_3_code
def yX8_figure : MethodName := ⟨RX8, "figure", "(III)I"⟩
abbrev cX8_known : ByteArray := prog_1_method_4_code
def yX8_known : MethodName := ⟨RX8, "known", "(III)I"⟩
abbrev cX8_mark : ByteArray := prog_1_method_5_code
def yX8_mark : MethodName := ⟨RX8, "mark", "(IIZ)I"⟩
abbrev cX8_feed : ByteArray := prog_1_method_6_code
def yX8_feed : MethodName := ⟨RX8, "feed", "(J)I"⟩
abbrev cX8_end : ByteArray := prog_1_method_7_code
def yX8_end : MethodName := ⟨RX8, "end", "(I)I"⟩
abbrev cX8_text : ByteArray := prog_1_method_8_code
def yX8_text : MethodName := ⟨RX8, "text", "()I"⟩
abbrev cX8_fault : ByteArray := prog_1_method_9_code
def yX8_fault : MethodName := ⟨RX8, "fault", "()I"⟩
abbrev cX8_teller : ByteArray := prog_1_method_10_code
def yX8_teller : MethodName := ⟨RX8, "teller", "(II)I"⟩
abbrev cX8_tells : ByteArray := prog_1_method_11_code
def yX8_tells : MethodName := ⟨RX8, "tells", "(IIII)I"⟩
abbrev cX8_weight : ByteArray := prog_1_method_12_code
def yX8_weight : MethodName := ⟨RX8, "weight", "(IIIII)I"⟩
abbrev cX8_miss : ByteArray := prog_1_method_13_code
def yX8_miss : MethodName := ⟨RX8, "miss", "(IIII)I"⟩
abbrev cX8_misses : ByteArray := prog_1_method_14_code
def yX8_misses : MethodName := ⟨RX8, "misses", "(IIIIII)I"⟩
abbrev cX8_best : ByteArray := prog_1_method_15_code
def yX8_best : MethodName := ⟨RX8, "best", "(IIII)I"⟩
abbrev cX8_fit : ByteArray := prog_1_method_16_code
def yX8_fit : MethodName := ⟨RX8, "fit", "(IIIIII)I"⟩
abbrev cX8_span : ByteArray := prog_1_method_17_code
def yX8_span : MethodName := ⟨RX8, "span", "(IIIIII)I"⟩
abbrev cX8_hold : ByteArray := prog_1_method_18_code
def yX8_hold : MethodName := ⟨RX8, "hold", "(IIIIII)I"⟩
abbrev cX8_going : ByteArray := prog_1_method_19_code
def yX8_going : MethodName := ⟨RX8, "going", "(IIIIIII)I"⟩
abbrev cX8_agree : ByteArray := prog_1_method_20_code
def yX8_agree : MethodName := ⟨RX8, "agree", "(JIII)I"⟩
abbrev cX8_number : ByteArray := prog_1_method_21_code
def yX8_number : MethodName := ⟨RX8, "number", "(IIIIIIII)I"⟩
abbrev cX8_worth : ByteArray := prog_1_method_22_code
def yX8_worth : MethodName := ⟨RX8, "worth", "(IIIII)I"⟩
abbrev cX8_dealt : ByteArray := prog_1_method_23_code
def yX8_dealt : MethodName := ⟨RX8, "dealt", "(IIIIII)I"⟩
abbrev cX8_change : ByteArray := prog_1_method_24_code
def yX8_change : MethodName := ⟨RX8, "change", "(III)I"⟩
abbrev cX8_note : ByteArray := prog_1_method_25_code
def yX8_note : MethodName := ⟨RX8, "note", "(IIII)I"⟩
abbrev cX8_noteOf : ByteArray := prog_1_method_26_code
def yX8_noteOf : MethodName := ⟨RX8, "noteOf", "(II)I"⟩
abbrev cX8_acted : ByteArray := prog_1_method_27_code
def yX8_acted : MethodName := ⟨RX8, "acted", "(I)I"⟩
abbrev cX8_notes : ByteArray := prog_1_method_28_code
def yX8_notes : MethodName := ⟨RX8, "notes", "(I)I"⟩
abbrev cX8_sheet : ByteArray := prog_1_method_29_code
def yX8_sheet : MethodName := ⟨RX8, "sheet", "(III)I"⟩
abbrev cX8_lay : ByteArray := prog_1_method_30_code
def yX8_lay : MethodName := ⟨RX8, "lay", "(III)I"⟩
abbrev cX8_read : ByteArray := prog_1_method_31_code
def yX8_read : MethodName := ⟨RX8, "read", "(IIIIII)I"⟩
abbrev cX8_torn : ByteArray := prog_1_method_32_code
def yX8_torn : MethodName := ⟨RX8, "torn", "()I"⟩
abbrev cX8_count : ByteArray := prog_1_method_33_code
def yX8_count : MethodName := ⟨RX8, "count", "(I)I"⟩
abbrev cX8_isShop : ByteArray := prog_1_method_34_code
def yX8_isShop : MethodName := ⟨RX8, "isShop", "(I)Z"⟩
abbrev cX8_isDay : ByteArray := prog_1_method_35_code
def yX8_isDay : MethodName := ⟨RX8, "isDay", "(I)Z"⟩
abbrev cX8_areDays : ByteArray := prog_1_method_36_code
def yX8_areDays : MethodName := ⟨RX8, "areDays", "(II)Z"⟩
abbrev cX8_isAhead : ByteArray := prog_1_method_37_code
def yX8_isAhead : MethodName := ⟨RX8, "isAhead", "(I)Z"⟩
abbrev cX8_isPercent : ByteArray := prog_1_method_38_code
def yX8_isPercent : MethodName := ⟨RX8, "isPercent", "(I)Z"⟩
abbrev cX8_isCost : ByteArray := prog_1_method_39_code
def yX8_isCost : MethodName := ⟨RX8, "isCost", "(I)Z"⟩
abbrev cX8_isSheet : ByteArray := prog_1_method_40_code
def yX8_isSheet : MethodName := ⟨RX8, "isSheet", "(I)Z"⟩
abbrev cX8_isLane : ByteArray := prog_1_method_41_code
def yX8_isLane : MethodName := ⟨RX8, "isLane", "(I)Z"⟩
abbrev cX8_isTeller : ByteArray := prog_1_method_42_code
def yX8_isTeller : MethodName := ⟨RX8, "isTeller", "(I)Z"⟩
abbrev cX8_isAsked : ByteArray := prog_1_method_43_code
def yX8_isAsked : MethodName := ⟨RX8, "isAsked", "(III)Z"⟩
abbrev cX8_isJoinedTo : ByteArray := prog_1_method_44_code
def yX8_isJoinedTo : MethodName := ⟨RX8, "isJoinedTo", "(II)Z"⟩
abbrev cX8_numberAt : ByteArray := prog_1_method_45_code
def yX8_numberAt : MethodName := ⟨RX8, "numberAt", "(JI)I"⟩
abbrev cX8_weightAt : ByteArray := prog_1_method_46_code
def yX8_weightAt : MethodName := ⟨RX8, "weightAt", "(II)I"⟩
abbrev cX8_shareOf : ByteArray := prog_1_method_47_code
def yX8_shareOf : MethodName := ⟨RX8, "shareOf", "(IIII)I"⟩
abbrev cX8_figureOfNote : ByteArray := prog_1_method_48_code
def yX8_figureOfNote : MethodName := ⟨RX8, "figureOfNote", "(I)I"⟩
abbrev cX8_heldOfNote : ByteArray := prog_1_method_49_code
def yX8_heldOfNote : MethodName := ⟨RX8, "heldOfNote", "(I)I"⟩
abbrev cX8_isKnownSo : ByteArray := prog_1_method_50_code
def yX8_isKnownSo : MethodName := ⟨RX8, "isKnownSo", "(III)Z"⟩
abbrev cX8_tellFromSheet : ByteArray := prog_1_method_51_code
def yX8_tellFromSheet : MethodName := ⟨RX8, "tellFromSheet", "(IIIII)V"⟩
abbrev cX8_marked : ByteArray := prog_1_method_52_code
def yX8_marked : MethodName := ⟨RX8, "marked", "([Z)I"⟩
def RX9 : String := "NextFiguresModel"
def TX9 : u_T := fun k => match k with
  | 0 => ("NextFiguresModel", "table", "[I", true)
  | 1 => ("NextFiguresModel", "today", "I", false)
  | 2 => ("NextFiguresModel", "tellings", "I", false)
  | 3 => ("NextFiguresModel", "feasts", "[Z", true)
  | 4 => ("NextFiguresModel", "deeds", "[Z", true)
  | 5 => ("NextFiguresModel", "tape", "[I", true)
  | 6 => ("NextFiguresModel", "taped", "I", false)
  | 7 => ("NextFiguresModel", "fault", "I", false)
  | 8 => ("NextFiguresModel", "wrong", "I", false)
  | 9 => ("NextFiguresModel", "wrongAt", "I", false)
  | 10 => ("NextFiguresModel", "at", "I", false)
  | 11 => ("NextFiguresModel", "place", "I", false)
  | 12 => ("NextFiguresModel", "token", "I", false)
  | 13 => ("NextFiguresModel", "value", "I", false)
  | 14 => ("NextFiguresModel", "ends", "[I", true)
  | 15 => ("NextFiguresModel", "letters", "[I", true)
  | 16 => ("NextFiguresModel", "mosts", "[I", true)
  | 17 => ("NextFiguresModel", "tellers", "I", false)
  | 18 => ("NextFiguresModel", "kindOf", "[I", true)
  | 19 => ("NextFiguresModel", "firstOf", "[I", true)
  | 20 => ("NextFiguresModel", "secondOf", "[I", true)
  | 21 => ("NextFiguresModel", "newTellers", "I", false)
  | 22 => ("NextFiguresModel", "newKind", "[I", true)
  | 23 => ("NextFiguresModel", "newFirst", "[I", true)
  | 24 => ("NextFiguresModel", "newSecond", "[I", true)
  | 25 => ("NextFiguresModel", "differs", "[I", true)
  | 26 => ("NextFiguresModel", "has", "[Z", true)
  | 27 => ("NextFiguresModel", "listed", "[I", true)
  | 28 => ("NextFiguresModel", "notes", "I", false)
  | 29 => ("NextFiguresModel", "noteShop", "[I", true)
  | 30 => ("NextFiguresModel", "noteTeller", "[I", true)
  | 31 => ("NextFiguresModel", "noteOn", "[I", true)
  | 32 => ("NextFiguresModel", "noteFor", "[I", true)
  | 33 => ("NextFiguresModel", "noteTold", "[I", true)
  | 34 => ("NextFiguresModel", "noteWidth", "[I", true)
  | 35 => ("NextFiguresModel", "noteActed", "[I", true)
  | 36 => ("NextFiguresModel", "lanes", "[I", true)
  | 37 => ("NextFiguresModel", "lengths", "[I", true)
  | 38 => ("NextFiguresModel", "cells", "[I", true)
  | _ => ("NextFiguresModel", "torn", "I", false)
def tyX9 : Nat → FieldType := fun k => match k with
  | 0 => .array .int
  | 1 => .int
  | 2 => .int
  | 3 => .array .boolean
  | 4 => .array .boolean
  | 5 => .array .int
  | 6 => .int
  | 7 => .int
  | 8 => .int
  | 9 => .int
  | 10 => .int
  | 11 => .int
  | 12 => .int
  | 13 => .int
  | 14 => .array .int
  | 15 => .array .int
  | 16 => .array .int
  | 17 => .int
  | 18 => .array .int
  | 19 => .array .int
  | 20 => .array .int
  | 21 => .int
  | 22 => .array .int
  | 23 => .array .int
  | 24 => .array .int
  | 25 => .array .int
  | 26 => .array .boolean
  | 27 => .array .int
  | 28 => .int
  | 29 => .array .int
  | 30 => .array .int
  | 31 => .array .int
  | 32 => .array .int
  | 33 => .array .int
  | 34 => .array .int
  | 35 => .array .int
  | 36 => .array .int
  | 37 => .array .int
  | 38 => .array .int
  | _ => .int
theorem nmX9 : ∀ a, a < 40 → ∀ b, b < 40 → a ≠ b → (TX9 a).2.1 ≠ (TX9 b).2.1 := by decide +kernel
theorem tyX9_ok : ∀ k, k < 40 → parseFieldDescriptor (TX9 k).2.2.1 = some (tyX9 k) := by decide +kernel
abbrev cX9_init : ByteArray := prog_11_method_1_code
def yX9_init : MethodName := ⟨RX9, "<init>", "()V"⟩
abbrev cX9_in : ByteArray := prog_11_method_3_code
def yX9_in : MethodName := ⟨RX9, "in", "(JJJ)Z"⟩
abbrev cX9_isShop : ByteArray := prog_11_method_4_code
def yX9_isShop : MethodName := ⟨RX9, "isShop", "(I)Z"⟩
abbrev cX9_isDay : ByteArray := prog_11_method_5_code
def yX9_isDay : MethodName := ⟨RX9, "isDay", "(I)Z"⟩
abbrev cX9_knownOn : ByteArray := prog_11_method_6_code
def yX9_knownOn : MethodName := ⟨RX9, "knownOn", "(III)I"⟩
abbrev cX9_now : ByteArray := prog_11_method_7_code
def yX9_now : MethodName := ⟨RX9, "now", "(I)I"⟩
abbrev cX9_tellFigure : ByteArray := prog_11_method_8_code
def yX9_tellFigure : MethodName := ⟨RX9, "tellFigure", "(III)V"⟩
abbrev cX9_orNone : ByteArray := prog_11_method_9_code
def yX9_orNone : MethodName := ⟨RX9, "orNone", "(I)I"⟩
abbrev cX9_figure : ByteArray := prog_11_method_10_code
def yX9_figure : MethodName := ⟨RX9, "figure", "(III)I"⟩
abbrev cX9_known : ByteArray := prog_11_method_11_code
def yX9_known : MethodName := ⟨RX9, "known", "(III)I"⟩
abbrev cX9_mark : ByteArray := prog_11_method_12_code
def yX9_mark : MethodName := ⟨RX9, "mark", "(IIZ)I"⟩
abbrev cX9_feed : ByteArray := prog_11_method_13_code
def yX9_feed : MethodName := ⟨RX9, "feed", "(J)I"⟩
abbrev cX9_end : ByteArray := prog_11_method_14_code
def yX9_end : MethodName := ⟨RX9, "end", "(I)I"⟩
abbrev cX9_byteAt : ByteArray := prog_11_method_15_code
def yX9_byteAt : MethodName := ⟨RX9, "byteAt", "(I)I"⟩
abbrev cX9_fails : ByteArray := prog_11_method_16_code
def yX9_fails : MethodName := ⟨RX9, "fails", "(I)V"⟩
abbrev cX9_next : ByteArray := prog_11_method_17_code
def yX9_next : MethodName := ⟨RX9, "next", "()V"⟩
abbrev cX9_nameHere : ByteArray := prog_11_method_18_code
def yX9_nameHere : MethodName := ⟨RX9, "nameHere", "()I"⟩
abbrev cX9_number : ByteArray := prog_11_method_19_code
def yX9_number : MethodName := ⟨RX9, "number", "(II)I"⟩
abbrev cX9_readLine : ByteArray := prog_11_method_20_code
def yX9_readLine : MethodName := ⟨RX9, "readLine", "()V"⟩
abbrev cX9_text : ByteArray := prog_11_method_21_code
def yX9_text : MethodName := ⟨RX9, "text", "()I"⟩
abbrev cX9_fault : ByteArray := prog_11_method_22_code
def yX9_fault : MethodName := ⟨RX9, "fault", "()I"⟩
abbrev cX9_isTeller : ByteArray := prog_11_method_23_code
def yX9_isTeller : MethodName := ⟨RX9, "isTeller", "(I)Z"⟩
abbrev cX9_teller : ByteArray := prog_11_method_24_code
def yX9_teller : MethodName := ⟨RX9, "teller", "(II)I"⟩
abbrev cX9_down : ByteArray := prog_11_method_25_code
def yX9_down : MethodName := ⟨RX9, "down", "(II)I"⟩
abbrev cX9_tellSame : ByteArray := prog_11_method_26_code
def yX9_tellSame : MethodName := ⟨RX9, "tellSame", "(IIII)I"⟩
abbrev cX9_tellMean : ByteArray := prog_11_method_27_code
def yX9_tellMean : MethodName := ⟨RX9, "tellMean", "(III)I"⟩
abbrev cX9_tellStep : ByteArray := prog_11_method_28_code
def yX9_tellStep : MethodName := ⟨RX9, "tellStep", "(IIIII)I"⟩
abbrev cX9_isFeast : ByteArray := prog_11_method_29_code
def yX9_isFeast : MethodName := ⟨RX9, "isFeast", "(I)Z"⟩
abbrev cX9_tellLike : ByteArray := prog_11_method_30_code
def yX9_tellLike : MethodName := ⟨RX9, "tellLike", "(IIII)I"⟩
abbrev cX9_tellPlain : ByteArray := prog_11_method_31_code
def yX9_tellPlain : MethodName := ⟨RX9, "tellPlain", "(IIIIII)I"⟩
abbrev cX9_weightOf : ByteArray := prog_11_method_32_code
def yX9_weightOf : MethodName := ⟨RX9, "weightOf", "(IIIII)I"⟩
abbrev cX9_tellJoined : ByteArray := prog_11_method_33_code
def yX9_tellJoined : MethodName := ⟨RX9, "tellJoined", "(IIII)I"⟩
abbrev cX9_tellBy : ByteArray := prog_11_method_34_code
def yX9_tellBy : MethodName := ⟨RX9, "tellBy", "(IIII)I"⟩
abbrev cX9_isAhead : ByteArray := prog_11_method_35_code
def yX9_isAhead : MethodName := ⟨RX9, "isAhead", "(I)Z"⟩
abbrev cX9_tells : ByteArray := prog_11_method_36_code
def yX9_tells : MethodName := ⟨RX9, "tells", "(IIII)I"⟩
abbrev cX9_weight : ByteArray := prog_11_method_37_code
def yX9_weight : MethodName := ⟨RX9, "weight", "(IIIII)I"⟩
abbrev cX9_size : ByteArray := prog_11_method_38_code
def yX9_size : MethodName := ⟨RX9, "size", "(I)I"⟩
abbrev cX9_layDay : ByteArray := prog_11_method_39_code
def yX9_layDay : MethodName := ⟨RX9, "layDay", "(III)V"⟩
abbrev cX9_layMisses : ByteArray := prog_11_method_40_code
def yX9_layMisses : MethodName := ⟨RX9, "layMisses", "(IIIII)V"⟩
abbrev cX9_areDays : ByteArray := prog_11_method_41_code
def yX9_areDays : MethodName := ⟨RX9, "areDays", "(II)Z"⟩
abbrev cX9_isAsked : ByteArray := prog_11_method_42_code
def yX9_isAsked : MethodName := ⟨RX9, "isAsked", "(IIIII)Z"⟩
abbrev cX9_miss : ByteArray := prog_11_method_43_code
def yX9_miss : MethodName := ⟨RX9, "miss", "(IIII)I"⟩
abbrev cX9_manyIn : ByteArray := prog_11_method_44_code
def yX9_manyIn : MethodName := ⟨RX9, "manyIn", "(II)I"⟩
abbrev cX9_sumIn : ByteArray := prog_11_method_45_code
def yX9_sumIn : MethodName := ⟨RX9, "sumIn", "(II)I"⟩
abbrev cX9_misses : ByteArray := prog_11_method_46_code
def yX9_misses : MethodName := ⟨RX9, "misses", "(IIIIII)I"⟩
abbrev cX9_best : ByteArray := prog_11_method_47_code
def yX9_best : MethodName := ⟨RX9, "best", "(IIII)I"⟩
abbrev cX9_fit : ByteArray := prog_11_method_48_code
def yX9_fit : MethodName := ⟨RX9, "fit", "(IIIIII)I"⟩
abbrev cX9_within : ByteArray := prog_11_method_49_code
def yX9_within : MethodName := ⟨RX9, "within", "(III)I"⟩
abbrev cX9_spanOf : ByteArray := prog_11_method_50_code
def yX9_spanOf : MethodName := ⟨RX9, "spanOf", "(III)I"⟩
abbrev cX9_span : ByteArray := prog_11_method_51_code
def yX9_span : MethodName := ⟨RX9, "span", "(IIIIII)I"⟩
abbrev cX9_hold : ByteArray := prog_11_method_52_code
def yX9_hold : MethodName := ⟨RX9, "hold", "(IIIIII)I"⟩
abbrev cX9_going : ByteArray := prog_11_method_53_code
def yX9_going : MethodName := ⟨RX9, "going", "(IIIIIII)I"⟩
abbrev cX9_agree : ByteArray := prog_11_method_54_code
def yX9_agree : MethodName := ⟨RX9, "agree", "(JIII)I"⟩
abbrev cX9_number_ : ByteArray := prog_11_method_55_code
def yX9_number_ : MethodName := ⟨RX9, "number", "(IIIIIIII)I"⟩
abbrev cX9_worth : ByteArray := prog_11_method_56_code
def yX9_worth : MethodName := ⟨RX9, "worth", "(IIIII)I"⟩
abbrev cX9_dealt : ByteArray := prog_11_method_57_code
def yX9_dealt : MethodName := ⟨RX9, "dealt", "(IIIIII)I"⟩
abbrev cX9_change : ByteArray := prog_11_method_58_code
def yX9_change : MethodName := ⟨RX9, "change", "(III)I"⟩
abbrev cX9_note : ByteArray := prog_11_method_59_code
def yX9_note : MethodName := ⟨RX9, "note", "(IIII)I"⟩
abbrev cX9_cameTo : ByteArray := prog_11_method_60_code
def yX9_cameTo : MethodName := ⟨RX9, "cameTo", "(I)I"⟩
abbrev cX9_heldOf : ByteArray := prog_11_method_61_code
def yX9_heldOf : MethodName := ⟨RX9, "heldOf", "(I)I"⟩
abbrev cX9_noteOf : ByteArray := prog_11_method_62_code
def yX9_noteOf : MethodName := ⟨RX9, "noteOf", "(II)I"⟩
abbrev cX9_acted : ByteArray := prog_11_method_63_code
def yX9_acted : MethodName := ⟨RX9, "acted", "(I)I"⟩
abbrev cX9_notes : ByteArray := prog_11_method_64_code
def yX9_notes : MethodName := ⟨RX9, "notes", "(I)I"⟩
abbrev cX9_sheet : ByteArray := prog_11_method_65_code
def yX9_sheet : MethodName := ⟨RX9, "sheet", "(III)I"⟩
abbrev cX9_lay : ByteArray := prog_11_method_66_code
def yX9_lay : MethodName := ⟨RX9, "lay", "(III)I"⟩
abbrev cX9_read : ByteArray := prog_11_method_67_code
def yX9_read : MethodName := ⟨RX9, "read", "(IIIIII)I"⟩
abbrev cX9_torn : ByteArray := prog_11_method_68_code
def yX9_torn : MethodName := ⟨RX9, "torn", "()I"⟩
abbrev cX9_count : ByteArray := prog_11_method_69_code
def yX9_count : MethodName := ⟨RX9, "count", "(I)I"⟩
def RJ9 : String := "java/lang/Math"
def TJ9 : u_T := fun k => match k with
  | _ => ("", "", "", false)
def tyJ9 : Nat → FieldType := fun k => match k with
  | _ => .int
theorem nmJ9 : ∀ a, a < 0 → ∀ b, b < 0 → a ≠ b → (TJ9 a).2.1 ≠ (TJ9 b).2.1 := by decide +kernel
theorem tyJ9_ok : ∀ k, k < 0 → parseFieldDescriptor (TJ9 k).2.2.1 = some (tyJ9 k) := by decide +kernel
abbrev cJ9_floorDiv_f86c9 : ByteArray := prog_12_method_49_code
def yJ9_floorDiv_f86c9 : MethodName := ⟨RJ9, "floorDiv", "(JJ)J"⟩
abbrev cJ9_abs_0f7a4 : ByteArray := prog_12_method_59_code
def yJ9_abs_0f7a4 : MethodName := ⟨RJ9, "abs", "(I)I"⟩
abbrev cJ9_max_7cf53 : ByteArray := prog_12_method_65_code
def yJ9_max_7cf53 : MethodName := ⟨RJ9, "max", "(II)I"⟩
abbrev cJ9_max_f86c9 : ByteArray := prog_12_method_66_code
def yJ9_max_f86c9 : MethodName := ⟨RJ9, "max", "(JJ)J"⟩
abbrev cJ9_min_7cf53 : ByteArray := prog_12_method_69_code
def yJ9_min_7cf53 : MethodName := ⟨RJ9, "min", "(II)I"⟩
abbrev cJ9_min_f86c9 : ByteArray := prog_12_method_70_code
def yJ9_min_f86c9 : MethodName := ⟨RJ9, "min", "(JJ)J"⟩
def RJ0 : String := "java/lang/String"
def TJ0 : u_T := fun k => match k with
  | _ => ("", "", "", false)
def tyJ0 : Nat → FieldType := fun k => match k with
  | _ => .int
theorem nmJ0 : ∀ a, a < 0 → ∀ b, b < 0 → a ≠ b → (TJ0 a).2.1 ≠ (TJ0 b).2.1 := by decide +kernel
theorem tyJ0_ok : ∀ k, k < 0 → parseFieldDescriptor (TJ0 k).2.2.1 = some (tyJ0 k) := by decide +kernel
abbrev cJ0_length_8abf5 : ByteArray := prog_13_method_54_code
def yJ0_length_8abf5 : MethodName := ⟨RJ0, "length", "()I"⟩
abbrev cJ0_charAt_5068e : ByteArray := prog_13_method_56_code
def yJ0_charAt_5068e : MethodName := ⟨RJ0, "charAt", "(I)C"⟩
abbrev cJ0_coder_7d493 : ByteArray := prog_13_method_152_code
def yJ0_coder_7d493 : MethodName := ⟨RJ0, "coder", "()B"⟩
abbrev cJ0_isLatin1_aae02 : ByteArray := prog_13_method_154_code
def yJ0_isLatin1_aae02 : MethodName := ⟨RJ0, "isLatin1", "()Z"⟩
abbrev cJ0_checkIndex_df160 : ByteArray := prog_13_method_155_code
def yJ0_checkIndex_df160 : MethodName := ⟨RJ0, "checkIndex", "(II)V"⟩
def RJ1 : String := "java/lang/StringLatin1"
def TJ1 : u_T := fun k => match k with
  | _ => ("", "", "", false)
def tyJ1 : Nat → FieldType := fun k => match k with
  | _ => .int
theorem nmJ1 : ∀ a, a < 0 → ∀ b, b < 0 → a ≠ b → (TJ1 a).2.1 ≠ (TJ1 b).2.1 := by decide +kernel
theorem tyJ1_ok : ∀ k, k < 0 → parseFieldDescriptor (TJ1 k).2.2.1 = some (tyJ1 k) := by decide +kernel
abbrev cJ1_charAt_3b067 : ByteArray := prog_14_method_2_code
def yJ1_charAt_3b067 : MethodName := ⟨RJ1, "charAt", "([BI)C"⟩
def RJ2 : String := "java/lang/StringUTF16"
def TJ2 : u_T := fun k => match k with
  | _ => ("", "", "", false)
def tyJ2 : Nat → FieldType := fun k => match k with
  | _ => .int
theorem nmJ2 : ∀ a, a < 0 → ∀ b, b < 0 → a ≠ b → (TJ2 a).2.1 ≠ (TJ2 b).2.1 := by decide +kernel
theorem tyJ2_ok : ∀ k, k < 0 → parseFieldDescriptor (TJ2 k).2.2.1 = some (tyJ2 k) := by decide +kernel
abbrev cJ2_getChar_3b067 : ByteArray := prog_15_method_5_code
def yJ2_getChar_3b067 : MethodName := ⟨RJ2, "getChar", "([BI)C"⟩
abbrev cJ2_length_9d52b : ByteArray := prog_15_method_6_code
def yJ2_length_9d52b : MethodName := ⟨RJ2, "length", "([B)I"⟩
abbrev cJ2_charAt_3b067 : ByteArray := prog_15_method_83_code
def yJ2_charAt_3b067 : MethodName := ⟨RJ2, "charAt", "([BI)C"⟩
abbrev cJ2_checkIndex_2214a : ByteArray := prog_15_method_91_code
def yJ2_checkIndex_2214a : MethodName := ⟨RJ2, "checkIndex", "(I[B)V"⟩
def RJ7 : String := "java/util/Arrays"
def TJ7 : u_T := fun k => match k with
  | _ => ("", "", "", false)
def tyJ7 : Nat → FieldType := fun k => match k with
  | _ => .int
theorem nmJ7 : ∀ a, a < 0 → ∀ b, b < 0 → a ≠ b → (TJ7 a).2.1 ≠ (TJ7 b).2.1 := by decide +kernel
theorem tyJ7_ok : ∀ k, k < 0 → parseFieldDescriptor (TJ7 k).2.2.1 = some (tyJ7 k) := by decide +kernel
abbrev cJ7_fill_d0a16 : ByteArray := prog_16_method_101_code
def yJ7_fill_d0a16 : MethodName := ⟨RJ7, "fill", "([JJ)V"⟩
abbrev cJ7_fill_53178 : ByteArray := prog_16_method_103_code
def yJ7_fill_53178 : MethodName := ⟨RJ7, "fill", "([II)V"⟩
def RJ3 : String := "jdk/internal/util/Preconditions"
def TJ3 : u_T := fun k => match k with
  | _ => ("", "", "", false)
def tyJ3 : Nat → FieldType := fun k => match k with
  | _ => .int
theorem nmJ3 : ∀ a, a < 0 → ∀ b, b < 0 → a ≠ b → (TJ3 a).2.1 ≠ (TJ3 b).2.1 := by decide +kernel
theorem tyJ3_ok : ∀ k, k < 0 → parseFieldDescriptor (TJ3 k).2.2.1 = some (tyJ3 k) := by decide +kernel
abbrev cJ3_checkIndex_8e157 : ByteArray := prog_17_method_11_code
def yJ3_checkIndex_8e157 : MethodName := ⟨RJ3, "checkIndex", "(IILjava/util/function/BiFunction;)I"⟩
def RL : String := "NextFiguresLaw"
abbrev cL_law : ByteArray := code
def yL_law : MethodName := ⟨RL, "law", "([I)Z"⟩
abbrev vwCl : List vw_C := [(RX0, TX0, 10), (RX1, TX1, 4), (RX2, TX2, 8), (RX3, TX3, 14), (RX4, TX4, 8), (RX5, TX5, 4), (RX6, TX6, 7), (RX7, TX7, 3), (RX8, TX8, 7), (RX9, TX9, 40)]
