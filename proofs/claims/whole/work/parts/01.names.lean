-- ===== PART A: goes FIRST, ahead of the names: the tables' words, and 'selects' of the private methods out of them =====
/-- a private method of a class that the tables say can be made, by its rows of tables_1 -/
def lw_okq (q : MethodName × Nat) : Prop := (q.1.cls ≠ "java/lang/invoke/MethodHandle" ∧ q.1.cls ≠ "java/lang/invoke/VarHandle") ∧ Cond.instantiable q.1.cls q.2 ∈ tables_1 ∧ Cond.privateMethod q.1 ∈ tables_1 ∧ Cond.instanceMethod q.1 ∈ tables_1
theorem lw_p0 : lw_okq (⟨"DarnedSock", "refuse", "(I)I"⟩, 13) := ⟨⟨by decide +kernel, by decide +kernel⟩, List.mem_of_getElem? (i := 10) (by decide +kernel), List.mem_of_getElem? (i := 153) (by decide +kernel), List.mem_of_getElem? (i := 154) (by decide +kernel)⟩
theorem lw_p1 : lw_okq (⟨"DarnedSock$Sock", "wearTop", "(I)V"⟩, 3) := ⟨⟨by decide +kernel, by decide +kernel⟩, List.mem_of_getElem? (i := 24) (by decide +kernel), List.mem_of_getElem? (i := 241) (by decide +kernel), List.mem_of_getElem? (i := 242) (by decide +kernel)⟩
theorem lw_p2 : lw_okq (⟨"DarnedSock$Text", "step", "()V"⟩, 9) := ⟨⟨by decide +kernel, by decide +kernel⟩, List.mem_of_getElem? (i := 69) (by decide +kernel), List.mem_of_getElem? (i := 286) (by decide +kernel), List.mem_of_getElem? (i := 287) (by decide +kernel)⟩
theorem lw_p3 : lw_okq (⟨"DarnedSock$Text", "takeWord", "()V"⟩, 9) := ⟨⟨by decide +kernel, by decide +kernel⟩, List.mem_of_getElem? (i := 69) (by decide +kernel), List.mem_of_getElem? (i := 294) (by decide +kernel), List.mem_of_getElem? (i := 295) (by decide +kernel)⟩
theorem lw_p4 : lw_okq (⟨"DarnedSock$Text", "spells", "(I)Z"⟩, 9) := ⟨⟨by decide +kernel, by decide +kernel⟩, List.mem_of_getElem? (i := 69) (by decide +kernel), List.mem_of_getElem? (i := 298) (by decide +kernel), List.mem_of_getElem? (i := 299) (by decide +kernel)⟩
theorem lw_p5 : lw_okq (⟨"DarnedSock$Text", "takeNumber", "()V"⟩, 9) := ⟨⟨by decide +kernel, by decide +kernel⟩, List.mem_of_getElem? (i := 69) (by decide +kernel), List.mem_of_getElem? (i := 308) (by decide +kernel), List.mem_of_getElem? (i := 309) (by decide +kernel)⟩
theorem lw_p6 : lw_okq (⟨"DarnedSock$Text", "takeItem", "()Z"⟩, 9) := ⟨⟨by decide +kernel, by decide +kernel⟩, List.mem_of_getElem? (i := 69) (by decide +kernel), List.mem_of_getElem? (i := 312) (by decide +kernel), List.mem_of_getElem? (i := 313) (by decide +kernel)⟩
theorem lw_p7 : lw_okq (⟨"DarnedSock$Text", "isToldTo", "(LDarnedSock$Sock;I)Z"⟩, 9) := ⟨⟨by decide +kernel, by decide +kernel⟩, List.mem_of_getElem? (i := 69) (by decide +kernel), List.mem_of_getElem? (i := 322) (by decide +kernel), List.mem_of_getElem? (i := 323) (by decide +kernel)⟩
theorem lw_p8 : lw_okq (⟨"DarnedSock$Sock", "countsOver", "(III)I"⟩, 3) := ⟨⟨by decide +kernel, by decide +kernel⟩, List.mem_of_getElem? (i := 24) (by decide +kernel), List.mem_of_getElem? (i := 344) (by decide +kernel), List.mem_of_getElem? (i := 345) (by decide +kernel)⟩
theorem lw_p9 : lw_okq (⟨"DarnedSock$Sock", "weighThread", "()V"⟩, 3) := ⟨⟨by decide +kernel, by decide +kernel⟩, List.mem_of_getElem? (i := 24) (by decide +kernel), List.mem_of_getElem? (i := 370) (by decide +kernel), List.mem_of_getElem? (i := 371) (by decide +kernel)⟩
theorem lw_p10 : lw_okq (⟨"DarnedSock$Sock", "addClaim", "(II)V"⟩, 3) := ⟨⟨by decide +kernel, by decide +kernel⟩, List.mem_of_getElem? (i := 24) (by decide +kernel), List.mem_of_getElem? (i := 374) (by decide +kernel), List.mem_of_getElem? (i := 375) (by decide +kernel)⟩
theorem lw_p11 : lw_okq (⟨"DarnedSock$Sock", "topFamily", "(I)I"⟩, 3) := ⟨⟨by decide +kernel, by decide +kernel⟩, List.mem_of_getElem? (i := 24) (by decide +kernel), List.mem_of_getElem? (i := 378) (by decide +kernel), List.mem_of_getElem? (i := 379) (by decide +kernel)⟩
theorem lw_p12 : lw_okq (⟨"DarnedSock$Sock", "lineFamily", "(I)I"⟩, 3) := ⟨⟨by decide +kernel, by decide +kernel⟩, List.mem_of_getElem? (i := 24) (by decide +kernel), List.mem_of_getElem? (i := 382) (by decide +kernel), List.mem_of_getElem? (i := 383) (by decide +kernel)⟩
theorem lw_p13 : lw_okq (⟨"DarnedSock$Sock", "weighAges", "()V"⟩, 3) := ⟨⟨by decide +kernel, by decide +kernel⟩, List.mem_of_getElem? (i := 24) (by decide +kernel), List.mem_of_getElem? (i := 388) (by decide +kernel), List.mem_of_getElem? (i := 389) (by decide +kernel)⟩
theorem lw_p14 : lw_okq (⟨"DarnedSock", "tryYears", "(I)V"⟩, 13) := ⟨⟨by decide +kernel, by decide +kernel⟩, List.mem_of_getElem? (i := 10) (by decide +kernel), List.mem_of_getElem? (i := 399) (by decide +kernel), List.mem_of_getElem? (i := 400) (by decide +kernel)⟩
theorem lw_p15 : lw_okq (⟨"DarnedSock", "setFraction", "(JJ)V"⟩, 13) := ⟨⟨by decide +kernel, by decide +kernel⟩, List.mem_of_getElem? (i := 10) (by decide +kernel), List.mem_of_getElem? (i := 419) (by decide +kernel), List.mem_of_getElem? (i := 420) (by decide +kernel)⟩
def lw_privs_1 : List (MethodName × Nat) := [(⟨"DarnedSock", "refuse", "(I)I"⟩, 13), (⟨"DarnedSock$Sock", "wearTop", "(I)V"⟩, 3), (⟨"DarnedSock$Text", "step", "()V"⟩, 9), (⟨"DarnedSock$Text", "takeWord", "()V"⟩, 9), (⟨"DarnedSock$Text", "spells", "(I)Z"⟩, 9), (⟨"DarnedSock$Text", "takeNumber", "()V"⟩, 9), (⟨"DarnedSock$Text", "takeItem", "()Z"⟩, 9), (⟨"DarnedSock$Text", "isToldTo", "(LDarnedSock$Sock;I)Z"⟩, 9), (⟨"DarnedSock$Sock", "countsOver", "(III)I"⟩, 3), (⟨"DarnedSock$Sock", "weighThread", "()V"⟩, 3), (⟨"DarnedSock$Sock", "addClaim", "(II)V"⟩, 3), (⟨"DarnedSock$Sock", "topFamily", "(I)I"⟩, 3), (⟨"DarnedSock$Sock", "lineFamily", "(I)I"⟩, 3), (⟨"DarnedSock$Sock", "weighAges", "()V"⟩, 3), (⟨"DarnedSock", "tryYears", "(I)V"⟩, 13), (⟨"DarnedSock", "setFraction", "(JJ)V"⟩, 13)]
theorem lw_r1 : ∀ q ∈ lw_privs_1, lw_okq q := List.forall_mem_cons.mpr ⟨lw_p0, List.forall_mem_cons.mpr ⟨lw_p1, List.forall_mem_cons.mpr ⟨lw_p2, List.forall_mem_cons.mpr ⟨lw_p3, List.forall_mem_cons.mpr ⟨lw_p4, List.forall_mem_cons.mpr ⟨lw_p5, List.forall_mem_cons.mpr ⟨lw_p6, List.forall_mem_cons.mpr ⟨lw_p7, List.forall_mem_cons.mpr ⟨lw_p8, List.forall_mem_cons.mpr ⟨lw_p9, List.forall_mem_cons.mpr ⟨lw_p10, List.forall_mem_cons.mpr ⟨lw_p11, List.forall_mem_cons.mpr ⟨lw_p12, List.forall_mem_cons.mpr ⟨lw_p13, List.forall_mem_cons.mpr ⟨lw_p14, List.forall_mem_cons.mpr ⟨lw_p15, fun _ h => absurd h List.not_mem_nil⟩⟩⟩⟩⟩⟩⟩⟩⟩⟩⟩⟩⟩⟩⟩⟩
theorem lw_p16 : lw_okq (⟨"DarnedSock", "findSpans", "()V"⟩, 13) := ⟨⟨by decide +kernel, by decide +kernel⟩, List.mem_of_getElem? (i := 10) (by decide +kernel), List.mem_of_getElem? (i := 440) (by decide +kernel), List.mem_of_getElem? (i := 441) (by decide +kernel)⟩
theorem lw_p17 : lw_okq (⟨"DarnedSock", "leastSpanBut", "(II)I"⟩, 13) := ⟨⟨by decide +kernel, by decide +kernel⟩, List.mem_of_getElem? (i := 10) (by decide +kernel), List.mem_of_getElem? (i := 448) (by decide +kernel), List.mem_of_getElem? (i := 449) (by decide +kernel)⟩
theorem lw_p18 : lw_okq (⟨"DarnedSock", "findSplitSpans", "(II)V"⟩, 13) := ⟨⟨by decide +kernel, by decide +kernel⟩, List.mem_of_getElem? (i := 10) (by decide +kernel), List.mem_of_getElem? (i := 466) (by decide +kernel), List.mem_of_getElem? (i := 467) (by decide +kernel)⟩
theorem lw_p19 : lw_okq (⟨"DarnedSock", "bestSplit", "(IIII)I"⟩, 13) := ⟨⟨by decide +kernel, by decide +kernel⟩, List.mem_of_getElem? (i := 10) (by decide +kernel), List.mem_of_getElem? (i := 470) (by decide +kernel), List.mem_of_getElem? (i := 471) (by decide +kernel)⟩
theorem lw_p20 : lw_okq (⟨"DarnedSock", "splitSpan", "(IIIII)I"⟩, 13) := ⟨⟨by decide +kernel, by decide +kernel⟩, List.mem_of_getElem? (i := 10) (by decide +kernel), List.mem_of_getElem? (i := 474) (by decide +kernel), List.mem_of_getElem? (i := 475) (by decide +kernel)⟩
theorem lw_p21 : lw_okq (⟨"DarnedSock$State", "agrees", "(II)Z"⟩, 6) := ⟨⟨by decide +kernel, by decide +kernel⟩, List.mem_of_getElem? (i := 18) (by decide +kernel), List.mem_of_getElem? (i := 499) (by decide +kernel), List.mem_of_getElem? (i := 500) (by decide +kernel)⟩
theorem lw_p22 : lw_okq (⟨"DarnedSock", "mostAlike", "(III)I"⟩, 13) := ⟨⟨by decide +kernel, by decide +kernel⟩, List.mem_of_getElem? (i := 10) (by decide +kernel), List.mem_of_getElem? (i := 511) (by decide +kernel), List.mem_of_getElem? (i := 512) (by decide +kernel)⟩
theorem lw_p23 : lw_okq (⟨"DarnedSock", "findFirstOrder", "(II)V"⟩, 13) := ⟨⟨by decide +kernel, by decide +kernel⟩, List.mem_of_getElem? (i := 10) (by decide +kernel), List.mem_of_getElem? (i := 522) (by decide +kernel), List.mem_of_getElem? (i := 523) (by decide +kernel)⟩
theorem lw_p24 : lw_okq (⟨"DarnedSock", "waysToOrder", "(I)I"⟩, 13) := ⟨⟨by decide +kernel, by decide +kernel⟩, List.mem_of_getElem? (i := 10) (by decide +kernel), List.mem_of_getElem? (i := 530) (by decide +kernel), List.mem_of_getElem? (i := 531) (by decide +kernel)⟩
theorem lw_p25 : lw_okq (⟨"DarnedSock", "yearOrdered", "(I)I"⟩, 13) := ⟨⟨by decide +kernel, by decide +kernel⟩, List.mem_of_getElem? (i := 10) (by decide +kernel), List.mem_of_getElem? (i := 534) (by decide +kernel), List.mem_of_getElem? (i := 535) (by decide +kernel)⟩
theorem lw_p26 : lw_okq (⟨"DarnedSock$Sock", "waysFrom", "(IIIIII)J"⟩, 3) := ⟨⟨by decide +kernel, by decide +kernel⟩, List.mem_of_getElem? (i := 24) (by decide +kernel), List.mem_of_getElem? (i := 546) (by decide +kernel), List.mem_of_getElem? (i := 547) (by decide +kernel)⟩
theorem lw_p27 : lw_okq (⟨"DarnedSock", "howMany", "(I)I"⟩, 13) := ⟨⟨by decide +kernel, by decide +kernel⟩, List.mem_of_getElem? (i := 10) (by decide +kernel), List.mem_of_getElem? (i := 590) (by decide +kernel), List.mem_of_getElem? (i := 591) (by decide +kernel)⟩
theorem lw_p28 : lw_okq (⟨"DarnedSockModel", "begins", "(II)V"⟩, 18) := ⟨⟨by decide +kernel, by decide +kernel⟩, List.mem_of_getElem? (i := 610) (by decide +kernel), List.mem_of_getElem? (i := 616) (by decide +kernel), List.mem_of_getElem? (i := 617) (by decide +kernel)⟩
theorem lw_p29 : lw_okq (⟨"DarnedSockModel", "bad", "()I"⟩, 18) := ⟨⟨by decide +kernel, by decide +kernel⟩, List.mem_of_getElem? (i := 610) (by decide +kernel), List.mem_of_getElem? (i := 684) (by decide +kernel), List.mem_of_getElem? (i := 685) (by decide +kernel)⟩
theorem lw_p30 : lw_okq (⟨"DarnedSockModel", "darnsIn", "(I)I"⟩, 18) := ⟨⟨by decide +kernel, by decide +kernel⟩, List.mem_of_getElem? (i := 610) (by decide +kernel), List.mem_of_getElem? (i := 688) (by decide +kernel), List.mem_of_getElem? (i := 689) (by decide +kernel)⟩
theorem lw_p31 : lw_okq (⟨"DarnedSockModel", "full", "()I"⟩, 18) := ⟨⟨by decide +kernel, by decide +kernel⟩, List.mem_of_getElem? (i := 610) (by decide +kernel), List.mem_of_getElem? (i := 710) (by decide +kernel), List.mem_of_getElem? (i := 711) (by decide +kernel)⟩
def lw_privs_2 : List (MethodName × Nat) := [(⟨"DarnedSock", "findSpans", "()V"⟩, 13), (⟨"DarnedSock", "leastSpanBut", "(II)I"⟩, 13), (⟨"DarnedSock", "findSplitSpans", "(II)V"⟩, 13), (⟨"DarnedSock", "bestSplit", "(IIII)I"⟩, 13), (⟨"DarnedSock", "splitSpan", "(IIIII)I"⟩, 13), (⟨"DarnedSock$State", "agrees", "(II)Z"⟩, 6), (⟨"DarnedSock", "mostAlike", "(III)I"⟩, 13), (⟨"DarnedSock", "findFirstOrder", "(II)V"⟩, 13), (⟨"DarnedSock", "waysToOrder", "(I)I"⟩, 13), (⟨"DarnedSock", "yearOrdered", "(I)I"⟩, 13), (⟨"DarnedSock$Sock", "waysFrom", "(IIIIII)J"⟩, 3), (⟨"DarnedSock", "howMany", "(I)I"⟩, 13), (⟨"DarnedSockModel", "begins", "(II)V"⟩, 18), (⟨"DarnedSockModel", "bad", "()I"⟩, 18), (⟨"DarnedSockModel", "darnsIn", "(I)I"⟩, 18), (⟨"DarnedSockModel", "full", "()I"⟩, 18)]
theorem lw_r2 : ∀ q ∈ lw_privs_2, lw_okq q := List.forall_mem_cons.mpr ⟨lw_p16, List.forall_mem_cons.mpr ⟨lw_p17, List.forall_mem_cons.mpr ⟨lw_p18, List.forall_mem_cons.mpr ⟨lw_p19, List.forall_mem_cons.mpr ⟨lw_p20, List.forall_mem_cons.mpr ⟨lw_p21, List.forall_mem_cons.mpr ⟨lw_p22, List.forall_mem_cons.mpr ⟨lw_p23, List.forall_mem_cons.mpr ⟨lw_p24, List.forall_mem_cons.mpr ⟨lw_p25, List.forall_mem_cons.mpr ⟨lw_p26, List.forall_mem_cons.mpr ⟨lw_p27, List.forall_mem_cons.mpr ⟨lw_p28, List.forall_mem_cons.mpr ⟨lw_p29, List.forall_mem_cons.mpr ⟨lw_p30, List.forall_mem_cons.mpr ⟨lw_p31, fun _ h => absurd h List.not_mem_nil⟩⟩⟩⟩⟩⟩⟩⟩⟩⟩⟩⟩⟩⟩⟩⟩
theorem lw_p32 : lw_okq (⟨"DarnedSockModel", "minds", "()V"⟩, 18) := ⟨⟨by decide +kernel, by decide +kernel⟩, List.mem_of_getElem? (i := 610) (by decide +kernel), List.mem_of_getElem? (i := 714) (by decide +kernel), List.mem_of_getElem? (i := 715) (by decide +kernel)⟩
theorem lw_p33 : lw_okq (⟨"DarnedSockModel", "copy", "(III)V"⟩, 18) := ⟨⟨by decide +kernel, by decide +kernel⟩, List.mem_of_getElem? (i := 610) (by decide +kernel), List.mem_of_getElem? (i := 718) (by decide +kernel), List.mem_of_getElem? (i := 719) (by decide +kernel)⟩
theorem lw_p34 : lw_okq (⟨"DarnedSockModel", "puts", "(IIIII)V"⟩, 18) := ⟨⟨by decide +kernel, by decide +kernel⟩, List.mem_of_getElem? (i := 610) (by decide +kernel), List.mem_of_getElem? (i := 722) (by decide +kernel), List.mem_of_getElem? (i := 723) (by decide +kernel)⟩
theorem lw_p35 : lw_okq (⟨"DarnedSockModel", "no", "()I"⟩, 18) := ⟨⟨by decide +kernel, by decide +kernel⟩, List.mem_of_getElem? (i := 610) (by decide +kernel), List.mem_of_getElem? (i := 733) (by decide +kernel), List.mem_of_getElem? (i := 734) (by decide +kernel)⟩
theorem lw_p36 : lw_okq (⟨"DarnedSockModel", "topOf", "(II)I"⟩, 18) := ⟨⟨by decide +kernel, by decide +kernel⟩, List.mem_of_getElem? (i := 610) (by decide +kernel), List.mem_of_getElem? (i := 737) (by decide +kernel), List.mem_of_getElem? (i := 738) (by decide +kernel)⟩
theorem lw_p37 : lw_okq (⟨"DarnedSockModel", "passes", "(IZ)V"⟩, 18) := ⟨⟨by decide +kernel, by decide +kernel⟩, List.mem_of_getElem? (i := 610) (by decide +kernel), List.mem_of_getElem? (i := 746) (by decide +kernel), List.mem_of_getElem? (i := 747) (by decide +kernel)⟩
theorem lw_p38 : lw_okq (⟨"DarnedSockModel", "holesIn", "(I)I"⟩, 18) := ⟨⟨by decide +kernel, by decide +kernel⟩, List.mem_of_getElem? (i := 610) (by decide +kernel), List.mem_of_getElem? (i := 753) (by decide +kernel), List.mem_of_getElem? (i := 754) (by decide +kernel)⟩
theorem lw_p39 : lw_okq (⟨"DarnedSockModel", "token", "()V"⟩, 18) := ⟨⟨by decide +kernel, by decide +kernel⟩, List.mem_of_getElem? (i := 610) (by decide +kernel), List.mem_of_getElem? (i := 777) (by decide +kernel), List.mem_of_getElem? (i := 778) (by decide +kernel)⟩
theorem lw_p40 : lw_okq (⟨"DarnedSockModel", "byteAt", "(I)I"⟩, 18) := ⟨⟨by decide +kernel, by decide +kernel⟩, List.mem_of_getElem? (i := 610) (by decide +kernel), List.mem_of_getElem? (i := 781) (by decide +kernel), List.mem_of_getElem? (i := 782) (by decide +kernel)⟩
theorem lw_p41 : lw_okq (⟨"DarnedSockModel", "takesItem", "(I)Z"⟩, 18) := ⟨⟨by decide +kernel, by decide +kernel⟩, List.mem_of_getElem? (i := 610) (by decide +kernel), List.mem_of_getElem? (i := 789) (by decide +kernel), List.mem_of_getElem? (i := 790) (by decide +kernel)⟩
theorem lw_p42 : lw_okq (⟨"DarnedSockModel", "wordNow", "()I"⟩, 18) := ⟨⟨by decide +kernel, by decide +kernel⟩, List.mem_of_getElem? (i := 610) (by decide +kernel), List.mem_of_getElem? (i := 793) (by decide +kernel), List.mem_of_getElem? (i := 794) (by decide +kernel)⟩
theorem lw_p43 : lw_okq (⟨"DarnedSockModel", "isNamed", "(IIII)Z"⟩, 18) := ⟨⟨by decide +kernel, by decide +kernel⟩, List.mem_of_getElem? (i := 610) (by decide +kernel), List.mem_of_getElem? (i := 797) (by decide +kernel), List.mem_of_getElem? (i := 798) (by decide +kernel)⟩
theorem lw_p44 : lw_okq (⟨"DarnedSockModel", "takesNumber", "(I)Z"⟩, 18) := ⟨⟨by decide +kernel, by decide +kernel⟩, List.mem_of_getElem? (i := 610) (by decide +kernel), List.mem_of_getElem? (i := 801) (by decide +kernel), List.mem_of_getElem? (i := 802) (by decide +kernel)⟩
theorem lw_p45 : lw_okq (⟨"DarnedSockModel", "tellsItem", "(I)Z"⟩, 18) := ⟨⟨by decide +kernel, by decide +kernel⟩, List.mem_of_getElem? (i := 610) (by decide +kernel), List.mem_of_getElem? (i := 805) (by decide +kernel), List.mem_of_getElem? (i := 806) (by decide +kernel)⟩
theorem lw_p46 : lw_okq (⟨"DarnedSockModel", "countsOf", "(III)I"⟩, 18) := ⟨⟨by decide +kernel, by decide +kernel⟩, List.mem_of_getElem? (i := 610) (by decide +kernel), List.mem_of_getElem? (i := 813) (by decide +kernel), List.mem_of_getElem? (i := 814) (by decide +kernel)⟩
theorem lw_p47 : lw_okq (⟨"DarnedSockModel", "claimsIn", "(III)I"⟩, 18) := ⟨⟨by decide +kernel, by decide +kernel⟩, List.mem_of_getElem? (i := 610) (by decide +kernel), List.mem_of_getElem? (i := 832) (by decide +kernel), List.mem_of_getElem? (i := 833) (by decide +kernel)⟩
def lw_privs_3 : List (MethodName × Nat) := [(⟨"DarnedSockModel", "minds", "()V"⟩, 18), (⟨"DarnedSockModel", "copy", "(III)V"⟩, 18), (⟨"DarnedSockModel", "puts", "(IIIII)V"⟩, 18), (⟨"DarnedSockModel", "no", "()I"⟩, 18), (⟨"DarnedSockModel", "topOf", "(II)I"⟩, 18), (⟨"DarnedSockModel", "passes", "(IZ)V"⟩, 18), (⟨"DarnedSockModel", "holesIn", "(I)I"⟩, 18), (⟨"DarnedSockModel", "token", "()V"⟩, 18), (⟨"DarnedSockModel", "byteAt", "(I)I"⟩, 18), (⟨"DarnedSockModel", "takesItem", "(I)Z"⟩, 18), (⟨"DarnedSockModel", "wordNow", "()I"⟩, 18), (⟨"DarnedSockModel", "isNamed", "(IIII)Z"⟩, 18), (⟨"DarnedSockModel", "takesNumber", "(I)Z"⟩, 18), (⟨"DarnedSockModel", "tellsItem", "(I)Z"⟩, 18), (⟨"DarnedSockModel", "countsOf", "(III)I"⟩, 18), (⟨"DarnedSockModel", "claimsIn", "(III)I"⟩, 18)]
theorem lw_r3 : ∀ q ∈ lw_privs_3, lw_okq q := List.forall_mem_cons.mpr ⟨lw_p32, List.forall_mem_cons.mpr ⟨lw_p33, List.forall_mem_cons.mpr ⟨lw_p34, List.forall_mem_cons.mpr ⟨lw_p35, List.forall_mem_cons.mpr ⟨lw_p36, List.forall_mem_cons.mpr ⟨lw_p37, List.forall_mem_cons.mpr ⟨lw_p38, List.forall_mem_cons.mpr ⟨lw_p39, List.forall_mem_cons.mpr ⟨lw_p40, List.forall_mem_cons.mpr ⟨lw_p41, List.forall_mem_cons.mpr ⟨lw_p42, List.forall_mem_cons.mpr ⟨lw_p43, List.forall_mem_cons.mpr ⟨lw_p44, List.forall_mem_cons.mpr ⟨lw_p45, List.forall_mem_cons.mpr ⟨lw_p46, List.forall_mem_cons.mpr ⟨lw_p47, fun _ h => absurd h List.not_mem_nil⟩⟩⟩⟩⟩⟩⟩⟩⟩⟩⟩⟩⟩⟩⟩⟩
theorem lw_p48 : lw_okq (⟨"DarnedSockModel", "linesOf", "(II)I"⟩, 18) := ⟨⟨by decide +kernel, by decide +kernel⟩, List.mem_of_getElem? (i := 610) (by decide +kernel), List.mem_of_getElem? (i := 836) (by decide +kernel), List.mem_of_getElem? (i := 837) (by decide +kernel)⟩
theorem lw_p49 : lw_okq (⟨"DarnedSockModel", "familyAt", "(II)I"⟩, 18) := ⟨⟨by decide +kernel, by decide +kernel⟩, List.mem_of_getElem? (i := 610) (by decide +kernel), List.mem_of_getElem? (i := 840) (by decide +kernel), List.mem_of_getElem? (i := 841) (by decide +kernel)⟩
theorem lw_p50 : lw_okq (⟨"DarnedSockModel", "passesMany", "(I)V"⟩, 18) := ⟨⟨by decide +kernel, by decide +kernel⟩, List.mem_of_getElem? (i := 610) (by decide +kernel), List.mem_of_getElem? (i := 849) (by decide +kernel), List.mem_of_getElem? (i := 850) (by decide +kernel)⟩
theorem lw_p51 : lw_okq (⟨"DarnedSockModel", "tries", "()V"⟩, 18) := ⟨⟨by decide +kernel, by decide +kernel⟩, List.mem_of_getElem? (i := 610) (by decide +kernel), List.mem_of_getElem? (i := 853) (by decide +kernel), List.mem_of_getElem? (i := 854) (by decide +kernel)⟩
theorem lw_p52 : lw_okq (⟨"DarnedSockModel", "ownerIn", "(II)I"⟩, 18) := ⟨⟨by decide +kernel, by decide +kernel⟩, List.mem_of_getElem? (i := 610) (by decide +kernel), List.mem_of_getElem? (i := 857) (by decide +kernel), List.mem_of_getElem? (i := 858) (by decide +kernel)⟩
theorem lw_p53 : lw_okq (⟨"DarnedSockModel", "allClaims", "(II)I"⟩, 18) := ⟨⟨by decide +kernel, by decide +kernel⟩, List.mem_of_getElem? (i := 610) (by decide +kernel), List.mem_of_getElem? (i := 869) (by decide +kernel), List.mem_of_getElem? (i := 870) (by decide +kernel)⟩
theorem lw_p54 : lw_okq (⟨"DarnedSockModel", "tells", "(JJ)I"⟩, 18) := ⟨⟨by decide +kernel, by decide +kernel⟩, List.mem_of_getElem? (i := 610) (by decide +kernel), List.mem_of_getElem? (i := 873) (by decide +kernel), List.mem_of_getElem? (i := 874) (by decide +kernel)⟩
theorem lw_p55 : lw_okq (⟨"DarnedSockModel", "wholeTried", "()I"⟩, 18) := ⟨⟨by decide +kernel, by decide +kernel⟩, List.mem_of_getElem? (i := 610) (by decide +kernel), List.mem_of_getElem? (i := 885) (by decide +kernel), List.mem_of_getElem? (i := 886) (by decide +kernel)⟩
theorem lw_p56 : lw_okq (⟨"DarnedSockModel", "lastsOf", "(I)I"⟩, 18) := ⟨⟨by decide +kernel, by decide +kernel⟩, List.mem_of_getElem? (i := 610) (by decide +kernel), List.mem_of_getElem? (i := 889) (by decide +kernel), List.mem_of_getElem? (i := 890) (by decide +kernel)⟩
theorem lw_p57 : lw_okq (⟨"DarnedSockModel", "layLasting", "(II)V"⟩, 18) := ⟨⟨by decide +kernel, by decide +kernel⟩, List.mem_of_getElem? (i := 610) (by decide +kernel), List.mem_of_getElem? (i := 908) (by decide +kernel), List.mem_of_getElem? (i := 909) (by decide +kernel)⟩
theorem lw_p58 : lw_okq (⟨"DarnedSockModel", "kindsOf", "(I)I"⟩, 18) := ⟨⟨by decide +kernel, by decide +kernel⟩, List.mem_of_getElem? (i := 610) (by decide +kernel), List.mem_of_getElem? (i := 924) (by decide +kernel), List.mem_of_getElem? (i := 925) (by decide +kernel)⟩
theorem lw_p59 : lw_okq (⟨"DarnedSockModel", "leftOf", "(III)I"⟩, 18) := ⟨⟨by decide +kernel, by decide +kernel⟩, List.mem_of_getElem? (i := 610) (by decide +kernel), List.mem_of_getElem? (i := 928) (by decide +kernel), List.mem_of_getElem? (i := 929) (by decide +kernel)⟩
theorem lw_p60 : lw_okq (⟨"DarnedSockModel", "badAs", "(I)I"⟩, 18) := ⟨⟨by decide +kernel, by decide +kernel⟩, List.mem_of_getElem? (i := 610) (by decide +kernel), List.mem_of_getElem? (i := 944) (by decide +kernel), List.mem_of_getElem? (i := 945) (by decide +kernel)⟩
theorem lw_p61 : lw_okq (⟨"DarnedSockModel", "canCome", "(II)Z"⟩, 18) := ⟨⟨by decide +kernel, by decide +kernel⟩, List.mem_of_getElem? (i := 610) (by decide +kernel), List.mem_of_getElem? (i := 948) (by decide +kernel), List.mem_of_getElem? (i := 949) (by decide +kernel)⟩
theorem lw_p62 : lw_okq (⟨"DarnedSockModel", "yearOf", "(I)I"⟩, 18) := ⟨⟨by decide +kernel, by decide +kernel⟩, List.mem_of_getElem? (i := 610) (by decide +kernel), List.mem_of_getElem? (i := 952) (by decide +kernel), List.mem_of_getElem? (i := 953) (by decide +kernel)⟩
theorem lw_p63 : lw_okq (⟨"DarnedSockModel", "countOf", "(I)I"⟩, 18) := ⟨⟨by decide +kernel, by decide +kernel⟩, List.mem_of_getElem? (i := 610) (by decide +kernel), List.mem_of_getElem? (i := 991) (by decide +kernel), List.mem_of_getElem? (i := 992) (by decide +kernel)⟩
def lw_privs_4 : List (MethodName × Nat) := [(⟨"DarnedSockModel", "linesOf", "(II)I"⟩, 18), (⟨"DarnedSockModel", "familyAt", "(II)I"⟩, 18), (⟨"DarnedSockModel", "passesMany", "(I)V"⟩, 18), (⟨"DarnedSockModel", "tries", "()V"⟩, 18), (⟨"DarnedSockModel", "ownerIn", "(II)I"⟩, 18), (⟨"DarnedSockModel", "allClaims", "(II)I"⟩, 18), (⟨"DarnedSockModel", "tells", "(JJ)I"⟩, 18), (⟨"DarnedSockModel", "wholeTried", "()I"⟩, 18), (⟨"DarnedSockModel", "lastsOf", "(I)I"⟩, 18), (⟨"DarnedSockModel", "layLasting", "(II)V"⟩, 18), (⟨"DarnedSockModel", "kindsOf", "(I)I"⟩, 18), (⟨"DarnedSockModel", "leftOf", "(III)I"⟩, 18), (⟨"DarnedSockModel", "badAs", "(I)I"⟩, 18), (⟨"DarnedSockModel", "canCome", "(II)Z"⟩, 18), (⟨"DarnedSockModel", "yearOf", "(I)I"⟩, 18), (⟨"DarnedSockModel", "countOf", "(I)I"⟩, 18)]
theorem lw_r4 : ∀ q ∈ lw_privs_4, lw_okq q := List.forall_mem_cons.mpr ⟨lw_p48, List.forall_mem_cons.mpr ⟨lw_p49, List.forall_mem_cons.mpr ⟨lw_p50, List.forall_mem_cons.mpr ⟨lw_p51, List.forall_mem_cons.mpr ⟨lw_p52, List.forall_mem_cons.mpr ⟨lw_p53, List.forall_mem_cons.mpr ⟨lw_p54, List.forall_mem_cons.mpr ⟨lw_p55, List.forall_mem_cons.mpr ⟨lw_p56, List.forall_mem_cons.mpr ⟨lw_p57, List.forall_mem_cons.mpr ⟨lw_p58, List.forall_mem_cons.mpr ⟨lw_p59, List.forall_mem_cons.mpr ⟨lw_p60, List.forall_mem_cons.mpr ⟨lw_p61, List.forall_mem_cons.mpr ⟨lw_p62, List.forall_mem_cons.mpr ⟨lw_p63, fun _ h => absurd h List.not_mem_nil⟩⟩⟩⟩⟩⟩⟩⟩⟩⟩⟩⟩⟩⟩⟩⟩
theorem lw_p64 : lw_okq (⟨"DarnedSockModel", "mix", "(J)V"⟩, 18) := ⟨⟨by decide +kernel, by decide +kernel⟩, List.mem_of_getElem? (i := 610) (by decide +kernel), List.mem_of_getElem? (i := 1000) (by decide +kernel), List.mem_of_getElem? (i := 1001) (by decide +kernel)⟩
def lw_privs_5 : List (MethodName × Nat) := [(⟨"DarnedSockModel", "mix", "(J)V"⟩, 18)]
theorem lw_r5 : ∀ q ∈ lw_privs_5, lw_okq q := List.forall_mem_cons.mpr ⟨lw_p64, fun _ h => absurd h List.not_mem_nil⟩
def lw_privs : List (MethodName × Nat) := lw_privs_1 ++ (lw_privs_2 ++ (lw_privs_3 ++ (lw_privs_4 ++ (lw_privs_5))))
def lw_tbl : List Cond := k2_sels lw_privs ++ tables_1
theorem lw_privs_ok : ∀ q ∈ lw_privs, lw_okq q := by
  show ∀ q ∈ lw_privs_1 ++ (lw_privs_2 ++ (lw_privs_3 ++ (lw_privs_4 ++ (lw_privs_5)))), lw_okq q
  exact List.forall_mem_append.mpr ⟨lw_r1, List.forall_mem_append.mpr ⟨lw_r2, List.forall_mem_append.mpr ⟨lw_r3, List.forall_mem_append.mpr ⟨lw_r4, lw_r5⟩⟩⟩⟩
-- ===== end of PART A; then your names; then what follows =====
/-! ===== BEGIN words of one list among another's, by their places ===== -/
/-! ===== END ===== -/

/-! ===== BEGIN printed: names, fields, word lists, decode rows ===== -/
def RX0 : String := "DarnedSock$Sock"
def TX0 : u_T := fun k => match k with
  | 0 => ("DarnedSock$Sock", "wears", "[I", true)
  | 1 => ("DarnedSock$Sock", "row", "[I", true)
  | _ => ("DarnedSock$Sock", "claimed", "[I", true)
def tyX0 : Nat → FieldType := fun k => match k with
  | 0 => .array .int
  | 1 => .array .int
  | _ => .array .int
abbrev wsX00 : List Cond := u_ws RX0 TX0 3
theorem nmX0 : ∀ a, a < 3 → ∀ b, b < 3 → a ≠ b → (TX0 a).2.1 ≠ (TX0 b).2.1 := by decide +kernel
theorem tyX0_ok : ∀ k, k < 3 → parseFieldDescriptor (TX0 k).2.2.1 = some (tyX0 k) := by decide +kernel
abbrev cX0_init : ByteArray := prog_2_method_1_code
def yX0_init : MethodName := ⟨RX0, "<init>", "()V"⟩
abbrev cX0_renew : ByteArray := prog_2_method_2_code
def yX0_renew : MethodName := ⟨RX0, "renew", "(I)V"⟩
abbrev cX0_copy : ByteArray := prog_2_method_3_code
def yX0_copy : MethodName := ⟨RX0, "copy", "(LDarnedSock$Sock;)V"⟩
abbrev cX0_year : ByteArray := prog_2_method_4_code
def yX0_year : MethodName := ⟨RX0, "year", "()I"⟩
abbrev cX0_many : ByteArray := prog_2_method_5_code
def yX0_many : MethodName := ⟨RX0, "many", "(I)I"⟩
abbrev cX0_get : ByteArray := prog_2_method_6_code
def yX0_get : MethodName := ⟨RX0, "get", "(III)I"⟩
abbrev cX0_threadAt : ByteArray := prog_2_method_7_code
def yX0_threadAt : MethodName := ⟨RX0, "threadAt", "(II)I"⟩
abbrev cX0_isHole : ByteArray := prog_2_method_8_code
def yX0_isHole : MethodName := ⟨RX0, "isHole", "(I)Z"⟩
abbrev cX0_hasRoom : ByteArray := prog_2_method_9_code
def yX0_hasRoom : MethodName := ⟨RX0, "hasRoom", "(I)Z"⟩
abbrev cX0_darnsOf : ByteArray := prog_2_method_10_code
def yX0_darnsOf : MethodName := ⟨RX0, "darnsOf", "(I)I"⟩
abbrev cX0_darns : ByteArray := prog_2_method_11_code
def yX0_darns : MethodName := ⟨RX0, "darns", "()I"⟩
abbrev cX0_holeBits : ByteArray := prog_2_method_12_code
def yX0_holeBits : MethodName := ⟨RX0, "holeBits", "()I"⟩
abbrev cX0_verdict : ByteArray := prog_2_method_13_code
def yX0_verdict : MethodName := ⟨RX0, "verdict", "(IIII)I"⟩
abbrev cX0_put : ByteArray := prog_2_method_14_code
def yX0_put : MethodName := ⟨RX0, "put", "(IIII)I"⟩
abbrev cX0_take : ByteArray := prog_2_method_15_code
def yX0_take : MethodName := ⟨RX0, "take", "(I)I"⟩
abbrev cX0_pass : ByteArray := prog_2_method_16_code
def yX0_pass : MethodName := ⟨RX0, "pass", "()V"⟩
abbrev cX0_wearTop : ByteArray := prog_2_method_17_code
def yX0_wearTop : MethodName := ⟨RX0, "wearTop", "(I)V"⟩
abbrev cX0_counts : ByteArray := prog_2_method_18_code
def yX0_counts : MethodName := ⟨RX0, "counts", "(II)I"⟩
abbrev cX0_countsOver : ByteArray := prog_2_method_19_code
def yX0_countsOver : MethodName := ⟨RX0, "countsOver", "(III)I"⟩
abbrev cX0_weigh : ByteArray := prog_2_method_20_code
def yX0_weigh : MethodName := ⟨RX0, "weigh", "(I)V"⟩
abbrev cX0_addClaim : ByteArray := prog_2_method_21_code
def yX0_addClaim : MethodName := ⟨RX0, "addClaim", "(II)V"⟩
abbrev cX0_weighThread : ByteArray := prog_2_method_22_code
def yX0_weighThread : MethodName := ⟨RX0, "weighThread", "()V"⟩
abbrev cX0_weighAges : ByteArray := prog_2_method_23_code
def yX0_weighAges : MethodName := ⟨RX0, "weighAges", "()V"⟩
abbrev cX0_lineFamily : ByteArray := prog_2_method_24_code
def yX0_lineFamily : MethodName := ⟨RX0, "lineFamily", "(I)I"⟩
abbrev cX0_topFamily : ByteArray := prog_2_method_25_code
def yX0_topFamily : MethodName := ⟨RX0, "topFamily", "(I)I"⟩
abbrev cX0_claimOf : ByteArray := prog_2_method_26_code
def yX0_claimOf : MethodName := ⟨RX0, "claimOf", "(II)I"⟩
abbrev cX0_allClaims : ByteArray := prog_2_method_27_code
def yX0_allClaims : MethodName := ⟨RX0, "allClaims", "(I)I"⟩
abbrev cX0_ownerBy : ByteArray := prog_2_method_28_code
def yX0_ownerBy : MethodName := ⟨RX0, "ownerBy", "(I)I"⟩
abbrev cX0_isTwos : ByteArray := prog_2_method_29_code
def yX0_isTwos : MethodName := ⟨RX0, "isTwos", "(I)Z"⟩
abbrev cX0_span : ByteArray := prog_2_method_30_code
def yX0_span : MethodName := ⟨RX0, "span", "(III)I"⟩
abbrev cX0_leftOf : ByteArray := prog_2_method_31_code
def yX0_leftOf : MethodName := ⟨RX0, "leftOf", "(III)I"⟩
abbrev cX0_holeWays : ByteArray := prog_2_method_32_code
def yX0_holeWays : MethodName := ⟨RX0, "holeWays", "(III)J"⟩
abbrev cX0_waysFrom : ByteArray := prog_2_method_33_code
def yX0_waysFrom : MethodName := ⟨RX0, "waysFrom", "(IIIIII)J"⟩
abbrev cX0_nextYear : ByteArray := prog_2_method_34_code
def yX0_nextYear : MethodName := ⟨RX0, "nextYear", "(II)I"⟩
abbrev cX0_digested : ByteArray := prog_2_method_35_code
def yX0_digested : MethodName := ⟨RX0, "digested", "(J)J"⟩
def RX1 : String := "DarnedSock$State"
def TX1 : u_T := fun k => match k with
  | 0 => ("DarnedSock$State", "sock", "LDarnedSock$Sock;", true)
  | 1 => ("DarnedSock$State", "seen", "[I", true)
  | 2 => ("DarnedSock$State", "readings", "I", false)
  | 3 => ("DarnedSock$State", "kept", "[I", true)
  | 4 => ("DarnedSock$State", "newest", "I", false)
  | _ => ("DarnedSock$State", "undoable", "I", false)
def tyX1 : Nat → FieldType := fun k => match k with
  | 0 => .object "DarnedSock$Sock"
  | 1 => .array .int
  | 2 => .int
  | 3 => .array .int
  | 4 => .int
  | _ => .int
abbrev wsX10 : List Cond := u_ws RX1 TX1 6
theorem nmX1 : ∀ a, a < 6 → ∀ b, b < 6 → a ≠ b → (TX1 a).2.1 ≠ (TX1 b).2.1 := by decide +kernel
theorem tyX1_ok : ∀ k, k < 6 → parseFieldDescriptor (TX1 k).2.2.1 = some (tyX1 k) := by decide +kernel
abbrev cX1_init : ByteArray := prog_3_method_1_code
def yX1_init : MethodName := ⟨RX1, "<init>", "()V"⟩
abbrev cX1_renew : ByteArray := prog_3_method_2_code
def yX1_renew : MethodName := ⟨RX1, "renew", "(I)V"⟩
abbrev cX1_copy : ByteArray := prog_3_method_3_code
def yX1_copy : MethodName := ⟨RX1, "copy", "(LDarnedSock$State;)V"⟩
abbrev cX1_keep : ByteArray := prog_3_method_4_code
def yX1_keep : MethodName := ⟨RX1, "keep", "()V"⟩
abbrev cX1_bringBack : ByteArray := prog_3_method_5_code
def yX1_bringBack : MethodName := ⟨RX1, "bringBack", "()V"⟩
abbrev cX1_addReading : ByteArray := prog_3_method_6_code
def yX1_addReading : MethodName := ⟨RX1, "addReading", "(III)I"⟩
abbrev cX1_possibleKinds : ByteArray := prog_3_method_7_code
def yX1_possibleKinds : MethodName := ⟨RX1, "possibleKinds", "(I)I"⟩
abbrev cX1_agrees : ByteArray := prog_3_method_8_code
def yX1_agrees : MethodName := ⟨RX1, "agrees", "(II)Z"⟩
abbrev cX1_digestedReadings : ByteArray := prog_3_method_9_code
def yX1_digestedReadings : MethodName := ⟨RX1, "digestedReadings", "(J)J"⟩
def RX2 : String := "DarnedSock$Text"
def TX2 : u_T := fun k => match k with
  | 0 => ("DarnedSock$Text", "bytes", "[I", true)
  | 1 => ("DarnedSock$Text", "length", "I", false)
  | 2 => ("DarnedSock$Text", "words", "[I", true)
  | 3 => ("DarnedSock$Text", "numbers", "[I", true)
  | 4 => ("DarnedSock$Text", "items", "I", false)
  | 5 => ("DarnedSock$Text", "sort", "I", false)
  | 6 => ("DarnedSock$Text", "at", "I", false)
  | 7 => ("DarnedSock$Text", "behind", "I", false)
  | _ => ("DarnedSock$Text", "value", "I", false)
def tyX2 : Nat → FieldType := fun k => match k with
  | 0 => .array .int
  | 1 => .int
  | 2 => .array .int
  | 3 => .array .int
  | 4 => .int
  | 5 => .int
  | 6 => .int
  | 7 => .int
  | _ => .int
abbrev wsX20 : List Cond := u_ws RX2 TX2 9
theorem nmX2 : ∀ a, a < 9 → ∀ b, b < 9 → a ≠ b → (TX2 a).2.1 ≠ (TX2 b).2.1 := by decide +kernel
theorem tyX2_ok : ∀ k, k < 9 → parseFieldDescriptor (TX2 k).2.2.1 = some (tyX2 k) := by decide +kernel
abbrev cX2_init : ByteArray := prog_4_method_1_code
def yX2_init : MethodName := ⟨RX2, "<init>", "()V"⟩
abbrev cX2_fault : ByteArray := prog_4_method_2_code
def yX2_fault : MethodName := ⟨RX2, "fault", "()I"⟩
abbrev cX2_takeItem : ByteArray := prog_4_method_3_code
def yX2_takeItem : MethodName := ⟨RX2, "takeItem", "()Z"⟩
abbrev cX2_step : ByteArray := prog_4_method_4_code
def yX2_step : MethodName := ⟨RX2, "step", "()V"⟩
abbrev cX2_takeWord : ByteArray := prog_4_method_5_code
def yX2_takeWord : MethodName := ⟨RX2, "takeWord", "()V"⟩
abbrev cX2_spells : ByteArray := prog_4_method_6_code
def yX2_spells : MethodName := ⟨RX2, "spells", "(I)Z"⟩
abbrev cX2_takeNumber : ByteArray := prog_4_method_7_code
def yX2_takeNumber : MethodName := ⟨RX2, "takeNumber", "()V"⟩
abbrev cX2_isLetter : ByteArray := prog_4_method_8_code
def yX2_isLetter : MethodName := ⟨RX2, "isLetter", "(I)Z"⟩
abbrev cX2_isFigure : ByteArray := prog_4_method_9_code
def yX2_isFigure : MethodName := ⟨RX2, "isFigure", "(I)Z"⟩
abbrev cX2_refusedOn : ByteArray := prog_4_method_10_code
def yX2_refusedOn : MethodName := ⟨RX2, "refusedOn", "(LDarnedSock$Sock;)I"⟩
abbrev cX2_isToldTo : ByteArray := prog_4_method_11_code
def yX2_isToldTo : MethodName := ⟨RX2, "isToldTo", "(LDarnedSock$Sock;I)Z"⟩
def RX3 : String := "DarnedSock"
def TX3 : u_T := fun k => match k with
  | 0 => ("DarnedSock", "now", "LDarnedSock$State;", true)
  | 1 => ("DarnedSock", "images", "[LDarnedSock$State;", true)
  | 2 => ("DarnedSock", "trial", "LDarnedSock$Sock;", true)
  | 3 => ("DarnedSock", "text", "LDarnedSock$Text;", true)
  | 4 => ("DarnedSock", "spans", "[I", true)
  | 5 => ("DarnedSock", "splitSpans", "[I", true)
  | 6 => ("DarnedSock", "alike", "[I", true)
  | 7 => ("DarnedSock", "ordered", "[I", true)
  | 8 => ("DarnedSock", "above", "J", false)
  | 9 => ("DarnedSock", "below", "J", false)
  | 10 => ("DarnedSock", "bads", "I", false)
  | 11 => ("DarnedSock", "noes", "I", false)
  | _ => ("DarnedSock", "fulls", "I", false)
def tyX3 : Nat → FieldType := fun k => match k with
  | 0 => .object "DarnedSock$State"
  | 1 => .array (.object "DarnedSock$State")
  | 2 => .object "DarnedSock$Sock"
  | 3 => .object "DarnedSock$Text"
  | 4 => .array .int
  | 5 => .array .int
  | 6 => .array .int
  | 7 => .array .int
  | 8 => .long
  | 9 => .long
  | 10 => .int
  | 11 => .int
  | _ => .int
abbrev wsX30 : List Cond := u_ws RX3 TX3 13
theorem nmX3 : ∀ a, a < 13 → ∀ b, b < 13 → a ≠ b → (TX3 a).2.1 ≠ (TX3 b).2.1 := by decide +kernel
theorem tyX3_ok : ∀ k, k < 13 → parseFieldDescriptor (TX3 k).2.2.1 = some (tyX3 k) := by decide +kernel
abbrev cX3_init : ByteArray := prog_1_method_1_code
def yX3_init : MethodName := ⟨RX3, "<init>", "()V"⟩
abbrev cX3_sock : ByteArray := prog_1_method_2_code
def yX3_sock : MethodName := ⟨RX3, "sock", "(I)I"⟩
abbrev cX3_wear : ByteArray := prog_1_method_3_code
def yX3_wear : MethodName := ⟨RX3, "wear", "(II)I"⟩
abbrev cX3_darn : ByteArray := prog_1_method_4_code
def yX3_darn : MethodName := ⟨RX3, "darn", "(IIII)I"⟩
abbrev cX3_unpick : ByteArray := prog_1_method_5_code
def yX3_unpick : MethodName := ⟨RX3, "unpick", "(I)I"⟩
abbrev cX3_years : ByteArray := prog_1_method_6_code
def yX3_years : MethodName := ⟨RX3, "years", "(I)I"⟩
abbrev cX3_undo : ByteArray := prog_1_method_7_code
def yX3_undo : MethodName := ⟨RX3, "undo", "()I"⟩
abbrev cX3_type : ByteArray := prog_1_method_8_code
def yX3_type : MethodName := ⟨RX3, "type", "(I)I"⟩
abbrev cX3_clear : ByteArray := prog_1_method_9_code
def yX3_clear : MethodName := ⟨RX3, "clear", "()I"⟩
abbrev cX3_read : ByteArray := prog_1_method_10_code
def yX3_read : MethodName := ⟨RX3, "read", "()I"⟩
abbrev cX3_of : ByteArray := prog_1_method_11_code
def yX3_of : MethodName := ⟨RX3, "of", "(III)I"⟩
abbrev cX3_cell : ByteArray := prog_1_method_12_code
def yX3_cell : MethodName := ⟨RX3, "cell", "(II)I"⟩
abbrev cX3_claims : ByteArray := prog_1_method_13_code
def yX3_claims : MethodName := ⟨RX3, "claims", "(II)I"⟩
abbrev cX3_owner : ByteArray := prog_1_method_14_code
def yX3_owner : MethodName := ⟨RX3, "owner", "(II)I"⟩
abbrev cX3_laws : ByteArray := prog_1_method_15_code
def yX3_laws : MethodName := ⟨RX3, "laws", "(I)I"⟩
abbrev cX3_share : ByteArray := prog_1_method_16_code
def yX3_share : MethodName := ⟨RX3, "share", "(I)I"⟩
abbrev cX3_twos : ByteArray := prog_1_method_17_code
def yX3_twos : MethodName := ⟨RX3, "twos", "(I)I"⟩
abbrev cX3_whole : ByteArray := prog_1_method_18_code
def yX3_whole : MethodName := ⟨RX3, "whole", "()I"⟩
abbrev cX3_holes : ByteArray := prog_1_method_19_code
def yX3_holes : MethodName := ⟨RX3, "holes", "(I)I"⟩
abbrev cX3_best : ByteArray := prog_1_method_20_code
def yX3_best : MethodName := ⟨RX3, "best", "(III)I"⟩
abbrev cX3_split : ByteArray := prog_1_method_21_code
def yX3_split : MethodName := ⟨RX3, "split", "(III)I"⟩
abbrev cX3_reading : ByteArray := prog_1_method_22_code
def yX3_reading : MethodName := ⟨RX3, "reading", "(III)I"⟩
abbrev cX3_forget : ByteArray := prog_1_method_23_code
def yX3_forget : MethodName := ⟨RX3, "forget", "()I"⟩
abbrev cX3_may : ByteArray := prog_1_method_24_code
def yX3_may : MethodName := ⟨RX3, "may", "(I)I"⟩
abbrev cX3_look : ByteArray := prog_1_method_25_code
def yX3_look : MethodName := ⟨RX3, "look", "(I)I"⟩
abbrev cX3_orders : ByteArray := prog_1_method_26_code
def yX3_orders : MethodName := ⟨RX3, "orders", "(II)I"⟩
abbrev cX3_odds : ByteArray := prog_1_method_27_code
def yX3_odds : MethodName := ⟨RX3, "odds", "(III)I"⟩
abbrev cX3_drawn : ByteArray := prog_1_method_28_code
def yX3_drawn : MethodName := ⟨RX3, "drawn", "(II)I"⟩
abbrev cX3_part : ByteArray := prog_1_method_29_code
def yX3_part : MethodName := ⟨RX3, "part", "(I)J"⟩
abbrev cX3_image : ByteArray := prog_1_method_30_code
def yX3_image : MethodName := ⟨RX3, "image", "(I)I"⟩
abbrev cX3_from : ByteArray := prog_1_method_31_code
def yX3_from : MethodName := ⟨RX3, "from", "(I)I"⟩
abbrev cX3_status : ByteArray := prog_1_method_32_code
def yX3_status : MethodName := ⟨RX3, "status", "(I)I"⟩
abbrev cX3_count : ByteArray := prog_1_method_33_code
def yX3_count : MethodName := ⟨RX3, "count", "(I)I"⟩
abbrev cX3_digest : ByteArray := prog_1_method_34_code
def yX3_digest : MethodName := ⟨RX3, "digest", "()J"⟩
abbrev cX3_within : ByteArray := prog_1_method_35_code
def yX3_within : MethodName := ⟨RX3, "within", "(II)Z"⟩
abbrev cX3_between : ByteArray := prog_1_method_36_code
def yX3_between : MethodName := ⟨RX3, "between", "(III)Z"⟩
abbrev cX3_wearsAsTold : ByteArray := prog_1_method_37_code
def yX3_wearsAsTold : MethodName := ⟨RX3, "wearsAsTold", "(II)Z"⟩
abbrev cX3_refuse : ByteArray := prog_1_method_38_code
def yX3_refuse : MethodName := ⟨RX3, "refuse", "(I)I"⟩
abbrev cX3_howMany : ByteArray := prog_1_method_39_code
def yX3_howMany : MethodName := ⟨RX3, "howMany", "(I)I"⟩
abbrev cX3_loss : ByteArray := prog_1_method_40_code
def yX3_loss : MethodName := ⟨RX3, "loss", "(III)I"⟩
abbrev cX3_tryYears : ByteArray := prog_1_method_41_code
def yX3_tryYears : MethodName := ⟨RX3, "tryYears", "(I)V"⟩
abbrev cX3_setFraction : ByteArray := prog_1_method_42_code
def yX3_setFraction : MethodName := ⟨RX3, "setFraction", "(JJ)V"⟩
abbrev cX3_commonDivisor : ByteArray := prog_1_method_43_code
def yX3_commonDivisor : MethodName := ⟨RX3, "commonDivisor", "(JJ)J"⟩
abbrev cX3_powerOfTen : ByteArray := prog_1_method_44_code
def yX3_powerOfTen : MethodName := ⟨RX3, "powerOfTen", "(I)J"⟩
abbrev cX3_findSpans : ByteArray := prog_1_method_45_code
def yX3_findSpans : MethodName := ⟨RX3, "findSpans", "()V"⟩
abbrev cX3_leastSpanBut : ByteArray := prog_1_method_46_code
def yX3_leastSpanBut : MethodName := ⟨RX3, "leastSpanBut", "(II)I"⟩
abbrev cX3_findSplitSpans : ByteArray := prog_1_method_47_code
def yX3_findSplitSpans : MethodName := ⟨RX3, "findSplitSpans", "(II)V"⟩
abbrev cX3_splitSpan : ByteArray := prog_1_method_48_code
def yX3_splitSpan : MethodName := ⟨RX3, "splitSpan", "(IIIII)I"⟩
abbrev cX3_bestSplit : ByteArray := prog_1_method_49_code
def yX3_bestSplit : MethodName := ⟨RX3, "bestSplit", "(IIII)I"⟩
abbrev cX3_mostAlike : ByteArray := prog_1_method_50_code
def yX3_mostAlike : MethodName := ⟨RX3, "mostAlike", "(III)I"⟩
abbrev cX3_findFirstOrder : ByteArray := prog_1_method_51_code
def yX3_findFirstOrder : MethodName := ⟨RX3, "findFirstOrder", "(II)V"⟩
abbrev cX3_waysToOrder : ByteArray := prog_1_method_52_code
def yX3_waysToOrder : MethodName := ⟨RX3, "waysToOrder", "(I)I"⟩
abbrev cX3_yearOrdered : ByteArray := prog_1_method_53_code
def yX3_yearOrdered : MethodName := ⟨RX3, "yearOrdered", "(I)I"⟩
def RX4 : String := "DarnedSockModel"
def TX4 : u_T := fun k => match k with
  | 0 => ("DarnedSockModel", "w", "[I", true)
  | 1 => ("DarnedSockModel", "isKept", "[Z", true)
  | 2 => ("DarnedSockModel", "text", "[I", true)
  | 3 => ("DarnedSockModel", "texted", "I", false)
  | 4 => ("DarnedSockModel", "refused", "[I", true)
  | 5 => ("DarnedSockModel", "above", "J", false)
  | 6 => ("DarnedSockModel", "below", "J", false)
  | 7 => ("DarnedSockModel", "at", "I", false)
  | 8 => ("DarnedSockModel", "start", "I", false)
  | 9 => ("DarnedSockModel", "isWord", "Z", false)
  | 10 => ("DarnedSockModel", "isFigures", "Z", false)
  | 11 => ("DarnedSockModel", "numbers", "[I", true)
  | 12 => ("DarnedSockModel", "firstRefused", "I", false)
  | 13 => ("DarnedSockModel", "lasting", "[I", true)
  | 14 => ("DarnedSockModel", "names", "[I", true)
  | 15 => ("DarnedSockModel", "named", "I", false)
  | 16 => ("DarnedSockModel", "waysFrom", "[I", true)
  | _ => ("DarnedSockModel", "h", "J", false)
def tyX4 : Nat → FieldType := fun k => match k with
  | 0 => .array .int
  | 1 => .array .boolean
  | 2 => .array .int
  | 3 => .int
  | 4 => .array .int
  | 5 => .long
  | 6 => .long
  | 7 => .int
  | 8 => .int
  | 9 => .boolean
  | 10 => .boolean
  | 11 => .array .int
  | 12 => .int
  | 13 => .array .int
  | 14 => .array .int
  | 15 => .int
  | 16 => .array .int
  | _ => .long
abbrev wsX40 : List Cond := u_ws RX4 TX4 18
theorem nmX4 : ∀ a, a < 18 → ∀ b, b < 18 → a ≠ b → (TX4 a).2.1 ≠ (TX4 b).2.1 := by decide +kernel
theorem tyX4_ok : ∀ k, k < 18 → parseFieldDescriptor (TX4 k).2.2.1 = some (tyX4 k) := by decide +kernel
abbrev cX4_init : ByteArray := prog_6_method_1_code
def yX4_init : MethodName := ⟨RX4, "<init>", "()V"⟩
abbrev cX4_in : ByteArray := prog_6_method_3_code
def yX4_in : MethodName := ⟨RX4, "in", "(JJJ)Z"⟩
abbrev cX4_has : ByteArray := prog_6_method_4_code
def yX4_has : MethodName := ⟨RX4, "has", "(II)Z"⟩
abbrev cX4_bad : ByteArray := prog_6_method_5_code
def yX4_bad : MethodName := ⟨RX4, "bad", "()I"⟩
abbrev cX4_badAs : ByteArray := prog_6_method_6_code
def yX4_badAs : MethodName := ⟨RX4, "badAs", "(I)I"⟩
abbrev cX4_no : ByteArray := prog_6_method_7_code
def yX4_no : MethodName := ⟨RX4, "no", "()I"⟩
abbrev cX4_full : ByteArray := prog_6_method_8_code
def yX4_full : MethodName := ⟨RX4, "full", "()I"⟩
abbrev cX4_copy : ByteArray := prog_6_method_9_code
def yX4_copy : MethodName := ⟨RX4, "copy", "(III)V"⟩
abbrev cX4_begins : ByteArray := prog_6_method_10_code
def yX4_begins : MethodName := ⟨RX4, "begins", "(II)V"⟩
abbrev cX4_isCell : ByteArray := prog_6_method_11_code
def yX4_isCell : MethodName := ⟨RX4, "isCell", "(I)Z"⟩
abbrev cX4_isDarn : ByteArray := prog_6_method_12_code
def yX4_isDarn : MethodName := ⟨RX4, "isDarn", "(IIII)Z"⟩
abbrev cX4_placeOf : ByteArray := prog_6_method_13_code
def yX4_placeOf : MethodName := ⟨RX4, "placeOf", "(II)I"⟩
abbrev cX4_topOf : ByteArray := prog_6_method_14_code
def yX4_topOf : MethodName := ⟨RX4, "topOf", "(II)I"⟩
abbrev cX4_puts : ByteArray := prog_6_method_15_code
def yX4_puts : MethodName := ⟨RX4, "puts", "(IIIII)V"⟩
abbrev cX4_darnsIn : ByteArray := prog_6_method_16_code
def yX4_darnsIn : MethodName := ⟨RX4, "darnsIn", "(I)I"⟩
abbrev cX4_holesIn : ByteArray := prog_6_method_17_code
def yX4_holesIn : MethodName := ⟨RX4, "holesIn", "(I)I"⟩
abbrev cX4_ones : ByteArray := prog_6_method_18_code
def yX4_ones : MethodName := ⟨RX4, "ones", "(I)I"⟩
abbrev cX4_sock : ByteArray := prog_6_method_19_code
def yX4_sock : MethodName := ⟨RX4, "sock", "(I)I"⟩
abbrev cX4_wear : ByteArray := prog_6_method_20_code
def yX4_wear : MethodName := ⟨RX4, "wear", "(II)I"⟩
abbrev cX4_minds : ByteArray := prog_6_method_21_code
def yX4_minds : MethodName := ⟨RX4, "minds", "()V"⟩
abbrev cX4_darn : ByteArray := prog_6_method_22_code
def yX4_darn : MethodName := ⟨RX4, "darn", "(IIII)I"⟩
abbrev cX4_unpick : ByteArray := prog_6_method_23_code
def yX4_unpick : MethodName := ⟨RX4, "unpick", "(I)I"⟩
abbrev cX4_loses : ByteArray := prog_6_method_24_code
def yX4_loses : MethodName := ⟨RX4, "loses", "(III)I"⟩
abbrev cX4_passes : ByteArray := prog_6_method_25_code
def yX4_passes : MethodName := ⟨RX4, "passes", "(IZ)V"⟩
abbrev cX4_tries : ByteArray := prog_6_method_26_code
def yX4_tries : MethodName := ⟨RX4, "tries", "()V"⟩
abbrev cX4_years : ByteArray := prog_6_method_27_code
def yX4_years : MethodName := ⟨RX4, "years", "(I)I"⟩
abbrev cX4_undo : ByteArray := prog_6_method_28_code
def yX4_undo : MethodName := ⟨RX4, "undo", "()I"⟩
abbrev cX4_type : ByteArray := prog_6_method_29_code
def yX4_type : MethodName := ⟨RX4, "type", "(I)I"⟩
abbrev cX4_clear : ByteArray := prog_6_method_30_code
def yX4_clear : MethodName := ⟨RX4, "clear", "()I"⟩
abbrev cX4_byteAt : ByteArray := prog_6_method_31_code
def yX4_byteAt : MethodName := ⟨RX4, "byteAt", "(I)I"⟩
abbrev cX4_token : ByteArray := prog_6_method_32_code
def yX4_token : MethodName := ⟨RX4, "token", "()V"⟩
abbrev cX4_isNamed : ByteArray := prog_6_method_33_code
def yX4_isNamed : MethodName := ⟨RX4, "isNamed", "(IIII)Z"⟩
abbrev cX4_wordNow : ByteArray := prog_6_method_34_code
def yX4_wordNow : MethodName := ⟨RX4, "wordNow", "()I"⟩
abbrev cX4_takesNumber : ByteArray := prog_6_method_35_code
def yX4_takesNumber : MethodName := ⟨RX4, "takesNumber", "(I)Z"⟩
abbrev cX4_tellsItem : ByteArray := prog_6_method_36_code
def yX4_tellsItem : MethodName := ⟨RX4, "tellsItem", "(I)Z"⟩
abbrev cX4_takesItem : ByteArray := prog_6_method_37_code
def yX4_takesItem : MethodName := ⟨RX4, "takesItem", "(I)Z"⟩
abbrev cX4_read : ByteArray := prog_6_method_38_code
def yX4_read : MethodName := ⟨RX4, "read", "()I"⟩
abbrev cX4_countsOf : ByteArray := prog_6_method_39_code
def yX4_countsOf : MethodName := ⟨RX4, "countsOf", "(III)I"⟩
abbrev cX4_of : ByteArray := prog_6_method_40_code
def yX4_of : MethodName := ⟨RX4, "of", "(III)I"⟩
abbrev cX4_cell : ByteArray := prog_6_method_41_code
def yX4_cell : MethodName := ⟨RX4, "cell", "(II)I"⟩
abbrev cX4_familyAt : ByteArray := prog_6_method_42_code
def yX4_familyAt : MethodName := ⟨RX4, "familyAt", "(II)I"⟩
abbrev cX4_linesOf : ByteArray := prog_6_method_43_code
def yX4_linesOf : MethodName := ⟨RX4, "linesOf", "(II)I"⟩
abbrev cX4_claimsIn : ByteArray := prog_6_method_44_code
def yX4_claimsIn : MethodName := ⟨RX4, "claimsIn", "(III)I"⟩
abbrev cX4_ownerIn : ByteArray := prog_6_method_45_code
def yX4_ownerIn : MethodName := ⟨RX4, "ownerIn", "(II)I"⟩
abbrev cX4_isFamily : ByteArray := prog_6_method_46_code
def yX4_isFamily : MethodName := ⟨RX4, "isFamily", "(I)Z"⟩
abbrev cX4_isLaw : ByteArray := prog_6_method_47_code
def yX4_isLaw : MethodName := ⟨RX4, "isLaw", "(I)Z"⟩
abbrev cX4_claims : ByteArray := prog_6_method_48_code
def yX4_claims : MethodName := ⟨RX4, "claims", "(II)I"⟩
abbrev cX4_passesMany : ByteArray := prog_6_method_49_code
def yX4_passesMany : MethodName := ⟨RX4, "passesMany", "(I)V"⟩
abbrev cX4_owner : ByteArray := prog_6_method_50_code
def yX4_owner : MethodName := ⟨RX4, "owner", "(II)I"⟩
abbrev cX4_laws : ByteArray := prog_6_method_51_code
def yX4_laws : MethodName := ⟨RX4, "laws", "(I)I"⟩
abbrev cX4_tells : ByteArray := prog_6_method_52_code
def yX4_tells : MethodName := ⟨RX4, "tells", "(JJ)I"⟩
abbrev cX4_allClaims : ByteArray := prog_6_method_53_code
def yX4_allClaims : MethodName := ⟨RX4, "allClaims", "(II)I"⟩
abbrev cX4_share : ByteArray := prog_6_method_54_code
def yX4_share : MethodName := ⟨RX4, "share", "(I)I"⟩
abbrev cX4_twos : ByteArray := prog_6_method_55_code
def yX4_twos : MethodName := ⟨RX4, "twos", "(I)I"⟩
abbrev cX4_lastsOf : ByteArray := prog_6_method_56_code
def yX4_lastsOf : MethodName := ⟨RX4, "lastsOf", "(I)I"⟩
abbrev cX4_wholeTried : ByteArray := prog_6_method_57_code
def yX4_wholeTried : MethodName := ⟨RX4, "wholeTried", "()I"⟩
abbrev cX4_whole : ByteArray := prog_6_method_58_code
def yX4_whole : MethodName := ⟨RX4, "whole", "()I"⟩
abbrev cX4_holes : ByteArray := prog_6_method_59_code
def yX4_holes : MethodName := ⟨RX4, "holes", "(I)I"⟩
abbrev cX4_isThread : ByteArray := prog_6_method_60_code
def yX4_isThread : MethodName := ⟨RX4, "isThread", "(IIII)Z"⟩
abbrev cX4_best : ByteArray := prog_6_method_61_code
def yX4_best : MethodName := ⟨RX4, "best", "(III)I"⟩
abbrev cX4_layLasting : ByteArray := prog_6_method_62_code
def yX4_layLasting : MethodName := ⟨RX4, "layLasting", "(II)V"⟩
abbrev cX4_split : ByteArray := prog_6_method_63_code
def yX4_split : MethodName := ⟨RX4, "split", "(III)I"⟩
abbrev cX4_reading : ByteArray := prog_6_method_64_code
def yX4_reading : MethodName := ⟨RX4, "reading", "(III)I"⟩
abbrev cX4_forget : ByteArray := prog_6_method_65_code
def yX4_forget : MethodName := ⟨RX4, "forget", "()I"⟩
abbrev cX4_leftOf : ByteArray := prog_6_method_66_code
def yX4_leftOf : MethodName := ⟨RX4, "leftOf", "(III)I"⟩
abbrev cX4_kindsOf : ByteArray := prog_6_method_67_code
def yX4_kindsOf : MethodName := ⟨RX4, "kindsOf", "(I)I"⟩
abbrev cX4_may : ByteArray := prog_6_method_68_code
def yX4_may : MethodName := ⟨RX4, "may", "(I)I"⟩
abbrev cX4_look : ByteArray := prog_6_method_69_code
def yX4_look : MethodName := ⟨RX4, "look", "(I)I"⟩
abbrev cX4_yearOf : ByteArray := prog_6_method_70_code
def yX4_yearOf : MethodName := ⟨RX4, "yearOf", "(I)I"⟩
abbrev cX4_canCome : ByteArray := prog_6_method_71_code
def yX4_canCome : MethodName := ⟨RX4, "canCome", "(II)Z"⟩
abbrev cX4_orders : ByteArray := prog_6_method_72_code
def yX4_orders : MethodName := ⟨RX4, "orders", "(II)I"⟩
abbrev cX4_odds : ByteArray := prog_6_method_73_code
def yX4_odds : MethodName := ⟨RX4, "odds", "(III)I"⟩
abbrev cX4_drawn : ByteArray := prog_6_method_74_code
def yX4_drawn : MethodName := ⟨RX4, "drawn", "(II)I"⟩
abbrev cX4_part : ByteArray := prog_6_method_75_code
def yX4_part : MethodName := ⟨RX4, "part", "(I)J"⟩
abbrev cX4_image : ByteArray := prog_6_method_76_code
def yX4_image : MethodName := ⟨RX4, "image", "(I)I"⟩
abbrev cX4_from : ByteArray := prog_6_method_77_code
def yX4_from : MethodName := ⟨RX4, "from", "(I)I"⟩
abbrev cX4_status : ByteArray := prog_6_method_78_code
def yX4_status : MethodName := ⟨RX4, "status", "(I)I"⟩
abbrev cX4_countOf : ByteArray := prog_6_method_79_code
def yX4_countOf : MethodName := ⟨RX4, "countOf", "(I)I"⟩
abbrev cX4_count : ByteArray := prog_6_method_80_code
def yX4_count : MethodName := ⟨RX4, "count", "(I)I"⟩
abbrev cX4_mix : ByteArray := prog_6_method_81_code
def yX4_mix : MethodName := ⟨RX4, "mix", "(J)V"⟩
abbrev cX4_digest : ByteArray := prog_6_method_82_code
def yX4_digest : MethodName := ⟨RX4, "digest", "()J"⟩
def RJ6 : String := "java/lang/Integer"
def TJ6 : u_T := fun k => match k with
  | _ => ("", "", "", false)
def tyJ6 : Nat → FieldType := fun k => match k with
  | _ => .int
abbrev wsJ60 : List Cond := u_ws RJ6 TJ6 0
theorem nmJ6 : ∀ a, a < 0 → ∀ b, b < 0 → a ≠ b → (TJ6 a).2.1 ≠ (TJ6 b).2.1 := by decide +kernel
theorem tyJ6_ok : ∀ k, k < 0 → parseFieldDescriptor (TJ6 k).2.2.1 = some (tyJ6 k) := by decide +kernel
abbrev cJ6_bitCount_0f7a4 : ByteArray := prog_7_method_49_code
def yJ6_bitCount_0f7a4 : MethodName := ⟨RJ6, "bitCount", "(I)I"⟩
def RJ9 : String := "java/lang/Math"
def TJ9 : u_T := fun k => match k with
  | _ => ("", "", "", false)
def tyJ9 : Nat → FieldType := fun k => match k with
  | _ => .int
abbrev wsJ90 : List Cond := u_ws RJ9 TJ9 0
theorem nmJ9 : ∀ a, a < 0 → ∀ b, b < 0 → a ≠ b → (TJ9 a).2.1 ≠ (TJ9 b).2.1 := by decide +kernel
theorem tyJ9_ok : ∀ k, k < 0 → parseFieldDescriptor (TJ9 k).2.2.1 = some (tyJ9 k) := by decide +kernel
abbrev cJ9_max_7cf53 : ByteArray := prog_8_method_65_code
def yJ9_max_7cf53 : MethodName := ⟨RJ9, "max", "(II)I"⟩
abbrev cJ9_min_7cf53 : ByteArray := prog_8_method_69_code
def yJ9_min_7cf53 : MethodName := ⟨RJ9, "min", "(II)I"⟩
def RJ10 : String := "java/lang/System"
def TJ10 : u_T := fun k => match k with
  | _ => ("", "", "", false)
def tyJ10 : Nat → FieldType := fun k => match k with
  | _ => .int
abbrev wsJ100 : List Cond := u_ws RJ10 TJ10 0
theorem nmJ10 : ∀ a, a < 0 → ∀ b, b < 0 → a ≠ b → (TJ10 a).2.1 ≠ (TJ10 b).2.1 := by decide +kernel
theorem tyJ10_ok : ∀ k, k < 0 → parseFieldDescriptor (TJ10 k).2.2.1 = some (tyJ10 k) := by decide +kernel
def RL : String := "DarnedSockLaw"
abbrev cL_law : ByteArray := code
def yL_law : MethodName := ⟨RL, "law", "([I)Z"⟩
abbrev vwCl : List vw_C := [(RX0, TX0, 3), (RX1, TX1, 6), (RX2, TX2, 9), (RX3, TX3, 13), (RX4, TX4, 18)]
theorem inX0 : ∀ w ∈ wsX00, w ∈ lw_tbl := by decide +kernel
theorem inX1 : ∀ w ∈ wsX10, w ∈ lw_tbl := by decide +kernel
theorem inX2 : ∀ w ∈ wsX20, w ∈ lw_tbl := by decide +kernel
theorem inX3 : ∀ w ∈ wsX30, w ∈ lw_tbl := by decide +kernel
theorem inX4 : ∀ w ∈ wsX40, w ∈ lw_tbl := by decide +kernel
