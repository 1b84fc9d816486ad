section
-- ===== PART A: goes FIRST, ahead of the names: the tables' words, and 'selects' of the private methods out of them =====
/-- a private method of a class that the tables say can be made, by its rows of tables_1 -/
def lw_okq (q : MethodName × Nat) : Prop := (q.1.cls ≠ "java/lang/invoke/MethodHandle" ∧ q.1.cls ≠ "java/lang/invoke/VarHandle") ∧ Cond.instantiable q.1.cls q.2 ∈ tables_1 ∧ Cond.privateMethod q.1 ∈ tables_1 ∧ Cond.instanceMethod q.1 ∈ tables_1
theorem lw_p0 : lw_okq (⟨"DarnedSock", "refuse", "(I)I"⟩, 13) := ⟨⟨by decide +kernel, by decide +kernel⟩, List.mem_of_getElem? (i := 10) (by decide +kernel), List.mem_of_getElem? (i := 153) (by decide +kernel), List.mem_of_getElem? (i := 154) (by decide +kernel)⟩
theorem lw_p1 : lw_okq (⟨"DarnedSock$Sock", "wearTop", "(I)V"⟩, 3) := ⟨⟨by decide +kernel, by decide +kernel⟩, List.mem_of_getElem? (i := 24) (by decide +kernel), List.mem_of_getElem? (i := 241) (by decide +kernel), List.mem_of_getElem? (i := 242) (by decide +kernel)⟩
theorem lw_p2 : lw_okq (⟨"DarnedSock$Text", "step", "()V"⟩, 9) := ⟨⟨by decide +kernel, by decide +kernel⟩, List.mem_of_getElem? (i := 69) (by decide +kernel), List.mem_of_getElem? (i := 286) (by decide +kernel), List.mem_of_getElem? (i := 287) (by decide +kernel)⟩
theorem lw_p3 : lw_okq (⟨"DarnedSock$Text", "takeWord", "()V"⟩, 9) := ⟨⟨by decide +kernel, by decide +kernel⟩, List.mem_of_getElem? (i := 69) (by decide +kernel), List.mem_of_getElem? (i := 294) (by decide +kernel), List.mem_of_getElem? (i := 295) (by decide +kernel)⟩
theorem lw_p4 : lw_okq (⟨"DarnedSock$Text", "spells", "(I)Z"⟩, 9) := ⟨⟨by decide +kernel, by decide +kernel⟩, List.mem_of_getElem? (i := 69) (by decide +kernel), List.mem_of_getElem? (i := 298) (by decide +kernel), List.mem_of_getElem? (i := 299) (by decide +kernel)⟩
theorem lw_p5 : lw_okq (⟨"DarnedSock$Text", "takeNumber", "()V"⟩, 9) := ⟨⟨by decide +kernel, by decide +kernel⟩, List.mem_of_getElem? (i := 69) (by decide +kernel), List.mem_of_getElem? (i := 308) (by decide +kernel), List.mem_of_getElem? (i := 309) (by decide +kernel)⟩
theorem lw_p6 : lw_okq (⟨"DarnedSock$Text", "takeItem", "()Z"⟩, 9) := ⟨⟨by decide +kernel, by decide +kernel⟩, List.mem_of_getElem? (i := 69) (by decide +kernel), List.mem_of_getElem? (i := 312) (by decide +kernel), List.mem_of_getElem? (i := 313) (by decide +kernel)⟩
theorem lw_p7 : lw_okq (⟨"DarnedSock$Text", "isToldTo", "(LDarnedSock$Sock;I)Z"⟩, 9) := ⟨⟨by decide +kernel, by decide +kernel⟩, List.mem_of_getElem? (i := 69) (by decide +kernel), List.mem_of_getElem? (i := 322) (by decide +kernel), List.mem_of_getElem? (i := 323) (by decide +kernel)⟩
theorem lw_p8 : lw_okq (⟨"DarnedSock$Sock", "countsOver", "(III)I"⟩, 3) := ⟨⟨by decide +kernel, by decide +kernel⟩, List.mem_of_getElem? (i := 24) (by decide +kernel), List.mem_of_getElem? (i := 344) (by decide +kernel), List.mem_of_getElem? (i := 345) (by decide +kernel)⟩
theorem lw_p9 : lw_okq (⟨"DarnedSock$Sock", "weighThread", "()V"⟩, 3) := ⟨⟨by decide +kernel, by decide +kernel⟩, List.mem_of_getElem? (i := 24) (by decide +kernel), List.mem_of_getElem? (i := 370) (by decide +kernel), List.mem_of_getElem? (i := 371) (by decide +kernel)⟩
theorem lw_p10 : lw_okq (⟨"DarnedSock$Sock", "addClaim", "(II)V"⟩, 3) := ⟨⟨by decide +kernel, by decide +kernel⟩, List.mem_of_getElem? (i := 24) (by decide +kernel), List.mem_of_getElem? (i := 374) (by decide +kernel), List.mem_of_getElem? (i := 375) (by decide +kernel)⟩
theorem lw_p11 : lw_okq (⟨"DarnedSock$Sock", "topFamily", "(I)I"⟩, 3) := ⟨⟨by decide +kernel, by decide +kernel⟩, List.mem_of_getElem? (i := 24) (by decide +kernel), List.mem_of_getElem? (i := 378) (by decide +kernel), List.mem_of_getElem? (i := 379) (by decide +kernel)⟩
theorem lw_p12 : lw_okq (⟨"DarnedSock$Sock", "lineFamily", "(I)I"⟩, 3) := ⟨⟨by decide +kernel, by decide +kernel⟩, List.mem_of_getElem? (i := 24) (by decide +kernel), List.mem_of_getElem? (i := 382) (by decide +kernel), List.mem_of_getElem? (i := 383) (by decide +kernel)⟩
theorem lw_p13 : lw_okq (⟨"DarnedSock$Sock", "weighAges", "()V"⟩, 3) := ⟨⟨by decide +kernel, by decide +kernel⟩, List.mem_of_getElem? (i := 24) (by decide +kernel), List.mem_of_getElem? (i := 388) (by decide +kernel), List.mem_of_getElem? (i := 389) (by decide +kernel)⟩
theorem lw_p14 : lw_okq (⟨"DarnedSock", "tryYears", "(I)V"⟩, 13) := ⟨⟨by decide +kernel, by decide +kernel⟩, List.mem_of_getElem? (i := 10) (by decide +kernel), List.mem_of_getElem? (i := 399) (by decide +kernel), List.mem_of_getElem? (i := 400) (by decide +kernel)⟩
theorem lw_p15 : lw_okq (⟨"DarnedSock", "setFraction", "(JJ)V"⟩, 13) := ⟨⟨by decide +kernel, by decide +kernel⟩, List.mem_of_getElem? (i := 10) (by decide +kernel), List.mem_of_getElem? (i := 419) (by decide +kernel), List.mem_of_getElem? (i := 420) (by decide +kernel)⟩
def lw_privs_1 : List (MethodName × Nat) := [(⟨"DarnedSock", "refuse", "(I)I"⟩, 13), (⟨"DarnedSock$Sock", "wearTop", "(I)V"⟩, 3), (⟨"DarnedSock$Text", "step", "()V"⟩, 9), (⟨"DarnedSock$Text", "takeWord", "()V"⟩, 9), (⟨"DarnedSock$Text", "spells", "(I)Z"⟩, 9), (⟨"DarnedSock$Text", "takeNumber", "()V"⟩, 9), (⟨"DarnedSock$Text", "takeItem", "()Z"⟩, 9), (⟨"DarnedSock$Text", "isToldTo", "(LDarnedSock$Sock;I)Z"⟩, 9), (⟨"DarnedSock$Sock", "countsOver", "(III)I"⟩, 3), (⟨"DarnedSock$Sock", "weighThread", "()V"⟩, 3), (⟨"DarnedSock$Sock", "addClaim", "(II)V"⟩, 3), (⟨"DarnedSock$Sock", "topFamily", "(I)I"⟩, 3), (⟨"DarnedSock$Sock", "lineFamily", "(I)I"⟩, 3), (⟨"DarnedSock$Sock", "weighAges", "()V"⟩, 3), (⟨"DarnedSock", "tryYears", "(I)V"⟩, 13), (⟨"DarnedSock", "setFraction", "(JJ)V"⟩, 13)]
theorem lw_r1 : ∀ q ∈ lw_privs_1, lw_okq q := List.forall_mem_cons.mpr ⟨lw_p0, List.forall_mem_cons.mpr ⟨lw_p1, List.forall_mem_cons.mpr ⟨lw_p2, List.forall_mem_cons.mpr ⟨lw_p3, List.forall_mem_cons.mpr ⟨lw_p4, List.forall_mem_cons.mpr ⟨lw_p5, List.forall_mem_cons.mpr ⟨lw_p6, List.forall_mem_cons.mpr ⟨lw_p7, List.forall_mem_cons.mpr ⟨lw_p8, List.forall_mem_cons.mpr ⟨lw_p9, List.forall_mem_cons.mpr ⟨lw_p10, List.forall_mem_cons.mpr ⟨lw_p11, List.forall_mem_cons.mpr ⟨lw_p12, List.forall_mem_cons.mpr ⟨lw_p13, List.forall_mem_cons.mpr ⟨lw_p14, List.forall_mem_cons.mpr ⟨lw_p15, fun _ h => absurd h List.not_mem_nil⟩⟩⟩⟩⟩⟩⟩⟩⟩⟩⟩⟩⟩⟩⟩⟩
theorem lw_p16 : lw_okq (⟨"DarnedSock", "findSpans", "()V"⟩, 13) := ⟨⟨by decide +kernel, by decide +kernel⟩, List.mem_of_getElem? (i := 10) (by decide +kernel), List.mem_of_getElem? (i := 440) (by decide +kernel), List.mem_of_getElem? (i := 441) (by decide +kernel)⟩
theorem lw_p17 : lw_okq (⟨"DarnedSock", "leastSpanBut", "(II)I"⟩, 13) := ⟨⟨by decide +kernel, by decide +kernel⟩, List.mem_of_getElem? (i := 10) (by decide +kernel), List.mem_of_getElem? (i := 448) (by decide +kernel), List.mem_of_getElem? (i := 449) (by decide +kernel)⟩
theorem lw_p18 : lw_okq (⟨"DarnedSock", "findSplitSpans", "(II)V"⟩, 13) := ⟨⟨by decide +kernel, by decide +kernel⟩, List.mem_of_getElem? (i := 10) (by decide +kernel), List.mem_of_getElem? (i := 466) (by decide +kernel), List.mem_of_getElem? (i := 467) (by decide +kernel)⟩
theorem lw_p19 : lw_okq (⟨"DarnedSock", "bestSplit", "(IIII)I"⟩, 13) := ⟨⟨by decide +kernel, by decide +kernel⟩, List.mem_of_getElem? (i := 10) (by decide +kernel), List.mem_of_getElem? (i := 470) (by decide +kernel), List.mem_of_getElem? (i := 471) (by decide +kernel)⟩
theorem lw_p20 : lw_okq (⟨"DarnedSock", "splitSpan", "(IIIII)I"⟩, 13) := ⟨⟨by decide +kernel, by decide +kernel⟩, List.mem_of_getElem? (i := 10) (by decide +kernel), List.mem_of_getElem? (i := 474) (by decide +kernel), List.mem_of_getElem? (i := 475) (by decide +kernel)⟩
theorem lw_p21 : lw_okq (⟨"DarnedSock$State", "agrees", "(II)Z"⟩, 6) := ⟨⟨by decide +kernel, by decide +kernel⟩, List.mem_of_getElem? (i := 18) (by decide +kernel), List.mem_of_getElem? (i := 499) (by decide +kernel), List.mem_of_getElem? (i := 500) (by decide +kernel)⟩
theorem lw_p22 : lw_okq (⟨"DarnedSock", "mostAlike", "(III)I"⟩, 13) := ⟨⟨by decide +kernel, by decide +kernel⟩, List.mem_of_getElem? (i := 10) (by decide +kernel), List.mem_of_getElem? (i := 511) (by decide +kernel), List.mem_of_getElem? (i := 512) (by decide +kernel)⟩
theorem lw_p23 : lw_okq (⟨"DarnedSock", "findFirstOrder", "(II)V"⟩, 13) := ⟨⟨by decide +kernel, by decide +kernel⟩, List.mem_of_getElem? (i := 10) (by decide +kernel), List.mem_of_getElem? (i := 522) (by decide +kernel), List.mem_of_getElem? (i := 523) (by decide +kernel)⟩
theorem lw_p24 : lw_okq (⟨"DarnedSock", "waysToOrder", "(I)I"⟩, 13) := ⟨⟨by decide +kernel, by decide +kernel⟩, List.mem_of_getElem? (i := 10) (by decide +kernel), List.mem_of_getElem? (i := 530) (by decide +kernel), List.mem_of_getElem? (i := 531) (by decide +kernel)⟩
theorem lw_p25 : lw_okq (⟨"DarnedSock", "yearOrdered", "(I)I"⟩, 13) := ⟨⟨by decide +kernel, by decide +kernel⟩, List.mem_of_getElem? (i := 10) (by decide +kernel), List.mem_of_getElem? (i := 534) (by decide +kernel), List.mem_of_getElem? (i := 535) (by decide +kernel)⟩
theorem lw_p26 : lw_okq (⟨"DarnedSock", "howMany", "(I)I"⟩, 13) := ⟨⟨by decide +kernel, by decide +kernel⟩, List.mem_of_getElem? (i := 10) (by decide +kernel), List.mem_of_getElem? (i := 588) (by decide +kernel), List.mem_of_getElem? (i := 589) (by decide +kernel)⟩
theorem lw_p27 : lw_okq (⟨"DarnedSockModel", "begins", "(II)V"⟩, 18) := ⟨⟨by decide +kernel, by decide +kernel⟩, List.mem_of_getElem? (i := 608) (by decide +kernel), List.mem_of_getElem? (i := 614) (by decide +kernel), List.mem_of_getElem? (i := 615) (by decide +kernel)⟩
theorem lw_p28 : lw_okq (⟨"DarnedSockModel", "bad", "()I"⟩, 18) := ⟨⟨by decide +kernel, by decide +kernel⟩, List.mem_of_getElem? (i := 608) (by decide +kernel), List.mem_of_getElem? (i := 682) (by decide +kernel), List.mem_of_getElem? (i := 683) (by decide +kernel)⟩
theorem lw_p29 : lw_okq (⟨"DarnedSockModel", "darnsIn", "(I)I"⟩, 18) := ⟨⟨by decide +kernel, by decide +kernel⟩, List.mem_of_getElem? (i := 608) (by decide +kernel), List.mem_of_getElem? (i := 686) (by decide +kernel), List.mem_of_getElem? (i := 687) (by decide +kernel)⟩
theorem lw_p30 : lw_okq (⟨"DarnedSockModel", "full", "()I"⟩, 18) := ⟨⟨by decide +kernel, by decide +kernel⟩, List.mem_of_getElem? (i := 608) (by decide +kernel), List.mem_of_getElem? (i := 708) (by decide +kernel), List.mem_of_getElem? (i := 709) (by decide +kernel)⟩
theorem lw_p31 : lw_okq (⟨"DarnedSockModel", "minds", "()V"⟩, 18) := ⟨⟨by decide +kernel, by decide +kernel⟩, List.mem_of_getElem? (i := 608) (by decide +kernel), List.mem_of_getElem? (i := 712) (by decide +kernel), List.mem_of_getElem? (i := 713) (by decide +kernel)⟩
def lw_privs_2 : List (MethodName × Nat) := [(⟨"DarnedSock", "findSpans", "()V"⟩, 13), (⟨"DarnedSock", "leastSpanBut", "(II)I"⟩, 13), (⟨"DarnedSock", "findSplitSpans", "(II)V"⟩, 13), (⟨"DarnedSock", "bestSplit", "(IIII)I"⟩, 13), (⟨"DarnedSock", "splitSpan", "(IIIII)I"⟩, 13), (⟨"DarnedSock$State", "agrees", "(II)Z"⟩, 6), (⟨"DarnedSock", "mostAlike", "(III)I"⟩, 13), (⟨"DarnedSock", "findFirstOrder", "(II)V"⟩, 13), (⟨"DarnedSock", "waysToOrder", "(I)I"⟩, 13), (⟨"DarnedSock", "yearOrdered", "(I)I"⟩, 13), (⟨"DarnedSock", "howMany", "(I)I"⟩, 13), (⟨"DarnedSockModel", "begins", "(II)V"⟩, 18), (⟨"DarnedSockModel", "bad", "()I"⟩, 18), (⟨"DarnedSockModel", "darnsIn", "(I)I"⟩, 18), (⟨"DarnedSockModel", "full", "()I"⟩, 18), (⟨"DarnedSockModel", "minds", "()V"⟩, 18)]
theorem lw_r2 : ∀ q ∈ lw_privs_2, lw_okq q := List.forall_mem_cons.mpr ⟨lw_p16, List.forall_mem_cons.mpr ⟨lw_p17, List.forall_mem_cons.mpr ⟨lw_p18, List.forall_mem_cons.mpr ⟨lw_p19, List.forall_mem_cons.mpr ⟨lw_p20, List.forall_mem_cons.mpr ⟨lw_p21, List.forall_mem_cons.mpr ⟨lw_p22, List.forall_mem_cons.mpr ⟨lw_p23, List.forall_mem_cons.mpr ⟨lw_p24, List.forall_mem_cons.mpr ⟨lw_p25, List.forall_mem_cons.mpr ⟨lw_p26, List.forall_mem_cons.mpr ⟨lw_p27, List.forall_mem_cons.mpr ⟨lw_p28, List.forall_mem_cons.mpr ⟨lw_p29, List.forall_mem_cons.mpr ⟨lw_p30, List.forall_mem_cons.mpr ⟨lw_p31, fun _ h => absurd h List.not_mem_nil⟩⟩⟩⟩⟩⟩⟩⟩⟩⟩⟩⟩⟩⟩⟩⟩
theorem lw_p32 : lw_okq (⟨"DarnedSockModel", "copy", "(III)V"⟩, 18) := ⟨⟨by decide +kernel, by decide +kernel⟩, List.mem_of_getElem? (i := 608) (by decide +kernel), List.mem_of_getElem? (i := 716) (by decide +kernel), List.mem_of_getElem? (i := 717) (by decide +kernel)⟩
theorem lw_p33 : lw_okq (⟨"DarnedSockModel", "puts", "(IIIII)V"⟩, 18) := ⟨⟨by decide +kernel, by decide +kernel⟩, List.mem_of_getElem? (i := 608) (by decide +kernel), List.mem_of_getElem? (i := 720) (by decide +kernel), List.mem_of_getElem? (i := 721) (by decide +kernel)⟩
theorem lw_p34 : lw_okq (⟨"DarnedSockModel", "no", "()I"⟩, 18) := ⟨⟨by decide +kernel, by decide +kernel⟩, List.mem_of_getElem? (i := 608) (by decide +kernel), List.mem_of_getElem? (i := 731) (by decide +kernel), List.mem_of_getElem? (i := 732) (by decide +kernel)⟩
theorem lw_p35 : lw_okq (⟨"DarnedSockModel", "topOf", "(II)I"⟩, 18) := ⟨⟨by decide +kernel, by decide +kernel⟩, List.mem_of_getElem? (i := 608) (by decide +kernel), List.mem_of_getElem? (i := 735) (by decide +kernel), List.mem_of_getElem? (i := 736) (by decide +kernel)⟩
theorem lw_p36 : lw_okq (⟨"DarnedSockModel", "passes", "(IZ)V"⟩, 18) := ⟨⟨by decide +kernel, by decide +kernel⟩, List.mem_of_getElem? (i := 608) (by decide +kernel), List.mem_of_getElem? (i := 744) (by decide +kernel), List.mem_of_getElem? (i := 745) (by decide +kernel)⟩
theorem lw_p37 : lw_okq (⟨"DarnedSockModel", "holesIn", "(I)I"⟩, 18) := ⟨⟨by decide +kernel, by decide +kernel⟩, List.mem_of_getElem? (i := 608) (by decide +kernel), List.mem_of_getElem? (i := 751) (by decide +kernel), List.mem_of_getElem? (i := 752) (by decide +kernel)⟩
theorem lw_p38 : lw_okq (⟨"DarnedSockModel", "token", "()V"⟩, 18) := ⟨⟨by decide +kernel, by decide +kernel⟩, List.mem_of_getElem? (i := 608) (by decide +kernel), List.mem_of_getElem? (i := 775) (by decide +kernel), List.mem_of_getElem? (i := 776) (by decide +kernel)⟩
theorem lw_p39 : lw_okq (⟨"DarnedSockModel", "byteAt", "(I)I"⟩, 18) := ⟨⟨by decide +kernel, by decide +kernel⟩, List.mem_of_getElem? (i := 608) (by decide +kernel), List.mem_of_getElem? (i := 779) (by decide +kernel), List.mem_of_getElem? (i := 780) (by decide +kernel)⟩
theorem lw_p40 : lw_okq (⟨"DarnedSockModel", "takesItem", "(I)Z"⟩, 18) := ⟨⟨by decide +kernel, by decide +kernel⟩, List.mem_of_getElem? (i := 608) (by decide +kernel), List.mem_of_getElem? (i := 787) (by decide +kernel), List.mem_of_getElem? (i := 788) (by decide +kernel)⟩
theorem lw_p41 : lw_okq (⟨"DarnedSockModel", "wordNow", "()I"⟩, 18) := ⟨⟨by decide +kernel, by decide +kernel⟩, List.mem_of_getElem? (i := 608) (by decide +kernel), List.mem_of_getElem? (i := 791) (by decide +kernel), List.mem_of_getElem? (i := 792) (by decide +kernel)⟩
theorem lw_p42 : lw_okq (⟨"DarnedSockModel", "isNamed", "(IIII)Z"⟩, 18) := ⟨⟨by decide +kernel, by decide +kernel⟩, List.mem_of_getElem? (i := 608) (by decide +kernel), List.mem_of_getElem? (i := 795) (by decide +kernel), List.mem_of_getElem? (i := 796) (by decide +kernel)⟩
theorem lw_p43 : lw_okq (⟨"DarnedSockModel", "takesNumber", "(I)Z"⟩, 18) := ⟨⟨by decide +kernel, by decide +kernel⟩, List.mem_of_getElem? (i := 608) (by decide +kernel), List.mem_of_getElem? (i := 799) (by decide +kernel), List.mem_of_getElem? (i := 800) (by decide +kernel)⟩
theorem lw_p44 : lw_okq (⟨"DarnedSockModel", "tellsItem", "(I)Z"⟩, 18) := ⟨⟨by decide +kernel, by decide +kernel⟩, List.mem_of_getElem? (i := 608) (by decide +kernel), List.mem_of_getElem? (i := 803) (by decide +kernel), List.mem_of_getElem? (i := 804) (by decide +kernel)⟩
theorem lw_p45 : lw_okq (⟨"DarnedSockModel", "countsOf", "(III)I"⟩, 18) := ⟨⟨by decide +kernel, by decide +kernel⟩, List.mem_of_getElem? (i := 608) (by decide +kernel), List.mem_of_getElem? (i := 811) (by decide +kernel), List.mem_of_getElem? (i := 812) (by decide +kernel)⟩
theorem lw_p46 : lw_okq (⟨"DarnedSockModel", "claimsIn", "(III)I"⟩, 18) := ⟨⟨by decide +kernel, by decide +kernel⟩, List.mem_of_getElem? (i := 608) (by decide +kernel), List.mem_of_getElem? (i := 830) (by decide +kernel), List.mem_of_getElem? (i := 831) (by decide +kernel)⟩
theorem lw_p47 : lw_okq (⟨"DarnedSockModel", "linesOf", "(II)I"⟩, 18) := ⟨⟨by decide +kernel, by decide +kernel⟩, List.mem_of_getElem? (i := 608) (by decide +kernel), List.mem_of_getElem? (i := 834) (by decide +kernel), List.mem_of_getElem? (i := 835) (by decide +kernel)⟩
def lw_privs_3 : List (MethodName × Nat) := [(⟨"DarnedSockModel", "copy", "(III)V"⟩, 18), (⟨"DarnedSockModel", "puts", "(IIIII)V"⟩, 18), (⟨"DarnedSockModel", "no", "()I"⟩, 18), (⟨"DarnedSockModel", "topOf", "(II)I"⟩, 18), (⟨"DarnedSockModel", "passes", "(IZ)V"⟩, 18), (⟨"DarnedSockModel", "holesIn", "(I)I"⟩, 18), (⟨"DarnedSockModel", "token", "()V"⟩, 18), (⟨"DarnedSockModel", "byteAt", "(I)I"⟩, 18), (⟨"DarnedSockModel", "takesItem", "(I)Z"⟩, 18), (⟨"DarnedSockModel", "wordNow", "()I"⟩, 18), (⟨"DarnedSockModel", "isNamed", "(IIII)Z"⟩, 18), (⟨"DarnedSockModel", "takesNumber", "(I)Z"⟩, 18), (⟨"DarnedSockModel", "tellsItem", "(I)Z"⟩, 18), (⟨"DarnedSockModel", "countsOf", "(III)I"⟩, 18), (⟨"DarnedSockModel", "claimsIn", "(III)I"⟩, 18), (⟨"DarnedSockModel", "linesOf", "(II)I"⟩, 18)]
theorem lw_r3 : ∀ q ∈ lw_privs_3, lw_okq q := List.forall_mem_cons.mpr ⟨lw_p32, List.forall_mem_cons.mpr ⟨lw_p33, List.forall_mem_cons.mpr ⟨lw_p34, List.forall_mem_cons.mpr ⟨lw_p35, List.forall_mem_cons.mpr ⟨lw_p36, List.forall_mem_cons.mpr ⟨lw_p37, List.forall_mem_cons.mpr ⟨lw_p38, List.forall_mem_cons.mpr ⟨lw_p39, List.forall_mem_cons.mpr ⟨lw_p40, List.forall_mem_cons.mpr ⟨lw_p41, List.forall_mem_cons.mpr ⟨lw_p42, List.forall_mem_cons.mpr ⟨lw_p43, List.forall_mem_cons.mpr ⟨lw_p44, List.forall_mem_cons.mpr ⟨lw_p45, List.forall_mem_cons.mpr ⟨lw_p46, List.forall_mem_cons.mpr ⟨lw_p47, fun _ h => absurd h List.not_mem_nil⟩⟩⟩⟩⟩⟩⟩⟩⟩⟩⟩⟩⟩⟩⟩⟩
theorem lw_p48 : lw_okq (⟨"DarnedSockModel", "familyAt", "(II)I"⟩, 18) := ⟨⟨by decide +kernel, by decide +kernel⟩, List.mem_of_getElem? (i := 608) (by decide +kernel), List.mem_of_getElem? (i := 838) (by decide +kernel), List.mem_of_getElem? (i := 839) (by decide +kernel)⟩
theorem lw_p49 : lw_okq (⟨"DarnedSockModel", "passesMany", "(I)V"⟩, 18) := ⟨⟨by decide +kernel, by decide +kernel⟩, List.mem_of_getElem? (i := 608) (by decide +kernel), List.mem_of_getElem? (i := 847) (by decide +kernel), List.mem_of_getElem? (i := 848) (by decide +kernel)⟩
theorem lw_p50 : lw_okq (⟨"DarnedSockModel", "tries", "()V"⟩, 18) := ⟨⟨by decide +kernel, by decide +kernel⟩, List.mem_of_getElem? (i := 608) (by decide +kernel), List.mem_of_getElem? (i := 851) (by decide +kernel), List.mem_of_getElem? (i := 852) (by decide +kernel)⟩
theorem lw_p51 : lw_okq (⟨"DarnedSockModel", "ownerIn", "(II)I"⟩, 18) := ⟨⟨by decide +kernel, by decide +kernel⟩, List.mem_of_getElem? (i := 608) (by decide +kernel), List.mem_of_getElem? (i := 855) (by decide +kernel), List.mem_of_getElem? (i := 856) (by decide +kernel)⟩
theorem lw_p52 : lw_okq (⟨"DarnedSockModel", "allClaims", "(II)I"⟩, 18) := ⟨⟨by decide +kernel, by decide +kernel⟩, List.mem_of_getElem? (i := 608) (by decide +kernel), List.mem_of_getElem? (i := 867) (by decide +kernel), List.mem_of_getElem? (i := 868) (by decide +kernel)⟩
theorem lw_p53 : lw_okq (⟨"DarnedSockModel", "tells", "(JJ)I"⟩, 18) := ⟨⟨by decide +kernel, by decide +kernel⟩, List.mem_of_getElem? (i := 608) (by decide +kernel), List.mem_of_getElem? (i := 871) (by decide +kernel), List.mem_of_getElem? (i := 872) (by decide +kernel)⟩
theorem lw_p54 : lw_okq (⟨"DarnedSockModel", "wholeTried", "()I"⟩, 18) := ⟨⟨by decide +kernel, by decide +kernel⟩, List.mem_of_getElem? (i := 608) (by decide +kernel), List.mem_of_getElem? (i := 883) (by decide +kernel), List.mem_of_getElem? (i := 884) (by decide +kernel)⟩
theorem lw_p55 : lw_okq (⟨"DarnedSockModel", "lastsOf", "(I)I"⟩, 18) := ⟨⟨by decide +kernel, by decide +kernel⟩, List.mem_of_getElem? (i := 608) (by decide +kernel), List.mem_of_getElem? (i := 887) (by decide +kernel), List.mem_of_getElem? (i := 888) (by decide +kernel)⟩
theorem lw_p56 : lw_okq (⟨"DarnedSockModel", "layLasting", "(II)V"⟩, 18) := ⟨⟨by decide +kernel, by decide +kernel⟩, List.mem_of_getElem? (i := 608) (by decide +kernel), List.mem_of_getElem? (i := 906) (by decide +kernel), List.mem_of_getElem? (i := 907) (by decide +kernel)⟩
theorem lw_p57 : lw_okq (⟨"DarnedSockModel", "kindsOf", "(I)I"⟩, 18) := ⟨⟨by decide +kernel, by decide +kernel⟩, List.mem_of_getElem? (i := 608) (by decide +kernel), List.mem_of_getElem? (i := 922) (by decide +kernel), List.mem_of_getElem? (i := 923) (by decide +kernel)⟩
theorem lw_p58 : lw_okq (⟨"DarnedSockModel", "leftOf", "(III)I"⟩, 18) := ⟨⟨by decide +kernel, by decide +kernel⟩, List.mem_of_getElem? (i := 608) (by decide +kernel), List.mem_of_getElem? (i := 926) (by decide +kernel), List.mem_of_getElem? (i := 927) (by decide +kernel)⟩
theorem lw_p59 : lw_okq (⟨"DarnedSockModel", "badAs", "(I)I"⟩, 18) := ⟨⟨by decide +kernel, by decide +kernel⟩, List.mem_of_getElem? (i := 608) (by decide +kernel), List.mem_of_getElem? (i := 942) (by decide +kernel), List.mem_of_getElem? (i := 943) (by decide +kernel)⟩
theorem lw_p60 : lw_okq (⟨"DarnedSockModel", "canCome", "(II)Z"⟩, 18) := ⟨⟨by decide +kernel, by decide +kernel⟩, List.mem_of_getElem? (i := 608) (by decide +kernel), List.mem_of_getElem? (i := 946) (by decide +kernel), List.mem_of_getElem? (i := 947) (by decide +kernel)⟩
theorem lw_p61 : lw_okq (⟨"DarnedSockModel", "yearOf", "(I)I"⟩, 18) := ⟨⟨by decide +kernel, by decide +kernel⟩, List.mem_of_getElem? (i := 608) (by decide +kernel), List.mem_of_getElem? (i := 950) (by decide +kernel), List.mem_of_getElem? (i := 951) (by decide +kernel)⟩
theorem lw_p62 : lw_okq (⟨"DarnedSockModel", "countOf", "(I)I"⟩, 18) := ⟨⟨by decide +kernel, by decide +kernel⟩, List.mem_of_getElem? (i := 608) (by decide +kernel), List.mem_of_getElem? (i := 989) (by decide +kernel), List.mem_of_getElem? (i := 990) (by decide +kernel)⟩
theorem lw_p63 : lw_okq (⟨"DarnedSockModel", "mix", "(J)V"⟩, 18) := ⟨⟨by decide +kernel, by decide +kernel⟩, List.mem_of_getElem? (i := 608) (by decide +kernel), List.mem_of_getElem? (i := 998) (by decide +kernel), List.mem_of_getElem? (i := 999) (by decide +kernel)⟩
def lw_privs_4 : List (MethodName × Nat) := [(⟨"DarnedSockModel", "familyAt", "(II)I"⟩, 18), (⟨"DarnedSockModel", "passesMany", "(I)V"⟩, 18), (⟨"DarnedSockModel", "tries", "()V"⟩, 18), (⟨"DarnedSockModel", "ownerIn", "(II)I"⟩, 18), (⟨"DarnedSockModel", "allClaims", "(II)I"⟩, 18), (⟨"DarnedSockModel", "tells", "(JJ)I"⟩, 18), (⟨"DarnedSockModel", "wholeTried", "()I"⟩, 18), (⟨"DarnedSockModel", "lastsOf", "(I)I"⟩, 18), (⟨"DarnedSockModel", "layLasting", "(II)V"⟩, 18), (⟨"DarnedSockModel", "kindsOf", "(I)I"⟩, 18), (⟨"DarnedSockModel", "leftOf", "(III)I"⟩, 18), (⟨"DarnedSockModel", "badAs", "(I)I"⟩, 18), (⟨"DarnedSockModel", "canCome", "(II)Z"⟩, 18), (⟨"DarnedSockModel", "yearOf", "(I)I"⟩, 18), (⟨"DarnedSockModel", "countOf", "(I)I"⟩, 18), (⟨"DarnedSockModel", "mix", "(J)V"⟩, 18)]
theorem lw_r4 : ∀ q ∈ lw_privs_4, lw_okq q := List.forall_mem_cons.mpr ⟨lw_p48, List.forall_mem_cons.mpr ⟨lw_p49, List.forall_mem_cons.mpr ⟨lw_p50, List.forall_mem_cons.mpr ⟨lw_p51, List.forall_mem_cons.mpr ⟨lw_p52, List.forall_mem_cons.mpr ⟨lw_p53, List.forall_mem_cons.mpr ⟨lw_p54, List.forall_mem_cons.mpr ⟨lw_p55, List.forall_mem_cons.mpr ⟨lw_p56, List.forall_mem_cons.mpr ⟨lw_p57, List.forall_mem_cons.mpr ⟨lw_p58, List.forall_mem_cons.mpr ⟨lw_p59, List.forall_mem_cons.mpr ⟨lw_p60, List.forall_mem_cons.mpr ⟨lw_p61, List.forall_mem_cons.mpr ⟨lw_p62, List.forall_mem_cons.mpr ⟨lw_p63, fun _ h => absurd h List.not_mem_nil⟩⟩⟩⟩⟩⟩⟩⟩⟩⟩⟩⟩⟩⟩⟩⟩
def lw_privs : List (MethodName × Nat) := lw_privs_1 ++ (lw_privs_2 ++ (lw_privs_3 ++ (lw_privs_4)))
def lw_tbl : List Cond := k2_sels lw_privs ++ tables_1
theorem lw_privs_ok : ∀ q ∈ lw_privs, lw_okq q := by
  show ∀ q ∈ lw_privs_1 ++ (lw_privs_2 ++ (lw_privs_3 ++ (lw_privs_4))), lw_okq q
  exact List.forall_mem_append.mpr ⟨lw_r1, List.forall_mem_append.mpr ⟨lw_r2, List.forall_mem_append.mpr ⟨lw_r3, lw_r4⟩⟩⟩
-- ===== end of PART A; then your names; then what follows =====
/-! ===== BEGIN words of one list among another's, by their places ===== -/
/-! ===== END ===== -/

/-! ===== BEGIN printed: names, fields, word lists, decode rows ===== -/
def RX0 : String := "DarnedSock$Sock"
def TX0 : u_T := fun k => match k with
  | 0 => ("DarnedSock$Sock", "wears", "[I", true)
  | 1 => ("DarnedSock$Sock", "row", "[I", true)
  | _ => ("DarnedSock$Sock", "claimed", "[I", true)
def tyX0 : Nat → FieldType := fun k => match k with
  | 0 => .array .int
  | 1 => .array .int
  | _ => .array .int
abbrev wsX00 : List Cond := u_ws RX0 TX0 3
theorem nmX0 : ∀ a, a < 3 → ∀ b, b < 3 → a ≠ b → (TX0 a).2.1 ≠ (TX0 b).2.1 := by decide +kernel
theorem tyX0_ok : ∀ k, k < 3 → parseFieldDescriptor (TX0 k).2.2.1 = some (tyX0 k) := by decide +kernel
abbrev cX0_init : ByteArray := prog_2_method_1_code
def yX0_init : MethodName := ⟨RX0, "<init>", "()V"⟩
abbrev cX0_renew : ByteArray := prog_2_method_2_code
def yX0_renew : MethodName := ⟨RX0, "renew", "(I)V"⟩
abbrev cX0_copy : ByteArray := prog_2_method_3_code
def yX0_copy : MethodName := ⟨RX0, "copy", "(LDarnedSock$Sock;)V"⟩
abbrev cX0_year : ByteArray := prog_2_method_4_code
def yX0_year : MethodName := ⟨RX0, "year", "()I"⟩
abbrev cX0_many : ByteArray := prog_2_method_5_code
def yX0_many : MethodName := ⟨RX0, "many", "(I)I"⟩
abbrev cX0_get : ByteArray := prog_2_method_6_code
def yX0_get : MethodName := ⟨RX0, "get", "(III)I"⟩
abbrev cX0_threadAt : ByteArray := prog_2_method_7_code
def yX0_threadAt : MethodName := ⟨RX0, "threadAt", "(II)I"⟩
abbrev cX0_isHole : ByteArray := prog_2_method_8_code
def yX0_isHole : MethodName := ⟨RX0, "isHole", "(I)Z"⟩
abbrev cX0_hasRoom : ByteArray := prog_2_method_9_code
def yX0_hasRoom : MethodName := ⟨RX0, "hasRoom", "(I)Z"⟩
abbrev cX0_darnsOf : ByteArray := prog_2_method_10_code
def yX0_darnsOf : MethodName := ⟨RX0, "darnsOf", "(I)I"⟩
abbrev cX0_darns : ByteArray := prog_2_method_11_code
def yX0_darns : MethodName := ⟨RX0, "darns", "()I"⟩
abbrev cX0_holeBits : ByteArray := prog_2_method_12_code
def yX0_holeBits : MethodName := ⟨RX0, "holeBits", "()I"⟩
abbrev cX0_verdict : ByteArray := prog_2_method_13_code
def yX0_verdict : MethodName := ⟨RX0, "verdict", "(IIII)I"⟩
abbrev cX0_put : ByteArray := prog_2_method_14_code
def yX0_put : MethodName := ⟨RX0, "put", "(IIII)I"⟩
abbrev cX0_take : ByteArray := prog_2_method_15_code
def yX0_take : MethodName := ⟨RX0, "take", "(I)I"⟩
abbrev cX0_pass : ByteArray := prog_2_method_16_code
def yX0_pass : MethodName := ⟨RX0, "pass", "()V"⟩
abbrev cX0_wearTop : ByteArray := prog_2_method_17_code
def yX0_wearTop : MethodName := ⟨RX0, "wearTop", "(I)V"⟩
abbrev cX0_counts : ByteArray := prog_2_method_18_code
def yX0_counts : MethodName := ⟨RX0, "counts", "(II)I"⟩
abbrev cX0_countsOver : ByteArray := prog_2_method_19_code
def yX0_countsOver : MethodName := ⟨RX0, "countsOver", "(III)I"⟩
abbrev cX0_weigh : ByteArray := prog_2_method_20_code
def yX0_weigh : MethodName := ⟨RX0, "weigh", "(I)V"⟩
abbrev cX0_addClaim : ByteArray := prog_2_method_21_code
def yX0_addClaim : MethodName := ⟨RX0, "addClaim", "(II)V"⟩
abbrev cX0_weighThread : ByteArray := prog_2_method_22_code
def yX0_weighThread : MethodName := ⟨RX0, "weighThread", "()V"⟩
abbrev cX0_weighAges : ByteArray := prog_2_method_23_code
def yX0_weighAges : MethodName := ⟨RX0, "weighAges", "()V"⟩
abbrev cX0_lineFamily : ByteArray := prog_2_method_24_code
def yX0_lineFamily : MethodName := ⟨RX0, "lineFamily", "(I)I"⟩
abbrev cX0_topFamily : ByteArray := prog_2_method_25_code
def yX0_topFamily : MethodName := ⟨RX0, "topFamily", "(I)I"⟩
abbrev cX0_claimOf : ByteArray := prog_2_method_26_code
def yX0_claimOf : MethodName := ⟨RX0, "claimOf", "(II)I"⟩
abbrev cX0_allClaims : ByteArray := prog_2_method_27_code
def yX0_allClaims : MethodName := ⟨RX0, "allClaims", "(I)I"⟩
abbrev cX0_ownerBy : ByteArray := prog_2_method_28_code
def yX0_ownerBy : MethodName := ⟨RX0, "ownerBy", "(I)I"⟩
abbrev cX0_isTwos : ByteArray := prog_2_method_29_code
def yX0_isTwos : MethodName := ⟨RX0, "isTwos", "(I)Z"⟩
abbrev cX0_span : ByteArray := prog_2_method_30_code
def yX0_span : MethodName := ⟨RX0, "span", "(III)I"⟩
abbrev cX0_leftOf : ByteArray := prog_2_method_31_code
def yX0_leftOf : MethodName := ⟨RX0, "leftOf", "(III)I"⟩
abbrev cX0_holeWays : ByteArray := prog_2_method_32_code
def yX0_holeWays : MethodName := ⟨RX0, "holeWays", "(IIIIII)J"⟩
abbrev cX0_nextYear : ByteArray := prog_2_method_33_code
def yX0_nextYear : MethodName := ⟨RX0, "nextYear", "(II)I"⟩
abbrev cX0_digested : ByteArray := prog_2_method_34_code
def yX0_digested : MethodName := ⟨RX0, "digested", "(J)J"⟩
def RX1 : String := "DarnedSock$State"
def TX1 : u_T := fun k => match k with
  | 0 => ("DarnedSock$State", "sock", "LDarnedSock$Sock;", true)
  | 1 => ("DarnedSock$State", "seen", "[I", true)
  | 2 => ("DarnedSock$State", "readings", "I", false)
  | 3 => ("DarnedSock$State", "kept", "[I", true)
  | 4 => ("DarnedSock$State", "newest", "I", false)
  | _ => ("DarnedSock$State", "undoable", "I", false)
def tyX1 : Nat → FieldType := fun k => match k with
  | 0 => .object "DarnedSock$Sock"
  | 1 => .array .int
  | 2 => .int
  | 3 => .array .int
  | 4 => .int
  | _ => .int
abbrev wsX10 : List Cond := u_ws RX1 TX1 6
theorem nmX1 : ∀ a, a < 6 → ∀ b, b < 6 → a ≠ b → (TX1 a).2.1 ≠ (TX1 b).2.1 := by decide +kernel
theorem tyX1_ok : ∀ k, k < 6 → parseFieldDescriptor (TX1 k).2.2.1 = some (tyX1 k) := by decide +kernel
abbrev cX1_init : ByteArray := prog_3_method_1_code
def yX1_init : MethodName := ⟨RX1, "<init>", "()V"⟩
abbrev cX1_renew : ByteArray := prog_3_method_2_code
def yX1_renew : MethodName := ⟨RX1, "renew", "(I)V"⟩
abbrev cX1_copy : ByteArray := prog_3_method_3_code
def yX1_copy : MethodName := ⟨RX1, "copy", "(LDarnedSock$State;)V"⟩
abbrev cX1_keep : ByteArray := prog_3_method_4_code
def yX1_keep : MethodName := ⟨RX1, "keep", "()V"⟩
abbrev cX1_bringBack : ByteArray := prog_3_method_5_code
def yX1_bringBack : MethodName := ⟨RX1, "bringBack", "()V"⟩
abbrev cX1_addReading : ByteArray := prog_3_method_6_code
def yX1_addReading : MethodName := ⟨RX1, "addReading", "(III)I"⟩
abbrev cX1_possibleKinds : ByteArray := prog_3_method_7_code
def yX1_possibleKinds : MethodName := ⟨RX1, "possibleKinds", "(I)I"⟩
abbrev cX1_agrees : ByteArray := prog_3_method_8_code
def yX1_agrees : MethodName := ⟨RX1, "agrees", "(II)Z"⟩
abbrev cX1_digestedReadings : ByteArray := prog_3_method_9_code
def yX1_digestedReadings : MethodName := ⟨RX1, "digestedReadings", "(J)J"⟩
def RX2 : String := "DarnedSock$Text"
def TX2 : u_T := fun k => match k with
  | 0 => ("DarnedSock$Text", "bytes", "[I", true)
  | 1 => ("DarnedSock$Text", "length", "I", false)
  | 2 => ("DarnedSock$Text", "words", "[I", true)
  | 3 => ("DarnedSock$Text", "numbers", "[I", true)
  | 4 => ("DarnedSock$Text", "items", "I", false)
  | 5 => ("DarnedSock$Text", "sort", "I", false)
  | 6 => ("DarnedSock$Text", "at", "I", false)
  | 7 => ("DarnedSock$Text", "behind", "I", false)
  | _ => ("DarnedSock$Text", "value", "I", false)
def tyX2 : Nat → FieldType := fun k => match k with
  | 0 => .array .int
  | 1 => .int
  | 2 => .array .int
  | 3 => .array .int
  | 4 => .int
  | 5 => .int
  | 6 => .int
  | 7 => .int
  | _ => .int
abbrev wsX20 : List Cond := u_ws RX2 TX2 9
theorem nmX2 : ∀ a, a < 9 → ∀ b, b < 9 → a ≠ b → (TX2 a).2.1 ≠ (TX2 b).2.1 := by decide +kernel
theorem tyX2_ok : ∀ k, k < 9 → parseFieldDescriptor (TX2 k).2.2.1 = some (tyX2 k) := by decide +kernel
abbrev cX2_init : ByteArray := prog_4_method_1_code
def yX2_init : MethodName := ⟨RX2, "<init>", "()V"⟩
abbrev cX2_fault : ByteArray := prog_4_method_2_code
def yX2_fault : MethodName := ⟨RX2, "fault", "()I"⟩
abbrev cX2_takeItem : ByteArray := prog_4_method_3_code
def yX2_takeItem : MethodName := ⟨RX2, "takeItem", "()Z"⟩
abbrev cX2_step : ByteArray := prog_4_method_4_code
def yX2_step : MethodName := ⟨RX2, "step", "()V"⟩
abbrev cX2_takeWord : ByteArray := prog_4_method_5_code
def yX2_takeWord : MethodName := ⟨RX2, "takeWord", "()V"⟩
abbrev cX2_spells : ByteArray := prog_4_method_6_code
def yX2_spells : MethodName := ⟨RX2, "spells", "(I)Z"⟩
abbrev cX2_takeNumber : ByteArray := prog_4_method_7_code
def yX2_takeNumber : MethodName := ⟨RX2, "takeNumber", "()V"⟩
abbrev cX2_isLetter : ByteArray := prog_4_method_8_code
def yX2_isLetter : MethodName := ⟨RX2, "isLetter", "(I)Z"⟩
abbrev cX2_isFigure : ByteArray := prog_4_method_9_code
def yX2_isFigure : MethodName := ⟨RX2, "isFigure", "(I)Z"⟩
abbrev cX2_refusedOn : ByteArray := prog_4_method_10_code
def yX2_refusedOn : MethodName := ⟨RX2, "refusedOn", "(LDarnedSock$Sock;)I"⟩
abbrev cX2_isToldTo : ByteArray := prog_4_method_11_code
def yX2_isToldTo : MethodName := ⟨RX2, "isToldTo", "(LDarnedSock$Sock;I)Z"⟩
def RX3 : String := "DarnedSock"
def TX3 : u_T := fun k => match k with
  | 0 => ("DarnedSock", "now", "LDarnedSock$State;", true)
  | 1 => ("DarnedSock", "images", "[LDarnedSock$State;", true)
  | 2 => ("DarnedSock", "trial", "LDarnedSock$Sock;", true)
  | 3 => ("DarnedSock", "text", "LDarnedSock$Text;", true)
  | 4 => ("DarnedSock", "spans", "[I", true)
  | 5 => ("DarnedSock", "splitSpans", "[I", true)
  | 6 => ("DarnedSock", "alike", "[I", true)
  | 7 => ("DarnedSock", "ordered", "[I", true)
  | 8 => ("DarnedSock", "above", "J", false)
  | 9 => ("DarnedSock", "below", "J", false)
  | 10 => ("DarnedSock", "bads", "I", false)
  | 11 => ("DarnedSock", "noes", "I", false)
  | _ => ("DarnedSock", "fulls", "I", false)
def tyX3 : Nat → FieldType := fun k => match k with
  | 0 => .object "DarnedSock$State"
  | 1 => .array (.object "DarnedSock$State")
  | 2 => .object "DarnedSock$Sock"
  | 3 => .object "DarnedSock$Text"
  | 4 => .array .int
  | 5 => .array .int
  | 6 => .array .int
  | 7 => .array .int
  | 8 => .long
  | 9 => .long
  | 10 => .int
  | 11 => .int
  | _ => .int
abbrev wsX30 : List Cond := u_ws RX3 TX3 13
theorem nmX3 : ∀ a, a < 13 → ∀ b, b < 13 → a ≠ b → (TX3 a).2.1 ≠ (TX3 b).2.1 := by decide +kernel
theorem tyX3_ok : ∀ k, k < 13 → parseFieldDescriptor (TX3 k).2.2.1 = some (tyX3 k) := by decide +kernel
abbrev cX3_init : ByteArray := prog_1_method_1_code
def yX3_init : MethodName := ⟨RX3, "<init>", "()V"⟩
abbrev cX3_sock : ByteArray := prog_1_method_2_code
def yX3_sock : MethodName := ⟨RX3, "sock", "(I)I"⟩
abbrev cX3_wear : ByteArray := prog_1_method_3_code
def yX3_wear : MethodName := ⟨RX3, "wear", "(II)I"⟩
abbrev cX3_darn : ByteArray := prog_1_method_4_code
def yX3_darn : MethodName := ⟨RX3, "darn", "(IIII)I"⟩
abbrev cX3_unpick : ByteArray := prog_1_method_5_code
def yX3_unpick : MethodName := ⟨RX3, "unpick", "(I)I"⟩
abbrev cX3_years : ByteArray := prog_1_method_6_code
def yX3_years : MethodName := ⟨RX3, "years", "(I)I"⟩
abbrev cX3_undo : ByteArray := prog_1_method_7_code
def yX3_undo : MethodName := ⟨RX3, "undo", "()I"⟩
abbrev cX3_type : ByteArray := prog_1_method_8_code
def yX3_type : MethodName := ⟨RX3, "type", "(I)I"⟩
abbrev cX3_clear : ByteArray := prog_1_method_9_code
def yX3_clear : MethodName := ⟨RX3, "clear", "()I"⟩
abbrev cX3_read : ByteArray := prog_1_method_10_code
def yX3_read : MethodName := ⟨RX3, "read", "()I"⟩
abbrev cX3_of : ByteArray := prog_1_method_11_code
def yX3_of : MethodName := ⟨RX3, "of", "(III)I"⟩
abbrev cX3_cell : ByteArray := prog_1_method_12_code
def yX3_cell : MethodName := ⟨RX3, "cell", "(II)I"⟩
abbrev cX3_claims : ByteArray := prog_1_method_13_code
def yX3_claims : MethodName := ⟨RX3, "claims", "(II)I"⟩
abbrev cX3_owner : ByteArray := prog_1_method_14_code
def yX3_owner : MethodName := ⟨RX3, "owner", "(II)I"⟩
abbrev cX3_laws : ByteArray := prog_1_method_15_code
def yX3_laws : MethodName := ⟨RX3, "laws", "(I)I"⟩
abbrev cX3_share : ByteArray := prog_1_method_16_code
def yX3_share : MethodName := ⟨RX3, "share", "(I)I"⟩
abbrev cX3_twos : ByteArray := prog_1_method_17_code
def yX3_twos : MethodName := ⟨RX3, "twos", "(I)I"⟩
abbrev cX3_whole : ByteArray := prog_1_method_18_code
def yX3_whole : MethodName := ⟨RX3, "whole", "()I"⟩
abbrev cX3_holes : ByteArray := prog_1_method_19_code
def yX3_holes : MethodName := ⟨RX3, "holes", "(I)I"⟩
abbrev cX3_best : ByteArray := prog_1_method_20_code
def yX3_best : MethodName := ⟨RX3, "best", "(III)I"⟩
abbrev cX3_split : ByteArray := prog_1_method_21_code
def yX3_split : MethodName := ⟨RX3, "split", "(III)I"⟩
abbrev cX3_reading : ByteArray := prog_1_method_22_code
def yX3_reading : MethodName := ⟨RX3, "reading", "(III)I"⟩
abbrev cX3_forget : ByteArray := prog_1_method_23_code
def yX3_forget : MethodName := ⟨RX3, "forget", "()I"⟩
abbrev cX3_may : ByteArray := prog_1_method_24_code
def yX3_may : MethodName := ⟨RX3, "may", "(I)I"⟩
abbrev cX3_look : ByteArray := prog_1_method_25_code
def yX3_look : MethodName := ⟨RX3, "look", "(I)I"⟩
abbrev cX3_orders : ByteArray := prog_1_method_26_code
def yX3_orders : MethodName := ⟨RX3, "orders", "(II)I"⟩
abbrev cX3_odds : ByteArray := prog_1_method_27_code
def yX3_odds : MethodName := ⟨RX3, "odds", "(III)I"⟩
abbrev cX3_drawn : ByteArray := prog_1_method_28_code
def yX3_drawn : MethodName := ⟨RX3, "drawn", "(II)I"⟩
abbrev cX3_part : ByteArray := prog_1_method_29_code
def yX3_part : MethodName := ⟨RX3, "part", "(I)J"⟩
abbrev cX3_image : ByteArray := prog_1_method_30_code
def yX3_image : MethodName := ⟨RX3, "image", "(I)I"⟩
abbrev cX3_from : ByteArray := prog_1_method_31_code
def yX3_from : MethodName := ⟨RX3, "from", "(I)I"⟩
abbrev cX3_status : ByteArray := prog_1_method_32_code
def yX3_status : MethodName := ⟨RX3, "status", "(I)I"⟩
abbrev cX3_count : ByteArray := prog_1_method_33_code
def yX3_count : MethodName := ⟨RX3, "count", "(I)I"⟩
abbrev cX3_digest : ByteArray := prog_1_method_34_code
def yX3_digest : MethodName := ⟨RX3, "digest", "()J"⟩
abbrev cX3_within : ByteArray := prog_1_method_35_code
def yX3_within : MethodName := ⟨RX3, "within", "(II)Z"⟩
abbrev cX3_between : ByteArray := prog_1_method_36_code
def yX3_between : MethodName := ⟨RX3, "between", "(III)Z"⟩
abbrev cX3_wearsAsTold : ByteArray := prog_1_method_37_code
def yX3_wearsAsTold : MethodName := ⟨RX3, "wearsAsTold", "(II)Z"⟩
abbrev cX3_refuse : ByteArray := prog_1_method_38_code
def yX3_refuse : MethodName := ⟨RX3, "refuse", "(I)I"⟩
abbrev cX3_howMany : ByteArray := prog_1_method_39_code
def yX3_howMany : MethodName := ⟨RX3, "howMany", "(I)I"⟩
abbrev cX3_loss : ByteArray := prog_1_method_40_code
def yX3_loss : MethodName := ⟨RX3, "loss", "(III)I"⟩
abbrev cX3_tryYears : ByteArray := prog_1_method_41_code
def yX3_tryYears : MethodName := ⟨RX3, "tryYears", "(I)V"⟩
abbrev cX3_setFraction : ByteArray := prog_1_method_42_code
def yX3_setFraction : MethodName := ⟨RX3, "setFraction", "(JJ)V"⟩
abbrev cX3_commonDivisor : ByteArray := prog_1_method_43_code
def yX3_commonDivisor : MethodName := ⟨RX3, "commonDivisor", "(JJ)J"⟩
abbrev cX3_powerOfTen : ByteArray := prog_1_method_44_code
def yX3_powerOfTen : MethodName := ⟨RX3, "powerOfTen", "(I)J"⟩
abbrev cX3_findSpans : ByteArray := prog_1_method_45_code
def yX3_findSpans : MethodName := ⟨RX3, "findSpans", "()V"⟩
abbrev cX3_leastSpanBut : ByteArray := prog_1_method_46_code
def yX3_leastSpanBut : MethodName := ⟨RX3, "leastSpanBut", "(II)I"⟩
abbrev cX3_findSplitSpans : ByteArray := prog_1_method_47_code
def yX3_findSplitSpans : MethodName := ⟨RX3, "findSplitSpans", "(II)V"⟩
abbrev cX3_splitSpan : ByteArray := prog_1_method_48_code
def yX3_splitSpan : MethodName := ⟨RX3, "splitSpan", "(IIIII)I"⟩
abbrev cX3_bestSplit : ByteArray := prog_1_method_49_code
def yX3_bestSplit : MethodName := ⟨RX3, "bestSplit", "(IIII)I"⟩
abbrev cX3_mostAlike : ByteArray := prog_1_method_50_code
def yX3_mostAlike : MethodName := ⟨RX3, "mostAlike", "(III)I"⟩
abbrev cX3_findFirstOrder : ByteArray := prog_1_method_51_code
def yX3_findFirstOrder : MethodName := ⟨RX3, "findFirstOrder", "(II)V"⟩
abbrev cX3_waysToOrder : ByteArray := prog_1_method_52_code
def yX3_waysToOrder : MethodName := ⟨RX3, "waysToOrder", "(I)I"⟩
abbrev cX3_yearOrdered : ByteArray := prog_1_method_53_code
def yX3_yearOrdered : MethodName := ⟨RX3, "yearOrdered", "(I)I"⟩
def RX4 : String := "DarnedSockModel"
def TX4 : u_T := fun k => match k with
  | 0 => ("DarnedSockModel", "w", "[I", true)
  | 1 => ("DarnedSockModel", "isKept", "[Z", true)
  | 2 => ("DarnedSockModel", "text", "[I", true)
  | 3 => ("DarnedSockModel", "texted", "I", false)
  | 4 => ("DarnedSockModel", "refused", "[I", true)
  | 5 => ("DarnedSockModel", "above", "J", false)
  | 6 => ("DarnedSockModel", "below", "J", false)
  | 7 => ("DarnedSockModel", "at", "I", false)
  | 8 => ("DarnedSockModel", "start", "I", false)
  | 9 => ("DarnedSockModel", "isWord", "Z", false)
  | 10 => ("DarnedSockModel", "isFigures", "Z", false)
  | 11 => ("DarnedSockModel", "numbers", "[I", true)
  | 12 => ("DarnedSockModel", "firstRefused", "I", false)
  | 13 => ("DarnedSockModel", "lasting", "[I", true)
  | 14 => ("DarnedSockModel", "names", "[I", true)
  | 15 => ("DarnedSockModel", "named", "I", false)
  | 16 => ("DarnedSockModel", "waysFrom", "[I", true)
  | _ => ("DarnedSockModel", "h", "J", false)
def tyX4 : Nat → FieldType := fun k => match k with
  | 0 => .array .int
  | 1 => .array .boolean
  | 2 => .array .int
  | 3 => .int
  | 4 => .array .int
  | 5 => .long
  | 6 => .long
  | 7 => .int
  | 8 => .int
  | 9 => .boolean
  | 10 => .boolean
  | 11 => .array .int
  | 12 => .int
  | 13 => .array .int
  | 14 => .array .int
  | 15 => .int
  | 16 => .array .int
  | _ => .long
abbrev wsX40 : List Cond := u_ws RX4 TX4 18
theorem nmX4 : ∀ a, a < 18 → ∀ b, b < 18 → a ≠ b → (TX4 a).2.1 ≠ (TX4 b).2.1 := by decide +kernel
theorem tyX4_ok : ∀ k, k < 18 → parseFieldDescriptor (TX4 k).2.2.1 = some (tyX4 k) := by decide +kernel
abbrev cX4_init : ByteArray := prog_6_method_1_code
def yX4_init : MethodName := ⟨RX4, "<init>", "()V"⟩
abbrev cX4_in : ByteArray := prog_6_method_3_code
def yX4_in : MethodName := ⟨RX4, "in", "(JJJ)Z"⟩
abbrev cX4_has : ByteArray := prog_6_method_4_code
def yX4_has : MethodName := ⟨RX4, "has", "(II)Z"⟩
abbrev cX4_bad : ByteArray := prog_6_method_5_code
def yX4_bad : MethodName := ⟨RX4, "bad", "()I"⟩
abbrev cX4_badAs : ByteArray := prog_6_method_6_code
def yX4_badAs : MethodName := ⟨RX4, "badAs", "(I)I"⟩
abbrev cX4_no : ByteArray := prog_6_method_7_code
def yX4_no : MethodName := ⟨RX4, "no", "()I"⟩
abbrev cX4_full : ByteArray := prog_6_method_8_code
def yX4_full : MethodName := ⟨RX4, "full", "()I"⟩
abbrev cX4_copy : ByteArray := prog_6_method_9_code
def yX4_copy : MethodName := ⟨RX4, "copy", "(III)V"⟩
abbrev cX4_begins : ByteArray := prog_6_method_10_code
def yX4_begins : MethodName := ⟨RX4, "begins", "(II)V"⟩
abbrev cX4_isCell : ByteArray := prog_6_method_11_code
def yX4_isCell : MethodName := ⟨RX4, "isCell", "(I)Z"⟩
abbrev cX4_isDarn : ByteArray := prog_6_method_12_code
def yX4_isDarn : MethodName := ⟨RX4, "isDarn", "(IIII)Z"⟩
abbrev cX4_placeOf : ByteArray := prog_6_method_13_code
def yX4_placeOf : MethodName := ⟨RX4, "placeOf", "(II)I"⟩
abbrev cX4_topOf : ByteArray := prog_6_method_14_code
def yX4_topOf : MethodName := ⟨RX4, "topOf", "(II)I"⟩
abbrev cX4_puts : ByteArray := prog_6_method_15_code
def yX4_puts : MethodName := ⟨RX4, "puts", "(IIIII)V"⟩
abbrev cX4_darnsIn : ByteArray := prog_6_method_16_code
def yX4_darnsIn : MethodName := ⟨RX4, "darnsIn", "(I)I"⟩
abbrev cX4_holesIn : ByteArray := prog_6_method_17_code
def yX4_holesIn : MethodName := ⟨RX4, "holesIn", "(I)I"⟩
abbrev cX4_ones : ByteArray := prog_6_method_18_code
def yX4_ones : MethodName := ⟨RX4, "ones", "(I)I"⟩
abbrev cX4_sock : ByteArray := prog_6_method_19_code
def yX4_sock : MethodName := ⟨RX4, "sock", "(I)I"⟩
abbrev cX4_wear : ByteArray := prog_6_method_20_code
def yX4_wear : MethodName := ⟨RX4, "wear", "(II)I"⟩
abbrev cX4_minds : ByteArray := prog_6_method_21_code
def yX4_minds : MethodName := ⟨RX4, "minds", "()V"⟩
abbrev cX4_darn : ByteArray := prog_6_method_22_code
def yX4_darn : MethodName := ⟨RX4, "darn", "(IIII)I"⟩
abbrev cX4_unpick : ByteArray := prog_6_method_23_code
def yX4_unpick : MethodName := ⟨RX4, "unpick", "(I)I"⟩
abbrev cX4_loses : ByteArray := prog_6_method_24_code
def yX4_loses : MethodName := ⟨RX4, "loses", "(III)I"⟩
abbrev cX4_passes : ByteArray := prog_6_method_25_code
def yX4_passes : MethodName := ⟨RX4, "passes", "(IZ)V"⟩
abbrev cX4_tries : ByteArray := prog_6_method_26_code
def yX4_tries : MethodName := ⟨RX4, "tries", "()V"⟩
abbrev cX4_years : ByteArray := prog_6_method_27_code
def yX4_years : MethodName := ⟨RX4, "years", "(I)I"⟩
abbrev cX4_undo : ByteArray := prog_6_method_28_code
def yX4_undo : MethodName := ⟨RX4, "undo", "()I"⟩
abbrev cX4_type : ByteArray := prog_6_method_29_code
def yX4_type : MethodName := ⟨RX4, "type", "(I)I"⟩
abbrev cX4_clear : ByteArray := prog_6_method_30_code
def yX4_clear : MethodName := ⟨RX4, "clear", "()I"⟩
abbrev cX4_byteAt : ByteArray := prog_6_method_31_code
def yX4_byteAt : MethodName := ⟨RX4, "byteAt", "(I)I"⟩
abbrev cX4_token : ByteArray := prog_6_method_32_code
def yX4_token : MethodName := ⟨RX4, "token", "()V"⟩
abbrev cX4_isNamed : ByteArray := prog_6_method_33_code
def yX4_isNamed : MethodName := ⟨RX4, "isNamed", "(IIII)Z"⟩
abbrev cX4_wordNow : ByteArray := prog_6_method_34_code
def yX4_wordNow : MethodName := ⟨RX4, "wordNow", "()I"⟩
abbrev cX4_takesNumber : ByteArray := prog_6_method_35_code
def yX4_takesNumber : MethodName := ⟨RX4, "takesNumber", "(I)Z"⟩
abbrev cX4_tellsItem : ByteArray := prog_6_method_36_code
def yX4_tellsItem : MethodName := ⟨RX4, "tellsItem", "(I)Z"⟩
abbrev cX4_takesItem : ByteArray := prog_6_method_37_code
def yX4_takesItem : MethodName := ⟨RX4, "takesItem", "(I)Z"⟩
abbrev cX4_read : ByteArray := prog_6_method_38_code
def yX4_read : MethodName := ⟨RX4, "read", "()I"⟩
abbrev cX4_countsOf : ByteArray := prog_6_method_39_code
def yX4_countsOf : MethodName := ⟨RX4, "countsOf", "(III)I"⟩
abbrev cX4_of : ByteArray := prog_6_method_40_code
def yX4_of : MethodName := ⟨RX4, "of", "(III)I"⟩
abbrev cX4_cell : ByteArray := prog_6_method_41_code
def yX4_cell : MethodName := ⟨RX4, "cell", "(II)I"⟩
abbrev cX4_familyAt : ByteArray := prog_6_method_42_code
def yX4_familyAt : MethodName := ⟨RX4, "familyAt", "(II)I"⟩
abbrev cX4_linesOf : ByteArray := prog_6_method_43_code
def yX4_linesOf : MethodName := ⟨RX4, "linesOf", "(II)I"⟩
abbrev cX4_claimsIn : ByteArray := prog_6_method_44_code
def yX4_claimsIn : MethodName := ⟨RX4, "claimsIn", "(III)I"⟩
abbrev cX4_ownerIn : ByteArray := prog_6_method_45_code
def yX4_ownerIn : MethodName := ⟨RX4, "ownerIn", "(II)I"⟩
abbrev cX4_isFamily : ByteArray := prog_6_method_46_code
def yX4_isFamily : MethodName := ⟨RX4, "isFamily", "(I)Z"⟩
abbrev cX4_isLaw : ByteArray := prog_6_method_47_code
def yX4_isLaw : MethodName := ⟨RX4, "isLaw", "(I)Z"⟩
abbrev cX4_claims : ByteArray := prog_6_method_48_code
def yX4_claims : MethodName := ⟨RX4, "claims", "(II)I"⟩
abbrev cX4_passesMany : ByteArray := prog_6_method_49_code
def yX4_passesMany : MethodName := ⟨RX4, "passesMany", "(I)V"⟩
abbrev cX4_owner : ByteArray := prog_6_method_50_code
def yX4_owner : MethodName := ⟨RX4, "owner", "(II)I"⟩
abbrev cX4_laws : ByteArray := prog_6_method_51_code
def yX4_laws : MethodName := ⟨RX4, "laws", "(I)I"⟩
abbrev cX4_tells : ByteArray := prog_6_method_52_code
def yX4_tells : MethodName := ⟨RX4, "tells", "(JJ)I"⟩
abbrev cX4_allClaims : ByteArray := prog_6_method_53_code
def yX4_allClaims : MethodName := ⟨RX4, "allClaims", "(II)I"⟩
abbrev cX4_share : ByteArray := prog_6_method_54_code
def yX4_share : MethodName := ⟨RX4, "share", "(I)I"⟩
abbrev cX4_twos : ByteArray := prog_6_method_55_code
def yX4_twos : MethodName := ⟨RX4, "twos", "(I)I"⟩
abbrev cX4_lastsOf : ByteArray := prog_6_method_56_code
def yX4_lastsOf : MethodName := ⟨RX4, "lastsOf", "(I)I"⟩
abbrev cX4_wholeTried : ByteArray := prog_6_method_57_code
def yX4_wholeTried : MethodName := ⟨RX4, "wholeTried", "()I"⟩
abbrev cX4_whole : ByteArray := prog_6_method_58_code
def yX4_whole : MethodName := ⟨RX4, "whole", "()I"⟩
abbrev cX4_holes : ByteArray := prog_6_method_59_code
def yX4_holes : MethodName := ⟨RX4, "holes", "(I)I"⟩
abbrev cX4_isThread : ByteArray := prog_6_method_60_code
def yX4_isThread : MethodName := ⟨RX4, "isThread", "(IIII)Z"⟩
abbrev cX4_best : ByteArray := prog_6_method_61_code
def yX4_best : MethodName := ⟨RX4, "best", "(III)I"⟩
abbrev cX4_layLasting : ByteArray := prog_6_method_62_code
def yX4_layLasting : MethodName := ⟨RX4, "layLasting", "(II)V"⟩
abbrev cX4_split : ByteArray := prog_6_method_63_code
def yX4_split : MethodName := ⟨RX4, "split", "(III)I"⟩
abbrev cX4_reading : ByteArray := prog_6_method_64_code
def yX4_reading : MethodName := ⟨RX4, "reading", "(III)I"⟩
abbrev cX4_forget : ByteArray := prog_6_method_65_code
def yX4_forget : MethodName := ⟨RX4, "forget", "()I"⟩
abbrev cX4_leftOf : ByteArray := prog_6_method_66_code
def yX4_leftOf : MethodName := ⟨RX4, "leftOf", "(III)I"⟩
abbrev cX4_kindsOf : ByteArray := prog_6_method_67_code
def yX4_kindsOf : MethodName := ⟨RX4, "kindsOf", "(I)I"⟩
abbrev cX4_may : ByteArray := prog_6_method_68_code
def yX4_may : MethodName := ⟨RX4, "may", "(I)I"⟩
abbrev cX4_look : ByteArray := prog_6_method_69_code
def yX4_look : MethodName := ⟨RX4, "look", "(I)I"⟩
abbrev cX4_yearOf : ByteArray := prog_6_method_70_code
def yX4_yearOf : MethodName := ⟨RX4, "yearOf", "(I)I"⟩
abbrev cX4_canCome : ByteArray := prog_6_method_71_code
def yX4_canCome : MethodName := ⟨RX4, "canCome", "(II)Z"⟩
abbrev cX4_orders : ByteArray := prog_6_method_72_code
def yX4_orders : MethodName := ⟨RX4, "orders", "(II)I"⟩
abbrev cX4_odds : ByteArray := prog_6_method_73_code
def yX4_odds : MethodName := ⟨RX4, "odds", "(III)I"⟩
abbrev cX4_drawn : ByteArray := prog_6_method_74_code
def yX4_drawn : MethodName := ⟨RX4, "drawn", "(II)I"⟩
abbrev cX4_part : ByteArray := prog_6_method_75_code
def yX4_part : MethodName := ⟨RX4, "part", "(I)J"⟩
abbrev cX4_image : ByteArray := prog_6_method_76_code
def yX4_image : MethodName := ⟨RX4, "image", "(I)I"⟩
abbrev cX4_from : ByteArray := prog_6_method_77_code
def yX4_from : MethodName := ⟨RX4, "from", "(I)I"⟩
abbrev cX4_status : ByteArray := prog_6_method_78_code
def yX4_status : MethodName := ⟨RX4, "status", "(I)I"⟩
abbrev cX4_countOf : ByteArray := prog_6_method_79_code
def yX4_countOf : MethodName := ⟨RX4, "countOf", "(I)I"⟩
abbrev cX4_count : ByteArray := prog_6_method_80_code
def yX4_count : MethodName := ⟨RX4, "count", "(I)I"⟩
abbrev cX4_mix : ByteArray := prog_6_method_81_code
def yX4_mix : MethodName := ⟨RX4, "mix", "(J)V"⟩
abbrev cX4_digest : ByteArray := prog_6_method_82_code
def yX4_digest : MethodName := ⟨RX4, "digest", "()J"⟩
def RJ6 : String := "java/lang/Integer"
def TJ6 : u_T := fun k => match k with
  | _ => ("", "", "", false)
def tyJ6 : Nat → FieldType := fun k => match k with
  | _ => .int
abbrev wsJ60 : List Cond := u_ws RJ6 TJ6 0
theorem nmJ6 : ∀ a, a < 0 → ∀ b, b < 0 → a ≠ b → (TJ6 a).2.1 ≠ (TJ6 b).2.1 := by decide +kernel
theorem tyJ6_ok : ∀ k, k < 0 → parseFieldDescriptor (TJ6 k).2.2.1 = some (tyJ6 k) := by decide +kernel
abbrev cJ6_bitCount_0f7a4 : ByteArray := prog_7_method_49_code
def yJ6_bitCount_0f7a4 : MethodName := ⟨RJ6, "bitCount", "(I)I"⟩
def RJ9 : String := "java/lang/Math"
def TJ9 : u_T := fun k => match k with
  | _ => ("", "", "", false)
def tyJ9 : Nat → FieldType := fun k => match k with
  | _ => .int
abbrev wsJ90 : List Cond := u_ws RJ9 TJ9 0
theorem nmJ9 : ∀ a, a < 0 → ∀ b, b < 0 → a ≠ b → (TJ9 a).2.1 ≠ (TJ9 b).2.1 := by decide +kernel
theorem tyJ9_ok : ∀ k, k < 0 → parseFieldDescriptor (TJ9 k).2.2.1 = some (tyJ9 k) := by decide +kernel
abbrev cJ9_max_7cf53 : ByteArray := prog_8_method_65_code
def yJ9_max_7cf53 : MethodName := ⟨RJ9, "max", "(II)I"⟩
abbrev cJ9_min_7cf53 : ByteArray := prog_8_method_69_code
def yJ9_min_7cf53 : MethodName := ⟨RJ9, "min", "(II)I"⟩
def RJ10 : String := "java/lang/System"
def TJ10 : u_T := fun k => match k with
  | _ => ("", "", "", false)
def tyJ10 : Nat → FieldType := fun k => match k with
  | _ => .int
abbrev wsJ100 : List Cond := u_ws RJ10 TJ10 0
theorem nmJ10 : ∀ a, a < 0 → ∀ b, b < 0 → a ≠ b → (TJ10 a).2.1 ≠ (TJ10 b).2.1 := by decide +kernel
theorem tyJ10_ok : ∀ k, k < 0 → parseFieldDescriptor (TJ10 k).2.2.1 = some (tyJ10 k) := by decide +kernel
def RL : String := "DarnedSockLaw"
abbrev cL_law : ByteArray := code
def yL_law : MethodName := ⟨RL, "law", "([I)Z"⟩
abbrev vwCl : List vw_C := [(RX0, TX0, 3), (RX1, TX1, 6), (RX2, TX2, 9), (RX3, TX3, 13), (RX4, TX4, 18)]
theorem inX0 : ∀ w ∈ wsX00, w ∈ lw_tbl := by decide +kernel
theorem inX1 : ∀ w ∈ wsX10, w ∈ lw_tbl := by decide +kernel
theorem inX2 : ∀ w ∈ wsX20, w ∈ lw_tbl := by decide +kernel
theorem inX3 : ∀ w ∈ wsX30, w ∈ lw_tbl := by decide +kernel
theorem inX4 : ∀ w ∈ wsX40, w ∈ lw_tbl := by decide +kernel
end
section
theorem dX0_init_0 : decode cX0_init 0 = .ok (.aload_n 0, 1) := by decide +kernel
theorem dX0_init_1 : decode cX0_init 1 = .ok (.invokespecial 3, 3) := by decide +kernel
theorem dX0_init_4 : decode cX0_init 4 = .ok (.aload_n 0, 1) := by decide +kernel
theorem dX0_init_5 : decode cX0_init 5 = .ok (.bipush 9, 2) := by decide +kernel
theorem dX0_init_7 : decode cX0_init 7 = .ok (.newarray .int, 2) := by decide +kernel
theorem dX0_init_9 : decode cX0_init 9 = .ok (.putfield 9, 3) := by decide +kernel
theorem dX0_init_12 : decode cX0_init 12 = .ok (.aload_n 0, 1) := by decide +kernel
theorem dX0_init_13 : decode cX0_init 13 = .ok (.bipush 118, 2) := by decide +kernel
theorem dX0_init_15 : decode cX0_init 15 = .ok (.newarray .int, 2) := by decide +kernel
theorem dX0_init_17 : decode cX0_init 17 = .ok (.putfield 15, 3) := by decide +kernel
theorem dX0_init_20 : decode cX0_init 20 = .ok (.aload_n 0, 1) := by decide +kernel
theorem dX0_init_21 : decode cX0_init 21 = .ok (.iconst 3, 1) := by decide +kernel
theorem dX0_init_22 : decode cX0_init 22 = .ok (.newarray .int, 2) := by decide +kernel
theorem dX0_init_24 : decode cX0_init 24 = .ok (.putfield 18, 3) := by decide +kernel
theorem dX0_init_27 : decode cX0_init 27 = .ok (.iconst 0, 1) := by decide +kernel
theorem dX0_init_28 : decode cX0_init 28 = .ok (.istore_n 1, 1) := by decide +kernel
theorem dX0_init_29 : decode cX0_init 29 = .ok (.iload_n 1, 1) := by decide +kernel
theorem dX0_init_30 : decode cX0_init 30 = .ok (.bipush 9, 2) := by decide +kernel
theorem dX0_init_32 : decode cX0_init 32 = .ok (.if_icmp .ge 16, 3) := by decide +kernel
theorem dX0_init_35 : decode cX0_init 35 = .ok (.aload_n 0, 1) := by decide +kernel
theorem dX0_init_36 : decode cX0_init 36 = .ok (.getfield 9, 3) := by decide +kernel
theorem dX0_init_39 : decode cX0_init 39 = .ok (.iload_n 1, 1) := by decide +kernel
theorem dX0_init_40 : decode cX0_init 40 = .ok (.iconst 1, 1) := by decide +kernel
theorem dX0_init_41 : decode cX0_init 41 = .ok (.iastore, 1) := by decide +kernel
theorem dX0_init_42 : decode cX0_init 42 = .ok (.iinc 1 1, 3) := by decide +kernel
theorem dX0_init_45 : decode cX0_init 45 = .ok (.goto (-16), 3) := by decide +kernel
theorem dX0_init_48 : decode cX0_init 48 = .ok (.return_, 1) := by decide +kernel
theorem dX0_renew_0 : decode cX0_renew 0 = .ok (.iconst 0, 1) := by decide +kernel
theorem dX0_renew_1 : decode cX0_renew 1 = .ok (.istore_n 2, 1) := by decide +kernel
theorem dX0_renew_2 : decode cX0_renew 2 = .ok (.iload_n 2, 1) := by decide +kernel
theorem dX0_renew_3 : decode cX0_renew 3 = .ok (.bipush 9, 2) := by decide +kernel
theorem dX0_renew_5 : decode cX0_renew 5 = .ok (.if_icmp .ge 26, 3) := by decide +kernel
theorem dX0_renew_8 : decode cX0_renew 8 = .ok (.aload_n 0, 1) := by decide +kernel
theorem dX0_renew_9 : decode cX0_renew 9 = .ok (.getfield 9, 3) := by decide +kernel
theorem dX0_renew_12 : decode cX0_renew 12 = .ok (.iload_n 2, 1) := by decide +kernel
theorem dX0_renew_13 : decode cX0_renew 13 = .ok (.iconst 1, 1) := by decide +kernel
theorem dX0_renew_14 : decode cX0_renew 14 = .ok (.iastore, 1) := by decide +kernel
theorem dX0_renew_15 : decode cX0_renew 15 = .ok (.aload_n 0, 1) := by decide +kernel
theorem dX0_renew_16 : decode cX0_renew 16 = .ok (.getfield 15, 3) := by decide +kernel
theorem dX0_renew_19 : decode cX0_renew 19 = .ok (.bipush 108, 2) := by decide +kernel
theorem dX0_renew_21 : decode cX0_renew 21 = .ok (.iload_n 2, 1) := by decide +kernel
theorem dX0_renew_22 : decode cX0_renew 22 = .ok (.iadd, 1) := by decide +kernel
theorem dX0_renew_23 : decode cX0_renew 23 = .ok (.iconst 0, 1) := by decide +kernel
theorem dX0_renew_24 : decode cX0_renew 24 = .ok (.iastore, 1) := by decide +kernel
theorem dX0_renew_25 : decode cX0_renew 25 = .ok (.iinc 2 1, 3) := by decide +kernel
theorem dX0_renew_28 : decode cX0_renew 28 = .ok (.goto (-26), 3) := by decide +kernel
theorem dX0_renew_31 : decode cX0_renew 31 = .ok (.aload_n 0, 1) := by decide +kernel
theorem dX0_renew_32 : decode cX0_renew 32 = .ok (.getfield 15, 3) := by decide +kernel
theorem dX0_renew_35 : decode cX0_renew 35 = .ok (.bipush 117, 2) := by decide +kernel
theorem dX0_renew_37 : decode cX0_renew 37 = .ok (.iload_n 1, 1) := by decide +kernel
theorem dX0_renew_38 : decode cX0_renew 38 = .ok (.iastore, 1) := by decide +kernel
theorem dX0_renew_39 : decode cX0_renew 39 = .ok (.return_, 1) := by decide +kernel
theorem dX0_copy_0 : decode cX0_copy 0 = .ok (.aload_n 1, 1) := by decide +kernel
theorem dX0_copy_1 : decode cX0_copy 1 = .ok (.getfield 9, 3) := by decide +kernel
theorem dX0_copy_4 : decode cX0_copy 4 = .ok (.iconst 0, 1) := by decide +kernel
theorem dX0_copy_5 : decode cX0_copy 5 = .ok (.aload_n 0, 1) := by decide +kernel
theorem dX0_copy_6 : decode cX0_copy 6 = .ok (.getfield 9, 3) := by decide +kernel
theorem dX0_copy_9 : decode cX0_copy 9 = .ok (.iconst 0, 1) := by decide +kernel
theorem dX0_copy_10 : decode cX0_copy 10 = .ok (.bipush 9, 2) := by decide +kernel
theorem dX0_copy_12 : decode cX0_copy 12 = .ok (.invokestatic 21, 3) := by decide +kernel
theorem dX0_copy_15 : decode cX0_copy 15 = .ok (.aload_n 1, 1) := by decide +kernel
theorem dX0_copy_16 : decode cX0_copy 16 = .ok (.getfield 15, 3) := by decide +kernel
theorem dX0_copy_19 : decode cX0_copy 19 = .ok (.iconst 0, 1) := by decide +kernel
theorem dX0_copy_20 : decode cX0_copy 20 = .ok (.aload_n 0, 1) := by decide +kernel
theorem dX0_copy_21 : decode cX0_copy 21 = .ok (.getfield 15, 3) := by decide +kernel
theorem dX0_copy_24 : decode cX0_copy 24 = .ok (.iconst 0, 1) := by decide +kernel
theorem dX0_copy_25 : decode cX0_copy 25 = .ok (.bipush 118, 2) := by decide +kernel
theorem dX0_copy_27 : decode cX0_copy 27 = .ok (.invokestatic 21, 3) := by decide +kernel
theorem dX0_copy_30 : decode cX0_copy 30 = .ok (.return_, 1) := by decide +kernel
theorem dX0_year_0 : decode cX0_year 0 = .ok (.aload_n 0, 1) := by decide +kernel
theorem dX0_year_1 : decode cX0_year 1 = .ok (.getfield 15, 3) := by decide +kernel
theorem dX0_year_4 : decode cX0_year 4 = .ok (.bipush 117, 2) := by decide +kernel
theorem dX0_year_6 : decode cX0_year 6 = .ok (.iaload, 1) := by decide +kernel
theorem dX0_year_7 : decode cX0_year 7 = .ok (.ireturn, 1) := by decide +kernel
theorem dX0_many_0 : decode cX0_many 0 = .ok (.iload_n 1, 1) := by decide +kernel
theorem dX0_many_1 : decode cX0_many 1 = .ok (.ifCond .lt 21, 3) := by decide +kernel
theorem dX0_many_4 : decode cX0_many 4 = .ok (.iload_n 1, 1) := by decide +kernel
theorem dX0_many_5 : decode cX0_many 5 = .ok (.bipush 9, 2) := by decide +kernel
theorem dX0_many_7 : decode cX0_many 7 = .ok (.if_icmp .ge 15, 3) := by decide +kernel
theorem dX0_many_10 : decode cX0_many 10 = .ok (.aload_n 0, 1) := by decide +kernel
theorem dX0_many_11 : decode cX0_many 11 = .ok (.getfield 15, 3) := by decide +kernel
theorem dX0_many_14 : decode cX0_many 14 = .ok (.bipush 108, 2) := by decide +kernel
theorem dX0_many_16 : decode cX0_many 16 = .ok (.iload_n 1, 1) := by decide +kernel
theorem dX0_many_17 : decode cX0_many 17 = .ok (.iadd, 1) := by decide +kernel
theorem dX0_many_18 : decode cX0_many 18 = .ok (.iaload, 1) := by decide +kernel
theorem dX0_many_19 : decode cX0_many 19 = .ok (.goto 4, 3) := by decide +kernel
theorem dX0_many_22 : decode cX0_many 22 = .ok (.iconst 0, 1) := by decide +kernel
theorem dX0_many_23 : decode cX0_many 23 = .ok (.ireturn, 1) := by decide +kernel
theorem dX0_get_0 : decode cX0_get 0 = .ok (.iload_n 1, 1) := by decide +kernel
theorem dX0_get_1 : decode cX0_get 1 = .ok (.ifCond .lt 18, 3) := by decide +kernel
theorem dX0_get_4 : decode cX0_get 4 = .ok (.iload_n 1, 1) := by decide +kernel
theorem dX0_get_5 : decode cX0_get 5 = .ok (.bipush 9, 2) := by decide +kernel
theorem dX0_get_7 : decode cX0_get 7 = .ok (.if_icmp .ge 12, 3) := by decide +kernel
theorem dX0_get_10 : decode cX0_get 10 = .ok (.iload_n 2, 1) := by decide +kernel
theorem dX0_get_11 : decode cX0_get 11 = .ok (.ifCond .lt 8, 3) := by decide +kernel
theorem dX0_get_14 : decode cX0_get 14 = .ok (.iload_n 2, 1) := by decide +kernel
theorem dX0_get_15 : decode cX0_get 15 = .ok (.iconst 3, 1) := by decide +kernel
theorem dX0_get_16 : decode cX0_get 16 = .ok (.if_icmp .lt 5, 3) := by decide +kernel
theorem dX0_get_19 : decode cX0_get 19 = .ok (.iconst (-1), 1) := by decide +kernel
theorem dX0_get_20 : decode cX0_get 20 = .ok (.ireturn, 1) := by decide +kernel
theorem dX0_get_21 : decode cX0_get 21 = .ok (.iload_n 3, 1) := by decide +kernel
theorem dX0_get_22 : decode cX0_get 22 = .ok (.ifCond .lt 8, 3) := by decide +kernel
theorem dX0_get_25 : decode cX0_get 25 = .ok (.iload_n 3, 1) := by decide +kernel
theorem dX0_get_26 : decode cX0_get 26 = .ok (.iconst 4, 1) := by decide +kernel
theorem dX0_get_27 : decode cX0_get 27 = .ok (.if_icmp .lt 5, 3) := by decide +kernel
theorem dX0_get_30 : decode cX0_get 30 = .ok (.iconst (-1), 1) := by decide +kernel
theorem dX0_get_31 : decode cX0_get 31 = .ok (.ireturn, 1) := by decide +kernel
theorem dX0_get_32 : decode cX0_get 32 = .ok (.aload_n 0, 1) := by decide +kernel
theorem dX0_get_33 : decode cX0_get 33 = .ok (.getfield 15, 3) := by decide +kernel
theorem dX0_get_36 : decode cX0_get 36 = .ok (.iload_n 1, 1) := by decide +kernel
theorem dX0_get_37 : decode cX0_get 37 = .ok (.iconst 3, 1) := by decide +kernel
theorem dX0_get_38 : decode cX0_get 38 = .ok (.imul, 1) := by decide +kernel
theorem dX0_get_39 : decode cX0_get 39 = .ok (.iload_n 2, 1) := by decide +kernel
theorem dX0_get_40 : decode cX0_get 40 = .ok (.iadd, 1) := by decide +kernel
theorem dX0_get_41 : decode cX0_get 41 = .ok (.iconst 4, 1) := by decide +kernel
theorem dX0_get_42 : decode cX0_get 42 = .ok (.imul, 1) := by decide +kernel
theorem dX0_get_43 : decode cX0_get 43 = .ok (.iload_n 3, 1) := by decide +kernel
theorem dX0_get_44 : decode cX0_get 44 = .ok (.iadd, 1) := by decide +kernel
theorem dX0_get_45 : decode cX0_get 45 = .ok (.iaload, 1) := by decide +kernel
theorem dX0_get_46 : decode cX0_get 46 = .ok (.ireturn, 1) := by decide +kernel
theorem dX0_threadAt_0 : decode cX0_threadAt 0 = .ok (.iload_n 2, 1) := by decide +kernel
theorem dX0_threadAt_1 : decode cX0_threadAt 1 = .ok (.iconst 3, 1) := by decide +kernel
theorem dX0_threadAt_2 : decode cX0_threadAt 2 = .ok (.invokestatic 27, 3) := by decide +kernel
theorem dX0_threadAt_5 : decode cX0_threadAt 5 = .ok (.ifCond .eq 13, 3) := by decide +kernel
theorem dX0_threadAt_8 : decode cX0_threadAt 8 = .ok (.aload_n 0, 1) := by decide +kernel
theorem dX0_threadAt_9 : decode cX0_threadAt 9 = .ok (.iload_n 1, 1) := by decide +kernel
theorem dX0_threadAt_10 : decode cX0_threadAt 10 = .ok (.iload_n 2, 1) := by decide +kernel
theorem dX0_threadAt_11 : decode cX0_threadAt 11 = .ok (.iconst 2, 1) := by decide +kernel
theorem dX0_threadAt_12 : decode cX0_threadAt 12 = .ok (.invokevirtual 31, 3) := by decide +kernel
theorem dX0_threadAt_15 : decode cX0_threadAt 15 = .ok (.goto 4, 3) := by decide +kernel
theorem dX0_threadAt_18 : decode cX0_threadAt 18 = .ok (.iconst 0, 1) := by decide +kernel
theorem dX0_threadAt_19 : decode cX0_threadAt 19 = .ok (.ireturn, 1) := by decide +kernel
theorem dX0_isHole_0 : decode cX0_isHole 0 = .ok (.aload_n 0, 1) := by decide +kernel
theorem dX0_isHole_1 : decode cX0_isHole 1 = .ok (.iload_n 1, 1) := by decide +kernel
theorem dX0_isHole_2 : decode cX0_isHole 2 = .ok (.invokevirtual 35, 3) := by decide +kernel
theorem dX0_isHole_5 : decode cX0_isHole 5 = .ok (.ifCond .gt 7, 3) := by decide +kernel
theorem dX0_isHole_8 : decode cX0_isHole 8 = .ok (.iconst 1, 1) := by decide +kernel
theorem dX0_isHole_9 : decode cX0_isHole 9 = .ok (.goto 4, 3) := by decide +kernel
theorem dX0_isHole_12 : decode cX0_isHole 12 = .ok (.iconst 0, 1) := by decide +kernel
theorem dX0_isHole_13 : decode cX0_isHole 13 = .ok (.ireturn, 1) := by decide +kernel
theorem dX0_hasRoom_0 : decode cX0_hasRoom 0 = .ok (.aload_n 0, 1) := by decide +kernel
theorem dX0_hasRoom_1 : decode cX0_hasRoom 1 = .ok (.iload_n 1, 1) := by decide +kernel
theorem dX0_hasRoom_2 : decode cX0_hasRoom 2 = .ok (.invokevirtual 35, 3) := by decide +kernel
theorem dX0_hasRoom_5 : decode cX0_hasRoom 5 = .ok (.iconst 3, 1) := by decide +kernel
theorem dX0_hasRoom_6 : decode cX0_hasRoom 6 = .ok (.if_icmp .ge 7, 3) := by decide +kernel
theorem dX0_hasRoom_9 : decode cX0_hasRoom 9 = .ok (.iconst 1, 1) := by decide +kernel
theorem dX0_hasRoom_10 : decode cX0_hasRoom 10 = .ok (.goto 4, 3) := by decide +kernel
theorem dX0_hasRoom_13 : decode cX0_hasRoom 13 = .ok (.iconst 0, 1) := by decide +kernel
theorem dX0_hasRoom_14 : decode cX0_hasRoom 14 = .ok (.ireturn, 1) := by decide +kernel
theorem dX0_darnsOf_0 : decode cX0_darnsOf 0 = .ok (.iconst 0, 1) := by decide +kernel
theorem dX0_darnsOf_1 : decode cX0_darnsOf 1 = .ok (.istore_n 2, 1) := by decide +kernel
theorem dX0_darnsOf_2 : decode cX0_darnsOf 2 = .ok (.iconst 0, 1) := by decide +kernel
theorem dX0_darnsOf_3 : decode cX0_darnsOf 3 = .ok (.istore_n 3, 1) := by decide +kernel
theorem dX0_darnsOf_4 : decode cX0_darnsOf 4 = .ok (.iload_n 3, 1) := by decide +kernel
theorem dX0_darnsOf_5 : decode cX0_darnsOf 5 = .ok (.bipush 9, 2) := by decide +kernel
theorem dX0_darnsOf_7 : decode cX0_darnsOf 7 = .ok (.if_icmp .ge 25, 3) := by decide +kernel
theorem dX0_darnsOf_10 : decode cX0_darnsOf 10 = .ok (.iload_n 1, 1) := by decide +kernel
theorem dX0_darnsOf_11 : decode cX0_darnsOf 11 = .ok (.iload_n 3, 1) := by decide +kernel
theorem dX0_darnsOf_12 : decode cX0_darnsOf 12 = .ok (.ishr, 1) := by decide +kernel
theorem dX0_darnsOf_13 : decode cX0_darnsOf 13 = .ok (.iconst 1, 1) := by decide +kernel
theorem dX0_darnsOf_14 : decode cX0_darnsOf 14 = .ok (.iand, 1) := by decide +kernel
theorem dX0_darnsOf_15 : decode cX0_darnsOf 15 = .ok (.ifCond .eq 11, 3) := by decide +kernel
theorem dX0_darnsOf_18 : decode cX0_darnsOf 18 = .ok (.iload_n 2, 1) := by decide +kernel
theorem dX0_darnsOf_19 : decode cX0_darnsOf 19 = .ok (.aload_n 0, 1) := by decide +kernel
theorem dX0_darnsOf_20 : decode cX0_darnsOf 20 = .ok (.iload_n 3, 1) := by decide +kernel
theorem dX0_darnsOf_21 : decode cX0_darnsOf 21 = .ok (.invokevirtual 35, 3) := by decide +kernel
theorem dX0_darnsOf_24 : decode cX0_darnsOf 24 = .ok (.iadd, 1) := by decide +kernel
theorem dX0_darnsOf_25 : decode cX0_darnsOf 25 = .ok (.istore_n 2, 1) := by decide +kernel
theorem dX0_darnsOf_26 : decode cX0_darnsOf 26 = .ok (.iinc 3 1, 3) := by decide +kernel
theorem dX0_darnsOf_29 : decode cX0_darnsOf 29 = .ok (.goto (-25), 3) := by decide +kernel
theorem dX0_darnsOf_32 : decode cX0_darnsOf 32 = .ok (.iload_n 2, 1) := by decide +kernel
theorem dX0_darnsOf_33 : decode cX0_darnsOf 33 = .ok (.ireturn, 1) := by decide +kernel
theorem dX0_darns_0 : decode cX0_darns 0 = .ok (.aload_n 0, 1) := by decide +kernel
theorem dX0_darns_1 : decode cX0_darns 1 = .ok (.sipush 511, 3) := by decide +kernel
theorem dX0_darns_4 : decode cX0_darns 4 = .ok (.invokevirtual 39, 3) := by decide +kernel
theorem dX0_darns_7 : decode cX0_darns 7 = .ok (.ireturn, 1) := by decide +kernel
theorem dX0_holeBits_0 : decode cX0_holeBits 0 = .ok (.iconst 0, 1) := by decide +kernel
theorem dX0_holeBits_1 : decode cX0_holeBits 1 = .ok (.istore_n 1, 1) := by decide +kernel
theorem dX0_holeBits_2 : decode cX0_holeBits 2 = .ok (.iconst 0, 1) := by decide +kernel
theorem dX0_holeBits_3 : decode cX0_holeBits 3 = .ok (.istore_n 2, 1) := by decide +kernel
theorem dX0_holeBits_4 : decode cX0_holeBits 4 = .ok (.iload_n 2, 1) := by decide +kernel
theorem dX0_holeBits_5 : decode cX0_holeBits 5 = .ok (.bipush 9, 2) := by decide +kernel
theorem dX0_holeBits_7 : decode cX0_holeBits 7 = .ok (.if_icmp .ge 23, 3) := by decide +kernel
theorem dX0_holeBits_10 : decode cX0_holeBits 10 = .ok (.aload_n 0, 1) := by decide +kernel
theorem dX0_holeBits_11 : decode cX0_holeBits 11 = .ok (.iload_n 2, 1) := by decide +kernel
theorem dX0_holeBits_12 : decode cX0_holeBits 12 = .ok (.invokevirtual 42, 3) := by decide +kernel
theorem dX0_holeBits_15 : decode cX0_holeBits 15 = .ok (.ifCond .eq 9, 3) := by decide +kernel
theorem dX0_holeBits_18 : decode cX0_holeBits 18 = .ok (.iload_n 1, 1) := by decide +kernel
theorem dX0_holeBits_19 : decode cX0_holeBits 19 = .ok (.iconst 1, 1) := by decide +kernel
theorem dX0_holeBits_20 : decode cX0_holeBits 20 = .ok (.iload_n 2, 1) := by decide +kernel
theorem dX0_holeBits_21 : decode cX0_holeBits 21 = .ok (.ishl, 1) := by decide +kernel
theorem dX0_holeBits_22 : decode cX0_holeBits 22 = .ok (.ior, 1) := by decide +kernel
theorem dX0_holeBits_23 : decode cX0_holeBits 23 = .ok (.istore_n 1, 1) := by decide +kernel
theorem dX0_holeBits_24 : decode cX0_holeBits 24 = .ok (.iinc 2 1, 3) := by decide +kernel
theorem dX0_holeBits_27 : decode cX0_holeBits 27 = .ok (.goto (-23), 3) := by decide +kernel
theorem dX0_holeBits_30 : decode cX0_holeBits 30 = .ok (.iload_n 1, 1) := by decide +kernel
theorem dX0_holeBits_31 : decode cX0_holeBits 31 = .ok (.ireturn, 1) := by decide +kernel
theorem dX0_verdict_0 : decode cX0_verdict 0 = .ok (.iload_n 1, 1) := by decide +kernel
theorem dX0_verdict_1 : decode cX0_verdict 1 = .ok (.bipush 9, 2) := by decide +kernel
theorem dX0_verdict_3 : decode cX0_verdict 3 = .ok (.invokestatic 27, 3) := by decide +kernel
theorem dX0_verdict_6 : decode cX0_verdict 6 = .ok (.ifCond .eq 20, 3) := by decide +kernel
theorem dX0_verdict_9 : decode cX0_verdict 9 = .ok (.iload_n 2, 1) := by decide +kernel
theorem dX0_verdict_10 : decode cX0_verdict 10 = .ok (.bipush 6, 2) := by decide +kernel
theorem dX0_verdict_12 : decode cX0_verdict 12 = .ok (.invokestatic 27, 3) := by decide +kernel
theorem dX0_verdict_15 : decode cX0_verdict 15 = .ok (.ifCond .eq 11, 3) := by decide +kernel
theorem dX0_verdict_18 : decode cX0_verdict 18 = .ok (.iload_n 3, 1) := by decide +kernel
theorem dX0_verdict_19 : decode cX0_verdict 19 = .ok (.iconst 3, 1) := by decide +kernel
theorem dX0_verdict_20 : decode cX0_verdict 20 = .ok (.invokestatic 27, 3) := by decide +kernel
theorem dX0_verdict_23 : decode cX0_verdict 23 = .ok (.ifCond .ne 6, 3) := by decide +kernel
theorem dX0_verdict_26 : decode cX0_verdict 26 = .ok (.bipush (-2), 2) := by decide +kernel
theorem dX0_verdict_28 : decode cX0_verdict 28 = .ok (.ireturn, 1) := by decide +kernel
theorem dX0_verdict_29 : decode cX0_verdict 29 = .ok (.iload 4, 2) := by decide +kernel
theorem dX0_verdict_31 : decode cX0_verdict 31 = .ok (.iconst 1, 1) := by decide +kernel
theorem dX0_verdict_32 : decode cX0_verdict 32 = .ok (.bipush 30, 2) := by decide +kernel
theorem dX0_verdict_34 : decode cX0_verdict 34 = .ok (.invokestatic 46, 3) := by decide +kernel
theorem dX0_verdict_37 : decode cX0_verdict 37 = .ok (.ifCond .ne 6, 3) := by decide +kernel
theorem dX0_verdict_40 : decode cX0_verdict 40 = .ok (.bipush (-2), 2) := by decide +kernel
theorem dX0_verdict_42 : decode cX0_verdict 42 = .ok (.ireturn, 1) := by decide +kernel
theorem dX0_verdict_43 : decode cX0_verdict 43 = .ok (.aload_n 0, 1) := by decide +kernel
theorem dX0_verdict_44 : decode cX0_verdict 44 = .ok (.iload_n 1, 1) := by decide +kernel
theorem dX0_verdict_45 : decode cX0_verdict 45 = .ok (.invokevirtual 50, 3) := by decide +kernel
theorem dX0_verdict_48 : decode cX0_verdict 48 = .ok (.ifCond .eq 7, 3) := by decide +kernel
theorem dX0_verdict_51 : decode cX0_verdict 51 = .ok (.iconst 0, 1) := by decide +kernel
theorem dX0_verdict_52 : decode cX0_verdict 52 = .ok (.goto 5, 3) := by decide +kernel
theorem dX0_verdict_55 : decode cX0_verdict 55 = .ok (.bipush (-4), 2) := by decide +kernel
theorem dX0_verdict_57 : decode cX0_verdict 57 = .ok (.ireturn, 1) := by decide +kernel
theorem dX0_put_0 : decode cX0_put 0 = .ok (.aload_n 0, 1) := by decide +kernel
theorem dX0_put_1 : decode cX0_put 1 = .ok (.iload_n 1, 1) := by decide +kernel
theorem dX0_put_2 : decode cX0_put 2 = .ok (.iload_n 2, 1) := by decide +kernel
theorem dX0_put_3 : decode cX0_put 3 = .ok (.iload_n 3, 1) := by decide +kernel
theorem dX0_put_4 : decode cX0_put 4 = .ok (.iload 4, 2) := by decide +kernel
theorem dX0_put_6 : decode cX0_put 6 = .ok (.invokevirtual 53, 3) := by decide +kernel
theorem dX0_put_9 : decode cX0_put 9 = .ok (.ifCond .eq 9, 3) := by decide +kernel
theorem dX0_put_12 : decode cX0_put 12 = .ok (.aload_n 0, 1) := by decide +kernel
theorem dX0_put_13 : decode cX0_put 13 = .ok (.iload_n 1, 1) := by decide +kernel
theorem dX0_put_14 : decode cX0_put 14 = .ok (.invokevirtual 35, 3) := by decide +kernel
theorem dX0_put_17 : decode cX0_put 17 = .ok (.ireturn, 1) := by decide +kernel
theorem dX0_put_18 : decode cX0_put 18 = .ok (.iload_n 1, 1) := by decide +kernel
theorem dX0_put_19 : decode cX0_put 19 = .ok (.iconst 3, 1) := by decide +kernel
theorem dX0_put_20 : decode cX0_put 20 = .ok (.imul, 1) := by decide +kernel
theorem dX0_put_21 : decode cX0_put 21 = .ok (.aload_n 0, 1) := by decide +kernel
theorem dX0_put_22 : decode cX0_put 22 = .ok (.getfield 15, 3) := by decide +kernel
theorem dX0_put_25 : decode cX0_put 25 = .ok (.bipush 108, 2) := by decide +kernel
theorem dX0_put_27 : decode cX0_put 27 = .ok (.iload_n 1, 1) := by decide +kernel
theorem dX0_put_28 : decode cX0_put 28 = .ok (.iadd, 1) := by decide +kernel
theorem dX0_put_29 : decode cX0_put 29 = .ok (.iaload, 1) := by decide +kernel
theorem dX0_put_30 : decode cX0_put 30 = .ok (.iadd, 1) := by decide +kernel
theorem dX0_put_31 : decode cX0_put 31 = .ok (.iconst 4, 1) := by decide +kernel
theorem dX0_put_32 : decode cX0_put 32 = .ok (.imul, 1) := by decide +kernel
theorem dX0_put_33 : decode cX0_put 33 = .ok (.istore 5, 2) := by decide +kernel
theorem dX0_put_35 : decode cX0_put 35 = .ok (.aload_n 0, 1) := by decide +kernel
theorem dX0_put_36 : decode cX0_put 36 = .ok (.getfield 15, 3) := by decide +kernel
theorem dX0_put_39 : decode cX0_put 39 = .ok (.iload 5, 2) := by decide +kernel
theorem dX0_put_41 : decode cX0_put 41 = .ok (.iconst 0, 1) := by decide +kernel
theorem dX0_put_42 : decode cX0_put 42 = .ok (.iadd, 1) := by decide +kernel
theorem dX0_put_43 : decode cX0_put 43 = .ok (.iload_n 2, 1) := by decide +kernel
theorem dX0_put_44 : decode cX0_put 44 = .ok (.iastore, 1) := by decide +kernel
theorem dX0_put_45 : decode cX0_put 45 = .ok (.aload_n 0, 1) := by decide +kernel
theorem dX0_put_46 : decode cX0_put 46 = .ok (.getfield 15, 3) := by decide +kernel
theorem dX0_put_49 : decode cX0_put 49 = .ok (.iload 5, 2) := by decide +kernel
theorem dX0_put_51 : decode cX0_put 51 = .ok (.iconst 1, 1) := by decide +kernel
theorem dX0_put_52 : decode cX0_put 52 = .ok (.iadd, 1) := by decide +kernel
theorem dX0_put_53 : decode cX0_put 53 = .ok (.iload_n 3, 1) := by decide +kernel
theorem dX0_put_54 : decode cX0_put 54 = .ok (.iastore, 1) := by decide +kernel
theorem dX0_put_55 : decode cX0_put 55 = .ok (.aload_n 0, 1) := by decide +kernel
theorem dX0_put_56 : decode cX0_put 56 = .ok (.getfield 15, 3) := by decide +kernel
theorem dX0_put_59 : decode cX0_put 59 = .ok (.iload 5, 2) := by decide +kernel
theorem dX0_put_61 : decode cX0_put 61 = .ok (.iconst 2, 1) := by decide +kernel
theorem dX0_put_62 : decode cX0_put 62 = .ok (.iadd, 1) := by decide +kernel
theorem dX0_put_63 : decode cX0_put 63 = .ok (.iload 4, 2) := by decide +kernel
theorem dX0_put_65 : decode cX0_put 65 = .ok (.iastore, 1) := by decide +kernel
theorem dX0_put_66 : decode cX0_put 66 = .ok (.aload_n 0, 1) := by decide +kernel
theorem dX0_put_67 : decode cX0_put 67 = .ok (.getfield 15, 3) := by decide +kernel
theorem dX0_put_70 : decode cX0_put 70 = .ok (.iload 5, 2) := by decide +kernel
theorem dX0_put_72 : decode cX0_put 72 = .ok (.iconst 3, 1) := by decide +kernel
theorem dX0_put_73 : decode cX0_put 73 = .ok (.iadd, 1) := by decide +kernel
theorem dX0_put_74 : decode cX0_put 74 = .ok (.aload_n 0, 1) := by decide +kernel
theorem dX0_put_75 : decode cX0_put 75 = .ok (.getfield 15, 3) := by decide +kernel
theorem dX0_put_78 : decode cX0_put 78 = .ok (.bipush 117, 2) := by decide +kernel
theorem dX0_put_80 : decode cX0_put 80 = .ok (.iaload, 1) := by decide +kernel
theorem dX0_put_81 : decode cX0_put 81 = .ok (.iastore, 1) := by decide +kernel
theorem dX0_put_82 : decode cX0_put 82 = .ok (.aload_n 0, 1) := by decide +kernel
theorem dX0_put_83 : decode cX0_put 83 = .ok (.getfield 15, 3) := by decide +kernel
theorem dX0_put_86 : decode cX0_put 86 = .ok (.bipush 108, 2) := by decide +kernel
theorem dX0_put_88 : decode cX0_put 88 = .ok (.iload_n 1, 1) := by decide +kernel
theorem dX0_put_89 : decode cX0_put 89 = .ok (.iadd, 1) := by decide +kernel
theorem dX0_put_90 : decode cX0_put 90 = .ok (.dup2, 1) := by decide +kernel
theorem dX0_put_91 : decode cX0_put 91 = .ok (.iaload, 1) := by decide +kernel
theorem dX0_put_92 : decode cX0_put 92 = .ok (.iconst 1, 1) := by decide +kernel
theorem dX0_put_93 : decode cX0_put 93 = .ok (.iadd, 1) := by decide +kernel
theorem dX0_put_94 : decode cX0_put 94 = .ok (.iastore, 1) := by decide +kernel
theorem dX0_put_95 : decode cX0_put 95 = .ok (.aload_n 0, 1) := by decide +kernel
theorem dX0_put_96 : decode cX0_put 96 = .ok (.getfield 15, 3) := by decide +kernel
theorem dX0_put_99 : decode cX0_put 99 = .ok (.bipush 108, 2) := by decide +kernel
theorem dX0_put_101 : decode cX0_put 101 = .ok (.iload_n 1, 1) := by decide +kernel
theorem dX0_put_102 : decode cX0_put 102 = .ok (.iadd, 1) := by decide +kernel
theorem dX0_put_103 : decode cX0_put 103 = .ok (.iaload, 1) := by decide +kernel
theorem dX0_put_104 : decode cX0_put 104 = .ok (.ireturn, 1) := by decide +kernel
theorem dX0_take_0 : decode cX0_take 0 = .ok (.aload_n 0, 1) := by decide +kernel
theorem dX0_take_1 : decode cX0_take 1 = .ok (.iload_n 1, 1) := by decide +kernel
theorem dX0_take_2 : decode cX0_take 2 = .ok (.invokevirtual 42, 3) := by decide +kernel
theorem dX0_take_5 : decode cX0_take 5 = .ok (.ifCond .eq 5, 3) := by decide +kernel
theorem dX0_take_8 : decode cX0_take 8 = .ok (.iconst 0, 1) := by decide +kernel
theorem dX0_take_9 : decode cX0_take 9 = .ok (.ireturn, 1) := by decide +kernel
theorem dX0_take_10 : decode cX0_take 10 = .ok (.aload_n 0, 1) := by decide +kernel
theorem dX0_take_11 : decode cX0_take 11 = .ok (.getfield 15, 3) := by decide +kernel
theorem dX0_take_14 : decode cX0_take 14 = .ok (.bipush 108, 2) := by decide +kernel
theorem dX0_take_16 : decode cX0_take 16 = .ok (.iload_n 1, 1) := by decide +kernel
theorem dX0_take_17 : decode cX0_take 17 = .ok (.iadd, 1) := by decide +kernel
theorem dX0_take_18 : decode cX0_take 18 = .ok (.dup2, 1) := by decide +kernel
theorem dX0_take_19 : decode cX0_take 19 = .ok (.iaload, 1) := by decide +kernel
theorem dX0_take_20 : decode cX0_take 20 = .ok (.iconst 1, 1) := by decide +kernel
theorem dX0_take_21 : decode cX0_take 21 = .ok (.isub, 1) := by decide +kernel
theorem dX0_take_22 : decode cX0_take 22 = .ok (.iastore, 1) := by decide +kernel
theorem dX0_take_23 : decode cX0_take 23 = .ok (.aload_n 0, 1) := by decide +kernel
theorem dX0_take_24 : decode cX0_take 24 = .ok (.iload_n 1, 1) := by decide +kernel
theorem dX0_take_25 : decode cX0_take 25 = .ok (.aload_n 0, 1) := by decide +kernel
theorem dX0_take_26 : decode cX0_take 26 = .ok (.getfield 15, 3) := by decide +kernel
theorem dX0_take_29 : decode cX0_take 29 = .ok (.bipush 108, 2) := by decide +kernel
theorem dX0_take_31 : decode cX0_take 31 = .ok (.iload_n 1, 1) := by decide +kernel
theorem dX0_take_32 : decode cX0_take 32 = .ok (.iadd, 1) := by decide +kernel
theorem dX0_take_33 : decode cX0_take 33 = .ok (.iaload, 1) := by decide +kernel
theorem dX0_take_34 : decode cX0_take 34 = .ok (.iconst 2, 1) := by decide +kernel
theorem dX0_take_35 : decode cX0_take 35 = .ok (.invokevirtual 31, 3) := by decide +kernel
theorem dX0_take_38 : decode cX0_take 38 = .ok (.ireturn, 1) := by decide +kernel
theorem dX0_pass_0 : decode cX0_pass 0 = .ok (.iconst 0, 1) := by decide +kernel
theorem dX0_pass_1 : decode cX0_pass 1 = .ok (.istore_n 1, 1) := by decide +kernel
theorem dX0_pass_2 : decode cX0_pass 2 = .ok (.iload_n 1, 1) := by decide +kernel
theorem dX0_pass_3 : decode cX0_pass 3 = .ok (.bipush 9, 2) := by decide +kernel
theorem dX0_pass_5 : decode cX0_pass 5 = .ok (.if_icmp .ge 22, 3) := by decide +kernel
theorem dX0_pass_8 : decode cX0_pass 8 = .ok (.aload_n 0, 1) := by decide +kernel
theorem dX0_pass_9 : decode cX0_pass 9 = .ok (.iload_n 1, 1) := by decide +kernel
theorem dX0_pass_10 : decode cX0_pass 10 = .ok (.invokevirtual 42, 3) := by decide +kernel
theorem dX0_pass_13 : decode cX0_pass 13 = .ok (.ifCond .ne 8, 3) := by decide +kernel
theorem dX0_pass_16 : decode cX0_pass 16 = .ok (.aload_n 0, 1) := by decide +kernel
theorem dX0_pass_17 : decode cX0_pass 17 = .ok (.iload_n 1, 1) := by decide +kernel
theorem dX0_pass_18 : decode cX0_pass 18 = .ok (.invokevirtual 57, 3) := by decide +kernel
theorem dX0_pass_21 : decode cX0_pass 21 = .ok (.iinc 1 1, 3) := by decide +kernel
theorem dX0_pass_24 : decode cX0_pass 24 = .ok (.goto (-22), 3) := by decide +kernel
theorem dX0_pass_27 : decode cX0_pass 27 = .ok (.aload_n 0, 1) := by decide +kernel
theorem dX0_pass_28 : decode cX0_pass 28 = .ok (.getfield 15, 3) := by decide +kernel
theorem dX0_pass_31 : decode cX0_pass 31 = .ok (.bipush 117, 2) := by decide +kernel
theorem dX0_pass_33 : decode cX0_pass 33 = .ok (.dup2, 1) := by decide +kernel
theorem dX0_pass_34 : decode cX0_pass 34 = .ok (.iaload, 1) := by decide +kernel
theorem dX0_pass_35 : decode cX0_pass 35 = .ok (.iconst 1, 1) := by decide +kernel
theorem dX0_pass_36 : decode cX0_pass 36 = .ok (.iadd, 1) := by decide +kernel
theorem dX0_pass_37 : decode cX0_pass 37 = .ok (.iastore, 1) := by decide +kernel
theorem dX0_pass_38 : decode cX0_pass 38 = .ok (.return_, 1) := by decide +kernel
theorem dX0_wearTop_0 : decode cX0_wearTop 0 = .ok (.aload_n 0, 1) := by decide +kernel
theorem dX0_wearTop_1 : decode cX0_wearTop 1 = .ok (.getfield 15, 3) := by decide +kernel
theorem dX0_wearTop_4 : decode cX0_wearTop 4 = .ok (.bipush 108, 2) := by decide +kernel
theorem dX0_wearTop_6 : decode cX0_wearTop 6 = .ok (.iload_n 1, 1) := by decide +kernel
theorem dX0_wearTop_7 : decode cX0_wearTop 7 = .ok (.iadd, 1) := by decide +kernel
theorem dX0_wearTop_8 : decode cX0_wearTop 8 = .ok (.iaload, 1) := by decide +kernel
theorem dX0_wearTop_9 : decode cX0_wearTop 9 = .ok (.iconst 1, 1) := by decide +kernel
theorem dX0_wearTop_10 : decode cX0_wearTop 10 = .ok (.isub, 1) := by decide +kernel
theorem dX0_wearTop_11 : decode cX0_wearTop 11 = .ok (.istore_n 2, 1) := by decide +kernel
theorem dX0_wearTop_12 : decode cX0_wearTop 12 = .ok (.aload_n 0, 1) := by decide +kernel
theorem dX0_wearTop_13 : decode cX0_wearTop 13 = .ok (.iload_n 1, 1) := by decide +kernel
theorem dX0_wearTop_14 : decode cX0_wearTop 14 = .ok (.iload_n 2, 1) := by decide +kernel
theorem dX0_wearTop_15 : decode cX0_wearTop 15 = .ok (.invokevirtual 61, 3) := by decide +kernel
theorem dX0_wearTop_18 : decode cX0_wearTop 18 = .ok (.aload_n 0, 1) := by decide +kernel
theorem dX0_wearTop_19 : decode cX0_wearTop 19 = .ok (.iload_n 1, 1) := by decide +kernel
theorem dX0_wearTop_20 : decode cX0_wearTop 20 = .ok (.iload_n 2, 1) := by decide +kernel
theorem dX0_wearTop_21 : decode cX0_wearTop 21 = .ok (.iconst 0, 1) := by decide +kernel
theorem dX0_wearTop_22 : decode cX0_wearTop 22 = .ok (.invokevirtual 31, 3) := by decide +kernel
theorem dX0_wearTop_25 : decode cX0_wearTop 25 = .ok (.aload_n 0, 1) := by decide +kernel
theorem dX0_wearTop_26 : decode cX0_wearTop 26 = .ok (.getfield 9, 3) := by decide +kernel
theorem dX0_wearTop_29 : decode cX0_wearTop 29 = .ok (.iload_n 1, 1) := by decide +kernel
theorem dX0_wearTop_30 : decode cX0_wearTop 30 = .ok (.iaload, 1) := by decide +kernel
theorem dX0_wearTop_31 : decode cX0_wearTop 31 = .ok (.aload_n 0, 1) := by decide +kernel
theorem dX0_wearTop_32 : decode cX0_wearTop 32 = .ok (.getfield 15, 3) := by decide +kernel
theorem dX0_wearTop_35 : decode cX0_wearTop 35 = .ok (.bipush 117, 2) := by decide +kernel
theorem dX0_wearTop_37 : decode cX0_wearTop 37 = .ok (.iaload, 1) := by decide +kernel
theorem dX0_wearTop_38 : decode cX0_wearTop 38 = .ok (.invokestatic 65, 3) := by decide +kernel
theorem dX0_wearTop_41 : decode cX0_wearTop 41 = .ok (.isub, 1) := by decide +kernel
theorem dX0_wearTop_42 : decode cX0_wearTop 42 = .ok (.istore_n 3, 1) := by decide +kernel
theorem dX0_wearTop_43 : decode cX0_wearTop 43 = .ok (.iload_n 3, 1) := by decide +kernel
theorem dX0_wearTop_44 : decode cX0_wearTop 44 = .ok (.ifCond .le 21, 3) := by decide +kernel
theorem dX0_wearTop_47 : decode cX0_wearTop 47 = .ok (.aload_n 0, 1) := by decide +kernel
theorem dX0_wearTop_48 : decode cX0_wearTop 48 = .ok (.getfield 15, 3) := by decide +kernel
theorem dX0_wearTop_51 : decode cX0_wearTop 51 = .ok (.iload_n 1, 1) := by decide +kernel
theorem dX0_wearTop_52 : decode cX0_wearTop 52 = .ok (.iconst 3, 1) := by decide +kernel
theorem dX0_wearTop_53 : decode cX0_wearTop 53 = .ok (.imul, 1) := by decide +kernel
theorem dX0_wearTop_54 : decode cX0_wearTop 54 = .ok (.iload_n 2, 1) := by decide +kernel
theorem dX0_wearTop_55 : decode cX0_wearTop 55 = .ok (.iadd, 1) := by decide +kernel
theorem dX0_wearTop_56 : decode cX0_wearTop 56 = .ok (.iconst 4, 1) := by decide +kernel
theorem dX0_wearTop_57 : decode cX0_wearTop 57 = .ok (.imul, 1) := by decide +kernel
theorem dX0_wearTop_58 : decode cX0_wearTop 58 = .ok (.iconst 2, 1) := by decide +kernel
theorem dX0_wearTop_59 : decode cX0_wearTop 59 = .ok (.iadd, 1) := by decide +kernel
theorem dX0_wearTop_60 : decode cX0_wearTop 60 = .ok (.iload_n 3, 1) := by decide +kernel
theorem dX0_wearTop_61 : decode cX0_wearTop 61 = .ok (.iastore, 1) := by decide +kernel
theorem dX0_wearTop_62 : decode cX0_wearTop 62 = .ok (.goto 16, 3) := by decide +kernel
theorem dX0_wearTop_65 : decode cX0_wearTop 65 = .ok (.aload_n 0, 1) := by decide +kernel
theorem dX0_wearTop_66 : decode cX0_wearTop 66 = .ok (.getfield 15, 3) := by decide +kernel
theorem dX0_wearTop_69 : decode cX0_wearTop 69 = .ok (.bipush 108, 2) := by decide +kernel
theorem dX0_wearTop_71 : decode cX0_wearTop 71 = .ok (.iload_n 1, 1) := by decide +kernel
theorem dX0_wearTop_72 : decode cX0_wearTop 72 = .ok (.iadd, 1) := by decide +kernel
theorem dX0_wearTop_73 : decode cX0_wearTop 73 = .ok (.dup2, 1) := by decide +kernel
theorem dX0_wearTop_74 : decode cX0_wearTop 74 = .ok (.iaload, 1) := by decide +kernel
theorem dX0_wearTop_75 : decode cX0_wearTop 75 = .ok (.iconst 1, 1) := by decide +kernel
theorem dX0_wearTop_76 : decode cX0_wearTop 76 = .ok (.isub, 1) := by decide +kernel
theorem dX0_wearTop_77 : decode cX0_wearTop 77 = .ok (.iastore, 1) := by decide +kernel
theorem dX0_wearTop_78 : decode cX0_wearTop 78 = .ok (.return_, 1) := by decide +kernel
theorem dX0_counts_0 : decode cX0_counts 0 = .ok (.iconst 0, 1) := by decide +kernel
theorem dX0_counts_1 : decode cX0_counts 1 = .ok (.istore_n 3, 1) := by decide +kernel
theorem dX0_counts_2 : decode cX0_counts 2 = .ok (.iconst 0, 1) := by decide +kernel
theorem dX0_counts_3 : decode cX0_counts 3 = .ok (.istore 4, 2) := by decide +kernel
theorem dX0_counts_5 : decode cX0_counts 5 = .ok (.iload 4, 2) := by decide +kernel
theorem dX0_counts_7 : decode cX0_counts 7 = .ok (.iload_n 2, 1) := by decide +kernel
theorem dX0_counts_8 : decode cX0_counts 8 = .ok (.if_icmp .gt 24, 3) := by decide +kernel
theorem dX0_counts_11 : decode cX0_counts 11 = .ok (.iload 4, 2) := by decide +kernel
theorem dX0_counts_13 : decode cX0_counts 13 = .ok (.iconst 3, 1) := by decide +kernel
theorem dX0_counts_14 : decode cX0_counts 14 = .ok (.if_icmp .ge 18, 3) := by decide +kernel
theorem dX0_counts_17 : decode cX0_counts 17 = .ok (.aload_n 0, 1) := by decide +kernel
theorem dX0_counts_18 : decode cX0_counts 18 = .ok (.iload_n 3, 1) := by decide +kernel
theorem dX0_counts_19 : decode cX0_counts 19 = .ok (.iload_n 1, 1) := by decide +kernel
theorem dX0_counts_20 : decode cX0_counts 20 = .ok (.iload 4, 2) := by decide +kernel
theorem dX0_counts_22 : decode cX0_counts 22 = .ok (.invokevirtual 68, 3) := by decide +kernel
theorem dX0_counts_25 : decode cX0_counts 25 = .ok (.istore_n 3, 1) := by decide +kernel
theorem dX0_counts_26 : decode cX0_counts 26 = .ok (.iinc 4 1, 3) := by decide +kernel
theorem dX0_counts_29 : decode cX0_counts 29 = .ok (.goto (-24), 3) := by decide +kernel
theorem dX0_counts_32 : decode cX0_counts 32 = .ok (.iload_n 3, 1) := by decide +kernel
theorem dX0_counts_33 : decode cX0_counts 33 = .ok (.ireturn, 1) := by decide +kernel
theorem dX0_countsOver_0 : decode cX0_countsOver 0 = .ok (.aload_n 0, 1) := by decide +kernel
theorem dX0_countsOver_1 : decode cX0_countsOver 1 = .ok (.iload_n 2, 1) := by decide +kernel
theorem dX0_countsOver_2 : decode cX0_countsOver 2 = .ok (.iload_n 3, 1) := by decide +kernel
theorem dX0_countsOver_3 : decode cX0_countsOver 3 = .ok (.iconst 2, 1) := by decide +kernel
theorem dX0_countsOver_4 : decode cX0_countsOver 4 = .ok (.invokevirtual 31, 3) := by decide +kernel
theorem dX0_countsOver_7 : decode cX0_countsOver 7 = .ok (.istore 4, 2) := by decide +kernel
theorem dX0_countsOver_9 : decode cX0_countsOver 9 = .ok (.aload_n 0, 1) := by decide +kernel
theorem dX0_countsOver_10 : decode cX0_countsOver 10 = .ok (.iload_n 2, 1) := by decide +kernel
theorem dX0_countsOver_11 : decode cX0_countsOver 11 = .ok (.iload_n 3, 1) := by decide +kernel
theorem dX0_countsOver_12 : decode cX0_countsOver 12 = .ok (.iconst 0, 1) := by decide +kernel
theorem dX0_countsOver_13 : decode cX0_countsOver 13 = .ok (.invokevirtual 31, 3) := by decide +kernel
theorem dX0_countsOver_16 : decode cX0_countsOver 16 = .ok (.tableswitch 87 1 5 #[36, 41, 46, 41, 80], 36) := by decide +kernel
theorem dX0_countsOver_52 : decode cX0_countsOver 52 = .ok (.iconst 2, 1) := by decide +kernel
theorem dX0_countsOver_53 : decode cX0_countsOver 53 = .ok (.iload 4, 2) := by decide +kernel
theorem dX0_countsOver_55 : decode cX0_countsOver 55 = .ok (.imul, 1) := by decide +kernel
theorem dX0_countsOver_56 : decode cX0_countsOver 56 = .ok (.ireturn, 1) := by decide +kernel
theorem dX0_countsOver_57 : decode cX0_countsOver 57 = .ok (.iload 4, 2) := by decide +kernel
theorem dX0_countsOver_59 : decode cX0_countsOver 59 = .ok (.iconst 2, 1) := by decide +kernel
theorem dX0_countsOver_60 : decode cX0_countsOver 60 = .ok (.idiv, 1) := by decide +kernel
theorem dX0_countsOver_61 : decode cX0_countsOver 61 = .ok (.ireturn, 1) := by decide +kernel
theorem dX0_countsOver_62 : decode cX0_countsOver 62 = .ok (.aload_n 0, 1) := by decide +kernel
theorem dX0_countsOver_63 : decode cX0_countsOver 63 = .ok (.getfield 15, 3) := by decide +kernel
theorem dX0_countsOver_66 : decode cX0_countsOver 66 = .ok (.bipush 117, 2) := by decide +kernel
theorem dX0_countsOver_68 : decode cX0_countsOver 68 = .ok (.iaload, 1) := by decide +kernel
theorem dX0_countsOver_69 : decode cX0_countsOver 69 = .ok (.aload_n 0, 1) := by decide +kernel
theorem dX0_countsOver_70 : decode cX0_countsOver 70 = .ok (.iload_n 2, 1) := by decide +kernel
theorem dX0_countsOver_71 : decode cX0_countsOver 71 = .ok (.iload_n 3, 1) := by decide +kernel
theorem dX0_countsOver_72 : decode cX0_countsOver 72 = .ok (.iconst 3, 1) := by decide +kernel
theorem dX0_countsOver_73 : decode cX0_countsOver 73 = .ok (.invokevirtual 31, 3) := by decide +kernel
theorem dX0_countsOver_76 : decode cX0_countsOver 76 = .ok (.isub, 1) := by decide +kernel
theorem dX0_countsOver_77 : decode cX0_countsOver 77 = .ok (.bipush 10, 2) := by decide +kernel
theorem dX0_countsOver_79 : decode cX0_countsOver 79 = .ok (.if_icmp .lt 12, 3) := by decide +kernel
theorem dX0_countsOver_82 : decode cX0_countsOver 82 = .ok (.iconst 2, 1) := by decide +kernel
theorem dX0_countsOver_83 : decode cX0_countsOver 83 = .ok (.iload 4, 2) := by decide +kernel
theorem dX0_countsOver_85 : decode cX0_countsOver 85 = .ok (.imul, 1) := by decide +kernel
theorem dX0_countsOver_86 : decode cX0_countsOver 86 = .ok (.iconst 3, 1) := by decide +kernel
theorem dX0_countsOver_87 : decode cX0_countsOver 87 = .ok (.iadd, 1) := by decide +kernel
theorem dX0_countsOver_88 : decode cX0_countsOver 88 = .ok (.goto 7, 3) := by decide +kernel
theorem dX0_countsOver_91 : decode cX0_countsOver 91 = .ok (.iconst 2, 1) := by decide +kernel
theorem dX0_countsOver_92 : decode cX0_countsOver 92 = .ok (.iload 4, 2) := by decide +kernel
theorem dX0_countsOver_94 : decode cX0_countsOver 94 = .ok (.imul, 1) := by decide +kernel
theorem dX0_countsOver_95 : decode cX0_countsOver 95 = .ok (.ireturn, 1) := by decide +kernel
theorem dX0_countsOver_96 : decode cX0_countsOver 96 = .ok (.iload 4, 2) := by decide +kernel
theorem dX0_countsOver_98 : decode cX0_countsOver 98 = .ok (.iload_n 1, 1) := by decide +kernel
theorem dX0_countsOver_99 : decode cX0_countsOver 99 = .ok (.iconst 2, 1) := by decide +kernel
theorem dX0_countsOver_100 : decode cX0_countsOver 100 = .ok (.idiv, 1) := by decide +kernel
theorem dX0_countsOver_101 : decode cX0_countsOver 101 = .ok (.iadd, 1) := by decide +kernel
theorem dX0_countsOver_102 : decode cX0_countsOver 102 = .ok (.ireturn, 1) := by decide +kernel
theorem dX0_countsOver_103 : decode cX0_countsOver 103 = .ok (.iload 4, 2) := by decide +kernel
theorem dX0_countsOver_105 : decode cX0_countsOver 105 = .ok (.ireturn, 1) := by decide +kernel
theorem dX0_weigh_0 : decode cX0_weigh 0 = .ok (.iconst 0, 1) := by decide +kernel
theorem dX0_weigh_1 : decode cX0_weigh 1 = .ok (.istore_n 2, 1) := by decide +kernel
theorem dX0_weigh_2 : decode cX0_weigh 2 = .ok (.iload_n 2, 1) := by decide +kernel
theorem dX0_weigh_3 : decode cX0_weigh 3 = .ok (.iconst 3, 1) := by decide +kernel
theorem dX0_weigh_4 : decode cX0_weigh 4 = .ok (.if_icmp .ge 16, 3) := by decide +kernel
theorem dX0_weigh_7 : decode cX0_weigh 7 = .ok (.aload_n 0, 1) := by decide +kernel
theorem dX0_weigh_8 : decode cX0_weigh 8 = .ok (.getfield 18, 3) := by decide +kernel
theorem dX0_weigh_11 : decode cX0_weigh 11 = .ok (.iload_n 2, 1) := by decide +kernel
theorem dX0_weigh_12 : decode cX0_weigh 12 = .ok (.iconst 0, 1) := by decide +kernel
theorem dX0_weigh_13 : decode cX0_weigh 13 = .ok (.iastore, 1) := by decide +kernel
theorem dX0_weigh_14 : decode cX0_weigh 14 = .ok (.iinc 2 1, 3) := by decide +kernel
theorem dX0_weigh_17 : decode cX0_weigh 17 = .ok (.goto (-15), 3) := by decide +kernel
theorem dX0_weigh_20 : decode cX0_weigh 20 = .ok (.iload_n 1, 1) := by decide +kernel
theorem dX0_weigh_21 : decode cX0_weigh 21 = .ok (.tableswitch 88 0 2 #[27, 34, 61], 27) := by decide +kernel
theorem dX0_weigh_48 : decode cX0_weigh 48 = .ok (.aload_n 0, 1) := by decide +kernel
theorem dX0_weigh_49 : decode cX0_weigh 49 = .ok (.invokevirtual 71, 3) := by decide +kernel
theorem dX0_weigh_52 : decode cX0_weigh 52 = .ok (.goto 61, 3) := by decide +kernel
theorem dX0_weigh_55 : decode cX0_weigh 55 = .ok (.iconst 0, 1) := by decide +kernel
theorem dX0_weigh_56 : decode cX0_weigh 56 = .ok (.istore_n 2, 1) := by decide +kernel
theorem dX0_weigh_57 : decode cX0_weigh 57 = .ok (.iload_n 2, 1) := by decide +kernel
theorem dX0_weigh_58 : decode cX0_weigh 58 = .ok (.bipush 9, 2) := by decide +kernel
theorem dX0_weigh_60 : decode cX0_weigh 60 = .ok (.if_icmp .ge 19, 3) := by decide +kernel
theorem dX0_weigh_63 : decode cX0_weigh 63 = .ok (.aload_n 0, 1) := by decide +kernel
theorem dX0_weigh_64 : decode cX0_weigh 64 = .ok (.aload_n 0, 1) := by decide +kernel
theorem dX0_weigh_65 : decode cX0_weigh 65 = .ok (.iload_n 2, 1) := by decide +kernel
theorem dX0_weigh_66 : decode cX0_weigh 66 = .ok (.invokevirtual 74, 3) := by decide +kernel
theorem dX0_weigh_69 : decode cX0_weigh 69 = .ok (.iconst 1, 1) := by decide +kernel
theorem dX0_weigh_70 : decode cX0_weigh 70 = .ok (.invokevirtual 77, 3) := by decide +kernel
theorem dX0_weigh_73 : decode cX0_weigh 73 = .ok (.iinc 2 1, 3) := by decide +kernel
theorem dX0_weigh_76 : decode cX0_weigh 76 = .ok (.goto (-19), 3) := by decide +kernel
theorem dX0_weigh_79 : decode cX0_weigh 79 = .ok (.goto 34, 3) := by decide +kernel
theorem dX0_weigh_82 : decode cX0_weigh 82 = .ok (.iconst 0, 1) := by decide +kernel
theorem dX0_weigh_83 : decode cX0_weigh 83 = .ok (.istore_n 2, 1) := by decide +kernel
theorem dX0_weigh_84 : decode cX0_weigh 84 = .ok (.iload_n 2, 1) := by decide +kernel
theorem dX0_weigh_85 : decode cX0_weigh 85 = .ok (.bipush 8, 2) := by decide +kernel
theorem dX0_weigh_87 : decode cX0_weigh 87 = .ok (.if_icmp .ge 19, 3) := by decide +kernel
theorem dX0_weigh_90 : decode cX0_weigh 90 = .ok (.aload_n 0, 1) := by decide +kernel
theorem dX0_weigh_91 : decode cX0_weigh 91 = .ok (.aload_n 0, 1) := by decide +kernel
theorem dX0_weigh_92 : decode cX0_weigh 92 = .ok (.iload_n 2, 1) := by decide +kernel
theorem dX0_weigh_93 : decode cX0_weigh 93 = .ok (.invokevirtual 81, 3) := by decide +kernel
theorem dX0_weigh_96 : decode cX0_weigh 96 = .ok (.iconst 1, 1) := by decide +kernel
theorem dX0_weigh_97 : decode cX0_weigh 97 = .ok (.invokevirtual 77, 3) := by decide +kernel
theorem dX0_weigh_100 : decode cX0_weigh 100 = .ok (.iinc 2 1, 3) := by decide +kernel
theorem dX0_weigh_103 : decode cX0_weigh 103 = .ok (.goto (-19), 3) := by decide +kernel
theorem dX0_weigh_106 : decode cX0_weigh 106 = .ok (.goto 7, 3) := by decide +kernel
theorem dX0_weigh_109 : decode cX0_weigh 109 = .ok (.aload_n 0, 1) := by decide +kernel
theorem dX0_weigh_110 : decode cX0_weigh 110 = .ok (.invokevirtual 84, 3) := by decide +kernel
theorem dX0_weigh_113 : decode cX0_weigh 113 = .ok (.return_, 1) := by decide +kernel
theorem dX0_addClaim_0 : decode cX0_addClaim 0 = .ok (.iload_n 1, 1) := by decide +kernel
theorem dX0_addClaim_1 : decode cX0_addClaim 1 = .ok (.ifCond .lt 18, 3) := by decide +kernel
theorem dX0_addClaim_4 : decode cX0_addClaim 4 = .ok (.iload_n 1, 1) := by decide +kernel
theorem dX0_addClaim_5 : decode cX0_addClaim 5 = .ok (.iconst 3, 1) := by decide +kernel
theorem dX0_addClaim_6 : decode cX0_addClaim 6 = .ok (.if_icmp .ge 13, 3) := by decide +kernel
theorem dX0_addClaim_9 : decode cX0_addClaim 9 = .ok (.aload_n 0, 1) := by decide +kernel
theorem dX0_addClaim_10 : decode cX0_addClaim 10 = .ok (.getfield 18, 3) := by decide +kernel
theorem dX0_addClaim_13 : decode cX0_addClaim 13 = .ok (.iload_n 1, 1) := by decide +kernel
theorem dX0_addClaim_14 : decode cX0_addClaim 14 = .ok (.dup2, 1) := by decide +kernel
theorem dX0_addClaim_15 : decode cX0_addClaim 15 = .ok (.iaload, 1) := by decide +kernel
theorem dX0_addClaim_16 : decode cX0_addClaim 16 = .ok (.iload_n 2, 1) := by decide +kernel
theorem dX0_addClaim_17 : decode cX0_addClaim 17 = .ok (.iadd, 1) := by decide +kernel
theorem dX0_addClaim_18 : decode cX0_addClaim 18 = .ok (.iastore, 1) := by decide +kernel
theorem dX0_addClaim_19 : decode cX0_addClaim 19 = .ok (.return_, 1) := by decide +kernel
theorem dX0_weighThread_0 : decode cX0_weighThread 0 = .ok (.iconst 0, 1) := by decide +kernel
theorem dX0_weighThread_1 : decode cX0_weighThread 1 = .ok (.istore_n 1, 1) := by decide +kernel
theorem dX0_weighThread_2 : decode cX0_weighThread 2 = .ok (.iload_n 1, 1) := by decide +kernel
theorem dX0_weighThread_3 : decode cX0_weighThread 3 = .ok (.bipush 9, 2) := by decide +kernel
theorem dX0_weighThread_5 : decode cX0_weighThread 5 = .ok (.if_icmp .ge 48, 3) := by decide +kernel
theorem dX0_weighThread_8 : decode cX0_weighThread 8 = .ok (.iconst 0, 1) := by decide +kernel
theorem dX0_weighThread_9 : decode cX0_weighThread 9 = .ok (.istore_n 2, 1) := by decide +kernel
theorem dX0_weighThread_10 : decode cX0_weighThread 10 = .ok (.iconst 0, 1) := by decide +kernel
theorem dX0_weighThread_11 : decode cX0_weighThread 11 = .ok (.istore_n 3, 1) := by decide +kernel
theorem dX0_weighThread_12 : decode cX0_weighThread 12 = .ok (.iload_n 3, 1) := by decide +kernel
theorem dX0_weighThread_13 : decode cX0_weighThread 13 = .ok (.aload_n 0, 1) := by decide +kernel
theorem dX0_weighThread_14 : decode cX0_weighThread 14 = .ok (.iload_n 1, 1) := by decide +kernel
theorem dX0_weighThread_15 : decode cX0_weighThread 15 = .ok (.invokevirtual 35, 3) := by decide +kernel
theorem dX0_weighThread_18 : decode cX0_weighThread 18 = .ok (.if_icmp .ge 29, 3) := by decide +kernel
theorem dX0_weighThread_21 : decode cX0_weighThread 21 = .ok (.aload_n 0, 1) := by decide +kernel
theorem dX0_weighThread_22 : decode cX0_weighThread 22 = .ok (.iload_n 2, 1) := by decide +kernel
theorem dX0_weighThread_23 : decode cX0_weighThread 23 = .ok (.iload_n 1, 1) := by decide +kernel
theorem dX0_weighThread_24 : decode cX0_weighThread 24 = .ok (.iload_n 3, 1) := by decide +kernel
theorem dX0_weighThread_25 : decode cX0_weighThread 25 = .ok (.invokevirtual 68, 3) := by decide +kernel
theorem dX0_weighThread_28 : decode cX0_weighThread 28 = .ok (.istore_n 2, 1) := by decide +kernel
theorem dX0_weighThread_29 : decode cX0_weighThread 29 = .ok (.aload_n 0, 1) := by decide +kernel
theorem dX0_weighThread_30 : decode cX0_weighThread 30 = .ok (.aload_n 0, 1) := by decide +kernel
theorem dX0_weighThread_31 : decode cX0_weighThread 31 = .ok (.iload_n 1, 1) := by decide +kernel
theorem dX0_weighThread_32 : decode cX0_weighThread 32 = .ok (.iload_n 3, 1) := by decide +kernel
theorem dX0_weighThread_33 : decode cX0_weighThread 33 = .ok (.iconst 1, 1) := by decide +kernel
theorem dX0_weighThread_34 : decode cX0_weighThread 34 = .ok (.invokevirtual 31, 3) := by decide +kernel
theorem dX0_weighThread_37 : decode cX0_weighThread 37 = .ok (.iload_n 2, 1) := by decide +kernel
theorem dX0_weighThread_38 : decode cX0_weighThread 38 = .ok (.invokevirtual 77, 3) := by decide +kernel
theorem dX0_weighThread_41 : decode cX0_weighThread 41 = .ok (.iinc 3 1, 3) := by decide +kernel
theorem dX0_weighThread_44 : decode cX0_weighThread 44 = .ok (.goto (-32), 3) := by decide +kernel
theorem dX0_weighThread_47 : decode cX0_weighThread 47 = .ok (.iinc 1 1, 3) := by decide +kernel
theorem dX0_weighThread_50 : decode cX0_weighThread 50 = .ok (.goto (-48), 3) := by decide +kernel
theorem dX0_weighThread_53 : decode cX0_weighThread 53 = .ok (.return_, 1) := by decide +kernel
theorem dX0_weighAges_0 : decode cX0_weighAges 0 = .ok (.iconst 0, 1) := by decide +kernel
theorem dX0_weighAges_1 : decode cX0_weighAges 1 = .ok (.istore_n 1, 1) := by decide +kernel
theorem dX0_weighAges_2 : decode cX0_weighAges 2 = .ok (.iload_n 1, 1) := by decide +kernel
theorem dX0_weighAges_3 : decode cX0_weighAges 3 = .ok (.bipush 9, 2) := by decide +kernel
theorem dX0_weighAges_5 : decode cX0_weighAges 5 = .ok (.if_icmp .ge 78, 3) := by decide +kernel
theorem dX0_weighAges_8 : decode cX0_weighAges 8 = .ok (.iconst 0, 1) := by decide +kernel
theorem dX0_weighAges_9 : decode cX0_weighAges 9 = .ok (.istore_n 2, 1) := by decide +kernel
theorem dX0_weighAges_10 : decode cX0_weighAges 10 = .ok (.iload_n 2, 1) := by decide +kernel
theorem dX0_weighAges_11 : decode cX0_weighAges 11 = .ok (.aload_n 0, 1) := by decide +kernel
theorem dX0_weighAges_12 : decode cX0_weighAges 12 = .ok (.iload_n 1, 1) := by decide +kernel
theorem dX0_weighAges_13 : decode cX0_weighAges 13 = .ok (.invokevirtual 35, 3) := by decide +kernel
theorem dX0_weighAges_16 : decode cX0_weighAges 16 = .ok (.if_icmp .ge 61, 3) := by decide +kernel
theorem dX0_weighAges_19 : decode cX0_weighAges 19 = .ok (.aload_n 0, 1) := by decide +kernel
theorem dX0_weighAges_20 : decode cX0_weighAges 20 = .ok (.iload_n 1, 1) := by decide +kernel
theorem dX0_weighAges_21 : decode cX0_weighAges 21 = .ok (.iload_n 2, 1) := by decide +kernel
theorem dX0_weighAges_22 : decode cX0_weighAges 22 = .ok (.iconst 1, 1) := by decide +kernel
theorem dX0_weighAges_23 : decode cX0_weighAges 23 = .ok (.invokevirtual 31, 3) := by decide +kernel
theorem dX0_weighAges_26 : decode cX0_weighAges 26 = .ok (.istore_n 3, 1) := by decide +kernel
theorem dX0_weighAges_27 : decode cX0_weighAges 27 = .ok (.aload_n 0, 1) := by decide +kernel
theorem dX0_weighAges_28 : decode cX0_weighAges 28 = .ok (.getfield 15, 3) := by decide +kernel
theorem dX0_weighAges_31 : decode cX0_weighAges 31 = .ok (.bipush 117, 2) := by decide +kernel
theorem dX0_weighAges_33 : decode cX0_weighAges 33 = .ok (.iaload, 1) := by decide +kernel
theorem dX0_weighAges_34 : decode cX0_weighAges 34 = .ok (.aload_n 0, 1) := by decide +kernel
theorem dX0_weighAges_35 : decode cX0_weighAges 35 = .ok (.iload_n 1, 1) := by decide +kernel
theorem dX0_weighAges_36 : decode cX0_weighAges 36 = .ok (.iload_n 2, 1) := by decide +kernel
theorem dX0_weighAges_37 : decode cX0_weighAges 37 = .ok (.iconst 3, 1) := by decide +kernel
theorem dX0_weighAges_38 : decode cX0_weighAges 38 = .ok (.invokevirtual 31, 3) := by decide +kernel
theorem dX0_weighAges_41 : decode cX0_weighAges 41 = .ok (.isub, 1) := by decide +kernel
theorem dX0_weighAges_42 : decode cX0_weighAges 42 = .ok (.iconst 1, 1) := by decide +kernel
theorem dX0_weighAges_43 : decode cX0_weighAges 43 = .ok (.iadd, 1) := by decide +kernel
theorem dX0_weighAges_44 : decode cX0_weighAges 44 = .ok (.istore 4, 2) := by decide +kernel
theorem dX0_weighAges_46 : decode cX0_weighAges 46 = .ok (.iload_n 3, 1) := by decide +kernel
theorem dX0_weighAges_47 : decode cX0_weighAges 47 = .ok (.iconst 3, 1) := by decide +kernel
theorem dX0_weighAges_48 : decode cX0_weighAges 48 = .ok (.invokestatic 27, 3) := by decide +kernel
theorem dX0_weighAges_51 : decode cX0_weighAges 51 = .ok (.ifCond .eq 20, 3) := by decide +kernel
theorem dX0_weighAges_54 : decode cX0_weighAges 54 = .ok (.aload_n 0, 1) := by decide +kernel
theorem dX0_weighAges_55 : decode cX0_weighAges 55 = .ok (.getfield 18, 3) := by decide +kernel
theorem dX0_weighAges_58 : decode cX0_weighAges 58 = .ok (.iload_n 3, 1) := by decide +kernel
theorem dX0_weighAges_59 : decode cX0_weighAges 59 = .ok (.aload_n 0, 1) := by decide +kernel
theorem dX0_weighAges_60 : decode cX0_weighAges 60 = .ok (.getfield 18, 3) := by decide +kernel
theorem dX0_weighAges_63 : decode cX0_weighAges 63 = .ok (.iload_n 3, 1) := by decide +kernel
theorem dX0_weighAges_64 : decode cX0_weighAges 64 = .ok (.iaload, 1) := by decide +kernel
theorem dX0_weighAges_65 : decode cX0_weighAges 65 = .ok (.iload 4, 2) := by decide +kernel
theorem dX0_weighAges_67 : decode cX0_weighAges 67 = .ok (.invokestatic 87, 3) := by decide +kernel
theorem dX0_weighAges_70 : decode cX0_weighAges 70 = .ok (.iastore, 1) := by decide +kernel
theorem dX0_weighAges_71 : decode cX0_weighAges 71 = .ok (.iinc 2 1, 3) := by decide +kernel
theorem dX0_weighAges_74 : decode cX0_weighAges 74 = .ok (.goto (-64), 3) := by decide +kernel
theorem dX0_weighAges_77 : decode cX0_weighAges 77 = .ok (.iinc 1 1, 3) := by decide +kernel
theorem dX0_weighAges_80 : decode cX0_weighAges 80 = .ok (.goto (-78), 3) := by decide +kernel
theorem dX0_weighAges_83 : decode cX0_weighAges 83 = .ok (.return_, 1) := by decide +kernel
theorem dX0_lineFamily_0 : decode cX0_lineFamily 0 = .ok (.iload_n 1, 1) := by decide +kernel
theorem dX0_lineFamily_1 : decode cX0_lineFamily 1 = .ok (.bipush 8, 2) := by decide +kernel
theorem dX0_lineFamily_3 : decode cX0_lineFamily 3 = .ok (.invokestatic 27, 3) := by decide +kernel
theorem dX0_lineFamily_6 : decode cX0_lineFamily 6 = .ok (.ifCond .ne 5, 3) := by decide +kernel
theorem dX0_lineFamily_9 : decode cX0_lineFamily 9 = .ok (.iconst (-1), 1) := by decide +kernel
theorem dX0_lineFamily_10 : decode cX0_lineFamily 10 = .ok (.ireturn, 1) := by decide +kernel
theorem dX0_lineFamily_11 : decode cX0_lineFamily 11 = .ok (.aload_n 0, 1) := by decide +kernel
theorem dX0_lineFamily_12 : decode cX0_lineFamily 12 = .ok (.getstatic 92, 3) := by decide +kernel
theorem dX0_lineFamily_15 : decode cX0_lineFamily 15 = .ok (.iconst 3, 1) := by decide +kernel
theorem dX0_lineFamily_16 : decode cX0_lineFamily 16 = .ok (.iload_n 1, 1) := by decide +kernel
theorem dX0_lineFamily_17 : decode cX0_lineFamily 17 = .ok (.imul, 1) := by decide +kernel
theorem dX0_lineFamily_18 : decode cX0_lineFamily 18 = .ok (.iaload, 1) := by decide +kernel
theorem dX0_lineFamily_19 : decode cX0_lineFamily 19 = .ok (.invokevirtual 74, 3) := by decide +kernel
theorem dX0_lineFamily_22 : decode cX0_lineFamily 22 = .ok (.istore_n 2, 1) := by decide +kernel
theorem dX0_lineFamily_23 : decode cX0_lineFamily 23 = .ok (.aload_n 0, 1) := by decide +kernel
theorem dX0_lineFamily_24 : decode cX0_lineFamily 24 = .ok (.getstatic 92, 3) := by decide +kernel
theorem dX0_lineFamily_27 : decode cX0_lineFamily 27 = .ok (.iconst 3, 1) := by decide +kernel
theorem dX0_lineFamily_28 : decode cX0_lineFamily 28 = .ok (.iload_n 1, 1) := by decide +kernel
theorem dX0_lineFamily_29 : decode cX0_lineFamily 29 = .ok (.imul, 1) := by decide +kernel
theorem dX0_lineFamily_30 : decode cX0_lineFamily 30 = .ok (.iconst 1, 1) := by decide +kernel
theorem dX0_lineFamily_31 : decode cX0_lineFamily 31 = .ok (.iadd, 1) := by decide +kernel
theorem dX0_lineFamily_32 : decode cX0_lineFamily 32 = .ok (.iaload, 1) := by decide +kernel
theorem dX0_lineFamily_33 : decode cX0_lineFamily 33 = .ok (.invokevirtual 74, 3) := by decide +kernel
theorem dX0_lineFamily_36 : decode cX0_lineFamily 36 = .ok (.istore_n 3, 1) := by decide +kernel
theorem dX0_lineFamily_37 : decode cX0_lineFamily 37 = .ok (.aload_n 0, 1) := by decide +kernel
theorem dX0_lineFamily_38 : decode cX0_lineFamily 38 = .ok (.getstatic 92, 3) := by decide +kernel
theorem dX0_lineFamily_41 : decode cX0_lineFamily 41 = .ok (.iconst 3, 1) := by decide +kernel
theorem dX0_lineFamily_42 : decode cX0_lineFamily 42 = .ok (.iload_n 1, 1) := by decide +kernel
theorem dX0_lineFamily_43 : decode cX0_lineFamily 43 = .ok (.imul, 1) := by decide +kernel
theorem dX0_lineFamily_44 : decode cX0_lineFamily 44 = .ok (.iconst 2, 1) := by decide +kernel
theorem dX0_lineFamily_45 : decode cX0_lineFamily 45 = .ok (.iadd, 1) := by decide +kernel
theorem dX0_lineFamily_46 : decode cX0_lineFamily 46 = .ok (.iaload, 1) := by decide +kernel
theorem dX0_lineFamily_47 : decode cX0_lineFamily 47 = .ok (.invokevirtual 74, 3) := by decide +kernel
theorem dX0_lineFamily_50 : decode cX0_lineFamily 50 = .ok (.istore 4, 2) := by decide +kernel
theorem dX0_lineFamily_52 : decode cX0_lineFamily 52 = .ok (.iload_n 2, 1) := by decide +kernel
theorem dX0_lineFamily_53 : decode cX0_lineFamily 53 = .ok (.iload_n 3, 1) := by decide +kernel
theorem dX0_lineFamily_54 : decode cX0_lineFamily 54 = .ok (.if_icmp .ne 13, 3) := by decide +kernel
theorem dX0_lineFamily_57 : decode cX0_lineFamily 57 = .ok (.iload_n 2, 1) := by decide +kernel
theorem dX0_lineFamily_58 : decode cX0_lineFamily 58 = .ok (.iload 4, 2) := by decide +kernel
theorem dX0_lineFamily_60 : decode cX0_lineFamily 60 = .ok (.if_icmp .ne 7, 3) := by decide +kernel
theorem dX0_lineFamily_63 : decode cX0_lineFamily 63 = .ok (.iload_n 2, 1) := by decide +kernel
theorem dX0_lineFamily_64 : decode cX0_lineFamily 64 = .ok (.goto 4, 3) := by decide +kernel
theorem dX0_lineFamily_67 : decode cX0_lineFamily 67 = .ok (.iconst (-1), 1) := by decide +kernel
theorem dX0_lineFamily_68 : decode cX0_lineFamily 68 = .ok (.ireturn, 1) := by decide +kernel
theorem dX0_topFamily_0 : decode cX0_topFamily 0 = .ok (.aload_n 0, 1) := by decide +kernel
theorem dX0_topFamily_1 : decode cX0_topFamily 1 = .ok (.iload_n 1, 1) := by decide +kernel
theorem dX0_topFamily_2 : decode cX0_topFamily 2 = .ok (.invokevirtual 35, 3) := by decide +kernel
theorem dX0_topFamily_5 : decode cX0_topFamily 5 = .ok (.istore_n 2, 1) := by decide +kernel
theorem dX0_topFamily_6 : decode cX0_topFamily 6 = .ok (.iload_n 2, 1) := by decide +kernel
theorem dX0_topFamily_7 : decode cX0_topFamily 7 = .ok (.ifCond .gt 7, 3) := by decide +kernel
theorem dX0_topFamily_10 : decode cX0_topFamily 10 = .ok (.iconst (-1), 1) := by decide +kernel
theorem dX0_topFamily_11 : decode cX0_topFamily 11 = .ok (.goto 12, 3) := by decide +kernel
theorem dX0_topFamily_14 : decode cX0_topFamily 14 = .ok (.aload_n 0, 1) := by decide +kernel
theorem dX0_topFamily_15 : decode cX0_topFamily 15 = .ok (.iload_n 1, 1) := by decide +kernel
theorem dX0_topFamily_16 : decode cX0_topFamily 16 = .ok (.iload_n 2, 1) := by decide +kernel
theorem dX0_topFamily_17 : decode cX0_topFamily 17 = .ok (.iconst 1, 1) := by decide +kernel
theorem dX0_topFamily_18 : decode cX0_topFamily 18 = .ok (.isub, 1) := by decide +kernel
theorem dX0_topFamily_19 : decode cX0_topFamily 19 = .ok (.iconst 1, 1) := by decide +kernel
theorem dX0_topFamily_20 : decode cX0_topFamily 20 = .ok (.invokevirtual 31, 3) := by decide +kernel
theorem dX0_topFamily_23 : decode cX0_topFamily 23 = .ok (.ireturn, 1) := by decide +kernel
theorem dX0_claimOf_0 : decode cX0_claimOf 0 = .ok (.aload_n 0, 1) := by decide +kernel
theorem dX0_claimOf_1 : decode cX0_claimOf 1 = .ok (.iload_n 2, 1) := by decide +kernel
theorem dX0_claimOf_2 : decode cX0_claimOf 2 = .ok (.invokevirtual 95, 3) := by decide +kernel
theorem dX0_claimOf_5 : decode cX0_claimOf 5 = .ok (.iload_n 1, 1) := by decide +kernel
theorem dX0_claimOf_6 : decode cX0_claimOf 6 = .ok (.iconst 3, 1) := by decide +kernel
theorem dX0_claimOf_7 : decode cX0_claimOf 7 = .ok (.invokestatic 27, 3) := by decide +kernel
theorem dX0_claimOf_10 : decode cX0_claimOf 10 = .ok (.ifCond .eq 12, 3) := by decide +kernel
theorem dX0_claimOf_13 : decode cX0_claimOf 13 = .ok (.aload_n 0, 1) := by decide +kernel
theorem dX0_claimOf_14 : decode cX0_claimOf 14 = .ok (.getfield 18, 3) := by decide +kernel
theorem dX0_claimOf_17 : decode cX0_claimOf 17 = .ok (.iload_n 1, 1) := by decide +kernel
theorem dX0_claimOf_18 : decode cX0_claimOf 18 = .ok (.iaload, 1) := by decide +kernel
theorem dX0_claimOf_19 : decode cX0_claimOf 19 = .ok (.goto 4, 3) := by decide +kernel
theorem dX0_claimOf_22 : decode cX0_claimOf 22 = .ok (.iconst 0, 1) := by decide +kernel
theorem dX0_claimOf_23 : decode cX0_claimOf 23 = .ok (.ireturn, 1) := by decide +kernel
theorem dX0_allClaims_0 : decode cX0_allClaims 0 = .ok (.aload_n 0, 1) := by decide +kernel
theorem dX0_allClaims_1 : decode cX0_allClaims 1 = .ok (.iload_n 1, 1) := by decide +kernel
theorem dX0_allClaims_2 : decode cX0_allClaims 2 = .ok (.invokevirtual 95, 3) := by decide +kernel
theorem dX0_allClaims_5 : decode cX0_allClaims 5 = .ok (.iconst 0, 1) := by decide +kernel
theorem dX0_allClaims_6 : decode cX0_allClaims 6 = .ok (.istore_n 2, 1) := by decide +kernel
theorem dX0_allClaims_7 : decode cX0_allClaims 7 = .ok (.iconst 0, 1) := by decide +kernel
theorem dX0_allClaims_8 : decode cX0_allClaims 8 = .ok (.istore_n 3, 1) := by decide +kernel
theorem dX0_allClaims_9 : decode cX0_allClaims 9 = .ok (.iload_n 3, 1) := by decide +kernel
theorem dX0_allClaims_10 : decode cX0_allClaims 10 = .ok (.iconst 3, 1) := by decide +kernel
theorem dX0_allClaims_11 : decode cX0_allClaims 11 = .ok (.if_icmp .ge 18, 3) := by decide +kernel
theorem dX0_allClaims_14 : decode cX0_allClaims 14 = .ok (.iload_n 2, 1) := by decide +kernel
theorem dX0_allClaims_15 : decode cX0_allClaims 15 = .ok (.aload_n 0, 1) := by decide +kernel
theorem dX0_allClaims_16 : decode cX0_allClaims 16 = .ok (.getfield 18, 3) := by decide +kernel
theorem dX0_allClaims_19 : decode cX0_allClaims 19 = .ok (.iload_n 3, 1) := by decide +kernel
theorem dX0_allClaims_20 : decode cX0_allClaims 20 = .ok (.iaload, 1) := by decide +kernel
theorem dX0_allClaims_21 : decode cX0_allClaims 21 = .ok (.iadd, 1) := by decide +kernel
theorem dX0_allClaims_22 : decode cX0_allClaims 22 = .ok (.istore_n 2, 1) := by decide +kernel
theorem dX0_allClaims_23 : decode cX0_allClaims 23 = .ok (.iinc 3 1, 3) := by decide +kernel
theorem dX0_allClaims_26 : decode cX0_allClaims 26 = .ok (.goto (-17), 3) := by decide +kernel
theorem dX0_allClaims_29 : decode cX0_allClaims 29 = .ok (.iload_n 2, 1) := by decide +kernel
theorem dX0_allClaims_30 : decode cX0_allClaims 30 = .ok (.ireturn, 1) := by decide +kernel
theorem dX0_ownerBy_0 : decode cX0_ownerBy 0 = .ok (.aload_n 0, 1) := by decide +kernel
theorem dX0_ownerBy_1 : decode cX0_ownerBy 1 = .ok (.iload_n 1, 1) := by decide +kernel
theorem dX0_ownerBy_2 : decode cX0_ownerBy 2 = .ok (.invokevirtual 95, 3) := by decide +kernel
theorem dX0_ownerBy_5 : decode cX0_ownerBy 5 = .ok (.iconst (-1), 1) := by decide +kernel
theorem dX0_ownerBy_6 : decode cX0_ownerBy 6 = .ok (.istore_n 2, 1) := by decide +kernel
theorem dX0_ownerBy_7 : decode cX0_ownerBy 7 = .ok (.iconst 0, 1) := by decide +kernel
theorem dX0_ownerBy_8 : decode cX0_ownerBy 8 = .ok (.istore_n 3, 1) := by decide +kernel
theorem dX0_ownerBy_9 : decode cX0_ownerBy 9 = .ok (.iconst 0, 1) := by decide +kernel
theorem dX0_ownerBy_10 : decode cX0_ownerBy 10 = .ok (.istore 4, 2) := by decide +kernel
theorem dX0_ownerBy_12 : decode cX0_ownerBy 12 = .ok (.iload 4, 2) := by decide +kernel
theorem dX0_ownerBy_14 : decode cX0_ownerBy 14 = .ok (.iconst 3, 1) := by decide +kernel
theorem dX0_ownerBy_15 : decode cX0_ownerBy 15 = .ok (.if_icmp .ge 44, 3) := by decide +kernel
theorem dX0_ownerBy_18 : decode cX0_ownerBy 18 = .ok (.aload_n 0, 1) := by decide +kernel
theorem dX0_ownerBy_19 : decode cX0_ownerBy 19 = .ok (.getfield 18, 3) := by decide +kernel
theorem dX0_ownerBy_22 : decode cX0_ownerBy 22 = .ok (.iload 4, 2) := by decide +kernel
theorem dX0_ownerBy_24 : decode cX0_ownerBy 24 = .ok (.iaload, 1) := by decide +kernel
theorem dX0_ownerBy_25 : decode cX0_ownerBy 25 = .ok (.iload_n 3, 1) := by decide +kernel
theorem dX0_ownerBy_26 : decode cX0_ownerBy 26 = .ok (.if_icmp .ne 5, 3) := by decide +kernel
theorem dX0_ownerBy_29 : decode cX0_ownerBy 29 = .ok (.iconst (-1), 1) := by decide +kernel
theorem dX0_ownerBy_30 : decode cX0_ownerBy 30 = .ok (.istore_n 2, 1) := by decide +kernel
theorem dX0_ownerBy_31 : decode cX0_ownerBy 31 = .ok (.aload_n 0, 1) := by decide +kernel
theorem dX0_ownerBy_32 : decode cX0_ownerBy 32 = .ok (.getfield 18, 3) := by decide +kernel
theorem dX0_ownerBy_35 : decode cX0_ownerBy 35 = .ok (.iload 4, 2) := by decide +kernel
theorem dX0_ownerBy_37 : decode cX0_ownerBy 37 = .ok (.iaload, 1) := by decide +kernel
theorem dX0_ownerBy_38 : decode cX0_ownerBy 38 = .ok (.iload_n 3, 1) := by decide +kernel
theorem dX0_ownerBy_39 : decode cX0_ownerBy 39 = .ok (.if_icmp .le 14, 3) := by decide +kernel
theorem dX0_ownerBy_42 : decode cX0_ownerBy 42 = .ok (.iload 4, 2) := by decide +kernel
theorem dX0_ownerBy_44 : decode cX0_ownerBy 44 = .ok (.istore_n 2, 1) := by decide +kernel
theorem dX0_ownerBy_45 : decode cX0_ownerBy 45 = .ok (.aload_n 0, 1) := by decide +kernel
theorem dX0_ownerBy_46 : decode cX0_ownerBy 46 = .ok (.getfield 18, 3) := by decide +kernel
theorem dX0_ownerBy_49 : decode cX0_ownerBy 49 = .ok (.iload 4, 2) := by decide +kernel
theorem dX0_ownerBy_51 : decode cX0_ownerBy 51 = .ok (.iaload, 1) := by decide +kernel
theorem dX0_ownerBy_52 : decode cX0_ownerBy 52 = .ok (.istore_n 3, 1) := by decide +kernel
theorem dX0_ownerBy_53 : decode cX0_ownerBy 53 = .ok (.iinc 4 1, 3) := by decide +kernel
theorem dX0_ownerBy_56 : decode cX0_ownerBy 56 = .ok (.goto (-44), 3) := by decide +kernel
theorem dX0_ownerBy_59 : decode cX0_ownerBy 59 = .ok (.iload_n 2, 1) := by decide +kernel
theorem dX0_ownerBy_60 : decode cX0_ownerBy 60 = .ok (.ireturn, 1) := by decide +kernel
theorem dX0_isTwos_0 : decode cX0_isTwos 0 = .ok (.aload_n 0, 1) := by decide +kernel
theorem dX0_isTwos_1 : decode cX0_isTwos 1 = .ok (.iload_n 1, 1) := by decide +kernel
theorem dX0_isTwos_2 : decode cX0_isTwos 2 = .ok (.invokevirtual 98, 3) := by decide +kernel
theorem dX0_isTwos_5 : decode cX0_isTwos 5 = .ok (.iconst (-1), 1) := by decide +kernel
theorem dX0_isTwos_6 : decode cX0_isTwos 6 = .ok (.if_icmp .ne 15, 3) := by decide +kernel
theorem dX0_isTwos_9 : decode cX0_isTwos 9 = .ok (.aload_n 0, 1) := by decide +kernel
theorem dX0_isTwos_10 : decode cX0_isTwos 10 = .ok (.iload_n 1, 1) := by decide +kernel
theorem dX0_isTwos_11 : decode cX0_isTwos 11 = .ok (.invokevirtual 101, 3) := by decide +kernel
theorem dX0_isTwos_14 : decode cX0_isTwos 14 = .ok (.ifCond .le 7, 3) := by decide +kernel
theorem dX0_isTwos_17 : decode cX0_isTwos 17 = .ok (.iconst 1, 1) := by decide +kernel
theorem dX0_isTwos_18 : decode cX0_isTwos 18 = .ok (.goto 4, 3) := by decide +kernel
theorem dX0_isTwos_21 : decode cX0_isTwos 21 = .ok (.iconst 0, 1) := by decide +kernel
theorem dX0_isTwos_22 : decode cX0_isTwos 22 = .ok (.ireturn, 1) := by decide +kernel
theorem dX0_span_0 : decode cX0_span 0 = .ok (.iload_n 1, 1) := by decide +kernel
theorem dX0_span_1 : decode cX0_span 1 = .ok (.bipush 9, 2) := by decide +kernel
theorem dX0_span_3 : decode cX0_span 3 = .ok (.invokestatic 27, 3) := by decide +kernel
theorem dX0_span_6 : decode cX0_span 6 = .ok (.ifCond .ne 5, 3) := by decide +kernel
theorem dX0_span_9 : decode cX0_span 9 = .ok (.iconst 0, 1) := by decide +kernel
theorem dX0_span_10 : decode cX0_span 10 = .ok (.ireturn, 1) := by decide +kernel
theorem dX0_span_11 : decode cX0_span 11 = .ok (.aload_n 0, 1) := by decide +kernel
theorem dX0_span_12 : decode cX0_span 12 = .ok (.iload_n 1, 1) := by decide +kernel
theorem dX0_span_13 : decode cX0_span 13 = .ok (.invokevirtual 35, 3) := by decide +kernel
theorem dX0_span_16 : decode cX0_span 16 = .ok (.iconst 1, 1) := by decide +kernel
theorem dX0_span_17 : decode cX0_span 17 = .ok (.isub, 1) := by decide +kernel
theorem dX0_span_18 : decode cX0_span 18 = .ok (.istore 4, 2) := by decide +kernel
theorem dX0_span_20 : decode cX0_span 20 = .ok (.iload_n 2, 1) := by decide +kernel
theorem dX0_span_21 : decode cX0_span 21 = .ok (.istore 5, 2) := by decide +kernel
theorem dX0_span_23 : decode cX0_span 23 = .ok (.iload_n 3, 1) := by decide +kernel
theorem dX0_span_24 : decode cX0_span 24 = .ok (.istore 6, 2) := by decide +kernel
theorem dX0_span_26 : decode cX0_span 26 = .ok (.iconst 0, 1) := by decide +kernel
theorem dX0_span_27 : decode cX0_span 27 = .ok (.istore 7, 2) := by decide +kernel
theorem dX0_span_29 : decode cX0_span 29 = .ok (.iload 7, 2) := by decide +kernel
theorem dX0_span_31 : decode cX0_span 31 = .ok (.bipush 41, 2) := by decide +kernel
theorem dX0_span_33 : decode cX0_span 33 = .ok (.if_icmp .ge 70, 3) := by decide +kernel
theorem dX0_span_36 : decode cX0_span 36 = .ok (.iload 6, 2) := by decide +kernel
theorem dX0_span_38 : decode cX0_span 38 = .ok (.ifCond .gt 33, 3) := by decide +kernel
theorem dX0_span_41 : decode cX0_span 41 = .ok (.iload 4, 2) := by decide +kernel
theorem dX0_span_43 : decode cX0_span 43 = .ok (.ifCond .ge 6, 3) := by decide +kernel
theorem dX0_span_46 : decode cX0_span 46 = .ok (.iload 7, 2) := by decide +kernel
theorem dX0_span_48 : decode cX0_span 48 = .ok (.ireturn, 1) := by decide +kernel
theorem dX0_span_49 : decode cX0_span 49 = .ok (.aload_n 0, 1) := by decide +kernel
theorem dX0_span_50 : decode cX0_span 50 = .ok (.iload_n 1, 1) := by decide +kernel
theorem dX0_span_51 : decode cX0_span 51 = .ok (.iload 4, 2) := by decide +kernel
theorem dX0_span_53 : decode cX0_span 53 = .ok (.iconst 0, 1) := by decide +kernel
theorem dX0_span_54 : decode cX0_span 54 = .ok (.invokevirtual 31, 3) := by decide +kernel
theorem dX0_span_57 : decode cX0_span 57 = .ok (.istore 5, 2) := by decide +kernel
theorem dX0_span_59 : decode cX0_span 59 = .ok (.aload_n 0, 1) := by decide +kernel
theorem dX0_span_60 : decode cX0_span 60 = .ok (.iload_n 1, 1) := by decide +kernel
theorem dX0_span_61 : decode cX0_span 61 = .ok (.iload 4, 2) := by decide +kernel
theorem dX0_span_63 : decode cX0_span 63 = .ok (.invokevirtual 61, 3) := by decide +kernel
theorem dX0_span_66 : decode cX0_span 66 = .ok (.istore 6, 2) := by decide +kernel
theorem dX0_span_68 : decode cX0_span 68 = .ok (.iinc 4 (-1), 3) := by decide +kernel
theorem dX0_span_71 : decode cX0_span 71 = .ok (.iload 6, 2) := by decide +kernel
theorem dX0_span_73 : decode cX0_span 73 = .ok (.iload 5, 2) := by decide +kernel
theorem dX0_span_75 : decode cX0_span 75 = .ok (.aload_n 0, 1) := by decide +kernel
theorem dX0_span_76 : decode cX0_span 76 = .ok (.getfield 9, 3) := by decide +kernel
theorem dX0_span_79 : decode cX0_span 79 = .ok (.iload_n 1, 1) := by decide +kernel
theorem dX0_span_80 : decode cX0_span 80 = .ok (.iaload, 1) := by decide +kernel
theorem dX0_span_81 : decode cX0_span 81 = .ok (.aload_n 0, 1) := by decide +kernel
theorem dX0_span_82 : decode cX0_span 82 = .ok (.getfield 15, 3) := by decide +kernel
theorem dX0_span_85 : decode cX0_span 85 = .ok (.bipush 117, 2) := by decide +kernel
theorem dX0_span_87 : decode cX0_span 87 = .ok (.iaload, 1) := by decide +kernel
theorem dX0_span_88 : decode cX0_span 88 = .ok (.iload 7, 2) := by decide +kernel
theorem dX0_span_90 : decode cX0_span 90 = .ok (.iadd, 1) := by decide +kernel
theorem dX0_span_91 : decode cX0_span 91 = .ok (.invokestatic 65, 3) := by decide +kernel
theorem dX0_span_94 : decode cX0_span 94 = .ok (.isub, 1) := by decide +kernel
theorem dX0_span_95 : decode cX0_span 95 = .ok (.istore 6, 2) := by decide +kernel
theorem dX0_span_97 : decode cX0_span 97 = .ok (.iinc 7 1, 3) := by decide +kernel
theorem dX0_span_100 : decode cX0_span 100 = .ok (.goto (-71), 3) := by decide +kernel
theorem dX0_span_103 : decode cX0_span 103 = .ok (.bipush 41, 2) := by decide +kernel
theorem dX0_span_105 : decode cX0_span 105 = .ok (.ireturn, 1) := by decide +kernel
theorem dX0_leftOf_0 : decode cX0_leftOf 0 = .ok (.aload_n 0, 1) := by decide +kernel
theorem dX0_leftOf_1 : decode cX0_leftOf 1 = .ok (.iload_n 1, 1) := by decide +kernel
theorem dX0_leftOf_2 : decode cX0_leftOf 2 = .ok (.invokevirtual 42, 3) := by decide +kernel
theorem dX0_leftOf_5 : decode cX0_leftOf 5 = .ok (.ifCond .eq 5, 3) := by decide +kernel
theorem dX0_leftOf_8 : decode cX0_leftOf 8 = .ok (.iconst 0, 1) := by decide +kernel
theorem dX0_leftOf_9 : decode cX0_leftOf 9 = .ok (.ireturn, 1) := by decide +kernel
theorem dX0_leftOf_10 : decode cX0_leftOf 10 = .ok (.aload_n 0, 1) := by decide +kernel
theorem dX0_leftOf_11 : decode cX0_leftOf 11 = .ok (.iload_n 1, 1) := by decide +kernel
theorem dX0_leftOf_12 : decode cX0_leftOf 12 = .ok (.aload_n 0, 1) := by decide +kernel
theorem dX0_leftOf_13 : decode cX0_leftOf 13 = .ok (.iload_n 1, 1) := by decide +kernel
theorem dX0_leftOf_14 : decode cX0_leftOf 14 = .ok (.invokevirtual 35, 3) := by decide +kernel
theorem dX0_leftOf_17 : decode cX0_leftOf 17 = .ok (.iconst 1, 1) := by decide +kernel
theorem dX0_leftOf_18 : decode cX0_leftOf 18 = .ok (.isub, 1) := by decide +kernel
theorem dX0_leftOf_19 : decode cX0_leftOf 19 = .ok (.invokevirtual 61, 3) := by decide +kernel
theorem dX0_leftOf_22 : decode cX0_leftOf 22 = .ok (.istore 4, 2) := by decide +kernel
theorem dX0_leftOf_24 : decode cX0_leftOf 24 = .ok (.iconst 0, 1) := by decide +kernel
theorem dX0_leftOf_25 : decode cX0_leftOf 25 = .ok (.istore 5, 2) := by decide +kernel
theorem dX0_leftOf_27 : decode cX0_leftOf 27 = .ok (.iload 5, 2) := by decide +kernel
theorem dX0_leftOf_29 : decode cX0_leftOf 29 = .ok (.iload_n 3, 1) := by decide +kernel
theorem dX0_leftOf_30 : decode cX0_leftOf 30 = .ok (.if_icmp .ge 39, 3) := by decide +kernel
theorem dX0_leftOf_33 : decode cX0_leftOf 33 = .ok (.iload 4, 2) := by decide +kernel
theorem dX0_leftOf_35 : decode cX0_leftOf 35 = .ok (.ifCond .le 34, 3) := by decide +kernel
theorem dX0_leftOf_38 : decode cX0_leftOf 38 = .ok (.iload 4, 2) := by decide +kernel
theorem dX0_leftOf_40 : decode cX0_leftOf 40 = .ok (.iload_n 2, 1) := by decide +kernel
theorem dX0_leftOf_41 : decode cX0_leftOf 41 = .ok (.aload_n 0, 1) := by decide +kernel
theorem dX0_leftOf_42 : decode cX0_leftOf 42 = .ok (.getfield 9, 3) := by decide +kernel
theorem dX0_leftOf_45 : decode cX0_leftOf 45 = .ok (.iload_n 1, 1) := by decide +kernel
theorem dX0_leftOf_46 : decode cX0_leftOf 46 = .ok (.iaload, 1) := by decide +kernel
theorem dX0_leftOf_47 : decode cX0_leftOf 47 = .ok (.aload_n 0, 1) := by decide +kernel
theorem dX0_leftOf_48 : decode cX0_leftOf 48 = .ok (.getfield 15, 3) := by decide +kernel
theorem dX0_leftOf_51 : decode cX0_leftOf 51 = .ok (.bipush 117, 2) := by decide +kernel
theorem dX0_leftOf_53 : decode cX0_leftOf 53 = .ok (.iaload, 1) := by decide +kernel
theorem dX0_leftOf_54 : decode cX0_leftOf 54 = .ok (.iload 5, 2) := by decide +kernel
theorem dX0_leftOf_56 : decode cX0_leftOf 56 = .ok (.iadd, 1) := by decide +kernel
theorem dX0_leftOf_57 : decode cX0_leftOf 57 = .ok (.invokestatic 65, 3) := by decide +kernel
theorem dX0_leftOf_60 : decode cX0_leftOf 60 = .ok (.isub, 1) := by decide +kernel
theorem dX0_leftOf_61 : decode cX0_leftOf 61 = .ok (.istore 4, 2) := by decide +kernel
theorem dX0_leftOf_63 : decode cX0_leftOf 63 = .ok (.iinc 5 1, 3) := by decide +kernel
theorem dX0_leftOf_66 : decode cX0_leftOf 66 = .ok (.goto (-39), 3) := by decide +kernel
theorem dX0_leftOf_69 : decode cX0_leftOf 69 = .ok (.iload 4, 2) := by decide +kernel
theorem dX0_leftOf_71 : decode cX0_leftOf 71 = .ok (.iconst 0, 1) := by decide +kernel
theorem dX0_leftOf_72 : decode cX0_leftOf 72 = .ok (.invokestatic 87, 3) := by decide +kernel
theorem dX0_leftOf_75 : decode cX0_leftOf 75 = .ok (.ireturn, 1) := by decide +kernel
theorem dX0_holeWays_0 : decode cX0_holeWays 0 = .ok (.iload_n 2, 1) := by decide +kernel
theorem dX0_holeWays_1 : decode cX0_holeWays 1 = .ok (.ifCond .ge 9, 3) := by decide +kernel
theorem dX0_holeWays_4 : decode cX0_holeWays 4 = .ok (.iload 4, 2) := by decide +kernel
theorem dX0_holeWays_6 : decode cX0_holeWays 6 = .ok (.invokestatic 104, 3) := by decide +kernel
theorem dX0_holeWays_9 : decode cX0_holeWays 9 = .ok (.lreturn, 1) := by decide +kernel
theorem dX0_holeWays_10 : decode cX0_holeWays 10 = .ok (.iload 4, 2) := by decide +kernel
theorem dX0_holeWays_12 : decode cX0_holeWays 12 = .ok (.ifCond .le 12, 3) := by decide +kernel
theorem dX0_holeWays_15 : decode cX0_holeWays 15 = .ok (.iload_n 1, 1) := by decide +kernel
theorem dX0_holeWays_16 : decode cX0_holeWays 16 = .ok (.bipush 9, 2) := by decide +kernel
theorem dX0_holeWays_18 : decode cX0_holeWays 18 = .ok (.invokestatic 27, 3) := by decide +kernel
theorem dX0_holeWays_21 : decode cX0_holeWays 21 = .ok (.ifCond .ne 5, 3) := by decide +kernel
theorem dX0_holeWays_24 : decode cX0_holeWays 24 = .ok (.lconst 0, 1) := by decide +kernel
theorem dX0_holeWays_25 : decode cX0_holeWays 25 = .ok (.lreturn, 1) := by decide +kernel
theorem dX0_holeWays_26 : decode cX0_holeWays 26 = .ok (.iload_n 3, 1) := by decide +kernel
theorem dX0_holeWays_27 : decode cX0_holeWays 27 = .ok (.aload_n 0, 1) := by decide +kernel
theorem dX0_holeWays_28 : decode cX0_holeWays 28 = .ok (.iload_n 1, 1) := by decide +kernel
theorem dX0_holeWays_29 : decode cX0_holeWays 29 = .ok (.iload_n 2, 1) := by decide +kernel
theorem dX0_holeWays_30 : decode cX0_holeWays 30 = .ok (.iconst 0, 1) := by decide +kernel
theorem dX0_holeWays_31 : decode cX0_holeWays 31 = .ok (.invokevirtual 31, 3) := by decide +kernel
theorem dX0_holeWays_34 : decode cX0_holeWays 34 = .ok (.aload_n 0, 1) := by decide +kernel
theorem dX0_holeWays_35 : decode cX0_holeWays 35 = .ok (.getfield 9, 3) := by decide +kernel
theorem dX0_holeWays_38 : decode cX0_holeWays 38 = .ok (.iload_n 1, 1) := by decide +kernel
theorem dX0_holeWays_39 : decode cX0_holeWays 39 = .ok (.iaload, 1) := by decide +kernel
theorem dX0_holeWays_40 : decode cX0_holeWays 40 = .ok (.iload 5, 2) := by decide +kernel
theorem dX0_holeWays_42 : decode cX0_holeWays 42 = .ok (.invokestatic 65, 3) := by decide +kernel
theorem dX0_holeWays_45 : decode cX0_holeWays 45 = .ok (.isub, 1) := by decide +kernel
theorem dX0_holeWays_46 : decode cX0_holeWays 46 = .ok (.istore 7, 2) := by decide +kernel
theorem dX0_holeWays_48 : decode cX0_holeWays 48 = .ok (.iload 7, 2) := by decide +kernel
theorem dX0_holeWays_50 : decode cX0_holeWays 50 = .ok (.ifCond .le 24, 3) := by decide +kernel
theorem dX0_holeWays_53 : decode cX0_holeWays 53 = .ok (.aload_n 0, 1) := by decide +kernel
theorem dX0_holeWays_54 : decode cX0_holeWays 54 = .ok (.iload_n 1, 1) := by decide +kernel
theorem dX0_holeWays_55 : decode cX0_holeWays 55 = .ok (.iload_n 2, 1) := by decide +kernel
theorem dX0_holeWays_56 : decode cX0_holeWays 56 = .ok (.iload 7, 2) := by decide +kernel
theorem dX0_holeWays_58 : decode cX0_holeWays 58 = .ok (.iload 4, 2) := by decide +kernel
theorem dX0_holeWays_60 : decode cX0_holeWays 60 = .ok (.iconst 1, 1) := by decide +kernel
theorem dX0_holeWays_61 : decode cX0_holeWays 61 = .ok (.isub, 1) := by decide +kernel
theorem dX0_holeWays_62 : decode cX0_holeWays 62 = .ok (.iload 5, 2) := by decide +kernel
theorem dX0_holeWays_64 : decode cX0_holeWays 64 = .ok (.iconst 1, 1) := by decide +kernel
theorem dX0_holeWays_65 : decode cX0_holeWays 65 = .ok (.iadd, 1) := by decide +kernel
theorem dX0_holeWays_66 : decode cX0_holeWays 66 = .ok (.iload 6, 2) := by decide +kernel
theorem dX0_holeWays_68 : decode cX0_holeWays 68 = .ok (.invokevirtual 108, 3) := by decide +kernel
theorem dX0_holeWays_71 : decode cX0_holeWays 71 = .ok (.goto 29, 3) := by decide +kernel
theorem dX0_holeWays_74 : decode cX0_holeWays 74 = .ok (.aload_n 0, 1) := by decide +kernel
theorem dX0_holeWays_75 : decode cX0_holeWays 75 = .ok (.iload_n 1, 1) := by decide +kernel
theorem dX0_holeWays_76 : decode cX0_holeWays 76 = .ok (.iload_n 2, 1) := by decide +kernel
theorem dX0_holeWays_77 : decode cX0_holeWays 77 = .ok (.iconst 1, 1) := by decide +kernel
theorem dX0_holeWays_78 : decode cX0_holeWays 78 = .ok (.isub, 1) := by decide +kernel
theorem dX0_holeWays_79 : decode cX0_holeWays 79 = .ok (.aload_n 0, 1) := by decide +kernel
theorem dX0_holeWays_80 : decode cX0_holeWays 80 = .ok (.iload_n 1, 1) := by decide +kernel
theorem dX0_holeWays_81 : decode cX0_holeWays 81 = .ok (.iload_n 2, 1) := by decide +kernel
theorem dX0_holeWays_82 : decode cX0_holeWays 82 = .ok (.iconst 1, 1) := by decide +kernel
theorem dX0_holeWays_83 : decode cX0_holeWays 83 = .ok (.isub, 1) := by decide +kernel
theorem dX0_holeWays_84 : decode cX0_holeWays 84 = .ok (.invokevirtual 61, 3) := by decide +kernel
theorem dX0_holeWays_87 : decode cX0_holeWays 87 = .ok (.iload 4, 2) := by decide +kernel
theorem dX0_holeWays_89 : decode cX0_holeWays 89 = .ok (.iconst 1, 1) := by decide +kernel
theorem dX0_holeWays_90 : decode cX0_holeWays 90 = .ok (.isub, 1) := by decide +kernel
theorem dX0_holeWays_91 : decode cX0_holeWays 91 = .ok (.iload 5, 2) := by decide +kernel
theorem dX0_holeWays_93 : decode cX0_holeWays 93 = .ok (.iconst 1, 1) := by decide +kernel
theorem dX0_holeWays_94 : decode cX0_holeWays 94 = .ok (.iadd, 1) := by decide +kernel
theorem dX0_holeWays_95 : decode cX0_holeWays 95 = .ok (.iload 6, 2) := by decide +kernel
theorem dX0_holeWays_97 : decode cX0_holeWays 97 = .ok (.invokevirtual 108, 3) := by decide +kernel
theorem dX0_holeWays_100 : decode cX0_holeWays 100 = .ok (.lstore 8, 2) := by decide +kernel
theorem dX0_holeWays_102 : decode cX0_holeWays 102 = .ok (.aload_n 0, 1) := by decide +kernel
theorem dX0_holeWays_103 : decode cX0_holeWays 103 = .ok (.iload_n 1, 1) := by decide +kernel
theorem dX0_holeWays_104 : decode cX0_holeWays 104 = .ok (.iload_n 2, 1) := by decide +kernel
theorem dX0_holeWays_105 : decode cX0_holeWays 105 = .ok (.iload_n 3, 1) := by decide +kernel
theorem dX0_holeWays_106 : decode cX0_holeWays 106 = .ok (.iload 4, 2) := by decide +kernel
theorem dX0_holeWays_108 : decode cX0_holeWays 108 = .ok (.iconst 1, 1) := by decide +kernel
theorem dX0_holeWays_109 : decode cX0_holeWays 109 = .ok (.isub, 1) := by decide +kernel
theorem dX0_holeWays_110 : decode cX0_holeWays 110 = .ok (.iload 5, 2) := by decide +kernel
theorem dX0_holeWays_112 : decode cX0_holeWays 112 = .ok (.iconst 1, 1) := by decide +kernel
theorem dX0_holeWays_113 : decode cX0_holeWays 113 = .ok (.iadd, 1) := by decide +kernel
theorem dX0_holeWays_114 : decode cX0_holeWays 114 = .ok (.iload 6, 2) := by decide +kernel
theorem dX0_holeWays_116 : decode cX0_holeWays 116 = .ok (.invokevirtual 108, 3) := by decide +kernel
theorem dX0_holeWays_119 : decode cX0_holeWays 119 = .ok (.lstore 10, 2) := by decide +kernel
theorem dX0_holeWays_121 : decode cX0_holeWays 121 = .ok (.iload 6, 2) := by decide +kernel
theorem dX0_holeWays_123 : decode cX0_holeWays 123 = .ok (.i2l, 1) := by decide +kernel
theorem dX0_holeWays_124 : decode cX0_holeWays 124 = .ok (.lload 8, 2) := by decide +kernel
theorem dX0_holeWays_126 : decode cX0_holeWays 126 = .ok (.lmul, 1) := by decide +kernel
theorem dX0_holeWays_127 : decode cX0_holeWays 127 = .ok (.bipush 10, 2) := by decide +kernel
theorem dX0_holeWays_129 : decode cX0_holeWays 129 = .ok (.iload 6, 2) := by decide +kernel
theorem dX0_holeWays_131 : decode cX0_holeWays 131 = .ok (.isub, 1) := by decide +kernel
theorem dX0_holeWays_132 : decode cX0_holeWays 132 = .ok (.i2l, 1) := by decide +kernel
theorem dX0_holeWays_133 : decode cX0_holeWays 133 = .ok (.lload 10, 2) := by decide +kernel
theorem dX0_holeWays_135 : decode cX0_holeWays 135 = .ok (.lmul, 1) := by decide +kernel
theorem dX0_holeWays_136 : decode cX0_holeWays 136 = .ok (.ladd, 1) := by decide +kernel
theorem dX0_holeWays_137 : decode cX0_holeWays 137 = .ok (.lreturn, 1) := by decide +kernel
theorem dX0_nextYear_0 : decode cX0_nextYear 0 = .ok (.iload_n 2, 1) := by decide +kernel
theorem dX0_nextYear_1 : decode cX0_nextYear 1 = .ok (.istore_n 3, 1) := by decide +kernel
theorem dX0_nextYear_2 : decode cX0_nextYear 2 = .ok (.iconst 0, 1) := by decide +kernel
theorem dX0_nextYear_3 : decode cX0_nextYear 3 = .ok (.istore 4, 2) := by decide +kernel
theorem dX0_nextYear_5 : decode cX0_nextYear 5 = .ok (.iload 4, 2) := by decide +kernel
theorem dX0_nextYear_7 : decode cX0_nextYear 7 = .ok (.bipush 9, 2) := by decide +kernel
theorem dX0_nextYear_9 : decode cX0_nextYear 9 = .ok (.if_icmp .ge 72, 3) := by decide +kernel
theorem dX0_nextYear_12 : decode cX0_nextYear 12 = .ok (.iload_n 1, 1) := by decide +kernel
theorem dX0_nextYear_13 : decode cX0_nextYear 13 = .ok (.iload 4, 2) := by decide +kernel
theorem dX0_nextYear_15 : decode cX0_nextYear 15 = .ok (.ishr, 1) := by decide +kernel
theorem dX0_nextYear_16 : decode cX0_nextYear 16 = .ok (.iconst 1, 1) := by decide +kernel
theorem dX0_nextYear_17 : decode cX0_nextYear 17 = .ok (.iand, 1) := by decide +kernel
theorem dX0_nextYear_18 : decode cX0_nextYear 18 = .ok (.ifCond .ne 6, 3) := by decide +kernel
theorem dX0_nextYear_21 : decode cX0_nextYear 21 = .ok (.goto 54, 3) := by decide +kernel
theorem dX0_nextYear_24 : decode cX0_nextYear 24 = .ok (.iconst 0, 1) := by decide +kernel
theorem dX0_nextYear_25 : decode cX0_nextYear 25 = .ok (.istore 5, 2) := by decide +kernel
theorem dX0_nextYear_27 : decode cX0_nextYear 27 = .ok (.iload 5, 2) := by decide +kernel
theorem dX0_nextYear_29 : decode cX0_nextYear 29 = .ok (.aload_n 0, 1) := by decide +kernel
theorem dX0_nextYear_30 : decode cX0_nextYear 30 = .ok (.iload 4, 2) := by decide +kernel
theorem dX0_nextYear_32 : decode cX0_nextYear 32 = .ok (.invokevirtual 35, 3) := by decide +kernel
theorem dX0_nextYear_35 : decode cX0_nextYear 35 = .ok (.if_icmp .ge 40, 3) := by decide +kernel
theorem dX0_nextYear_38 : decode cX0_nextYear 38 = .ok (.aload_n 0, 1) := by decide +kernel
theorem dX0_nextYear_39 : decode cX0_nextYear 39 = .ok (.iload 4, 2) := by decide +kernel
theorem dX0_nextYear_41 : decode cX0_nextYear 41 = .ok (.iload 5, 2) := by decide +kernel
theorem dX0_nextYear_43 : decode cX0_nextYear 43 = .ok (.iconst 3, 1) := by decide +kernel
theorem dX0_nextYear_44 : decode cX0_nextYear 44 = .ok (.invokevirtual 31, 3) := by decide +kernel
theorem dX0_nextYear_47 : decode cX0_nextYear 47 = .ok (.istore 6, 2) := by decide +kernel
theorem dX0_nextYear_49 : decode cX0_nextYear 49 = .ok (.iload 6, 2) := by decide +kernel
theorem dX0_nextYear_51 : decode cX0_nextYear 51 = .ok (.iload_n 2, 1) := by decide +kernel
theorem dX0_nextYear_52 : decode cX0_nextYear 52 = .ok (.if_icmp .le 17, 3) := by decide +kernel
theorem dX0_nextYear_55 : decode cX0_nextYear 55 = .ok (.iload_n 3, 1) := by decide +kernel
theorem dX0_nextYear_56 : decode cX0_nextYear 56 = .ok (.iload_n 2, 1) := by decide +kernel
theorem dX0_nextYear_57 : decode cX0_nextYear 57 = .ok (.if_icmp .eq 9, 3) := by decide +kernel
theorem dX0_nextYear_60 : decode cX0_nextYear 60 = .ok (.iload 6, 2) := by decide +kernel
theorem dX0_nextYear_62 : decode cX0_nextYear 62 = .ok (.iload_n 3, 1) := by decide +kernel
theorem dX0_nextYear_63 : decode cX0_nextYear 63 = .ok (.if_icmp .ge 6, 3) := by decide +kernel
theorem dX0_nextYear_66 : decode cX0_nextYear 66 = .ok (.iload 6, 2) := by decide +kernel
theorem dX0_nextYear_68 : decode cX0_nextYear 68 = .ok (.istore_n 3, 1) := by decide +kernel
theorem dX0_nextYear_69 : decode cX0_nextYear 69 = .ok (.iinc 5 1, 3) := by decide +kernel
theorem dX0_nextYear_72 : decode cX0_nextYear 72 = .ok (.goto (-45), 3) := by decide +kernel
theorem dX0_nextYear_75 : decode cX0_nextYear 75 = .ok (.iinc 4 1, 3) := by decide +kernel
theorem dX0_nextYear_78 : decode cX0_nextYear 78 = .ok (.goto (-73), 3) := by decide +kernel
theorem dX0_nextYear_81 : decode cX0_nextYear 81 = .ok (.iload_n 3, 1) := by decide +kernel
theorem dX0_nextYear_82 : decode cX0_nextYear 82 = .ok (.ireturn, 1) := by decide +kernel
theorem dX0_digested_0 : decode cX0_digested 0 = .ok (.iconst 0, 1) := by decide +kernel
theorem dX0_digested_1 : decode cX0_digested 1 = .ok (.istore_n 3, 1) := by decide +kernel
theorem dX0_digested_2 : decode cX0_digested 2 = .ok (.iload_n 3, 1) := by decide +kernel
theorem dX0_digested_3 : decode cX0_digested 3 = .ok (.bipush 9, 2) := by decide +kernel
theorem dX0_digested_5 : decode cX0_digested 5 = .ok (.if_icmp .ge 87, 3) := by decide +kernel
theorem dX0_digested_8 : decode cX0_digested 8 = .ok (.ldc2_w 112, 3) := by decide +kernel
theorem dX0_digested_11 : decode cX0_digested 11 = .ok (.lload_n 1, 1) := by decide +kernel
theorem dX0_digested_12 : decode cX0_digested 12 = .ok (.lmul, 1) := by decide +kernel
theorem dX0_digested_13 : decode cX0_digested 13 = .ok (.aload_n 0, 1) := by decide +kernel
theorem dX0_digested_14 : decode cX0_digested 14 = .ok (.getfield 9, 3) := by decide +kernel
theorem dX0_digested_17 : decode cX0_digested 17 = .ok (.iload_n 3, 1) := by decide +kernel
theorem dX0_digested_18 : decode cX0_digested 18 = .ok (.iaload, 1) := by decide +kernel
theorem dX0_digested_19 : decode cX0_digested 19 = .ok (.i2l, 1) := by decide +kernel
theorem dX0_digested_20 : decode cX0_digested 20 = .ok (.ladd, 1) := by decide +kernel
theorem dX0_digested_21 : decode cX0_digested 21 = .ok (.lstore_n 1, 1) := by decide +kernel
theorem dX0_digested_22 : decode cX0_digested 22 = .ok (.ldc2_w 112, 3) := by decide +kernel
theorem dX0_digested_25 : decode cX0_digested 25 = .ok (.lload_n 1, 1) := by decide +kernel
theorem dX0_digested_26 : decode cX0_digested 26 = .ok (.lmul, 1) := by decide +kernel
theorem dX0_digested_27 : decode cX0_digested 27 = .ok (.aload_n 0, 1) := by decide +kernel
theorem dX0_digested_28 : decode cX0_digested 28 = .ok (.iload_n 3, 1) := by decide +kernel
theorem dX0_digested_29 : decode cX0_digested 29 = .ok (.invokevirtual 35, 3) := by decide +kernel
theorem dX0_digested_32 : decode cX0_digested 32 = .ok (.i2l, 1) := by decide +kernel
theorem dX0_digested_33 : decode cX0_digested 33 = .ok (.ladd, 1) := by decide +kernel
theorem dX0_digested_34 : decode cX0_digested 34 = .ok (.lstore_n 1, 1) := by decide +kernel
theorem dX0_digested_35 : decode cX0_digested 35 = .ok (.iconst 0, 1) := by decide +kernel
theorem dX0_digested_36 : decode cX0_digested 36 = .ok (.istore 4, 2) := by decide +kernel
theorem dX0_digested_38 : decode cX0_digested 38 = .ok (.iload 4, 2) := by decide +kernel
theorem dX0_digested_40 : decode cX0_digested 40 = .ok (.aload_n 0, 1) := by decide +kernel
theorem dX0_digested_41 : decode cX0_digested 41 = .ok (.iload_n 3, 1) := by decide +kernel
theorem dX0_digested_42 : decode cX0_digested 42 = .ok (.invokevirtual 35, 3) := by decide +kernel
theorem dX0_digested_45 : decode cX0_digested 45 = .ok (.if_icmp .ge 41, 3) := by decide +kernel
theorem dX0_digested_48 : decode cX0_digested 48 = .ok (.iconst 0, 1) := by decide +kernel
theorem dX0_digested_49 : decode cX0_digested 49 = .ok (.istore 5, 2) := by decide +kernel
theorem dX0_digested_51 : decode cX0_digested 51 = .ok (.iload 5, 2) := by decide +kernel
theorem dX0_digested_53 : decode cX0_digested 53 = .ok (.iconst 4, 1) := by decide +kernel
theorem dX0_digested_54 : decode cX0_digested 54 = .ok (.if_icmp .ge 26, 3) := by decide +kernel
theorem dX0_digested_57 : decode cX0_digested 57 = .ok (.ldc2_w 112, 3) := by decide +kernel
theorem dX0_digested_60 : decode cX0_digested 60 = .ok (.lload_n 1, 1) := by decide +kernel
theorem dX0_digested_61 : decode cX0_digested 61 = .ok (.lmul, 1) := by decide +kernel
theorem dX0_digested_62 : decode cX0_digested 62 = .ok (.aload_n 0, 1) := by decide +kernel
theorem dX0_digested_63 : decode cX0_digested 63 = .ok (.iload_n 3, 1) := by decide +kernel
theorem dX0_digested_64 : decode cX0_digested 64 = .ok (.iload 4, 2) := by decide +kernel
theorem dX0_digested_66 : decode cX0_digested 66 = .ok (.iload 5, 2) := by decide +kernel
theorem dX0_digested_68 : decode cX0_digested 68 = .ok (.invokevirtual 31, 3) := by decide +kernel
theorem dX0_digested_71 : decode cX0_digested 71 = .ok (.i2l, 1) := by decide +kernel
theorem dX0_digested_72 : decode cX0_digested 72 = .ok (.ladd, 1) := by decide +kernel
theorem dX0_digested_73 : decode cX0_digested 73 = .ok (.lstore_n 1, 1) := by decide +kernel
theorem dX0_digested_74 : decode cX0_digested 74 = .ok (.iinc 5 1, 3) := by decide +kernel
theorem dX0_digested_77 : decode cX0_digested 77 = .ok (.goto (-26), 3) := by decide +kernel
theorem dX0_digested_80 : decode cX0_digested 80 = .ok (.iinc 4 1, 3) := by decide +kernel
theorem dX0_digested_83 : decode cX0_digested 83 = .ok (.goto (-45), 3) := by decide +kernel
theorem dX0_digested_86 : decode cX0_digested 86 = .ok (.iinc 3 1, 3) := by decide +kernel
theorem dX0_digested_89 : decode cX0_digested 89 = .ok (.goto (-87), 3) := by decide +kernel
theorem dX0_digested_92 : decode cX0_digested 92 = .ok (.lload_n 1, 1) := by decide +kernel
theorem dX0_digested_93 : decode cX0_digested 93 = .ok (.lreturn, 1) := by decide +kernel
end
section
theorem dX1_init_0 : decode cX1_init 0 = .ok (.aload_n 0, 1) := by decide +kernel
theorem dX1_init_1 : decode cX1_init 1 = .ok (.invokespecial 3, 3) := by decide +kernel
theorem dX1_init_4 : decode cX1_init 4 = .ok (.aload_n 0, 1) := by decide +kernel
theorem dX1_init_5 : decode cX1_init 5 = .ok (.new 9, 3) := by decide +kernel
theorem dX1_init_8 : decode cX1_init 8 = .ok (.dup, 1) := by decide +kernel
theorem dX1_init_9 : decode cX1_init 9 = .ok (.invokespecial 11, 3) := by decide +kernel
theorem dX1_init_12 : decode cX1_init 12 = .ok (.putfield 12, 3) := by decide +kernel
theorem dX1_init_15 : decode cX1_init 15 = .ok (.aload_n 0, 1) := by decide +kernel
theorem dX1_init_16 : decode cX1_init 16 = .ok (.bipush 18, 2) := by decide +kernel
theorem dX1_init_18 : decode cX1_init 18 = .ok (.newarray .int, 2) := by decide +kernel
theorem dX1_init_20 : decode cX1_init 20 = .ok (.putfield 18, 3) := by decide +kernel
theorem dX1_init_23 : decode cX1_init 23 = .ok (.aload_n 0, 1) := by decide +kernel
theorem dX1_init_24 : decode cX1_init 24 = .ok (.sipush 944, 3) := by decide +kernel
theorem dX1_init_27 : decode cX1_init 27 = .ok (.newarray .int, 2) := by decide +kernel
theorem dX1_init_29 : decode cX1_init 29 = .ok (.putfield 22, 3) := by decide +kernel
theorem dX1_init_32 : decode cX1_init 32 = .ok (.return_, 1) := by decide +kernel
theorem dX1_renew_0 : decode cX1_renew 0 = .ok (.aload_n 0, 1) := by decide +kernel
theorem dX1_renew_1 : decode cX1_renew 1 = .ok (.getfield 12, 3) := by decide +kernel
theorem dX1_renew_4 : decode cX1_renew 4 = .ok (.iload_n 1, 1) := by decide +kernel
theorem dX1_renew_5 : decode cX1_renew 5 = .ok (.invokevirtual 25, 3) := by decide +kernel
theorem dX1_renew_8 : decode cX1_renew 8 = .ok (.aload_n 0, 1) := by decide +kernel
theorem dX1_renew_9 : decode cX1_renew 9 = .ok (.iconst 0, 1) := by decide +kernel
theorem dX1_renew_10 : decode cX1_renew 10 = .ok (.putfield 29, 3) := by decide +kernel
theorem dX1_renew_13 : decode cX1_renew 13 = .ok (.aload_n 0, 1) := by decide +kernel
theorem dX1_renew_14 : decode cX1_renew 14 = .ok (.iconst 0, 1) := by decide +kernel
theorem dX1_renew_15 : decode cX1_renew 15 = .ok (.putfield 33, 3) := by decide +kernel
theorem dX1_renew_18 : decode cX1_renew 18 = .ok (.return_, 1) := by decide +kernel
theorem dX1_copy_0 : decode cX1_copy 0 = .ok (.aload_n 0, 1) := by decide +kernel
theorem dX1_copy_1 : decode cX1_copy 1 = .ok (.getfield 12, 3) := by decide +kernel
theorem dX1_copy_4 : decode cX1_copy 4 = .ok (.aload_n 1, 1) := by decide +kernel
theorem dX1_copy_5 : decode cX1_copy 5 = .ok (.getfield 12, 3) := by decide +kernel
theorem dX1_copy_8 : decode cX1_copy 8 = .ok (.invokevirtual 36, 3) := by decide +kernel
theorem dX1_copy_11 : decode cX1_copy 11 = .ok (.aload_n 1, 1) := by decide +kernel
theorem dX1_copy_12 : decode cX1_copy 12 = .ok (.getfield 18, 3) := by decide +kernel
theorem dX1_copy_15 : decode cX1_copy 15 = .ok (.iconst 0, 1) := by decide +kernel
theorem dX1_copy_16 : decode cX1_copy 16 = .ok (.aload_n 0, 1) := by decide +kernel
theorem dX1_copy_17 : decode cX1_copy 17 = .ok (.getfield 18, 3) := by decide +kernel
theorem dX1_copy_20 : decode cX1_copy 20 = .ok (.iconst 0, 1) := by decide +kernel
theorem dX1_copy_21 : decode cX1_copy 21 = .ok (.bipush 18, 2) := by decide +kernel
theorem dX1_copy_23 : decode cX1_copy 23 = .ok (.invokestatic 40, 3) := by decide +kernel
theorem dX1_copy_26 : decode cX1_copy 26 = .ok (.aload_n 1, 1) := by decide +kernel
theorem dX1_copy_27 : decode cX1_copy 27 = .ok (.getfield 22, 3) := by decide +kernel
theorem dX1_copy_30 : decode cX1_copy 30 = .ok (.iconst 0, 1) := by decide +kernel
theorem dX1_copy_31 : decode cX1_copy 31 = .ok (.aload_n 0, 1) := by decide +kernel
theorem dX1_copy_32 : decode cX1_copy 32 = .ok (.getfield 22, 3) := by decide +kernel
theorem dX1_copy_35 : decode cX1_copy 35 = .ok (.iconst 0, 1) := by decide +kernel
theorem dX1_copy_36 : decode cX1_copy 36 = .ok (.sipush 944, 3) := by decide +kernel
theorem dX1_copy_39 : decode cX1_copy 39 = .ok (.invokestatic 40, 3) := by decide +kernel
theorem dX1_copy_42 : decode cX1_copy 42 = .ok (.aload_n 0, 1) := by decide +kernel
theorem dX1_copy_43 : decode cX1_copy 43 = .ok (.aload_n 1, 1) := by decide +kernel
theorem dX1_copy_44 : decode cX1_copy 44 = .ok (.getfield 29, 3) := by decide +kernel
theorem dX1_copy_47 : decode cX1_copy 47 = .ok (.putfield 29, 3) := by decide +kernel
theorem dX1_copy_50 : decode cX1_copy 50 = .ok (.aload_n 0, 1) := by decide +kernel
theorem dX1_copy_51 : decode cX1_copy 51 = .ok (.aload_n 1, 1) := by decide +kernel
theorem dX1_copy_52 : decode cX1_copy 52 = .ok (.getfield 46, 3) := by decide +kernel
theorem dX1_copy_55 : decode cX1_copy 55 = .ok (.putfield 46, 3) := by decide +kernel
theorem dX1_copy_58 : decode cX1_copy 58 = .ok (.aload_n 0, 1) := by decide +kernel
theorem dX1_copy_59 : decode cX1_copy 59 = .ok (.aload_n 1, 1) := by decide +kernel
theorem dX1_copy_60 : decode cX1_copy 60 = .ok (.getfield 33, 3) := by decide +kernel
theorem dX1_copy_63 : decode cX1_copy 63 = .ok (.putfield 33, 3) := by decide +kernel
theorem dX1_copy_66 : decode cX1_copy 66 = .ok (.return_, 1) := by decide +kernel
theorem dX1_keep_0 : decode cX1_keep 0 = .ok (.aload_n 0, 1) := by decide +kernel
theorem dX1_keep_1 : decode cX1_keep 1 = .ok (.aload_n 0, 1) := by decide +kernel
theorem dX1_keep_2 : decode cX1_keep 2 = .ok (.getfield 46, 3) := by decide +kernel
theorem dX1_keep_5 : decode cX1_keep 5 = .ok (.iconst 1, 1) := by decide +kernel
theorem dX1_keep_6 : decode cX1_keep 6 = .ok (.iadd, 1) := by decide +kernel
theorem dX1_keep_7 : decode cX1_keep 7 = .ok (.bipush 8, 2) := by decide +kernel
theorem dX1_keep_9 : decode cX1_keep 9 = .ok (.irem, 1) := by decide +kernel
theorem dX1_keep_10 : decode cX1_keep 10 = .ok (.putfield 46, 3) := by decide +kernel
theorem dX1_keep_13 : decode cX1_keep 13 = .ok (.aload_n 0, 1) := by decide +kernel
theorem dX1_keep_14 : decode cX1_keep 14 = .ok (.getfield 12, 3) := by decide +kernel
theorem dX1_keep_17 : decode cX1_keep 17 = .ok (.getfield 49, 3) := by decide +kernel
theorem dX1_keep_20 : decode cX1_keep 20 = .ok (.iconst 0, 1) := by decide +kernel
theorem dX1_keep_21 : decode cX1_keep 21 = .ok (.aload_n 0, 1) := by decide +kernel
theorem dX1_keep_22 : decode cX1_keep 22 = .ok (.getfield 22, 3) := by decide +kernel
theorem dX1_keep_25 : decode cX1_keep 25 = .ok (.aload_n 0, 1) := by decide +kernel
theorem dX1_keep_26 : decode cX1_keep 26 = .ok (.getfield 46, 3) := by decide +kernel
theorem dX1_keep_29 : decode cX1_keep 29 = .ok (.bipush 118, 2) := by decide +kernel
theorem dX1_keep_31 : decode cX1_keep 31 = .ok (.imul, 1) := by decide +kernel
theorem dX1_keep_32 : decode cX1_keep 32 = .ok (.bipush 118, 2) := by decide +kernel
theorem dX1_keep_34 : decode cX1_keep 34 = .ok (.invokestatic 40, 3) := by decide +kernel
theorem dX1_keep_37 : decode cX1_keep 37 = .ok (.aload_n 0, 1) := by decide +kernel
theorem dX1_keep_38 : decode cX1_keep 38 = .ok (.aload_n 0, 1) := by decide +kernel
theorem dX1_keep_39 : decode cX1_keep 39 = .ok (.getfield 33, 3) := by decide +kernel
theorem dX1_keep_42 : decode cX1_keep 42 = .ok (.iconst 1, 1) := by decide +kernel
theorem dX1_keep_43 : decode cX1_keep 43 = .ok (.iadd, 1) := by decide +kernel
theorem dX1_keep_44 : decode cX1_keep 44 = .ok (.bipush 8, 2) := by decide +kernel
theorem dX1_keep_46 : decode cX1_keep 46 = .ok (.invokestatic 52, 3) := by decide +kernel
theorem dX1_keep_49 : decode cX1_keep 49 = .ok (.putfield 33, 3) := by decide +kernel
theorem dX1_keep_52 : decode cX1_keep 52 = .ok (.return_, 1) := by decide +kernel
theorem dX1_bringBack_0 : decode cX1_bringBack 0 = .ok (.aload_n 0, 1) := by decide +kernel
theorem dX1_bringBack_1 : decode cX1_bringBack 1 = .ok (.getfield 33, 3) := by decide +kernel
theorem dX1_bringBack_4 : decode cX1_bringBack 4 = .ok (.ifCond .gt 4, 3) := by decide +kernel
theorem dX1_bringBack_7 : decode cX1_bringBack 7 = .ok (.return_, 1) := by decide +kernel
theorem dX1_bringBack_8 : decode cX1_bringBack 8 = .ok (.aload_n 0, 1) := by decide +kernel
theorem dX1_bringBack_9 : decode cX1_bringBack 9 = .ok (.getfield 22, 3) := by decide +kernel
theorem dX1_bringBack_12 : decode cX1_bringBack 12 = .ok (.aload_n 0, 1) := by decide +kernel
theorem dX1_bringBack_13 : decode cX1_bringBack 13 = .ok (.getfield 46, 3) := by decide +kernel
theorem dX1_bringBack_16 : decode cX1_bringBack 16 = .ok (.bipush 118, 2) := by decide +kernel
theorem dX1_bringBack_18 : decode cX1_bringBack 18 = .ok (.imul, 1) := by decide +kernel
theorem dX1_bringBack_19 : decode cX1_bringBack 19 = .ok (.aload_n 0, 1) := by decide +kernel
theorem dX1_bringBack_20 : decode cX1_bringBack 20 = .ok (.getfield 12, 3) := by decide +kernel
theorem dX1_bringBack_23 : decode cX1_bringBack 23 = .ok (.getfield 49, 3) := by decide +kernel
theorem dX1_bringBack_26 : decode cX1_bringBack 26 = .ok (.iconst 0, 1) := by decide +kernel
theorem dX1_bringBack_27 : decode cX1_bringBack 27 = .ok (.bipush 118, 2) := by decide +kernel
theorem dX1_bringBack_29 : decode cX1_bringBack 29 = .ok (.invokestatic 40, 3) := by decide +kernel
theorem dX1_bringBack_32 : decode cX1_bringBack 32 = .ok (.aload_n 0, 1) := by decide +kernel
theorem dX1_bringBack_33 : decode cX1_bringBack 33 = .ok (.aload_n 0, 1) := by decide +kernel
theorem dX1_bringBack_34 : decode cX1_bringBack 34 = .ok (.getfield 46, 3) := by decide +kernel
theorem dX1_bringBack_37 : decode cX1_bringBack 37 = .ok (.bipush 8, 2) := by decide +kernel
theorem dX1_bringBack_39 : decode cX1_bringBack 39 = .ok (.iadd, 1) := by decide +kernel
theorem dX1_bringBack_40 : decode cX1_bringBack 40 = .ok (.iconst 1, 1) := by decide +kernel
theorem dX1_bringBack_41 : decode cX1_bringBack 41 = .ok (.isub, 1) := by decide +kernel
theorem dX1_bringBack_42 : decode cX1_bringBack 42 = .ok (.bipush 8, 2) := by decide +kernel
theorem dX1_bringBack_44 : decode cX1_bringBack 44 = .ok (.irem, 1) := by decide +kernel
theorem dX1_bringBack_45 : decode cX1_bringBack 45 = .ok (.putfield 46, 3) := by decide +kernel
theorem dX1_bringBack_48 : decode cX1_bringBack 48 = .ok (.aload_n 0, 1) := by decide +kernel
theorem dX1_bringBack_49 : decode cX1_bringBack 49 = .ok (.dup, 1) := by decide +kernel
theorem dX1_bringBack_50 : decode cX1_bringBack 50 = .ok (.getfield 33, 3) := by decide +kernel
theorem dX1_bringBack_53 : decode cX1_bringBack 53 = .ok (.iconst 1, 1) := by decide +kernel
theorem dX1_bringBack_54 : decode cX1_bringBack 54 = .ok (.isub, 1) := by decide +kernel
theorem dX1_bringBack_55 : decode cX1_bringBack 55 = .ok (.putfield 33, 3) := by decide +kernel
theorem dX1_bringBack_58 : decode cX1_bringBack 58 = .ok (.return_, 1) := by decide +kernel
theorem dX1_addReading_0 : decode cX1_addReading 0 = .ok (.aload_n 0, 1) := by decide +kernel
theorem dX1_addReading_1 : decode cX1_addReading 1 = .ok (.getfield 29, 3) := by decide +kernel
theorem dX1_addReading_4 : decode cX1_addReading 4 = .ok (.bipush 6, 2) := by decide +kernel
theorem dX1_addReading_6 : decode cX1_addReading 6 = .ok (.if_icmp .lt 8, 3) := by decide +kernel
theorem dX1_addReading_9 : decode cX1_addReading 9 = .ok (.aload_n 0, 1) := by decide +kernel
theorem dX1_addReading_10 : decode cX1_addReading 10 = .ok (.getfield 29, 3) := by decide +kernel
theorem dX1_addReading_13 : decode cX1_addReading 13 = .ok (.ireturn, 1) := by decide +kernel
theorem dX1_addReading_14 : decode cX1_addReading 14 = .ok (.aload_n 0, 1) := by decide +kernel
theorem dX1_addReading_15 : decode cX1_addReading 15 = .ok (.getfield 18, 3) := by decide +kernel
theorem dX1_addReading_18 : decode cX1_addReading 18 = .ok (.iconst 3, 1) := by decide +kernel
theorem dX1_addReading_19 : decode cX1_addReading 19 = .ok (.aload_n 0, 1) := by decide +kernel
theorem dX1_addReading_20 : decode cX1_addReading 20 = .ok (.getfield 29, 3) := by decide +kernel
theorem dX1_addReading_23 : decode cX1_addReading 23 = .ok (.imul, 1) := by decide +kernel
theorem dX1_addReading_24 : decode cX1_addReading 24 = .ok (.iload_n 1, 1) := by decide +kernel
theorem dX1_addReading_25 : decode cX1_addReading 25 = .ok (.iastore, 1) := by decide +kernel
theorem dX1_addReading_26 : decode cX1_addReading 26 = .ok (.aload_n 0, 1) := by decide +kernel
theorem dX1_addReading_27 : decode cX1_addReading 27 = .ok (.getfield 18, 3) := by decide +kernel
theorem dX1_addReading_30 : decode cX1_addReading 30 = .ok (.iconst 3, 1) := by decide +kernel
theorem dX1_addReading_31 : decode cX1_addReading 31 = .ok (.aload_n 0, 1) := by decide +kernel
theorem dX1_addReading_32 : decode cX1_addReading 32 = .ok (.getfield 29, 3) := by decide +kernel
theorem dX1_addReading_35 : decode cX1_addReading 35 = .ok (.imul, 1) := by decide +kernel
theorem dX1_addReading_36 : decode cX1_addReading 36 = .ok (.iconst 1, 1) := by decide +kernel
theorem dX1_addReading_37 : decode cX1_addReading 37 = .ok (.iadd, 1) := by decide +kernel
theorem dX1_addReading_38 : decode cX1_addReading 38 = .ok (.iload_n 2, 1) := by decide +kernel
theorem dX1_addReading_39 : decode cX1_addReading 39 = .ok (.iastore, 1) := by decide +kernel
theorem dX1_addReading_40 : decode cX1_addReading 40 = .ok (.aload_n 0, 1) := by decide +kernel
theorem dX1_addReading_41 : decode cX1_addReading 41 = .ok (.getfield 18, 3) := by decide +kernel
theorem dX1_addReading_44 : decode cX1_addReading 44 = .ok (.iconst 3, 1) := by decide +kernel
theorem dX1_addReading_45 : decode cX1_addReading 45 = .ok (.aload_n 0, 1) := by decide +kernel
theorem dX1_addReading_46 : decode cX1_addReading 46 = .ok (.getfield 29, 3) := by decide +kernel
theorem dX1_addReading_49 : decode cX1_addReading 49 = .ok (.imul, 1) := by decide +kernel
theorem dX1_addReading_50 : decode cX1_addReading 50 = .ok (.iconst 2, 1) := by decide +kernel
theorem dX1_addReading_51 : decode cX1_addReading 51 = .ok (.iadd, 1) := by decide +kernel
theorem dX1_addReading_52 : decode cX1_addReading 52 = .ok (.iload_n 3, 1) := by decide +kernel
theorem dX1_addReading_53 : decode cX1_addReading 53 = .ok (.iastore, 1) := by decide +kernel
theorem dX1_addReading_54 : decode cX1_addReading 54 = .ok (.aload_n 0, 1) := by decide +kernel
theorem dX1_addReading_55 : decode cX1_addReading 55 = .ok (.dup, 1) := by decide +kernel
theorem dX1_addReading_56 : decode cX1_addReading 56 = .ok (.getfield 29, 3) := by decide +kernel
theorem dX1_addReading_59 : decode cX1_addReading 59 = .ok (.iconst 1, 1) := by decide +kernel
theorem dX1_addReading_60 : decode cX1_addReading 60 = .ok (.iadd, 1) := by decide +kernel
theorem dX1_addReading_61 : decode cX1_addReading 61 = .ok (.putfield 29, 3) := by decide +kernel
theorem dX1_addReading_64 : decode cX1_addReading 64 = .ok (.aload_n 0, 1) := by decide +kernel
theorem dX1_addReading_65 : decode cX1_addReading 65 = .ok (.getfield 29, 3) := by decide +kernel
theorem dX1_addReading_68 : decode cX1_addReading 68 = .ok (.ireturn, 1) := by decide +kernel
theorem dX1_possibleKinds_0 : decode cX1_possibleKinds 0 = .ok (.aload_n 0, 1) := by decide +kernel
theorem dX1_possibleKinds_1 : decode cX1_possibleKinds 1 = .ok (.getfield 12, 3) := by decide +kernel
theorem dX1_possibleKinds_4 : decode cX1_possibleKinds 4 = .ok (.iload_n 1, 1) := by decide +kernel
theorem dX1_possibleKinds_5 : decode cX1_possibleKinds 5 = .ok (.invokevirtual 58, 3) := by decide +kernel
theorem dX1_possibleKinds_8 : decode cX1_possibleKinds 8 = .ok (.ifCond .eq 5, 3) := by decide +kernel
theorem dX1_possibleKinds_11 : decode cX1_possibleKinds 11 = .ok (.iconst 0, 1) := by decide +kernel
theorem dX1_possibleKinds_12 : decode cX1_possibleKinds 12 = .ok (.ireturn, 1) := by decide +kernel
theorem dX1_possibleKinds_13 : decode cX1_possibleKinds 13 = .ok (.iconst 0, 1) := by decide +kernel
theorem dX1_possibleKinds_14 : decode cX1_possibleKinds 14 = .ok (.istore_n 2, 1) := by decide +kernel
theorem dX1_possibleKinds_15 : decode cX1_possibleKinds 15 = .ok (.iconst 0, 1) := by decide +kernel
theorem dX1_possibleKinds_16 : decode cX1_possibleKinds 16 = .ok (.istore_n 3, 1) := by decide +kernel
theorem dX1_possibleKinds_17 : decode cX1_possibleKinds 17 = .ok (.iload_n 3, 1) := by decide +kernel
theorem dX1_possibleKinds_18 : decode cX1_possibleKinds 18 = .ok (.bipush 6, 2) := by decide +kernel
theorem dX1_possibleKinds_20 : decode cX1_possibleKinds 20 = .ok (.if_icmp .ge 24, 3) := by decide +kernel
theorem dX1_possibleKinds_23 : decode cX1_possibleKinds 23 = .ok (.aload_n 0, 1) := by decide +kernel
theorem dX1_possibleKinds_24 : decode cX1_possibleKinds 24 = .ok (.iload_n 1, 1) := by decide +kernel
theorem dX1_possibleKinds_25 : decode cX1_possibleKinds 25 = .ok (.iload_n 3, 1) := by decide +kernel
theorem dX1_possibleKinds_26 : decode cX1_possibleKinds 26 = .ok (.invokevirtual 62, 3) := by decide +kernel
theorem dX1_possibleKinds_29 : decode cX1_possibleKinds 29 = .ok (.ifCond .eq 9, 3) := by decide +kernel
theorem dX1_possibleKinds_32 : decode cX1_possibleKinds 32 = .ok (.iload_n 2, 1) := by decide +kernel
theorem dX1_possibleKinds_33 : decode cX1_possibleKinds 33 = .ok (.iconst 1, 1) := by decide +kernel
theorem dX1_possibleKinds_34 : decode cX1_possibleKinds 34 = .ok (.iload_n 3, 1) := by decide +kernel
theorem dX1_possibleKinds_35 : decode cX1_possibleKinds 35 = .ok (.ishl, 1) := by decide +kernel
theorem dX1_possibleKinds_36 : decode cX1_possibleKinds 36 = .ok (.ior, 1) := by decide +kernel
theorem dX1_possibleKinds_37 : decode cX1_possibleKinds 37 = .ok (.istore_n 2, 1) := by decide +kernel
theorem dX1_possibleKinds_38 : decode cX1_possibleKinds 38 = .ok (.iinc 3 1, 3) := by decide +kernel
theorem dX1_possibleKinds_41 : decode cX1_possibleKinds 41 = .ok (.goto (-24), 3) := by decide +kernel
theorem dX1_possibleKinds_44 : decode cX1_possibleKinds 44 = .ok (.iload_n 2, 1) := by decide +kernel
theorem dX1_possibleKinds_45 : decode cX1_possibleKinds 45 = .ok (.ireturn, 1) := by decide +kernel
theorem dX1_agrees_0 : decode cX1_agrees 0 = .ok (.iconst 0, 1) := by decide +kernel
theorem dX1_agrees_1 : decode cX1_agrees 1 = .ok (.istore_n 3, 1) := by decide +kernel
theorem dX1_agrees_2 : decode cX1_agrees 2 = .ok (.iload_n 3, 1) := by decide +kernel
theorem dX1_agrees_3 : decode cX1_agrees 3 = .ok (.aload_n 0, 1) := by decide +kernel
theorem dX1_agrees_4 : decode cX1_agrees 4 = .ok (.getfield 29, 3) := by decide +kernel
theorem dX1_agrees_7 : decode cX1_agrees 7 = .ok (.if_icmp .ge 58, 3) := by decide +kernel
theorem dX1_agrees_10 : decode cX1_agrees 10 = .ok (.aload_n 0, 1) := by decide +kernel
theorem dX1_agrees_11 : decode cX1_agrees 11 = .ok (.getfield 18, 3) := by decide +kernel
theorem dX1_agrees_14 : decode cX1_agrees 14 = .ok (.iconst 3, 1) := by decide +kernel
theorem dX1_agrees_15 : decode cX1_agrees 15 = .ok (.iload_n 3, 1) := by decide +kernel
theorem dX1_agrees_16 : decode cX1_agrees 16 = .ok (.imul, 1) := by decide +kernel
theorem dX1_agrees_17 : decode cX1_agrees 17 = .ok (.iaload, 1) := by decide +kernel
theorem dX1_agrees_18 : decode cX1_agrees 18 = .ok (.iload_n 1, 1) := by decide +kernel
theorem dX1_agrees_19 : decode cX1_agrees 19 = .ok (.if_icmp .eq 6, 3) := by decide +kernel
theorem dX1_agrees_22 : decode cX1_agrees 22 = .ok (.goto 37, 3) := by decide +kernel
theorem dX1_agrees_25 : decode cX1_agrees 25 = .ok (.aload_n 0, 1) := by decide +kernel
theorem dX1_agrees_26 : decode cX1_agrees 26 = .ok (.getfield 12, 3) := by decide +kernel
theorem dX1_agrees_29 : decode cX1_agrees 29 = .ok (.iload_n 1, 1) := by decide +kernel
theorem dX1_agrees_30 : decode cX1_agrees 30 = .ok (.iload_n 2, 1) := by decide +kernel
theorem dX1_agrees_31 : decode cX1_agrees 31 = .ok (.aload_n 0, 1) := by decide +kernel
theorem dX1_agrees_32 : decode cX1_agrees 32 = .ok (.getfield 18, 3) := by decide +kernel
theorem dX1_agrees_35 : decode cX1_agrees 35 = .ok (.iconst 3, 1) := by decide +kernel
theorem dX1_agrees_36 : decode cX1_agrees 36 = .ok (.iload_n 3, 1) := by decide +kernel
theorem dX1_agrees_37 : decode cX1_agrees 37 = .ok (.imul, 1) := by decide +kernel
theorem dX1_agrees_38 : decode cX1_agrees 38 = .ok (.iconst 1, 1) := by decide +kernel
theorem dX1_agrees_39 : decode cX1_agrees 39 = .ok (.iadd, 1) := by decide +kernel
theorem dX1_agrees_40 : decode cX1_agrees 40 = .ok (.iaload, 1) := by decide +kernel
theorem dX1_agrees_41 : decode cX1_agrees 41 = .ok (.invokevirtual 66, 3) := by decide +kernel
theorem dX1_agrees_44 : decode cX1_agrees 44 = .ok (.aload_n 0, 1) := by decide +kernel
theorem dX1_agrees_45 : decode cX1_agrees 45 = .ok (.getfield 18, 3) := by decide +kernel
theorem dX1_agrees_48 : decode cX1_agrees 48 = .ok (.iconst 3, 1) := by decide +kernel
theorem dX1_agrees_49 : decode cX1_agrees 49 = .ok (.iload_n 3, 1) := by decide +kernel
theorem dX1_agrees_50 : decode cX1_agrees 50 = .ok (.imul, 1) := by decide +kernel
theorem dX1_agrees_51 : decode cX1_agrees 51 = .ok (.iconst 2, 1) := by decide +kernel
theorem dX1_agrees_52 : decode cX1_agrees 52 = .ok (.iadd, 1) := by decide +kernel
theorem dX1_agrees_53 : decode cX1_agrees 53 = .ok (.iaload, 1) := by decide +kernel
theorem dX1_agrees_54 : decode cX1_agrees 54 = .ok (.if_icmp .eq 5, 3) := by decide +kernel
theorem dX1_agrees_57 : decode cX1_agrees 57 = .ok (.iconst 0, 1) := by decide +kernel
theorem dX1_agrees_58 : decode cX1_agrees 58 = .ok (.ireturn, 1) := by decide +kernel
theorem dX1_agrees_59 : decode cX1_agrees 59 = .ok (.iinc 3 1, 3) := by decide +kernel
theorem dX1_agrees_62 : decode cX1_agrees 62 = .ok (.goto (-60), 3) := by decide +kernel
theorem dX1_agrees_65 : decode cX1_agrees 65 = .ok (.iconst 1, 1) := by decide +kernel
theorem dX1_agrees_66 : decode cX1_agrees 66 = .ok (.ireturn, 1) := by decide +kernel
theorem dX1_digestedReadings_0 : decode cX1_digestedReadings 0 = .ok (.iconst 0, 1) := by decide +kernel
theorem dX1_digestedReadings_1 : decode cX1_digestedReadings 1 = .ok (.istore_n 3, 1) := by decide +kernel
theorem dX1_digestedReadings_2 : decode cX1_digestedReadings 2 = .ok (.iload_n 3, 1) := by decide +kernel
theorem dX1_digestedReadings_3 : decode cX1_digestedReadings 3 = .ok (.iconst 3, 1) := by decide +kernel
theorem dX1_digestedReadings_4 : decode cX1_digestedReadings 4 = .ok (.aload_n 0, 1) := by decide +kernel
theorem dX1_digestedReadings_5 : decode cX1_digestedReadings 5 = .ok (.getfield 29, 3) := by decide +kernel
theorem dX1_digestedReadings_8 : decode cX1_digestedReadings 8 = .ok (.imul, 1) := by decide +kernel
theorem dX1_digestedReadings_9 : decode cX1_digestedReadings 9 = .ok (.if_icmp .ge 23, 3) := by decide +kernel
theorem dX1_digestedReadings_12 : decode cX1_digestedReadings 12 = .ok (.ldc2_w 70, 3) := by decide +kernel
theorem dX1_digestedReadings_15 : decode cX1_digestedReadings 15 = .ok (.lload_n 1, 1) := by decide +kernel
theorem dX1_digestedReadings_16 : decode cX1_digestedReadings 16 = .ok (.lmul, 1) := by decide +kernel
theorem dX1_digestedReadings_17 : decode cX1_digestedReadings 17 = .ok (.aload_n 0, 1) := by decide +kernel
theorem dX1_digestedReadings_18 : decode cX1_digestedReadings 18 = .ok (.getfield 18, 3) := by decide +kernel
theorem dX1_digestedReadings_21 : decode cX1_digestedReadings 21 = .ok (.iload_n 3, 1) := by decide +kernel
theorem dX1_digestedReadings_22 : decode cX1_digestedReadings 22 = .ok (.iaload, 1) := by decide +kernel
theorem dX1_digestedReadings_23 : decode cX1_digestedReadings 23 = .ok (.i2l, 1) := by decide +kernel
theorem dX1_digestedReadings_24 : decode cX1_digestedReadings 24 = .ok (.ladd, 1) := by decide +kernel
theorem dX1_digestedReadings_25 : decode cX1_digestedReadings 25 = .ok (.lstore_n 1, 1) := by decide +kernel
theorem dX1_digestedReadings_26 : decode cX1_digestedReadings 26 = .ok (.iinc 3 1, 3) := by decide +kernel
theorem dX1_digestedReadings_29 : decode cX1_digestedReadings 29 = .ok (.goto (-27), 3) := by decide +kernel
theorem dX1_digestedReadings_32 : decode cX1_digestedReadings 32 = .ok (.lload_n 1, 1) := by decide +kernel
theorem dX1_digestedReadings_33 : decode cX1_digestedReadings 33 = .ok (.lreturn, 1) := by decide +kernel
theorem dX2_init_0 : decode cX2_init 0 = .ok (.aload_n 0, 1) := by decide +kernel
theorem dX2_init_1 : decode cX2_init 1 = .ok (.invokespecial 3, 3) := by decide +kernel
theorem dX2_init_4 : decode cX2_init 4 = .ok (.aload_n 0, 1) := by decide +kernel
theorem dX2_init_5 : decode cX2_init 5 = .ok (.sipush 150, 3) := by decide +kernel
theorem dX2_init_8 : decode cX2_init 8 = .ok (.newarray .int, 2) := by decide +kernel
theorem dX2_init_10 : decode cX2_init 10 = .ok (.putfield 9, 3) := by decide +kernel
theorem dX2_init_13 : decode cX2_init 13 = .ok (.aload_n 0, 1) := by decide +kernel
theorem dX2_init_14 : decode cX2_init 14 = .ok (.bipush 25, 2) := by decide +kernel
theorem dX2_init_16 : decode cX2_init 16 = .ok (.newarray .int, 2) := by decide +kernel
theorem dX2_init_18 : decode cX2_init 18 = .ok (.putfield 15, 3) := by decide +kernel
theorem dX2_init_21 : decode cX2_init 21 = .ok (.aload_n 0, 1) := by decide +kernel
theorem dX2_init_22 : decode cX2_init 22 = .ok (.bipush 100, 2) := by decide +kernel
theorem dX2_init_24 : decode cX2_init 24 = .ok (.newarray .int, 2) := by decide +kernel
theorem dX2_init_26 : decode cX2_init 26 = .ok (.putfield 18, 3) := by decide +kernel
theorem dX2_init_29 : decode cX2_init 29 = .ok (.return_, 1) := by decide +kernel
theorem dX2_fault_0 : decode cX2_fault 0 = .ok (.aload_n 0, 1) := by decide +kernel
theorem dX2_fault_1 : decode cX2_fault 1 = .ok (.iconst 0, 1) := by decide +kernel
theorem dX2_fault_2 : decode cX2_fault 2 = .ok (.putfield 21, 3) := by decide +kernel
theorem dX2_fault_5 : decode cX2_fault 5 = .ok (.aload_n 0, 1) := by decide +kernel
theorem dX2_fault_6 : decode cX2_fault 6 = .ok (.iconst 0, 1) := by decide +kernel
theorem dX2_fault_7 : decode cX2_fault 7 = .ok (.putfield 25, 3) := by decide +kernel
theorem dX2_fault_10 : decode cX2_fault 10 = .ok (.aload_n 0, 1) := by decide +kernel
theorem dX2_fault_11 : decode cX2_fault 11 = .ok (.invokevirtual 28, 3) := by decide +kernel
theorem dX2_fault_14 : decode cX2_fault 14 = .ok (.iconst 0, 1) := by decide +kernel
theorem dX2_fault_15 : decode cX2_fault 15 = .ok (.istore_n 1, 1) := by decide +kernel
theorem dX2_fault_16 : decode cX2_fault 16 = .ok (.iload_n 1, 1) := by decide +kernel
theorem dX2_fault_17 : decode cX2_fault 17 = .ok (.bipush 25, 2) := by decide +kernel
theorem dX2_fault_19 : decode cX2_fault 19 = .ok (.if_icmp .ge 34, 3) := by decide +kernel
theorem dX2_fault_22 : decode cX2_fault 22 = .ok (.aload_n 0, 1) := by decide +kernel
theorem dX2_fault_23 : decode cX2_fault 23 = .ok (.invokevirtual 31, 3) := by decide +kernel
theorem dX2_fault_26 : decode cX2_fault 26 = .ok (.ifCond .ne 8, 3) := by decide +kernel
theorem dX2_fault_29 : decode cX2_fault 29 = .ok (.aload_n 0, 1) := by decide +kernel
theorem dX2_fault_30 : decode cX2_fault 30 = .ok (.getfield 35, 3) := by decide +kernel
theorem dX2_fault_33 : decode cX2_fault 33 = .ok (.ireturn, 1) := by decide +kernel
theorem dX2_fault_34 : decode cX2_fault 34 = .ok (.aload_n 0, 1) := by decide +kernel
theorem dX2_fault_35 : decode cX2_fault 35 = .ok (.invokevirtual 28, 3) := by decide +kernel
theorem dX2_fault_38 : decode cX2_fault 38 = .ok (.aload_n 0, 1) := by decide +kernel
theorem dX2_fault_39 : decode cX2_fault 39 = .ok (.getfield 38, 3) := by decide +kernel
theorem dX2_fault_42 : decode cX2_fault 42 = .ok (.ifCond .ne 5, 3) := by decide +kernel
theorem dX2_fault_45 : decode cX2_fault 45 = .ok (.iconst (-1), 1) := by decide +kernel
theorem dX2_fault_46 : decode cX2_fault 46 = .ok (.ireturn, 1) := by decide +kernel
theorem dX2_fault_47 : decode cX2_fault 47 = .ok (.iinc 1 1, 3) := by decide +kernel
theorem dX2_fault_50 : decode cX2_fault 50 = .ok (.goto (-34), 3) := by decide +kernel
theorem dX2_fault_53 : decode cX2_fault 53 = .ok (.aload_n 0, 1) := by decide +kernel
theorem dX2_fault_54 : decode cX2_fault 54 = .ok (.getfield 35, 3) := by decide +kernel
theorem dX2_fault_57 : decode cX2_fault 57 = .ok (.ireturn, 1) := by decide +kernel
theorem dX2_takeItem_0 : decode cX2_takeItem 0 = .ok (.aload_n 0, 1) := by decide +kernel
theorem dX2_takeItem_1 : decode cX2_takeItem 1 = .ok (.getfield 21, 3) := by decide +kernel
theorem dX2_takeItem_4 : decode cX2_takeItem 4 = .ok (.bipush 25, 2) := by decide +kernel
theorem dX2_takeItem_6 : decode cX2_takeItem 6 = .ok (.if_icmp .ge 22, 3) := by decide +kernel
theorem dX2_takeItem_9 : decode cX2_takeItem 9 = .ok (.aload_n 0, 1) := by decide +kernel
theorem dX2_takeItem_10 : decode cX2_takeItem 10 = .ok (.getfield 38, 3) := by decide +kernel
theorem dX2_takeItem_13 : decode cX2_takeItem 13 = .ok (.iconst 1, 1) := by decide +kernel
theorem dX2_takeItem_14 : decode cX2_takeItem 14 = .ok (.if_icmp .ne 14, 3) := by decide +kernel
theorem dX2_takeItem_17 : decode cX2_takeItem 17 = .ok (.aload_n 0, 1) := by decide +kernel
theorem dX2_takeItem_18 : decode cX2_takeItem 18 = .ok (.getfield 41, 3) := by decide +kernel
theorem dX2_takeItem_21 : decode cX2_takeItem 21 = .ok (.iconst 3, 1) := by decide +kernel
theorem dX2_takeItem_22 : decode cX2_takeItem 22 = .ok (.invokestatic 44, 3) := by decide +kernel
theorem dX2_takeItem_25 : decode cX2_takeItem 25 = .ok (.ifCond .ne 5, 3) := by decide +kernel
theorem dX2_takeItem_28 : decode cX2_takeItem 28 = .ok (.iconst 0, 1) := by decide +kernel
theorem dX2_takeItem_29 : decode cX2_takeItem 29 = .ok (.ireturn, 1) := by decide +kernel
theorem dX2_takeItem_30 : decode cX2_takeItem 30 = .ok (.aload_n 0, 1) := by decide +kernel
theorem dX2_takeItem_31 : decode cX2_takeItem 31 = .ok (.getfield 41, 3) := by decide +kernel
theorem dX2_takeItem_34 : decode cX2_takeItem 34 = .ok (.ifCond .ne 7, 3) := by decide +kernel
theorem dX2_takeItem_37 : decode cX2_takeItem 37 = .ok (.iconst 1, 1) := by decide +kernel
theorem dX2_takeItem_38 : decode cX2_takeItem 38 = .ok (.goto 4, 3) := by decide +kernel
theorem dX2_takeItem_41 : decode cX2_takeItem 41 = .ok (.iconst 0, 1) := by decide +kernel
theorem dX2_takeItem_42 : decode cX2_takeItem 42 = .ok (.aload_n 0, 1) := by decide +kernel
theorem dX2_takeItem_43 : decode cX2_takeItem 43 = .ok (.getfield 21, 3) := by decide +kernel
theorem dX2_takeItem_46 : decode cX2_takeItem 46 = .ok (.ifCond .ne 7, 3) := by decide +kernel
theorem dX2_takeItem_49 : decode cX2_takeItem 49 = .ok (.iconst 1, 1) := by decide +kernel
theorem dX2_takeItem_50 : decode cX2_takeItem 50 = .ok (.goto 4, 3) := by decide +kernel
theorem dX2_takeItem_53 : decode cX2_takeItem 53 = .ok (.iconst 0, 1) := by decide +kernel
theorem dX2_takeItem_54 : decode cX2_takeItem 54 = .ok (.if_icmp .eq 5, 3) := by decide +kernel
theorem dX2_takeItem_57 : decode cX2_takeItem 57 = .ok (.iconst 0, 1) := by decide +kernel
theorem dX2_takeItem_58 : decode cX2_takeItem 58 = .ok (.ireturn, 1) := by decide +kernel
theorem dX2_takeItem_59 : decode cX2_takeItem 59 = .ok (.aload_n 0, 1) := by decide +kernel
theorem dX2_takeItem_60 : decode cX2_takeItem 60 = .ok (.getfield 15, 3) := by decide +kernel
theorem dX2_takeItem_63 : decode cX2_takeItem 63 = .ok (.aload_n 0, 1) := by decide +kernel
theorem dX2_takeItem_64 : decode cX2_takeItem 64 = .ok (.getfield 21, 3) := by decide +kernel
theorem dX2_takeItem_67 : decode cX2_takeItem 67 = .ok (.aload_n 0, 1) := by decide +kernel
theorem dX2_takeItem_68 : decode cX2_takeItem 68 = .ok (.getfield 41, 3) := by decide +kernel
theorem dX2_takeItem_71 : decode cX2_takeItem 71 = .ok (.iastore, 1) := by decide +kernel
theorem dX2_takeItem_72 : decode cX2_takeItem 72 = .ok (.getstatic 48, 3) := by decide +kernel
theorem dX2_takeItem_75 : decode cX2_takeItem 75 = .ok (.aload_n 0, 1) := by decide +kernel
theorem dX2_takeItem_76 : decode cX2_takeItem 76 = .ok (.getfield 41, 3) := by decide +kernel
theorem dX2_takeItem_79 : decode cX2_takeItem 79 = .ok (.iaload, 1) := by decide +kernel
theorem dX2_takeItem_80 : decode cX2_takeItem 80 = .ok (.istore_n 1, 1) := by decide +kernel
theorem dX2_takeItem_81 : decode cX2_takeItem 81 = .ok (.iconst 0, 1) := by decide +kernel
theorem dX2_takeItem_82 : decode cX2_takeItem 82 = .ok (.istore_n 2, 1) := by decide +kernel
theorem dX2_takeItem_83 : decode cX2_takeItem 83 = .ok (.iload_n 2, 1) := by decide +kernel
theorem dX2_takeItem_84 : decode cX2_takeItem 84 = .ok (.iload_n 1, 1) := by decide +kernel
theorem dX2_takeItem_85 : decode cX2_takeItem 85 = .ok (.if_icmp .ge 45, 3) := by decide +kernel
theorem dX2_takeItem_88 : decode cX2_takeItem 88 = .ok (.iload_n 2, 1) := by decide +kernel
theorem dX2_takeItem_89 : decode cX2_takeItem 89 = .ok (.iconst 4, 1) := by decide +kernel
theorem dX2_takeItem_90 : decode cX2_takeItem 90 = .ok (.if_icmp .ge 40, 3) := by decide +kernel
theorem dX2_takeItem_93 : decode cX2_takeItem 93 = .ok (.aload_n 0, 1) := by decide +kernel
theorem dX2_takeItem_94 : decode cX2_takeItem 94 = .ok (.invokevirtual 28, 3) := by decide +kernel
theorem dX2_takeItem_97 : decode cX2_takeItem 97 = .ok (.aload_n 0, 1) := by decide +kernel
theorem dX2_takeItem_98 : decode cX2_takeItem 98 = .ok (.getfield 38, 3) := by decide +kernel
theorem dX2_takeItem_101 : decode cX2_takeItem 101 = .ok (.iconst 2, 1) := by decide +kernel
theorem dX2_takeItem_102 : decode cX2_takeItem 102 = .ok (.if_icmp .eq 5, 3) := by decide +kernel
theorem dX2_takeItem_105 : decode cX2_takeItem 105 = .ok (.iconst 0, 1) := by decide +kernel
theorem dX2_takeItem_106 : decode cX2_takeItem 106 = .ok (.ireturn, 1) := by decide +kernel
theorem dX2_takeItem_107 : decode cX2_takeItem 107 = .ok (.aload_n 0, 1) := by decide +kernel
theorem dX2_takeItem_108 : decode cX2_takeItem 108 = .ok (.getfield 18, 3) := by decide +kernel
theorem dX2_takeItem_111 : decode cX2_takeItem 111 = .ok (.aload_n 0, 1) := by decide +kernel
theorem dX2_takeItem_112 : decode cX2_takeItem 112 = .ok (.getfield 21, 3) := by decide +kernel
theorem dX2_takeItem_115 : decode cX2_takeItem 115 = .ok (.iconst 4, 1) := by decide +kernel
theorem dX2_takeItem_116 : decode cX2_takeItem 116 = .ok (.imul, 1) := by decide +kernel
theorem dX2_takeItem_117 : decode cX2_takeItem 117 = .ok (.iload_n 2, 1) := by decide +kernel
theorem dX2_takeItem_118 : decode cX2_takeItem 118 = .ok (.iadd, 1) := by decide +kernel
theorem dX2_takeItem_119 : decode cX2_takeItem 119 = .ok (.aload_n 0, 1) := by decide +kernel
theorem dX2_takeItem_120 : decode cX2_takeItem 120 = .ok (.getfield 41, 3) := by decide +kernel
theorem dX2_takeItem_123 : decode cX2_takeItem 123 = .ok (.iastore, 1) := by decide +kernel
theorem dX2_takeItem_124 : decode cX2_takeItem 124 = .ok (.iinc 2 1, 3) := by decide +kernel
theorem dX2_takeItem_127 : decode cX2_takeItem 127 = .ok (.goto (-44), 3) := by decide +kernel
theorem dX2_takeItem_130 : decode cX2_takeItem 130 = .ok (.aload_n 0, 1) := by decide +kernel
theorem dX2_takeItem_131 : decode cX2_takeItem 131 = .ok (.invokevirtual 28, 3) := by decide +kernel
theorem dX2_takeItem_134 : decode cX2_takeItem 134 = .ok (.aload_n 0, 1) := by decide +kernel
theorem dX2_takeItem_135 : decode cX2_takeItem 135 = .ok (.getfield 38, 3) := by decide +kernel
theorem dX2_takeItem_138 : decode cX2_takeItem 138 = .ok (.iconst 3, 1) := by decide +kernel
theorem dX2_takeItem_139 : decode cX2_takeItem 139 = .ok (.if_icmp .eq 5, 3) := by decide +kernel
theorem dX2_takeItem_142 : decode cX2_takeItem 142 = .ok (.iconst 0, 1) := by decide +kernel
theorem dX2_takeItem_143 : decode cX2_takeItem 143 = .ok (.ireturn, 1) := by decide +kernel
theorem dX2_takeItem_144 : decode cX2_takeItem 144 = .ok (.aload_n 0, 1) := by decide +kernel
theorem dX2_takeItem_145 : decode cX2_takeItem 145 = .ok (.dup, 1) := by decide +kernel
theorem dX2_takeItem_146 : decode cX2_takeItem 146 = .ok (.getfield 21, 3) := by decide +kernel
theorem dX2_takeItem_149 : decode cX2_takeItem 149 = .ok (.iconst 1, 1) := by decide +kernel
theorem dX2_takeItem_150 : decode cX2_takeItem 150 = .ok (.iadd, 1) := by decide +kernel
theorem dX2_takeItem_151 : decode cX2_takeItem 151 = .ok (.putfield 21, 3) := by decide +kernel
theorem dX2_takeItem_154 : decode cX2_takeItem 154 = .ok (.iconst 1, 1) := by decide +kernel
theorem dX2_takeItem_155 : decode cX2_takeItem 155 = .ok (.ireturn, 1) := by decide +kernel
theorem dX2_step_0 : decode cX2_step 0 = .ok (.aload_n 0, 1) := by decide +kernel
theorem dX2_step_1 : decode cX2_step 1 = .ok (.aload_n 0, 1) := by decide +kernel
theorem dX2_step_2 : decode cX2_step 2 = .ok (.getfield 25, 3) := by decide +kernel
theorem dX2_step_5 : decode cX2_step 5 = .ok (.putfield 35, 3) := by decide +kernel
theorem dX2_step_8 : decode cX2_step 8 = .ok (.aload_n 0, 1) := by decide +kernel
theorem dX2_step_9 : decode cX2_step 9 = .ok (.getfield 35, 3) := by decide +kernel
theorem dX2_step_12 : decode cX2_step 12 = .ok (.aload_n 0, 1) := by decide +kernel
theorem dX2_step_13 : decode cX2_step 13 = .ok (.getfield 51, 3) := by decide +kernel
theorem dX2_step_16 : decode cX2_step 16 = .ok (.if_icmp .ge 40, 3) := by decide +kernel
theorem dX2_step_19 : decode cX2_step 19 = .ok (.aload_n 0, 1) := by decide +kernel
theorem dX2_step_20 : decode cX2_step 20 = .ok (.getfield 35, 3) := by decide +kernel
theorem dX2_step_23 : decode cX2_step 23 = .ok (.sipush 150, 3) := by decide +kernel
theorem dX2_step_26 : decode cX2_step 26 = .ok (.if_icmp .ge 30, 3) := by decide +kernel
theorem dX2_step_29 : decode cX2_step 29 = .ok (.aload_n 0, 1) := by decide +kernel
theorem dX2_step_30 : decode cX2_step 30 = .ok (.getfield 9, 3) := by decide +kernel
theorem dX2_step_33 : decode cX2_step 33 = .ok (.aload_n 0, 1) := by decide +kernel
theorem dX2_step_34 : decode cX2_step 34 = .ok (.getfield 35, 3) := by decide +kernel
theorem dX2_step_37 : decode cX2_step 37 = .ok (.iaload, 1) := by decide +kernel
theorem dX2_step_38 : decode cX2_step 38 = .ok (.bipush 32, 2) := by decide +kernel
theorem dX2_step_40 : decode cX2_step 40 = .ok (.if_icmp .ne 16, 3) := by decide +kernel
theorem dX2_step_43 : decode cX2_step 43 = .ok (.aload_n 0, 1) := by decide +kernel
theorem dX2_step_44 : decode cX2_step 44 = .ok (.dup, 1) := by decide +kernel
theorem dX2_step_45 : decode cX2_step 45 = .ok (.getfield 35, 3) := by decide +kernel
theorem dX2_step_48 : decode cX2_step 48 = .ok (.iconst 1, 1) := by decide +kernel
theorem dX2_step_49 : decode cX2_step 49 = .ok (.iadd, 1) := by decide +kernel
theorem dX2_step_50 : decode cX2_step 50 = .ok (.putfield 35, 3) := by decide +kernel
theorem dX2_step_53 : decode cX2_step 53 = .ok (.goto (-45), 3) := by decide +kernel
theorem dX2_step_56 : decode cX2_step 56 = .ok (.aload_n 0, 1) := by decide +kernel
theorem dX2_step_57 : decode cX2_step 57 = .ok (.aload_n 0, 1) := by decide +kernel
theorem dX2_step_58 : decode cX2_step 58 = .ok (.getfield 35, 3) := by decide +kernel
theorem dX2_step_61 : decode cX2_step 61 = .ok (.putfield 25, 3) := by decide +kernel
theorem dX2_step_64 : decode cX2_step 64 = .ok (.aload_n 0, 1) := by decide +kernel
theorem dX2_step_65 : decode cX2_step 65 = .ok (.iconst 0, 1) := by decide +kernel
theorem dX2_step_66 : decode cX2_step 66 = .ok (.putfield 38, 3) := by decide +kernel
theorem dX2_step_69 : decode cX2_step 69 = .ok (.aload_n 0, 1) := by decide +kernel
theorem dX2_step_70 : decode cX2_step 70 = .ok (.getfield 35, 3) := by decide +kernel
theorem dX2_step_73 : decode cX2_step 73 = .ok (.aload_n 0, 1) := by decide +kernel
theorem dX2_step_74 : decode cX2_step 74 = .ok (.getfield 51, 3) := by decide +kernel
theorem dX2_step_77 : decode cX2_step 77 = .ok (.if_icmp .ge 13, 3) := by decide +kernel
theorem dX2_step_80 : decode cX2_step 80 = .ok (.aload_n 0, 1) := by decide +kernel
theorem dX2_step_81 : decode cX2_step 81 = .ok (.getfield 35, 3) := by decide +kernel
theorem dX2_step_84 : decode cX2_step 84 = .ok (.sipush 150, 3) := by decide +kernel
theorem dX2_step_87 : decode cX2_step 87 = .ok (.if_icmp .lt 4, 3) := by decide +kernel
theorem dX2_step_90 : decode cX2_step 90 = .ok (.return_, 1) := by decide +kernel
theorem dX2_step_91 : decode cX2_step 91 = .ok (.aload_n 0, 1) := by decide +kernel
theorem dX2_step_92 : decode cX2_step 92 = .ok (.getfield 9, 3) := by decide +kernel
theorem dX2_step_95 : decode cX2_step 95 = .ok (.aload_n 0, 1) := by decide +kernel
theorem dX2_step_96 : decode cX2_step 96 = .ok (.getfield 35, 3) := by decide +kernel
theorem dX2_step_99 : decode cX2_step 99 = .ok (.iaload, 1) := by decide +kernel
theorem dX2_step_100 : decode cX2_step 100 = .ok (.invokestatic 54, 3) := by decide +kernel
theorem dX2_step_103 : decode cX2_step 103 = .ok (.ifCond .eq 10, 3) := by decide +kernel
theorem dX2_step_106 : decode cX2_step 106 = .ok (.aload_n 0, 1) := by decide +kernel
theorem dX2_step_107 : decode cX2_step 107 = .ok (.invokevirtual 58, 3) := by decide +kernel
theorem dX2_step_110 : decode cX2_step 110 = .ok (.goto 58, 3) := by decide +kernel
theorem dX2_step_113 : decode cX2_step 113 = .ok (.aload_n 0, 1) := by decide +kernel
theorem dX2_step_114 : decode cX2_step 114 = .ok (.getfield 9, 3) := by decide +kernel
theorem dX2_step_117 : decode cX2_step 117 = .ok (.aload_n 0, 1) := by decide +kernel
theorem dX2_step_118 : decode cX2_step 118 = .ok (.getfield 35, 3) := by decide +kernel
theorem dX2_step_121 : decode cX2_step 121 = .ok (.iaload, 1) := by decide +kernel
theorem dX2_step_122 : decode cX2_step 122 = .ok (.invokestatic 61, 3) := by decide +kernel
theorem dX2_step_125 : decode cX2_step 125 = .ok (.ifCond .eq 10, 3) := by decide +kernel
theorem dX2_step_128 : decode cX2_step 128 = .ok (.aload_n 0, 1) := by decide +kernel
theorem dX2_step_129 : decode cX2_step 129 = .ok (.invokevirtual 64, 3) := by decide +kernel
theorem dX2_step_132 : decode cX2_step 132 = .ok (.goto 36, 3) := by decide +kernel
theorem dX2_step_135 : decode cX2_step 135 = .ok (.aload_n 0, 1) := by decide +kernel
theorem dX2_step_136 : decode cX2_step 136 = .ok (.aload_n 0, 1) := by decide +kernel
theorem dX2_step_137 : decode cX2_step 137 = .ok (.getfield 9, 3) := by decide +kernel
theorem dX2_step_140 : decode cX2_step 140 = .ok (.aload_n 0, 1) := by decide +kernel
theorem dX2_step_141 : decode cX2_step 141 = .ok (.getfield 35, 3) := by decide +kernel
theorem dX2_step_144 : decode cX2_step 144 = .ok (.iaload, 1) := by decide +kernel
theorem dX2_step_145 : decode cX2_step 145 = .ok (.bipush 59, 2) := by decide +kernel
theorem dX2_step_147 : decode cX2_step 147 = .ok (.if_icmp .ne 7, 3) := by decide +kernel
theorem dX2_step_150 : decode cX2_step 150 = .ok (.iconst 3, 1) := by decide +kernel
theorem dX2_step_151 : decode cX2_step 151 = .ok (.goto 4, 3) := by decide +kernel
theorem dX2_step_154 : decode cX2_step 154 = .ok (.iconst 4, 1) := by decide +kernel
theorem dX2_step_155 : decode cX2_step 155 = .ok (.putfield 38, 3) := by decide +kernel
theorem dX2_step_158 : decode cX2_step 158 = .ok (.aload_n 0, 1) := by decide +kernel
theorem dX2_step_159 : decode cX2_step 159 = .ok (.aload_n 0, 1) := by decide +kernel
theorem dX2_step_160 : decode cX2_step 160 = .ok (.getfield 35, 3) := by decide +kernel
theorem dX2_step_163 : decode cX2_step 163 = .ok (.iconst 1, 1) := by decide +kernel
theorem dX2_step_164 : decode cX2_step 164 = .ok (.iadd, 1) := by decide +kernel
theorem dX2_step_165 : decode cX2_step 165 = .ok (.putfield 25, 3) := by decide +kernel
theorem dX2_step_168 : decode cX2_step 168 = .ok (.return_, 1) := by decide +kernel
theorem dX2_takeWord_0 : decode cX2_takeWord 0 = .ok (.aload_n 0, 1) := by decide +kernel
theorem dX2_takeWord_1 : decode cX2_takeWord 1 = .ok (.getfield 25, 3) := by decide +kernel
theorem dX2_takeWord_4 : decode cX2_takeWord 4 = .ok (.aload_n 0, 1) := by decide +kernel
theorem dX2_takeWord_5 : decode cX2_takeWord 5 = .ok (.getfield 51, 3) := by decide +kernel
theorem dX2_takeWord_8 : decode cX2_takeWord 8 = .ok (.if_icmp .ge 41, 3) := by decide +kernel
theorem dX2_takeWord_11 : decode cX2_takeWord 11 = .ok (.aload_n 0, 1) := by decide +kernel
theorem dX2_takeWord_12 : decode cX2_takeWord 12 = .ok (.getfield 25, 3) := by decide +kernel
theorem dX2_takeWord_15 : decode cX2_takeWord 15 = .ok (.sipush 150, 3) := by decide +kernel
theorem dX2_takeWord_18 : decode cX2_takeWord 18 = .ok (.if_icmp .ge 31, 3) := by decide +kernel
theorem dX2_takeWord_21 : decode cX2_takeWord 21 = .ok (.aload_n 0, 1) := by decide +kernel
theorem dX2_takeWord_22 : decode cX2_takeWord 22 = .ok (.getfield 9, 3) := by decide +kernel
theorem dX2_takeWord_25 : decode cX2_takeWord 25 = .ok (.aload_n 0, 1) := by decide +kernel
theorem dX2_takeWord_26 : decode cX2_takeWord 26 = .ok (.getfield 25, 3) := by decide +kernel
theorem dX2_takeWord_29 : decode cX2_takeWord 29 = .ok (.iaload, 1) := by decide +kernel
theorem dX2_takeWord_30 : decode cX2_takeWord 30 = .ok (.invokestatic 54, 3) := by decide +kernel
theorem dX2_takeWord_33 : decode cX2_takeWord 33 = .ok (.ifCond .eq 16, 3) := by decide +kernel
theorem dX2_takeWord_36 : decode cX2_takeWord 36 = .ok (.aload_n 0, 1) := by decide +kernel
theorem dX2_takeWord_37 : decode cX2_takeWord 37 = .ok (.dup, 1) := by decide +kernel
theorem dX2_takeWord_38 : decode cX2_takeWord 38 = .ok (.getfield 25, 3) := by decide +kernel
theorem dX2_takeWord_41 : decode cX2_takeWord 41 = .ok (.iconst 1, 1) := by decide +kernel
theorem dX2_takeWord_42 : decode cX2_takeWord 42 = .ok (.iadd, 1) := by decide +kernel
theorem dX2_takeWord_43 : decode cX2_takeWord 43 = .ok (.putfield 25, 3) := by decide +kernel
theorem dX2_takeWord_46 : decode cX2_takeWord 46 = .ok (.goto (-46), 3) := by decide +kernel
theorem dX2_takeWord_49 : decode cX2_takeWord 49 = .ok (.aload_n 0, 1) := by decide +kernel
theorem dX2_takeWord_50 : decode cX2_takeWord 50 = .ok (.iconst 4, 1) := by decide +kernel
theorem dX2_takeWord_51 : decode cX2_takeWord 51 = .ok (.putfield 38, 3) := by decide +kernel
theorem dX2_takeWord_54 : decode cX2_takeWord 54 = .ok (.iconst 0, 1) := by decide +kernel
theorem dX2_takeWord_55 : decode cX2_takeWord 55 = .ok (.istore_n 1, 1) := by decide +kernel
theorem dX2_takeWord_56 : decode cX2_takeWord 56 = .ok (.iload_n 1, 1) := by decide +kernel
theorem dX2_takeWord_57 : decode cX2_takeWord 57 = .ok (.iconst 3, 1) := by decide +kernel
theorem dX2_takeWord_58 : decode cX2_takeWord 58 = .ok (.if_icmp .ge 30, 3) := by decide +kernel
theorem dX2_takeWord_61 : decode cX2_takeWord 61 = .ok (.aload_n 0, 1) := by decide +kernel
theorem dX2_takeWord_62 : decode cX2_takeWord 62 = .ok (.iload_n 1, 1) := by decide +kernel
theorem dX2_takeWord_63 : decode cX2_takeWord 63 = .ok (.invokevirtual 67, 3) := by decide +kernel
theorem dX2_takeWord_66 : decode cX2_takeWord 66 = .ok (.ifCond .ne 6, 3) := by decide +kernel
theorem dX2_takeWord_69 : decode cX2_takeWord 69 = .ok (.goto 13, 3) := by decide +kernel
theorem dX2_takeWord_72 : decode cX2_takeWord 72 = .ok (.aload_n 0, 1) := by decide +kernel
theorem dX2_takeWord_73 : decode cX2_takeWord 73 = .ok (.iconst 1, 1) := by decide +kernel
theorem dX2_takeWord_74 : decode cX2_takeWord 74 = .ok (.putfield 38, 3) := by decide +kernel
theorem dX2_takeWord_77 : decode cX2_takeWord 77 = .ok (.aload_n 0, 1) := by decide +kernel
theorem dX2_takeWord_78 : decode cX2_takeWord 78 = .ok (.iload_n 1, 1) := by decide +kernel
theorem dX2_takeWord_79 : decode cX2_takeWord 79 = .ok (.putfield 41, 3) := by decide +kernel
theorem dX2_takeWord_82 : decode cX2_takeWord 82 = .ok (.iinc 1 1, 3) := by decide +kernel
theorem dX2_takeWord_85 : decode cX2_takeWord 85 = .ok (.goto (-29), 3) := by decide +kernel
theorem dX2_takeWord_88 : decode cX2_takeWord 88 = .ok (.return_, 1) := by decide +kernel
theorem dX2_spells_0 : decode cX2_spells 0 = .ok (.iload_n 1, 1) := by decide +kernel
theorem dX2_spells_1 : decode cX2_spells 1 = .ok (.iconst 3, 1) := by decide +kernel
theorem dX2_spells_2 : decode cX2_spells 2 = .ok (.invokestatic 44, 3) := by decide +kernel
theorem dX2_spells_5 : decode cX2_spells 5 = .ok (.ifCond .eq 16, 3) := by decide +kernel
theorem dX2_spells_8 : decode cX2_spells 8 = .ok (.aload_n 0, 1) := by decide +kernel
theorem dX2_spells_9 : decode cX2_spells 9 = .ok (.getfield 25, 3) := by decide +kernel
theorem dX2_spells_12 : decode cX2_spells 12 = .ok (.aload_n 0, 1) := by decide +kernel
theorem dX2_spells_13 : decode cX2_spells 13 = .ok (.getfield 35, 3) := by decide +kernel
theorem dX2_spells_16 : decode cX2_spells 16 = .ok (.isub, 1) := by decide +kernel
theorem dX2_spells_17 : decode cX2_spells 17 = .ok (.iconst 4, 1) := by decide +kernel
theorem dX2_spells_18 : decode cX2_spells 18 = .ok (.if_icmp .eq 5, 3) := by decide +kernel
theorem dX2_spells_21 : decode cX2_spells 21 = .ok (.iconst 0, 1) := by decide +kernel
theorem dX2_spells_22 : decode cX2_spells 22 = .ok (.ireturn, 1) := by decide +kernel
theorem dX2_spells_23 : decode cX2_spells 23 = .ok (.iconst 0, 1) := by decide +kernel
theorem dX2_spells_24 : decode cX2_spells 24 = .ok (.istore_n 2, 1) := by decide +kernel
theorem dX2_spells_25 : decode cX2_spells 25 = .ok (.iload_n 2, 1) := by decide +kernel
theorem dX2_spells_26 : decode cX2_spells 26 = .ok (.iconst 4, 1) := by decide +kernel
theorem dX2_spells_27 : decode cX2_spells 27 = .ok (.if_icmp .ge 46, 3) := by decide +kernel
theorem dX2_spells_30 : decode cX2_spells 30 = .ok (.aload_n 0, 1) := by decide +kernel
theorem dX2_spells_31 : decode cX2_spells 31 = .ok (.getfield 35, 3) := by decide +kernel
theorem dX2_spells_34 : decode cX2_spells 34 = .ok (.iload_n 2, 1) := by decide +kernel
theorem dX2_spells_35 : decode cX2_spells 35 = .ok (.iadd, 1) := by decide +kernel
theorem dX2_spells_36 : decode cX2_spells 36 = .ok (.sipush 150, 3) := by decide +kernel
theorem dX2_spells_39 : decode cX2_spells 39 = .ok (.if_icmp .ge 34, 3) := by decide +kernel
theorem dX2_spells_42 : decode cX2_spells 42 = .ok (.aload_n 0, 1) := by decide +kernel
theorem dX2_spells_43 : decode cX2_spells 43 = .ok (.getfield 9, 3) := by decide +kernel
theorem dX2_spells_46 : decode cX2_spells 46 = .ok (.aload_n 0, 1) := by decide +kernel
theorem dX2_spells_47 : decode cX2_spells 47 = .ok (.getfield 35, 3) := by decide +kernel
theorem dX2_spells_50 : decode cX2_spells 50 = .ok (.iload_n 2, 1) := by decide +kernel
theorem dX2_spells_51 : decode cX2_spells 51 = .ok (.iadd, 1) := by decide +kernel
theorem dX2_spells_52 : decode cX2_spells 52 = .ok (.iaload, 1) := by decide +kernel
theorem dX2_spells_53 : decode cX2_spells 53 = .ok (.getstatic 70, 3) := by decide +kernel
theorem dX2_spells_56 : decode cX2_spells 56 = .ok (.iconst 4, 1) := by decide +kernel
theorem dX2_spells_57 : decode cX2_spells 57 = .ok (.iload_n 1, 1) := by decide +kernel
theorem dX2_spells_58 : decode cX2_spells 58 = .ok (.imul, 1) := by decide +kernel
theorem dX2_spells_59 : decode cX2_spells 59 = .ok (.iload_n 2, 1) := by decide +kernel
theorem dX2_spells_60 : decode cX2_spells 60 = .ok (.iadd, 1) := by decide +kernel
theorem dX2_spells_61 : decode cX2_spells 61 = .ok (.iaload, 1) := by decide +kernel
theorem dX2_spells_62 : decode cX2_spells 62 = .ok (.if_icmp .eq 5, 3) := by decide +kernel
theorem dX2_spells_65 : decode cX2_spells 65 = .ok (.iconst 0, 1) := by decide +kernel
theorem dX2_spells_66 : decode cX2_spells 66 = .ok (.ireturn, 1) := by decide +kernel
theorem dX2_spells_67 : decode cX2_spells 67 = .ok (.iinc 2 1, 3) := by decide +kernel
theorem dX2_spells_70 : decode cX2_spells 70 = .ok (.goto (-45), 3) := by decide +kernel
theorem dX2_spells_73 : decode cX2_spells 73 = .ok (.iconst 1, 1) := by decide +kernel
theorem dX2_spells_74 : decode cX2_spells 74 = .ok (.ireturn, 1) := by decide +kernel
theorem dX2_takeNumber_0 : decode cX2_takeNumber 0 = .ok (.aload_n 0, 1) := by decide +kernel
theorem dX2_takeNumber_1 : decode cX2_takeNumber 1 = .ok (.iconst 0, 1) := by decide +kernel
theorem dX2_takeNumber_2 : decode cX2_takeNumber 2 = .ok (.putfield 41, 3) := by decide +kernel
theorem dX2_takeNumber_5 : decode cX2_takeNumber 5 = .ok (.aload_n 0, 1) := by decide +kernel
theorem dX2_takeNumber_6 : decode cX2_takeNumber 6 = .ok (.getfield 25, 3) := by decide +kernel
theorem dX2_takeNumber_9 : decode cX2_takeNumber 9 = .ok (.aload_n 0, 1) := by decide +kernel
theorem dX2_takeNumber_10 : decode cX2_takeNumber 10 = .ok (.getfield 51, 3) := by decide +kernel
theorem dX2_takeNumber_13 : decode cX2_takeNumber 13 = .ok (.if_icmp .ge 78, 3) := by decide +kernel
theorem dX2_takeNumber_16 : decode cX2_takeNumber 16 = .ok (.aload_n 0, 1) := by decide +kernel
theorem dX2_takeNumber_17 : decode cX2_takeNumber 17 = .ok (.getfield 25, 3) := by decide +kernel
theorem dX2_takeNumber_20 : decode cX2_takeNumber 20 = .ok (.sipush 150, 3) := by decide +kernel
theorem dX2_takeNumber_23 : decode cX2_takeNumber 23 = .ok (.if_icmp .ge 68, 3) := by decide +kernel
theorem dX2_takeNumber_26 : decode cX2_takeNumber 26 = .ok (.aload_n 0, 1) := by decide +kernel
theorem dX2_takeNumber_27 : decode cX2_takeNumber 27 = .ok (.getfield 9, 3) := by decide +kernel
theorem dX2_takeNumber_30 : decode cX2_takeNumber 30 = .ok (.aload_n 0, 1) := by decide +kernel
theorem dX2_takeNumber_31 : decode cX2_takeNumber 31 = .ok (.getfield 25, 3) := by decide +kernel
theorem dX2_takeNumber_34 : decode cX2_takeNumber 34 = .ok (.iaload, 1) := by decide +kernel
theorem dX2_takeNumber_35 : decode cX2_takeNumber 35 = .ok (.invokestatic 61, 3) := by decide +kernel
theorem dX2_takeNumber_38 : decode cX2_takeNumber 38 = .ok (.ifCond .eq 53, 3) := by decide +kernel
theorem dX2_takeNumber_41 : decode cX2_takeNumber 41 = .ok (.aload_n 0, 1) := by decide +kernel
theorem dX2_takeNumber_42 : decode cX2_takeNumber 42 = .ok (.getfield 25, 3) := by decide +kernel
theorem dX2_takeNumber_45 : decode cX2_takeNumber 45 = .ok (.aload_n 0, 1) := by decide +kernel
theorem dX2_takeNumber_46 : decode cX2_takeNumber 46 = .ok (.getfield 35, 3) := by decide +kernel
theorem dX2_takeNumber_49 : decode cX2_takeNumber 49 = .ok (.isub, 1) := by decide +kernel
theorem dX2_takeNumber_50 : decode cX2_takeNumber 50 = .ok (.iconst 2, 1) := by decide +kernel
theorem dX2_takeNumber_51 : decode cX2_takeNumber 51 = .ok (.if_icmp .ge 27, 3) := by decide +kernel
theorem dX2_takeNumber_54 : decode cX2_takeNumber 54 = .ok (.aload_n 0, 1) := by decide +kernel
theorem dX2_takeNumber_55 : decode cX2_takeNumber 55 = .ok (.bipush 10, 2) := by decide +kernel
theorem dX2_takeNumber_57 : decode cX2_takeNumber 57 = .ok (.aload_n 0, 1) := by decide +kernel
theorem dX2_takeNumber_58 : decode cX2_takeNumber 58 = .ok (.getfield 41, 3) := by decide +kernel
theorem dX2_takeNumber_61 : decode cX2_takeNumber 61 = .ok (.imul, 1) := by decide +kernel
theorem dX2_takeNumber_62 : decode cX2_takeNumber 62 = .ok (.aload_n 0, 1) := by decide +kernel
theorem dX2_takeNumber_63 : decode cX2_takeNumber 63 = .ok (.getfield 9, 3) := by decide +kernel
theorem dX2_takeNumber_66 : decode cX2_takeNumber 66 = .ok (.aload_n 0, 1) := by decide +kernel
theorem dX2_takeNumber_67 : decode cX2_takeNumber 67 = .ok (.getfield 25, 3) := by decide +kernel
theorem dX2_takeNumber_70 : decode cX2_takeNumber 70 = .ok (.iaload, 1) := by decide +kernel
theorem dX2_takeNumber_71 : decode cX2_takeNumber 71 = .ok (.iadd, 1) := by decide +kernel
theorem dX2_takeNumber_72 : decode cX2_takeNumber 72 = .ok (.bipush 48, 2) := by decide +kernel
theorem dX2_takeNumber_74 : decode cX2_takeNumber 74 = .ok (.isub, 1) := by decide +kernel
theorem dX2_takeNumber_75 : decode cX2_takeNumber 75 = .ok (.putfield 41, 3) := by decide +kernel
theorem dX2_takeNumber_78 : decode cX2_takeNumber 78 = .ok (.aload_n 0, 1) := by decide +kernel
theorem dX2_takeNumber_79 : decode cX2_takeNumber 79 = .ok (.dup, 1) := by decide +kernel
theorem dX2_takeNumber_80 : decode cX2_takeNumber 80 = .ok (.getfield 25, 3) := by decide +kernel
theorem dX2_takeNumber_83 : decode cX2_takeNumber 83 = .ok (.iconst 1, 1) := by decide +kernel
theorem dX2_takeNumber_84 : decode cX2_takeNumber 84 = .ok (.iadd, 1) := by decide +kernel
theorem dX2_takeNumber_85 : decode cX2_takeNumber 85 = .ok (.putfield 25, 3) := by decide +kernel
theorem dX2_takeNumber_88 : decode cX2_takeNumber 88 = .ok (.goto (-83), 3) := by decide +kernel
theorem dX2_takeNumber_91 : decode cX2_takeNumber 91 = .ok (.aload_n 0, 1) := by decide +kernel
theorem dX2_takeNumber_92 : decode cX2_takeNumber 92 = .ok (.aload_n 0, 1) := by decide +kernel
theorem dX2_takeNumber_93 : decode cX2_takeNumber 93 = .ok (.getfield 25, 3) := by decide +kernel
theorem dX2_takeNumber_96 : decode cX2_takeNumber 96 = .ok (.aload_n 0, 1) := by decide +kernel
theorem dX2_takeNumber_97 : decode cX2_takeNumber 97 = .ok (.getfield 35, 3) := by decide +kernel
theorem dX2_takeNumber_100 : decode cX2_takeNumber 100 = .ok (.isub, 1) := by decide +kernel
theorem dX2_takeNumber_101 : decode cX2_takeNumber 101 = .ok (.iconst 2, 1) := by decide +kernel
theorem dX2_takeNumber_102 : decode cX2_takeNumber 102 = .ok (.if_icmp .le 7, 3) := by decide +kernel
theorem dX2_takeNumber_105 : decode cX2_takeNumber 105 = .ok (.iconst 4, 1) := by decide +kernel
theorem dX2_takeNumber_106 : decode cX2_takeNumber 106 = .ok (.goto 4, 3) := by decide +kernel
theorem dX2_takeNumber_109 : decode cX2_takeNumber 109 = .ok (.iconst 2, 1) := by decide +kernel
theorem dX2_takeNumber_110 : decode cX2_takeNumber 110 = .ok (.putfield 38, 3) := by decide +kernel
theorem dX2_takeNumber_113 : decode cX2_takeNumber 113 = .ok (.return_, 1) := by decide +kernel
theorem dX2_isLetter_0 : decode cX2_isLetter 0 = .ok (.iload_n 0, 1) := by decide +kernel
theorem dX2_isLetter_1 : decode cX2_isLetter 1 = .ok (.bipush 97, 2) := by decide +kernel
theorem dX2_isLetter_3 : decode cX2_isLetter 3 = .ok (.bipush 122, 2) := by decide +kernel
theorem dX2_isLetter_5 : decode cX2_isLetter 5 = .ok (.invokestatic 73, 3) := by decide +kernel
theorem dX2_isLetter_8 : decode cX2_isLetter 8 = .ok (.ireturn, 1) := by decide +kernel
theorem dX2_isFigure_0 : decode cX2_isFigure 0 = .ok (.iload_n 0, 1) := by decide +kernel
theorem dX2_isFigure_1 : decode cX2_isFigure 1 = .ok (.bipush 48, 2) := by decide +kernel
theorem dX2_isFigure_3 : decode cX2_isFigure 3 = .ok (.bipush 57, 2) := by decide +kernel
theorem dX2_isFigure_5 : decode cX2_isFigure 5 = .ok (.invokestatic 73, 3) := by decide +kernel
theorem dX2_isFigure_8 : decode cX2_isFigure 8 = .ok (.ireturn, 1) := by decide +kernel
theorem dX2_refusedOn_0 : decode cX2_refusedOn 0 = .ok (.iconst 0, 1) := by decide +kernel
theorem dX2_refusedOn_1 : decode cX2_refusedOn 1 = .ok (.istore_n 2, 1) := by decide +kernel
theorem dX2_refusedOn_2 : decode cX2_refusedOn 2 = .ok (.iload_n 2, 1) := by decide +kernel
theorem dX2_refusedOn_3 : decode cX2_refusedOn 3 = .ok (.aload_n 0, 1) := by decide +kernel
theorem dX2_refusedOn_4 : decode cX2_refusedOn 4 = .ok (.getfield 21, 3) := by decide +kernel
theorem dX2_refusedOn_7 : decode cX2_refusedOn 7 = .ok (.if_icmp .ge 26, 3) := by decide +kernel
theorem dX2_refusedOn_10 : decode cX2_refusedOn 10 = .ok (.iload_n 2, 1) := by decide +kernel
theorem dX2_refusedOn_11 : decode cX2_refusedOn 11 = .ok (.bipush 25, 2) := by decide +kernel
theorem dX2_refusedOn_13 : decode cX2_refusedOn 13 = .ok (.if_icmp .ge 20, 3) := by decide +kernel
theorem dX2_refusedOn_16 : decode cX2_refusedOn 16 = .ok (.aload_n 0, 1) := by decide +kernel
theorem dX2_refusedOn_17 : decode cX2_refusedOn 17 = .ok (.aload_n 1, 1) := by decide +kernel
theorem dX2_refusedOn_18 : decode cX2_refusedOn 18 = .ok (.iload_n 2, 1) := by decide +kernel
theorem dX2_refusedOn_19 : decode cX2_refusedOn 19 = .ok (.invokevirtual 77, 3) := by decide +kernel
theorem dX2_refusedOn_22 : decode cX2_refusedOn 22 = .ok (.ifCond .ne 5, 3) := by decide +kernel
theorem dX2_refusedOn_25 : decode cX2_refusedOn 25 = .ok (.iload_n 2, 1) := by decide +kernel
theorem dX2_refusedOn_26 : decode cX2_refusedOn 26 = .ok (.ireturn, 1) := by decide +kernel
theorem dX2_refusedOn_27 : decode cX2_refusedOn 27 = .ok (.iinc 2 1, 3) := by decide +kernel
theorem dX2_refusedOn_30 : decode cX2_refusedOn 30 = .ok (.goto (-28), 3) := by decide +kernel
theorem dX2_refusedOn_33 : decode cX2_refusedOn 33 = .ok (.iconst (-1), 1) := by decide +kernel
theorem dX2_refusedOn_34 : decode cX2_refusedOn 34 = .ok (.ireturn, 1) := by decide +kernel
theorem dX2_isToldTo_0 : decode cX2_isToldTo 0 = .ok (.iload_n 2, 1) := by decide +kernel
theorem dX2_isToldTo_1 : decode cX2_isToldTo 1 = .ok (.iconst 4, 1) := by decide +kernel
theorem dX2_isToldTo_2 : decode cX2_isToldTo 2 = .ok (.imul, 1) := by decide +kernel
theorem dX2_isToldTo_3 : decode cX2_isToldTo 3 = .ok (.istore_n 3, 1) := by decide +kernel
theorem dX2_isToldTo_4 : decode cX2_isToldTo 4 = .ok (.aload_n 0, 1) := by decide +kernel
theorem dX2_isToldTo_5 : decode cX2_isToldTo 5 = .ok (.getfield 18, 3) := by decide +kernel
theorem dX2_isToldTo_8 : decode cX2_isToldTo 8 = .ok (.iload_n 3, 1) := by decide +kernel
theorem dX2_isToldTo_9 : decode cX2_isToldTo 9 = .ok (.iaload, 1) := by decide +kernel
theorem dX2_isToldTo_10 : decode cX2_isToldTo 10 = .ok (.istore 4, 2) := by decide +kernel
theorem dX2_isToldTo_12 : decode cX2_isToldTo 12 = .ok (.aload_n 0, 1) := by decide +kernel
theorem dX2_isToldTo_13 : decode cX2_isToldTo 13 = .ok (.getfield 18, 3) := by decide +kernel
theorem dX2_isToldTo_16 : decode cX2_isToldTo 16 = .ok (.iload_n 3, 1) := by decide +kernel
theorem dX2_isToldTo_17 : decode cX2_isToldTo 17 = .ok (.iconst 1, 1) := by decide +kernel
theorem dX2_isToldTo_18 : decode cX2_isToldTo 18 = .ok (.iadd, 1) := by decide +kernel
theorem dX2_isToldTo_19 : decode cX2_isToldTo 19 = .ok (.iaload, 1) := by decide +kernel
theorem dX2_isToldTo_20 : decode cX2_isToldTo 20 = .ok (.istore 5, 2) := by decide +kernel
theorem dX2_isToldTo_22 : decode cX2_isToldTo 22 = .ok (.aload_n 0, 1) := by decide +kernel
theorem dX2_isToldTo_23 : decode cX2_isToldTo 23 = .ok (.getfield 15, 3) := by decide +kernel
theorem dX2_isToldTo_26 : decode cX2_isToldTo 26 = .ok (.iload_n 2, 1) := by decide +kernel
theorem dX2_isToldTo_27 : decode cX2_isToldTo 27 = .ok (.iaload, 1) := by decide +kernel
theorem dX2_isToldTo_28 : decode cX2_isToldTo 28 = .ok (.lookupswitch 71 #[(0, 28), (1, 48)], 28) := by decide +kernel
theorem dX2_isToldTo_56 : decode cX2_isToldTo 56 = .ok (.iload 4, 2) := by decide +kernel
theorem dX2_isToldTo_58 : decode cX2_isToldTo 58 = .ok (.bipush 100, 2) := by decide +kernel
theorem dX2_isToldTo_60 : decode cX2_isToldTo 60 = .ok (.invokestatic 44, 3) := by decide +kernel
theorem dX2_isToldTo_63 : decode cX2_isToldTo 63 = .ok (.ifCond .ne 5, 3) := by decide +kernel
theorem dX2_isToldTo_66 : decode cX2_isToldTo 66 = .ok (.iconst 0, 1) := by decide +kernel
theorem dX2_isToldTo_67 : decode cX2_isToldTo 67 = .ok (.ireturn, 1) := by decide +kernel
theorem dX2_isToldTo_68 : decode cX2_isToldTo 68 = .ok (.aload_n 1, 1) := by decide +kernel
theorem dX2_isToldTo_69 : decode cX2_isToldTo 69 = .ok (.iload 4, 2) := by decide +kernel
theorem dX2_isToldTo_71 : decode cX2_isToldTo 71 = .ok (.invokevirtual 81, 3) := by decide +kernel
theorem dX2_isToldTo_74 : decode cX2_isToldTo 74 = .ok (.iconst 1, 1) := by decide +kernel
theorem dX2_isToldTo_75 : decode cX2_isToldTo 75 = .ok (.ireturn, 1) := by decide +kernel
theorem dX2_isToldTo_76 : decode cX2_isToldTo 76 = .ok (.iload 4, 2) := by decide +kernel
theorem dX2_isToldTo_78 : decode cX2_isToldTo 78 = .ok (.iload 5, 2) := by decide +kernel
theorem dX2_isToldTo_80 : decode cX2_isToldTo 80 = .ok (.invokestatic 87, 3) := by decide +kernel
theorem dX2_isToldTo_83 : decode cX2_isToldTo 83 = .ok (.ifCond .ne 5, 3) := by decide +kernel
theorem dX2_isToldTo_86 : decode cX2_isToldTo 86 = .ok (.iconst 0, 1) := by decide +kernel
theorem dX2_isToldTo_87 : decode cX2_isToldTo 87 = .ok (.ireturn, 1) := by decide +kernel
theorem dX2_isToldTo_88 : decode cX2_isToldTo 88 = .ok (.aload_n 1, 1) := by decide +kernel
theorem dX2_isToldTo_89 : decode cX2_isToldTo 89 = .ok (.getfield 90, 3) := by decide +kernel
theorem dX2_isToldTo_92 : decode cX2_isToldTo 92 = .ok (.iload 4, 2) := by decide +kernel
theorem dX2_isToldTo_94 : decode cX2_isToldTo 94 = .ok (.iload 5, 2) := by decide +kernel
theorem dX2_isToldTo_96 : decode cX2_isToldTo 96 = .ok (.iastore, 1) := by decide +kernel
theorem dX2_isToldTo_97 : decode cX2_isToldTo 97 = .ok (.iconst 1, 1) := by decide +kernel
theorem dX2_isToldTo_98 : decode cX2_isToldTo 98 = .ok (.ireturn, 1) := by decide +kernel
theorem dX2_isToldTo_99 : decode cX2_isToldTo 99 = .ok (.aload_n 1, 1) := by decide +kernel
theorem dX2_isToldTo_100 : decode cX2_isToldTo 100 = .ok (.iload 4, 2) := by decide +kernel
theorem dX2_isToldTo_102 : decode cX2_isToldTo 102 = .ok (.iload 5, 2) := by decide +kernel
theorem dX2_isToldTo_104 : decode cX2_isToldTo 104 = .ok (.aload_n 0, 1) := by decide +kernel
theorem dX2_isToldTo_105 : decode cX2_isToldTo 105 = .ok (.getfield 18, 3) := by decide +kernel
theorem dX2_isToldTo_108 : decode cX2_isToldTo 108 = .ok (.iload_n 3, 1) := by decide +kernel
theorem dX2_isToldTo_109 : decode cX2_isToldTo 109 = .ok (.iconst 2, 1) := by decide +kernel
theorem dX2_isToldTo_110 : decode cX2_isToldTo 110 = .ok (.iadd, 1) := by decide +kernel
theorem dX2_isToldTo_111 : decode cX2_isToldTo 111 = .ok (.iaload, 1) := by decide +kernel
theorem dX2_isToldTo_112 : decode cX2_isToldTo 112 = .ok (.aload_n 0, 1) := by decide +kernel
theorem dX2_isToldTo_113 : decode cX2_isToldTo 113 = .ok (.getfield 18, 3) := by decide +kernel
theorem dX2_isToldTo_116 : decode cX2_isToldTo 116 = .ok (.iload_n 3, 1) := by decide +kernel
theorem dX2_isToldTo_117 : decode cX2_isToldTo 117 = .ok (.iconst 3, 1) := by decide +kernel
theorem dX2_isToldTo_118 : decode cX2_isToldTo 118 = .ok (.iadd, 1) := by decide +kernel
theorem dX2_isToldTo_119 : decode cX2_isToldTo 119 = .ok (.iaload, 1) := by decide +kernel
theorem dX2_isToldTo_120 : decode cX2_isToldTo 120 = .ok (.invokevirtual 93, 3) := by decide +kernel
theorem dX2_isToldTo_123 : decode cX2_isToldTo 123 = .ok (.ifCond .eq 5, 3) := by decide +kernel
theorem dX2_isToldTo_126 : decode cX2_isToldTo 126 = .ok (.iconst 0, 1) := by decide +kernel
theorem dX2_isToldTo_127 : decode cX2_isToldTo 127 = .ok (.ireturn, 1) := by decide +kernel
theorem dX2_isToldTo_128 : decode cX2_isToldTo 128 = .ok (.aload_n 1, 1) := by decide +kernel
theorem dX2_isToldTo_129 : decode cX2_isToldTo 129 = .ok (.iload 4, 2) := by decide +kernel
theorem dX2_isToldTo_131 : decode cX2_isToldTo 131 = .ok (.iload 5, 2) := by decide +kernel
theorem dX2_isToldTo_133 : decode cX2_isToldTo 133 = .ok (.aload_n 0, 1) := by decide +kernel
theorem dX2_isToldTo_134 : decode cX2_isToldTo 134 = .ok (.getfield 18, 3) := by decide +kernel
theorem dX2_isToldTo_137 : decode cX2_isToldTo 137 = .ok (.iload_n 3, 1) := by decide +kernel
theorem dX2_isToldTo_138 : decode cX2_isToldTo 138 = .ok (.iconst 2, 1) := by decide +kernel
theorem dX2_isToldTo_139 : decode cX2_isToldTo 139 = .ok (.iadd, 1) := by decide +kernel
theorem dX2_isToldTo_140 : decode cX2_isToldTo 140 = .ok (.iaload, 1) := by decide +kernel
theorem dX2_isToldTo_141 : decode cX2_isToldTo 141 = .ok (.aload_n 0, 1) := by decide +kernel
theorem dX2_isToldTo_142 : decode cX2_isToldTo 142 = .ok (.getfield 18, 3) := by decide +kernel
theorem dX2_isToldTo_145 : decode cX2_isToldTo 145 = .ok (.iload_n 3, 1) := by decide +kernel
theorem dX2_isToldTo_146 : decode cX2_isToldTo 146 = .ok (.iconst 3, 1) := by decide +kernel
theorem dX2_isToldTo_147 : decode cX2_isToldTo 147 = .ok (.iadd, 1) := by decide +kernel
theorem dX2_isToldTo_148 : decode cX2_isToldTo 148 = .ok (.iaload, 1) := by decide +kernel
theorem dX2_isToldTo_149 : decode cX2_isToldTo 149 = .ok (.invokevirtual 97, 3) := by decide +kernel
theorem dX2_isToldTo_152 : decode cX2_isToldTo 152 = .ok (.pop, 1) := by decide +kernel
theorem dX2_isToldTo_153 : decode cX2_isToldTo 153 = .ok (.iconst 1, 1) := by decide +kernel
theorem dX2_isToldTo_154 : decode cX2_isToldTo 154 = .ok (.ireturn, 1) := by decide +kernel
end
section
theorem dX3_init_0 : decode cX3_init 0 = .ok (.aload_n 0, 1) := by decide +kernel
theorem dX3_init_1 : decode cX3_init 1 = .ok (.invokespecial 3, 3) := by decide +kernel
theorem dX3_init_4 : decode cX3_init 4 = .ok (.aload_n 0, 1) := by decide +kernel
theorem dX3_init_5 : decode cX3_init 5 = .ok (.new 9, 3) := by decide +kernel
theorem dX3_init_8 : decode cX3_init 8 = .ok (.dup, 1) := by decide +kernel
theorem dX3_init_9 : decode cX3_init 9 = .ok (.invokespecial 11, 3) := by decide +kernel
theorem dX3_init_12 : decode cX3_init 12 = .ok (.putfield 12, 3) := by decide +kernel
theorem dX3_init_15 : decode cX3_init 15 = .ok (.aload_n 0, 1) := by decide +kernel
theorem dX3_init_16 : decode cX3_init 16 = .ok (.iconst 2, 1) := by decide +kernel
theorem dX3_init_17 : decode cX3_init 17 = .ok (.anewarray 9, 3) := by decide +kernel
theorem dX3_init_20 : decode cX3_init 20 = .ok (.putfield 16, 3) := by decide +kernel
theorem dX3_init_23 : decode cX3_init 23 = .ok (.aload_n 0, 1) := by decide +kernel
theorem dX3_init_24 : decode cX3_init 24 = .ok (.new 20, 3) := by decide +kernel
theorem dX3_init_27 : decode cX3_init 27 = .ok (.dup, 1) := by decide +kernel
theorem dX3_init_28 : decode cX3_init 28 = .ok (.invokespecial 22, 3) := by decide +kernel
theorem dX3_init_31 : decode cX3_init 31 = .ok (.putfield 23, 3) := by decide +kernel
theorem dX3_init_34 : decode cX3_init 34 = .ok (.aload_n 0, 1) := by decide +kernel
theorem dX3_init_35 : decode cX3_init 35 = .ok (.new 27, 3) := by decide +kernel
theorem dX3_init_38 : decode cX3_init 38 = .ok (.dup, 1) := by decide +kernel
theorem dX3_init_39 : decode cX3_init 39 = .ok (.invokespecial 29, 3) := by decide +kernel
theorem dX3_init_42 : decode cX3_init 42 = .ok (.putfield 30, 3) := by decide +kernel
theorem dX3_init_45 : decode cX3_init 45 = .ok (.aload_n 0, 1) := by decide +kernel
theorem dX3_init_46 : decode cX3_init 46 = .ok (.bipush 9, 2) := by decide +kernel
theorem dX3_init_48 : decode cX3_init 48 = .ok (.newarray .int, 2) := by decide +kernel
theorem dX3_init_50 : decode cX3_init 50 = .ok (.putfield 34, 3) := by decide +kernel
theorem dX3_init_53 : decode cX3_init 53 = .ok (.aload_n 0, 1) := by decide +kernel
theorem dX3_init_54 : decode cX3_init 54 = .ok (.sipush 270, 3) := by decide +kernel
theorem dX3_init_57 : decode cX3_init 57 = .ok (.newarray .int, 2) := by decide +kernel
theorem dX3_init_59 : decode cX3_init 59 = .ok (.putfield 38, 3) := by decide +kernel
theorem dX3_init_62 : decode cX3_init 62 = .ok (.aload_n 0, 1) := by decide +kernel
theorem dX3_init_63 : decode cX3_init 63 = .ok (.bipush 6, 2) := by decide +kernel
theorem dX3_init_65 : decode cX3_init 65 = .ok (.newarray .int, 2) := by decide +kernel
theorem dX3_init_67 : decode cX3_init 67 = .ok (.putfield 41, 3) := by decide +kernel
theorem dX3_init_70 : decode cX3_init 70 = .ok (.aload_n 0, 1) := by decide +kernel
theorem dX3_init_71 : decode cX3_init 71 = .ok (.bipush 6, 2) := by decide +kernel
theorem dX3_init_73 : decode cX3_init 73 = .ok (.newarray .int, 2) := by decide +kernel
theorem dX3_init_75 : decode cX3_init 75 = .ok (.putfield 44, 3) := by decide +kernel
theorem dX3_init_78 : decode cX3_init 78 = .ok (.aload_n 0, 1) := by decide +kernel
theorem dX3_init_79 : decode cX3_init 79 = .ok (.lconst 0, 1) := by decide +kernel
theorem dX3_init_80 : decode cX3_init 80 = .ok (.putfield 47, 3) := by decide +kernel
theorem dX3_init_83 : decode cX3_init 83 = .ok (.aload_n 0, 1) := by decide +kernel
theorem dX3_init_84 : decode cX3_init 84 = .ok (.lconst 1, 1) := by decide +kernel
theorem dX3_init_85 : decode cX3_init 85 = .ok (.putfield 51, 3) := by decide +kernel
theorem dX3_init_88 : decode cX3_init 88 = .ok (.return_, 1) := by decide +kernel
theorem dX3_sock_0 : decode cX3_sock 0 = .ok (.iload_n 1, 1) := by decide +kernel
theorem dX3_sock_1 : decode cX3_sock 1 = .ok (.bipush 100, 2) := by decide +kernel
theorem dX3_sock_3 : decode cX3_sock 3 = .ok (.invokestatic 54, 3) := by decide +kernel
theorem dX3_sock_6 : decode cX3_sock 6 = .ok (.ifCond .ne 10, 3) := by decide +kernel
theorem dX3_sock_9 : decode cX3_sock 9 = .ok (.aload_n 0, 1) := by decide +kernel
theorem dX3_sock_10 : decode cX3_sock 10 = .ok (.bipush (-2), 2) := by decide +kernel
theorem dX3_sock_12 : decode cX3_sock 12 = .ok (.invokevirtual 58, 3) := by decide +kernel
theorem dX3_sock_15 : decode cX3_sock 15 = .ok (.ireturn, 1) := by decide +kernel
theorem dX3_sock_16 : decode cX3_sock 16 = .ok (.aload_n 0, 1) := by decide +kernel
theorem dX3_sock_17 : decode cX3_sock 17 = .ok (.getfield 12, 3) := by decide +kernel
theorem dX3_sock_20 : decode cX3_sock 20 = .ok (.getfield 62, 3) := by decide +kernel
theorem dX3_sock_23 : decode cX3_sock 23 = .ok (.invokevirtual 65, 3) := by decide +kernel
theorem dX3_sock_26 : decode cX3_sock 26 = .ok (.istore_n 2, 1) := by decide +kernel
theorem dX3_sock_27 : decode cX3_sock 27 = .ok (.aload_n 0, 1) := by decide +kernel
theorem dX3_sock_28 : decode cX3_sock 28 = .ok (.getfield 12, 3) := by decide +kernel
theorem dX3_sock_31 : decode cX3_sock 31 = .ok (.iload_n 1, 1) := by decide +kernel
theorem dX3_sock_32 : decode cX3_sock 32 = .ok (.invokevirtual 69, 3) := by decide +kernel
theorem dX3_sock_35 : decode cX3_sock 35 = .ok (.iload_n 2, 1) := by decide +kernel
theorem dX3_sock_36 : decode cX3_sock 36 = .ok (.ireturn, 1) := by decide +kernel
theorem dX3_wear_0 : decode cX3_wear 0 = .ok (.iload_n 1, 1) := by decide +kernel
theorem dX3_wear_1 : decode cX3_wear 1 = .ok (.iload_n 2, 1) := by decide +kernel
theorem dX3_wear_2 : decode cX3_wear 2 = .ok (.invokestatic 73, 3) := by decide +kernel
theorem dX3_wear_5 : decode cX3_wear 5 = .ok (.ifCond .ne 10, 3) := by decide +kernel
theorem dX3_wear_8 : decode cX3_wear 8 = .ok (.aload_n 0, 1) := by decide +kernel
theorem dX3_wear_9 : decode cX3_wear 9 = .ok (.bipush (-2), 2) := by decide +kernel
theorem dX3_wear_11 : decode cX3_wear 11 = .ok (.invokevirtual 58, 3) := by decide +kernel
theorem dX3_wear_14 : decode cX3_wear 14 = .ok (.ireturn, 1) := by decide +kernel
theorem dX3_wear_15 : decode cX3_wear 15 = .ok (.aload_n 0, 1) := by decide +kernel
theorem dX3_wear_16 : decode cX3_wear 16 = .ok (.getfield 12, 3) := by decide +kernel
theorem dX3_wear_19 : decode cX3_wear 19 = .ok (.getfield 62, 3) := by decide +kernel
theorem dX3_wear_22 : decode cX3_wear 22 = .ok (.getfield 76, 3) := by decide +kernel
theorem dX3_wear_25 : decode cX3_wear 25 = .ok (.iload_n 1, 1) := by decide +kernel
theorem dX3_wear_26 : decode cX3_wear 26 = .ok (.iaload, 1) := by decide +kernel
theorem dX3_wear_27 : decode cX3_wear 27 = .ok (.istore_n 3, 1) := by decide +kernel
theorem dX3_wear_28 : decode cX3_wear 28 = .ok (.aload_n 0, 1) := by decide +kernel
theorem dX3_wear_29 : decode cX3_wear 29 = .ok (.getfield 12, 3) := by decide +kernel
theorem dX3_wear_32 : decode cX3_wear 32 = .ok (.getfield 62, 3) := by decide +kernel
theorem dX3_wear_35 : decode cX3_wear 35 = .ok (.getfield 76, 3) := by decide +kernel
theorem dX3_wear_38 : decode cX3_wear 38 = .ok (.iload_n 1, 1) := by decide +kernel
theorem dX3_wear_39 : decode cX3_wear 39 = .ok (.iload_n 2, 1) := by decide +kernel
theorem dX3_wear_40 : decode cX3_wear 40 = .ok (.iastore, 1) := by decide +kernel
theorem dX3_wear_41 : decode cX3_wear 41 = .ok (.iload_n 3, 1) := by decide +kernel
theorem dX3_wear_42 : decode cX3_wear 42 = .ok (.ireturn, 1) := by decide +kernel
theorem dX3_darn_0 : decode cX3_darn 0 = .ok (.aload_n 0, 1) := by decide +kernel
theorem dX3_darn_1 : decode cX3_darn 1 = .ok (.getfield 12, 3) := by decide +kernel
theorem dX3_darn_4 : decode cX3_darn 4 = .ok (.getfield 62, 3) := by decide +kernel
theorem dX3_darn_7 : decode cX3_darn 7 = .ok (.iload_n 1, 1) := by decide +kernel
theorem dX3_darn_8 : decode cX3_darn 8 = .ok (.iload_n 2, 1) := by decide +kernel
theorem dX3_darn_9 : decode cX3_darn 9 = .ok (.iload_n 3, 1) := by decide +kernel
theorem dX3_darn_10 : decode cX3_darn 10 = .ok (.iload 4, 2) := by decide +kernel
theorem dX3_darn_12 : decode cX3_darn 12 = .ok (.invokevirtual 79, 3) := by decide +kernel
theorem dX3_darn_15 : decode cX3_darn 15 = .ok (.istore 5, 2) := by decide +kernel
theorem dX3_darn_17 : decode cX3_darn 17 = .ok (.iload 5, 2) := by decide +kernel
theorem dX3_darn_19 : decode cX3_darn 19 = .ok (.ifCond .eq 10, 3) := by decide +kernel
theorem dX3_darn_22 : decode cX3_darn 22 = .ok (.aload_n 0, 1) := by decide +kernel
theorem dX3_darn_23 : decode cX3_darn 23 = .ok (.iload 5, 2) := by decide +kernel
theorem dX3_darn_25 : decode cX3_darn 25 = .ok (.invokevirtual 58, 3) := by decide +kernel
theorem dX3_darn_28 : decode cX3_darn 28 = .ok (.ireturn, 1) := by decide +kernel
theorem dX3_darn_29 : decode cX3_darn 29 = .ok (.aload_n 0, 1) := by decide +kernel
theorem dX3_darn_30 : decode cX3_darn 30 = .ok (.getfield 12, 3) := by decide +kernel
theorem dX3_darn_33 : decode cX3_darn 33 = .ok (.invokevirtual 83, 3) := by decide +kernel
theorem dX3_darn_36 : decode cX3_darn 36 = .ok (.aload_n 0, 1) := by decide +kernel
theorem dX3_darn_37 : decode cX3_darn 37 = .ok (.getfield 12, 3) := by decide +kernel
theorem dX3_darn_40 : decode cX3_darn 40 = .ok (.getfield 62, 3) := by decide +kernel
theorem dX3_darn_43 : decode cX3_darn 43 = .ok (.iload_n 1, 1) := by decide +kernel
theorem dX3_darn_44 : decode cX3_darn 44 = .ok (.iload_n 2, 1) := by decide +kernel
theorem dX3_darn_45 : decode cX3_darn 45 = .ok (.iload_n 3, 1) := by decide +kernel
theorem dX3_darn_46 : decode cX3_darn 46 = .ok (.iload 4, 2) := by decide +kernel
theorem dX3_darn_48 : decode cX3_darn 48 = .ok (.invokevirtual 86, 3) := by decide +kernel
theorem dX3_darn_51 : decode cX3_darn 51 = .ok (.ireturn, 1) := by decide +kernel
theorem dX3_unpick_0 : decode cX3_unpick 0 = .ok (.iload_n 1, 1) := by decide +kernel
theorem dX3_unpick_1 : decode cX3_unpick 1 = .ok (.bipush 9, 2) := by decide +kernel
theorem dX3_unpick_3 : decode cX3_unpick 3 = .ok (.invokestatic 54, 3) := by decide +kernel
theorem dX3_unpick_6 : decode cX3_unpick 6 = .ok (.ifCond .ne 10, 3) := by decide +kernel
theorem dX3_unpick_9 : decode cX3_unpick 9 = .ok (.aload_n 0, 1) := by decide +kernel
theorem dX3_unpick_10 : decode cX3_unpick 10 = .ok (.bipush (-2), 2) := by decide +kernel
theorem dX3_unpick_12 : decode cX3_unpick 12 = .ok (.invokevirtual 58, 3) := by decide +kernel
theorem dX3_unpick_15 : decode cX3_unpick 15 = .ok (.ireturn, 1) := by decide +kernel
theorem dX3_unpick_16 : decode cX3_unpick 16 = .ok (.aload_n 0, 1) := by decide +kernel
theorem dX3_unpick_17 : decode cX3_unpick 17 = .ok (.getfield 12, 3) := by decide +kernel
theorem dX3_unpick_20 : decode cX3_unpick 20 = .ok (.getfield 62, 3) := by decide +kernel
theorem dX3_unpick_23 : decode cX3_unpick 23 = .ok (.iload_n 1, 1) := by decide +kernel
theorem dX3_unpick_24 : decode cX3_unpick 24 = .ok (.invokevirtual 89, 3) := by decide +kernel
theorem dX3_unpick_27 : decode cX3_unpick 27 = .ok (.ifCond .eq 10, 3) := by decide +kernel
theorem dX3_unpick_30 : decode cX3_unpick 30 = .ok (.aload_n 0, 1) := by decide +kernel
theorem dX3_unpick_31 : decode cX3_unpick 31 = .ok (.bipush (-3), 2) := by decide +kernel
theorem dX3_unpick_33 : decode cX3_unpick 33 = .ok (.invokevirtual 58, 3) := by decide +kernel
theorem dX3_unpick_36 : decode cX3_unpick 36 = .ok (.ireturn, 1) := by decide +kernel
theorem dX3_unpick_37 : decode cX3_unpick 37 = .ok (.aload_n 0, 1) := by decide +kernel
theorem dX3_unpick_38 : decode cX3_unpick 38 = .ok (.getfield 12, 3) := by decide +kernel
theorem dX3_unpick_41 : decode cX3_unpick 41 = .ok (.invokevirtual 83, 3) := by decide +kernel
theorem dX3_unpick_44 : decode cX3_unpick 44 = .ok (.aload_n 0, 1) := by decide +kernel
theorem dX3_unpick_45 : decode cX3_unpick 45 = .ok (.getfield 12, 3) := by decide +kernel
theorem dX3_unpick_48 : decode cX3_unpick 48 = .ok (.getfield 62, 3) := by decide +kernel
theorem dX3_unpick_51 : decode cX3_unpick 51 = .ok (.iload_n 1, 1) := by decide +kernel
theorem dX3_unpick_52 : decode cX3_unpick 52 = .ok (.invokevirtual 93, 3) := by decide +kernel
theorem dX3_unpick_55 : decode cX3_unpick 55 = .ok (.ireturn, 1) := by decide +kernel
theorem dX3_years_0 : decode cX3_years 0 = .ok (.iload_n 1, 1) := by decide +kernel
theorem dX3_years_1 : decode cX3_years 1 = .ok (.iconst 1, 1) := by decide +kernel
theorem dX3_years_2 : decode cX3_years 2 = .ok (.bipush 20, 2) := by decide +kernel
theorem dX3_years_4 : decode cX3_years 4 = .ok (.invokestatic 96, 3) := by decide +kernel
theorem dX3_years_7 : decode cX3_years 7 = .ok (.ifCond .ne 10, 3) := by decide +kernel
theorem dX3_years_10 : decode cX3_years 10 = .ok (.aload_n 0, 1) := by decide +kernel
theorem dX3_years_11 : decode cX3_years 11 = .ok (.bipush (-2), 2) := by decide +kernel
theorem dX3_years_13 : decode cX3_years 13 = .ok (.invokevirtual 58, 3) := by decide +kernel
theorem dX3_years_16 : decode cX3_years 16 = .ok (.ireturn, 1) := by decide +kernel
theorem dX3_years_17 : decode cX3_years 17 = .ok (.iconst 0, 1) := by decide +kernel
theorem dX3_years_18 : decode cX3_years 18 = .ok (.istore_n 2, 1) := by decide +kernel
theorem dX3_years_19 : decode cX3_years 19 = .ok (.iload_n 2, 1) := by decide +kernel
theorem dX3_years_20 : decode cX3_years 20 = .ok (.iload_n 1, 1) := by decide +kernel
theorem dX3_years_21 : decode cX3_years 21 = .ok (.if_icmp .ge 26, 3) := by decide +kernel
theorem dX3_years_24 : decode cX3_years 24 = .ok (.aload_n 0, 1) := by decide +kernel
theorem dX3_years_25 : decode cX3_years 25 = .ok (.getfield 12, 3) := by decide +kernel
theorem dX3_years_28 : decode cX3_years 28 = .ok (.invokevirtual 83, 3) := by decide +kernel
theorem dX3_years_31 : decode cX3_years 31 = .ok (.aload_n 0, 1) := by decide +kernel
theorem dX3_years_32 : decode cX3_years 32 = .ok (.getfield 12, 3) := by decide +kernel
theorem dX3_years_35 : decode cX3_years 35 = .ok (.getfield 62, 3) := by decide +kernel
theorem dX3_years_38 : decode cX3_years 38 = .ok (.invokevirtual 100, 3) := by decide +kernel
theorem dX3_years_41 : decode cX3_years 41 = .ok (.iinc 2 1, 3) := by decide +kernel
theorem dX3_years_44 : decode cX3_years 44 = .ok (.goto (-25), 3) := by decide +kernel
theorem dX3_years_47 : decode cX3_years 47 = .ok (.aload_n 0, 1) := by decide +kernel
theorem dX3_years_48 : decode cX3_years 48 = .ok (.getfield 12, 3) := by decide +kernel
theorem dX3_years_51 : decode cX3_years 51 = .ok (.getfield 62, 3) := by decide +kernel
theorem dX3_years_54 : decode cX3_years 54 = .ok (.invokevirtual 103, 3) := by decide +kernel
theorem dX3_years_57 : decode cX3_years 57 = .ok (.invokestatic 106, 3) := by decide +kernel
theorem dX3_years_60 : decode cX3_years 60 = .ok (.ireturn, 1) := by decide +kernel
theorem dX3_undo_0 : decode cX3_undo 0 = .ok (.aload_n 0, 1) := by decide +kernel
theorem dX3_undo_1 : decode cX3_undo 1 = .ok (.getfield 12, 3) := by decide +kernel
theorem dX3_undo_4 : decode cX3_undo 4 = .ok (.getfield 111, 3) := by decide +kernel
theorem dX3_undo_7 : decode cX3_undo 7 = .ok (.ifCond .gt 10, 3) := by decide +kernel
theorem dX3_undo_10 : decode cX3_undo 10 = .ok (.aload_n 0, 1) := by decide +kernel
theorem dX3_undo_11 : decode cX3_undo 11 = .ok (.bipush (-3), 2) := by decide +kernel
theorem dX3_undo_13 : decode cX3_undo 13 = .ok (.invokevirtual 58, 3) := by decide +kernel
theorem dX3_undo_16 : decode cX3_undo 16 = .ok (.ireturn, 1) := by decide +kernel
theorem dX3_undo_17 : decode cX3_undo 17 = .ok (.aload_n 0, 1) := by decide +kernel
theorem dX3_undo_18 : decode cX3_undo 18 = .ok (.getfield 12, 3) := by decide +kernel
theorem dX3_undo_21 : decode cX3_undo 21 = .ok (.invokevirtual 115, 3) := by decide +kernel
theorem dX3_undo_24 : decode cX3_undo 24 = .ok (.aload_n 0, 1) := by decide +kernel
theorem dX3_undo_25 : decode cX3_undo 25 = .ok (.getfield 12, 3) := by decide +kernel
theorem dX3_undo_28 : decode cX3_undo 28 = .ok (.getfield 62, 3) := by decide +kernel
theorem dX3_undo_31 : decode cX3_undo 31 = .ok (.invokevirtual 65, 3) := by decide +kernel
theorem dX3_undo_34 : decode cX3_undo 34 = .ok (.ireturn, 1) := by decide +kernel
theorem dX3_type_0 : decode cX3_type 0 = .ok (.iload_n 1, 1) := by decide +kernel
theorem dX3_type_1 : decode cX3_type 1 = .ok (.iconst 0, 1) := by decide +kernel
theorem dX3_type_2 : decode cX3_type 2 = .ok (.bipush 127, 2) := by decide +kernel
theorem dX3_type_4 : decode cX3_type 4 = .ok (.invokestatic 96, 3) := by decide +kernel
theorem dX3_type_7 : decode cX3_type 7 = .ok (.ifCond .ne 10, 3) := by decide +kernel
theorem dX3_type_10 : decode cX3_type 10 = .ok (.aload_n 0, 1) := by decide +kernel
theorem dX3_type_11 : decode cX3_type 11 = .ok (.bipush (-2), 2) := by decide +kernel
theorem dX3_type_13 : decode cX3_type 13 = .ok (.invokevirtual 58, 3) := by decide +kernel
theorem dX3_type_16 : decode cX3_type 16 = .ok (.ireturn, 1) := by decide +kernel
theorem dX3_type_17 : decode cX3_type 17 = .ok (.aload_n 0, 1) := by decide +kernel
theorem dX3_type_18 : decode cX3_type 18 = .ok (.getfield 30, 3) := by decide +kernel
theorem dX3_type_21 : decode cX3_type 21 = .ok (.getfield 118, 3) := by decide +kernel
theorem dX3_type_24 : decode cX3_type 24 = .ok (.sipush 150, 3) := by decide +kernel
theorem dX3_type_27 : decode cX3_type 27 = .ok (.if_icmp .lt 10, 3) := by decide +kernel
theorem dX3_type_30 : decode cX3_type 30 = .ok (.aload_n 0, 1) := by decide +kernel
theorem dX3_type_31 : decode cX3_type 31 = .ok (.bipush (-4), 2) := by decide +kernel
theorem dX3_type_33 : decode cX3_type 33 = .ok (.invokevirtual 58, 3) := by decide +kernel
theorem dX3_type_36 : decode cX3_type 36 = .ok (.ireturn, 1) := by decide +kernel
theorem dX3_type_37 : decode cX3_type 37 = .ok (.aload_n 0, 1) := by decide +kernel
theorem dX3_type_38 : decode cX3_type 38 = .ok (.getfield 30, 3) := by decide +kernel
theorem dX3_type_41 : decode cX3_type 41 = .ok (.getfield 121, 3) := by decide +kernel
theorem dX3_type_44 : decode cX3_type 44 = .ok (.aload_n 0, 1) := by decide +kernel
theorem dX3_type_45 : decode cX3_type 45 = .ok (.getfield 30, 3) := by decide +kernel
theorem dX3_type_48 : decode cX3_type 48 = .ok (.getfield 118, 3) := by decide +kernel
theorem dX3_type_51 : decode cX3_type 51 = .ok (.iload_n 1, 1) := by decide +kernel
theorem dX3_type_52 : decode cX3_type 52 = .ok (.iastore, 1) := by decide +kernel
theorem dX3_type_53 : decode cX3_type 53 = .ok (.aload_n 0, 1) := by decide +kernel
theorem dX3_type_54 : decode cX3_type 54 = .ok (.getfield 30, 3) := by decide +kernel
theorem dX3_type_57 : decode cX3_type 57 = .ok (.dup, 1) := by decide +kernel
theorem dX3_type_58 : decode cX3_type 58 = .ok (.getfield 118, 3) := by decide +kernel
theorem dX3_type_61 : decode cX3_type 61 = .ok (.iconst 1, 1) := by decide +kernel
theorem dX3_type_62 : decode cX3_type 62 = .ok (.iadd, 1) := by decide +kernel
theorem dX3_type_63 : decode cX3_type 63 = .ok (.putfield 118, 3) := by decide +kernel
theorem dX3_type_66 : decode cX3_type 66 = .ok (.aload_n 0, 1) := by decide +kernel
theorem dX3_type_67 : decode cX3_type 67 = .ok (.getfield 30, 3) := by decide +kernel
theorem dX3_type_70 : decode cX3_type 70 = .ok (.getfield 118, 3) := by decide +kernel
theorem dX3_type_73 : decode cX3_type 73 = .ok (.ireturn, 1) := by decide +kernel
theorem dX3_clear_0 : decode cX3_clear 0 = .ok (.aload_n 0, 1) := by decide +kernel
theorem dX3_clear_1 : decode cX3_clear 1 = .ok (.getfield 30, 3) := by decide +kernel
theorem dX3_clear_4 : decode cX3_clear 4 = .ok (.getfield 118, 3) := by decide +kernel
theorem dX3_clear_7 : decode cX3_clear 7 = .ok (.istore_n 1, 1) := by decide +kernel
theorem dX3_clear_8 : decode cX3_clear 8 = .ok (.aload_n 0, 1) := by decide +kernel
theorem dX3_clear_9 : decode cX3_clear 9 = .ok (.getfield 30, 3) := by decide +kernel
theorem dX3_clear_12 : decode cX3_clear 12 = .ok (.iconst 0, 1) := by decide +kernel
theorem dX3_clear_13 : decode cX3_clear 13 = .ok (.putfield 118, 3) := by decide +kernel
theorem dX3_clear_16 : decode cX3_clear 16 = .ok (.iload_n 1, 1) := by decide +kernel
theorem dX3_clear_17 : decode cX3_clear 17 = .ok (.ireturn, 1) := by decide +kernel
theorem dX3_read_0 : decode cX3_read 0 = .ok (.aload_n 0, 1) := by decide +kernel
theorem dX3_read_1 : decode cX3_read 1 = .ok (.getfield 30, 3) := by decide +kernel
theorem dX3_read_4 : decode cX3_read 4 = .ok (.invokevirtual 124, 3) := by decide +kernel
theorem dX3_read_7 : decode cX3_read 7 = .ok (.istore_n 1, 1) := by decide +kernel
theorem dX3_read_8 : decode cX3_read 8 = .ok (.iload_n 1, 1) := by decide +kernel
theorem dX3_read_9 : decode cX3_read 9 = .ok (.iconst (-1), 1) := by decide +kernel
theorem dX3_read_10 : decode cX3_read 10 = .ok (.if_icmp .eq 8, 3) := by decide +kernel
theorem dX3_read_13 : decode cX3_read 13 = .ok (.bipush (-10), 2) := by decide +kernel
theorem dX3_read_15 : decode cX3_read 15 = .ok (.iload_n 1, 1) := by decide +kernel
theorem dX3_read_16 : decode cX3_read 16 = .ok (.isub, 1) := by decide +kernel
theorem dX3_read_17 : decode cX3_read 17 = .ok (.ireturn, 1) := by decide +kernel
theorem dX3_read_18 : decode cX3_read 18 = .ok (.aload_n 0, 1) := by decide +kernel
theorem dX3_read_19 : decode cX3_read 19 = .ok (.getfield 30, 3) := by decide +kernel
theorem dX3_read_22 : decode cX3_read 22 = .ok (.aload_n 0, 1) := by decide +kernel
theorem dX3_read_23 : decode cX3_read 23 = .ok (.getfield 23, 3) := by decide +kernel
theorem dX3_read_26 : decode cX3_read 26 = .ok (.invokevirtual 127, 3) := by decide +kernel
theorem dX3_read_29 : decode cX3_read 29 = .ok (.istore_n 2, 1) := by decide +kernel
theorem dX3_read_30 : decode cX3_read 30 = .ok (.iload_n 2, 1) := by decide +kernel
theorem dX3_read_31 : decode cX3_read 31 = .ok (.iconst (-1), 1) := by decide +kernel
theorem dX3_read_32 : decode cX3_read 32 = .ok (.if_icmp .eq 9, 3) := by decide +kernel
theorem dX3_read_35 : decode cX3_read 35 = .ok (.sipush (-1000), 3) := by decide +kernel
theorem dX3_read_38 : decode cX3_read 38 = .ok (.iload_n 2, 1) := by decide +kernel
theorem dX3_read_39 : decode cX3_read 39 = .ok (.isub, 1) := by decide +kernel
theorem dX3_read_40 : decode cX3_read 40 = .ok (.ireturn, 1) := by decide +kernel
theorem dX3_read_41 : decode cX3_read 41 = .ok (.aload_n 0, 1) := by decide +kernel
theorem dX3_read_42 : decode cX3_read 42 = .ok (.getfield 12, 3) := by decide +kernel
theorem dX3_read_45 : decode cX3_read 45 = .ok (.iconst 0, 1) := by decide +kernel
theorem dX3_read_46 : decode cX3_read 46 = .ok (.invokevirtual 69, 3) := by decide +kernel
theorem dX3_read_49 : decode cX3_read 49 = .ok (.aload_n 0, 1) := by decide +kernel
theorem dX3_read_50 : decode cX3_read 50 = .ok (.getfield 12, 3) := by decide +kernel
theorem dX3_read_53 : decode cX3_read 53 = .ok (.getfield 62, 3) := by decide +kernel
theorem dX3_read_56 : decode cX3_read 56 = .ok (.aload_n 0, 1) := by decide +kernel
theorem dX3_read_57 : decode cX3_read 57 = .ok (.getfield 23, 3) := by decide +kernel
theorem dX3_read_60 : decode cX3_read 60 = .ok (.invokevirtual 131, 3) := by decide +kernel
theorem dX3_read_63 : decode cX3_read 63 = .ok (.aload_n 0, 1) := by decide +kernel
theorem dX3_read_64 : decode cX3_read 64 = .ok (.getfield 30, 3) := by decide +kernel
theorem dX3_read_67 : decode cX3_read 67 = .ok (.getfield 135, 3) := by decide +kernel
theorem dX3_read_70 : decode cX3_read 70 = .ok (.ireturn, 1) := by decide +kernel
theorem dX3_of_0 : decode cX3_of 0 = .ok (.iload_n 1, 1) := by decide +kernel
theorem dX3_of_1 : decode cX3_of 1 = .ok (.bipush 9, 2) := by decide +kernel
theorem dX3_of_3 : decode cX3_of 3 = .ok (.invokestatic 54, 3) := by decide +kernel
theorem dX3_of_6 : decode cX3_of 6 = .ok (.ifCond .eq 20, 3) := by decide +kernel
theorem dX3_of_9 : decode cX3_of 9 = .ok (.iload_n 2, 1) := by decide +kernel
theorem dX3_of_10 : decode cX3_of 10 = .ok (.iconst 3, 1) := by decide +kernel
theorem dX3_of_11 : decode cX3_of 11 = .ok (.invokestatic 54, 3) := by decide +kernel
theorem dX3_of_14 : decode cX3_of 14 = .ok (.ifCond .eq 12, 3) := by decide +kernel
theorem dX3_of_17 : decode cX3_of 17 = .ok (.iload_n 3, 1) := by decide +kernel
theorem dX3_of_18 : decode cX3_of 18 = .ok (.iconst 0, 1) := by decide +kernel
theorem dX3_of_19 : decode cX3_of 19 = .ok (.iconst 5, 1) := by decide +kernel
theorem dX3_of_20 : decode cX3_of 20 = .ok (.invokestatic 96, 3) := by decide +kernel
theorem dX3_of_23 : decode cX3_of 23 = .ok (.ifCond .ne 10, 3) := by decide +kernel
theorem dX3_of_26 : decode cX3_of 26 = .ok (.aload_n 0, 1) := by decide +kernel
theorem dX3_of_27 : decode cX3_of 27 = .ok (.bipush (-2), 2) := by decide +kernel
theorem dX3_of_29 : decode cX3_of 29 = .ok (.invokevirtual 58, 3) := by decide +kernel
theorem dX3_of_32 : decode cX3_of 32 = .ok (.ireturn, 1) := by decide +kernel
theorem dX3_of_33 : decode cX3_of 33 = .ok (.iload_n 2, 1) := by decide +kernel
theorem dX3_of_34 : decode cX3_of 34 = .ok (.aload_n 0, 1) := by decide +kernel
theorem dX3_of_35 : decode cX3_of 35 = .ok (.getfield 12, 3) := by decide +kernel
theorem dX3_of_38 : decode cX3_of 38 = .ok (.getfield 62, 3) := by decide +kernel
theorem dX3_of_41 : decode cX3_of 41 = .ok (.iload_n 1, 1) := by decide +kernel
theorem dX3_of_42 : decode cX3_of 42 = .ok (.invokevirtual 138, 3) := by decide +kernel
theorem dX3_of_45 : decode cX3_of 45 = .ok (.if_icmp .lt 5, 3) := by decide +kernel
theorem dX3_of_48 : decode cX3_of 48 = .ok (.iconst (-1), 1) := by decide +kernel
theorem dX3_of_49 : decode cX3_of 49 = .ok (.ireturn, 1) := by decide +kernel
theorem dX3_of_50 : decode cX3_of 50 = .ok (.iload_n 3, 1) := by decide +kernel
theorem dX3_of_51 : decode cX3_of 51 = .ok (.iconst 4, 1) := by decide +kernel
theorem dX3_of_52 : decode cX3_of 52 = .ok (.if_icmp .ne 16, 3) := by decide +kernel
theorem dX3_of_55 : decode cX3_of 55 = .ok (.aload_n 0, 1) := by decide +kernel
theorem dX3_of_56 : decode cX3_of 56 = .ok (.getfield 12, 3) := by decide +kernel
theorem dX3_of_59 : decode cX3_of 59 = .ok (.getfield 62, 3) := by decide +kernel
theorem dX3_of_62 : decode cX3_of 62 = .ok (.iload_n 1, 1) := by decide +kernel
theorem dX3_of_63 : decode cX3_of 63 = .ok (.iload_n 2, 1) := by decide +kernel
theorem dX3_of_64 : decode cX3_of 64 = .ok (.invokevirtual 141, 3) := by decide +kernel
theorem dX3_of_67 : decode cX3_of 67 = .ok (.ireturn, 1) := by decide +kernel
theorem dX3_of_68 : decode cX3_of 68 = .ok (.iload_n 3, 1) := by decide +kernel
theorem dX3_of_69 : decode cX3_of 69 = .ok (.iconst 5, 1) := by decide +kernel
theorem dX3_of_70 : decode cX3_of 70 = .ok (.if_icmp .ne 42, 3) := by decide +kernel
theorem dX3_of_73 : decode cX3_of 73 = .ok (.aload_n 0, 1) := by decide +kernel
theorem dX3_of_74 : decode cX3_of 74 = .ok (.getfield 12, 3) := by decide +kernel
theorem dX3_of_77 : decode cX3_of 77 = .ok (.getfield 62, 3) := by decide +kernel
theorem dX3_of_80 : decode cX3_of 80 = .ok (.iload_n 1, 1) := by decide +kernel
theorem dX3_of_81 : decode cX3_of 81 = .ok (.iload_n 2, 1) := by decide +kernel
theorem dX3_of_82 : decode cX3_of 82 = .ok (.iconst 0, 1) := by decide +kernel
theorem dX3_of_83 : decode cX3_of 83 = .ok (.invokevirtual 145, 3) := by decide +kernel
theorem dX3_of_86 : decode cX3_of 86 = .ok (.aload_n 0, 1) := by decide +kernel
theorem dX3_of_87 : decode cX3_of 87 = .ok (.getfield 12, 3) := by decide +kernel
theorem dX3_of_90 : decode cX3_of 90 = .ok (.getfield 62, 3) := by decide +kernel
theorem dX3_of_93 : decode cX3_of 93 = .ok (.getfield 76, 3) := by decide +kernel
theorem dX3_of_96 : decode cX3_of 96 = .ok (.iload_n 1, 1) := by decide +kernel
theorem dX3_of_97 : decode cX3_of 97 = .ok (.iaload, 1) := by decide +kernel
theorem dX3_of_98 : decode cX3_of 98 = .ok (.aload_n 0, 1) := by decide +kernel
theorem dX3_of_99 : decode cX3_of 99 = .ok (.getfield 12, 3) := by decide +kernel
theorem dX3_of_102 : decode cX3_of 102 = .ok (.getfield 62, 3) := by decide +kernel
theorem dX3_of_105 : decode cX3_of 105 = .ok (.invokevirtual 149, 3) := by decide +kernel
theorem dX3_of_108 : decode cX3_of 108 = .ok (.invokestatic 152, 3) := by decide +kernel
theorem dX3_of_111 : decode cX3_of 111 = .ok (.ireturn, 1) := by decide +kernel
theorem dX3_of_112 : decode cX3_of 112 = .ok (.aload_n 0, 1) := by decide +kernel
theorem dX3_of_113 : decode cX3_of 113 = .ok (.getfield 12, 3) := by decide +kernel
theorem dX3_of_116 : decode cX3_of 116 = .ok (.getfield 62, 3) := by decide +kernel
theorem dX3_of_119 : decode cX3_of 119 = .ok (.iload_n 1, 1) := by decide +kernel
theorem dX3_of_120 : decode cX3_of 120 = .ok (.iload_n 2, 1) := by decide +kernel
theorem dX3_of_121 : decode cX3_of 121 = .ok (.iload_n 3, 1) := by decide +kernel
theorem dX3_of_122 : decode cX3_of 122 = .ok (.invokevirtual 145, 3) := by decide +kernel
theorem dX3_of_125 : decode cX3_of 125 = .ok (.ireturn, 1) := by decide +kernel
theorem dX3_cell_0 : decode cX3_cell 0 = .ok (.iload_n 1, 1) := by decide +kernel
theorem dX3_cell_1 : decode cX3_cell 1 = .ok (.bipush 9, 2) := by decide +kernel
theorem dX3_cell_3 : decode cX3_cell 3 = .ok (.invokestatic 54, 3) := by decide +kernel
theorem dX3_cell_6 : decode cX3_cell 6 = .ok (.ifCond .eq 12, 3) := by decide +kernel
theorem dX3_cell_9 : decode cX3_cell 9 = .ok (.iload_n 2, 1) := by decide +kernel
theorem dX3_cell_10 : decode cX3_cell 10 = .ok (.iconst 0, 1) := by decide +kernel
theorem dX3_cell_11 : decode cX3_cell 11 = .ok (.iconst 1, 1) := by decide +kernel
theorem dX3_cell_12 : decode cX3_cell 12 = .ok (.invokestatic 96, 3) := by decide +kernel
theorem dX3_cell_15 : decode cX3_cell 15 = .ok (.ifCond .ne 10, 3) := by decide +kernel
theorem dX3_cell_18 : decode cX3_cell 18 = .ok (.aload_n 0, 1) := by decide +kernel
theorem dX3_cell_19 : decode cX3_cell 19 = .ok (.bipush (-2), 2) := by decide +kernel
theorem dX3_cell_21 : decode cX3_cell 21 = .ok (.invokevirtual 58, 3) := by decide +kernel
theorem dX3_cell_24 : decode cX3_cell 24 = .ok (.ireturn, 1) := by decide +kernel
theorem dX3_cell_25 : decode cX3_cell 25 = .ok (.iload_n 2, 1) := by decide +kernel
theorem dX3_cell_26 : decode cX3_cell 26 = .ok (.ifCond .ne 18, 3) := by decide +kernel
theorem dX3_cell_29 : decode cX3_cell 29 = .ok (.aload_n 0, 1) := by decide +kernel
theorem dX3_cell_30 : decode cX3_cell 30 = .ok (.getfield 12, 3) := by decide +kernel
theorem dX3_cell_33 : decode cX3_cell 33 = .ok (.getfield 62, 3) := by decide +kernel
theorem dX3_cell_36 : decode cX3_cell 36 = .ok (.getfield 76, 3) := by decide +kernel
theorem dX3_cell_39 : decode cX3_cell 39 = .ok (.iload_n 1, 1) := by decide +kernel
theorem dX3_cell_40 : decode cX3_cell 40 = .ok (.iaload, 1) := by decide +kernel
theorem dX3_cell_41 : decode cX3_cell 41 = .ok (.goto 14, 3) := by decide +kernel
theorem dX3_cell_44 : decode cX3_cell 44 = .ok (.aload_n 0, 1) := by decide +kernel
theorem dX3_cell_45 : decode cX3_cell 45 = .ok (.getfield 12, 3) := by decide +kernel
theorem dX3_cell_48 : decode cX3_cell 48 = .ok (.getfield 62, 3) := by decide +kernel
theorem dX3_cell_51 : decode cX3_cell 51 = .ok (.iload_n 1, 1) := by decide +kernel
theorem dX3_cell_52 : decode cX3_cell 52 = .ok (.invokevirtual 138, 3) := by decide +kernel
theorem dX3_cell_55 : decode cX3_cell 55 = .ok (.ireturn, 1) := by decide +kernel
theorem dX3_claims_0 : decode cX3_claims 0 = .ok (.iload_n 1, 1) := by decide +kernel
theorem dX3_claims_1 : decode cX3_claims 1 = .ok (.iconst 3, 1) := by decide +kernel
theorem dX3_claims_2 : decode cX3_claims 2 = .ok (.invokestatic 54, 3) := by decide +kernel
theorem dX3_claims_5 : decode cX3_claims 5 = .ok (.ifCond .eq 11, 3) := by decide +kernel
theorem dX3_claims_8 : decode cX3_claims 8 = .ok (.iload_n 2, 1) := by decide +kernel
theorem dX3_claims_9 : decode cX3_claims 9 = .ok (.iconst 4, 1) := by decide +kernel
theorem dX3_claims_10 : decode cX3_claims 10 = .ok (.invokestatic 54, 3) := by decide +kernel
theorem dX3_claims_13 : decode cX3_claims 13 = .ok (.ifCond .ne 10, 3) := by decide +kernel
theorem dX3_claims_16 : decode cX3_claims 16 = .ok (.aload_n 0, 1) := by decide +kernel
theorem dX3_claims_17 : decode cX3_claims 17 = .ok (.bipush (-2), 2) := by decide +kernel
theorem dX3_claims_19 : decode cX3_claims 19 = .ok (.invokevirtual 58, 3) := by decide +kernel
theorem dX3_claims_22 : decode cX3_claims 22 = .ok (.ireturn, 1) := by decide +kernel
theorem dX3_claims_23 : decode cX3_claims 23 = .ok (.aload_n 0, 1) := by decide +kernel
theorem dX3_claims_24 : decode cX3_claims 24 = .ok (.getfield 12, 3) := by decide +kernel
theorem dX3_claims_27 : decode cX3_claims 27 = .ok (.getfield 62, 3) := by decide +kernel
theorem dX3_claims_30 : decode cX3_claims 30 = .ok (.iload_n 1, 1) := by decide +kernel
theorem dX3_claims_31 : decode cX3_claims 31 = .ok (.iload_n 2, 1) := by decide +kernel
theorem dX3_claims_32 : decode cX3_claims 32 = .ok (.invokevirtual 155, 3) := by decide +kernel
theorem dX3_claims_35 : decode cX3_claims 35 = .ok (.ireturn, 1) := by decide +kernel
theorem dX3_owner_0 : decode cX3_owner 0 = .ok (.iload_n 1, 1) := by decide +kernel
theorem dX3_owner_1 : decode cX3_owner 1 = .ok (.iconst 4, 1) := by decide +kernel
theorem dX3_owner_2 : decode cX3_owner 2 = .ok (.invokestatic 54, 3) := by decide +kernel
theorem dX3_owner_5 : decode cX3_owner 5 = .ok (.ifCond .eq 12, 3) := by decide +kernel
theorem dX3_owner_8 : decode cX3_owner 8 = .ok (.iload_n 2, 1) := by decide +kernel
theorem dX3_owner_9 : decode cX3_owner 9 = .ok (.bipush 41, 2) := by decide +kernel
theorem dX3_owner_11 : decode cX3_owner 11 = .ok (.invokestatic 54, 3) := by decide +kernel
theorem dX3_owner_14 : decode cX3_owner 14 = .ok (.ifCond .ne 10, 3) := by decide +kernel
theorem dX3_owner_17 : decode cX3_owner 17 = .ok (.aload_n 0, 1) := by decide +kernel
theorem dX3_owner_18 : decode cX3_owner 18 = .ok (.bipush (-2), 2) := by decide +kernel
theorem dX3_owner_20 : decode cX3_owner 20 = .ok (.invokevirtual 58, 3) := by decide +kernel
theorem dX3_owner_23 : decode cX3_owner 23 = .ok (.ireturn, 1) := by decide +kernel
theorem dX3_owner_24 : decode cX3_owner 24 = .ok (.aload_n 0, 1) := by decide +kernel
theorem dX3_owner_25 : decode cX3_owner 25 = .ok (.iload_n 2, 1) := by decide +kernel
theorem dX3_owner_26 : decode cX3_owner 26 = .ok (.invokevirtual 158, 3) := by decide +kernel
theorem dX3_owner_29 : decode cX3_owner 29 = .ok (.aload_n 0, 1) := by decide +kernel
theorem dX3_owner_30 : decode cX3_owner 30 = .ok (.getfield 23, 3) := by decide +kernel
theorem dX3_owner_33 : decode cX3_owner 33 = .ok (.iload_n 1, 1) := by decide +kernel
theorem dX3_owner_34 : decode cX3_owner 34 = .ok (.invokevirtual 161, 3) := by decide +kernel
theorem dX3_owner_37 : decode cX3_owner 37 = .ok (.ireturn, 1) := by decide +kernel
theorem dX3_laws_0 : decode cX3_laws 0 = .ok (.iload_n 1, 1) := by decide +kernel
theorem dX3_laws_1 : decode cX3_laws 1 = .ok (.iconst 3, 1) := by decide +kernel
theorem dX3_laws_2 : decode cX3_laws 2 = .ok (.invokestatic 54, 3) := by decide +kernel
theorem dX3_laws_5 : decode cX3_laws 5 = .ok (.ifCond .ne 10, 3) := by decide +kernel
theorem dX3_laws_8 : decode cX3_laws 8 = .ok (.aload_n 0, 1) := by decide +kernel
theorem dX3_laws_9 : decode cX3_laws 9 = .ok (.bipush (-2), 2) := by decide +kernel
theorem dX3_laws_11 : decode cX3_laws 11 = .ok (.invokevirtual 58, 3) := by decide +kernel
theorem dX3_laws_14 : decode cX3_laws 14 = .ok (.ireturn, 1) := by decide +kernel
theorem dX3_laws_15 : decode cX3_laws 15 = .ok (.iconst 0, 1) := by decide +kernel
theorem dX3_laws_16 : decode cX3_laws 16 = .ok (.istore_n 2, 1) := by decide +kernel
theorem dX3_laws_17 : decode cX3_laws 17 = .ok (.iconst 0, 1) := by decide +kernel
theorem dX3_laws_18 : decode cX3_laws 18 = .ok (.istore_n 3, 1) := by decide +kernel
theorem dX3_laws_19 : decode cX3_laws 19 = .ok (.iload_n 3, 1) := by decide +kernel
theorem dX3_laws_20 : decode cX3_laws 20 = .ok (.iconst 4, 1) := by decide +kernel
theorem dX3_laws_21 : decode cX3_laws 21 = .ok (.if_icmp .ge 30, 3) := by decide +kernel
theorem dX3_laws_24 : decode cX3_laws 24 = .ok (.aload_n 0, 1) := by decide +kernel
theorem dX3_laws_25 : decode cX3_laws 25 = .ok (.getfield 12, 3) := by decide +kernel
theorem dX3_laws_28 : decode cX3_laws 28 = .ok (.getfield 62, 3) := by decide +kernel
theorem dX3_laws_31 : decode cX3_laws 31 = .ok (.iload_n 3, 1) := by decide +kernel
theorem dX3_laws_32 : decode cX3_laws 32 = .ok (.invokevirtual 161, 3) := by decide +kernel
theorem dX3_laws_35 : decode cX3_laws 35 = .ok (.iload_n 1, 1) := by decide +kernel
theorem dX3_laws_36 : decode cX3_laws 36 = .ok (.if_icmp .ne 9, 3) := by decide +kernel
theorem dX3_laws_39 : decode cX3_laws 39 = .ok (.iload_n 2, 1) := by decide +kernel
theorem dX3_laws_40 : decode cX3_laws 40 = .ok (.iconst 1, 1) := by decide +kernel
theorem dX3_laws_41 : decode cX3_laws 41 = .ok (.iload_n 3, 1) := by decide +kernel
theorem dX3_laws_42 : decode cX3_laws 42 = .ok (.ishl, 1) := by decide +kernel
theorem dX3_laws_43 : decode cX3_laws 43 = .ok (.ior, 1) := by decide +kernel
theorem dX3_laws_44 : decode cX3_laws 44 = .ok (.istore_n 2, 1) := by decide +kernel
theorem dX3_laws_45 : decode cX3_laws 45 = .ok (.iinc 3 1, 3) := by decide +kernel
theorem dX3_laws_48 : decode cX3_laws 48 = .ok (.goto (-29), 3) := by decide +kernel
theorem dX3_laws_51 : decode cX3_laws 51 = .ok (.iload_n 2, 1) := by decide +kernel
theorem dX3_laws_52 : decode cX3_laws 52 = .ok (.ireturn, 1) := by decide +kernel
theorem dX3_share_0 : decode cX3_share 0 = .ok (.iload_n 1, 1) := by decide +kernel
theorem dX3_share_1 : decode cX3_share 1 = .ok (.iconst 3, 1) := by decide +kernel
theorem dX3_share_2 : decode cX3_share 2 = .ok (.invokestatic 54, 3) := by decide +kernel
theorem dX3_share_5 : decode cX3_share 5 = .ok (.ifCond .ne 10, 3) := by decide +kernel
theorem dX3_share_8 : decode cX3_share 8 = .ok (.aload_n 0, 1) := by decide +kernel
theorem dX3_share_9 : decode cX3_share 9 = .ok (.bipush (-2), 2) := by decide +kernel
theorem dX3_share_11 : decode cX3_share 11 = .ok (.invokevirtual 58, 3) := by decide +kernel
theorem dX3_share_14 : decode cX3_share 14 = .ok (.ireturn, 1) := by decide +kernel
theorem dX3_share_15 : decode cX3_share 15 = .ok (.aload_n 0, 1) := by decide +kernel
theorem dX3_share_16 : decode cX3_share 16 = .ok (.aload_n 0, 1) := by decide +kernel
theorem dX3_share_17 : decode cX3_share 17 = .ok (.getfield 12, 3) := by decide +kernel
theorem dX3_share_20 : decode cX3_share 20 = .ok (.getfield 62, 3) := by decide +kernel
theorem dX3_share_23 : decode cX3_share 23 = .ok (.iload_n 1, 1) := by decide +kernel
theorem dX3_share_24 : decode cX3_share 24 = .ok (.iconst 0, 1) := by decide +kernel
theorem dX3_share_25 : decode cX3_share 25 = .ok (.invokevirtual 155, 3) := by decide +kernel
theorem dX3_share_28 : decode cX3_share 28 = .ok (.i2l, 1) := by decide +kernel
theorem dX3_share_29 : decode cX3_share 29 = .ok (.aload_n 0, 1) := by decide +kernel
theorem dX3_share_30 : decode cX3_share 30 = .ok (.getfield 12, 3) := by decide +kernel
theorem dX3_share_33 : decode cX3_share 33 = .ok (.getfield 62, 3) := by decide +kernel
theorem dX3_share_36 : decode cX3_share 36 = .ok (.iconst 0, 1) := by decide +kernel
theorem dX3_share_37 : decode cX3_share 37 = .ok (.invokevirtual 164, 3) := by decide +kernel
theorem dX3_share_40 : decode cX3_share 40 = .ok (.i2l, 1) := by decide +kernel
theorem dX3_share_41 : decode cX3_share 41 = .ok (.invokevirtual 167, 3) := by decide +kernel
theorem dX3_share_44 : decode cX3_share 44 = .ok (.iconst 1, 1) := by decide +kernel
theorem dX3_share_45 : decode cX3_share 45 = .ok (.ireturn, 1) := by decide +kernel
theorem dX3_twos_0 : decode cX3_twos 0 = .ok (.iload_n 1, 1) := by decide +kernel
theorem dX3_twos_1 : decode cX3_twos 1 = .ok (.iconst 4, 1) := by decide +kernel
theorem dX3_twos_2 : decode cX3_twos 2 = .ok (.invokestatic 54, 3) := by decide +kernel
theorem dX3_twos_5 : decode cX3_twos 5 = .ok (.ifCond .ne 10, 3) := by decide +kernel
theorem dX3_twos_8 : decode cX3_twos 8 = .ok (.aload_n 0, 1) := by decide +kernel
theorem dX3_twos_9 : decode cX3_twos 9 = .ok (.bipush (-2), 2) := by decide +kernel
theorem dX3_twos_11 : decode cX3_twos 11 = .ok (.invokevirtual 58, 3) := by decide +kernel
theorem dX3_twos_14 : decode cX3_twos 14 = .ok (.ireturn, 1) := by decide +kernel
theorem dX3_twos_15 : decode cX3_twos 15 = .ok (.aload_n 0, 1) := by decide +kernel
theorem dX3_twos_16 : decode cX3_twos 16 = .ok (.getfield 23, 3) := by decide +kernel
theorem dX3_twos_19 : decode cX3_twos 19 = .ok (.aload_n 0, 1) := by decide +kernel
theorem dX3_twos_20 : decode cX3_twos 20 = .ok (.getfield 12, 3) := by decide +kernel
theorem dX3_twos_23 : decode cX3_twos 23 = .ok (.getfield 62, 3) := by decide +kernel
theorem dX3_twos_26 : decode cX3_twos 26 = .ok (.invokevirtual 131, 3) := by decide +kernel
theorem dX3_twos_29 : decode cX3_twos 29 = .ok (.iconst 0, 1) := by decide +kernel
theorem dX3_twos_30 : decode cX3_twos 30 = .ok (.istore_n 2, 1) := by decide +kernel
theorem dX3_twos_31 : decode cX3_twos 31 = .ok (.iload_n 2, 1) := by decide +kernel
theorem dX3_twos_32 : decode cX3_twos 32 = .ok (.bipush 41, 2) := by decide +kernel
theorem dX3_twos_34 : decode cX3_twos 34 = .ok (.if_icmp .ge 29, 3) := by decide +kernel
theorem dX3_twos_37 : decode cX3_twos 37 = .ok (.aload_n 0, 1) := by decide +kernel
theorem dX3_twos_38 : decode cX3_twos 38 = .ok (.getfield 23, 3) := by decide +kernel
theorem dX3_twos_41 : decode cX3_twos 41 = .ok (.iload_n 1, 1) := by decide +kernel
theorem dX3_twos_42 : decode cX3_twos 42 = .ok (.invokevirtual 171, 3) := by decide +kernel
theorem dX3_twos_45 : decode cX3_twos 45 = .ok (.ifCond .eq 5, 3) := by decide +kernel
theorem dX3_twos_48 : decode cX3_twos 48 = .ok (.iload_n 2, 1) := by decide +kernel
theorem dX3_twos_49 : decode cX3_twos 49 = .ok (.ireturn, 1) := by decide +kernel
theorem dX3_twos_50 : decode cX3_twos 50 = .ok (.aload_n 0, 1) := by decide +kernel
theorem dX3_twos_51 : decode cX3_twos 51 = .ok (.getfield 23, 3) := by decide +kernel
theorem dX3_twos_54 : decode cX3_twos 54 = .ok (.invokevirtual 100, 3) := by decide +kernel
theorem dX3_twos_57 : decode cX3_twos 57 = .ok (.iinc 2 1, 3) := by decide +kernel
theorem dX3_twos_60 : decode cX3_twos 60 = .ok (.goto (-29), 3) := by decide +kernel
theorem dX3_twos_63 : decode cX3_twos 63 = .ok (.iconst (-1), 1) := by decide +kernel
theorem dX3_twos_64 : decode cX3_twos 64 = .ok (.ireturn, 1) := by decide +kernel
theorem dX3_whole_0 : decode cX3_whole 0 = .ok (.aload_n 0, 1) := by decide +kernel
theorem dX3_whole_1 : decode cX3_whole 1 = .ok (.invokevirtual 174, 3) := by decide +kernel
theorem dX3_whole_4 : decode cX3_whole 4 = .ok (.aload_n 0, 1) := by decide +kernel
theorem dX3_whole_5 : decode cX3_whole 5 = .ok (.iconst (-1), 1) := by decide +kernel
theorem dX3_whole_6 : decode cX3_whole 6 = .ok (.iconst (-1), 1) := by decide +kernel
theorem dX3_whole_7 : decode cX3_whole 7 = .ok (.invokevirtual 177, 3) := by decide +kernel
theorem dX3_whole_10 : decode cX3_whole 10 = .ok (.ireturn, 1) := by decide +kernel
theorem dX3_holes_0 : decode cX3_holes 0 = .ok (.iload_n 1, 1) := by decide +kernel
theorem dX3_holes_1 : decode cX3_holes 1 = .ok (.bipush 41, 2) := by decide +kernel
theorem dX3_holes_3 : decode cX3_holes 3 = .ok (.invokestatic 54, 3) := by decide +kernel
theorem dX3_holes_6 : decode cX3_holes 6 = .ok (.ifCond .ne 10, 3) := by decide +kernel
theorem dX3_holes_9 : decode cX3_holes 9 = .ok (.aload_n 0, 1) := by decide +kernel
theorem dX3_holes_10 : decode cX3_holes 10 = .ok (.bipush (-2), 2) := by decide +kernel
theorem dX3_holes_12 : decode cX3_holes 12 = .ok (.invokevirtual 58, 3) := by decide +kernel
theorem dX3_holes_15 : decode cX3_holes 15 = .ok (.ireturn, 1) := by decide +kernel
theorem dX3_holes_16 : decode cX3_holes 16 = .ok (.aload_n 0, 1) := by decide +kernel
theorem dX3_holes_17 : decode cX3_holes 17 = .ok (.iload_n 1, 1) := by decide +kernel
theorem dX3_holes_18 : decode cX3_holes 18 = .ok (.invokevirtual 158, 3) := by decide +kernel
theorem dX3_holes_21 : decode cX3_holes 21 = .ok (.aload_n 0, 1) := by decide +kernel
theorem dX3_holes_22 : decode cX3_holes 22 = .ok (.getfield 23, 3) := by decide +kernel
theorem dX3_holes_25 : decode cX3_holes 25 = .ok (.invokevirtual 103, 3) := by decide +kernel
theorem dX3_holes_28 : decode cX3_holes 28 = .ok (.ireturn, 1) := by decide +kernel
theorem dX3_best_0 : decode cX3_best 0 = .ok (.iload_n 1, 1) := by decide +kernel
theorem dX3_best_1 : decode cX3_best 1 = .ok (.iconst 1, 1) := by decide +kernel
theorem dX3_best_2 : decode cX3_best 2 = .ok (.bipush 30, 2) := by decide +kernel
theorem dX3_best_4 : decode cX3_best 4 = .ok (.invokestatic 96, 3) := by decide +kernel
theorem dX3_best_7 : decode cX3_best 7 = .ok (.ifCond .eq 21, 3) := by decide +kernel
theorem dX3_best_10 : decode cX3_best 10 = .ok (.iload_n 2, 1) := by decide +kernel
theorem dX3_best_11 : decode cX3_best 11 = .ok (.bipush 6, 2) := by decide +kernel
theorem dX3_best_13 : decode cX3_best 13 = .ok (.invokestatic 54, 3) := by decide +kernel
theorem dX3_best_16 : decode cX3_best 16 = .ok (.ifCond .eq 12, 3) := by decide +kernel
theorem dX3_best_19 : decode cX3_best 19 = .ok (.iload_n 3, 1) := by decide +kernel
theorem dX3_best_20 : decode cX3_best 20 = .ok (.iconst 0, 1) := by decide +kernel
theorem dX3_best_21 : decode cX3_best 21 = .ok (.iconst 1, 1) := by decide +kernel
theorem dX3_best_22 : decode cX3_best 22 = .ok (.invokestatic 96, 3) := by decide +kernel
theorem dX3_best_25 : decode cX3_best 25 = .ok (.ifCond .ne 10, 3) := by decide +kernel
theorem dX3_best_28 : decode cX3_best 28 = .ok (.aload_n 0, 1) := by decide +kernel
theorem dX3_best_29 : decode cX3_best 29 = .ok (.bipush (-2), 2) := by decide +kernel
theorem dX3_best_31 : decode cX3_best 31 = .ok (.invokevirtual 58, 3) := by decide +kernel
theorem dX3_best_34 : decode cX3_best 34 = .ok (.ireturn, 1) := by decide +kernel
theorem dX3_best_35 : decode cX3_best 35 = .ok (.aload_n 0, 1) := by decide +kernel
theorem dX3_best_36 : decode cX3_best 36 = .ok (.invokevirtual 174, 3) := by decide +kernel
theorem dX3_best_39 : decode cX3_best 39 = .ok (.iconst (-1), 1) := by decide +kernel
theorem dX3_best_40 : decode cX3_best 40 = .ok (.istore 4, 2) := by decide +kernel
theorem dX3_best_42 : decode cX3_best 42 = .ok (.iconst (-1), 1) := by decide +kernel
theorem dX3_best_43 : decode cX3_best 43 = .ok (.istore 5, 2) := by decide +kernel
theorem dX3_best_45 : decode cX3_best 45 = .ok (.iconst 0, 1) := by decide +kernel
theorem dX3_best_46 : decode cX3_best 46 = .ok (.istore 6, 2) := by decide +kernel
theorem dX3_best_48 : decode cX3_best 48 = .ok (.iload 6, 2) := by decide +kernel
theorem dX3_best_50 : decode cX3_best 50 = .ok (.bipush 9, 2) := by decide +kernel
theorem dX3_best_52 : decode cX3_best 52 = .ok (.if_icmp .ge 69, 3) := by decide +kernel
theorem dX3_best_55 : decode cX3_best 55 = .ok (.aload_n 0, 1) := by decide +kernel
theorem dX3_best_56 : decode cX3_best 56 = .ok (.getfield 12, 3) := by decide +kernel
theorem dX3_best_59 : decode cX3_best 59 = .ok (.getfield 62, 3) := by decide +kernel
theorem dX3_best_62 : decode cX3_best 62 = .ok (.iload 6, 2) := by decide +kernel
theorem dX3_best_64 : decode cX3_best 64 = .ok (.invokevirtual 180, 3) := by decide +kernel
theorem dX3_best_67 : decode cX3_best 67 = .ok (.ifCond .ne 6, 3) := by decide +kernel
theorem dX3_best_70 : decode cX3_best 70 = .ok (.goto 45, 3) := by decide +kernel
theorem dX3_best_73 : decode cX3_best 73 = .ok (.aload_n 0, 1) := by decide +kernel
theorem dX3_best_74 : decode cX3_best 74 = .ok (.iload 6, 2) := by decide +kernel
theorem dX3_best_76 : decode cX3_best 76 = .ok (.iload 6, 2) := by decide +kernel
theorem dX3_best_78 : decode cX3_best 78 = .ok (.invokevirtual 177, 3) := by decide +kernel
theorem dX3_best_81 : decode cX3_best 81 = .ok (.aload_n 0, 1) := by decide +kernel
theorem dX3_best_82 : decode cX3_best 82 = .ok (.getfield 12, 3) := by decide +kernel
theorem dX3_best_85 : decode cX3_best 85 = .ok (.getfield 62, 3) := by decide +kernel
theorem dX3_best_88 : decode cX3_best 88 = .ok (.iload 6, 2) := by decide +kernel
theorem dX3_best_90 : decode cX3_best 90 = .ok (.iload_n 2, 1) := by decide +kernel
theorem dX3_best_91 : decode cX3_best 91 = .ok (.iload_n 1, 1) := by decide +kernel
theorem dX3_best_92 : decode cX3_best 92 = .ok (.invokevirtual 183, 3) := by decide +kernel
theorem dX3_best_95 : decode cX3_best 95 = .ok (.invokestatic 186, 3) := by decide +kernel
theorem dX3_best_98 : decode cX3_best 98 = .ok (.istore 7, 2) := by decide +kernel
theorem dX3_best_100 : decode cX3_best 100 = .ok (.iload 7, 2) := by decide +kernel
theorem dX3_best_102 : decode cX3_best 102 = .ok (.iload 5, 2) := by decide +kernel
theorem dX3_best_104 : decode cX3_best 104 = .ok (.if_icmp .le 11, 3) := by decide +kernel
theorem dX3_best_107 : decode cX3_best 107 = .ok (.iload 6, 2) := by decide +kernel
theorem dX3_best_109 : decode cX3_best 109 = .ok (.istore 4, 2) := by decide +kernel
theorem dX3_best_111 : decode cX3_best 111 = .ok (.iload 7, 2) := by decide +kernel
theorem dX3_best_113 : decode cX3_best 113 = .ok (.istore 5, 2) := by decide +kernel
theorem dX3_best_115 : decode cX3_best 115 = .ok (.iinc 6 1, 3) := by decide +kernel
theorem dX3_best_118 : decode cX3_best 118 = .ok (.goto (-70), 3) := by decide +kernel
theorem dX3_best_121 : decode cX3_best 121 = .ok (.iload_n 3, 1) := by decide +kernel
theorem dX3_best_122 : decode cX3_best 122 = .ok (.ifCond .ne 8, 3) := by decide +kernel
theorem dX3_best_125 : decode cX3_best 125 = .ok (.iload 4, 2) := by decide +kernel
theorem dX3_best_127 : decode cX3_best 127 = .ok (.goto 5, 3) := by decide +kernel
theorem dX3_best_130 : decode cX3_best 130 = .ok (.iload 5, 2) := by decide +kernel
theorem dX3_best_132 : decode cX3_best 132 = .ok (.ireturn, 1) := by decide +kernel
theorem dX3_split_0 : decode cX3_split 0 = .ok (.iload_n 1, 1) := by decide +kernel
theorem dX3_split_1 : decode cX3_split 1 = .ok (.iconst 2, 1) := by decide +kernel
theorem dX3_split_2 : decode cX3_split 2 = .ok (.bipush 30, 2) := by decide +kernel
theorem dX3_split_4 : decode cX3_split 4 = .ok (.invokestatic 96, 3) := by decide +kernel
theorem dX3_split_7 : decode cX3_split 7 = .ok (.ifCond .eq 21, 3) := by decide +kernel
theorem dX3_split_10 : decode cX3_split 10 = .ok (.iload_n 2, 1) := by decide +kernel
theorem dX3_split_11 : decode cX3_split 11 = .ok (.bipush 6, 2) := by decide +kernel
theorem dX3_split_13 : decode cX3_split 13 = .ok (.invokestatic 54, 3) := by decide +kernel
theorem dX3_split_16 : decode cX3_split 16 = .ok (.ifCond .eq 12, 3) := by decide +kernel
theorem dX3_split_19 : decode cX3_split 19 = .ok (.iload_n 3, 1) := by decide +kernel
theorem dX3_split_20 : decode cX3_split 20 = .ok (.iconst 0, 1) := by decide +kernel
theorem dX3_split_21 : decode cX3_split 21 = .ok (.iconst 2, 1) := by decide +kernel
theorem dX3_split_22 : decode cX3_split 22 = .ok (.invokestatic 96, 3) := by decide +kernel
theorem dX3_split_25 : decode cX3_split 25 = .ok (.ifCond .ne 10, 3) := by decide +kernel
theorem dX3_split_28 : decode cX3_split 28 = .ok (.aload_n 0, 1) := by decide +kernel
theorem dX3_split_29 : decode cX3_split 29 = .ok (.bipush (-2), 2) := by decide +kernel
theorem dX3_split_31 : decode cX3_split 31 = .ok (.invokevirtual 58, 3) := by decide +kernel
theorem dX3_split_34 : decode cX3_split 34 = .ok (.ireturn, 1) := by decide +kernel
theorem dX3_split_35 : decode cX3_split 35 = .ok (.aload_n 0, 1) := by decide +kernel
theorem dX3_split_36 : decode cX3_split 36 = .ok (.invokevirtual 174, 3) := by decide +kernel
theorem dX3_split_39 : decode cX3_split 39 = .ok (.aload_n 0, 1) := by decide +kernel
theorem dX3_split_40 : decode cX3_split 40 = .ok (.iload_n 1, 1) := by decide +kernel
theorem dX3_split_41 : decode cX3_split 41 = .ok (.iload_n 2, 1) := by decide +kernel
theorem dX3_split_42 : decode cX3_split 42 = .ok (.invokevirtual 191, 3) := by decide +kernel
theorem dX3_split_45 : decode cX3_split 45 = .ok (.iconst (-1), 1) := by decide +kernel
theorem dX3_split_46 : decode cX3_split 46 = .ok (.istore 4, 2) := by decide +kernel
theorem dX3_split_48 : decode cX3_split 48 = .ok (.iconst (-1), 1) := by decide +kernel
theorem dX3_split_49 : decode cX3_split 49 = .ok (.istore 5, 2) := by decide +kernel
theorem dX3_split_51 : decode cX3_split 51 = .ok (.iconst (-1), 1) := by decide +kernel
theorem dX3_split_52 : decode cX3_split 52 = .ok (.istore 6, 2) := by decide +kernel
theorem dX3_split_54 : decode cX3_split 54 = .ok (.iconst 0, 1) := by decide +kernel
theorem dX3_split_55 : decode cX3_split 55 = .ok (.istore 7, 2) := by decide +kernel
theorem dX3_split_57 : decode cX3_split 57 = .ok (.iload 7, 2) := by decide +kernel
theorem dX3_split_59 : decode cX3_split 59 = .ok (.bipush 9, 2) := by decide +kernel
theorem dX3_split_61 : decode cX3_split 61 = .ok (.if_icmp .ge 124, 3) := by decide +kernel
theorem dX3_split_64 : decode cX3_split 64 = .ok (.iload 7, 2) := by decide +kernel
theorem dX3_split_66 : decode cX3_split 66 = .ok (.iconst 1, 1) := by decide +kernel
theorem dX3_split_67 : decode cX3_split 67 = .ok (.iadd, 1) := by decide +kernel
theorem dX3_split_68 : decode cX3_split 68 = .ok (.istore 8, 2) := by decide +kernel
theorem dX3_split_70 : decode cX3_split 70 = .ok (.iload 8, 2) := by decide +kernel
theorem dX3_split_72 : decode cX3_split 72 = .ok (.bipush 9, 2) := by decide +kernel
theorem dX3_split_74 : decode cX3_split 74 = .ok (.if_icmp .ge 105, 3) := by decide +kernel
theorem dX3_split_77 : decode cX3_split 77 = .ok (.aload_n 0, 1) := by decide +kernel
theorem dX3_split_78 : decode cX3_split 78 = .ok (.getfield 12, 3) := by decide +kernel
theorem dX3_split_81 : decode cX3_split 81 = .ok (.getfield 62, 3) := by decide +kernel
theorem dX3_split_84 : decode cX3_split 84 = .ok (.iload 7, 2) := by decide +kernel
theorem dX3_split_86 : decode cX3_split 86 = .ok (.invokevirtual 180, 3) := by decide +kernel
theorem dX3_split_89 : decode cX3_split 89 = .ok (.ifCond .eq 84, 3) := by decide +kernel
theorem dX3_split_92 : decode cX3_split 92 = .ok (.aload_n 0, 1) := by decide +kernel
theorem dX3_split_93 : decode cX3_split 93 = .ok (.getfield 12, 3) := by decide +kernel
theorem dX3_split_96 : decode cX3_split 96 = .ok (.getfield 62, 3) := by decide +kernel
theorem dX3_split_99 : decode cX3_split 99 = .ok (.iload 8, 2) := by decide +kernel
theorem dX3_split_101 : decode cX3_split 101 = .ok (.invokevirtual 180, 3) := by decide +kernel
theorem dX3_split_104 : decode cX3_split 104 = .ok (.ifCond .ne 6, 3) := by decide +kernel
theorem dX3_split_107 : decode cX3_split 107 = .ok (.goto 66, 3) := by decide +kernel
theorem dX3_split_110 : decode cX3_split 110 = .ok (.aload_n 0, 1) := by decide +kernel
theorem dX3_split_111 : decode cX3_split 111 = .ok (.iload 7, 2) := by decide +kernel
theorem dX3_split_113 : decode cX3_split 113 = .ok (.iload 8, 2) := by decide +kernel
theorem dX3_split_115 : decode cX3_split 115 = .ok (.invokevirtual 177, 3) := by decide +kernel
theorem dX3_split_118 : decode cX3_split 118 = .ok (.istore 9, 2) := by decide +kernel
theorem dX3_split_120 : decode cX3_split 120 = .ok (.aload_n 0, 1) := by decide +kernel
theorem dX3_split_121 : decode cX3_split 121 = .ok (.iload 7, 2) := by decide +kernel
theorem dX3_split_123 : decode cX3_split 123 = .ok (.iload 8, 2) := by decide +kernel
theorem dX3_split_125 : decode cX3_split 125 = .ok (.iload_n 1, 1) := by decide +kernel
theorem dX3_split_126 : decode cX3_split 126 = .ok (.iload 9, 2) := by decide +kernel
theorem dX3_split_128 : decode cX3_split 128 = .ok (.invokevirtual 195, 3) := by decide +kernel
theorem dX3_split_131 : decode cX3_split 131 = .ok (.istore 10, 2) := by decide +kernel
theorem dX3_split_133 : decode cX3_split 133 = .ok (.aload_n 0, 1) := by decide +kernel
theorem dX3_split_134 : decode cX3_split 134 = .ok (.iload 7, 2) := by decide +kernel
theorem dX3_split_136 : decode cX3_split 136 = .ok (.iload 8, 2) := by decide +kernel
theorem dX3_split_138 : decode cX3_split 138 = .ok (.iload_n 1, 1) := by decide +kernel
theorem dX3_split_139 : decode cX3_split 139 = .ok (.iload 10, 2) := by decide +kernel
theorem dX3_split_141 : decode cX3_split 141 = .ok (.iload 9, 2) := by decide +kernel
theorem dX3_split_143 : decode cX3_split 143 = .ok (.invokevirtual 198, 3) := by decide +kernel
theorem dX3_split_146 : decode cX3_split 146 = .ok (.istore 11, 2) := by decide +kernel
theorem dX3_split_148 : decode cX3_split 148 = .ok (.iload 11, 2) := by decide +kernel
theorem dX3_split_150 : decode cX3_split 150 = .ok (.iload 6, 2) := by decide +kernel
theorem dX3_split_152 : decode cX3_split 152 = .ok (.if_icmp .le 21, 3) := by decide +kernel
theorem dX3_split_155 : decode cX3_split 155 = .ok (.bipush 10, 2) := by decide +kernel
theorem dX3_split_157 : decode cX3_split 157 = .ok (.iload 7, 2) := by decide +kernel
theorem dX3_split_159 : decode cX3_split 159 = .ok (.imul, 1) := by decide +kernel
theorem dX3_split_160 : decode cX3_split 160 = .ok (.iload 8, 2) := by decide +kernel
theorem dX3_split_162 : decode cX3_split 162 = .ok (.iadd, 1) := by decide +kernel
theorem dX3_split_163 : decode cX3_split 163 = .ok (.istore 4, 2) := by decide +kernel
theorem dX3_split_165 : decode cX3_split 165 = .ok (.iload 10, 2) := by decide +kernel
theorem dX3_split_167 : decode cX3_split 167 = .ok (.istore 5, 2) := by decide +kernel
theorem dX3_split_169 : decode cX3_split 169 = .ok (.iload 11, 2) := by decide +kernel
theorem dX3_split_171 : decode cX3_split 171 = .ok (.istore 6, 2) := by decide +kernel
theorem dX3_split_173 : decode cX3_split 173 = .ok (.iinc 8 1, 3) := by decide +kernel
theorem dX3_split_176 : decode cX3_split 176 = .ok (.goto (-106), 3) := by decide +kernel
theorem dX3_split_179 : decode cX3_split 179 = .ok (.iinc 7 1, 3) := by decide +kernel
theorem dX3_split_182 : decode cX3_split 182 = .ok (.goto (-125), 3) := by decide +kernel
theorem dX3_split_185 : decode cX3_split 185 = .ok (.iload_n 3, 1) := by decide +kernel
theorem dX3_split_186 : decode cX3_split 186 = .ok (.ifCond .ne 8, 3) := by decide +kernel
theorem dX3_split_189 : decode cX3_split 189 = .ok (.iload 4, 2) := by decide +kernel
theorem dX3_split_191 : decode cX3_split 191 = .ok (.goto 15, 3) := by decide +kernel
theorem dX3_split_194 : decode cX3_split 194 = .ok (.iload_n 3, 1) := by decide +kernel
theorem dX3_split_195 : decode cX3_split 195 = .ok (.iconst 1, 1) := by decide +kernel
theorem dX3_split_196 : decode cX3_split 196 = .ok (.if_icmp .ne 8, 3) := by decide +kernel
theorem dX3_split_199 : decode cX3_split 199 = .ok (.iload 5, 2) := by decide +kernel
theorem dX3_split_201 : decode cX3_split 201 = .ok (.goto 5, 3) := by decide +kernel
theorem dX3_split_204 : decode cX3_split 204 = .ok (.iload 6, 2) := by decide +kernel
theorem dX3_split_206 : decode cX3_split 206 = .ok (.ireturn, 1) := by decide +kernel
theorem dX3_reading_0 : decode cX3_reading 0 = .ok (.iload_n 1, 1) := by decide +kernel
theorem dX3_reading_1 : decode cX3_reading 1 = .ok (.bipush 9, 2) := by decide +kernel
theorem dX3_reading_3 : decode cX3_reading 3 = .ok (.invokestatic 54, 3) := by decide +kernel
theorem dX3_reading_6 : decode cX3_reading 6 = .ok (.ifCond .eq 22, 3) := by decide +kernel
theorem dX3_reading_9 : decode cX3_reading 9 = .ok (.iload_n 2, 1) := by decide +kernel
theorem dX3_reading_10 : decode cX3_reading 10 = .ok (.bipush 21, 2) := by decide +kernel
theorem dX3_reading_12 : decode cX3_reading 12 = .ok (.invokestatic 54, 3) := by decide +kernel
theorem dX3_reading_15 : decode cX3_reading 15 = .ok (.ifCond .eq 13, 3) := by decide +kernel
theorem dX3_reading_18 : decode cX3_reading 18 = .ok (.iload_n 3, 1) := by decide +kernel
theorem dX3_reading_19 : decode cX3_reading 19 = .ok (.iconst 0, 1) := by decide +kernel
theorem dX3_reading_20 : decode cX3_reading 20 = .ok (.bipush 30, 2) := by decide +kernel
theorem dX3_reading_22 : decode cX3_reading 22 = .ok (.invokestatic 96, 3) := by decide +kernel
theorem dX3_reading_25 : decode cX3_reading 25 = .ok (.ifCond .ne 10, 3) := by decide +kernel
theorem dX3_reading_28 : decode cX3_reading 28 = .ok (.aload_n 0, 1) := by decide +kernel
theorem dX3_reading_29 : decode cX3_reading 29 = .ok (.bipush (-2), 2) := by decide +kernel
theorem dX3_reading_31 : decode cX3_reading 31 = .ok (.invokevirtual 58, 3) := by decide +kernel
theorem dX3_reading_34 : decode cX3_reading 34 = .ok (.ireturn, 1) := by decide +kernel
theorem dX3_reading_35 : decode cX3_reading 35 = .ok (.aload_n 0, 1) := by decide +kernel
theorem dX3_reading_36 : decode cX3_reading 36 = .ok (.getfield 12, 3) := by decide +kernel
theorem dX3_reading_39 : decode cX3_reading 39 = .ok (.getfield 202, 3) := by decide +kernel
theorem dX3_reading_42 : decode cX3_reading 42 = .ok (.bipush 6, 2) := by decide +kernel
theorem dX3_reading_44 : decode cX3_reading 44 = .ok (.if_icmp .lt 10, 3) := by decide +kernel
theorem dX3_reading_47 : decode cX3_reading 47 = .ok (.aload_n 0, 1) := by decide +kernel
theorem dX3_reading_48 : decode cX3_reading 48 = .ok (.bipush (-4), 2) := by decide +kernel
theorem dX3_reading_50 : decode cX3_reading 50 = .ok (.invokevirtual 58, 3) := by decide +kernel
theorem dX3_reading_53 : decode cX3_reading 53 = .ok (.ireturn, 1) := by decide +kernel
theorem dX3_reading_54 : decode cX3_reading 54 = .ok (.aload_n 0, 1) := by decide +kernel
theorem dX3_reading_55 : decode cX3_reading 55 = .ok (.getfield 12, 3) := by decide +kernel
theorem dX3_reading_58 : decode cX3_reading 58 = .ok (.iload_n 1, 1) := by decide +kernel
theorem dX3_reading_59 : decode cX3_reading 59 = .ok (.iload_n 2, 1) := by decide +kernel
theorem dX3_reading_60 : decode cX3_reading 60 = .ok (.iload_n 3, 1) := by decide +kernel
theorem dX3_reading_61 : decode cX3_reading 61 = .ok (.invokevirtual 205, 3) := by decide +kernel
theorem dX3_reading_64 : decode cX3_reading 64 = .ok (.ireturn, 1) := by decide +kernel
theorem dX3_forget_0 : decode cX3_forget 0 = .ok (.aload_n 0, 1) := by decide +kernel
theorem dX3_forget_1 : decode cX3_forget 1 = .ok (.getfield 12, 3) := by decide +kernel
theorem dX3_forget_4 : decode cX3_forget 4 = .ok (.getfield 202, 3) := by decide +kernel
theorem dX3_forget_7 : decode cX3_forget 7 = .ok (.istore_n 1, 1) := by decide +kernel
theorem dX3_forget_8 : decode cX3_forget 8 = .ok (.aload_n 0, 1) := by decide +kernel
theorem dX3_forget_9 : decode cX3_forget 9 = .ok (.getfield 12, 3) := by decide +kernel
theorem dX3_forget_12 : decode cX3_forget 12 = .ok (.iconst 0, 1) := by decide +kernel
theorem dX3_forget_13 : decode cX3_forget 13 = .ok (.putfield 202, 3) := by decide +kernel
theorem dX3_forget_16 : decode cX3_forget 16 = .ok (.iload_n 1, 1) := by decide +kernel
theorem dX3_forget_17 : decode cX3_forget 17 = .ok (.ireturn, 1) := by decide +kernel
theorem dX3_may_0 : decode cX3_may 0 = .ok (.iload_n 1, 1) := by decide +kernel
theorem dX3_may_1 : decode cX3_may 1 = .ok (.bipush 9, 2) := by decide +kernel
theorem dX3_may_3 : decode cX3_may 3 = .ok (.invokestatic 54, 3) := by decide +kernel
theorem dX3_may_6 : decode cX3_may 6 = .ok (.ifCond .ne 10, 3) := by decide +kernel
theorem dX3_may_9 : decode cX3_may 9 = .ok (.aload_n 0, 1) := by decide +kernel
theorem dX3_may_10 : decode cX3_may 10 = .ok (.bipush (-2), 2) := by decide +kernel
theorem dX3_may_12 : decode cX3_may 12 = .ok (.invokevirtual 58, 3) := by decide +kernel
theorem dX3_may_15 : decode cX3_may 15 = .ok (.ireturn, 1) := by decide +kernel
theorem dX3_may_16 : decode cX3_may 16 = .ok (.aload_n 0, 1) := by decide +kernel
theorem dX3_may_17 : decode cX3_may 17 = .ok (.getfield 12, 3) := by decide +kernel
theorem dX3_may_20 : decode cX3_may 20 = .ok (.iload_n 1, 1) := by decide +kernel
theorem dX3_may_21 : decode cX3_may 21 = .ok (.invokevirtual 208, 3) := by decide +kernel
theorem dX3_may_24 : decode cX3_may 24 = .ok (.ireturn, 1) := by decide +kernel
theorem dX3_look_0 : decode cX3_look 0 = .ok (.iload_n 1, 1) := by decide +kernel
theorem dX3_look_1 : decode cX3_look 1 = .ok (.bipush 9, 2) := by decide +kernel
theorem dX3_look_3 : decode cX3_look 3 = .ok (.invokestatic 54, 3) := by decide +kernel
theorem dX3_look_6 : decode cX3_look 6 = .ok (.ifCond .ne 10, 3) := by decide +kernel
theorem dX3_look_9 : decode cX3_look 9 = .ok (.aload_n 0, 1) := by decide +kernel
theorem dX3_look_10 : decode cX3_look 10 = .ok (.bipush (-2), 2) := by decide +kernel
theorem dX3_look_12 : decode cX3_look 12 = .ok (.invokevirtual 58, 3) := by decide +kernel
theorem dX3_look_15 : decode cX3_look 15 = .ok (.ireturn, 1) := by decide +kernel
theorem dX3_look_16 : decode cX3_look 16 = .ok (.aload_n 0, 1) := by decide +kernel
theorem dX3_look_17 : decode cX3_look 17 = .ok (.getfield 12, 3) := by decide +kernel
theorem dX3_look_20 : decode cX3_look 20 = .ok (.iload_n 1, 1) := by decide +kernel
theorem dX3_look_21 : decode cX3_look 21 = .ok (.invokevirtual 208, 3) := by decide +kernel
theorem dX3_look_24 : decode cX3_look 24 = .ok (.istore_n 2, 1) := by decide +kernel
theorem dX3_look_25 : decode cX3_look 25 = .ok (.iload_n 2, 1) := by decide +kernel
theorem dX3_look_26 : decode cX3_look 26 = .ok (.ifCond .ne 5, 3) := by decide +kernel
theorem dX3_look_29 : decode cX3_look 29 = .ok (.iconst (-1), 1) := by decide +kernel
theorem dX3_look_30 : decode cX3_look 30 = .ok (.ireturn, 1) := by decide +kernel
theorem dX3_look_31 : decode cX3_look 31 = .ok (.iconst (-1), 1) := by decide +kernel
theorem dX3_look_32 : decode cX3_look 32 = .ok (.istore_n 3, 1) := by decide +kernel
theorem dX3_look_33 : decode cX3_look 33 = .ok (.bipush 7, 2) := by decide +kernel
theorem dX3_look_35 : decode cX3_look 35 = .ok (.istore 4, 2) := by decide +kernel
theorem dX3_look_37 : decode cX3_look 37 = .ok (.iconst 0, 1) := by decide +kernel
theorem dX3_look_38 : decode cX3_look 38 = .ok (.istore 5, 2) := by decide +kernel
theorem dX3_look_40 : decode cX3_look 40 = .ok (.iload 5, 2) := by decide +kernel
theorem dX3_look_42 : decode cX3_look 42 = .ok (.bipush 21, 2) := by decide +kernel
theorem dX3_look_44 : decode cX3_look 44 = .ok (.if_icmp .ge 33, 3) := by decide +kernel
theorem dX3_look_47 : decode cX3_look 47 = .ok (.aload_n 0, 1) := by decide +kernel
theorem dX3_look_48 : decode cX3_look 48 = .ok (.iload_n 1, 1) := by decide +kernel
theorem dX3_look_49 : decode cX3_look 49 = .ok (.iload_n 2, 1) := by decide +kernel
theorem dX3_look_50 : decode cX3_look 50 = .ok (.iload 5, 2) := by decide +kernel
theorem dX3_look_52 : decode cX3_look 52 = .ok (.invokevirtual 211, 3) := by decide +kernel
theorem dX3_look_55 : decode cX3_look 55 = .ok (.istore 6, 2) := by decide +kernel
theorem dX3_look_57 : decode cX3_look 57 = .ok (.iload 6, 2) := by decide +kernel
theorem dX3_look_59 : decode cX3_look 59 = .ok (.iload 4, 2) := by decide +kernel
theorem dX3_look_61 : decode cX3_look 61 = .ok (.if_icmp .ge 10, 3) := by decide +kernel
theorem dX3_look_64 : decode cX3_look 64 = .ok (.iload 5, 2) := by decide +kernel
theorem dX3_look_66 : decode cX3_look 66 = .ok (.istore_n 3, 1) := by decide +kernel
theorem dX3_look_67 : decode cX3_look 67 = .ok (.iload 6, 2) := by decide +kernel
theorem dX3_look_69 : decode cX3_look 69 = .ok (.istore 4, 2) := by decide +kernel
theorem dX3_look_71 : decode cX3_look 71 = .ok (.iinc 5 1, 3) := by decide +kernel
theorem dX3_look_74 : decode cX3_look 74 = .ok (.goto (-34), 3) := by decide +kernel
theorem dX3_look_77 : decode cX3_look 77 = .ok (.iload_n 3, 1) := by decide +kernel
theorem dX3_look_78 : decode cX3_look 78 = .ok (.ireturn, 1) := by decide +kernel
theorem dX3_orders_0 : decode cX3_orders 0 = .ok (.iload_n 1, 1) := by decide +kernel
theorem dX3_orders_1 : decode cX3_orders 1 = .ok (.sipush 512, 3) := by decide +kernel
theorem dX3_orders_4 : decode cX3_orders 4 = .ok (.invokestatic 54, 3) := by decide +kernel
theorem dX3_orders_7 : decode cX3_orders 7 = .ok (.ifCond .eq 8, 3) := by decide +kernel
theorem dX3_orders_10 : decode cX3_orders 10 = .ok (.iload_n 2, 1) := by decide +kernel
theorem dX3_orders_11 : decode cX3_orders 11 = .ok (.iconst (-1), 1) := by decide +kernel
theorem dX3_orders_12 : decode cX3_orders 12 = .ok (.if_icmp .ge 13, 3) := by decide +kernel
theorem dX3_orders_15 : decode cX3_orders 15 = .ok (.aload_n 0, 1) := by decide +kernel
theorem dX3_orders_16 : decode cX3_orders 16 = .ok (.bipush (-2), 2) := by decide +kernel
theorem dX3_orders_18 : decode cX3_orders 18 = .ok (.invokevirtual 58, 3) := by decide +kernel
theorem dX3_orders_21 : decode cX3_orders 21 = .ok (.pop, 1) := by decide +kernel
theorem dX3_orders_22 : decode cX3_orders 22 = .ok (.bipush (-10), 2) := by decide +kernel
theorem dX3_orders_24 : decode cX3_orders 24 = .ok (.ireturn, 1) := by decide +kernel
theorem dX3_orders_25 : decode cX3_orders 25 = .ok (.aload_n 0, 1) := by decide +kernel
theorem dX3_orders_26 : decode cX3_orders 26 = .ok (.getfield 12, 3) := by decide +kernel
theorem dX3_orders_29 : decode cX3_orders 29 = .ok (.getfield 62, 3) := by decide +kernel
theorem dX3_orders_32 : decode cX3_orders 32 = .ok (.iload_n 1, 1) := by decide +kernel
theorem dX3_orders_33 : decode cX3_orders 33 = .ok (.invokevirtual 214, 3) := by decide +kernel
theorem dX3_orders_36 : decode cX3_orders 36 = .ok (.istore_n 3, 1) := by decide +kernel
theorem dX3_orders_37 : decode cX3_orders 37 = .ok (.iload_n 3, 1) := by decide +kernel
theorem dX3_orders_38 : decode cX3_orders 38 = .ok (.bipush 6, 2) := by decide +kernel
theorem dX3_orders_40 : decode cX3_orders 40 = .ok (.if_icmp .le 13, 3) := by decide +kernel
theorem dX3_orders_43 : decode cX3_orders 43 = .ok (.aload_n 0, 1) := by decide +kernel
theorem dX3_orders_44 : decode cX3_orders 44 = .ok (.bipush (-3), 2) := by decide +kernel
theorem dX3_orders_46 : decode cX3_orders 46 = .ok (.invokevirtual 58, 3) := by decide +kernel
theorem dX3_orders_49 : decode cX3_orders 49 = .ok (.pop, 1) := by decide +kernel
theorem dX3_orders_50 : decode cX3_orders 50 = .ok (.bipush (-20), 2) := by decide +kernel
theorem dX3_orders_52 : decode cX3_orders 52 = .ok (.ireturn, 1) := by decide +kernel
theorem dX3_orders_53 : decode cX3_orders 53 = .ok (.iload_n 2, 1) := by decide +kernel
theorem dX3_orders_54 : decode cX3_orders 54 = .ok (.iload_n 3, 1) := by decide +kernel
theorem dX3_orders_55 : decode cX3_orders 55 = .ok (.if_icmp .lt 6, 3) := by decide +kernel
theorem dX3_orders_58 : decode cX3_orders 58 = .ok (.bipush (-5), 2) := by decide +kernel
theorem dX3_orders_60 : decode cX3_orders 60 = .ok (.ireturn, 1) := by decide +kernel
theorem dX3_orders_61 : decode cX3_orders 61 = .ok (.aload_n 0, 1) := by decide +kernel
theorem dX3_orders_62 : decode cX3_orders 62 = .ok (.iload_n 1, 1) := by decide +kernel
theorem dX3_orders_63 : decode cX3_orders 63 = .ok (.iload_n 3, 1) := by decide +kernel
theorem dX3_orders_64 : decode cX3_orders 64 = .ok (.invokevirtual 217, 3) := by decide +kernel
theorem dX3_orders_67 : decode cX3_orders 67 = .ok (.iload_n 2, 1) := by decide +kernel
theorem dX3_orders_68 : decode cX3_orders 68 = .ok (.iconst (-1), 1) := by decide +kernel
theorem dX3_orders_69 : decode cX3_orders 69 = .ok (.if_icmp .ne 11, 3) := by decide +kernel
theorem dX3_orders_72 : decode cX3_orders 72 = .ok (.aload_n 0, 1) := by decide +kernel
theorem dX3_orders_73 : decode cX3_orders 73 = .ok (.iload_n 3, 1) := by decide +kernel
theorem dX3_orders_74 : decode cX3_orders 74 = .ok (.invokevirtual 220, 3) := by decide +kernel
theorem dX3_orders_77 : decode cX3_orders 77 = .ok (.goto 9, 3) := by decide +kernel
theorem dX3_orders_80 : decode cX3_orders 80 = .ok (.aload_n 0, 1) := by decide +kernel
theorem dX3_orders_81 : decode cX3_orders 81 = .ok (.getfield 44, 3) := by decide +kernel
theorem dX3_orders_84 : decode cX3_orders 84 = .ok (.iload_n 2, 1) := by decide +kernel
theorem dX3_orders_85 : decode cX3_orders 85 = .ok (.iaload, 1) := by decide +kernel
theorem dX3_orders_86 : decode cX3_orders 86 = .ok (.ireturn, 1) := by decide +kernel
theorem dX3_odds_0 : decode cX3_odds 0 = .ok (.iload_n 1, 1) := by decide +kernel
theorem dX3_odds_1 : decode cX3_odds 1 = .ok (.bipush 9, 2) := by decide +kernel
theorem dX3_odds_3 : decode cX3_odds 3 = .ok (.invokestatic 54, 3) := by decide +kernel
theorem dX3_odds_6 : decode cX3_odds 6 = .ok (.ifCond .eq 23, 3) := by decide +kernel
theorem dX3_odds_9 : decode cX3_odds 9 = .ok (.iload_n 2, 1) := by decide +kernel
theorem dX3_odds_10 : decode cX3_odds 10 = .ok (.iconst 0, 1) := by decide +kernel
theorem dX3_odds_11 : decode cX3_odds 11 = .ok (.bipush 8, 2) := by decide +kernel
theorem dX3_odds_13 : decode cX3_odds 13 = .ok (.invokestatic 96, 3) := by decide +kernel
theorem dX3_odds_16 : decode cX3_odds 16 = .ok (.ifCond .eq 13, 3) := by decide +kernel
theorem dX3_odds_19 : decode cX3_odds 19 = .ok (.iload_n 3, 1) := by decide +kernel
theorem dX3_odds_20 : decode cX3_odds 20 = .ok (.iconst 0, 1) := by decide +kernel
theorem dX3_odds_21 : decode cX3_odds 21 = .ok (.bipush 10, 2) := by decide +kernel
theorem dX3_odds_23 : decode cX3_odds 23 = .ok (.invokestatic 96, 3) := by decide +kernel
theorem dX3_odds_26 : decode cX3_odds 26 = .ok (.ifCond .ne 10, 3) := by decide +kernel
theorem dX3_odds_29 : decode cX3_odds 29 = .ok (.aload_n 0, 1) := by decide +kernel
theorem dX3_odds_30 : decode cX3_odds 30 = .ok (.bipush (-2), 2) := by decide +kernel
theorem dX3_odds_32 : decode cX3_odds 32 = .ok (.invokevirtual 58, 3) := by decide +kernel
theorem dX3_odds_35 : decode cX3_odds 35 = .ok (.ireturn, 1) := by decide +kernel
theorem dX3_odds_36 : decode cX3_odds 36 = .ok (.aload_n 0, 1) := by decide +kernel
theorem dX3_odds_37 : decode cX3_odds 37 = .ok (.getfield 12, 3) := by decide +kernel
theorem dX3_odds_40 : decode cX3_odds 40 = .ok (.getfield 62, 3) := by decide +kernel
theorem dX3_odds_43 : decode cX3_odds 43 = .ok (.iload_n 1, 1) := by decide +kernel
theorem dX3_odds_44 : decode cX3_odds 44 = .ok (.invokevirtual 138, 3) := by decide +kernel
theorem dX3_odds_47 : decode cX3_odds 47 = .ok (.iconst 1, 1) := by decide +kernel
theorem dX3_odds_48 : decode cX3_odds 48 = .ok (.isub, 1) := by decide +kernel
theorem dX3_odds_49 : decode cX3_odds 49 = .ok (.istore 4, 2) := by decide +kernel
theorem dX3_odds_51 : decode cX3_odds 51 = .ok (.aload_n 0, 1) := by decide +kernel
theorem dX3_odds_52 : decode cX3_odds 52 = .ok (.getfield 12, 3) := by decide +kernel
theorem dX3_odds_55 : decode cX3_odds 55 = .ok (.getfield 62, 3) := by decide +kernel
theorem dX3_odds_58 : decode cX3_odds 58 = .ok (.iload_n 1, 1) := by decide +kernel
theorem dX3_odds_59 : decode cX3_odds 59 = .ok (.iload 4, 2) := by decide +kernel
theorem dX3_odds_61 : decode cX3_odds 61 = .ok (.aload_n 0, 1) := by decide +kernel
theorem dX3_odds_62 : decode cX3_odds 62 = .ok (.getfield 12, 3) := by decide +kernel
theorem dX3_odds_65 : decode cX3_odds 65 = .ok (.getfield 62, 3) := by decide +kernel
theorem dX3_odds_68 : decode cX3_odds 68 = .ok (.iload_n 1, 1) := by decide +kernel
theorem dX3_odds_69 : decode cX3_odds 69 = .ok (.iload 4, 2) := by decide +kernel
theorem dX3_odds_71 : decode cX3_odds 71 = .ok (.invokevirtual 223, 3) := by decide +kernel
theorem dX3_odds_74 : decode cX3_odds 74 = .ok (.iload_n 2, 1) := by decide +kernel
theorem dX3_odds_75 : decode cX3_odds 75 = .ok (.aload_n 0, 1) := by decide +kernel
theorem dX3_odds_76 : decode cX3_odds 76 = .ok (.getfield 12, 3) := by decide +kernel
theorem dX3_odds_79 : decode cX3_odds 79 = .ok (.getfield 62, 3) := by decide +kernel
theorem dX3_odds_82 : decode cX3_odds 82 = .ok (.invokevirtual 149, 3) := by decide +kernel
theorem dX3_odds_85 : decode cX3_odds 85 = .ok (.iload_n 3, 1) := by decide +kernel
theorem dX3_odds_86 : decode cX3_odds 86 = .ok (.invokevirtual 226, 3) := by decide +kernel
theorem dX3_odds_89 : decode cX3_odds 89 = .ok (.lstore 5, 2) := by decide +kernel
theorem dX3_odds_91 : decode cX3_odds 91 = .ok (.aload_n 0, 1) := by decide +kernel
theorem dX3_odds_92 : decode cX3_odds 92 = .ok (.lload 5, 2) := by decide +kernel
theorem dX3_odds_94 : decode cX3_odds 94 = .ok (.iload_n 2, 1) := by decide +kernel
theorem dX3_odds_95 : decode cX3_odds 95 = .ok (.invokestatic 230, 3) := by decide +kernel
theorem dX3_odds_98 : decode cX3_odds 98 = .ok (.invokevirtual 167, 3) := by decide +kernel
theorem dX3_odds_101 : decode cX3_odds 101 = .ok (.iconst 1, 1) := by decide +kernel
theorem dX3_odds_102 : decode cX3_odds 102 = .ok (.ireturn, 1) := by decide +kernel
theorem dX3_drawn_0 : decode cX3_drawn 0 = .ok (.iload_n 1, 1) := by decide +kernel
theorem dX3_drawn_1 : decode cX3_drawn 1 = .ok (.iconst 0, 1) := by decide +kernel
theorem dX3_drawn_2 : decode cX3_drawn 2 = .ok (.ldc 234, 2) := by decide +kernel
theorem dX3_drawn_4 : decode cX3_drawn 4 = .ok (.invokestatic 96, 3) := by decide +kernel
theorem dX3_drawn_7 : decode cX3_drawn 7 = .ok (.ifCond .eq 13, 3) := by decide +kernel
theorem dX3_drawn_10 : decode cX3_drawn 10 = .ok (.iload_n 2, 1) := by decide +kernel
theorem dX3_drawn_11 : decode cX3_drawn 11 = .ok (.iconst 0, 1) := by decide +kernel
theorem dX3_drawn_12 : decode cX3_drawn 12 = .ok (.bipush 20, 2) := by decide +kernel
theorem dX3_drawn_14 : decode cX3_drawn 14 = .ok (.invokestatic 96, 3) := by decide +kernel
theorem dX3_drawn_17 : decode cX3_drawn 17 = .ok (.ifCond .ne 10, 3) := by decide +kernel
theorem dX3_drawn_20 : decode cX3_drawn 20 = .ok (.aload_n 0, 1) := by decide +kernel
theorem dX3_drawn_21 : decode cX3_drawn 21 = .ok (.bipush (-2), 2) := by decide +kernel
theorem dX3_drawn_23 : decode cX3_drawn 23 = .ok (.invokevirtual 58, 3) := by decide +kernel
theorem dX3_drawn_26 : decode cX3_drawn 26 = .ok (.ireturn, 1) := by decide +kernel
theorem dX3_drawn_27 : decode cX3_drawn 27 = .ok (.aload_n 0, 1) := by decide +kernel
theorem dX3_drawn_28 : decode cX3_drawn 28 = .ok (.getfield 23, 3) := by decide +kernel
theorem dX3_drawn_31 : decode cX3_drawn 31 = .ok (.aload_n 0, 1) := by decide +kernel
theorem dX3_drawn_32 : decode cX3_drawn 32 = .ok (.getfield 12, 3) := by decide +kernel
theorem dX3_drawn_35 : decode cX3_drawn 35 = .ok (.getfield 62, 3) := by decide +kernel
theorem dX3_drawn_38 : decode cX3_drawn 38 = .ok (.invokevirtual 131, 3) := by decide +kernel
theorem dX3_drawn_41 : decode cX3_drawn 41 = .ok (.iload_n 1, 1) := by decide +kernel
theorem dX3_drawn_42 : decode cX3_drawn 42 = .ok (.i2l, 1) := by decide +kernel
theorem dX3_drawn_43 : decode cX3_drawn 43 = .ok (.lstore_n 3, 1) := by decide +kernel
theorem dX3_drawn_44 : decode cX3_drawn 44 = .ok (.iconst 0, 1) := by decide +kernel
theorem dX3_drawn_45 : decode cX3_drawn 45 = .ok (.istore 5, 2) := by decide +kernel
theorem dX3_drawn_47 : decode cX3_drawn 47 = .ok (.iload 5, 2) := by decide +kernel
theorem dX3_drawn_49 : decode cX3_drawn 49 = .ok (.iload_n 2, 1) := by decide +kernel
theorem dX3_drawn_50 : decode cX3_drawn 50 = .ok (.if_icmp .ge 66, 3) := by decide +kernel
theorem dX3_drawn_53 : decode cX3_drawn 53 = .ok (.iconst 0, 1) := by decide +kernel
theorem dX3_drawn_54 : decode cX3_drawn 54 = .ok (.istore 6, 2) := by decide +kernel
theorem dX3_drawn_56 : decode cX3_drawn 56 = .ok (.iload 6, 2) := by decide +kernel
theorem dX3_drawn_58 : decode cX3_drawn 58 = .ok (.bipush 9, 2) := by decide +kernel
theorem dX3_drawn_60 : decode cX3_drawn 60 = .ok (.if_icmp .ge 43, 3) := by decide +kernel
theorem dX3_drawn_63 : decode cX3_drawn 63 = .ok (.lload_n 3, 1) := by decide +kernel
theorem dX3_drawn_64 : decode cX3_drawn 64 = .ok (.ldc2_w 235, 3) := by decide +kernel
theorem dX3_drawn_67 : decode cX3_drawn 67 = .ok (.lmul, 1) := by decide +kernel
theorem dX3_drawn_68 : decode cX3_drawn 68 = .ok (.ldc2_w 237, 3) := by decide +kernel
theorem dX3_drawn_71 : decode cX3_drawn 71 = .ok (.ladd, 1) := by decide +kernel
theorem dX3_drawn_72 : decode cX3_drawn 72 = .ok (.ldc2_w 239, 3) := by decide +kernel
theorem dX3_drawn_75 : decode cX3_drawn 75 = .ok (.lrem, 1) := by decide +kernel
theorem dX3_drawn_76 : decode cX3_drawn 76 = .ok (.lstore_n 3, 1) := by decide +kernel
theorem dX3_drawn_77 : decode cX3_drawn 77 = .ok (.aload_n 0, 1) := by decide +kernel
theorem dX3_drawn_78 : decode cX3_drawn 78 = .ok (.getfield 23, 3) := by decide +kernel
theorem dX3_drawn_81 : decode cX3_drawn 81 = .ok (.getfield 76, 3) := by decide +kernel
theorem dX3_drawn_84 : decode cX3_drawn 84 = .ok (.iload 6, 2) := by decide +kernel
theorem dX3_drawn_86 : decode cX3_drawn 86 = .ok (.lload_n 3, 1) := by decide +kernel
theorem dX3_drawn_87 : decode cX3_drawn 87 = .ok (.ldc2_w 241, 3) := by decide +kernel
theorem dX3_drawn_90 : decode cX3_drawn 90 = .ok (.ldiv, 1) := by decide +kernel
theorem dX3_drawn_91 : decode cX3_drawn 91 = .ok (.ldc2_w 243, 3) := by decide +kernel
theorem dX3_drawn_94 : decode cX3_drawn 94 = .ok (.lrem, 1) := by decide +kernel
theorem dX3_drawn_95 : decode cX3_drawn 95 = .ok (.l2i, 1) := by decide +kernel
theorem dX3_drawn_96 : decode cX3_drawn 96 = .ok (.iastore, 1) := by decide +kernel
theorem dX3_drawn_97 : decode cX3_drawn 97 = .ok (.iinc 6 1, 3) := by decide +kernel
theorem dX3_drawn_100 : decode cX3_drawn 100 = .ok (.goto (-44), 3) := by decide +kernel
theorem dX3_drawn_103 : decode cX3_drawn 103 = .ok (.aload_n 0, 1) := by decide +kernel
theorem dX3_drawn_104 : decode cX3_drawn 104 = .ok (.getfield 23, 3) := by decide +kernel
theorem dX3_drawn_107 : decode cX3_drawn 107 = .ok (.invokevirtual 100, 3) := by decide +kernel
theorem dX3_drawn_110 : decode cX3_drawn 110 = .ok (.iinc 5 1, 3) := by decide +kernel
theorem dX3_drawn_113 : decode cX3_drawn 113 = .ok (.goto (-66), 3) := by decide +kernel
theorem dX3_drawn_116 : decode cX3_drawn 116 = .ok (.aload_n 0, 1) := by decide +kernel
theorem dX3_drawn_117 : decode cX3_drawn 117 = .ok (.getfield 23, 3) := by decide +kernel
theorem dX3_drawn_120 : decode cX3_drawn 120 = .ok (.invokevirtual 103, 3) := by decide +kernel
theorem dX3_drawn_123 : decode cX3_drawn 123 = .ok (.invokestatic 106, 3) := by decide +kernel
theorem dX3_drawn_126 : decode cX3_drawn 126 = .ok (.ireturn, 1) := by decide +kernel
theorem dX3_part_0 : decode cX3_part 0 = .ok (.iload_n 1, 1) := by decide +kernel
theorem dX3_part_1 : decode cX3_part 1 = .ok (.iconst 0, 1) := by decide +kernel
theorem dX3_part_2 : decode cX3_part 2 = .ok (.iconst 1, 1) := by decide +kernel
theorem dX3_part_3 : decode cX3_part 3 = .ok (.invokestatic 96, 3) := by decide +kernel
theorem dX3_part_6 : decode cX3_part 6 = .ok (.ifCond .ne 11, 3) := by decide +kernel
theorem dX3_part_9 : decode cX3_part 9 = .ok (.aload_n 0, 1) := by decide +kernel
theorem dX3_part_10 : decode cX3_part 10 = .ok (.bipush (-2), 2) := by decide +kernel
theorem dX3_part_12 : decode cX3_part 12 = .ok (.invokevirtual 58, 3) := by decide +kernel
theorem dX3_part_15 : decode cX3_part 15 = .ok (.i2l, 1) := by decide +kernel
theorem dX3_part_16 : decode cX3_part 16 = .ok (.lreturn, 1) := by decide +kernel
theorem dX3_part_17 : decode cX3_part 17 = .ok (.iload_n 1, 1) := by decide +kernel
theorem dX3_part_18 : decode cX3_part 18 = .ok (.ifCond .ne 10, 3) := by decide +kernel
theorem dX3_part_21 : decode cX3_part 21 = .ok (.aload_n 0, 1) := by decide +kernel
theorem dX3_part_22 : decode cX3_part 22 = .ok (.getfield 47, 3) := by decide +kernel
theorem dX3_part_25 : decode cX3_part 25 = .ok (.goto 7, 3) := by decide +kernel
theorem dX3_part_28 : decode cX3_part 28 = .ok (.aload_n 0, 1) := by decide +kernel
theorem dX3_part_29 : decode cX3_part 29 = .ok (.getfield 51, 3) := by decide +kernel
theorem dX3_part_32 : decode cX3_part 32 = .ok (.lreturn, 1) := by decide +kernel
theorem dX3_image_0 : decode cX3_image 0 = .ok (.iload_n 1, 1) := by decide +kernel
theorem dX3_image_1 : decode cX3_image 1 = .ok (.iconst 2, 1) := by decide +kernel
theorem dX3_image_2 : decode cX3_image 2 = .ok (.invokestatic 54, 3) := by decide +kernel
theorem dX3_image_5 : decode cX3_image 5 = .ok (.ifCond .ne 10, 3) := by decide +kernel
theorem dX3_image_8 : decode cX3_image 8 = .ok (.aload_n 0, 1) := by decide +kernel
theorem dX3_image_9 : decode cX3_image 9 = .ok (.bipush (-2), 2) := by decide +kernel
theorem dX3_image_11 : decode cX3_image 11 = .ok (.invokevirtual 58, 3) := by decide +kernel
theorem dX3_image_14 : decode cX3_image 14 = .ok (.ireturn, 1) := by decide +kernel
theorem dX3_image_15 : decode cX3_image 15 = .ok (.aload_n 0, 1) := by decide +kernel
theorem dX3_image_16 : decode cX3_image 16 = .ok (.getfield 16, 3) := by decide +kernel
theorem dX3_image_19 : decode cX3_image 19 = .ok (.iload_n 1, 1) := by decide +kernel
theorem dX3_image_20 : decode cX3_image 20 = .ok (.aaload, 1) := by decide +kernel
theorem dX3_image_21 : decode cX3_image 21 = .ok (.astore_n 2, 1) := by decide +kernel
theorem dX3_image_22 : decode cX3_image 22 = .ok (.aload_n 2, 1) := by decide +kernel
theorem dX3_image_23 : decode cX3_image 23 = .ok (.ifnonnull 18, 3) := by decide +kernel
theorem dX3_image_26 : decode cX3_image 26 = .ok (.new 9, 3) := by decide +kernel
theorem dX3_image_29 : decode cX3_image 29 = .ok (.dup, 1) := by decide +kernel
theorem dX3_image_30 : decode cX3_image 30 = .ok (.invokespecial 11, 3) := by decide +kernel
theorem dX3_image_33 : decode cX3_image 33 = .ok (.astore_n 2, 1) := by decide +kernel
theorem dX3_image_34 : decode cX3_image 34 = .ok (.aload_n 0, 1) := by decide +kernel
theorem dX3_image_35 : decode cX3_image 35 = .ok (.getfield 16, 3) := by decide +kernel
theorem dX3_image_38 : decode cX3_image 38 = .ok (.iload_n 1, 1) := by decide +kernel
theorem dX3_image_39 : decode cX3_image 39 = .ok (.aload_n 2, 1) := by decide +kernel
theorem dX3_image_40 : decode cX3_image 40 = .ok (.aastore, 1) := by decide +kernel
theorem dX3_image_41 : decode cX3_image 41 = .ok (.aload_n 2, 1) := by decide +kernel
theorem dX3_image_42 : decode cX3_image 42 = .ok (.aload_n 0, 1) := by decide +kernel
theorem dX3_image_43 : decode cX3_image 43 = .ok (.getfield 12, 3) := by decide +kernel
theorem dX3_image_46 : decode cX3_image 46 = .ok (.invokevirtual 245, 3) := by decide +kernel
theorem dX3_image_49 : decode cX3_image 49 = .ok (.iconst 1, 1) := by decide +kernel
theorem dX3_image_50 : decode cX3_image 50 = .ok (.ireturn, 1) := by decide +kernel
theorem dX3_from_0 : decode cX3_from 0 = .ok (.iload_n 1, 1) := by decide +kernel
theorem dX3_from_1 : decode cX3_from 1 = .ok (.iconst 2, 1) := by decide +kernel
theorem dX3_from_2 : decode cX3_from 2 = .ok (.invokestatic 54, 3) := by decide +kernel
theorem dX3_from_5 : decode cX3_from 5 = .ok (.ifCond .ne 10, 3) := by decide +kernel
theorem dX3_from_8 : decode cX3_from 8 = .ok (.aload_n 0, 1) := by decide +kernel
theorem dX3_from_9 : decode cX3_from 9 = .ok (.bipush (-2), 2) := by decide +kernel
theorem dX3_from_11 : decode cX3_from 11 = .ok (.invokevirtual 58, 3) := by decide +kernel
theorem dX3_from_14 : decode cX3_from 14 = .ok (.ireturn, 1) := by decide +kernel
theorem dX3_from_15 : decode cX3_from 15 = .ok (.aload_n 0, 1) := by decide +kernel
theorem dX3_from_16 : decode cX3_from 16 = .ok (.getfield 16, 3) := by decide +kernel
theorem dX3_from_19 : decode cX3_from 19 = .ok (.iload_n 1, 1) := by decide +kernel
theorem dX3_from_20 : decode cX3_from 20 = .ok (.aaload, 1) := by decide +kernel
theorem dX3_from_21 : decode cX3_from 21 = .ok (.astore_n 2, 1) := by decide +kernel
theorem dX3_from_22 : decode cX3_from 22 = .ok (.aload_n 2, 1) := by decide +kernel
theorem dX3_from_23 : decode cX3_from 23 = .ok (.ifnonnull 10, 3) := by decide +kernel
theorem dX3_from_26 : decode cX3_from 26 = .ok (.aload_n 0, 1) := by decide +kernel
theorem dX3_from_27 : decode cX3_from 27 = .ok (.bipush (-3), 2) := by decide +kernel
theorem dX3_from_29 : decode cX3_from 29 = .ok (.invokevirtual 58, 3) := by decide +kernel
theorem dX3_from_32 : decode cX3_from 32 = .ok (.ireturn, 1) := by decide +kernel
theorem dX3_from_33 : decode cX3_from 33 = .ok (.aload_n 0, 1) := by decide +kernel
theorem dX3_from_34 : decode cX3_from 34 = .ok (.getfield 12, 3) := by decide +kernel
theorem dX3_from_37 : decode cX3_from 37 = .ok (.aload_n 2, 1) := by decide +kernel
theorem dX3_from_38 : decode cX3_from 38 = .ok (.invokevirtual 245, 3) := by decide +kernel
theorem dX3_from_41 : decode cX3_from 41 = .ok (.iconst 1, 1) := by decide +kernel
theorem dX3_from_42 : decode cX3_from 42 = .ok (.ireturn, 1) := by decide +kernel
theorem dX3_status_0 : decode cX3_status 0 = .ok (.iload_n 1, 1) := by decide +kernel
theorem dX3_status_1 : decode cX3_status 1 = .ok (.tableswitch 42 0 2 #[27, 32, 37], 27) := by decide +kernel
theorem dX3_status_28 : decode cX3_status 28 = .ok (.aload_n 0, 1) := by decide +kernel
theorem dX3_status_29 : decode cX3_status 29 = .ok (.getfield 248, 3) := by decide +kernel
theorem dX3_status_32 : decode cX3_status 32 = .ok (.ireturn, 1) := by decide +kernel
theorem dX3_status_33 : decode cX3_status 33 = .ok (.aload_n 0, 1) := by decide +kernel
theorem dX3_status_34 : decode cX3_status 34 = .ok (.getfield 251, 3) := by decide +kernel
theorem dX3_status_37 : decode cX3_status 37 = .ok (.ireturn, 1) := by decide +kernel
theorem dX3_status_38 : decode cX3_status 38 = .ok (.aload_n 0, 1) := by decide +kernel
theorem dX3_status_39 : decode cX3_status 39 = .ok (.getfield 254, 3) := by decide +kernel
theorem dX3_status_42 : decode cX3_status 42 = .ok (.ireturn, 1) := by decide +kernel
theorem dX3_status_43 : decode cX3_status 43 = .ok (.aload_n 0, 1) := by decide +kernel
theorem dX3_status_44 : decode cX3_status 44 = .ok (.bipush (-2), 2) := by decide +kernel
theorem dX3_status_46 : decode cX3_status 46 = .ok (.invokevirtual 58, 3) := by decide +kernel
theorem dX3_status_49 : decode cX3_status 49 = .ok (.pop, 1) := by decide +kernel
theorem dX3_status_50 : decode cX3_status 50 = .ok (.iconst (-1), 1) := by decide +kernel
theorem dX3_status_51 : decode cX3_status 51 = .ok (.ireturn, 1) := by decide +kernel
theorem dX3_count_0 : decode cX3_count 0 = .ok (.iload_n 1, 1) := by decide +kernel
theorem dX3_count_1 : decode cX3_count 1 = .ok (.iconst 0, 1) := by decide +kernel
theorem dX3_count_2 : decode cX3_count 2 = .ok (.iconst 5, 1) := by decide +kernel
theorem dX3_count_3 : decode cX3_count 3 = .ok (.invokestatic 96, 3) := by decide +kernel
theorem dX3_count_6 : decode cX3_count 6 = .ok (.ifCond .ne 10, 3) := by decide +kernel
theorem dX3_count_9 : decode cX3_count 9 = .ok (.aload_n 0, 1) := by decide +kernel
theorem dX3_count_10 : decode cX3_count 10 = .ok (.bipush (-2), 2) := by decide +kernel
theorem dX3_count_12 : decode cX3_count 12 = .ok (.invokevirtual 58, 3) := by decide +kernel
theorem dX3_count_15 : decode cX3_count 15 = .ok (.ireturn, 1) := by decide +kernel
theorem dX3_count_16 : decode cX3_count 16 = .ok (.aload_n 0, 1) := by decide +kernel
theorem dX3_count_17 : decode cX3_count 17 = .ok (.iload_n 1, 1) := by decide +kernel
theorem dX3_count_18 : decode cX3_count 18 = .ok (.invokevirtual 257, 3) := by decide +kernel
theorem dX3_count_21 : decode cX3_count 21 = .ok (.ireturn, 1) := by decide +kernel
theorem dX3_digest_0 : decode cX3_digest 0 = .ok (.ldc2_w 260, 3) := by decide +kernel
theorem dX3_digest_3 : decode cX3_digest 3 = .ok (.lstore_n 1, 1) := by decide +kernel
theorem dX3_digest_4 : decode cX3_digest 4 = .ok (.iconst 0, 1) := by decide +kernel
theorem dX3_digest_5 : decode cX3_digest 5 = .ok (.istore_n 3, 1) := by decide +kernel
theorem dX3_digest_6 : decode cX3_digest 6 = .ok (.iload_n 3, 1) := by decide +kernel
theorem dX3_digest_7 : decode cX3_digest 7 = .ok (.iconst 5, 1) := by decide +kernel
theorem dX3_digest_8 : decode cX3_digest 8 = .ok (.if_icmp .gt 22, 3) := by decide +kernel
theorem dX3_digest_11 : decode cX3_digest 11 = .ok (.ldc2_w 262, 3) := by decide +kernel
theorem dX3_digest_14 : decode cX3_digest 14 = .ok (.lload_n 1, 1) := by decide +kernel
theorem dX3_digest_15 : decode cX3_digest 15 = .ok (.lmul, 1) := by decide +kernel
theorem dX3_digest_16 : decode cX3_digest 16 = .ok (.aload_n 0, 1) := by decide +kernel
theorem dX3_digest_17 : decode cX3_digest 17 = .ok (.iload_n 3, 1) := by decide +kernel
theorem dX3_digest_18 : decode cX3_digest 18 = .ok (.invokevirtual 257, 3) := by decide +kernel
theorem dX3_digest_21 : decode cX3_digest 21 = .ok (.i2l, 1) := by decide +kernel
theorem dX3_digest_22 : decode cX3_digest 22 = .ok (.ladd, 1) := by decide +kernel
theorem dX3_digest_23 : decode cX3_digest 23 = .ok (.lstore_n 1, 1) := by decide +kernel
theorem dX3_digest_24 : decode cX3_digest 24 = .ok (.iinc 3 1, 3) := by decide +kernel
theorem dX3_digest_27 : decode cX3_digest 27 = .ok (.goto (-21), 3) := by decide +kernel
theorem dX3_digest_30 : decode cX3_digest 30 = .ok (.aload_n 0, 1) := by decide +kernel
theorem dX3_digest_31 : decode cX3_digest 31 = .ok (.getfield 12, 3) := by decide +kernel
theorem dX3_digest_34 : decode cX3_digest 34 = .ok (.getfield 62, 3) := by decide +kernel
theorem dX3_digest_37 : decode cX3_digest 37 = .ok (.lload_n 1, 1) := by decide +kernel
theorem dX3_digest_38 : decode cX3_digest 38 = .ok (.invokevirtual 264, 3) := by decide +kernel
theorem dX3_digest_41 : decode cX3_digest 41 = .ok (.lstore_n 1, 1) := by decide +kernel
theorem dX3_digest_42 : decode cX3_digest 42 = .ok (.aload_n 0, 1) := by decide +kernel
theorem dX3_digest_43 : decode cX3_digest 43 = .ok (.getfield 12, 3) := by decide +kernel
theorem dX3_digest_46 : decode cX3_digest 46 = .ok (.lload_n 1, 1) := by decide +kernel
theorem dX3_digest_47 : decode cX3_digest 47 = .ok (.invokevirtual 268, 3) := by decide +kernel
theorem dX3_digest_50 : decode cX3_digest 50 = .ok (.lstore_n 1, 1) := by decide +kernel
theorem dX3_digest_51 : decode cX3_digest 51 = .ok (.ldc2_w 262, 3) := by decide +kernel
theorem dX3_digest_54 : decode cX3_digest 54 = .ok (.lload_n 1, 1) := by decide +kernel
theorem dX3_digest_55 : decode cX3_digest 55 = .ok (.lmul, 1) := by decide +kernel
theorem dX3_digest_56 : decode cX3_digest 56 = .ok (.aload_n 0, 1) := by decide +kernel
theorem dX3_digest_57 : decode cX3_digest 57 = .ok (.getfield 47, 3) := by decide +kernel
theorem dX3_digest_60 : decode cX3_digest 60 = .ok (.ladd, 1) := by decide +kernel
theorem dX3_digest_61 : decode cX3_digest 61 = .ok (.lstore_n 1, 1) := by decide +kernel
theorem dX3_digest_62 : decode cX3_digest 62 = .ok (.ldc2_w 262, 3) := by decide +kernel
theorem dX3_digest_65 : decode cX3_digest 65 = .ok (.lload_n 1, 1) := by decide +kernel
theorem dX3_digest_66 : decode cX3_digest 66 = .ok (.lmul, 1) := by decide +kernel
theorem dX3_digest_67 : decode cX3_digest 67 = .ok (.aload_n 0, 1) := by decide +kernel
theorem dX3_digest_68 : decode cX3_digest 68 = .ok (.getfield 51, 3) := by decide +kernel
theorem dX3_digest_71 : decode cX3_digest 71 = .ok (.ladd, 1) := by decide +kernel
theorem dX3_digest_72 : decode cX3_digest 72 = .ok (.lreturn, 1) := by decide +kernel
theorem dX3_within_0 : decode cX3_within 0 = .ok (.iload_n 0, 1) := by decide +kernel
theorem dX3_within_1 : decode cX3_within 1 = .ok (.ifCond .lt 12, 3) := by decide +kernel
theorem dX3_within_4 : decode cX3_within 4 = .ok (.iload_n 0, 1) := by decide +kernel
theorem dX3_within_5 : decode cX3_within 5 = .ok (.iload_n 1, 1) := by decide +kernel
theorem dX3_within_6 : decode cX3_within 6 = .ok (.if_icmp .ge 7, 3) := by decide +kernel
theorem dX3_within_9 : decode cX3_within 9 = .ok (.iconst 1, 1) := by decide +kernel
theorem dX3_within_10 : decode cX3_within 10 = .ok (.goto 4, 3) := by decide +kernel
theorem dX3_within_13 : decode cX3_within 13 = .ok (.iconst 0, 1) := by decide +kernel
theorem dX3_within_14 : decode cX3_within 14 = .ok (.ireturn, 1) := by decide +kernel
theorem dX3_between_0 : decode cX3_between 0 = .ok (.iload_n 0, 1) := by decide +kernel
theorem dX3_between_1 : decode cX3_between 1 = .ok (.iload_n 1, 1) := by decide +kernel
theorem dX3_between_2 : decode cX3_between 2 = .ok (.if_icmp .lt 12, 3) := by decide +kernel
theorem dX3_between_5 : decode cX3_between 5 = .ok (.iload_n 0, 1) := by decide +kernel
theorem dX3_between_6 : decode cX3_between 6 = .ok (.iload_n 2, 1) := by decide +kernel
theorem dX3_between_7 : decode cX3_between 7 = .ok (.if_icmp .gt 7, 3) := by decide +kernel
theorem dX3_between_10 : decode cX3_between 10 = .ok (.iconst 1, 1) := by decide +kernel
theorem dX3_between_11 : decode cX3_between 11 = .ok (.goto 4, 3) := by decide +kernel
theorem dX3_between_14 : decode cX3_between 14 = .ok (.iconst 0, 1) := by decide +kernel
theorem dX3_between_15 : decode cX3_between 15 = .ok (.ireturn, 1) := by decide +kernel
theorem dX3_wearsAsTold_0 : decode cX3_wearsAsTold 0 = .ok (.iload_n 0, 1) := by decide +kernel
theorem dX3_wearsAsTold_1 : decode cX3_wearsAsTold 1 = .ok (.bipush 9, 2) := by decide +kernel
theorem dX3_wearsAsTold_3 : decode cX3_wearsAsTold 3 = .ok (.invokestatic 54, 3) := by decide +kernel
theorem dX3_wearsAsTold_6 : decode cX3_wearsAsTold 6 = .ok (.ifCond .eq 16, 3) := by decide +kernel
theorem dX3_wearsAsTold_9 : decode cX3_wearsAsTold 9 = .ok (.iload_n 1, 1) := by decide +kernel
theorem dX3_wearsAsTold_10 : decode cX3_wearsAsTold 10 = .ok (.iconst 0, 1) := by decide +kernel
theorem dX3_wearsAsTold_11 : decode cX3_wearsAsTold 11 = .ok (.iconst 5, 1) := by decide +kernel
theorem dX3_wearsAsTold_12 : decode cX3_wearsAsTold 12 = .ok (.invokestatic 96, 3) := by decide +kernel
theorem dX3_wearsAsTold_15 : decode cX3_wearsAsTold 15 = .ok (.ifCond .eq 7, 3) := by decide +kernel
theorem dX3_wearsAsTold_18 : decode cX3_wearsAsTold 18 = .ok (.iconst 1, 1) := by decide +kernel
theorem dX3_wearsAsTold_19 : decode cX3_wearsAsTold 19 = .ok (.goto 4, 3) := by decide +kernel
theorem dX3_wearsAsTold_22 : decode cX3_wearsAsTold 22 = .ok (.iconst 0, 1) := by decide +kernel
theorem dX3_wearsAsTold_23 : decode cX3_wearsAsTold 23 = .ok (.ireturn, 1) := by decide +kernel
theorem dX3_refuse_0 : decode cX3_refuse 0 = .ok (.iload_n 1, 1) := by decide +kernel
theorem dX3_refuse_1 : decode cX3_refuse 1 = .ok (.bipush (-2), 2) := by decide +kernel
theorem dX3_refuse_3 : decode cX3_refuse 3 = .ok (.if_icmp .ne 16, 3) := by decide +kernel
theorem dX3_refuse_6 : decode cX3_refuse 6 = .ok (.aload_n 0, 1) := by decide +kernel
theorem dX3_refuse_7 : decode cX3_refuse 7 = .ok (.dup, 1) := by decide +kernel
theorem dX3_refuse_8 : decode cX3_refuse 8 = .ok (.getfield 248, 3) := by decide +kernel
theorem dX3_refuse_11 : decode cX3_refuse 11 = .ok (.iconst 1, 1) := by decide +kernel
theorem dX3_refuse_12 : decode cX3_refuse 12 = .ok (.iadd, 1) := by decide +kernel
theorem dX3_refuse_13 : decode cX3_refuse 13 = .ok (.putfield 248, 3) := by decide +kernel
theorem dX3_refuse_16 : decode cX3_refuse 16 = .ok (.goto 38, 3) := by decide +kernel
theorem dX3_refuse_19 : decode cX3_refuse 19 = .ok (.iload_n 1, 1) := by decide +kernel
theorem dX3_refuse_20 : decode cX3_refuse 20 = .ok (.bipush (-3), 2) := by decide +kernel
theorem dX3_refuse_22 : decode cX3_refuse 22 = .ok (.if_icmp .ne 16, 3) := by decide +kernel
theorem dX3_refuse_25 : decode cX3_refuse 25 = .ok (.aload_n 0, 1) := by decide +kernel
theorem dX3_refuse_26 : decode cX3_refuse 26 = .ok (.dup, 1) := by decide +kernel
theorem dX3_refuse_27 : decode cX3_refuse 27 = .ok (.getfield 251, 3) := by decide +kernel
theorem dX3_refuse_30 : decode cX3_refuse 30 = .ok (.iconst 1, 1) := by decide +kernel
theorem dX3_refuse_31 : decode cX3_refuse 31 = .ok (.iadd, 1) := by decide +kernel
theorem dX3_refuse_32 : decode cX3_refuse 32 = .ok (.putfield 251, 3) := by decide +kernel
theorem dX3_refuse_35 : decode cX3_refuse 35 = .ok (.goto 19, 3) := by decide +kernel
theorem dX3_refuse_38 : decode cX3_refuse 38 = .ok (.iload_n 1, 1) := by decide +kernel
theorem dX3_refuse_39 : decode cX3_refuse 39 = .ok (.bipush (-4), 2) := by decide +kernel
theorem dX3_refuse_41 : decode cX3_refuse 41 = .ok (.if_icmp .ne 13, 3) := by decide +kernel
theorem dX3_refuse_44 : decode cX3_refuse 44 = .ok (.aload_n 0, 1) := by decide +kernel
theorem dX3_refuse_45 : decode cX3_refuse 45 = .ok (.dup, 1) := by decide +kernel
theorem dX3_refuse_46 : decode cX3_refuse 46 = .ok (.getfield 254, 3) := by decide +kernel
theorem dX3_refuse_49 : decode cX3_refuse 49 = .ok (.iconst 1, 1) := by decide +kernel
theorem dX3_refuse_50 : decode cX3_refuse 50 = .ok (.iadd, 1) := by decide +kernel
theorem dX3_refuse_51 : decode cX3_refuse 51 = .ok (.putfield 254, 3) := by decide +kernel
theorem dX3_refuse_54 : decode cX3_refuse 54 = .ok (.iload_n 1, 1) := by decide +kernel
theorem dX3_refuse_55 : decode cX3_refuse 55 = .ok (.ireturn, 1) := by decide +kernel
theorem dX3_howMany_0 : decode cX3_howMany 0 = .ok (.iload_n 1, 1) := by decide +kernel
theorem dX3_howMany_1 : decode cX3_howMany 1 = .ok (.tableswitch 87 0 4 #[35, 46, 60, 71, 79], 35) := by decide +kernel
theorem dX3_howMany_36 : decode cX3_howMany 36 = .ok (.aload_n 0, 1) := by decide +kernel
theorem dX3_howMany_37 : decode cX3_howMany 37 = .ok (.getfield 12, 3) := by decide +kernel
theorem dX3_howMany_40 : decode cX3_howMany 40 = .ok (.getfield 62, 3) := by decide +kernel
theorem dX3_howMany_43 : decode cX3_howMany 43 = .ok (.invokevirtual 65, 3) := by decide +kernel
theorem dX3_howMany_46 : decode cX3_howMany 46 = .ok (.ireturn, 1) := by decide +kernel
theorem dX3_howMany_47 : decode cX3_howMany 47 = .ok (.aload_n 0, 1) := by decide +kernel
theorem dX3_howMany_48 : decode cX3_howMany 48 = .ok (.getfield 12, 3) := by decide +kernel
theorem dX3_howMany_51 : decode cX3_howMany 51 = .ok (.getfield 62, 3) := by decide +kernel
theorem dX3_howMany_54 : decode cX3_howMany 54 = .ok (.invokevirtual 103, 3) := by decide +kernel
theorem dX3_howMany_57 : decode cX3_howMany 57 = .ok (.invokestatic 106, 3) := by decide +kernel
theorem dX3_howMany_60 : decode cX3_howMany 60 = .ok (.ireturn, 1) := by decide +kernel
theorem dX3_howMany_61 : decode cX3_howMany 61 = .ok (.aload_n 0, 1) := by decide +kernel
theorem dX3_howMany_62 : decode cX3_howMany 62 = .ok (.getfield 12, 3) := by decide +kernel
theorem dX3_howMany_65 : decode cX3_howMany 65 = .ok (.getfield 62, 3) := by decide +kernel
theorem dX3_howMany_68 : decode cX3_howMany 68 = .ok (.invokevirtual 149, 3) := by decide +kernel
theorem dX3_howMany_71 : decode cX3_howMany 71 = .ok (.ireturn, 1) := by decide +kernel
theorem dX3_howMany_72 : decode cX3_howMany 72 = .ok (.aload_n 0, 1) := by decide +kernel
theorem dX3_howMany_73 : decode cX3_howMany 73 = .ok (.getfield 12, 3) := by decide +kernel
theorem dX3_howMany_76 : decode cX3_howMany 76 = .ok (.getfield 202, 3) := by decide +kernel
theorem dX3_howMany_79 : decode cX3_howMany 79 = .ok (.ireturn, 1) := by decide +kernel
theorem dX3_howMany_80 : decode cX3_howMany 80 = .ok (.aload_n 0, 1) := by decide +kernel
theorem dX3_howMany_81 : decode cX3_howMany 81 = .ok (.getfield 12, 3) := by decide +kernel
theorem dX3_howMany_84 : decode cX3_howMany 84 = .ok (.getfield 111, 3) := by decide +kernel
theorem dX3_howMany_87 : decode cX3_howMany 87 = .ok (.ireturn, 1) := by decide +kernel
theorem dX3_howMany_88 : decode cX3_howMany 88 = .ok (.aload_n 0, 1) := by decide +kernel
theorem dX3_howMany_89 : decode cX3_howMany 89 = .ok (.getfield 30, 3) := by decide +kernel
theorem dX3_howMany_92 : decode cX3_howMany 92 = .ok (.getfield 118, 3) := by decide +kernel
theorem dX3_howMany_95 : decode cX3_howMany 95 = .ok (.ireturn, 1) := by decide +kernel
theorem dX3_loss_0 : decode cX3_loss 0 = .ok (.iload_n 0, 1) := by decide +kernel
theorem dX3_loss_1 : decode cX3_loss 1 = .ok (.tableswitch 59 1 4 #[31, 37, 31, 41], 31) := by decide +kernel
theorem dX3_loss_32 : decode cX3_loss 32 = .ok (.iload_n 1, 1) := by decide +kernel
theorem dX3_loss_33 : decode cX3_loss 33 = .ok (.iconst 1, 1) := by decide +kernel
theorem dX3_loss_34 : decode cX3_loss 34 = .ok (.iadd, 1) := by decide +kernel
theorem dX3_loss_35 : decode cX3_loss 35 = .ok (.iconst 2, 1) := by decide +kernel
theorem dX3_loss_36 : decode cX3_loss 36 = .ok (.idiv, 1) := by decide +kernel
theorem dX3_loss_37 : decode cX3_loss 37 = .ok (.ireturn, 1) := by decide +kernel
theorem dX3_loss_38 : decode cX3_loss 38 = .ok (.iload_n 1, 1) := by decide +kernel
theorem dX3_loss_39 : decode cX3_loss 39 = .ok (.iconst 1, 1) := by decide +kernel
theorem dX3_loss_40 : decode cX3_loss 40 = .ok (.iadd, 1) := by decide +kernel
theorem dX3_loss_41 : decode cX3_loss 41 = .ok (.ireturn, 1) := by decide +kernel
theorem dX3_loss_42 : decode cX3_loss 42 = .ok (.iload_n 2, 1) := by decide +kernel
theorem dX3_loss_43 : decode cX3_loss 43 = .ok (.iconst 3, 1) := by decide +kernel
theorem dX3_loss_44 : decode cX3_loss 44 = .ok (.irem, 1) := by decide +kernel
theorem dX3_loss_45 : decode cX3_loss 45 = .ok (.ifCond .ne 9, 3) := by decide +kernel
theorem dX3_loss_48 : decode cX3_loss 48 = .ok (.iload_n 1, 1) := by decide +kernel
theorem dX3_loss_49 : decode cX3_loss 49 = .ok (.iconst 1, 1) := by decide +kernel
theorem dX3_loss_50 : decode cX3_loss 50 = .ok (.iadd, 1) := by decide +kernel
theorem dX3_loss_51 : decode cX3_loss 51 = .ok (.goto 8, 3) := by decide +kernel
theorem dX3_loss_54 : decode cX3_loss 54 = .ok (.iconst 2, 1) := by decide +kernel
theorem dX3_loss_55 : decode cX3_loss 55 = .ok (.iload_n 1, 1) := by decide +kernel
theorem dX3_loss_56 : decode cX3_loss 56 = .ok (.iconst 1, 1) := by decide +kernel
theorem dX3_loss_57 : decode cX3_loss 57 = .ok (.iadd, 1) := by decide +kernel
theorem dX3_loss_58 : decode cX3_loss 58 = .ok (.imul, 1) := by decide +kernel
theorem dX3_loss_59 : decode cX3_loss 59 = .ok (.ireturn, 1) := by decide +kernel
theorem dX3_loss_60 : decode cX3_loss 60 = .ok (.iload_n 1, 1) := by decide +kernel
theorem dX3_loss_61 : decode cX3_loss 61 = .ok (.ireturn, 1) := by decide +kernel
theorem dX3_tryYears_0 : decode cX3_tryYears 0 = .ok (.aload_n 0, 1) := by decide +kernel
theorem dX3_tryYears_1 : decode cX3_tryYears 1 = .ok (.getfield 23, 3) := by decide +kernel
theorem dX3_tryYears_4 : decode cX3_tryYears 4 = .ok (.aload_n 0, 1) := by decide +kernel
theorem dX3_tryYears_5 : decode cX3_tryYears 5 = .ok (.getfield 12, 3) := by decide +kernel
theorem dX3_tryYears_8 : decode cX3_tryYears 8 = .ok (.getfield 62, 3) := by decide +kernel
theorem dX3_tryYears_11 : decode cX3_tryYears 11 = .ok (.invokevirtual 131, 3) := by decide +kernel
theorem dX3_tryYears_14 : decode cX3_tryYears 14 = .ok (.iconst 0, 1) := by decide +kernel
theorem dX3_tryYears_15 : decode cX3_tryYears 15 = .ok (.istore_n 2, 1) := by decide +kernel
theorem dX3_tryYears_16 : decode cX3_tryYears 16 = .ok (.iload_n 2, 1) := by decide +kernel
theorem dX3_tryYears_17 : decode cX3_tryYears 17 = .ok (.iload_n 1, 1) := by decide +kernel
theorem dX3_tryYears_18 : decode cX3_tryYears 18 = .ok (.if_icmp .ge 16, 3) := by decide +kernel
theorem dX3_tryYears_21 : decode cX3_tryYears 21 = .ok (.aload_n 0, 1) := by decide +kernel
theorem dX3_tryYears_22 : decode cX3_tryYears 22 = .ok (.getfield 23, 3) := by decide +kernel
theorem dX3_tryYears_25 : decode cX3_tryYears 25 = .ok (.invokevirtual 100, 3) := by decide +kernel
theorem dX3_tryYears_28 : decode cX3_tryYears 28 = .ok (.iinc 2 1, 3) := by decide +kernel
theorem dX3_tryYears_31 : decode cX3_tryYears 31 = .ok (.goto (-15), 3) := by decide +kernel
theorem dX3_tryYears_34 : decode cX3_tryYears 34 = .ok (.return_, 1) := by decide +kernel
theorem dX3_setFraction_0 : decode cX3_setFraction 0 = .ok (.lload_n 1, 1) := by decide +kernel
theorem dX3_setFraction_1 : decode cX3_setFraction 1 = .ok (.lconst 0, 1) := by decide +kernel
theorem dX3_setFraction_2 : decode cX3_setFraction 2 = .ok (.lcmp, 1) := by decide +kernel
theorem dX3_setFraction_3 : decode cX3_setFraction 3 = .ok (.ifCond .le 9, 3) := by decide +kernel
theorem dX3_setFraction_6 : decode cX3_setFraction 6 = .ok (.lload_n 3, 1) := by decide +kernel
theorem dX3_setFraction_7 : decode cX3_setFraction 7 = .ok (.lconst 0, 1) := by decide +kernel
theorem dX3_setFraction_8 : decode cX3_setFraction 8 = .ok (.lcmp, 1) := by decide +kernel
theorem dX3_setFraction_9 : decode cX3_setFraction 9 = .ok (.ifCond .gt 14, 3) := by decide +kernel
theorem dX3_setFraction_12 : decode cX3_setFraction 12 = .ok (.aload_n 0, 1) := by decide +kernel
theorem dX3_setFraction_13 : decode cX3_setFraction 13 = .ok (.lconst 0, 1) := by decide +kernel
theorem dX3_setFraction_14 : decode cX3_setFraction 14 = .ok (.putfield 47, 3) := by decide +kernel
theorem dX3_setFraction_17 : decode cX3_setFraction 17 = .ok (.aload_n 0, 1) := by decide +kernel
theorem dX3_setFraction_18 : decode cX3_setFraction 18 = .ok (.lconst 1, 1) := by decide +kernel
theorem dX3_setFraction_19 : decode cX3_setFraction 19 = .ok (.putfield 51, 3) := by decide +kernel
theorem dX3_setFraction_22 : decode cX3_setFraction 22 = .ok (.return_, 1) := by decide +kernel
theorem dX3_setFraction_23 : decode cX3_setFraction 23 = .ok (.lload_n 1, 1) := by decide +kernel
theorem dX3_setFraction_24 : decode cX3_setFraction 24 = .ok (.lload_n 3, 1) := by decide +kernel
theorem dX3_setFraction_25 : decode cX3_setFraction 25 = .ok (.invokestatic 271, 3) := by decide +kernel
theorem dX3_setFraction_28 : decode cX3_setFraction 28 = .ok (.lstore 5, 2) := by decide +kernel
theorem dX3_setFraction_30 : decode cX3_setFraction 30 = .ok (.aload_n 0, 1) := by decide +kernel
theorem dX3_setFraction_31 : decode cX3_setFraction 31 = .ok (.lload_n 1, 1) := by decide +kernel
theorem dX3_setFraction_32 : decode cX3_setFraction 32 = .ok (.lload 5, 2) := by decide +kernel
theorem dX3_setFraction_34 : decode cX3_setFraction 34 = .ok (.ldiv, 1) := by decide +kernel
theorem dX3_setFraction_35 : decode cX3_setFraction 35 = .ok (.putfield 47, 3) := by decide +kernel
theorem dX3_setFraction_38 : decode cX3_setFraction 38 = .ok (.aload_n 0, 1) := by decide +kernel
theorem dX3_setFraction_39 : decode cX3_setFraction 39 = .ok (.lload_n 3, 1) := by decide +kernel
theorem dX3_setFraction_40 : decode cX3_setFraction 40 = .ok (.lload 5, 2) := by decide +kernel
theorem dX3_setFraction_42 : decode cX3_setFraction 42 = .ok (.ldiv, 1) := by decide +kernel
theorem dX3_setFraction_43 : decode cX3_setFraction 43 = .ok (.putfield 51, 3) := by decide +kernel
theorem dX3_setFraction_46 : decode cX3_setFraction 46 = .ok (.return_, 1) := by decide +kernel
theorem dX3_commonDivisor_0 : decode cX3_commonDivisor 0 = .ok (.iconst 0, 1) := by decide +kernel
theorem dX3_commonDivisor_1 : decode cX3_commonDivisor 1 = .ok (.istore 4, 2) := by decide +kernel
theorem dX3_commonDivisor_3 : decode cX3_commonDivisor 3 = .ok (.iload 4, 2) := by decide +kernel
theorem dX3_commonDivisor_5 : decode cX3_commonDivisor 5 = .ok (.bipush 100, 2) := by decide +kernel
theorem dX3_commonDivisor_7 : decode cX3_commonDivisor 7 = .ok (.if_icmp .ge 25, 3) := by decide +kernel
theorem dX3_commonDivisor_10 : decode cX3_commonDivisor 10 = .ok (.lload_n 2, 1) := by decide +kernel
theorem dX3_commonDivisor_11 : decode cX3_commonDivisor 11 = .ok (.lconst 0, 1) := by decide +kernel
theorem dX3_commonDivisor_12 : decode cX3_commonDivisor 12 = .ok (.lcmp, 1) := by decide +kernel
theorem dX3_commonDivisor_13 : decode cX3_commonDivisor 13 = .ok (.ifCond .eq 19, 3) := by decide +kernel
theorem dX3_commonDivisor_16 : decode cX3_commonDivisor 16 = .ok (.lload_n 0, 1) := by decide +kernel
theorem dX3_commonDivisor_17 : decode cX3_commonDivisor 17 = .ok (.lload_n 2, 1) := by decide +kernel
theorem dX3_commonDivisor_18 : decode cX3_commonDivisor 18 = .ok (.lrem, 1) := by decide +kernel
theorem dX3_commonDivisor_19 : decode cX3_commonDivisor 19 = .ok (.lstore 5, 2) := by decide +kernel
theorem dX3_commonDivisor_21 : decode cX3_commonDivisor 21 = .ok (.lload_n 2, 1) := by decide +kernel
theorem dX3_commonDivisor_22 : decode cX3_commonDivisor 22 = .ok (.lstore_n 0, 1) := by decide +kernel
theorem dX3_commonDivisor_23 : decode cX3_commonDivisor 23 = .ok (.lload 5, 2) := by decide +kernel
theorem dX3_commonDivisor_25 : decode cX3_commonDivisor 25 = .ok (.lstore_n 2, 1) := by decide +kernel
theorem dX3_commonDivisor_26 : decode cX3_commonDivisor 26 = .ok (.iinc 4 1, 3) := by decide +kernel
theorem dX3_commonDivisor_29 : decode cX3_commonDivisor 29 = .ok (.goto (-26), 3) := by decide +kernel
theorem dX3_commonDivisor_32 : decode cX3_commonDivisor 32 = .ok (.lload_n 0, 1) := by decide +kernel
theorem dX3_commonDivisor_33 : decode cX3_commonDivisor 33 = .ok (.lconst 0, 1) := by decide +kernel
theorem dX3_commonDivisor_34 : decode cX3_commonDivisor 34 = .ok (.lcmp, 1) := by decide +kernel
theorem dX3_commonDivisor_35 : decode cX3_commonDivisor 35 = .ok (.ifCond .le 7, 3) := by decide +kernel
theorem dX3_commonDivisor_38 : decode cX3_commonDivisor 38 = .ok (.lload_n 0, 1) := by decide +kernel
theorem dX3_commonDivisor_39 : decode cX3_commonDivisor 39 = .ok (.goto 4, 3) := by decide +kernel
theorem dX3_commonDivisor_42 : decode cX3_commonDivisor 42 = .ok (.lconst 1, 1) := by decide +kernel
theorem dX3_commonDivisor_43 : decode cX3_commonDivisor 43 = .ok (.lreturn, 1) := by decide +kernel
theorem dX3_powerOfTen_0 : decode cX3_powerOfTen 0 = .ok (.lconst 1, 1) := by decide +kernel
theorem dX3_powerOfTen_1 : decode cX3_powerOfTen 1 = .ok (.lstore_n 1, 1) := by decide +kernel
theorem dX3_powerOfTen_2 : decode cX3_powerOfTen 2 = .ok (.iconst 0, 1) := by decide +kernel
theorem dX3_powerOfTen_3 : decode cX3_powerOfTen 3 = .ok (.istore_n 3, 1) := by decide +kernel
theorem dX3_powerOfTen_4 : decode cX3_powerOfTen 4 = .ok (.iload_n 3, 1) := by decide +kernel
theorem dX3_powerOfTen_5 : decode cX3_powerOfTen 5 = .ok (.iload_n 0, 1) := by decide +kernel
theorem dX3_powerOfTen_6 : decode cX3_powerOfTen 6 = .ok (.if_icmp .ge 15, 3) := by decide +kernel
theorem dX3_powerOfTen_9 : decode cX3_powerOfTen 9 = .ok (.lload_n 1, 1) := by decide +kernel
theorem dX3_powerOfTen_10 : decode cX3_powerOfTen 10 = .ok (.ldc2_w 275, 3) := by decide +kernel
theorem dX3_powerOfTen_13 : decode cX3_powerOfTen 13 = .ok (.lmul, 1) := by decide +kernel
theorem dX3_powerOfTen_14 : decode cX3_powerOfTen 14 = .ok (.lstore_n 1, 1) := by decide +kernel
theorem dX3_powerOfTen_15 : decode cX3_powerOfTen 15 = .ok (.iinc 3 1, 3) := by decide +kernel
theorem dX3_powerOfTen_18 : decode cX3_powerOfTen 18 = .ok (.goto (-14), 3) := by decide +kernel
theorem dX3_powerOfTen_21 : decode cX3_powerOfTen 21 = .ok (.lload_n 1, 1) := by decide +kernel
theorem dX3_powerOfTen_22 : decode cX3_powerOfTen 22 = .ok (.lreturn, 1) := by decide +kernel
theorem dX3_findSpans_0 : decode cX3_findSpans 0 = .ok (.iconst 0, 1) := by decide +kernel
theorem dX3_findSpans_1 : decode cX3_findSpans 1 = .ok (.istore_n 1, 1) := by decide +kernel
theorem dX3_findSpans_2 : decode cX3_findSpans 2 = .ok (.iload_n 1, 1) := by decide +kernel
theorem dX3_findSpans_3 : decode cX3_findSpans 3 = .ok (.bipush 9, 2) := by decide +kernel
theorem dX3_findSpans_5 : decode cX3_findSpans 5 = .ok (.if_icmp .ge 28, 3) := by decide +kernel
theorem dX3_findSpans_8 : decode cX3_findSpans 8 = .ok (.aload_n 0, 1) := by decide +kernel
theorem dX3_findSpans_9 : decode cX3_findSpans 9 = .ok (.getfield 34, 3) := by decide +kernel
theorem dX3_findSpans_12 : decode cX3_findSpans 12 = .ok (.iload_n 1, 1) := by decide +kernel
theorem dX3_findSpans_13 : decode cX3_findSpans 13 = .ok (.aload_n 0, 1) := by decide +kernel
theorem dX3_findSpans_14 : decode cX3_findSpans 14 = .ok (.getfield 12, 3) := by decide +kernel
theorem dX3_findSpans_17 : decode cX3_findSpans 17 = .ok (.getfield 62, 3) := by decide +kernel
theorem dX3_findSpans_20 : decode cX3_findSpans 20 = .ok (.iload_n 1, 1) := by decide +kernel
theorem dX3_findSpans_21 : decode cX3_findSpans 21 = .ok (.iconst 0, 1) := by decide +kernel
theorem dX3_findSpans_22 : decode cX3_findSpans 22 = .ok (.iconst 0, 1) := by decide +kernel
theorem dX3_findSpans_23 : decode cX3_findSpans 23 = .ok (.invokevirtual 183, 3) := by decide +kernel
theorem dX3_findSpans_26 : decode cX3_findSpans 26 = .ok (.iastore, 1) := by decide +kernel
theorem dX3_findSpans_27 : decode cX3_findSpans 27 = .ok (.iinc 1 1, 3) := by decide +kernel
theorem dX3_findSpans_30 : decode cX3_findSpans 30 = .ok (.goto (-28), 3) := by decide +kernel
theorem dX3_findSpans_33 : decode cX3_findSpans 33 = .ok (.return_, 1) := by decide +kernel
theorem dX3_leastSpanBut_0 : decode cX3_leastSpanBut 0 = .ok (.bipush 41, 2) := by decide +kernel
theorem dX3_leastSpanBut_2 : decode cX3_leastSpanBut 2 = .ok (.istore_n 3, 1) := by decide +kernel
theorem dX3_leastSpanBut_3 : decode cX3_leastSpanBut 3 = .ok (.iconst 0, 1) := by decide +kernel
theorem dX3_leastSpanBut_4 : decode cX3_leastSpanBut 4 = .ok (.istore 4, 2) := by decide +kernel
theorem dX3_leastSpanBut_6 : decode cX3_leastSpanBut 6 = .ok (.iload 4, 2) := by decide +kernel
theorem dX3_leastSpanBut_8 : decode cX3_leastSpanBut 8 = .ok (.bipush 9, 2) := by decide +kernel
theorem dX3_leastSpanBut_10 : decode cX3_leastSpanBut 10 = .ok (.if_icmp .ge 33, 3) := by decide +kernel
theorem dX3_leastSpanBut_13 : decode cX3_leastSpanBut 13 = .ok (.iload 4, 2) := by decide +kernel
theorem dX3_leastSpanBut_15 : decode cX3_leastSpanBut 15 = .ok (.iload_n 1, 1) := by decide +kernel
theorem dX3_leastSpanBut_16 : decode cX3_leastSpanBut 16 = .ok (.if_icmp .eq 21, 3) := by decide +kernel
theorem dX3_leastSpanBut_19 : decode cX3_leastSpanBut 19 = .ok (.iload 4, 2) := by decide +kernel
theorem dX3_leastSpanBut_21 : decode cX3_leastSpanBut 21 = .ok (.iload_n 2, 1) := by decide +kernel
theorem dX3_leastSpanBut_22 : decode cX3_leastSpanBut 22 = .ok (.if_icmp .eq 15, 3) := by decide +kernel
theorem dX3_leastSpanBut_25 : decode cX3_leastSpanBut 25 = .ok (.iload_n 3, 1) := by decide +kernel
theorem dX3_leastSpanBut_26 : decode cX3_leastSpanBut 26 = .ok (.aload_n 0, 1) := by decide +kernel
theorem dX3_leastSpanBut_27 : decode cX3_leastSpanBut 27 = .ok (.getfield 34, 3) := by decide +kernel
theorem dX3_leastSpanBut_30 : decode cX3_leastSpanBut 30 = .ok (.iload 4, 2) := by decide +kernel
theorem dX3_leastSpanBut_32 : decode cX3_leastSpanBut 32 = .ok (.iaload, 1) := by decide +kernel
theorem dX3_leastSpanBut_33 : decode cX3_leastSpanBut 33 = .ok (.invokestatic 186, 3) := by decide +kernel
theorem dX3_leastSpanBut_36 : decode cX3_leastSpanBut 36 = .ok (.istore_n 3, 1) := by decide +kernel
theorem dX3_leastSpanBut_37 : decode cX3_leastSpanBut 37 = .ok (.iinc 4 1, 3) := by decide +kernel
theorem dX3_leastSpanBut_40 : decode cX3_leastSpanBut 40 = .ok (.goto (-34), 3) := by decide +kernel
theorem dX3_leastSpanBut_43 : decode cX3_leastSpanBut 43 = .ok (.iload_n 3, 1) := by decide +kernel
theorem dX3_leastSpanBut_44 : decode cX3_leastSpanBut 44 = .ok (.ireturn, 1) := by decide +kernel
theorem dX3_findSplitSpans_0 : decode cX3_findSplitSpans 0 = .ok (.iconst 0, 1) := by decide +kernel
theorem dX3_findSplitSpans_1 : decode cX3_findSplitSpans 1 = .ok (.istore_n 3, 1) := by decide +kernel
theorem dX3_findSplitSpans_2 : decode cX3_findSplitSpans 2 = .ok (.iload_n 3, 1) := by decide +kernel
theorem dX3_findSplitSpans_3 : decode cX3_findSplitSpans 3 = .ok (.bipush 9, 2) := by decide +kernel
theorem dX3_findSplitSpans_5 : decode cX3_findSplitSpans 5 = .ok (.if_icmp .ge 67, 3) := by decide +kernel
theorem dX3_findSplitSpans_8 : decode cX3_findSplitSpans 8 = .ok (.aload_n 0, 1) := by decide +kernel
theorem dX3_findSplitSpans_9 : decode cX3_findSplitSpans 9 = .ok (.getfield 12, 3) := by decide +kernel
theorem dX3_findSplitSpans_12 : decode cX3_findSplitSpans 12 = .ok (.getfield 62, 3) := by decide +kernel
theorem dX3_findSplitSpans_15 : decode cX3_findSplitSpans 15 = .ok (.iload_n 3, 1) := by decide +kernel
theorem dX3_findSplitSpans_16 : decode cX3_findSplitSpans 16 = .ok (.invokevirtual 180, 3) := by decide +kernel
theorem dX3_findSplitSpans_19 : decode cX3_findSplitSpans 19 = .ok (.ifCond .ne 6, 3) := by decide +kernel
theorem dX3_findSplitSpans_22 : decode cX3_findSplitSpans 22 = .ok (.goto 44, 3) := by decide +kernel
theorem dX3_findSplitSpans_25 : decode cX3_findSplitSpans 25 = .ok (.iconst 1, 1) := by decide +kernel
theorem dX3_findSplitSpans_26 : decode cX3_findSplitSpans 26 = .ok (.istore 4, 2) := by decide +kernel
theorem dX3_findSplitSpans_28 : decode cX3_findSplitSpans 28 = .ok (.iload 4, 2) := by decide +kernel
theorem dX3_findSplitSpans_30 : decode cX3_findSplitSpans 30 = .ok (.iload_n 1, 1) := by decide +kernel
theorem dX3_findSplitSpans_31 : decode cX3_findSplitSpans 31 = .ok (.if_icmp .ge 35, 3) := by decide +kernel
theorem dX3_findSplitSpans_34 : decode cX3_findSplitSpans 34 = .ok (.aload_n 0, 1) := by decide +kernel
theorem dX3_findSplitSpans_35 : decode cX3_findSplitSpans 35 = .ok (.getfield 38, 3) := by decide +kernel
theorem dX3_findSplitSpans_38 : decode cX3_findSplitSpans 38 = .ok (.iload_n 3, 1) := by decide +kernel
theorem dX3_findSplitSpans_39 : decode cX3_findSplitSpans 39 = .ok (.bipush 30, 2) := by decide +kernel
theorem dX3_findSplitSpans_41 : decode cX3_findSplitSpans 41 = .ok (.imul, 1) := by decide +kernel
theorem dX3_findSplitSpans_42 : decode cX3_findSplitSpans 42 = .ok (.iload 4, 2) := by decide +kernel
theorem dX3_findSplitSpans_44 : decode cX3_findSplitSpans 44 = .ok (.iadd, 1) := by decide +kernel
theorem dX3_findSplitSpans_45 : decode cX3_findSplitSpans 45 = .ok (.aload_n 0, 1) := by decide +kernel
theorem dX3_findSplitSpans_46 : decode cX3_findSplitSpans 46 = .ok (.getfield 12, 3) := by decide +kernel
theorem dX3_findSplitSpans_49 : decode cX3_findSplitSpans 49 = .ok (.getfield 62, 3) := by decide +kernel
theorem dX3_findSplitSpans_52 : decode cX3_findSplitSpans 52 = .ok (.iload_n 3, 1) := by decide +kernel
theorem dX3_findSplitSpans_53 : decode cX3_findSplitSpans 53 = .ok (.iload_n 2, 1) := by decide +kernel
theorem dX3_findSplitSpans_54 : decode cX3_findSplitSpans 54 = .ok (.iload 4, 2) := by decide +kernel
theorem dX3_findSplitSpans_56 : decode cX3_findSplitSpans 56 = .ok (.invokevirtual 183, 3) := by decide +kernel
theorem dX3_findSplitSpans_59 : decode cX3_findSplitSpans 59 = .ok (.iastore, 1) := by decide +kernel
theorem dX3_findSplitSpans_60 : decode cX3_findSplitSpans 60 = .ok (.iinc 4 1, 3) := by decide +kernel
theorem dX3_findSplitSpans_63 : decode cX3_findSplitSpans 63 = .ok (.goto (-35), 3) := by decide +kernel
theorem dX3_findSplitSpans_66 : decode cX3_findSplitSpans 66 = .ok (.iinc 3 1, 3) := by decide +kernel
theorem dX3_findSplitSpans_69 : decode cX3_findSplitSpans 69 = .ok (.goto (-67), 3) := by decide +kernel
theorem dX3_findSplitSpans_72 : decode cX3_findSplitSpans 72 = .ok (.return_, 1) := by decide +kernel
theorem dX3_splitSpan_0 : decode cX3_splitSpan 0 = .ok (.aload_n 0, 1) := by decide +kernel
theorem dX3_splitSpan_1 : decode cX3_splitSpan 1 = .ok (.getfield 38, 3) := by decide +kernel
theorem dX3_splitSpan_4 : decode cX3_splitSpan 4 = .ok (.iload_n 1, 1) := by decide +kernel
theorem dX3_splitSpan_5 : decode cX3_splitSpan 5 = .ok (.bipush 30, 2) := by decide +kernel
theorem dX3_splitSpan_7 : decode cX3_splitSpan 7 = .ok (.imul, 1) := by decide +kernel
theorem dX3_splitSpan_8 : decode cX3_splitSpan 8 = .ok (.iload 4, 2) := by decide +kernel
theorem dX3_splitSpan_10 : decode cX3_splitSpan 10 = .ok (.iadd, 1) := by decide +kernel
theorem dX3_splitSpan_11 : decode cX3_splitSpan 11 = .ok (.iaload, 1) := by decide +kernel
theorem dX3_splitSpan_12 : decode cX3_splitSpan 12 = .ok (.aload_n 0, 1) := by decide +kernel
theorem dX3_splitSpan_13 : decode cX3_splitSpan 13 = .ok (.getfield 38, 3) := by decide +kernel
theorem dX3_splitSpan_16 : decode cX3_splitSpan 16 = .ok (.iload_n 2, 1) := by decide +kernel
theorem dX3_splitSpan_17 : decode cX3_splitSpan 17 = .ok (.bipush 30, 2) := by decide +kernel
theorem dX3_splitSpan_19 : decode cX3_splitSpan 19 = .ok (.imul, 1) := by decide +kernel
theorem dX3_splitSpan_20 : decode cX3_splitSpan 20 = .ok (.iload_n 3, 1) := by decide +kernel
theorem dX3_splitSpan_21 : decode cX3_splitSpan 21 = .ok (.iadd, 1) := by decide +kernel
theorem dX3_splitSpan_22 : decode cX3_splitSpan 22 = .ok (.iload 4, 2) := by decide +kernel
theorem dX3_splitSpan_24 : decode cX3_splitSpan 24 = .ok (.isub, 1) := by decide +kernel
theorem dX3_splitSpan_25 : decode cX3_splitSpan 25 = .ok (.iaload, 1) := by decide +kernel
theorem dX3_splitSpan_26 : decode cX3_splitSpan 26 = .ok (.invokestatic 186, 3) := by decide +kernel
theorem dX3_splitSpan_29 : decode cX3_splitSpan 29 = .ok (.istore 6, 2) := by decide +kernel
theorem dX3_splitSpan_31 : decode cX3_splitSpan 31 = .ok (.iload 6, 2) := by decide +kernel
theorem dX3_splitSpan_33 : decode cX3_splitSpan 33 = .ok (.iload 5, 2) := by decide +kernel
theorem dX3_splitSpan_35 : decode cX3_splitSpan 35 = .ok (.invokestatic 186, 3) := by decide +kernel
theorem dX3_splitSpan_38 : decode cX3_splitSpan 38 = .ok (.ireturn, 1) := by decide +kernel
theorem dX3_bestSplit_0 : decode cX3_bestSplit 0 = .ok (.iconst 1, 1) := by decide +kernel
theorem dX3_bestSplit_1 : decode cX3_bestSplit 1 = .ok (.istore 5, 2) := by decide +kernel
theorem dX3_bestSplit_3 : decode cX3_bestSplit 3 = .ok (.iconst 2, 1) := by decide +kernel
theorem dX3_bestSplit_4 : decode cX3_bestSplit 4 = .ok (.istore 6, 2) := by decide +kernel
theorem dX3_bestSplit_6 : decode cX3_bestSplit 6 = .ok (.iload 6, 2) := by decide +kernel
theorem dX3_bestSplit_8 : decode cX3_bestSplit 8 = .ok (.iload_n 3, 1) := by decide +kernel
theorem dX3_bestSplit_9 : decode cX3_bestSplit 9 = .ok (.if_icmp .ge 38, 3) := by decide +kernel
theorem dX3_bestSplit_12 : decode cX3_bestSplit 12 = .ok (.aload_n 0, 1) := by decide +kernel
theorem dX3_bestSplit_13 : decode cX3_bestSplit 13 = .ok (.iload_n 1, 1) := by decide +kernel
theorem dX3_bestSplit_14 : decode cX3_bestSplit 14 = .ok (.iload_n 2, 1) := by decide +kernel
theorem dX3_bestSplit_15 : decode cX3_bestSplit 15 = .ok (.iload_n 3, 1) := by decide +kernel
theorem dX3_bestSplit_16 : decode cX3_bestSplit 16 = .ok (.iload 6, 2) := by decide +kernel
theorem dX3_bestSplit_18 : decode cX3_bestSplit 18 = .ok (.iload 4, 2) := by decide +kernel
theorem dX3_bestSplit_20 : decode cX3_bestSplit 20 = .ok (.invokevirtual 198, 3) := by decide +kernel
theorem dX3_bestSplit_23 : decode cX3_bestSplit 23 = .ok (.aload_n 0, 1) := by decide +kernel
theorem dX3_bestSplit_24 : decode cX3_bestSplit 24 = .ok (.iload_n 1, 1) := by decide +kernel
theorem dX3_bestSplit_25 : decode cX3_bestSplit 25 = .ok (.iload_n 2, 1) := by decide +kernel
theorem dX3_bestSplit_26 : decode cX3_bestSplit 26 = .ok (.iload_n 3, 1) := by decide +kernel
theorem dX3_bestSplit_27 : decode cX3_bestSplit 27 = .ok (.iload 5, 2) := by decide +kernel
theorem dX3_bestSplit_29 : decode cX3_bestSplit 29 = .ok (.iload 4, 2) := by decide +kernel
theorem dX3_bestSplit_31 : decode cX3_bestSplit 31 = .ok (.invokevirtual 198, 3) := by decide +kernel
theorem dX3_bestSplit_34 : decode cX3_bestSplit 34 = .ok (.if_icmp .le 7, 3) := by decide +kernel
theorem dX3_bestSplit_37 : decode cX3_bestSplit 37 = .ok (.iload 6, 2) := by decide +kernel
theorem dX3_bestSplit_39 : decode cX3_bestSplit 39 = .ok (.istore 5, 2) := by decide +kernel
theorem dX3_bestSplit_41 : decode cX3_bestSplit 41 = .ok (.iinc 6 1, 3) := by decide +kernel
theorem dX3_bestSplit_44 : decode cX3_bestSplit 44 = .ok (.goto (-38), 3) := by decide +kernel
theorem dX3_bestSplit_47 : decode cX3_bestSplit 47 = .ok (.iload 5, 2) := by decide +kernel
theorem dX3_bestSplit_49 : decode cX3_bestSplit 49 = .ok (.ireturn, 1) := by decide +kernel
theorem dX3_mostAlike_0 : decode cX3_mostAlike 0 = .ok (.iconst 0, 1) := by decide +kernel
theorem dX3_mostAlike_1 : decode cX3_mostAlike 1 = .ok (.istore 4, 2) := by decide +kernel
theorem dX3_mostAlike_3 : decode cX3_mostAlike 3 = .ok (.iload 4, 2) := by decide +kernel
theorem dX3_mostAlike_5 : decode cX3_mostAlike 5 = .ok (.bipush 6, 2) := by decide +kernel
theorem dX3_mostAlike_7 : decode cX3_mostAlike 7 = .ok (.if_icmp .ge 30, 3) := by decide +kernel
theorem dX3_mostAlike_10 : decode cX3_mostAlike 10 = .ok (.aload_n 0, 1) := by decide +kernel
theorem dX3_mostAlike_11 : decode cX3_mostAlike 11 = .ok (.getfield 41, 3) := by decide +kernel
theorem dX3_mostAlike_14 : decode cX3_mostAlike 14 = .ok (.iload 4, 2) := by decide +kernel
theorem dX3_mostAlike_16 : decode cX3_mostAlike 16 = .ok (.aload_n 0, 1) := by decide +kernel
theorem dX3_mostAlike_17 : decode cX3_mostAlike 17 = .ok (.getfield 12, 3) := by decide +kernel
theorem dX3_mostAlike_20 : decode cX3_mostAlike 20 = .ok (.getfield 62, 3) := by decide +kernel
theorem dX3_mostAlike_23 : decode cX3_mostAlike 23 = .ok (.iload_n 1, 1) := by decide +kernel
theorem dX3_mostAlike_24 : decode cX3_mostAlike 24 = .ok (.iload 4, 2) := by decide +kernel
theorem dX3_mostAlike_26 : decode cX3_mostAlike 26 = .ok (.iload_n 3, 1) := by decide +kernel
theorem dX3_mostAlike_27 : decode cX3_mostAlike 27 = .ok (.invokevirtual 277, 3) := by decide +kernel
theorem dX3_mostAlike_30 : decode cX3_mostAlike 30 = .ok (.iastore, 1) := by decide +kernel
theorem dX3_mostAlike_31 : decode cX3_mostAlike 31 = .ok (.iinc 4 1, 3) := by decide +kernel
theorem dX3_mostAlike_34 : decode cX3_mostAlike 34 = .ok (.goto (-31), 3) := by decide +kernel
theorem dX3_mostAlike_37 : decode cX3_mostAlike 37 = .ok (.iconst 0, 1) := by decide +kernel
theorem dX3_mostAlike_38 : decode cX3_mostAlike 38 = .ok (.istore 4, 2) := by decide +kernel
theorem dX3_mostAlike_40 : decode cX3_mostAlike 40 = .ok (.iconst 0, 1) := by decide +kernel
theorem dX3_mostAlike_41 : decode cX3_mostAlike 41 = .ok (.istore 5, 2) := by decide +kernel
theorem dX3_mostAlike_43 : decode cX3_mostAlike 43 = .ok (.iload 5, 2) := by decide +kernel
theorem dX3_mostAlike_45 : decode cX3_mostAlike 45 = .ok (.bipush 6, 2) := by decide +kernel
theorem dX3_mostAlike_47 : decode cX3_mostAlike 47 = .ok (.if_icmp .ge 78, 3) := by decide +kernel
theorem dX3_mostAlike_50 : decode cX3_mostAlike 50 = .ok (.iload_n 2, 1) := by decide +kernel
theorem dX3_mostAlike_51 : decode cX3_mostAlike 51 = .ok (.iload 5, 2) := by decide +kernel
theorem dX3_mostAlike_53 : decode cX3_mostAlike 53 = .ok (.ishr, 1) := by decide +kernel
theorem dX3_mostAlike_54 : decode cX3_mostAlike 54 = .ok (.iconst 1, 1) := by decide +kernel
theorem dX3_mostAlike_55 : decode cX3_mostAlike 55 = .ok (.iand, 1) := by decide +kernel
theorem dX3_mostAlike_56 : decode cX3_mostAlike 56 = .ok (.ifCond .ne 6, 3) := by decide +kernel
theorem dX3_mostAlike_59 : decode cX3_mostAlike 59 = .ok (.goto 60, 3) := by decide +kernel
theorem dX3_mostAlike_62 : decode cX3_mostAlike 62 = .ok (.iconst 0, 1) := by decide +kernel
theorem dX3_mostAlike_63 : decode cX3_mostAlike 63 = .ok (.istore 6, 2) := by decide +kernel
theorem dX3_mostAlike_65 : decode cX3_mostAlike 65 = .ok (.iconst 0, 1) := by decide +kernel
theorem dX3_mostAlike_66 : decode cX3_mostAlike 66 = .ok (.istore 7, 2) := by decide +kernel
theorem dX3_mostAlike_68 : decode cX3_mostAlike 68 = .ok (.iload 7, 2) := by decide +kernel
theorem dX3_mostAlike_70 : decode cX3_mostAlike 70 = .ok (.bipush 6, 2) := by decide +kernel
theorem dX3_mostAlike_72 : decode cX3_mostAlike 72 = .ok (.if_icmp .ge 38, 3) := by decide +kernel
theorem dX3_mostAlike_75 : decode cX3_mostAlike 75 = .ok (.iload_n 2, 1) := by decide +kernel
theorem dX3_mostAlike_76 : decode cX3_mostAlike 76 = .ok (.iload 7, 2) := by decide +kernel
theorem dX3_mostAlike_78 : decode cX3_mostAlike 78 = .ok (.ishr, 1) := by decide +kernel
theorem dX3_mostAlike_79 : decode cX3_mostAlike 79 = .ok (.iconst 1, 1) := by decide +kernel
theorem dX3_mostAlike_80 : decode cX3_mostAlike 80 = .ok (.iand, 1) := by decide +kernel
theorem dX3_mostAlike_81 : decode cX3_mostAlike 81 = .ok (.ifCond .eq 23, 3) := by decide +kernel
theorem dX3_mostAlike_84 : decode cX3_mostAlike 84 = .ok (.aload_n 0, 1) := by decide +kernel
theorem dX3_mostAlike_85 : decode cX3_mostAlike 85 = .ok (.getfield 41, 3) := by decide +kernel
theorem dX3_mostAlike_88 : decode cX3_mostAlike 88 = .ok (.iload 7, 2) := by decide +kernel
theorem dX3_mostAlike_90 : decode cX3_mostAlike 90 = .ok (.iaload, 1) := by decide +kernel
theorem dX3_mostAlike_91 : decode cX3_mostAlike 91 = .ok (.aload_n 0, 1) := by decide +kernel
theorem dX3_mostAlike_92 : decode cX3_mostAlike 92 = .ok (.getfield 41, 3) := by decide +kernel
theorem dX3_mostAlike_95 : decode cX3_mostAlike 95 = .ok (.iload 5, 2) := by decide +kernel
theorem dX3_mostAlike_97 : decode cX3_mostAlike 97 = .ok (.iaload, 1) := by decide +kernel
theorem dX3_mostAlike_98 : decode cX3_mostAlike 98 = .ok (.if_icmp .ne 6, 3) := by decide +kernel
theorem dX3_mostAlike_101 : decode cX3_mostAlike 101 = .ok (.iinc 6 1, 3) := by decide +kernel
theorem dX3_mostAlike_104 : decode cX3_mostAlike 104 = .ok (.iinc 7 1, 3) := by decide +kernel
theorem dX3_mostAlike_107 : decode cX3_mostAlike 107 = .ok (.goto (-39), 3) := by decide +kernel
theorem dX3_mostAlike_110 : decode cX3_mostAlike 110 = .ok (.iload 4, 2) := by decide +kernel
theorem dX3_mostAlike_112 : decode cX3_mostAlike 112 = .ok (.iload 6, 2) := by decide +kernel
theorem dX3_mostAlike_114 : decode cX3_mostAlike 114 = .ok (.invokestatic 280, 3) := by decide +kernel
theorem dX3_mostAlike_117 : decode cX3_mostAlike 117 = .ok (.istore 4, 2) := by decide +kernel
theorem dX3_mostAlike_119 : decode cX3_mostAlike 119 = .ok (.iinc 5 1, 3) := by decide +kernel
theorem dX3_mostAlike_122 : decode cX3_mostAlike 122 = .ok (.goto (-79), 3) := by decide +kernel
theorem dX3_mostAlike_125 : decode cX3_mostAlike 125 = .ok (.iload 4, 2) := by decide +kernel
theorem dX3_mostAlike_127 : decode cX3_mostAlike 127 = .ok (.ireturn, 1) := by decide +kernel
theorem dX3_findFirstOrder_0 : decode cX3_findFirstOrder 0 = .ok (.iconst 0, 1) := by decide +kernel
theorem dX3_findFirstOrder_1 : decode cX3_findFirstOrder 1 = .ok (.istore_n 3, 1) := by decide +kernel
theorem dX3_findFirstOrder_2 : decode cX3_findFirstOrder 2 = .ok (.iconst (-1), 1) := by decide +kernel
theorem dX3_findFirstOrder_3 : decode cX3_findFirstOrder 3 = .ok (.istore 4, 2) := by decide +kernel
theorem dX3_findFirstOrder_5 : decode cX3_findFirstOrder 5 = .ok (.iconst 0, 1) := by decide +kernel
theorem dX3_findFirstOrder_6 : decode cX3_findFirstOrder 6 = .ok (.istore 5, 2) := by decide +kernel
theorem dX3_findFirstOrder_8 : decode cX3_findFirstOrder 8 = .ok (.iload 5, 2) := by decide +kernel
theorem dX3_findFirstOrder_10 : decode cX3_findFirstOrder 10 = .ok (.bipush 6, 2) := by decide +kernel
theorem dX3_findFirstOrder_12 : decode cX3_findFirstOrder 12 = .ok (.if_icmp .ge 129, 3) := by decide +kernel
theorem dX3_findFirstOrder_15 : decode cX3_findFirstOrder 15 = .ok (.iload_n 3, 1) := by decide +kernel
theorem dX3_findFirstOrder_16 : decode cX3_findFirstOrder 16 = .ok (.iload_n 2, 1) := by decide +kernel
theorem dX3_findFirstOrder_17 : decode cX3_findFirstOrder 17 = .ok (.if_icmp .ge 124, 3) := by decide +kernel
theorem dX3_findFirstOrder_20 : decode cX3_findFirstOrder 20 = .ok (.aload_n 0, 1) := by decide +kernel
theorem dX3_findFirstOrder_21 : decode cX3_findFirstOrder 21 = .ok (.getfield 12, 3) := by decide +kernel
theorem dX3_findFirstOrder_24 : decode cX3_findFirstOrder 24 = .ok (.getfield 62, 3) := by decide +kernel
theorem dX3_findFirstOrder_27 : decode cX3_findFirstOrder 27 = .ok (.iload_n 1, 1) := by decide +kernel
theorem dX3_findFirstOrder_28 : decode cX3_findFirstOrder 28 = .ok (.iload 4, 2) := by decide +kernel
theorem dX3_findFirstOrder_30 : decode cX3_findFirstOrder 30 = .ok (.invokevirtual 283, 3) := by decide +kernel
theorem dX3_findFirstOrder_33 : decode cX3_findFirstOrder 33 = .ok (.istore 4, 2) := by decide +kernel
theorem dX3_findFirstOrder_35 : decode cX3_findFirstOrder 35 = .ok (.iconst 0, 1) := by decide +kernel
theorem dX3_findFirstOrder_36 : decode cX3_findFirstOrder 36 = .ok (.istore 6, 2) := by decide +kernel
theorem dX3_findFirstOrder_38 : decode cX3_findFirstOrder 38 = .ok (.iload 6, 2) := by decide +kernel
theorem dX3_findFirstOrder_40 : decode cX3_findFirstOrder 40 = .ok (.bipush 9, 2) := by decide +kernel
theorem dX3_findFirstOrder_42 : decode cX3_findFirstOrder 42 = .ok (.if_icmp .ge 93, 3) := by decide +kernel
theorem dX3_findFirstOrder_45 : decode cX3_findFirstOrder 45 = .ok (.iload_n 1, 1) := by decide +kernel
theorem dX3_findFirstOrder_46 : decode cX3_findFirstOrder 46 = .ok (.iload 6, 2) := by decide +kernel
theorem dX3_findFirstOrder_48 : decode cX3_findFirstOrder 48 = .ok (.ishr, 1) := by decide +kernel
theorem dX3_findFirstOrder_49 : decode cX3_findFirstOrder 49 = .ok (.iconst 1, 1) := by decide +kernel
theorem dX3_findFirstOrder_50 : decode cX3_findFirstOrder 50 = .ok (.iand, 1) := by decide +kernel
theorem dX3_findFirstOrder_51 : decode cX3_findFirstOrder 51 = .ok (.ifCond .ne 6, 3) := by decide +kernel
theorem dX3_findFirstOrder_54 : decode cX3_findFirstOrder 54 = .ok (.goto 75, 3) := by decide +kernel
theorem dX3_findFirstOrder_57 : decode cX3_findFirstOrder 57 = .ok (.iconst 0, 1) := by decide +kernel
theorem dX3_findFirstOrder_58 : decode cX3_findFirstOrder 58 = .ok (.istore 7, 2) := by decide +kernel
theorem dX3_findFirstOrder_60 : decode cX3_findFirstOrder 60 = .ok (.iload 7, 2) := by decide +kernel
theorem dX3_findFirstOrder_62 : decode cX3_findFirstOrder 62 = .ok (.aload_n 0, 1) := by decide +kernel
theorem dX3_findFirstOrder_63 : decode cX3_findFirstOrder 63 = .ok (.getfield 12, 3) := by decide +kernel
theorem dX3_findFirstOrder_66 : decode cX3_findFirstOrder 66 = .ok (.getfield 62, 3) := by decide +kernel
theorem dX3_findFirstOrder_69 : decode cX3_findFirstOrder 69 = .ok (.iload 6, 2) := by decide +kernel
theorem dX3_findFirstOrder_71 : decode cX3_findFirstOrder 71 = .ok (.invokevirtual 138, 3) := by decide +kernel
theorem dX3_findFirstOrder_74 : decode cX3_findFirstOrder 74 = .ok (.if_icmp .ge 55, 3) := by decide +kernel
theorem dX3_findFirstOrder_77 : decode cX3_findFirstOrder 77 = .ok (.aload_n 0, 1) := by decide +kernel
theorem dX3_findFirstOrder_78 : decode cX3_findFirstOrder 78 = .ok (.getfield 12, 3) := by decide +kernel
theorem dX3_findFirstOrder_81 : decode cX3_findFirstOrder 81 = .ok (.getfield 62, 3) := by decide +kernel
theorem dX3_findFirstOrder_84 : decode cX3_findFirstOrder 84 = .ok (.iload 6, 2) := by decide +kernel
theorem dX3_findFirstOrder_86 : decode cX3_findFirstOrder 86 = .ok (.iload 7, 2) := by decide +kernel
theorem dX3_findFirstOrder_88 : decode cX3_findFirstOrder 88 = .ok (.iconst 3, 1) := by decide +kernel
theorem dX3_findFirstOrder_89 : decode cX3_findFirstOrder 89 = .ok (.invokevirtual 145, 3) := by decide +kernel
theorem dX3_findFirstOrder_92 : decode cX3_findFirstOrder 92 = .ok (.iload 4, 2) := by decide +kernel
theorem dX3_findFirstOrder_94 : decode cX3_findFirstOrder 94 = .ok (.if_icmp .ne 29, 3) := by decide +kernel
theorem dX3_findFirstOrder_97 : decode cX3_findFirstOrder 97 = .ok (.iload_n 3, 1) := by decide +kernel
theorem dX3_findFirstOrder_98 : decode cX3_findFirstOrder 98 = .ok (.bipush 6, 2) := by decide +kernel
theorem dX3_findFirstOrder_100 : decode cX3_findFirstOrder 100 = .ok (.if_icmp .lt 6, 3) := by decide +kernel
theorem dX3_findFirstOrder_103 : decode cX3_findFirstOrder 103 = .ok (.goto 20, 3) := by decide +kernel
theorem dX3_findFirstOrder_106 : decode cX3_findFirstOrder 106 = .ok (.aload_n 0, 1) := by decide +kernel
theorem dX3_findFirstOrder_107 : decode cX3_findFirstOrder 107 = .ok (.getfield 44, 3) := by decide +kernel
theorem dX3_findFirstOrder_110 : decode cX3_findFirstOrder 110 = .ok (.iload_n 3, 1) := by decide +kernel
theorem dX3_findFirstOrder_111 : decode cX3_findFirstOrder 111 = .ok (.bipush 10, 2) := by decide +kernel
theorem dX3_findFirstOrder_113 : decode cX3_findFirstOrder 113 = .ok (.iload 6, 2) := by decide +kernel
theorem dX3_findFirstOrder_115 : decode cX3_findFirstOrder 115 = .ok (.imul, 1) := by decide +kernel
theorem dX3_findFirstOrder_116 : decode cX3_findFirstOrder 116 = .ok (.iload 7, 2) := by decide +kernel
theorem dX3_findFirstOrder_118 : decode cX3_findFirstOrder 118 = .ok (.iadd, 1) := by decide +kernel
theorem dX3_findFirstOrder_119 : decode cX3_findFirstOrder 119 = .ok (.iastore, 1) := by decide +kernel
theorem dX3_findFirstOrder_120 : decode cX3_findFirstOrder 120 = .ok (.iinc 3 1, 3) := by decide +kernel
theorem dX3_findFirstOrder_123 : decode cX3_findFirstOrder 123 = .ok (.iinc 7 1, 3) := by decide +kernel
theorem dX3_findFirstOrder_126 : decode cX3_findFirstOrder 126 = .ok (.goto (-66), 3) := by decide +kernel
theorem dX3_findFirstOrder_129 : decode cX3_findFirstOrder 129 = .ok (.iinc 6 1, 3) := by decide +kernel
theorem dX3_findFirstOrder_132 : decode cX3_findFirstOrder 132 = .ok (.goto (-94), 3) := by decide +kernel
theorem dX3_findFirstOrder_135 : decode cX3_findFirstOrder 135 = .ok (.iinc 5 1, 3) := by decide +kernel
theorem dX3_findFirstOrder_138 : decode cX3_findFirstOrder 138 = .ok (.goto (-130), 3) := by decide +kernel
theorem dX3_findFirstOrder_141 : decode cX3_findFirstOrder 141 = .ok (.return_, 1) := by decide +kernel
theorem dX3_waysToOrder_0 : decode cX3_waysToOrder 0 = .ok (.iconst 1, 1) := by decide +kernel
theorem dX3_waysToOrder_1 : decode cX3_waysToOrder 1 = .ok (.istore_n 2, 1) := by decide +kernel
theorem dX3_waysToOrder_2 : decode cX3_waysToOrder 2 = .ok (.iconst 0, 1) := by decide +kernel
theorem dX3_waysToOrder_3 : decode cX3_waysToOrder 3 = .ok (.istore_n 3, 1) := by decide +kernel
theorem dX3_waysToOrder_4 : decode cX3_waysToOrder 4 = .ok (.iconst 0, 1) := by decide +kernel
theorem dX3_waysToOrder_5 : decode cX3_waysToOrder 5 = .ok (.istore 4, 2) := by decide +kernel
theorem dX3_waysToOrder_7 : decode cX3_waysToOrder 7 = .ok (.iconst 0, 1) := by decide +kernel
theorem dX3_waysToOrder_8 : decode cX3_waysToOrder 8 = .ok (.istore 5, 2) := by decide +kernel
theorem dX3_waysToOrder_10 : decode cX3_waysToOrder 10 = .ok (.iload 5, 2) := by decide +kernel
theorem dX3_waysToOrder_12 : decode cX3_waysToOrder 12 = .ok (.iload_n 1, 1) := by decide +kernel
theorem dX3_waysToOrder_13 : decode cX3_waysToOrder 13 = .ok (.if_icmp .ge 117, 3) := by decide +kernel
theorem dX3_waysToOrder_16 : decode cX3_waysToOrder 16 = .ok (.iload 5, 2) := by decide +kernel
theorem dX3_waysToOrder_18 : decode cX3_waysToOrder 18 = .ok (.bipush 6, 2) := by decide +kernel
theorem dX3_waysToOrder_20 : decode cX3_waysToOrder 20 = .ok (.if_icmp .ge 110, 3) := by decide +kernel
theorem dX3_waysToOrder_23 : decode cX3_waysToOrder 23 = .ok (.iload 5, 2) := by decide +kernel
theorem dX3_waysToOrder_25 : decode cX3_waysToOrder 25 = .ok (.ifCond .le 24, 3) := by decide +kernel
theorem dX3_waysToOrder_28 : decode cX3_waysToOrder 28 = .ok (.aload_n 0, 1) := by decide +kernel
theorem dX3_waysToOrder_29 : decode cX3_waysToOrder 29 = .ok (.iload 5, 2) := by decide +kernel
theorem dX3_waysToOrder_31 : decode cX3_waysToOrder 31 = .ok (.invokevirtual 286, 3) := by decide +kernel
theorem dX3_waysToOrder_34 : decode cX3_waysToOrder 34 = .ok (.aload_n 0, 1) := by decide +kernel
theorem dX3_waysToOrder_35 : decode cX3_waysToOrder 35 = .ok (.iload 5, 2) := by decide +kernel
theorem dX3_waysToOrder_37 : decode cX3_waysToOrder 37 = .ok (.iconst 1, 1) := by decide +kernel
theorem dX3_waysToOrder_38 : decode cX3_waysToOrder 38 = .ok (.isub, 1) := by decide +kernel
theorem dX3_waysToOrder_39 : decode cX3_waysToOrder 39 = .ok (.invokevirtual 286, 3) := by decide +kernel
theorem dX3_waysToOrder_42 : decode cX3_waysToOrder 42 = .ok (.if_icmp .ne 7, 3) := by decide +kernel
theorem dX3_waysToOrder_45 : decode cX3_waysToOrder 45 = .ok (.iconst 1, 1) := by decide +kernel
theorem dX3_waysToOrder_46 : decode cX3_waysToOrder 46 = .ok (.goto 4, 3) := by decide +kernel
theorem dX3_waysToOrder_49 : decode cX3_waysToOrder 49 = .ok (.iconst 0, 1) := by decide +kernel
theorem dX3_waysToOrder_50 : decode cX3_waysToOrder 50 = .ok (.istore 6, 2) := by decide +kernel
theorem dX3_waysToOrder_52 : decode cX3_waysToOrder 52 = .ok (.iload 6, 2) := by decide +kernel
theorem dX3_waysToOrder_54 : decode cX3_waysToOrder 54 = .ok (.ifCond .eq 32, 3) := by decide +kernel
theorem dX3_waysToOrder_57 : decode cX3_waysToOrder 57 = .ok (.aload_n 0, 1) := by decide +kernel
theorem dX3_waysToOrder_58 : decode cX3_waysToOrder 58 = .ok (.getfield 44, 3) := by decide +kernel
theorem dX3_waysToOrder_61 : decode cX3_waysToOrder 61 = .ok (.iload 5, 2) := by decide +kernel
theorem dX3_waysToOrder_63 : decode cX3_waysToOrder 63 = .ok (.iaload, 1) := by decide +kernel
theorem dX3_waysToOrder_64 : decode cX3_waysToOrder 64 = .ok (.bipush 10, 2) := by decide +kernel
theorem dX3_waysToOrder_66 : decode cX3_waysToOrder 66 = .ok (.idiv, 1) := by decide +kernel
theorem dX3_waysToOrder_67 : decode cX3_waysToOrder 67 = .ok (.aload_n 0, 1) := by decide +kernel
theorem dX3_waysToOrder_68 : decode cX3_waysToOrder 68 = .ok (.getfield 44, 3) := by decide +kernel
theorem dX3_waysToOrder_71 : decode cX3_waysToOrder 71 = .ok (.iload 5, 2) := by decide +kernel
theorem dX3_waysToOrder_73 : decode cX3_waysToOrder 73 = .ok (.iconst 1, 1) := by decide +kernel
theorem dX3_waysToOrder_74 : decode cX3_waysToOrder 74 = .ok (.isub, 1) := by decide +kernel
theorem dX3_waysToOrder_75 : decode cX3_waysToOrder 75 = .ok (.iaload, 1) := by decide +kernel
theorem dX3_waysToOrder_76 : decode cX3_waysToOrder 76 = .ok (.bipush 10, 2) := by decide +kernel
theorem dX3_waysToOrder_78 : decode cX3_waysToOrder 78 = .ok (.idiv, 1) := by decide +kernel
theorem dX3_waysToOrder_79 : decode cX3_waysToOrder 79 = .ok (.if_icmp .ne 7, 3) := by decide +kernel
theorem dX3_waysToOrder_82 : decode cX3_waysToOrder 82 = .ok (.iconst 1, 1) := by decide +kernel
theorem dX3_waysToOrder_83 : decode cX3_waysToOrder 83 = .ok (.goto 4, 3) := by decide +kernel
theorem dX3_waysToOrder_86 : decode cX3_waysToOrder 86 = .ok (.iconst 0, 1) := by decide +kernel
theorem dX3_waysToOrder_87 : decode cX3_waysToOrder 87 = .ok (.istore 7, 2) := by decide +kernel
theorem dX3_waysToOrder_89 : decode cX3_waysToOrder 89 = .ok (.iload 6, 2) := by decide +kernel
theorem dX3_waysToOrder_91 : decode cX3_waysToOrder 91 = .ok (.ifCond .eq 9, 3) := by decide +kernel
theorem dX3_waysToOrder_94 : decode cX3_waysToOrder 94 = .ok (.iload_n 3, 1) := by decide +kernel
theorem dX3_waysToOrder_95 : decode cX3_waysToOrder 95 = .ok (.iconst 1, 1) := by decide +kernel
theorem dX3_waysToOrder_96 : decode cX3_waysToOrder 96 = .ok (.iadd, 1) := by decide +kernel
theorem dX3_waysToOrder_97 : decode cX3_waysToOrder 97 = .ok (.goto 4, 3) := by decide +kernel
theorem dX3_waysToOrder_100 : decode cX3_waysToOrder 100 = .ok (.iconst 1, 1) := by decide +kernel
theorem dX3_waysToOrder_101 : decode cX3_waysToOrder 101 = .ok (.istore_n 3, 1) := by decide +kernel
theorem dX3_waysToOrder_102 : decode cX3_waysToOrder 102 = .ok (.iload 7, 2) := by decide +kernel
theorem dX3_waysToOrder_104 : decode cX3_waysToOrder 104 = .ok (.ifCond .eq 10, 3) := by decide +kernel
theorem dX3_waysToOrder_107 : decode cX3_waysToOrder 107 = .ok (.iload 4, 2) := by decide +kernel
theorem dX3_waysToOrder_109 : decode cX3_waysToOrder 109 = .ok (.iconst 1, 1) := by decide +kernel
theorem dX3_waysToOrder_110 : decode cX3_waysToOrder 110 = .ok (.iadd, 1) := by decide +kernel
theorem dX3_waysToOrder_111 : decode cX3_waysToOrder 111 = .ok (.goto 4, 3) := by decide +kernel
theorem dX3_waysToOrder_114 : decode cX3_waysToOrder 114 = .ok (.iconst 1, 1) := by decide +kernel
theorem dX3_waysToOrder_115 : decode cX3_waysToOrder 115 = .ok (.istore 4, 2) := by decide +kernel
theorem dX3_waysToOrder_117 : decode cX3_waysToOrder 117 = .ok (.iload_n 2, 1) := by decide +kernel
theorem dX3_waysToOrder_118 : decode cX3_waysToOrder 118 = .ok (.iload_n 3, 1) := by decide +kernel
theorem dX3_waysToOrder_119 : decode cX3_waysToOrder 119 = .ok (.imul, 1) := by decide +kernel
theorem dX3_waysToOrder_120 : decode cX3_waysToOrder 120 = .ok (.iload 4, 2) := by decide +kernel
theorem dX3_waysToOrder_122 : decode cX3_waysToOrder 122 = .ok (.idiv, 1) := by decide +kernel
theorem dX3_waysToOrder_123 : decode cX3_waysToOrder 123 = .ok (.istore_n 2, 1) := by decide +kernel
theorem dX3_waysToOrder_124 : decode cX3_waysToOrder 124 = .ok (.iinc 5 1, 3) := by decide +kernel
theorem dX3_waysToOrder_127 : decode cX3_waysToOrder 127 = .ok (.goto (-117), 3) := by decide +kernel
theorem dX3_waysToOrder_130 : decode cX3_waysToOrder 130 = .ok (.iload_n 2, 1) := by decide +kernel
theorem dX3_waysToOrder_131 : decode cX3_waysToOrder 131 = .ok (.ireturn, 1) := by decide +kernel
theorem dX3_yearOrdered_0 : decode cX3_yearOrdered 0 = .ok (.aload_n 0, 1) := by decide +kernel
theorem dX3_yearOrdered_1 : decode cX3_yearOrdered 1 = .ok (.getfield 12, 3) := by decide +kernel
theorem dX3_yearOrdered_4 : decode cX3_yearOrdered 4 = .ok (.getfield 62, 3) := by decide +kernel
theorem dX3_yearOrdered_7 : decode cX3_yearOrdered 7 = .ok (.aload_n 0, 1) := by decide +kernel
theorem dX3_yearOrdered_8 : decode cX3_yearOrdered 8 = .ok (.getfield 44, 3) := by decide +kernel
theorem dX3_yearOrdered_11 : decode cX3_yearOrdered 11 = .ok (.iload_n 1, 1) := by decide +kernel
theorem dX3_yearOrdered_12 : decode cX3_yearOrdered 12 = .ok (.iaload, 1) := by decide +kernel
theorem dX3_yearOrdered_13 : decode cX3_yearOrdered 13 = .ok (.bipush 10, 2) := by decide +kernel
theorem dX3_yearOrdered_15 : decode cX3_yearOrdered 15 = .ok (.idiv, 1) := by decide +kernel
theorem dX3_yearOrdered_16 : decode cX3_yearOrdered 16 = .ok (.aload_n 0, 1) := by decide +kernel
theorem dX3_yearOrdered_17 : decode cX3_yearOrdered 17 = .ok (.getfield 44, 3) := by decide +kernel
theorem dX3_yearOrdered_20 : decode cX3_yearOrdered 20 = .ok (.iload_n 1, 1) := by decide +kernel
theorem dX3_yearOrdered_21 : decode cX3_yearOrdered 21 = .ok (.iaload, 1) := by decide +kernel
theorem dX3_yearOrdered_22 : decode cX3_yearOrdered 22 = .ok (.bipush 10, 2) := by decide +kernel
theorem dX3_yearOrdered_24 : decode cX3_yearOrdered 24 = .ok (.irem, 1) := by decide +kernel
theorem dX3_yearOrdered_25 : decode cX3_yearOrdered 25 = .ok (.iconst 3, 1) := by decide +kernel
theorem dX3_yearOrdered_26 : decode cX3_yearOrdered 26 = .ok (.invokevirtual 145, 3) := by decide +kernel
theorem dX3_yearOrdered_29 : decode cX3_yearOrdered 29 = .ok (.ireturn, 1) := by decide +kernel
theorem dJ6_bitCount_0f7a4_0 : decode cJ6_bitCount_0f7a4 0 = .ok (.iload_n 0, 1) := by decide +kernel
theorem dJ6_bitCount_0f7a4_1 : decode cJ6_bitCount_0f7a4 1 = .ok (.iload_n 0, 1) := by decide +kernel
theorem dJ6_bitCount_0f7a4_2 : decode cJ6_bitCount_0f7a4 2 = .ok (.iconst 1, 1) := by decide +kernel
theorem dJ6_bitCount_0f7a4_3 : decode cJ6_bitCount_0f7a4 3 = .ok (.iushr, 1) := by decide +kernel
theorem dJ6_bitCount_0f7a4_4 : decode cJ6_bitCount_0f7a4 4 = .ok (.ldc_w 265, 3) := by decide +kernel
theorem dJ6_bitCount_0f7a4_7 : decode cJ6_bitCount_0f7a4 7 = .ok (.iand, 1) := by decide +kernel
theorem dJ6_bitCount_0f7a4_8 : decode cJ6_bitCount_0f7a4 8 = .ok (.isub, 1) := by decide +kernel
theorem dJ6_bitCount_0f7a4_9 : decode cJ6_bitCount_0f7a4 9 = .ok (.istore_n 0, 1) := by decide +kernel
theorem dJ6_bitCount_0f7a4_10 : decode cJ6_bitCount_0f7a4 10 = .ok (.iload_n 0, 1) := by decide +kernel
theorem dJ6_bitCount_0f7a4_11 : decode cJ6_bitCount_0f7a4 11 = .ok (.ldc_w 266, 3) := by decide +kernel
theorem dJ6_bitCount_0f7a4_14 : decode cJ6_bitCount_0f7a4 14 = .ok (.iand, 1) := by decide +kernel
theorem dJ6_bitCount_0f7a4_15 : decode cJ6_bitCount_0f7a4 15 = .ok (.iload_n 0, 1) := by decide +kernel
theorem dJ6_bitCount_0f7a4_16 : decode cJ6_bitCount_0f7a4 16 = .ok (.iconst 2, 1) := by decide +kernel
theorem dJ6_bitCount_0f7a4_17 : decode cJ6_bitCount_0f7a4 17 = .ok (.iushr, 1) := by decide +kernel
theorem dJ6_bitCount_0f7a4_18 : decode cJ6_bitCount_0f7a4 18 = .ok (.ldc_w 266, 3) := by decide +kernel
theorem dJ6_bitCount_0f7a4_21 : decode cJ6_bitCount_0f7a4 21 = .ok (.iand, 1) := by decide +kernel
theorem dJ6_bitCount_0f7a4_22 : decode cJ6_bitCount_0f7a4 22 = .ok (.iadd, 1) := by decide +kernel
theorem dJ6_bitCount_0f7a4_23 : decode cJ6_bitCount_0f7a4 23 = .ok (.istore_n 0, 1) := by decide +kernel
theorem dJ6_bitCount_0f7a4_24 : decode cJ6_bitCount_0f7a4 24 = .ok (.iload_n 0, 1) := by decide +kernel
theorem dJ6_bitCount_0f7a4_25 : decode cJ6_bitCount_0f7a4 25 = .ok (.iload_n 0, 1) := by decide +kernel
theorem dJ6_bitCount_0f7a4_26 : decode cJ6_bitCount_0f7a4 26 = .ok (.iconst 4, 1) := by decide +kernel
theorem dJ6_bitCount_0f7a4_27 : decode cJ6_bitCount_0f7a4 27 = .ok (.iushr, 1) := by decide +kernel
theorem dJ6_bitCount_0f7a4_28 : decode cJ6_bitCount_0f7a4 28 = .ok (.iadd, 1) := by decide +kernel
theorem dJ6_bitCount_0f7a4_29 : decode cJ6_bitCount_0f7a4 29 = .ok (.ldc_w 267, 3) := by decide +kernel
theorem dJ6_bitCount_0f7a4_32 : decode cJ6_bitCount_0f7a4 32 = .ok (.iand, 1) := by decide +kernel
theorem dJ6_bitCount_0f7a4_33 : decode cJ6_bitCount_0f7a4 33 = .ok (.istore_n 0, 1) := by decide +kernel
theorem dJ6_bitCount_0f7a4_34 : decode cJ6_bitCount_0f7a4 34 = .ok (.iload_n 0, 1) := by decide +kernel
theorem dJ6_bitCount_0f7a4_35 : decode cJ6_bitCount_0f7a4 35 = .ok (.iload_n 0, 1) := by decide +kernel
theorem dJ6_bitCount_0f7a4_36 : decode cJ6_bitCount_0f7a4 36 = .ok (.bipush 8, 2) := by decide +kernel
theorem dJ6_bitCount_0f7a4_38 : decode cJ6_bitCount_0f7a4 38 = .ok (.iushr, 1) := by decide +kernel
theorem dJ6_bitCount_0f7a4_39 : decode cJ6_bitCount_0f7a4 39 = .ok (.iadd, 1) := by decide +kernel
theorem dJ6_bitCount_0f7a4_40 : decode cJ6_bitCount_0f7a4 40 = .ok (.istore_n 0, 1) := by decide +kernel
theorem dJ6_bitCount_0f7a4_41 : decode cJ6_bitCount_0f7a4 41 = .ok (.iload_n 0, 1) := by decide +kernel
theorem dJ6_bitCount_0f7a4_42 : decode cJ6_bitCount_0f7a4 42 = .ok (.iload_n 0, 1) := by decide +kernel
theorem dJ6_bitCount_0f7a4_43 : decode cJ6_bitCount_0f7a4 43 = .ok (.bipush 16, 2) := by decide +kernel
theorem dJ6_bitCount_0f7a4_45 : decode cJ6_bitCount_0f7a4 45 = .ok (.iushr, 1) := by decide +kernel
theorem dJ6_bitCount_0f7a4_46 : decode cJ6_bitCount_0f7a4 46 = .ok (.iadd, 1) := by decide +kernel
theorem dJ6_bitCount_0f7a4_47 : decode cJ6_bitCount_0f7a4 47 = .ok (.istore_n 0, 1) := by decide +kernel
theorem dJ6_bitCount_0f7a4_48 : decode cJ6_bitCount_0f7a4 48 = .ok (.iload_n 0, 1) := by decide +kernel
theorem dJ6_bitCount_0f7a4_49 : decode cJ6_bitCount_0f7a4 49 = .ok (.bipush 63, 2) := by decide +kernel
theorem dJ6_bitCount_0f7a4_51 : decode cJ6_bitCount_0f7a4 51 = .ok (.iand, 1) := by decide +kernel
theorem dJ6_bitCount_0f7a4_52 : decode cJ6_bitCount_0f7a4 52 = .ok (.ireturn, 1) := by decide +kernel
theorem dJ9_max_7cf53_0 : decode cJ9_max_7cf53 0 = .ok (.iload_n 0, 1) := by decide +kernel
theorem dJ9_max_7cf53_1 : decode cJ9_max_7cf53 1 = .ok (.iload_n 1, 1) := by decide +kernel
theorem dJ9_max_7cf53_2 : decode cJ9_max_7cf53 2 = .ok (.if_icmp .lt 7, 3) := by decide +kernel
theorem dJ9_max_7cf53_5 : decode cJ9_max_7cf53 5 = .ok (.iload_n 0, 1) := by decide +kernel
theorem dJ9_max_7cf53_6 : decode cJ9_max_7cf53 6 = .ok (.goto 4, 3) := by decide +kernel
theorem dJ9_max_7cf53_9 : decode cJ9_max_7cf53 9 = .ok (.iload_n 1, 1) := by decide +kernel
theorem dJ9_max_7cf53_10 : decode cJ9_max_7cf53 10 = .ok (.ireturn, 1) := by decide +kernel
theorem dJ9_min_7cf53_0 : decode cJ9_min_7cf53 0 = .ok (.iload_n 0, 1) := by decide +kernel
theorem dJ9_min_7cf53_1 : decode cJ9_min_7cf53 1 = .ok (.iload_n 1, 1) := by decide +kernel
theorem dJ9_min_7cf53_2 : decode cJ9_min_7cf53 2 = .ok (.if_icmp .gt 7, 3) := by decide +kernel
theorem dJ9_min_7cf53_5 : decode cJ9_min_7cf53 5 = .ok (.iload_n 0, 1) := by decide +kernel
theorem dJ9_min_7cf53_6 : decode cJ9_min_7cf53 6 = .ok (.goto 4, 3) := by decide +kernel
theorem dJ9_min_7cf53_9 : decode cJ9_min_7cf53 9 = .ok (.iload_n 1, 1) := by decide +kernel
theorem dJ9_min_7cf53_10 : decode cJ9_min_7cf53 10 = .ok (.ireturn, 1) := by decide +kernel
end
section
theorem dX4_init_0 : decode cX4_init 0 = .ok (.aload_n 0, 1) := by decide +kernel
theorem dX4_init_1 : decode cX4_init 1 = .ok (.invokespecial 1, 3) := by decide +kernel
theorem dX4_init_4 : decode cX4_init 4 = .ok (.aload_n 0, 1) := by decide +kernel
theorem dX4_init_5 : decode cX4_init 5 = .ok (.sipush 3567, 3) := by decide +kernel
theorem dX4_init_8 : decode cX4_init 8 = .ok (.newarray .int, 2) := by decide +kernel
theorem dX4_init_10 : decode cX4_init 10 = .ok (.putfield 7, 3) := by decide +kernel
theorem dX4_init_13 : decode cX4_init 13 = .ok (.aload_n 0, 1) := by decide +kernel
theorem dX4_init_14 : decode cX4_init 14 = .ok (.iconst 2, 1) := by decide +kernel
theorem dX4_init_15 : decode cX4_init 15 = .ok (.newarray .boolean, 2) := by decide +kernel
theorem dX4_init_17 : decode cX4_init 17 = .ok (.putfield 13, 3) := by decide +kernel
theorem dX4_init_20 : decode cX4_init 20 = .ok (.aload_n 0, 1) := by decide +kernel
theorem dX4_init_21 : decode cX4_init 21 = .ok (.sipush 150, 3) := by decide +kernel
theorem dX4_init_24 : decode cX4_init 24 = .ok (.newarray .int, 2) := by decide +kernel
theorem dX4_init_26 : decode cX4_init 26 = .ok (.putfield 17, 3) := by decide +kernel
theorem dX4_init_29 : decode cX4_init 29 = .ok (.aload_n 0, 1) := by decide +kernel
theorem dX4_init_30 : decode cX4_init 30 = .ok (.iconst 3, 1) := by decide +kernel
theorem dX4_init_31 : decode cX4_init 31 = .ok (.newarray .int, 2) := by decide +kernel
theorem dX4_init_33 : decode cX4_init 33 = .ok (.putfield 20, 3) := by decide +kernel
theorem dX4_init_36 : decode cX4_init 36 = .ok (.aload_n 0, 1) := by decide +kernel
theorem dX4_init_37 : decode cX4_init 37 = .ok (.lconst 1, 1) := by decide +kernel
theorem dX4_init_38 : decode cX4_init 38 = .ok (.putfield 23, 3) := by decide +kernel
theorem dX4_init_41 : decode cX4_init 41 = .ok (.aload_n 0, 1) := by decide +kernel
theorem dX4_init_42 : decode cX4_init 42 = .ok (.iconst 4, 1) := by decide +kernel
theorem dX4_init_43 : decode cX4_init 43 = .ok (.newarray .int, 2) := by decide +kernel
theorem dX4_init_45 : decode cX4_init 45 = .ok (.putfield 27, 3) := by decide +kernel
theorem dX4_init_48 : decode cX4_init 48 = .ok (.aload_n 0, 1) := by decide +kernel
theorem dX4_init_49 : decode cX4_init 49 = .ok (.sipush 279, 3) := by decide +kernel
theorem dX4_init_52 : decode cX4_init 52 = .ok (.newarray .int, 2) := by decide +kernel
theorem dX4_init_54 : decode cX4_init 54 = .ok (.putfield 30, 3) := by decide +kernel
theorem dX4_init_57 : decode cX4_init 57 = .ok (.aload_n 0, 1) := by decide +kernel
theorem dX4_init_58 : decode cX4_init 58 = .ok (.bipush 27, 2) := by decide +kernel
theorem dX4_init_60 : decode cX4_init 60 = .ok (.newarray .int, 2) := by decide +kernel
theorem dX4_init_62 : decode cX4_init 62 = .ok (.putfield 33, 3) := by decide +kernel
theorem dX4_init_65 : decode cX4_init 65 = .ok (.aload_n 0, 1) := by decide +kernel
theorem dX4_init_66 : decode cX4_init 66 = .ok (.bipush 64, 2) := by decide +kernel
theorem dX4_init_68 : decode cX4_init 68 = .ok (.newarray .int, 2) := by decide +kernel
theorem dX4_init_70 : decode cX4_init 70 = .ok (.putfield 36, 3) := by decide +kernel
theorem dX4_init_73 : decode cX4_init 73 = .ok (.aload_n 0, 1) := by decide +kernel
theorem dX4_init_74 : decode cX4_init 74 = .ok (.iconst 0, 1) := by decide +kernel
theorem dX4_init_75 : decode cX4_init 75 = .ok (.iconst 0, 1) := by decide +kernel
theorem dX4_init_76 : decode cX4_init 76 = .ok (.invokevirtual 39, 3) := by decide +kernel
theorem dX4_init_79 : decode cX4_init 79 = .ok (.return_, 1) := by decide +kernel
theorem dX4_in_0 : decode cX4_in 0 = .ok (.lload_n 0, 1) := by decide +kernel
theorem dX4_in_1 : decode cX4_in 1 = .ok (.lload_n 2, 1) := by decide +kernel
theorem dX4_in_2 : decode cX4_in 2 = .ok (.lcmp, 1) := by decide +kernel
theorem dX4_in_3 : decode cX4_in 3 = .ok (.ifCond .lt 14, 3) := by decide +kernel
theorem dX4_in_6 : decode cX4_in 6 = .ok (.lload_n 0, 1) := by decide +kernel
theorem dX4_in_7 : decode cX4_in 7 = .ok (.lload 4, 2) := by decide +kernel
theorem dX4_in_9 : decode cX4_in 9 = .ok (.lcmp, 1) := by decide +kernel
theorem dX4_in_10 : decode cX4_in 10 = .ok (.ifCond .gt 7, 3) := by decide +kernel
theorem dX4_in_13 : decode cX4_in 13 = .ok (.iconst 1, 1) := by decide +kernel
theorem dX4_in_14 : decode cX4_in 14 = .ok (.goto 4, 3) := by decide +kernel
theorem dX4_in_17 : decode cX4_in 17 = .ok (.iconst 0, 1) := by decide +kernel
theorem dX4_in_18 : decode cX4_in 18 = .ok (.ireturn, 1) := by decide +kernel
theorem dX4_has_0 : decode cX4_has 0 = .ok (.iload_n 0, 1) := by decide +kernel
theorem dX4_has_1 : decode cX4_has 1 = .ok (.iload_n 1, 1) := by decide +kernel
theorem dX4_has_2 : decode cX4_has 2 = .ok (.ishr, 1) := by decide +kernel
theorem dX4_has_3 : decode cX4_has 3 = .ok (.iconst 1, 1) := by decide +kernel
theorem dX4_has_4 : decode cX4_has 4 = .ok (.iand, 1) := by decide +kernel
theorem dX4_has_5 : decode cX4_has 5 = .ok (.iconst 1, 1) := by decide +kernel
theorem dX4_has_6 : decode cX4_has 6 = .ok (.if_icmp .ne 7, 3) := by decide +kernel
theorem dX4_has_9 : decode cX4_has 9 = .ok (.iconst 1, 1) := by decide +kernel
theorem dX4_has_10 : decode cX4_has 10 = .ok (.goto 4, 3) := by decide +kernel
theorem dX4_has_13 : decode cX4_has 13 = .ok (.iconst 0, 1) := by decide +kernel
theorem dX4_has_14 : decode cX4_has 14 = .ok (.ireturn, 1) := by decide +kernel
theorem dX4_bad_0 : decode cX4_bad 0 = .ok (.aload_n 0, 1) := by decide +kernel
theorem dX4_bad_1 : decode cX4_bad 1 = .ok (.getfield 20, 3) := by decide +kernel
theorem dX4_bad_4 : decode cX4_bad 4 = .ok (.iconst 0, 1) := by decide +kernel
theorem dX4_bad_5 : decode cX4_bad 5 = .ok (.dup2, 1) := by decide +kernel
theorem dX4_bad_6 : decode cX4_bad 6 = .ok (.iaload, 1) := by decide +kernel
theorem dX4_bad_7 : decode cX4_bad 7 = .ok (.iconst 1, 1) := by decide +kernel
theorem dX4_bad_8 : decode cX4_bad 8 = .ok (.iadd, 1) := by decide +kernel
theorem dX4_bad_9 : decode cX4_bad 9 = .ok (.iastore, 1) := by decide +kernel
theorem dX4_bad_10 : decode cX4_bad 10 = .ok (.bipush (-2), 2) := by decide +kernel
theorem dX4_bad_12 : decode cX4_bad 12 = .ok (.ireturn, 1) := by decide +kernel
theorem dX4_badAs_0 : decode cX4_badAs 0 = .ok (.aload_n 0, 1) := by decide +kernel
theorem dX4_badAs_1 : decode cX4_badAs 1 = .ok (.getfield 20, 3) := by decide +kernel
theorem dX4_badAs_4 : decode cX4_badAs 4 = .ok (.iconst 0, 1) := by decide +kernel
theorem dX4_badAs_5 : decode cX4_badAs 5 = .ok (.dup2, 1) := by decide +kernel
theorem dX4_badAs_6 : decode cX4_badAs 6 = .ok (.iaload, 1) := by decide +kernel
theorem dX4_badAs_7 : decode cX4_badAs 7 = .ok (.iconst 1, 1) := by decide +kernel
theorem dX4_badAs_8 : decode cX4_badAs 8 = .ok (.iadd, 1) := by decide +kernel
theorem dX4_badAs_9 : decode cX4_badAs 9 = .ok (.iastore, 1) := by decide +kernel
theorem dX4_badAs_10 : decode cX4_badAs 10 = .ok (.iload_n 1, 1) := by decide +kernel
theorem dX4_badAs_11 : decode cX4_badAs 11 = .ok (.ireturn, 1) := by decide +kernel
theorem dX4_no_0 : decode cX4_no 0 = .ok (.aload_n 0, 1) := by decide +kernel
theorem dX4_no_1 : decode cX4_no 1 = .ok (.getfield 20, 3) := by decide +kernel
theorem dX4_no_4 : decode cX4_no 4 = .ok (.iconst 1, 1) := by decide +kernel
theorem dX4_no_5 : decode cX4_no 5 = .ok (.dup2, 1) := by decide +kernel
theorem dX4_no_6 : decode cX4_no 6 = .ok (.iaload, 1) := by decide +kernel
theorem dX4_no_7 : decode cX4_no 7 = .ok (.iconst 1, 1) := by decide +kernel
theorem dX4_no_8 : decode cX4_no 8 = .ok (.iadd, 1) := by decide +kernel
theorem dX4_no_9 : decode cX4_no 9 = .ok (.iastore, 1) := by decide +kernel
theorem dX4_no_10 : decode cX4_no 10 = .ok (.bipush (-3), 2) := by decide +kernel
theorem dX4_no_12 : decode cX4_no 12 = .ok (.ireturn, 1) := by decide +kernel
theorem dX4_full_0 : decode cX4_full 0 = .ok (.aload_n 0, 1) := by decide +kernel
theorem dX4_full_1 : decode cX4_full 1 = .ok (.getfield 20, 3) := by decide +kernel
theorem dX4_full_4 : decode cX4_full 4 = .ok (.iconst 2, 1) := by decide +kernel
theorem dX4_full_5 : decode cX4_full 5 = .ok (.dup2, 1) := by decide +kernel
theorem dX4_full_6 : decode cX4_full 6 = .ok (.iaload, 1) := by decide +kernel
theorem dX4_full_7 : decode cX4_full 7 = .ok (.iconst 1, 1) := by decide +kernel
theorem dX4_full_8 : decode cX4_full 8 = .ok (.iadd, 1) := by decide +kernel
theorem dX4_full_9 : decode cX4_full 9 = .ok (.iastore, 1) := by decide +kernel
theorem dX4_full_10 : decode cX4_full 10 = .ok (.bipush (-4), 2) := by decide +kernel
theorem dX4_full_12 : decode cX4_full 12 = .ok (.ireturn, 1) := by decide +kernel
theorem dX4_copy_0 : decode cX4_copy 0 = .ok (.iconst 0, 1) := by decide +kernel
theorem dX4_copy_1 : decode cX4_copy 1 = .ok (.istore 4, 2) := by decide +kernel
theorem dX4_copy_3 : decode cX4_copy 3 = .ok (.iload 4, 2) := by decide +kernel
theorem dX4_copy_5 : decode cX4_copy 5 = .ok (.iload_n 3, 1) := by decide +kernel
theorem dX4_copy_6 : decode cX4_copy 6 = .ok (.if_icmp .ge 27, 3) := by decide +kernel
theorem dX4_copy_9 : decode cX4_copy 9 = .ok (.aload_n 0, 1) := by decide +kernel
theorem dX4_copy_10 : decode cX4_copy 10 = .ok (.getfield 7, 3) := by decide +kernel
theorem dX4_copy_13 : decode cX4_copy 13 = .ok (.iload_n 2, 1) := by decide +kernel
theorem dX4_copy_14 : decode cX4_copy 14 = .ok (.iload 4, 2) := by decide +kernel
theorem dX4_copy_16 : decode cX4_copy 16 = .ok (.iadd, 1) := by decide +kernel
theorem dX4_copy_17 : decode cX4_copy 17 = .ok (.aload_n 0, 1) := by decide +kernel
theorem dX4_copy_18 : decode cX4_copy 18 = .ok (.getfield 7, 3) := by decide +kernel
theorem dX4_copy_21 : decode cX4_copy 21 = .ok (.iload_n 1, 1) := by decide +kernel
theorem dX4_copy_22 : decode cX4_copy 22 = .ok (.iload 4, 2) := by decide +kernel
theorem dX4_copy_24 : decode cX4_copy 24 = .ok (.iadd, 1) := by decide +kernel
theorem dX4_copy_25 : decode cX4_copy 25 = .ok (.iaload, 1) := by decide +kernel
theorem dX4_copy_26 : decode cX4_copy 26 = .ok (.iastore, 1) := by decide +kernel
theorem dX4_copy_27 : decode cX4_copy 27 = .ok (.iinc 4 1, 3) := by decide +kernel
theorem dX4_copy_30 : decode cX4_copy 30 = .ok (.goto (-27), 3) := by decide +kernel
theorem dX4_copy_33 : decode cX4_copy 33 = .ok (.return_, 1) := by decide +kernel
theorem dX4_begins_0 : decode cX4_begins 0 = .ok (.iconst 0, 1) := by decide +kernel
theorem dX4_begins_1 : decode cX4_begins 1 = .ok (.istore_n 3, 1) := by decide +kernel
theorem dX4_begins_2 : decode cX4_begins 2 = .ok (.iload_n 3, 1) := by decide +kernel
theorem dX4_begins_3 : decode cX4_begins 3 = .ok (.sipush 147, 3) := by decide +kernel
theorem dX4_begins_6 : decode cX4_begins 6 = .ok (.if_icmp .ge 18, 3) := by decide +kernel
theorem dX4_begins_9 : decode cX4_begins 9 = .ok (.aload_n 0, 1) := by decide +kernel
theorem dX4_begins_10 : decode cX4_begins 10 = .ok (.getfield 7, 3) := by decide +kernel
theorem dX4_begins_13 : decode cX4_begins 13 = .ok (.iload_n 1, 1) := by decide +kernel
theorem dX4_begins_14 : decode cX4_begins 14 = .ok (.iload_n 3, 1) := by decide +kernel
theorem dX4_begins_15 : decode cX4_begins 15 = .ok (.iadd, 1) := by decide +kernel
theorem dX4_begins_16 : decode cX4_begins 16 = .ok (.iconst 0, 1) := by decide +kernel
theorem dX4_begins_17 : decode cX4_begins 17 = .ok (.iastore, 1) := by decide +kernel
theorem dX4_begins_18 : decode cX4_begins 18 = .ok (.iinc 3 1, 3) := by decide +kernel
theorem dX4_begins_21 : decode cX4_begins 21 = .ok (.goto (-19), 3) := by decide +kernel
theorem dX4_begins_24 : decode cX4_begins 24 = .ok (.aload_n 0, 1) := by decide +kernel
theorem dX4_begins_25 : decode cX4_begins 25 = .ok (.getfield 7, 3) := by decide +kernel
theorem dX4_begins_28 : decode cX4_begins 28 = .ok (.iload_n 1, 1) := by decide +kernel
theorem dX4_begins_29 : decode cX4_begins 29 = .ok (.iconst 0, 1) := by decide +kernel
theorem dX4_begins_30 : decode cX4_begins 30 = .ok (.iadd, 1) := by decide +kernel
theorem dX4_begins_31 : decode cX4_begins 31 = .ok (.iload_n 2, 1) := by decide +kernel
theorem dX4_begins_32 : decode cX4_begins 32 = .ok (.iastore, 1) := by decide +kernel
theorem dX4_begins_33 : decode cX4_begins 33 = .ok (.iconst 0, 1) := by decide +kernel
theorem dX4_begins_34 : decode cX4_begins 34 = .ok (.istore_n 3, 1) := by decide +kernel
theorem dX4_begins_35 : decode cX4_begins 35 = .ok (.iload_n 3, 1) := by decide +kernel
theorem dX4_begins_36 : decode cX4_begins 36 = .ok (.bipush 9, 2) := by decide +kernel
theorem dX4_begins_38 : decode cX4_begins 38 = .ok (.if_icmp .ge 21, 3) := by decide +kernel
theorem dX4_begins_41 : decode cX4_begins 41 = .ok (.aload_n 0, 1) := by decide +kernel
theorem dX4_begins_42 : decode cX4_begins 42 = .ok (.getfield 7, 3) := by decide +kernel
theorem dX4_begins_45 : decode cX4_begins 45 = .ok (.iload_n 1, 1) := by decide +kernel
theorem dX4_begins_46 : decode cX4_begins 46 = .ok (.bipush 118, 2) := by decide +kernel
theorem dX4_begins_48 : decode cX4_begins 48 = .ok (.iadd, 1) := by decide +kernel
theorem dX4_begins_49 : decode cX4_begins 49 = .ok (.iload_n 3, 1) := by decide +kernel
theorem dX4_begins_50 : decode cX4_begins 50 = .ok (.iadd, 1) := by decide +kernel
theorem dX4_begins_51 : decode cX4_begins 51 = .ok (.iconst 1, 1) := by decide +kernel
theorem dX4_begins_52 : decode cX4_begins 52 = .ok (.iastore, 1) := by decide +kernel
theorem dX4_begins_53 : decode cX4_begins 53 = .ok (.iinc 3 1, 3) := by decide +kernel
theorem dX4_begins_56 : decode cX4_begins 56 = .ok (.goto (-21), 3) := by decide +kernel
theorem dX4_begins_59 : decode cX4_begins 59 = .ok (.return_, 1) := by decide +kernel
theorem dX4_isCell_0 : decode cX4_isCell 0 = .ok (.iload_n 0, 1) := by decide +kernel
theorem dX4_isCell_1 : decode cX4_isCell 1 = .ok (.i2l, 1) := by decide +kernel
theorem dX4_isCell_2 : decode cX4_isCell 2 = .ok (.lconst 0, 1) := by decide +kernel
theorem dX4_isCell_3 : decode cX4_isCell 3 = .ok (.ldc2_w 43, 3) := by decide +kernel
theorem dX4_isCell_6 : decode cX4_isCell 6 = .ok (.invokestatic 45, 3) := by decide +kernel
theorem dX4_isCell_9 : decode cX4_isCell 9 = .ok (.ireturn, 1) := by decide +kernel
theorem dX4_isDarn_0 : decode cX4_isDarn 0 = .ok (.iload_n 0, 1) := by decide +kernel
theorem dX4_isDarn_1 : decode cX4_isDarn 1 = .ok (.invokestatic 49, 3) := by decide +kernel
theorem dX4_isDarn_4 : decode cX4_isDarn 4 = .ok (.ifCond .eq 43, 3) := by decide +kernel
theorem dX4_isDarn_7 : decode cX4_isDarn 7 = .ok (.iload_n 1, 1) := by decide +kernel
theorem dX4_isDarn_8 : decode cX4_isDarn 8 = .ok (.i2l, 1) := by decide +kernel
theorem dX4_isDarn_9 : decode cX4_isDarn 9 = .ok (.lconst 0, 1) := by decide +kernel
theorem dX4_isDarn_10 : decode cX4_isDarn 10 = .ok (.ldc2_w 53, 3) := by decide +kernel
theorem dX4_isDarn_13 : decode cX4_isDarn 13 = .ok (.invokestatic 45, 3) := by decide +kernel
theorem dX4_isDarn_16 : decode cX4_isDarn 16 = .ok (.ifCond .eq 31, 3) := by decide +kernel
theorem dX4_isDarn_19 : decode cX4_isDarn 19 = .ok (.iload_n 2, 1) := by decide +kernel
theorem dX4_isDarn_20 : decode cX4_isDarn 20 = .ok (.i2l, 1) := by decide +kernel
theorem dX4_isDarn_21 : decode cX4_isDarn 21 = .ok (.lconst 0, 1) := by decide +kernel
theorem dX4_isDarn_22 : decode cX4_isDarn 22 = .ok (.ldc2_w 55, 3) := by decide +kernel
theorem dX4_isDarn_25 : decode cX4_isDarn 25 = .ok (.invokestatic 45, 3) := by decide +kernel
theorem dX4_isDarn_28 : decode cX4_isDarn 28 = .ok (.ifCond .eq 19, 3) := by decide +kernel
theorem dX4_isDarn_31 : decode cX4_isDarn 31 = .ok (.iload_n 3, 1) := by decide +kernel
theorem dX4_isDarn_32 : decode cX4_isDarn 32 = .ok (.i2l, 1) := by decide +kernel
theorem dX4_isDarn_33 : decode cX4_isDarn 33 = .ok (.lconst 1, 1) := by decide +kernel
theorem dX4_isDarn_34 : decode cX4_isDarn 34 = .ok (.ldc2_w 57, 3) := by decide +kernel
theorem dX4_isDarn_37 : decode cX4_isDarn 37 = .ok (.invokestatic 45, 3) := by decide +kernel
theorem dX4_isDarn_40 : decode cX4_isDarn 40 = .ok (.ifCond .eq 7, 3) := by decide +kernel
theorem dX4_isDarn_43 : decode cX4_isDarn 43 = .ok (.iconst 1, 1) := by decide +kernel
theorem dX4_isDarn_44 : decode cX4_isDarn 44 = .ok (.goto 4, 3) := by decide +kernel
theorem dX4_isDarn_47 : decode cX4_isDarn 47 = .ok (.iconst 0, 1) := by decide +kernel
theorem dX4_isDarn_48 : decode cX4_isDarn 48 = .ok (.ireturn, 1) := by decide +kernel
theorem dX4_placeOf_0 : decode cX4_placeOf 0 = .ok (.bipush 10, 2) := by decide +kernel
theorem dX4_placeOf_2 : decode cX4_placeOf 2 = .ok (.bipush 12, 2) := by decide +kernel
theorem dX4_placeOf_4 : decode cX4_placeOf 4 = .ok (.iload_n 0, 1) := by decide +kernel
theorem dX4_placeOf_5 : decode cX4_placeOf 5 = .ok (.imul, 1) := by decide +kernel
theorem dX4_placeOf_6 : decode cX4_placeOf 6 = .ok (.iadd, 1) := by decide +kernel
theorem dX4_placeOf_7 : decode cX4_placeOf 7 = .ok (.iconst 4, 1) := by decide +kernel
theorem dX4_placeOf_8 : decode cX4_placeOf 8 = .ok (.iload_n 1, 1) := by decide +kernel
theorem dX4_placeOf_9 : decode cX4_placeOf 9 = .ok (.imul, 1) := by decide +kernel
theorem dX4_placeOf_10 : decode cX4_placeOf 10 = .ok (.iadd, 1) := by decide +kernel
theorem dX4_placeOf_11 : decode cX4_placeOf 11 = .ok (.ireturn, 1) := by decide +kernel
theorem dX4_topOf_0 : decode cX4_topOf 0 = .ok (.aload_n 0, 1) := by decide +kernel
theorem dX4_topOf_1 : decode cX4_topOf 1 = .ok (.getfield 7, 3) := by decide +kernel
theorem dX4_topOf_4 : decode cX4_topOf 4 = .ok (.iload_n 1, 1) := by decide +kernel
theorem dX4_topOf_5 : decode cX4_topOf 5 = .ok (.iconst 1, 1) := by decide +kernel
theorem dX4_topOf_6 : decode cX4_topOf 6 = .ok (.iadd, 1) := by decide +kernel
theorem dX4_topOf_7 : decode cX4_topOf 7 = .ok (.iload_n 2, 1) := by decide +kernel
theorem dX4_topOf_8 : decode cX4_topOf 8 = .ok (.iadd, 1) := by decide +kernel
theorem dX4_topOf_9 : decode cX4_topOf 9 = .ok (.iaload, 1) := by decide +kernel
theorem dX4_topOf_10 : decode cX4_topOf 10 = .ok (.istore_n 3, 1) := by decide +kernel
theorem dX4_topOf_11 : decode cX4_topOf 11 = .ok (.iload_n 3, 1) := by decide +kernel
theorem dX4_topOf_12 : decode cX4_topOf 12 = .ok (.ifCond .ne 7, 3) := by decide +kernel
theorem dX4_topOf_15 : decode cX4_topOf 15 = .ok (.iconst (-1), 1) := by decide +kernel
theorem dX4_topOf_16 : decode cX4_topOf 16 = .ok (.goto 12, 3) := by decide +kernel
theorem dX4_topOf_19 : decode cX4_topOf 19 = .ok (.iload_n 1, 1) := by decide +kernel
theorem dX4_topOf_20 : decode cX4_topOf 20 = .ok (.iload_n 2, 1) := by decide +kernel
theorem dX4_topOf_21 : decode cX4_topOf 21 = .ok (.iload_n 3, 1) := by decide +kernel
theorem dX4_topOf_22 : decode cX4_topOf 22 = .ok (.iconst 1, 1) := by decide +kernel
theorem dX4_topOf_23 : decode cX4_topOf 23 = .ok (.isub, 1) := by decide +kernel
theorem dX4_topOf_24 : decode cX4_topOf 24 = .ok (.invokestatic 59, 3) := by decide +kernel
theorem dX4_topOf_27 : decode cX4_topOf 27 = .ok (.iadd, 1) := by decide +kernel
theorem dX4_topOf_28 : decode cX4_topOf 28 = .ok (.ireturn, 1) := by decide +kernel
theorem dX4_puts_0 : decode cX4_puts 0 = .ok (.iload_n 1, 1) := by decide +kernel
theorem dX4_puts_1 : decode cX4_puts 1 = .ok (.iload_n 2, 1) := by decide +kernel
theorem dX4_puts_2 : decode cX4_puts 2 = .ok (.aload_n 0, 1) := by decide +kernel
theorem dX4_puts_3 : decode cX4_puts 3 = .ok (.getfield 7, 3) := by decide +kernel
theorem dX4_puts_6 : decode cX4_puts 6 = .ok (.iload_n 1, 1) := by decide +kernel
theorem dX4_puts_7 : decode cX4_puts 7 = .ok (.iconst 1, 1) := by decide +kernel
theorem dX4_puts_8 : decode cX4_puts 8 = .ok (.iadd, 1) := by decide +kernel
theorem dX4_puts_9 : decode cX4_puts 9 = .ok (.iload_n 2, 1) := by decide +kernel
theorem dX4_puts_10 : decode cX4_puts 10 = .ok (.iadd, 1) := by decide +kernel
theorem dX4_puts_11 : decode cX4_puts 11 = .ok (.iaload, 1) := by decide +kernel
theorem dX4_puts_12 : decode cX4_puts 12 = .ok (.invokestatic 59, 3) := by decide +kernel
theorem dX4_puts_15 : decode cX4_puts 15 = .ok (.iadd, 1) := by decide +kernel
theorem dX4_puts_16 : decode cX4_puts 16 = .ok (.istore 6, 2) := by decide +kernel
theorem dX4_puts_18 : decode cX4_puts 18 = .ok (.aload_n 0, 1) := by decide +kernel
theorem dX4_puts_19 : decode cX4_puts 19 = .ok (.getfield 7, 3) := by decide +kernel
theorem dX4_puts_22 : decode cX4_puts 22 = .ok (.iload 6, 2) := by decide +kernel
theorem dX4_puts_24 : decode cX4_puts 24 = .ok (.iload_n 3, 1) := by decide +kernel
theorem dX4_puts_25 : decode cX4_puts 25 = .ok (.iastore, 1) := by decide +kernel
theorem dX4_puts_26 : decode cX4_puts 26 = .ok (.aload_n 0, 1) := by decide +kernel
theorem dX4_puts_27 : decode cX4_puts 27 = .ok (.getfield 7, 3) := by decide +kernel
theorem dX4_puts_30 : decode cX4_puts 30 = .ok (.iload 6, 2) := by decide +kernel
theorem dX4_puts_32 : decode cX4_puts 32 = .ok (.iconst 1, 1) := by decide +kernel
theorem dX4_puts_33 : decode cX4_puts 33 = .ok (.iadd, 1) := by decide +kernel
theorem dX4_puts_34 : decode cX4_puts 34 = .ok (.iload 4, 2) := by decide +kernel
theorem dX4_puts_36 : decode cX4_puts 36 = .ok (.iastore, 1) := by decide +kernel
theorem dX4_puts_37 : decode cX4_puts 37 = .ok (.aload_n 0, 1) := by decide +kernel
theorem dX4_puts_38 : decode cX4_puts 38 = .ok (.getfield 7, 3) := by decide +kernel
theorem dX4_puts_41 : decode cX4_puts 41 = .ok (.iload 6, 2) := by decide +kernel
theorem dX4_puts_43 : decode cX4_puts 43 = .ok (.iconst 2, 1) := by decide +kernel
theorem dX4_puts_44 : decode cX4_puts 44 = .ok (.iadd, 1) := by decide +kernel
theorem dX4_puts_45 : decode cX4_puts 45 = .ok (.iload 5, 2) := by decide +kernel
theorem dX4_puts_47 : decode cX4_puts 47 = .ok (.iastore, 1) := by decide +kernel
theorem dX4_puts_48 : decode cX4_puts 48 = .ok (.aload_n 0, 1) := by decide +kernel
theorem dX4_puts_49 : decode cX4_puts 49 = .ok (.getfield 7, 3) := by decide +kernel
theorem dX4_puts_52 : decode cX4_puts 52 = .ok (.iload 6, 2) := by decide +kernel
theorem dX4_puts_54 : decode cX4_puts 54 = .ok (.iconst 3, 1) := by decide +kernel
theorem dX4_puts_55 : decode cX4_puts 55 = .ok (.iadd, 1) := by decide +kernel
theorem dX4_puts_56 : decode cX4_puts 56 = .ok (.aload_n 0, 1) := by decide +kernel
theorem dX4_puts_57 : decode cX4_puts 57 = .ok (.getfield 7, 3) := by decide +kernel
theorem dX4_puts_60 : decode cX4_puts 60 = .ok (.iload_n 1, 1) := by decide +kernel
theorem dX4_puts_61 : decode cX4_puts 61 = .ok (.iconst 0, 1) := by decide +kernel
theorem dX4_puts_62 : decode cX4_puts 62 = .ok (.iadd, 1) := by decide +kernel
theorem dX4_puts_63 : decode cX4_puts 63 = .ok (.iaload, 1) := by decide +kernel
theorem dX4_puts_64 : decode cX4_puts 64 = .ok (.iastore, 1) := by decide +kernel
theorem dX4_puts_65 : decode cX4_puts 65 = .ok (.aload_n 0, 1) := by decide +kernel
theorem dX4_puts_66 : decode cX4_puts 66 = .ok (.getfield 7, 3) := by decide +kernel
theorem dX4_puts_69 : decode cX4_puts 69 = .ok (.iload_n 1, 1) := by decide +kernel
theorem dX4_puts_70 : decode cX4_puts 70 = .ok (.iconst 1, 1) := by decide +kernel
theorem dX4_puts_71 : decode cX4_puts 71 = .ok (.iadd, 1) := by decide +kernel
theorem dX4_puts_72 : decode cX4_puts 72 = .ok (.iload_n 2, 1) := by decide +kernel
theorem dX4_puts_73 : decode cX4_puts 73 = .ok (.iadd, 1) := by decide +kernel
theorem dX4_puts_74 : decode cX4_puts 74 = .ok (.dup2, 1) := by decide +kernel
theorem dX4_puts_75 : decode cX4_puts 75 = .ok (.iaload, 1) := by decide +kernel
theorem dX4_puts_76 : decode cX4_puts 76 = .ok (.iconst 1, 1) := by decide +kernel
theorem dX4_puts_77 : decode cX4_puts 77 = .ok (.iadd, 1) := by decide +kernel
theorem dX4_puts_78 : decode cX4_puts 78 = .ok (.iastore, 1) := by decide +kernel
theorem dX4_puts_79 : decode cX4_puts 79 = .ok (.return_, 1) := by decide +kernel
theorem dX4_darnsIn_0 : decode cX4_darnsIn 0 = .ok (.iconst 0, 1) := by decide +kernel
theorem dX4_darnsIn_1 : decode cX4_darnsIn 1 = .ok (.istore_n 2, 1) := by decide +kernel
theorem dX4_darnsIn_2 : decode cX4_darnsIn 2 = .ok (.iconst 0, 1) := by decide +kernel
theorem dX4_darnsIn_3 : decode cX4_darnsIn 3 = .ok (.istore_n 3, 1) := by decide +kernel
theorem dX4_darnsIn_4 : decode cX4_darnsIn 4 = .ok (.iload_n 3, 1) := by decide +kernel
theorem dX4_darnsIn_5 : decode cX4_darnsIn 5 = .ok (.bipush 9, 2) := by decide +kernel
theorem dX4_darnsIn_7 : decode cX4_darnsIn 7 = .ok (.if_icmp .ge 22, 3) := by decide +kernel
theorem dX4_darnsIn_10 : decode cX4_darnsIn 10 = .ok (.iload_n 2, 1) := by decide +kernel
theorem dX4_darnsIn_11 : decode cX4_darnsIn 11 = .ok (.aload_n 0, 1) := by decide +kernel
theorem dX4_darnsIn_12 : decode cX4_darnsIn 12 = .ok (.getfield 7, 3) := by decide +kernel
theorem dX4_darnsIn_15 : decode cX4_darnsIn 15 = .ok (.iload_n 1, 1) := by decide +kernel
theorem dX4_darnsIn_16 : decode cX4_darnsIn 16 = .ok (.iconst 1, 1) := by decide +kernel
theorem dX4_darnsIn_17 : decode cX4_darnsIn 17 = .ok (.iadd, 1) := by decide +kernel
theorem dX4_darnsIn_18 : decode cX4_darnsIn 18 = .ok (.iload_n 3, 1) := by decide +kernel
theorem dX4_darnsIn_19 : decode cX4_darnsIn 19 = .ok (.iadd, 1) := by decide +kernel
theorem dX4_darnsIn_20 : decode cX4_darnsIn 20 = .ok (.iaload, 1) := by decide +kernel
theorem dX4_darnsIn_21 : decode cX4_darnsIn 21 = .ok (.iadd, 1) := by decide +kernel
theorem dX4_darnsIn_22 : decode cX4_darnsIn 22 = .ok (.istore_n 2, 1) := by decide +kernel
theorem dX4_darnsIn_23 : decode cX4_darnsIn 23 = .ok (.iinc 3 1, 3) := by decide +kernel
theorem dX4_darnsIn_26 : decode cX4_darnsIn 26 = .ok (.goto (-22), 3) := by decide +kernel
theorem dX4_darnsIn_29 : decode cX4_darnsIn 29 = .ok (.iload_n 2, 1) := by decide +kernel
theorem dX4_darnsIn_30 : decode cX4_darnsIn 30 = .ok (.ireturn, 1) := by decide +kernel
theorem dX4_holesIn_0 : decode cX4_holesIn 0 = .ok (.iconst 0, 1) := by decide +kernel
theorem dX4_holesIn_1 : decode cX4_holesIn 1 = .ok (.istore_n 2, 1) := by decide +kernel
theorem dX4_holesIn_2 : decode cX4_holesIn 2 = .ok (.iconst 0, 1) := by decide +kernel
theorem dX4_holesIn_3 : decode cX4_holesIn 3 = .ok (.istore_n 3, 1) := by decide +kernel
theorem dX4_holesIn_4 : decode cX4_holesIn 4 = .ok (.iload_n 3, 1) := by decide +kernel
theorem dX4_holesIn_5 : decode cX4_holesIn 5 = .ok (.bipush 9, 2) := by decide +kernel
theorem dX4_holesIn_7 : decode cX4_holesIn 7 = .ok (.if_icmp .ge 32, 3) := by decide +kernel
theorem dX4_holesIn_10 : decode cX4_holesIn 10 = .ok (.iload_n 2, 1) := by decide +kernel
theorem dX4_holesIn_11 : decode cX4_holesIn 11 = .ok (.aload_n 0, 1) := by decide +kernel
theorem dX4_holesIn_12 : decode cX4_holesIn 12 = .ok (.getfield 7, 3) := by decide +kernel
theorem dX4_holesIn_15 : decode cX4_holesIn 15 = .ok (.iload_n 1, 1) := by decide +kernel
theorem dX4_holesIn_16 : decode cX4_holesIn 16 = .ok (.iconst 1, 1) := by decide +kernel
theorem dX4_holesIn_17 : decode cX4_holesIn 17 = .ok (.iadd, 1) := by decide +kernel
theorem dX4_holesIn_18 : decode cX4_holesIn 18 = .ok (.iload_n 3, 1) := by decide +kernel
theorem dX4_holesIn_19 : decode cX4_holesIn 19 = .ok (.iadd, 1) := by decide +kernel
theorem dX4_holesIn_20 : decode cX4_holesIn 20 = .ok (.iaload, 1) := by decide +kernel
theorem dX4_holesIn_21 : decode cX4_holesIn 21 = .ok (.ifCond .ne 9, 3) := by decide +kernel
theorem dX4_holesIn_24 : decode cX4_holesIn 24 = .ok (.iconst 1, 1) := by decide +kernel
theorem dX4_holesIn_25 : decode cX4_holesIn 25 = .ok (.iload_n 3, 1) := by decide +kernel
theorem dX4_holesIn_26 : decode cX4_holesIn 26 = .ok (.ishl, 1) := by decide +kernel
theorem dX4_holesIn_27 : decode cX4_holesIn 27 = .ok (.goto 4, 3) := by decide +kernel
theorem dX4_holesIn_30 : decode cX4_holesIn 30 = .ok (.iconst 0, 1) := by decide +kernel
theorem dX4_holesIn_31 : decode cX4_holesIn 31 = .ok (.ior, 1) := by decide +kernel
theorem dX4_holesIn_32 : decode cX4_holesIn 32 = .ok (.istore_n 2, 1) := by decide +kernel
theorem dX4_holesIn_33 : decode cX4_holesIn 33 = .ok (.iinc 3 1, 3) := by decide +kernel
theorem dX4_holesIn_36 : decode cX4_holesIn 36 = .ok (.goto (-32), 3) := by decide +kernel
theorem dX4_holesIn_39 : decode cX4_holesIn 39 = .ok (.iload_n 2, 1) := by decide +kernel
theorem dX4_holesIn_40 : decode cX4_holesIn 40 = .ok (.ireturn, 1) := by decide +kernel
theorem dX4_ones_0 : decode cX4_ones 0 = .ok (.iconst 0, 1) := by decide +kernel
theorem dX4_ones_1 : decode cX4_ones 1 = .ok (.istore_n 1, 1) := by decide +kernel
theorem dX4_ones_2 : decode cX4_ones 2 = .ok (.iconst 0, 1) := by decide +kernel
theorem dX4_ones_3 : decode cX4_ones 3 = .ok (.istore_n 2, 1) := by decide +kernel
theorem dX4_ones_4 : decode cX4_ones 4 = .ok (.iload_n 2, 1) := by decide +kernel
theorem dX4_ones_5 : decode cX4_ones 5 = .ok (.bipush 9, 2) := by decide +kernel
theorem dX4_ones_7 : decode cX4_ones 7 = .ok (.if_icmp .ge 17, 3) := by decide +kernel
theorem dX4_ones_10 : decode cX4_ones 10 = .ok (.iload_n 1, 1) := by decide +kernel
theorem dX4_ones_11 : decode cX4_ones 11 = .ok (.iload_n 0, 1) := by decide +kernel
theorem dX4_ones_12 : decode cX4_ones 12 = .ok (.iload_n 2, 1) := by decide +kernel
theorem dX4_ones_13 : decode cX4_ones 13 = .ok (.ishr, 1) := by decide +kernel
theorem dX4_ones_14 : decode cX4_ones 14 = .ok (.iconst 1, 1) := by decide +kernel
theorem dX4_ones_15 : decode cX4_ones 15 = .ok (.iand, 1) := by decide +kernel
theorem dX4_ones_16 : decode cX4_ones 16 = .ok (.iadd, 1) := by decide +kernel
theorem dX4_ones_17 : decode cX4_ones 17 = .ok (.istore_n 1, 1) := by decide +kernel
theorem dX4_ones_18 : decode cX4_ones 18 = .ok (.iinc 2 1, 3) := by decide +kernel
theorem dX4_ones_21 : decode cX4_ones 21 = .ok (.goto (-17), 3) := by decide +kernel
theorem dX4_ones_24 : decode cX4_ones 24 = .ok (.iload_n 1, 1) := by decide +kernel
theorem dX4_ones_25 : decode cX4_ones 25 = .ok (.ireturn, 1) := by decide +kernel
theorem dX4_sock_0 : decode cX4_sock 0 = .ok (.iload_n 1, 1) := by decide +kernel
theorem dX4_sock_1 : decode cX4_sock 1 = .ok (.i2l, 1) := by decide +kernel
theorem dX4_sock_2 : decode cX4_sock 2 = .ok (.lconst 0, 1) := by decide +kernel
theorem dX4_sock_3 : decode cX4_sock 3 = .ok (.ldc2_w 63, 3) := by decide +kernel
theorem dX4_sock_6 : decode cX4_sock 6 = .ok (.invokestatic 45, 3) := by decide +kernel
theorem dX4_sock_9 : decode cX4_sock 9 = .ok (.ifCond .ne 8, 3) := by decide +kernel
theorem dX4_sock_12 : decode cX4_sock 12 = .ok (.aload_n 0, 1) := by decide +kernel
theorem dX4_sock_13 : decode cX4_sock 13 = .ok (.invokevirtual 65, 3) := by decide +kernel
theorem dX4_sock_16 : decode cX4_sock 16 = .ok (.ireturn, 1) := by decide +kernel
theorem dX4_sock_17 : decode cX4_sock 17 = .ok (.aload_n 0, 1) := by decide +kernel
theorem dX4_sock_18 : decode cX4_sock 18 = .ok (.iconst 0, 1) := by decide +kernel
theorem dX4_sock_19 : decode cX4_sock 19 = .ok (.invokevirtual 69, 3) := by decide +kernel
theorem dX4_sock_22 : decode cX4_sock 22 = .ok (.istore_n 2, 1) := by decide +kernel
theorem dX4_sock_23 : decode cX4_sock 23 = .ok (.aload_n 0, 1) := by decide +kernel
theorem dX4_sock_24 : decode cX4_sock 24 = .ok (.iconst 0, 1) := by decide +kernel
theorem dX4_sock_25 : decode cX4_sock 25 = .ok (.iload_n 1, 1) := by decide +kernel
theorem dX4_sock_26 : decode cX4_sock 26 = .ok (.invokevirtual 39, 3) := by decide +kernel
theorem dX4_sock_29 : decode cX4_sock 29 = .ok (.iload_n 2, 1) := by decide +kernel
theorem dX4_sock_30 : decode cX4_sock 30 = .ok (.ireturn, 1) := by decide +kernel
theorem dX4_wear_0 : decode cX4_wear 0 = .ok (.iload_n 1, 1) := by decide +kernel
theorem dX4_wear_1 : decode cX4_wear 1 = .ok (.invokestatic 49, 3) := by decide +kernel
theorem dX4_wear_4 : decode cX4_wear 4 = .ok (.ifCond .eq 15, 3) := by decide +kernel
theorem dX4_wear_7 : decode cX4_wear 7 = .ok (.iload_n 2, 1) := by decide +kernel
theorem dX4_wear_8 : decode cX4_wear 8 = .ok (.i2l, 1) := by decide +kernel
theorem dX4_wear_9 : decode cX4_wear 9 = .ok (.lconst 0, 1) := by decide +kernel
theorem dX4_wear_10 : decode cX4_wear 10 = .ok (.ldc2_w 53, 3) := by decide +kernel
theorem dX4_wear_13 : decode cX4_wear 13 = .ok (.invokestatic 45, 3) := by decide +kernel
theorem dX4_wear_16 : decode cX4_wear 16 = .ok (.ifCond .ne 8, 3) := by decide +kernel
theorem dX4_wear_19 : decode cX4_wear 19 = .ok (.aload_n 0, 1) := by decide +kernel
theorem dX4_wear_20 : decode cX4_wear 20 = .ok (.invokevirtual 65, 3) := by decide +kernel
theorem dX4_wear_23 : decode cX4_wear 23 = .ok (.ireturn, 1) := by decide +kernel
theorem dX4_wear_24 : decode cX4_wear 24 = .ok (.aload_n 0, 1) := by decide +kernel
theorem dX4_wear_25 : decode cX4_wear 25 = .ok (.getfield 7, 3) := by decide +kernel
theorem dX4_wear_28 : decode cX4_wear 28 = .ok (.bipush 118, 2) := by decide +kernel
theorem dX4_wear_30 : decode cX4_wear 30 = .ok (.iload_n 1, 1) := by decide +kernel
theorem dX4_wear_31 : decode cX4_wear 31 = .ok (.iadd, 1) := by decide +kernel
theorem dX4_wear_32 : decode cX4_wear 32 = .ok (.iaload, 1) := by decide +kernel
theorem dX4_wear_33 : decode cX4_wear 33 = .ok (.istore_n 3, 1) := by decide +kernel
theorem dX4_wear_34 : decode cX4_wear 34 = .ok (.aload_n 0, 1) := by decide +kernel
theorem dX4_wear_35 : decode cX4_wear 35 = .ok (.getfield 7, 3) := by decide +kernel
theorem dX4_wear_38 : decode cX4_wear 38 = .ok (.bipush 118, 2) := by decide +kernel
theorem dX4_wear_40 : decode cX4_wear 40 = .ok (.iload_n 1, 1) := by decide +kernel
theorem dX4_wear_41 : decode cX4_wear 41 = .ok (.iadd, 1) := by decide +kernel
theorem dX4_wear_42 : decode cX4_wear 42 = .ok (.iload_n 2, 1) := by decide +kernel
theorem dX4_wear_43 : decode cX4_wear 43 = .ok (.iastore, 1) := by decide +kernel
theorem dX4_wear_44 : decode cX4_wear 44 = .ok (.iload_n 3, 1) := by decide +kernel
theorem dX4_wear_45 : decode cX4_wear 45 = .ok (.ireturn, 1) := by decide +kernel
theorem dX4_minds_0 : decode cX4_minds 0 = .ok (.aload_n 0, 1) := by decide +kernel
theorem dX4_minds_1 : decode cX4_minds 1 = .ok (.getfield 7, 3) := by decide +kernel
theorem dX4_minds_4 : decode cX4_minds 4 = .ok (.sipush 146, 3) := by decide +kernel
theorem dX4_minds_7 : decode cX4_minds 7 = .ok (.iaload, 1) := by decide +kernel
theorem dX4_minds_8 : decode cX4_minds 8 = .ok (.bipush 8, 2) := by decide +kernel
theorem dX4_minds_10 : decode cX4_minds 10 = .ok (.if_icmp .ne 28, 3) := by decide +kernel
theorem dX4_minds_13 : decode cX4_minds 13 = .ok (.aload_n 0, 1) := by decide +kernel
theorem dX4_minds_14 : decode cX4_minds 14 = .ok (.sipush 265, 3) := by decide +kernel
theorem dX4_minds_17 : decode cX4_minds 17 = .ok (.sipush 147, 3) := by decide +kernel
theorem dX4_minds_20 : decode cX4_minds 20 = .ok (.sipush 826, 3) := by decide +kernel
theorem dX4_minds_23 : decode cX4_minds 23 = .ok (.invokevirtual 73, 3) := by decide +kernel
theorem dX4_minds_26 : decode cX4_minds 26 = .ok (.aload_n 0, 1) := by decide +kernel
theorem dX4_minds_27 : decode cX4_minds 27 = .ok (.getfield 7, 3) := by decide +kernel
theorem dX4_minds_30 : decode cX4_minds 30 = .ok (.sipush 146, 3) := by decide +kernel
theorem dX4_minds_33 : decode cX4_minds 33 = .ok (.dup2, 1) := by decide +kernel
theorem dX4_minds_34 : decode cX4_minds 34 = .ok (.iaload, 1) := by decide +kernel
theorem dX4_minds_35 : decode cX4_minds 35 = .ok (.iconst 1, 1) := by decide +kernel
theorem dX4_minds_36 : decode cX4_minds 36 = .ok (.isub, 1) := by decide +kernel
theorem dX4_minds_37 : decode cX4_minds 37 = .ok (.iastore, 1) := by decide +kernel
theorem dX4_minds_38 : decode cX4_minds 38 = .ok (.aload_n 0, 1) := by decide +kernel
theorem dX4_minds_39 : decode cX4_minds 39 = .ok (.iconst 0, 1) := by decide +kernel
theorem dX4_minds_40 : decode cX4_minds 40 = .ok (.sipush 147, 3) := by decide +kernel
theorem dX4_minds_43 : decode cX4_minds 43 = .ok (.bipush 118, 2) := by decide +kernel
theorem dX4_minds_45 : decode cX4_minds 45 = .ok (.aload_n 0, 1) := by decide +kernel
theorem dX4_minds_46 : decode cX4_minds 46 = .ok (.getfield 7, 3) := by decide +kernel
theorem dX4_minds_49 : decode cX4_minds 49 = .ok (.sipush 146, 3) := by decide +kernel
theorem dX4_minds_52 : decode cX4_minds 52 = .ok (.iaload, 1) := by decide +kernel
theorem dX4_minds_53 : decode cX4_minds 53 = .ok (.imul, 1) := by decide +kernel
theorem dX4_minds_54 : decode cX4_minds 54 = .ok (.iadd, 1) := by decide +kernel
theorem dX4_minds_55 : decode cX4_minds 55 = .ok (.bipush 118, 2) := by decide +kernel
theorem dX4_minds_57 : decode cX4_minds 57 = .ok (.invokevirtual 73, 3) := by decide +kernel
theorem dX4_minds_60 : decode cX4_minds 60 = .ok (.aload_n 0, 1) := by decide +kernel
theorem dX4_minds_61 : decode cX4_minds 61 = .ok (.getfield 7, 3) := by decide +kernel
theorem dX4_minds_64 : decode cX4_minds 64 = .ok (.sipush 146, 3) := by decide +kernel
theorem dX4_minds_67 : decode cX4_minds 67 = .ok (.dup2, 1) := by decide +kernel
theorem dX4_minds_68 : decode cX4_minds 68 = .ok (.iaload, 1) := by decide +kernel
theorem dX4_minds_69 : decode cX4_minds 69 = .ok (.iconst 1, 1) := by decide +kernel
theorem dX4_minds_70 : decode cX4_minds 70 = .ok (.iadd, 1) := by decide +kernel
theorem dX4_minds_71 : decode cX4_minds 71 = .ok (.iastore, 1) := by decide +kernel
theorem dX4_minds_72 : decode cX4_minds 72 = .ok (.return_, 1) := by decide +kernel
theorem dX4_darn_0 : decode cX4_darn 0 = .ok (.iload_n 1, 1) := by decide +kernel
theorem dX4_darn_1 : decode cX4_darn 1 = .ok (.iload_n 2, 1) := by decide +kernel
theorem dX4_darn_2 : decode cX4_darn 2 = .ok (.iload_n 3, 1) := by decide +kernel
theorem dX4_darn_3 : decode cX4_darn 3 = .ok (.iload 4, 2) := by decide +kernel
theorem dX4_darn_5 : decode cX4_darn 5 = .ok (.invokestatic 77, 3) := by decide +kernel
theorem dX4_darn_8 : decode cX4_darn 8 = .ok (.ifCond .ne 8, 3) := by decide +kernel
theorem dX4_darn_11 : decode cX4_darn 11 = .ok (.aload_n 0, 1) := by decide +kernel
theorem dX4_darn_12 : decode cX4_darn 12 = .ok (.invokevirtual 65, 3) := by decide +kernel
theorem dX4_darn_15 : decode cX4_darn 15 = .ok (.ireturn, 1) := by decide +kernel
theorem dX4_darn_16 : decode cX4_darn 16 = .ok (.aload_n 0, 1) := by decide +kernel
theorem dX4_darn_17 : decode cX4_darn 17 = .ok (.getfield 7, 3) := by decide +kernel
theorem dX4_darn_20 : decode cX4_darn 20 = .ok (.iconst 1, 1) := by decide +kernel
theorem dX4_darn_21 : decode cX4_darn 21 = .ok (.iload_n 1, 1) := by decide +kernel
theorem dX4_darn_22 : decode cX4_darn 22 = .ok (.iadd, 1) := by decide +kernel
theorem dX4_darn_23 : decode cX4_darn 23 = .ok (.iaload, 1) := by decide +kernel
theorem dX4_darn_24 : decode cX4_darn 24 = .ok (.iconst 3, 1) := by decide +kernel
theorem dX4_darn_25 : decode cX4_darn 25 = .ok (.if_icmp .ne 8, 3) := by decide +kernel
theorem dX4_darn_28 : decode cX4_darn 28 = .ok (.aload_n 0, 1) := by decide +kernel
theorem dX4_darn_29 : decode cX4_darn 29 = .ok (.invokevirtual 81, 3) := by decide +kernel
theorem dX4_darn_32 : decode cX4_darn 32 = .ok (.ireturn, 1) := by decide +kernel
theorem dX4_darn_33 : decode cX4_darn 33 = .ok (.aload_n 0, 1) := by decide +kernel
theorem dX4_darn_34 : decode cX4_darn 34 = .ok (.invokevirtual 84, 3) := by decide +kernel
theorem dX4_darn_37 : decode cX4_darn 37 = .ok (.aload_n 0, 1) := by decide +kernel
theorem dX4_darn_38 : decode cX4_darn 38 = .ok (.iconst 0, 1) := by decide +kernel
theorem dX4_darn_39 : decode cX4_darn 39 = .ok (.iload_n 1, 1) := by decide +kernel
theorem dX4_darn_40 : decode cX4_darn 40 = .ok (.iload_n 2, 1) := by decide +kernel
theorem dX4_darn_41 : decode cX4_darn 41 = .ok (.iload_n 3, 1) := by decide +kernel
theorem dX4_darn_42 : decode cX4_darn 42 = .ok (.iload 4, 2) := by decide +kernel
theorem dX4_darn_44 : decode cX4_darn 44 = .ok (.invokevirtual 87, 3) := by decide +kernel
theorem dX4_darn_47 : decode cX4_darn 47 = .ok (.aload_n 0, 1) := by decide +kernel
theorem dX4_darn_48 : decode cX4_darn 48 = .ok (.getfield 7, 3) := by decide +kernel
theorem dX4_darn_51 : decode cX4_darn 51 = .ok (.iconst 1, 1) := by decide +kernel
theorem dX4_darn_52 : decode cX4_darn 52 = .ok (.iload_n 1, 1) := by decide +kernel
theorem dX4_darn_53 : decode cX4_darn 53 = .ok (.iadd, 1) := by decide +kernel
theorem dX4_darn_54 : decode cX4_darn 54 = .ok (.iaload, 1) := by decide +kernel
theorem dX4_darn_55 : decode cX4_darn 55 = .ok (.ireturn, 1) := by decide +kernel
theorem dX4_unpick_0 : decode cX4_unpick 0 = .ok (.iload_n 1, 1) := by decide +kernel
theorem dX4_unpick_1 : decode cX4_unpick 1 = .ok (.invokestatic 49, 3) := by decide +kernel
theorem dX4_unpick_4 : decode cX4_unpick 4 = .ok (.ifCond .ne 8, 3) := by decide +kernel
theorem dX4_unpick_7 : decode cX4_unpick 7 = .ok (.aload_n 0, 1) := by decide +kernel
theorem dX4_unpick_8 : decode cX4_unpick 8 = .ok (.invokevirtual 65, 3) := by decide +kernel
theorem dX4_unpick_11 : decode cX4_unpick 11 = .ok (.ireturn, 1) := by decide +kernel
theorem dX4_unpick_12 : decode cX4_unpick 12 = .ok (.aload_n 0, 1) := by decide +kernel
theorem dX4_unpick_13 : decode cX4_unpick 13 = .ok (.getfield 7, 3) := by decide +kernel
theorem dX4_unpick_16 : decode cX4_unpick 16 = .ok (.iconst 1, 1) := by decide +kernel
theorem dX4_unpick_17 : decode cX4_unpick 17 = .ok (.iload_n 1, 1) := by decide +kernel
theorem dX4_unpick_18 : decode cX4_unpick 18 = .ok (.iadd, 1) := by decide +kernel
theorem dX4_unpick_19 : decode cX4_unpick 19 = .ok (.iaload, 1) := by decide +kernel
theorem dX4_unpick_20 : decode cX4_unpick 20 = .ok (.ifCond .ne 8, 3) := by decide +kernel
theorem dX4_unpick_23 : decode cX4_unpick 23 = .ok (.aload_n 0, 1) := by decide +kernel
theorem dX4_unpick_24 : decode cX4_unpick 24 = .ok (.invokevirtual 91, 3) := by decide +kernel
theorem dX4_unpick_27 : decode cX4_unpick 27 = .ok (.ireturn, 1) := by decide +kernel
theorem dX4_unpick_28 : decode cX4_unpick 28 = .ok (.aload_n 0, 1) := by decide +kernel
theorem dX4_unpick_29 : decode cX4_unpick 29 = .ok (.invokevirtual 84, 3) := by decide +kernel
theorem dX4_unpick_32 : decode cX4_unpick 32 = .ok (.aload_n 0, 1) := by decide +kernel
theorem dX4_unpick_33 : decode cX4_unpick 33 = .ok (.getfield 7, 3) := by decide +kernel
theorem dX4_unpick_36 : decode cX4_unpick 36 = .ok (.aload_n 0, 1) := by decide +kernel
theorem dX4_unpick_37 : decode cX4_unpick 37 = .ok (.iconst 0, 1) := by decide +kernel
theorem dX4_unpick_38 : decode cX4_unpick 38 = .ok (.iload_n 1, 1) := by decide +kernel
theorem dX4_unpick_39 : decode cX4_unpick 39 = .ok (.invokevirtual 94, 3) := by decide +kernel
theorem dX4_unpick_42 : decode cX4_unpick 42 = .ok (.iconst 2, 1) := by decide +kernel
theorem dX4_unpick_43 : decode cX4_unpick 43 = .ok (.iadd, 1) := by decide +kernel
theorem dX4_unpick_44 : decode cX4_unpick 44 = .ok (.iaload, 1) := by decide +kernel
theorem dX4_unpick_45 : decode cX4_unpick 45 = .ok (.istore_n 2, 1) := by decide +kernel
theorem dX4_unpick_46 : decode cX4_unpick 46 = .ok (.aload_n 0, 1) := by decide +kernel
theorem dX4_unpick_47 : decode cX4_unpick 47 = .ok (.getfield 7, 3) := by decide +kernel
theorem dX4_unpick_50 : decode cX4_unpick 50 = .ok (.iconst 1, 1) := by decide +kernel
theorem dX4_unpick_51 : decode cX4_unpick 51 = .ok (.iload_n 1, 1) := by decide +kernel
theorem dX4_unpick_52 : decode cX4_unpick 52 = .ok (.iadd, 1) := by decide +kernel
theorem dX4_unpick_53 : decode cX4_unpick 53 = .ok (.dup2, 1) := by decide +kernel
theorem dX4_unpick_54 : decode cX4_unpick 54 = .ok (.iaload, 1) := by decide +kernel
theorem dX4_unpick_55 : decode cX4_unpick 55 = .ok (.iconst 1, 1) := by decide +kernel
theorem dX4_unpick_56 : decode cX4_unpick 56 = .ok (.isub, 1) := by decide +kernel
theorem dX4_unpick_57 : decode cX4_unpick 57 = .ok (.iastore, 1) := by decide +kernel
theorem dX4_unpick_58 : decode cX4_unpick 58 = .ok (.iload_n 2, 1) := by decide +kernel
theorem dX4_unpick_59 : decode cX4_unpick 59 = .ok (.ireturn, 1) := by decide +kernel
theorem dX4_loses_0 : decode cX4_loses 0 = .ok (.iload_n 0, 1) := by decide +kernel
theorem dX4_loses_1 : decode cX4_loses 1 = .ok (.tableswitch 59 1 4 #[31, 37, 31, 41], 31) := by decide +kernel
theorem dX4_loses_32 : decode cX4_loses 32 = .ok (.iload_n 1, 1) := by decide +kernel
theorem dX4_loses_33 : decode cX4_loses 33 = .ok (.iconst 1, 1) := by decide +kernel
theorem dX4_loses_34 : decode cX4_loses 34 = .ok (.iadd, 1) := by decide +kernel
theorem dX4_loses_35 : decode cX4_loses 35 = .ok (.iconst 2, 1) := by decide +kernel
theorem dX4_loses_36 : decode cX4_loses 36 = .ok (.idiv, 1) := by decide +kernel
theorem dX4_loses_37 : decode cX4_loses 37 = .ok (.ireturn, 1) := by decide +kernel
theorem dX4_loses_38 : decode cX4_loses 38 = .ok (.iload_n 1, 1) := by decide +kernel
theorem dX4_loses_39 : decode cX4_loses 39 = .ok (.iconst 1, 1) := by decide +kernel
theorem dX4_loses_40 : decode cX4_loses 40 = .ok (.iadd, 1) := by decide +kernel
theorem dX4_loses_41 : decode cX4_loses 41 = .ok (.ireturn, 1) := by decide +kernel
theorem dX4_loses_42 : decode cX4_loses 42 = .ok (.iload_n 2, 1) := by decide +kernel
theorem dX4_loses_43 : decode cX4_loses 43 = .ok (.iconst 3, 1) := by decide +kernel
theorem dX4_loses_44 : decode cX4_loses 44 = .ok (.irem, 1) := by decide +kernel
theorem dX4_loses_45 : decode cX4_loses 45 = .ok (.ifCond .ne 9, 3) := by decide +kernel
theorem dX4_loses_48 : decode cX4_loses 48 = .ok (.iload_n 1, 1) := by decide +kernel
theorem dX4_loses_49 : decode cX4_loses 49 = .ok (.iconst 1, 1) := by decide +kernel
theorem dX4_loses_50 : decode cX4_loses 50 = .ok (.iadd, 1) := by decide +kernel
theorem dX4_loses_51 : decode cX4_loses 51 = .ok (.goto 8, 3) := by decide +kernel
theorem dX4_loses_54 : decode cX4_loses 54 = .ok (.iconst 2, 1) := by decide +kernel
theorem dX4_loses_55 : decode cX4_loses 55 = .ok (.iload_n 1, 1) := by decide +kernel
theorem dX4_loses_56 : decode cX4_loses 56 = .ok (.iconst 1, 1) := by decide +kernel
theorem dX4_loses_57 : decode cX4_loses 57 = .ok (.iadd, 1) := by decide +kernel
theorem dX4_loses_58 : decode cX4_loses 58 = .ok (.imul, 1) := by decide +kernel
theorem dX4_loses_59 : decode cX4_loses 59 = .ok (.ireturn, 1) := by decide +kernel
theorem dX4_loses_60 : decode cX4_loses 60 = .ok (.iload_n 1, 1) := by decide +kernel
theorem dX4_loses_61 : decode cX4_loses 61 = .ok (.ireturn, 1) := by decide +kernel
theorem dX4_passes_0 : decode cX4_passes 0 = .ok (.iconst 0, 1) := by decide +kernel
theorem dX4_passes_1 : decode cX4_passes 1 = .ok (.istore_n 3, 1) := by decide +kernel
theorem dX4_passes_2 : decode cX4_passes 2 = .ok (.iload_n 3, 1) := by decide +kernel
theorem dX4_passes_3 : decode cX4_passes 3 = .ok (.bipush 9, 2) := by decide +kernel
theorem dX4_passes_5 : decode cX4_passes 5 = .ok (.if_icmp .ge 97, 3) := by decide +kernel
theorem dX4_passes_8 : decode cX4_passes 8 = .ok (.iload_n 2, 1) := by decide +kernel
theorem dX4_passes_9 : decode cX4_passes 9 = .ok (.ifCond .eq 93, 3) := by decide +kernel
theorem dX4_passes_12 : decode cX4_passes 12 = .ok (.aload_n 0, 1) := by decide +kernel
theorem dX4_passes_13 : decode cX4_passes 13 = .ok (.iload_n 1, 1) := by decide +kernel
theorem dX4_passes_14 : decode cX4_passes 14 = .ok (.iload_n 3, 1) := by decide +kernel
theorem dX4_passes_15 : decode cX4_passes 15 = .ok (.invokevirtual 94, 3) := by decide +kernel
theorem dX4_passes_18 : decode cX4_passes 18 = .ok (.istore 4, 2) := by decide +kernel
theorem dX4_passes_20 : decode cX4_passes 20 = .ok (.iload 4, 2) := by decide +kernel
theorem dX4_passes_22 : decode cX4_passes 22 = .ok (.ifCond .lt 74, 3) := by decide +kernel
theorem dX4_passes_25 : decode cX4_passes 25 = .ok (.aload_n 0, 1) := by decide +kernel
theorem dX4_passes_26 : decode cX4_passes 26 = .ok (.getfield 7, 3) := by decide +kernel
theorem dX4_passes_29 : decode cX4_passes 29 = .ok (.iload 4, 2) := by decide +kernel
theorem dX4_passes_31 : decode cX4_passes 31 = .ok (.iconst 2, 1) := by decide +kernel
theorem dX4_passes_32 : decode cX4_passes 32 = .ok (.iadd, 1) := by decide +kernel
theorem dX4_passes_33 : decode cX4_passes 33 = .ok (.dup2, 1) := by decide +kernel
theorem dX4_passes_34 : decode cX4_passes 34 = .ok (.iaload, 1) := by decide +kernel
theorem dX4_passes_35 : decode cX4_passes 35 = .ok (.aload_n 0, 1) := by decide +kernel
theorem dX4_passes_36 : decode cX4_passes 36 = .ok (.getfield 7, 3) := by decide +kernel
theorem dX4_passes_39 : decode cX4_passes 39 = .ok (.iload 4, 2) := by decide +kernel
theorem dX4_passes_41 : decode cX4_passes 41 = .ok (.iaload, 1) := by decide +kernel
theorem dX4_passes_42 : decode cX4_passes 42 = .ok (.aload_n 0, 1) := by decide +kernel
theorem dX4_passes_43 : decode cX4_passes 43 = .ok (.getfield 7, 3) := by decide +kernel
theorem dX4_passes_46 : decode cX4_passes 46 = .ok (.iload_n 1, 1) := by decide +kernel
theorem dX4_passes_47 : decode cX4_passes 47 = .ok (.bipush 118, 2) := by decide +kernel
theorem dX4_passes_49 : decode cX4_passes 49 = .ok (.iadd, 1) := by decide +kernel
theorem dX4_passes_50 : decode cX4_passes 50 = .ok (.iload_n 3, 1) := by decide +kernel
theorem dX4_passes_51 : decode cX4_passes 51 = .ok (.iadd, 1) := by decide +kernel
theorem dX4_passes_52 : decode cX4_passes 52 = .ok (.iaload, 1) := by decide +kernel
theorem dX4_passes_53 : decode cX4_passes 53 = .ok (.aload_n 0, 1) := by decide +kernel
theorem dX4_passes_54 : decode cX4_passes 54 = .ok (.getfield 7, 3) := by decide +kernel
theorem dX4_passes_57 : decode cX4_passes 57 = .ok (.iload_n 1, 1) := by decide +kernel
theorem dX4_passes_58 : decode cX4_passes 58 = .ok (.iconst 0, 1) := by decide +kernel
theorem dX4_passes_59 : decode cX4_passes 59 = .ok (.iadd, 1) := by decide +kernel
theorem dX4_passes_60 : decode cX4_passes 60 = .ok (.iaload, 1) := by decide +kernel
theorem dX4_passes_61 : decode cX4_passes 61 = .ok (.invokestatic 97, 3) := by decide +kernel
theorem dX4_passes_64 : decode cX4_passes 64 = .ok (.isub, 1) := by decide +kernel
theorem dX4_passes_65 : decode cX4_passes 65 = .ok (.iastore, 1) := by decide +kernel
theorem dX4_passes_66 : decode cX4_passes 66 = .ok (.aload_n 0, 1) := by decide +kernel
theorem dX4_passes_67 : decode cX4_passes 67 = .ok (.getfield 7, 3) := by decide +kernel
theorem dX4_passes_70 : decode cX4_passes 70 = .ok (.iload_n 1, 1) := by decide +kernel
theorem dX4_passes_71 : decode cX4_passes 71 = .ok (.iconst 1, 1) := by decide +kernel
theorem dX4_passes_72 : decode cX4_passes 72 = .ok (.iadd, 1) := by decide +kernel
theorem dX4_passes_73 : decode cX4_passes 73 = .ok (.iload_n 3, 1) := by decide +kernel
theorem dX4_passes_74 : decode cX4_passes 74 = .ok (.iadd, 1) := by decide +kernel
theorem dX4_passes_75 : decode cX4_passes 75 = .ok (.dup2, 1) := by decide +kernel
theorem dX4_passes_76 : decode cX4_passes 76 = .ok (.iaload, 1) := by decide +kernel
theorem dX4_passes_77 : decode cX4_passes 77 = .ok (.aload_n 0, 1) := by decide +kernel
theorem dX4_passes_78 : decode cX4_passes 78 = .ok (.getfield 7, 3) := by decide +kernel
theorem dX4_passes_81 : decode cX4_passes 81 = .ok (.iload 4, 2) := by decide +kernel
theorem dX4_passes_83 : decode cX4_passes 83 = .ok (.iconst 2, 1) := by decide +kernel
theorem dX4_passes_84 : decode cX4_passes 84 = .ok (.iadd, 1) := by decide +kernel
theorem dX4_passes_85 : decode cX4_passes 85 = .ok (.iaload, 1) := by decide +kernel
theorem dX4_passes_86 : decode cX4_passes 86 = .ok (.ifCond .gt 7, 3) := by decide +kernel
theorem dX4_passes_89 : decode cX4_passes 89 = .ok (.iconst 1, 1) := by decide +kernel
theorem dX4_passes_90 : decode cX4_passes 90 = .ok (.goto 4, 3) := by decide +kernel
theorem dX4_passes_93 : decode cX4_passes 93 = .ok (.iconst 0, 1) := by decide +kernel
theorem dX4_passes_94 : decode cX4_passes 94 = .ok (.isub, 1) := by decide +kernel
theorem dX4_passes_95 : decode cX4_passes 95 = .ok (.iastore, 1) := by decide +kernel
theorem dX4_passes_96 : decode cX4_passes 96 = .ok (.iinc 3 1, 3) := by decide +kernel
theorem dX4_passes_99 : decode cX4_passes 99 = .ok (.goto (-97), 3) := by decide +kernel
theorem dX4_passes_102 : decode cX4_passes 102 = .ok (.aload_n 0, 1) := by decide +kernel
theorem dX4_passes_103 : decode cX4_passes 103 = .ok (.getfield 7, 3) := by decide +kernel
theorem dX4_passes_106 : decode cX4_passes 106 = .ok (.iload_n 1, 1) := by decide +kernel
theorem dX4_passes_107 : decode cX4_passes 107 = .ok (.iconst 0, 1) := by decide +kernel
theorem dX4_passes_108 : decode cX4_passes 108 = .ok (.iadd, 1) := by decide +kernel
theorem dX4_passes_109 : decode cX4_passes 109 = .ok (.dup2, 1) := by decide +kernel
theorem dX4_passes_110 : decode cX4_passes 110 = .ok (.iaload, 1) := by decide +kernel
theorem dX4_passes_111 : decode cX4_passes 111 = .ok (.iconst 1, 1) := by decide +kernel
theorem dX4_passes_112 : decode cX4_passes 112 = .ok (.iadd, 1) := by decide +kernel
theorem dX4_passes_113 : decode cX4_passes 113 = .ok (.iastore, 1) := by decide +kernel
theorem dX4_passes_114 : decode cX4_passes 114 = .ok (.return_, 1) := by decide +kernel
theorem dX4_tries_0 : decode cX4_tries 0 = .ok (.aload_n 0, 1) := by decide +kernel
theorem dX4_tries_1 : decode cX4_tries 1 = .ok (.iconst 0, 1) := by decide +kernel
theorem dX4_tries_2 : decode cX4_tries 2 = .ok (.sipush 3273, 3) := by decide +kernel
theorem dX4_tries_5 : decode cX4_tries 5 = .ok (.sipush 147, 3) := by decide +kernel
theorem dX4_tries_8 : decode cX4_tries 8 = .ok (.invokevirtual 73, 3) := by decide +kernel
theorem dX4_tries_11 : decode cX4_tries 11 = .ok (.return_, 1) := by decide +kernel
theorem dX4_years_0 : decode cX4_years 0 = .ok (.iload_n 1, 1) := by decide +kernel
theorem dX4_years_1 : decode cX4_years 1 = .ok (.i2l, 1) := by decide +kernel
theorem dX4_years_2 : decode cX4_years 2 = .ok (.lconst 1, 1) := by decide +kernel
theorem dX4_years_3 : decode cX4_years 3 = .ok (.ldc2_w 101, 3) := by decide +kernel
theorem dX4_years_6 : decode cX4_years 6 = .ok (.invokestatic 45, 3) := by decide +kernel
theorem dX4_years_9 : decode cX4_years 9 = .ok (.ifCond .ne 8, 3) := by decide +kernel
theorem dX4_years_12 : decode cX4_years 12 = .ok (.aload_n 0, 1) := by decide +kernel
theorem dX4_years_13 : decode cX4_years 13 = .ok (.invokevirtual 65, 3) := by decide +kernel
theorem dX4_years_16 : decode cX4_years 16 = .ok (.ireturn, 1) := by decide +kernel
theorem dX4_years_17 : decode cX4_years 17 = .ok (.iconst 0, 1) := by decide +kernel
theorem dX4_years_18 : decode cX4_years 18 = .ok (.istore_n 2, 1) := by decide +kernel
theorem dX4_years_19 : decode cX4_years 19 = .ok (.iload_n 2, 1) := by decide +kernel
theorem dX4_years_20 : decode cX4_years 20 = .ok (.iload_n 1, 1) := by decide +kernel
theorem dX4_years_21 : decode cX4_years 21 = .ok (.if_icmp .ge 19, 3) := by decide +kernel
theorem dX4_years_24 : decode cX4_years 24 = .ok (.aload_n 0, 1) := by decide +kernel
theorem dX4_years_25 : decode cX4_years 25 = .ok (.invokevirtual 84, 3) := by decide +kernel
theorem dX4_years_28 : decode cX4_years 28 = .ok (.aload_n 0, 1) := by decide +kernel
theorem dX4_years_29 : decode cX4_years 29 = .ok (.iconst 0, 1) := by decide +kernel
theorem dX4_years_30 : decode cX4_years 30 = .ok (.iconst 1, 1) := by decide +kernel
theorem dX4_years_31 : decode cX4_years 31 = .ok (.invokevirtual 103, 3) := by decide +kernel
theorem dX4_years_34 : decode cX4_years 34 = .ok (.iinc 2 1, 3) := by decide +kernel
theorem dX4_years_37 : decode cX4_years 37 = .ok (.goto (-18), 3) := by decide +kernel
theorem dX4_years_40 : decode cX4_years 40 = .ok (.aload_n 0, 1) := by decide +kernel
theorem dX4_years_41 : decode cX4_years 41 = .ok (.iconst 0, 1) := by decide +kernel
theorem dX4_years_42 : decode cX4_years 42 = .ok (.invokevirtual 107, 3) := by decide +kernel
theorem dX4_years_45 : decode cX4_years 45 = .ok (.invokestatic 110, 3) := by decide +kernel
theorem dX4_years_48 : decode cX4_years 48 = .ok (.ireturn, 1) := by decide +kernel
theorem dX4_undo_0 : decode cX4_undo 0 = .ok (.aload_n 0, 1) := by decide +kernel
theorem dX4_undo_1 : decode cX4_undo 1 = .ok (.getfield 7, 3) := by decide +kernel
theorem dX4_undo_4 : decode cX4_undo 4 = .ok (.sipush 146, 3) := by decide +kernel
theorem dX4_undo_7 : decode cX4_undo 7 = .ok (.iaload, 1) := by decide +kernel
theorem dX4_undo_8 : decode cX4_undo 8 = .ok (.ifCond .ne 8, 3) := by decide +kernel
theorem dX4_undo_11 : decode cX4_undo 11 = .ok (.aload_n 0, 1) := by decide +kernel
theorem dX4_undo_12 : decode cX4_undo 12 = .ok (.invokevirtual 91, 3) := by decide +kernel
theorem dX4_undo_15 : decode cX4_undo 15 = .ok (.ireturn, 1) := by decide +kernel
theorem dX4_undo_16 : decode cX4_undo 16 = .ok (.aload_n 0, 1) := by decide +kernel
theorem dX4_undo_17 : decode cX4_undo 17 = .ok (.getfield 7, 3) := by decide +kernel
theorem dX4_undo_20 : decode cX4_undo 20 = .ok (.sipush 146, 3) := by decide +kernel
theorem dX4_undo_23 : decode cX4_undo 23 = .ok (.dup2, 1) := by decide +kernel
theorem dX4_undo_24 : decode cX4_undo 24 = .ok (.iaload, 1) := by decide +kernel
theorem dX4_undo_25 : decode cX4_undo 25 = .ok (.iconst 1, 1) := by decide +kernel
theorem dX4_undo_26 : decode cX4_undo 26 = .ok (.isub, 1) := by decide +kernel
theorem dX4_undo_27 : decode cX4_undo 27 = .ok (.iastore, 1) := by decide +kernel
theorem dX4_undo_28 : decode cX4_undo 28 = .ok (.aload_n 0, 1) := by decide +kernel
theorem dX4_undo_29 : decode cX4_undo 29 = .ok (.sipush 147, 3) := by decide +kernel
theorem dX4_undo_32 : decode cX4_undo 32 = .ok (.bipush 118, 2) := by decide +kernel
theorem dX4_undo_34 : decode cX4_undo 34 = .ok (.aload_n 0, 1) := by decide +kernel
theorem dX4_undo_35 : decode cX4_undo 35 = .ok (.getfield 7, 3) := by decide +kernel
theorem dX4_undo_38 : decode cX4_undo 38 = .ok (.sipush 146, 3) := by decide +kernel
theorem dX4_undo_41 : decode cX4_undo 41 = .ok (.iaload, 1) := by decide +kernel
theorem dX4_undo_42 : decode cX4_undo 42 = .ok (.imul, 1) := by decide +kernel
theorem dX4_undo_43 : decode cX4_undo 43 = .ok (.iadd, 1) := by decide +kernel
theorem dX4_undo_44 : decode cX4_undo 44 = .ok (.iconst 0, 1) := by decide +kernel
theorem dX4_undo_45 : decode cX4_undo 45 = .ok (.bipush 118, 2) := by decide +kernel
theorem dX4_undo_47 : decode cX4_undo 47 = .ok (.invokevirtual 73, 3) := by decide +kernel
theorem dX4_undo_50 : decode cX4_undo 50 = .ok (.aload_n 0, 1) := by decide +kernel
theorem dX4_undo_51 : decode cX4_undo 51 = .ok (.iconst 0, 1) := by decide +kernel
theorem dX4_undo_52 : decode cX4_undo 52 = .ok (.invokevirtual 69, 3) := by decide +kernel
theorem dX4_undo_55 : decode cX4_undo 55 = .ok (.ireturn, 1) := by decide +kernel
theorem dX4_type_0 : decode cX4_type 0 = .ok (.iload_n 1, 1) := by decide +kernel
theorem dX4_type_1 : decode cX4_type 1 = .ok (.i2l, 1) := by decide +kernel
theorem dX4_type_2 : decode cX4_type 2 = .ok (.lconst 0, 1) := by decide +kernel
theorem dX4_type_3 : decode cX4_type 3 = .ok (.ldc2_w 113, 3) := by decide +kernel
theorem dX4_type_6 : decode cX4_type 6 = .ok (.invokestatic 45, 3) := by decide +kernel
theorem dX4_type_9 : decode cX4_type 9 = .ok (.ifCond .ne 8, 3) := by decide +kernel
theorem dX4_type_12 : decode cX4_type 12 = .ok (.aload_n 0, 1) := by decide +kernel
theorem dX4_type_13 : decode cX4_type 13 = .ok (.invokevirtual 65, 3) := by decide +kernel
theorem dX4_type_16 : decode cX4_type 16 = .ok (.ireturn, 1) := by decide +kernel
theorem dX4_type_17 : decode cX4_type 17 = .ok (.aload_n 0, 1) := by decide +kernel
theorem dX4_type_18 : decode cX4_type 18 = .ok (.getfield 115, 3) := by decide +kernel
theorem dX4_type_21 : decode cX4_type 21 = .ok (.sipush 150, 3) := by decide +kernel
theorem dX4_type_24 : decode cX4_type 24 = .ok (.if_icmp .ne 8, 3) := by decide +kernel
theorem dX4_type_27 : decode cX4_type 27 = .ok (.aload_n 0, 1) := by decide +kernel
theorem dX4_type_28 : decode cX4_type 28 = .ok (.invokevirtual 81, 3) := by decide +kernel
theorem dX4_type_31 : decode cX4_type 31 = .ok (.ireturn, 1) := by decide +kernel
theorem dX4_type_32 : decode cX4_type 32 = .ok (.aload_n 0, 1) := by decide +kernel
theorem dX4_type_33 : decode cX4_type 33 = .ok (.getfield 17, 3) := by decide +kernel
theorem dX4_type_36 : decode cX4_type 36 = .ok (.aload_n 0, 1) := by decide +kernel
theorem dX4_type_37 : decode cX4_type 37 = .ok (.getfield 115, 3) := by decide +kernel
theorem dX4_type_40 : decode cX4_type 40 = .ok (.iload_n 1, 1) := by decide +kernel
theorem dX4_type_41 : decode cX4_type 41 = .ok (.iastore, 1) := by decide +kernel
theorem dX4_type_42 : decode cX4_type 42 = .ok (.aload_n 0, 1) := by decide +kernel
theorem dX4_type_43 : decode cX4_type 43 = .ok (.dup, 1) := by decide +kernel
theorem dX4_type_44 : decode cX4_type 44 = .ok (.getfield 115, 3) := by decide +kernel
theorem dX4_type_47 : decode cX4_type 47 = .ok (.iconst 1, 1) := by decide +kernel
theorem dX4_type_48 : decode cX4_type 48 = .ok (.iadd, 1) := by decide +kernel
theorem dX4_type_49 : decode cX4_type 49 = .ok (.putfield 115, 3) := by decide +kernel
theorem dX4_type_52 : decode cX4_type 52 = .ok (.aload_n 0, 1) := by decide +kernel
theorem dX4_type_53 : decode cX4_type 53 = .ok (.getfield 115, 3) := by decide +kernel
theorem dX4_type_56 : decode cX4_type 56 = .ok (.ireturn, 1) := by decide +kernel
theorem dX4_clear_0 : decode cX4_clear 0 = .ok (.aload_n 0, 1) := by decide +kernel
theorem dX4_clear_1 : decode cX4_clear 1 = .ok (.getfield 115, 3) := by decide +kernel
theorem dX4_clear_4 : decode cX4_clear 4 = .ok (.istore_n 1, 1) := by decide +kernel
theorem dX4_clear_5 : decode cX4_clear 5 = .ok (.aload_n 0, 1) := by decide +kernel
theorem dX4_clear_6 : decode cX4_clear 6 = .ok (.iconst 0, 1) := by decide +kernel
theorem dX4_clear_7 : decode cX4_clear 7 = .ok (.putfield 115, 3) := by decide +kernel
theorem dX4_clear_10 : decode cX4_clear 10 = .ok (.iload_n 1, 1) := by decide +kernel
theorem dX4_clear_11 : decode cX4_clear 11 = .ok (.ireturn, 1) := by decide +kernel
theorem dX4_byteAt_0 : decode cX4_byteAt 0 = .ok (.iload_n 1, 1) := by decide +kernel
theorem dX4_byteAt_1 : decode cX4_byteAt 1 = .ok (.aload_n 0, 1) := by decide +kernel
theorem dX4_byteAt_2 : decode cX4_byteAt 2 = .ok (.getfield 115, 3) := by decide +kernel
theorem dX4_byteAt_5 : decode cX4_byteAt 5 = .ok (.if_icmp .ge 12, 3) := by decide +kernel
theorem dX4_byteAt_8 : decode cX4_byteAt 8 = .ok (.aload_n 0, 1) := by decide +kernel
theorem dX4_byteAt_9 : decode cX4_byteAt 9 = .ok (.getfield 17, 3) := by decide +kernel
theorem dX4_byteAt_12 : decode cX4_byteAt 12 = .ok (.iload_n 1, 1) := by decide +kernel
theorem dX4_byteAt_13 : decode cX4_byteAt 13 = .ok (.iaload, 1) := by decide +kernel
theorem dX4_byteAt_14 : decode cX4_byteAt 14 = .ok (.goto 4, 3) := by decide +kernel
theorem dX4_byteAt_17 : decode cX4_byteAt 17 = .ok (.iconst (-1), 1) := by decide +kernel
theorem dX4_byteAt_18 : decode cX4_byteAt 18 = .ok (.ireturn, 1) := by decide +kernel
theorem dX4_token_0 : decode cX4_token 0 = .ok (.aload_n 0, 1) := by decide +kernel
theorem dX4_token_1 : decode cX4_token 1 = .ok (.aload_n 0, 1) := by decide +kernel
theorem dX4_token_2 : decode cX4_token 2 = .ok (.getfield 119, 3) := by decide +kernel
theorem dX4_token_5 : decode cX4_token 5 = .ok (.invokevirtual 122, 3) := by decide +kernel
theorem dX4_token_8 : decode cX4_token 8 = .ok (.bipush 32, 2) := by decide +kernel
theorem dX4_token_10 : decode cX4_token 10 = .ok (.if_icmp .ne 16, 3) := by decide +kernel
theorem dX4_token_13 : decode cX4_token 13 = .ok (.aload_n 0, 1) := by decide +kernel
theorem dX4_token_14 : decode cX4_token 14 = .ok (.dup, 1) := by decide +kernel
theorem dX4_token_15 : decode cX4_token 15 = .ok (.getfield 119, 3) := by decide +kernel
theorem dX4_token_18 : decode cX4_token 18 = .ok (.iconst 1, 1) := by decide +kernel
theorem dX4_token_19 : decode cX4_token 19 = .ok (.iadd, 1) := by decide +kernel
theorem dX4_token_20 : decode cX4_token 20 = .ok (.putfield 119, 3) := by decide +kernel
theorem dX4_token_23 : decode cX4_token 23 = .ok (.goto (-23), 3) := by decide +kernel
theorem dX4_token_26 : decode cX4_token 26 = .ok (.aload_n 0, 1) := by decide +kernel
theorem dX4_token_27 : decode cX4_token 27 = .ok (.aload_n 0, 1) := by decide +kernel
theorem dX4_token_28 : decode cX4_token 28 = .ok (.getfield 119, 3) := by decide +kernel
theorem dX4_token_31 : decode cX4_token 31 = .ok (.putfield 125, 3) := by decide +kernel
theorem dX4_token_34 : decode cX4_token 34 = .ok (.aload_n 0, 1) := by decide +kernel
theorem dX4_token_35 : decode cX4_token 35 = .ok (.aload_n 0, 1) := by decide +kernel
theorem dX4_token_36 : decode cX4_token 36 = .ok (.aload_n 0, 1) := by decide +kernel
theorem dX4_token_37 : decode cX4_token 37 = .ok (.getfield 119, 3) := by decide +kernel
theorem dX4_token_40 : decode cX4_token 40 = .ok (.invokevirtual 122, 3) := by decide +kernel
theorem dX4_token_43 : decode cX4_token 43 = .ok (.i2l, 1) := by decide +kernel
theorem dX4_token_44 : decode cX4_token 44 = .ok (.ldc2_w 128, 3) := by decide +kernel
theorem dX4_token_47 : decode cX4_token 47 = .ok (.ldc2_w 130, 3) := by decide +kernel
theorem dX4_token_50 : decode cX4_token 50 = .ok (.invokestatic 45, 3) := by decide +kernel
theorem dX4_token_53 : decode cX4_token 53 = .ok (.putfield 132, 3) := by decide +kernel
theorem dX4_token_56 : decode cX4_token 56 = .ok (.aload_n 0, 1) := by decide +kernel
theorem dX4_token_57 : decode cX4_token 57 = .ok (.aload_n 0, 1) := by decide +kernel
theorem dX4_token_58 : decode cX4_token 58 = .ok (.aload_n 0, 1) := by decide +kernel
theorem dX4_token_59 : decode cX4_token 59 = .ok (.getfield 119, 3) := by decide +kernel
theorem dX4_token_62 : decode cX4_token 62 = .ok (.invokevirtual 122, 3) := by decide +kernel
theorem dX4_token_65 : decode cX4_token 65 = .ok (.i2l, 1) := by decide +kernel
theorem dX4_token_66 : decode cX4_token 66 = .ok (.ldc2_w 136, 3) := by decide +kernel
theorem dX4_token_69 : decode cX4_token 69 = .ok (.ldc2_w 138, 3) := by decide +kernel
theorem dX4_token_72 : decode cX4_token 72 = .ok (.invokestatic 45, 3) := by decide +kernel
theorem dX4_token_75 : decode cX4_token 75 = .ok (.putfield 140, 3) := by decide +kernel
theorem dX4_token_78 : decode cX4_token 78 = .ok (.aload_n 0, 1) := by decide +kernel
theorem dX4_token_79 : decode cX4_token 79 = .ok (.dup, 1) := by decide +kernel
theorem dX4_token_80 : decode cX4_token 80 = .ok (.getfield 119, 3) := by decide +kernel
theorem dX4_token_83 : decode cX4_token 83 = .ok (.aload_n 0, 1) := by decide +kernel
theorem dX4_token_84 : decode cX4_token 84 = .ok (.getfield 119, 3) := by decide +kernel
theorem dX4_token_87 : decode cX4_token 87 = .ok (.aload_n 0, 1) := by decide +kernel
theorem dX4_token_88 : decode cX4_token 88 = .ok (.getfield 115, 3) := by decide +kernel
theorem dX4_token_91 : decode cX4_token 91 = .ok (.if_icmp .ge 7, 3) := by decide +kernel
theorem dX4_token_94 : decode cX4_token 94 = .ok (.iconst 1, 1) := by decide +kernel
theorem dX4_token_95 : decode cX4_token 95 = .ok (.goto 4, 3) := by decide +kernel
theorem dX4_token_98 : decode cX4_token 98 = .ok (.iconst 0, 1) := by decide +kernel
theorem dX4_token_99 : decode cX4_token 99 = .ok (.iadd, 1) := by decide +kernel
theorem dX4_token_100 : decode cX4_token 100 = .ok (.putfield 119, 3) := by decide +kernel
theorem dX4_token_103 : decode cX4_token 103 = .ok (.aload_n 0, 1) := by decide +kernel
theorem dX4_token_104 : decode cX4_token 104 = .ok (.getfield 132, 3) := by decide +kernel
theorem dX4_token_107 : decode cX4_token 107 = .ok (.ifCond .eq 24, 3) := by decide +kernel
theorem dX4_token_110 : decode cX4_token 110 = .ok (.aload_n 0, 1) := by decide +kernel
theorem dX4_token_111 : decode cX4_token 111 = .ok (.aload_n 0, 1) := by decide +kernel
theorem dX4_token_112 : decode cX4_token 112 = .ok (.getfield 119, 3) := by decide +kernel
theorem dX4_token_115 : decode cX4_token 115 = .ok (.invokevirtual 122, 3) := by decide +kernel
theorem dX4_token_118 : decode cX4_token 118 = .ok (.i2l, 1) := by decide +kernel
theorem dX4_token_119 : decode cX4_token 119 = .ok (.ldc2_w 128, 3) := by decide +kernel
theorem dX4_token_122 : decode cX4_token 122 = .ok (.ldc2_w 130, 3) := by decide +kernel
theorem dX4_token_125 : decode cX4_token 125 = .ok (.invokestatic 45, 3) := by decide +kernel
theorem dX4_token_128 : decode cX4_token 128 = .ok (.ifCond .ne 31, 3) := by decide +kernel
theorem dX4_token_131 : decode cX4_token 131 = .ok (.aload_n 0, 1) := by decide +kernel
theorem dX4_token_132 : decode cX4_token 132 = .ok (.getfield 140, 3) := by decide +kernel
theorem dX4_token_135 : decode cX4_token 135 = .ok (.ifCond .eq 37, 3) := by decide +kernel
theorem dX4_token_138 : decode cX4_token 138 = .ok (.aload_n 0, 1) := by decide +kernel
theorem dX4_token_139 : decode cX4_token 139 = .ok (.aload_n 0, 1) := by decide +kernel
theorem dX4_token_140 : decode cX4_token 140 = .ok (.getfield 119, 3) := by decide +kernel
theorem dX4_token_143 : decode cX4_token 143 = .ok (.invokevirtual 122, 3) := by decide +kernel
theorem dX4_token_146 : decode cX4_token 146 = .ok (.i2l, 1) := by decide +kernel
theorem dX4_token_147 : decode cX4_token 147 = .ok (.ldc2_w 136, 3) := by decide +kernel
theorem dX4_token_150 : decode cX4_token 150 = .ok (.ldc2_w 138, 3) := by decide +kernel
theorem dX4_token_153 : decode cX4_token 153 = .ok (.invokestatic 45, 3) := by decide +kernel
theorem dX4_token_156 : decode cX4_token 156 = .ok (.ifCond .eq 16, 3) := by decide +kernel
theorem dX4_token_159 : decode cX4_token 159 = .ok (.aload_n 0, 1) := by decide +kernel
theorem dX4_token_160 : decode cX4_token 160 = .ok (.dup, 1) := by decide +kernel
theorem dX4_token_161 : decode cX4_token 161 = .ok (.getfield 119, 3) := by decide +kernel
theorem dX4_token_164 : decode cX4_token 164 = .ok (.iconst 1, 1) := by decide +kernel
theorem dX4_token_165 : decode cX4_token 165 = .ok (.iadd, 1) := by decide +kernel
theorem dX4_token_166 : decode cX4_token 166 = .ok (.putfield 119, 3) := by decide +kernel
theorem dX4_token_169 : decode cX4_token 169 = .ok (.goto (-66), 3) := by decide +kernel
theorem dX4_token_172 : decode cX4_token 172 = .ok (.return_, 1) := by decide +kernel
theorem dX4_isNamed_0 : decode cX4_isNamed 0 = .ok (.aload_n 0, 1) := by decide +kernel
theorem dX4_isNamed_1 : decode cX4_isNamed 1 = .ok (.getfield 132, 3) := by decide +kernel
theorem dX4_isNamed_4 : decode cX4_isNamed 4 = .ok (.ifCond .eq 75, 3) := by decide +kernel
theorem dX4_isNamed_7 : decode cX4_isNamed 7 = .ok (.aload_n 0, 1) := by decide +kernel
theorem dX4_isNamed_8 : decode cX4_isNamed 8 = .ok (.getfield 119, 3) := by decide +kernel
theorem dX4_isNamed_11 : decode cX4_isNamed 11 = .ok (.aload_n 0, 1) := by decide +kernel
theorem dX4_isNamed_12 : decode cX4_isNamed 12 = .ok (.getfield 125, 3) := by decide +kernel
theorem dX4_isNamed_15 : decode cX4_isNamed 15 = .ok (.isub, 1) := by decide +kernel
theorem dX4_isNamed_16 : decode cX4_isNamed 16 = .ok (.iconst 4, 1) := by decide +kernel
theorem dX4_isNamed_17 : decode cX4_isNamed 17 = .ok (.if_icmp .ne 62, 3) := by decide +kernel
theorem dX4_isNamed_20 : decode cX4_isNamed 20 = .ok (.aload_n 0, 1) := by decide +kernel
theorem dX4_isNamed_21 : decode cX4_isNamed 21 = .ok (.aload_n 0, 1) := by decide +kernel
theorem dX4_isNamed_22 : decode cX4_isNamed 22 = .ok (.getfield 125, 3) := by decide +kernel
theorem dX4_isNamed_25 : decode cX4_isNamed 25 = .ok (.invokevirtual 122, 3) := by decide +kernel
theorem dX4_isNamed_28 : decode cX4_isNamed 28 = .ok (.iload_n 1, 1) := by decide +kernel
theorem dX4_isNamed_29 : decode cX4_isNamed 29 = .ok (.if_icmp .ne 50, 3) := by decide +kernel
theorem dX4_isNamed_32 : decode cX4_isNamed 32 = .ok (.aload_n 0, 1) := by decide +kernel
theorem dX4_isNamed_33 : decode cX4_isNamed 33 = .ok (.aload_n 0, 1) := by decide +kernel
theorem dX4_isNamed_34 : decode cX4_isNamed 34 = .ok (.getfield 125, 3) := by decide +kernel
theorem dX4_isNamed_37 : decode cX4_isNamed 37 = .ok (.iconst 1, 1) := by decide +kernel
theorem dX4_isNamed_38 : decode cX4_isNamed 38 = .ok (.iadd, 1) := by decide +kernel
theorem dX4_isNamed_39 : decode cX4_isNamed 39 = .ok (.invokevirtual 122, 3) := by decide +kernel
theorem dX4_isNamed_42 : decode cX4_isNamed 42 = .ok (.iload_n 2, 1) := by decide +kernel
theorem dX4_isNamed_43 : decode cX4_isNamed 43 = .ok (.if_icmp .ne 36, 3) := by decide +kernel
theorem dX4_isNamed_46 : decode cX4_isNamed 46 = .ok (.aload_n 0, 1) := by decide +kernel
theorem dX4_isNamed_47 : decode cX4_isNamed 47 = .ok (.aload_n 0, 1) := by decide +kernel
theorem dX4_isNamed_48 : decode cX4_isNamed 48 = .ok (.getfield 125, 3) := by decide +kernel
theorem dX4_isNamed_51 : decode cX4_isNamed 51 = .ok (.iconst 2, 1) := by decide +kernel
theorem dX4_isNamed_52 : decode cX4_isNamed 52 = .ok (.iadd, 1) := by decide +kernel
theorem dX4_isNamed_53 : decode cX4_isNamed 53 = .ok (.invokevirtual 122, 3) := by decide +kernel
theorem dX4_isNamed_56 : decode cX4_isNamed 56 = .ok (.iload_n 3, 1) := by decide +kernel
theorem dX4_isNamed_57 : decode cX4_isNamed 57 = .ok (.if_icmp .ne 22, 3) := by decide +kernel
theorem dX4_isNamed_60 : decode cX4_isNamed 60 = .ok (.aload_n 0, 1) := by decide +kernel
theorem dX4_isNamed_61 : decode cX4_isNamed 61 = .ok (.aload_n 0, 1) := by decide +kernel
theorem dX4_isNamed_62 : decode cX4_isNamed 62 = .ok (.getfield 125, 3) := by decide +kernel
theorem dX4_isNamed_65 : decode cX4_isNamed 65 = .ok (.iconst 3, 1) := by decide +kernel
theorem dX4_isNamed_66 : decode cX4_isNamed 66 = .ok (.iadd, 1) := by decide +kernel
theorem dX4_isNamed_67 : decode cX4_isNamed 67 = .ok (.invokevirtual 122, 3) := by decide +kernel
theorem dX4_isNamed_70 : decode cX4_isNamed 70 = .ok (.iload 4, 2) := by decide +kernel
theorem dX4_isNamed_72 : decode cX4_isNamed 72 = .ok (.if_icmp .ne 7, 3) := by decide +kernel
theorem dX4_isNamed_75 : decode cX4_isNamed 75 = .ok (.iconst 1, 1) := by decide +kernel
theorem dX4_isNamed_76 : decode cX4_isNamed 76 = .ok (.goto 4, 3) := by decide +kernel
theorem dX4_isNamed_79 : decode cX4_isNamed 79 = .ok (.iconst 0, 1) := by decide +kernel
theorem dX4_isNamed_80 : decode cX4_isNamed 80 = .ok (.ireturn, 1) := by decide +kernel
theorem dX4_wordNow_0 : decode cX4_wordNow 0 = .ok (.aload_n 0, 1) := by decide +kernel
theorem dX4_wordNow_1 : decode cX4_wordNow 1 = .ok (.bipush 115, 2) := by decide +kernel
theorem dX4_wordNow_3 : decode cX4_wordNow 3 = .ok (.bipush 111, 2) := by decide +kernel
theorem dX4_wordNow_5 : decode cX4_wordNow 5 = .ok (.bipush 99, 2) := by decide +kernel
theorem dX4_wordNow_7 : decode cX4_wordNow 7 = .ok (.bipush 107, 2) := by decide +kernel
theorem dX4_wordNow_9 : decode cX4_wordNow 9 = .ok (.invokevirtual 143, 3) := by decide +kernel
theorem dX4_wordNow_12 : decode cX4_wordNow 12 = .ok (.ifCond .eq 5, 3) := by decide +kernel
theorem dX4_wordNow_15 : decode cX4_wordNow 15 = .ok (.iconst 0, 1) := by decide +kernel
theorem dX4_wordNow_16 : decode cX4_wordNow 16 = .ok (.ireturn, 1) := by decide +kernel
theorem dX4_wordNow_17 : decode cX4_wordNow 17 = .ok (.aload_n 0, 1) := by decide +kernel
theorem dX4_wordNow_18 : decode cX4_wordNow 18 = .ok (.bipush 119, 2) := by decide +kernel
theorem dX4_wordNow_20 : decode cX4_wordNow 20 = .ok (.bipush 101, 2) := by decide +kernel
theorem dX4_wordNow_22 : decode cX4_wordNow 22 = .ok (.bipush 97, 2) := by decide +kernel
theorem dX4_wordNow_24 : decode cX4_wordNow 24 = .ok (.bipush 114, 2) := by decide +kernel
theorem dX4_wordNow_26 : decode cX4_wordNow 26 = .ok (.invokevirtual 143, 3) := by decide +kernel
theorem dX4_wordNow_29 : decode cX4_wordNow 29 = .ok (.ifCond .eq 7, 3) := by decide +kernel
theorem dX4_wordNow_32 : decode cX4_wordNow 32 = .ok (.iconst 1, 1) := by decide +kernel
theorem dX4_wordNow_33 : decode cX4_wordNow 33 = .ok (.goto 23, 3) := by decide +kernel
theorem dX4_wordNow_36 : decode cX4_wordNow 36 = .ok (.aload_n 0, 1) := by decide +kernel
theorem dX4_wordNow_37 : decode cX4_wordNow 37 = .ok (.bipush 100, 2) := by decide +kernel
theorem dX4_wordNow_39 : decode cX4_wordNow 39 = .ok (.bipush 97, 2) := by decide +kernel
theorem dX4_wordNow_41 : decode cX4_wordNow 41 = .ok (.bipush 114, 2) := by decide +kernel
theorem dX4_wordNow_43 : decode cX4_wordNow 43 = .ok (.bipush 110, 2) := by decide +kernel
theorem dX4_wordNow_45 : decode cX4_wordNow 45 = .ok (.invokevirtual 143, 3) := by decide +kernel
theorem dX4_wordNow_48 : decode cX4_wordNow 48 = .ok (.ifCond .eq 7, 3) := by decide +kernel
theorem dX4_wordNow_51 : decode cX4_wordNow 51 = .ok (.iconst 2, 1) := by decide +kernel
theorem dX4_wordNow_52 : decode cX4_wordNow 52 = .ok (.goto 4, 3) := by decide +kernel
theorem dX4_wordNow_55 : decode cX4_wordNow 55 = .ok (.iconst (-1), 1) := by decide +kernel
theorem dX4_wordNow_56 : decode cX4_wordNow 56 = .ok (.ireturn, 1) := by decide +kernel
theorem dX4_takesNumber_0 : decode cX4_takesNumber 0 = .ok (.aload_n 0, 1) := by decide +kernel
theorem dX4_takesNumber_1 : decode cX4_takesNumber 1 = .ok (.invokevirtual 146, 3) := by decide +kernel
theorem dX4_takesNumber_4 : decode cX4_takesNumber 4 = .ok (.aload_n 0, 1) := by decide +kernel
theorem dX4_takesNumber_5 : decode cX4_takesNumber 5 = .ok (.getfield 140, 3) := by decide +kernel
theorem dX4_takesNumber_8 : decode cX4_takesNumber 8 = .ok (.ifCond .eq 16, 3) := by decide +kernel
theorem dX4_takesNumber_11 : decode cX4_takesNumber 11 = .ok (.aload_n 0, 1) := by decide +kernel
theorem dX4_takesNumber_12 : decode cX4_takesNumber 12 = .ok (.getfield 119, 3) := by decide +kernel
theorem dX4_takesNumber_15 : decode cX4_takesNumber 15 = .ok (.aload_n 0, 1) := by decide +kernel
theorem dX4_takesNumber_16 : decode cX4_takesNumber 16 = .ok (.getfield 125, 3) := by decide +kernel
theorem dX4_takesNumber_19 : decode cX4_takesNumber 19 = .ok (.isub, 1) := by decide +kernel
theorem dX4_takesNumber_20 : decode cX4_takesNumber 20 = .ok (.iconst 2, 1) := by decide +kernel
theorem dX4_takesNumber_21 : decode cX4_takesNumber 21 = .ok (.if_icmp .le 5, 3) := by decide +kernel
theorem dX4_takesNumber_24 : decode cX4_takesNumber 24 = .ok (.iconst 0, 1) := by decide +kernel
theorem dX4_takesNumber_25 : decode cX4_takesNumber 25 = .ok (.ireturn, 1) := by decide +kernel
theorem dX4_takesNumber_26 : decode cX4_takesNumber 26 = .ok (.aload_n 0, 1) := by decide +kernel
theorem dX4_takesNumber_27 : decode cX4_takesNumber 27 = .ok (.getfield 27, 3) := by decide +kernel
theorem dX4_takesNumber_30 : decode cX4_takesNumber 30 = .ok (.iload_n 1, 1) := by decide +kernel
theorem dX4_takesNumber_31 : decode cX4_takesNumber 31 = .ok (.iconst 0, 1) := by decide +kernel
theorem dX4_takesNumber_32 : decode cX4_takesNumber 32 = .ok (.iastore, 1) := by decide +kernel
theorem dX4_takesNumber_33 : decode cX4_takesNumber 33 = .ok (.aload_n 0, 1) := by decide +kernel
theorem dX4_takesNumber_34 : decode cX4_takesNumber 34 = .ok (.getfield 125, 3) := by decide +kernel
theorem dX4_takesNumber_37 : decode cX4_takesNumber 37 = .ok (.istore_n 2, 1) := by decide +kernel
theorem dX4_takesNumber_38 : decode cX4_takesNumber 38 = .ok (.iload_n 2, 1) := by decide +kernel
theorem dX4_takesNumber_39 : decode cX4_takesNumber 39 = .ok (.aload_n 0, 1) := by decide +kernel
theorem dX4_takesNumber_40 : decode cX4_takesNumber 40 = .ok (.getfield 119, 3) := by decide +kernel
theorem dX4_takesNumber_43 : decode cX4_takesNumber 43 = .ok (.if_icmp .ge 33, 3) := by decide +kernel
theorem dX4_takesNumber_46 : decode cX4_takesNumber 46 = .ok (.aload_n 0, 1) := by decide +kernel
theorem dX4_takesNumber_47 : decode cX4_takesNumber 47 = .ok (.getfield 27, 3) := by decide +kernel
theorem dX4_takesNumber_50 : decode cX4_takesNumber 50 = .ok (.iload_n 1, 1) := by decide +kernel
theorem dX4_takesNumber_51 : decode cX4_takesNumber 51 = .ok (.bipush 10, 2) := by decide +kernel
theorem dX4_takesNumber_53 : decode cX4_takesNumber 53 = .ok (.aload_n 0, 1) := by decide +kernel
theorem dX4_takesNumber_54 : decode cX4_takesNumber 54 = .ok (.getfield 27, 3) := by decide +kernel
theorem dX4_takesNumber_57 : decode cX4_takesNumber 57 = .ok (.iload_n 1, 1) := by decide +kernel
theorem dX4_takesNumber_58 : decode cX4_takesNumber 58 = .ok (.iaload, 1) := by decide +kernel
theorem dX4_takesNumber_59 : decode cX4_takesNumber 59 = .ok (.imul, 1) := by decide +kernel
theorem dX4_takesNumber_60 : decode cX4_takesNumber 60 = .ok (.aload_n 0, 1) := by decide +kernel
theorem dX4_takesNumber_61 : decode cX4_takesNumber 61 = .ok (.iload_n 2, 1) := by decide +kernel
theorem dX4_takesNumber_62 : decode cX4_takesNumber 62 = .ok (.invokevirtual 122, 3) := by decide +kernel
theorem dX4_takesNumber_65 : decode cX4_takesNumber 65 = .ok (.iadd, 1) := by decide +kernel
theorem dX4_takesNumber_66 : decode cX4_takesNumber 66 = .ok (.bipush 48, 2) := by decide +kernel
theorem dX4_takesNumber_68 : decode cX4_takesNumber 68 = .ok (.isub, 1) := by decide +kernel
theorem dX4_takesNumber_69 : decode cX4_takesNumber 69 = .ok (.iastore, 1) := by decide +kernel
theorem dX4_takesNumber_70 : decode cX4_takesNumber 70 = .ok (.iinc 2 1, 3) := by decide +kernel
theorem dX4_takesNumber_73 : decode cX4_takesNumber 73 = .ok (.goto (-35), 3) := by decide +kernel
theorem dX4_takesNumber_76 : decode cX4_takesNumber 76 = .ok (.iconst 1, 1) := by decide +kernel
theorem dX4_takesNumber_77 : decode cX4_takesNumber 77 = .ok (.ireturn, 1) := by decide +kernel
theorem dX4_tellsItem_0 : decode cX4_tellsItem 0 = .ok (.iload_n 1, 1) := by decide +kernel
theorem dX4_tellsItem_1 : decode cX4_tellsItem 1 = .ok (.ifCond .ne 18, 3) := by decide +kernel
theorem dX4_tellsItem_4 : decode cX4_tellsItem 4 = .ok (.aload_n 0, 1) := by decide +kernel
theorem dX4_tellsItem_5 : decode cX4_tellsItem 5 = .ok (.sipush 3420, 3) := by decide +kernel
theorem dX4_tellsItem_8 : decode cX4_tellsItem 8 = .ok (.aload_n 0, 1) := by decide +kernel
theorem dX4_tellsItem_9 : decode cX4_tellsItem 9 = .ok (.getfield 27, 3) := by decide +kernel
theorem dX4_tellsItem_12 : decode cX4_tellsItem 12 = .ok (.iconst 0, 1) := by decide +kernel
theorem dX4_tellsItem_13 : decode cX4_tellsItem 13 = .ok (.iaload, 1) := by decide +kernel
theorem dX4_tellsItem_14 : decode cX4_tellsItem 14 = .ok (.invokevirtual 39, 3) := by decide +kernel
theorem dX4_tellsItem_17 : decode cX4_tellsItem 17 = .ok (.iconst 1, 1) := by decide +kernel
theorem dX4_tellsItem_18 : decode cX4_tellsItem 18 = .ok (.ireturn, 1) := by decide +kernel
theorem dX4_tellsItem_19 : decode cX4_tellsItem 19 = .ok (.iload_n 1, 1) := by decide +kernel
theorem dX4_tellsItem_20 : decode cX4_tellsItem 20 = .ok (.iconst 1, 1) := by decide +kernel
theorem dX4_tellsItem_21 : decode cX4_tellsItem 21 = .ok (.if_icmp .ne 70, 3) := by decide +kernel
theorem dX4_tellsItem_24 : decode cX4_tellsItem 24 = .ok (.aload_n 0, 1) := by decide +kernel
theorem dX4_tellsItem_25 : decode cX4_tellsItem 25 = .ok (.getfield 27, 3) := by decide +kernel
theorem dX4_tellsItem_28 : decode cX4_tellsItem 28 = .ok (.iconst 0, 1) := by decide +kernel
theorem dX4_tellsItem_29 : decode cX4_tellsItem 29 = .ok (.iaload, 1) := by decide +kernel
theorem dX4_tellsItem_30 : decode cX4_tellsItem 30 = .ok (.invokestatic 49, 3) := by decide +kernel
theorem dX4_tellsItem_33 : decode cX4_tellsItem 33 = .ok (.ifCond .eq 17, 3) := by decide +kernel
theorem dX4_tellsItem_36 : decode cX4_tellsItem 36 = .ok (.aload_n 0, 1) := by decide +kernel
theorem dX4_tellsItem_37 : decode cX4_tellsItem 37 = .ok (.getfield 27, 3) := by decide +kernel
theorem dX4_tellsItem_40 : decode cX4_tellsItem 40 = .ok (.iconst 1, 1) := by decide +kernel
theorem dX4_tellsItem_41 : decode cX4_tellsItem 41 = .ok (.iaload, 1) := by decide +kernel
theorem dX4_tellsItem_42 : decode cX4_tellsItem 42 = .ok (.iconst 5, 1) := by decide +kernel
theorem dX4_tellsItem_43 : decode cX4_tellsItem 43 = .ok (.if_icmp .gt 7, 3) := by decide +kernel
theorem dX4_tellsItem_46 : decode cX4_tellsItem 46 = .ok (.iconst 1, 1) := by decide +kernel
theorem dX4_tellsItem_47 : decode cX4_tellsItem 47 = .ok (.goto 4, 3) := by decide +kernel
theorem dX4_tellsItem_50 : decode cX4_tellsItem 50 = .ok (.iconst 0, 1) := by decide +kernel
theorem dX4_tellsItem_51 : decode cX4_tellsItem 51 = .ok (.istore_n 2, 1) := by decide +kernel
theorem dX4_tellsItem_52 : decode cX4_tellsItem 52 = .ok (.aload_n 0, 1) := by decide +kernel
theorem dX4_tellsItem_53 : decode cX4_tellsItem 53 = .ok (.getfield 7, 3) := by decide +kernel
theorem dX4_tellsItem_56 : decode cX4_tellsItem 56 = .ok (.sipush 3538, 3) := by decide +kernel
theorem dX4_tellsItem_59 : decode cX4_tellsItem 59 = .ok (.iload_n 2, 1) := by decide +kernel
theorem dX4_tellsItem_60 : decode cX4_tellsItem 60 = .ok (.ifCond .eq 12, 3) := by decide +kernel
theorem dX4_tellsItem_63 : decode cX4_tellsItem 63 = .ok (.aload_n 0, 1) := by decide +kernel
theorem dX4_tellsItem_64 : decode cX4_tellsItem 64 = .ok (.getfield 27, 3) := by decide +kernel
theorem dX4_tellsItem_67 : decode cX4_tellsItem 67 = .ok (.iconst 0, 1) := by decide +kernel
theorem dX4_tellsItem_68 : decode cX4_tellsItem 68 = .ok (.iaload, 1) := by decide +kernel
theorem dX4_tellsItem_69 : decode cX4_tellsItem 69 = .ok (.goto 4, 3) := by decide +kernel
theorem dX4_tellsItem_72 : decode cX4_tellsItem 72 = .ok (.iconst 0, 1) := by decide +kernel
theorem dX4_tellsItem_73 : decode cX4_tellsItem 73 = .ok (.iadd, 1) := by decide +kernel
theorem dX4_tellsItem_74 : decode cX4_tellsItem 74 = .ok (.iload_n 2, 1) := by decide +kernel
theorem dX4_tellsItem_75 : decode cX4_tellsItem 75 = .ok (.ifCond .eq 12, 3) := by decide +kernel
theorem dX4_tellsItem_78 : decode cX4_tellsItem 78 = .ok (.aload_n 0, 1) := by decide +kernel
theorem dX4_tellsItem_79 : decode cX4_tellsItem 79 = .ok (.getfield 27, 3) := by decide +kernel
theorem dX4_tellsItem_82 : decode cX4_tellsItem 82 = .ok (.iconst 1, 1) := by decide +kernel
theorem dX4_tellsItem_83 : decode cX4_tellsItem 83 = .ok (.iaload, 1) := by decide +kernel
theorem dX4_tellsItem_84 : decode cX4_tellsItem 84 = .ok (.goto 4, 3) := by decide +kernel
theorem dX4_tellsItem_87 : decode cX4_tellsItem 87 = .ok (.iconst 1, 1) := by decide +kernel
theorem dX4_tellsItem_88 : decode cX4_tellsItem 88 = .ok (.iastore, 1) := by decide +kernel
theorem dX4_tellsItem_89 : decode cX4_tellsItem 89 = .ok (.iload_n 2, 1) := by decide +kernel
theorem dX4_tellsItem_90 : decode cX4_tellsItem 90 = .ok (.ireturn, 1) := by decide +kernel
theorem dX4_tellsItem_91 : decode cX4_tellsItem 91 = .ok (.aload_n 0, 1) := by decide +kernel
theorem dX4_tellsItem_92 : decode cX4_tellsItem 92 = .ok (.getfield 27, 3) := by decide +kernel
theorem dX4_tellsItem_95 : decode cX4_tellsItem 95 = .ok (.iconst 0, 1) := by decide +kernel
theorem dX4_tellsItem_96 : decode cX4_tellsItem 96 = .ok (.iaload, 1) := by decide +kernel
theorem dX4_tellsItem_97 : decode cX4_tellsItem 97 = .ok (.aload_n 0, 1) := by decide +kernel
theorem dX4_tellsItem_98 : decode cX4_tellsItem 98 = .ok (.getfield 27, 3) := by decide +kernel
theorem dX4_tellsItem_101 : decode cX4_tellsItem 101 = .ok (.iconst 1, 1) := by decide +kernel
theorem dX4_tellsItem_102 : decode cX4_tellsItem 102 = .ok (.iaload, 1) := by decide +kernel
theorem dX4_tellsItem_103 : decode cX4_tellsItem 103 = .ok (.aload_n 0, 1) := by decide +kernel
theorem dX4_tellsItem_104 : decode cX4_tellsItem 104 = .ok (.getfield 27, 3) := by decide +kernel
theorem dX4_tellsItem_107 : decode cX4_tellsItem 107 = .ok (.iconst 2, 1) := by decide +kernel
theorem dX4_tellsItem_108 : decode cX4_tellsItem 108 = .ok (.iaload, 1) := by decide +kernel
theorem dX4_tellsItem_109 : decode cX4_tellsItem 109 = .ok (.aload_n 0, 1) := by decide +kernel
theorem dX4_tellsItem_110 : decode cX4_tellsItem 110 = .ok (.getfield 27, 3) := by decide +kernel
theorem dX4_tellsItem_113 : decode cX4_tellsItem 113 = .ok (.iconst 3, 1) := by decide +kernel
theorem dX4_tellsItem_114 : decode cX4_tellsItem 114 = .ok (.iaload, 1) := by decide +kernel
theorem dX4_tellsItem_115 : decode cX4_tellsItem 115 = .ok (.invokestatic 77, 3) := by decide +kernel
theorem dX4_tellsItem_118 : decode cX4_tellsItem 118 = .ok (.ifCond .eq 26, 3) := by decide +kernel
theorem dX4_tellsItem_121 : decode cX4_tellsItem 121 = .ok (.aload_n 0, 1) := by decide +kernel
theorem dX4_tellsItem_122 : decode cX4_tellsItem 122 = .ok (.getfield 7, 3) := by decide +kernel
theorem dX4_tellsItem_125 : decode cX4_tellsItem 125 = .ok (.sipush 3421, 3) := by decide +kernel
theorem dX4_tellsItem_128 : decode cX4_tellsItem 128 = .ok (.aload_n 0, 1) := by decide +kernel
theorem dX4_tellsItem_129 : decode cX4_tellsItem 129 = .ok (.getfield 27, 3) := by decide +kernel
theorem dX4_tellsItem_132 : decode cX4_tellsItem 132 = .ok (.iconst 0, 1) := by decide +kernel
theorem dX4_tellsItem_133 : decode cX4_tellsItem 133 = .ok (.iaload, 1) := by decide +kernel
theorem dX4_tellsItem_134 : decode cX4_tellsItem 134 = .ok (.iadd, 1) := by decide +kernel
theorem dX4_tellsItem_135 : decode cX4_tellsItem 135 = .ok (.iaload, 1) := by decide +kernel
theorem dX4_tellsItem_136 : decode cX4_tellsItem 136 = .ok (.iconst 3, 1) := by decide +kernel
theorem dX4_tellsItem_137 : decode cX4_tellsItem 137 = .ok (.if_icmp .ge 7, 3) := by decide +kernel
theorem dX4_tellsItem_140 : decode cX4_tellsItem 140 = .ok (.iconst 1, 1) := by decide +kernel
theorem dX4_tellsItem_141 : decode cX4_tellsItem 141 = .ok (.goto 4, 3) := by decide +kernel
theorem dX4_tellsItem_144 : decode cX4_tellsItem 144 = .ok (.iconst 0, 1) := by decide +kernel
theorem dX4_tellsItem_145 : decode cX4_tellsItem 145 = .ok (.istore_n 2, 1) := by decide +kernel
theorem dX4_tellsItem_146 : decode cX4_tellsItem 146 = .ok (.iload_n 2, 1) := by decide +kernel
theorem dX4_tellsItem_147 : decode cX4_tellsItem 147 = .ok (.ifCond .eq 34, 3) := by decide +kernel
theorem dX4_tellsItem_150 : decode cX4_tellsItem 150 = .ok (.aload_n 0, 1) := by decide +kernel
theorem dX4_tellsItem_151 : decode cX4_tellsItem 151 = .ok (.sipush 3420, 3) := by decide +kernel
theorem dX4_tellsItem_154 : decode cX4_tellsItem 154 = .ok (.aload_n 0, 1) := by decide +kernel
theorem dX4_tellsItem_155 : decode cX4_tellsItem 155 = .ok (.getfield 27, 3) := by decide +kernel
theorem dX4_tellsItem_158 : decode cX4_tellsItem 158 = .ok (.iconst 0, 1) := by decide +kernel
theorem dX4_tellsItem_159 : decode cX4_tellsItem 159 = .ok (.iaload, 1) := by decide +kernel
theorem dX4_tellsItem_160 : decode cX4_tellsItem 160 = .ok (.aload_n 0, 1) := by decide +kernel
theorem dX4_tellsItem_161 : decode cX4_tellsItem 161 = .ok (.getfield 27, 3) := by decide +kernel
theorem dX4_tellsItem_164 : decode cX4_tellsItem 164 = .ok (.iconst 1, 1) := by decide +kernel
theorem dX4_tellsItem_165 : decode cX4_tellsItem 165 = .ok (.iaload, 1) := by decide +kernel
theorem dX4_tellsItem_166 : decode cX4_tellsItem 166 = .ok (.aload_n 0, 1) := by decide +kernel
theorem dX4_tellsItem_167 : decode cX4_tellsItem 167 = .ok (.getfield 27, 3) := by decide +kernel
theorem dX4_tellsItem_170 : decode cX4_tellsItem 170 = .ok (.iconst 2, 1) := by decide +kernel
theorem dX4_tellsItem_171 : decode cX4_tellsItem 171 = .ok (.iaload, 1) := by decide +kernel
theorem dX4_tellsItem_172 : decode cX4_tellsItem 172 = .ok (.aload_n 0, 1) := by decide +kernel
theorem dX4_tellsItem_173 : decode cX4_tellsItem 173 = .ok (.getfield 27, 3) := by decide +kernel
theorem dX4_tellsItem_176 : decode cX4_tellsItem 176 = .ok (.iconst 3, 1) := by decide +kernel
theorem dX4_tellsItem_177 : decode cX4_tellsItem 177 = .ok (.iaload, 1) := by decide +kernel
theorem dX4_tellsItem_178 : decode cX4_tellsItem 178 = .ok (.invokevirtual 87, 3) := by decide +kernel
theorem dX4_tellsItem_181 : decode cX4_tellsItem 181 = .ok (.iload_n 2, 1) := by decide +kernel
theorem dX4_tellsItem_182 : decode cX4_tellsItem 182 = .ok (.ireturn, 1) := by decide +kernel
theorem dX4_takesItem_0 : decode cX4_takesItem 0 = .ok (.aload_n 0, 1) := by decide +kernel
theorem dX4_takesItem_1 : decode cX4_takesItem 1 = .ok (.invokevirtual 149, 3) := by decide +kernel
theorem dX4_takesItem_4 : decode cX4_takesItem 4 = .ok (.istore_n 2, 1) := by decide +kernel
theorem dX4_takesItem_5 : decode cX4_takesItem 5 = .ok (.iload_n 2, 1) := by decide +kernel
theorem dX4_takesItem_6 : decode cX4_takesItem 6 = .ok (.iconst (-1), 1) := by decide +kernel
theorem dX4_takesItem_7 : decode cX4_takesItem 7 = .ok (.if_icmp .eq 24, 3) := by decide +kernel
theorem dX4_takesItem_10 : decode cX4_takesItem 10 = .ok (.iload_n 2, 1) := by decide +kernel
theorem dX4_takesItem_11 : decode cX4_takesItem 11 = .ok (.ifCond .ne 7, 3) := by decide +kernel
theorem dX4_takesItem_14 : decode cX4_takesItem 14 = .ok (.iconst 1, 1) := by decide +kernel
theorem dX4_takesItem_15 : decode cX4_takesItem 15 = .ok (.goto 4, 3) := by decide +kernel
theorem dX4_takesItem_18 : decode cX4_takesItem 18 = .ok (.iconst 0, 1) := by decide +kernel
theorem dX4_takesItem_19 : decode cX4_takesItem 19 = .ok (.iload_n 1, 1) := by decide +kernel
theorem dX4_takesItem_20 : decode cX4_takesItem 20 = .ok (.ifCond .ne 7, 3) := by decide +kernel
theorem dX4_takesItem_23 : decode cX4_takesItem 23 = .ok (.iconst 1, 1) := by decide +kernel
theorem dX4_takesItem_24 : decode cX4_takesItem 24 = .ok (.goto 4, 3) := by decide +kernel
theorem dX4_takesItem_27 : decode cX4_takesItem 27 = .ok (.iconst 0, 1) := by decide +kernel
theorem dX4_takesItem_28 : decode cX4_takesItem 28 = .ok (.if_icmp .eq 5, 3) := by decide +kernel
theorem dX4_takesItem_31 : decode cX4_takesItem 31 = .ok (.iconst 0, 1) := by decide +kernel
theorem dX4_takesItem_32 : decode cX4_takesItem 32 = .ok (.ireturn, 1) := by decide +kernel
theorem dX4_takesItem_33 : decode cX4_takesItem 33 = .ok (.iload_n 2, 1) := by decide +kernel
theorem dX4_takesItem_34 : decode cX4_takesItem 34 = .ok (.ifCond .ne 7, 3) := by decide +kernel
theorem dX4_takesItem_37 : decode cX4_takesItem 37 = .ok (.iconst 1, 1) := by decide +kernel
theorem dX4_takesItem_38 : decode cX4_takesItem 38 = .ok (.goto 13, 3) := by decide +kernel
theorem dX4_takesItem_41 : decode cX4_takesItem 41 = .ok (.iload_n 2, 1) := by decide +kernel
theorem dX4_takesItem_42 : decode cX4_takesItem 42 = .ok (.iconst 1, 1) := by decide +kernel
theorem dX4_takesItem_43 : decode cX4_takesItem 43 = .ok (.if_icmp .ne 7, 3) := by decide +kernel
theorem dX4_takesItem_46 : decode cX4_takesItem 46 = .ok (.iconst 2, 1) := by decide +kernel
theorem dX4_takesItem_47 : decode cX4_takesItem 47 = .ok (.goto 4, 3) := by decide +kernel
theorem dX4_takesItem_50 : decode cX4_takesItem 50 = .ok (.iconst 4, 1) := by decide +kernel
theorem dX4_takesItem_51 : decode cX4_takesItem 51 = .ok (.istore_n 3, 1) := by decide +kernel
theorem dX4_takesItem_52 : decode cX4_takesItem 52 = .ok (.iconst 0, 1) := by decide +kernel
theorem dX4_takesItem_53 : decode cX4_takesItem 53 = .ok (.istore 4, 2) := by decide +kernel
theorem dX4_takesItem_55 : decode cX4_takesItem 55 = .ok (.iload 4, 2) := by decide +kernel
theorem dX4_takesItem_57 : decode cX4_takesItem 57 = .ok (.iload_n 3, 1) := by decide +kernel
theorem dX4_takesItem_58 : decode cX4_takesItem 58 = .ok (.if_icmp .ge 20, 3) := by decide +kernel
theorem dX4_takesItem_61 : decode cX4_takesItem 61 = .ok (.aload_n 0, 1) := by decide +kernel
theorem dX4_takesItem_62 : decode cX4_takesItem 62 = .ok (.iload 4, 2) := by decide +kernel
theorem dX4_takesItem_64 : decode cX4_takesItem 64 = .ok (.invokevirtual 152, 3) := by decide +kernel
theorem dX4_takesItem_67 : decode cX4_takesItem 67 = .ok (.ifCond .ne 5, 3) := by decide +kernel
theorem dX4_takesItem_70 : decode cX4_takesItem 70 = .ok (.iconst 0, 1) := by decide +kernel
theorem dX4_takesItem_71 : decode cX4_takesItem 71 = .ok (.ireturn, 1) := by decide +kernel
theorem dX4_takesItem_72 : decode cX4_takesItem 72 = .ok (.iinc 4 1, 3) := by decide +kernel
theorem dX4_takesItem_75 : decode cX4_takesItem 75 = .ok (.goto (-20), 3) := by decide +kernel
theorem dX4_takesItem_78 : decode cX4_takesItem 78 = .ok (.aload_n 0, 1) := by decide +kernel
theorem dX4_takesItem_79 : decode cX4_takesItem 79 = .ok (.invokevirtual 146, 3) := by decide +kernel
theorem dX4_takesItem_82 : decode cX4_takesItem 82 = .ok (.aload_n 0, 1) := by decide +kernel
theorem dX4_takesItem_83 : decode cX4_takesItem 83 = .ok (.aload_n 0, 1) := by decide +kernel
theorem dX4_takesItem_84 : decode cX4_takesItem 84 = .ok (.getfield 125, 3) := by decide +kernel
theorem dX4_takesItem_87 : decode cX4_takesItem 87 = .ok (.invokevirtual 122, 3) := by decide +kernel
theorem dX4_takesItem_90 : decode cX4_takesItem 90 = .ok (.bipush 59, 2) := by decide +kernel
theorem dX4_takesItem_92 : decode cX4_takesItem 92 = .ok (.if_icmp .eq 5, 3) := by decide +kernel
theorem dX4_takesItem_95 : decode cX4_takesItem 95 = .ok (.iconst 0, 1) := by decide +kernel
theorem dX4_takesItem_96 : decode cX4_takesItem 96 = .ok (.ireturn, 1) := by decide +kernel
theorem dX4_takesItem_97 : decode cX4_takesItem 97 = .ok (.aload_n 0, 1) := by decide +kernel
theorem dX4_takesItem_98 : decode cX4_takesItem 98 = .ok (.getfield 155, 3) := by decide +kernel
theorem dX4_takesItem_101 : decode cX4_takesItem 101 = .ok (.iconst (-1), 1) := by decide +kernel
theorem dX4_takesItem_102 : decode cX4_takesItem 102 = .ok (.if_icmp .ne 16, 3) := by decide +kernel
theorem dX4_takesItem_105 : decode cX4_takesItem 105 = .ok (.aload_n 0, 1) := by decide +kernel
theorem dX4_takesItem_106 : decode cX4_takesItem 106 = .ok (.iload_n 2, 1) := by decide +kernel
theorem dX4_takesItem_107 : decode cX4_takesItem 107 = .ok (.invokevirtual 158, 3) := by decide +kernel
theorem dX4_takesItem_110 : decode cX4_takesItem 110 = .ok (.ifCond .ne 8, 3) := by decide +kernel
theorem dX4_takesItem_113 : decode cX4_takesItem 113 = .ok (.aload_n 0, 1) := by decide +kernel
theorem dX4_takesItem_114 : decode cX4_takesItem 114 = .ok (.iload_n 1, 1) := by decide +kernel
theorem dX4_takesItem_115 : decode cX4_takesItem 115 = .ok (.putfield 155, 3) := by decide +kernel
theorem dX4_takesItem_118 : decode cX4_takesItem 118 = .ok (.iconst 1, 1) := by decide +kernel
theorem dX4_takesItem_119 : decode cX4_takesItem 119 = .ok (.ireturn, 1) := by decide +kernel
theorem dX4_read_0 : decode cX4_read 0 = .ok (.aload_n 0, 1) := by decide +kernel
theorem dX4_read_1 : decode cX4_read 1 = .ok (.iconst 0, 1) := by decide +kernel
theorem dX4_read_2 : decode cX4_read 2 = .ok (.putfield 119, 3) := by decide +kernel
theorem dX4_read_5 : decode cX4_read 5 = .ok (.iconst 0, 1) := by decide +kernel
theorem dX4_read_6 : decode cX4_read 6 = .ok (.istore_n 1, 1) := by decide +kernel
theorem dX4_read_7 : decode cX4_read 7 = .ok (.aload_n 0, 1) := by decide +kernel
theorem dX4_read_8 : decode cX4_read 8 = .ok (.iconst (-1), 1) := by decide +kernel
theorem dX4_read_9 : decode cX4_read 9 = .ok (.putfield 155, 3) := by decide +kernel
theorem dX4_read_12 : decode cX4_read 12 = .ok (.aload_n 0, 1) := by decide +kernel
theorem dX4_read_13 : decode cX4_read 13 = .ok (.sipush 3420, 3) := by decide +kernel
theorem dX4_read_16 : decode cX4_read 16 = .ok (.iconst 0, 1) := by decide +kernel
theorem dX4_read_17 : decode cX4_read 17 = .ok (.invokevirtual 39, 3) := by decide +kernel
theorem dX4_read_20 : decode cX4_read 20 = .ok (.aload_n 0, 1) := by decide +kernel
theorem dX4_read_21 : decode cX4_read 21 = .ok (.invokevirtual 146, 3) := by decide +kernel
theorem dX4_read_24 : decode cX4_read 24 = .ok (.aload_n 0, 1) := by decide +kernel
theorem dX4_read_25 : decode cX4_read 25 = .ok (.getfield 125, 3) := by decide +kernel
theorem dX4_read_28 : decode cX4_read 28 = .ok (.aload_n 0, 1) := by decide +kernel
theorem dX4_read_29 : decode cX4_read 29 = .ok (.getfield 115, 3) := by decide +kernel
theorem dX4_read_32 : decode cX4_read 32 = .ok (.if_icmp .lt 7, 3) := by decide +kernel
theorem dX4_read_35 : decode cX4_read 35 = .ok (.iload_n 1, 1) := by decide +kernel
theorem dX4_read_36 : decode cX4_read 36 = .ok (.ifCond .ne 29, 3) := by decide +kernel
theorem dX4_read_39 : decode cX4_read 39 = .ok (.aload_n 0, 1) := by decide +kernel
theorem dX4_read_40 : decode cX4_read 40 = .ok (.iload_n 1, 1) := by decide +kernel
theorem dX4_read_41 : decode cX4_read 41 = .ok (.invokevirtual 161, 3) := by decide +kernel
theorem dX4_read_44 : decode cX4_read 44 = .ok (.ifCond .ne 11, 3) := by decide +kernel
theorem dX4_read_47 : decode cX4_read 47 = .ok (.bipush (-10), 2) := by decide +kernel
theorem dX4_read_49 : decode cX4_read 49 = .ok (.aload_n 0, 1) := by decide +kernel
theorem dX4_read_50 : decode cX4_read 50 = .ok (.getfield 125, 3) := by decide +kernel
theorem dX4_read_53 : decode cX4_read 53 = .ok (.isub, 1) := by decide +kernel
theorem dX4_read_54 : decode cX4_read 54 = .ok (.ireturn, 1) := by decide +kernel
theorem dX4_read_55 : decode cX4_read 55 = .ok (.iinc 1 1, 3) := by decide +kernel
theorem dX4_read_58 : decode cX4_read 58 = .ok (.aload_n 0, 1) := by decide +kernel
theorem dX4_read_59 : decode cX4_read 59 = .ok (.invokevirtual 146, 3) := by decide +kernel
theorem dX4_read_62 : decode cX4_read 62 = .ok (.goto (-38), 3) := by decide +kernel
theorem dX4_read_65 : decode cX4_read 65 = .ok (.aload_n 0, 1) := by decide +kernel
theorem dX4_read_66 : decode cX4_read 66 = .ok (.getfield 155, 3) := by decide +kernel
theorem dX4_read_69 : decode cX4_read 69 = .ok (.iconst (-1), 1) := by decide +kernel
theorem dX4_read_70 : decode cX4_read 70 = .ok (.if_icmp .eq 12, 3) := by decide +kernel
theorem dX4_read_73 : decode cX4_read 73 = .ok (.sipush (-1000), 3) := by decide +kernel
theorem dX4_read_76 : decode cX4_read 76 = .ok (.aload_n 0, 1) := by decide +kernel
theorem dX4_read_77 : decode cX4_read 77 = .ok (.getfield 155, 3) := by decide +kernel
theorem dX4_read_80 : decode cX4_read 80 = .ok (.isub, 1) := by decide +kernel
theorem dX4_read_81 : decode cX4_read 81 = .ok (.ireturn, 1) := by decide +kernel
theorem dX4_read_82 : decode cX4_read 82 = .ok (.aload_n 0, 1) := by decide +kernel
theorem dX4_read_83 : decode cX4_read 83 = .ok (.sipush 3420, 3) := by decide +kernel
theorem dX4_read_86 : decode cX4_read 86 = .ok (.iconst 0, 1) := by decide +kernel
theorem dX4_read_87 : decode cX4_read 87 = .ok (.sipush 147, 3) := by decide +kernel
theorem dX4_read_90 : decode cX4_read 90 = .ok (.invokevirtual 73, 3) := by decide +kernel
theorem dX4_read_93 : decode cX4_read 93 = .ok (.iload_n 1, 1) := by decide +kernel
theorem dX4_read_94 : decode cX4_read 94 = .ok (.ireturn, 1) := by decide +kernel
theorem dX4_countsOf_0 : decode cX4_countsOf 0 = .ok (.iconst 0, 1) := by decide +kernel
theorem dX4_countsOf_1 : decode cX4_countsOf 1 = .ok (.istore 4, 2) := by decide +kernel
theorem dX4_countsOf_3 : decode cX4_countsOf 3 = .ok (.iconst 0, 1) := by decide +kernel
theorem dX4_countsOf_4 : decode cX4_countsOf 4 = .ok (.istore 5, 2) := by decide +kernel
theorem dX4_countsOf_6 : decode cX4_countsOf 6 = .ok (.iload 5, 2) := by decide +kernel
theorem dX4_countsOf_8 : decode cX4_countsOf 8 = .ok (.iload_n 3, 1) := by decide +kernel
theorem dX4_countsOf_9 : decode cX4_countsOf 9 = .ok (.if_icmp .gt 145, 3) := by decide +kernel
theorem dX4_countsOf_12 : decode cX4_countsOf 12 = .ok (.iload_n 1, 1) := by decide +kernel
theorem dX4_countsOf_13 : decode cX4_countsOf 13 = .ok (.iload_n 2, 1) := by decide +kernel
theorem dX4_countsOf_14 : decode cX4_countsOf 14 = .ok (.iload 5, 2) := by decide +kernel
theorem dX4_countsOf_16 : decode cX4_countsOf 16 = .ok (.invokestatic 59, 3) := by decide +kernel
theorem dX4_countsOf_19 : decode cX4_countsOf 19 = .ok (.iadd, 1) := by decide +kernel
theorem dX4_countsOf_20 : decode cX4_countsOf 20 = .ok (.istore 6, 2) := by decide +kernel
theorem dX4_countsOf_22 : decode cX4_countsOf 22 = .ok (.aload_n 0, 1) := by decide +kernel
theorem dX4_countsOf_23 : decode cX4_countsOf 23 = .ok (.getfield 7, 3) := by decide +kernel
theorem dX4_countsOf_26 : decode cX4_countsOf 26 = .ok (.iload 6, 2) := by decide +kernel
theorem dX4_countsOf_28 : decode cX4_countsOf 28 = .ok (.iconst 2, 1) := by decide +kernel
theorem dX4_countsOf_29 : decode cX4_countsOf 29 = .ok (.iadd, 1) := by decide +kernel
theorem dX4_countsOf_30 : decode cX4_countsOf 30 = .ok (.iaload, 1) := by decide +kernel
theorem dX4_countsOf_31 : decode cX4_countsOf 31 = .ok (.istore 7, 2) := by decide +kernel
theorem dX4_countsOf_33 : decode cX4_countsOf 33 = .ok (.aload_n 0, 1) := by decide +kernel
theorem dX4_countsOf_34 : decode cX4_countsOf 34 = .ok (.getfield 7, 3) := by decide +kernel
theorem dX4_countsOf_37 : decode cX4_countsOf 37 = .ok (.iload 6, 2) := by decide +kernel
theorem dX4_countsOf_39 : decode cX4_countsOf 39 = .ok (.iaload, 1) := by decide +kernel
theorem dX4_countsOf_40 : decode cX4_countsOf 40 = .ok (.tableswitch 104 1 5 #[36, 45, 54, 45, 92], 36) := by decide +kernel
theorem dX4_countsOf_76 : decode cX4_countsOf 76 = .ok (.iconst 2, 1) := by decide +kernel
theorem dX4_countsOf_77 : decode cX4_countsOf 77 = .ok (.iload 7, 2) := by decide +kernel
theorem dX4_countsOf_79 : decode cX4_countsOf 79 = .ok (.imul, 1) := by decide +kernel
theorem dX4_countsOf_80 : decode cX4_countsOf 80 = .ok (.istore 4, 2) := by decide +kernel
theorem dX4_countsOf_82 : decode cX4_countsOf 82 = .ok (.goto 66, 3) := by decide +kernel
theorem dX4_countsOf_85 : decode cX4_countsOf 85 = .ok (.iload 7, 2) := by decide +kernel
theorem dX4_countsOf_87 : decode cX4_countsOf 87 = .ok (.iconst 2, 1) := by decide +kernel
theorem dX4_countsOf_88 : decode cX4_countsOf 88 = .ok (.idiv, 1) := by decide +kernel
theorem dX4_countsOf_89 : decode cX4_countsOf 89 = .ok (.istore 4, 2) := by decide +kernel
theorem dX4_countsOf_91 : decode cX4_countsOf 91 = .ok (.goto 57, 3) := by decide +kernel
theorem dX4_countsOf_94 : decode cX4_countsOf 94 = .ok (.iconst 2, 1) := by decide +kernel
theorem dX4_countsOf_95 : decode cX4_countsOf 95 = .ok (.iload 7, 2) := by decide +kernel
theorem dX4_countsOf_97 : decode cX4_countsOf 97 = .ok (.imul, 1) := by decide +kernel
theorem dX4_countsOf_98 : decode cX4_countsOf 98 = .ok (.aload_n 0, 1) := by decide +kernel
theorem dX4_countsOf_99 : decode cX4_countsOf 99 = .ok (.getfield 7, 3) := by decide +kernel
theorem dX4_countsOf_102 : decode cX4_countsOf 102 = .ok (.iload_n 1, 1) := by decide +kernel
theorem dX4_countsOf_103 : decode cX4_countsOf 103 = .ok (.iconst 0, 1) := by decide +kernel
theorem dX4_countsOf_104 : decode cX4_countsOf 104 = .ok (.iadd, 1) := by decide +kernel
theorem dX4_countsOf_105 : decode cX4_countsOf 105 = .ok (.iaload, 1) := by decide +kernel
theorem dX4_countsOf_106 : decode cX4_countsOf 106 = .ok (.aload_n 0, 1) := by decide +kernel
theorem dX4_countsOf_107 : decode cX4_countsOf 107 = .ok (.getfield 7, 3) := by decide +kernel
theorem dX4_countsOf_110 : decode cX4_countsOf 110 = .ok (.iload 6, 2) := by decide +kernel
theorem dX4_countsOf_112 : decode cX4_countsOf 112 = .ok (.iconst 3, 1) := by decide +kernel
theorem dX4_countsOf_113 : decode cX4_countsOf 113 = .ok (.iadd, 1) := by decide +kernel
theorem dX4_countsOf_114 : decode cX4_countsOf 114 = .ok (.iaload, 1) := by decide +kernel
theorem dX4_countsOf_115 : decode cX4_countsOf 115 = .ok (.isub, 1) := by decide +kernel
theorem dX4_countsOf_116 : decode cX4_countsOf 116 = .ok (.bipush 10, 2) := by decide +kernel
theorem dX4_countsOf_118 : decode cX4_countsOf 118 = .ok (.if_icmp .lt 7, 3) := by decide +kernel
theorem dX4_countsOf_121 : decode cX4_countsOf 121 = .ok (.iconst 3, 1) := by decide +kernel
theorem dX4_countsOf_122 : decode cX4_countsOf 122 = .ok (.goto 4, 3) := by decide +kernel
theorem dX4_countsOf_125 : decode cX4_countsOf 125 = .ok (.iconst 0, 1) := by decide +kernel
theorem dX4_countsOf_126 : decode cX4_countsOf 126 = .ok (.iadd, 1) := by decide +kernel
theorem dX4_countsOf_127 : decode cX4_countsOf 127 = .ok (.istore 4, 2) := by decide +kernel
theorem dX4_countsOf_129 : decode cX4_countsOf 129 = .ok (.goto 19, 3) := by decide +kernel
theorem dX4_countsOf_132 : decode cX4_countsOf 132 = .ok (.iload 7, 2) := by decide +kernel
theorem dX4_countsOf_134 : decode cX4_countsOf 134 = .ok (.iload 4, 2) := by decide +kernel
theorem dX4_countsOf_136 : decode cX4_countsOf 136 = .ok (.iconst 2, 1) := by decide +kernel
theorem dX4_countsOf_137 : decode cX4_countsOf 137 = .ok (.idiv, 1) := by decide +kernel
theorem dX4_countsOf_138 : decode cX4_countsOf 138 = .ok (.iadd, 1) := by decide +kernel
theorem dX4_countsOf_139 : decode cX4_countsOf 139 = .ok (.istore 4, 2) := by decide +kernel
theorem dX4_countsOf_141 : decode cX4_countsOf 141 = .ok (.goto 7, 3) := by decide +kernel
theorem dX4_countsOf_144 : decode cX4_countsOf 144 = .ok (.iload 7, 2) := by decide +kernel
theorem dX4_countsOf_146 : decode cX4_countsOf 146 = .ok (.istore 4, 2) := by decide +kernel
theorem dX4_countsOf_148 : decode cX4_countsOf 148 = .ok (.iinc 5 1, 3) := by decide +kernel
theorem dX4_countsOf_151 : decode cX4_countsOf 151 = .ok (.goto (-145), 3) := by decide +kernel
theorem dX4_countsOf_154 : decode cX4_countsOf 154 = .ok (.iload 4, 2) := by decide +kernel
theorem dX4_countsOf_156 : decode cX4_countsOf 156 = .ok (.ireturn, 1) := by decide +kernel
theorem dX4_of_0 : decode cX4_of 0 = .ok (.iload_n 1, 1) := by decide +kernel
theorem dX4_of_1 : decode cX4_of 1 = .ok (.invokestatic 49, 3) := by decide +kernel
theorem dX4_of_4 : decode cX4_of 4 = .ok (.ifCond .eq 27, 3) := by decide +kernel
theorem dX4_of_7 : decode cX4_of 7 = .ok (.iload_n 2, 1) := by decide +kernel
theorem dX4_of_8 : decode cX4_of 8 = .ok (.i2l, 1) := by decide +kernel
theorem dX4_of_9 : decode cX4_of 9 = .ok (.lconst 0, 1) := by decide +kernel
theorem dX4_of_10 : decode cX4_of 10 = .ok (.ldc2_w 55, 3) := by decide +kernel
theorem dX4_of_13 : decode cX4_of 13 = .ok (.invokestatic 45, 3) := by decide +kernel
theorem dX4_of_16 : decode cX4_of 16 = .ok (.ifCond .eq 15, 3) := by decide +kernel
theorem dX4_of_19 : decode cX4_of 19 = .ok (.iload_n 3, 1) := by decide +kernel
theorem dX4_of_20 : decode cX4_of 20 = .ok (.i2l, 1) := by decide +kernel
theorem dX4_of_21 : decode cX4_of 21 = .ok (.lconst 0, 1) := by decide +kernel
theorem dX4_of_22 : decode cX4_of 22 = .ok (.ldc2_w 53, 3) := by decide +kernel
theorem dX4_of_25 : decode cX4_of 25 = .ok (.invokestatic 45, 3) := by decide +kernel
theorem dX4_of_28 : decode cX4_of 28 = .ok (.ifCond .ne 8, 3) := by decide +kernel
theorem dX4_of_31 : decode cX4_of 31 = .ok (.aload_n 0, 1) := by decide +kernel
theorem dX4_of_32 : decode cX4_of 32 = .ok (.invokevirtual 65, 3) := by decide +kernel
theorem dX4_of_35 : decode cX4_of 35 = .ok (.ireturn, 1) := by decide +kernel
theorem dX4_of_36 : decode cX4_of 36 = .ok (.iload_n 2, 1) := by decide +kernel
theorem dX4_of_37 : decode cX4_of 37 = .ok (.aload_n 0, 1) := by decide +kernel
theorem dX4_of_38 : decode cX4_of 38 = .ok (.getfield 7, 3) := by decide +kernel
theorem dX4_of_41 : decode cX4_of 41 = .ok (.iconst 1, 1) := by decide +kernel
theorem dX4_of_42 : decode cX4_of 42 = .ok (.iload_n 1, 1) := by decide +kernel
theorem dX4_of_43 : decode cX4_of 43 = .ok (.iadd, 1) := by decide +kernel
theorem dX4_of_44 : decode cX4_of 44 = .ok (.iaload, 1) := by decide +kernel
theorem dX4_of_45 : decode cX4_of 45 = .ok (.if_icmp .lt 5, 3) := by decide +kernel
theorem dX4_of_48 : decode cX4_of 48 = .ok (.iconst (-1), 1) := by decide +kernel
theorem dX4_of_49 : decode cX4_of 49 = .ok (.ireturn, 1) := by decide +kernel
theorem dX4_of_50 : decode cX4_of 50 = .ok (.iload_n 1, 1) := by decide +kernel
theorem dX4_of_51 : decode cX4_of 51 = .ok (.iload_n 2, 1) := by decide +kernel
theorem dX4_of_52 : decode cX4_of 52 = .ok (.invokestatic 59, 3) := by decide +kernel
theorem dX4_of_55 : decode cX4_of 55 = .ok (.istore 4, 2) := by decide +kernel
theorem dX4_of_57 : decode cX4_of 57 = .ok (.iload_n 3, 1) := by decide +kernel
theorem dX4_of_58 : decode cX4_of 58 = .ok (.iconst 4, 1) := by decide +kernel
theorem dX4_of_59 : decode cX4_of 59 = .ok (.if_icmp .ge 15, 3) := by decide +kernel
theorem dX4_of_62 : decode cX4_of 62 = .ok (.aload_n 0, 1) := by decide +kernel
theorem dX4_of_63 : decode cX4_of 63 = .ok (.getfield 7, 3) := by decide +kernel
theorem dX4_of_66 : decode cX4_of 66 = .ok (.iload 4, 2) := by decide +kernel
theorem dX4_of_68 : decode cX4_of 68 = .ok (.iload_n 3, 1) := by decide +kernel
theorem dX4_of_69 : decode cX4_of 69 = .ok (.iadd, 1) := by decide +kernel
theorem dX4_of_70 : decode cX4_of 70 = .ok (.iaload, 1) := by decide +kernel
theorem dX4_of_71 : decode cX4_of 71 = .ok (.goto 43, 3) := by decide +kernel
theorem dX4_of_74 : decode cX4_of 74 = .ok (.iload_n 3, 1) := by decide +kernel
theorem dX4_of_75 : decode cX4_of 75 = .ok (.iconst 4, 1) := by decide +kernel
theorem dX4_of_76 : decode cX4_of 76 = .ok (.if_icmp .ne 13, 3) := by decide +kernel
theorem dX4_of_79 : decode cX4_of 79 = .ok (.aload_n 0, 1) := by decide +kernel
theorem dX4_of_80 : decode cX4_of 80 = .ok (.iconst 0, 1) := by decide +kernel
theorem dX4_of_81 : decode cX4_of 81 = .ok (.iload_n 1, 1) := by decide +kernel
theorem dX4_of_82 : decode cX4_of 82 = .ok (.iload_n 2, 1) := by decide +kernel
theorem dX4_of_83 : decode cX4_of 83 = .ok (.invokevirtual 164, 3) := by decide +kernel
theorem dX4_of_86 : decode cX4_of 86 = .ok (.goto 28, 3) := by decide +kernel
theorem dX4_of_89 : decode cX4_of 89 = .ok (.aload_n 0, 1) := by decide +kernel
theorem dX4_of_90 : decode cX4_of 90 = .ok (.getfield 7, 3) := by decide +kernel
theorem dX4_of_93 : decode cX4_of 93 = .ok (.iload 4, 2) := by decide +kernel
theorem dX4_of_95 : decode cX4_of 95 = .ok (.iaload, 1) := by decide +kernel
theorem dX4_of_96 : decode cX4_of 96 = .ok (.aload_n 0, 1) := by decide +kernel
theorem dX4_of_97 : decode cX4_of 97 = .ok (.getfield 7, 3) := by decide +kernel
theorem dX4_of_100 : decode cX4_of 100 = .ok (.bipush 118, 2) := by decide +kernel
theorem dX4_of_102 : decode cX4_of 102 = .ok (.iload_n 1, 1) := by decide +kernel
theorem dX4_of_103 : decode cX4_of 103 = .ok (.iadd, 1) := by decide +kernel
theorem dX4_of_104 : decode cX4_of 104 = .ok (.iaload, 1) := by decide +kernel
theorem dX4_of_105 : decode cX4_of 105 = .ok (.aload_n 0, 1) := by decide +kernel
theorem dX4_of_106 : decode cX4_of 106 = .ok (.getfield 7, 3) := by decide +kernel
theorem dX4_of_109 : decode cX4_of 109 = .ok (.iconst 0, 1) := by decide +kernel
theorem dX4_of_110 : decode cX4_of 110 = .ok (.iaload, 1) := by decide +kernel
theorem dX4_of_111 : decode cX4_of 111 = .ok (.invokestatic 97, 3) := by decide +kernel
theorem dX4_of_114 : decode cX4_of 114 = .ok (.ireturn, 1) := by decide +kernel
theorem dX4_cell_0 : decode cX4_cell 0 = .ok (.iload_n 1, 1) := by decide +kernel
theorem dX4_cell_1 : decode cX4_cell 1 = .ok (.invokestatic 49, 3) := by decide +kernel
theorem dX4_cell_4 : decode cX4_cell 4 = .ok (.ifCond .eq 13, 3) := by decide +kernel
theorem dX4_cell_7 : decode cX4_cell 7 = .ok (.iload_n 2, 1) := by decide +kernel
theorem dX4_cell_8 : decode cX4_cell 8 = .ok (.i2l, 1) := by decide +kernel
theorem dX4_cell_9 : decode cX4_cell 9 = .ok (.lconst 0, 1) := by decide +kernel
theorem dX4_cell_10 : decode cX4_cell 10 = .ok (.lconst 1, 1) := by decide +kernel
theorem dX4_cell_11 : decode cX4_cell 11 = .ok (.invokestatic 45, 3) := by decide +kernel
theorem dX4_cell_14 : decode cX4_cell 14 = .ok (.ifCond .ne 8, 3) := by decide +kernel
theorem dX4_cell_17 : decode cX4_cell 17 = .ok (.aload_n 0, 1) := by decide +kernel
theorem dX4_cell_18 : decode cX4_cell 18 = .ok (.invokevirtual 65, 3) := by decide +kernel
theorem dX4_cell_21 : decode cX4_cell 21 = .ok (.ireturn, 1) := by decide +kernel
theorem dX4_cell_22 : decode cX4_cell 22 = .ok (.iload_n 2, 1) := by decide +kernel
theorem dX4_cell_23 : decode cX4_cell 23 = .ok (.ifCond .ne 15, 3) := by decide +kernel
theorem dX4_cell_26 : decode cX4_cell 26 = .ok (.aload_n 0, 1) := by decide +kernel
theorem dX4_cell_27 : decode cX4_cell 27 = .ok (.getfield 7, 3) := by decide +kernel
theorem dX4_cell_30 : decode cX4_cell 30 = .ok (.bipush 118, 2) := by decide +kernel
theorem dX4_cell_32 : decode cX4_cell 32 = .ok (.iload_n 1, 1) := by decide +kernel
theorem dX4_cell_33 : decode cX4_cell 33 = .ok (.iadd, 1) := by decide +kernel
theorem dX4_cell_34 : decode cX4_cell 34 = .ok (.iaload, 1) := by decide +kernel
theorem dX4_cell_35 : decode cX4_cell 35 = .ok (.goto 11, 3) := by decide +kernel
theorem dX4_cell_38 : decode cX4_cell 38 = .ok (.aload_n 0, 1) := by decide +kernel
theorem dX4_cell_39 : decode cX4_cell 39 = .ok (.getfield 7, 3) := by decide +kernel
theorem dX4_cell_42 : decode cX4_cell 42 = .ok (.iconst 1, 1) := by decide +kernel
theorem dX4_cell_43 : decode cX4_cell 43 = .ok (.iload_n 1, 1) := by decide +kernel
theorem dX4_cell_44 : decode cX4_cell 44 = .ok (.iadd, 1) := by decide +kernel
theorem dX4_cell_45 : decode cX4_cell 45 = .ok (.iaload, 1) := by decide +kernel
theorem dX4_cell_46 : decode cX4_cell 46 = .ok (.ireturn, 1) := by decide +kernel
theorem dX4_familyAt_0 : decode cX4_familyAt 0 = .ok (.aload_n 0, 1) := by decide +kernel
theorem dX4_familyAt_1 : decode cX4_familyAt 1 = .ok (.iload_n 1, 1) := by decide +kernel
theorem dX4_familyAt_2 : decode cX4_familyAt 2 = .ok (.iload_n 2, 1) := by decide +kernel
theorem dX4_familyAt_3 : decode cX4_familyAt 3 = .ok (.invokevirtual 94, 3) := by decide +kernel
theorem dX4_familyAt_6 : decode cX4_familyAt 6 = .ok (.istore_n 3, 1) := by decide +kernel
theorem dX4_familyAt_7 : decode cX4_familyAt 7 = .ok (.iload_n 3, 1) := by decide +kernel
theorem dX4_familyAt_8 : decode cX4_familyAt 8 = .ok (.ifCond .ge 7, 3) := by decide +kernel
theorem dX4_familyAt_11 : decode cX4_familyAt 11 = .ok (.iconst (-1), 1) := by decide +kernel
theorem dX4_familyAt_12 : decode cX4_familyAt 12 = .ok (.goto 11, 3) := by decide +kernel
theorem dX4_familyAt_15 : decode cX4_familyAt 15 = .ok (.aload_n 0, 1) := by decide +kernel
theorem dX4_familyAt_16 : decode cX4_familyAt 16 = .ok (.getfield 7, 3) := by decide +kernel
theorem dX4_familyAt_19 : decode cX4_familyAt 19 = .ok (.iload_n 3, 1) := by decide +kernel
theorem dX4_familyAt_20 : decode cX4_familyAt 20 = .ok (.iconst 1, 1) := by decide +kernel
theorem dX4_familyAt_21 : decode cX4_familyAt 21 = .ok (.iadd, 1) := by decide +kernel
theorem dX4_familyAt_22 : decode cX4_familyAt 22 = .ok (.iaload, 1) := by decide +kernel
theorem dX4_familyAt_23 : decode cX4_familyAt 23 = .ok (.ireturn, 1) := by decide +kernel
theorem dX4_linesOf_0 : decode cX4_linesOf 0 = .ok (.iconst 0, 1) := by decide +kernel
theorem dX4_linesOf_1 : decode cX4_linesOf 1 = .ok (.istore_n 3, 1) := by decide +kernel
theorem dX4_linesOf_2 : decode cX4_linesOf 2 = .ok (.iconst 0, 1) := by decide +kernel
theorem dX4_linesOf_3 : decode cX4_linesOf 3 = .ok (.istore 4, 2) := by decide +kernel
theorem dX4_linesOf_5 : decode cX4_linesOf 5 = .ok (.iload 4, 2) := by decide +kernel
theorem dX4_linesOf_7 : decode cX4_linesOf 7 = .ok (.bipush 9, 2) := by decide +kernel
theorem dX4_linesOf_9 : decode cX4_linesOf 9 = .ok (.if_icmp .ge 31, 3) := by decide +kernel
theorem dX4_linesOf_12 : decode cX4_linesOf 12 = .ok (.iload_n 3, 1) := by decide +kernel
theorem dX4_linesOf_13 : decode cX4_linesOf 13 = .ok (.aload_n 0, 1) := by decide +kernel
theorem dX4_linesOf_14 : decode cX4_linesOf 14 = .ok (.iload_n 1, 1) := by decide +kernel
theorem dX4_linesOf_15 : decode cX4_linesOf 15 = .ok (.iload 4, 2) := by decide +kernel
theorem dX4_linesOf_17 : decode cX4_linesOf 17 = .ok (.invokevirtual 167, 3) := by decide +kernel
theorem dX4_linesOf_20 : decode cX4_linesOf 20 = .ok (.iload_n 2, 1) := by decide +kernel
theorem dX4_linesOf_21 : decode cX4_linesOf 21 = .ok (.if_icmp .ne 10, 3) := by decide +kernel
theorem dX4_linesOf_24 : decode cX4_linesOf 24 = .ok (.iconst 1, 1) := by decide +kernel
theorem dX4_linesOf_25 : decode cX4_linesOf 25 = .ok (.iload 4, 2) := by decide +kernel
theorem dX4_linesOf_27 : decode cX4_linesOf 27 = .ok (.ishl, 1) := by decide +kernel
theorem dX4_linesOf_28 : decode cX4_linesOf 28 = .ok (.goto 4, 3) := by decide +kernel
theorem dX4_linesOf_31 : decode cX4_linesOf 31 = .ok (.iconst 0, 1) := by decide +kernel
theorem dX4_linesOf_32 : decode cX4_linesOf 32 = .ok (.ior, 1) := by decide +kernel
theorem dX4_linesOf_33 : decode cX4_linesOf 33 = .ok (.istore_n 3, 1) := by decide +kernel
theorem dX4_linesOf_34 : decode cX4_linesOf 34 = .ok (.iinc 4 1, 3) := by decide +kernel
theorem dX4_linesOf_37 : decode cX4_linesOf 37 = .ok (.goto (-32), 3) := by decide +kernel
theorem dX4_linesOf_40 : decode cX4_linesOf 40 = .ok (.iconst 0, 1) := by decide +kernel
theorem dX4_linesOf_41 : decode cX4_linesOf 41 = .ok (.istore 4, 2) := by decide +kernel
theorem dX4_linesOf_43 : decode cX4_linesOf 43 = .ok (.iconst 0, 1) := by decide +kernel
theorem dX4_linesOf_44 : decode cX4_linesOf 44 = .ok (.istore 5, 2) := by decide +kernel
theorem dX4_linesOf_46 : decode cX4_linesOf 46 = .ok (.iload 5, 2) := by decide +kernel
theorem dX4_linesOf_48 : decode cX4_linesOf 48 = .ok (.iconst 3, 1) := by decide +kernel
theorem dX4_linesOf_49 : decode cX4_linesOf 49 = .ok (.if_icmp .ge 55, 3) := by decide +kernel
theorem dX4_linesOf_52 : decode cX4_linesOf 52 = .ok (.iload 4, 2) := by decide +kernel
theorem dX4_linesOf_54 : decode cX4_linesOf 54 = .ok (.iload_n 3, 1) := by decide +kernel
theorem dX4_linesOf_55 : decode cX4_linesOf 55 = .ok (.iconst 3, 1) := by decide +kernel
theorem dX4_linesOf_56 : decode cX4_linesOf 56 = .ok (.iload 5, 2) := by decide +kernel
theorem dX4_linesOf_58 : decode cX4_linesOf 58 = .ok (.imul, 1) := by decide +kernel
theorem dX4_linesOf_59 : decode cX4_linesOf 59 = .ok (.ishr, 1) := by decide +kernel
theorem dX4_linesOf_60 : decode cX4_linesOf 60 = .ok (.bipush 7, 2) := by decide +kernel
theorem dX4_linesOf_62 : decode cX4_linesOf 62 = .ok (.iand, 1) := by decide +kernel
theorem dX4_linesOf_63 : decode cX4_linesOf 63 = .ok (.bipush 7, 2) := by decide +kernel
theorem dX4_linesOf_65 : decode cX4_linesOf 65 = .ok (.if_icmp .ne 7, 3) := by decide +kernel
theorem dX4_linesOf_68 : decode cX4_linesOf 68 = .ok (.iconst 1, 1) := by decide +kernel
theorem dX4_linesOf_69 : decode cX4_linesOf 69 = .ok (.goto 4, 3) := by decide +kernel
theorem dX4_linesOf_72 : decode cX4_linesOf 72 = .ok (.iconst 0, 1) := by decide +kernel
theorem dX4_linesOf_73 : decode cX4_linesOf 73 = .ok (.iadd, 1) := by decide +kernel
theorem dX4_linesOf_74 : decode cX4_linesOf 74 = .ok (.istore 4, 2) := by decide +kernel
theorem dX4_linesOf_76 : decode cX4_linesOf 76 = .ok (.iload 4, 2) := by decide +kernel
theorem dX4_linesOf_78 : decode cX4_linesOf 78 = .ok (.iload_n 3, 1) := by decide +kernel
theorem dX4_linesOf_79 : decode cX4_linesOf 79 = .ok (.iload 5, 2) := by decide +kernel
theorem dX4_linesOf_81 : decode cX4_linesOf 81 = .ok (.ishr, 1) := by decide +kernel
theorem dX4_linesOf_82 : decode cX4_linesOf 82 = .ok (.bipush 73, 2) := by decide +kernel
theorem dX4_linesOf_84 : decode cX4_linesOf 84 = .ok (.iand, 1) := by decide +kernel
theorem dX4_linesOf_85 : decode cX4_linesOf 85 = .ok (.bipush 73, 2) := by decide +kernel
theorem dX4_linesOf_87 : decode cX4_linesOf 87 = .ok (.if_icmp .ne 7, 3) := by decide +kernel
theorem dX4_linesOf_90 : decode cX4_linesOf 90 = .ok (.iconst 1, 1) := by decide +kernel
theorem dX4_linesOf_91 : decode cX4_linesOf 91 = .ok (.goto 4, 3) := by decide +kernel
theorem dX4_linesOf_94 : decode cX4_linesOf 94 = .ok (.iconst 0, 1) := by decide +kernel
theorem dX4_linesOf_95 : decode cX4_linesOf 95 = .ok (.iadd, 1) := by decide +kernel
theorem dX4_linesOf_96 : decode cX4_linesOf 96 = .ok (.istore 4, 2) := by decide +kernel
theorem dX4_linesOf_98 : decode cX4_linesOf 98 = .ok (.iinc 5 1, 3) := by decide +kernel
theorem dX4_linesOf_101 : decode cX4_linesOf 101 = .ok (.goto (-55), 3) := by decide +kernel
theorem dX4_linesOf_104 : decode cX4_linesOf 104 = .ok (.iload 4, 2) := by decide +kernel
theorem dX4_linesOf_106 : decode cX4_linesOf 106 = .ok (.iload_n 3, 1) := by decide +kernel
theorem dX4_linesOf_107 : decode cX4_linesOf 107 = .ok (.sipush 273, 3) := by decide +kernel
theorem dX4_linesOf_110 : decode cX4_linesOf 110 = .ok (.iand, 1) := by decide +kernel
theorem dX4_linesOf_111 : decode cX4_linesOf 111 = .ok (.sipush 273, 3) := by decide +kernel
theorem dX4_linesOf_114 : decode cX4_linesOf 114 = .ok (.if_icmp .ne 7, 3) := by decide +kernel
theorem dX4_linesOf_117 : decode cX4_linesOf 117 = .ok (.iconst 1, 1) := by decide +kernel
theorem dX4_linesOf_118 : decode cX4_linesOf 118 = .ok (.goto 4, 3) := by decide +kernel
theorem dX4_linesOf_121 : decode cX4_linesOf 121 = .ok (.iconst 0, 1) := by decide +kernel
theorem dX4_linesOf_122 : decode cX4_linesOf 122 = .ok (.iadd, 1) := by decide +kernel
theorem dX4_linesOf_123 : decode cX4_linesOf 123 = .ok (.iload_n 3, 1) := by decide +kernel
theorem dX4_linesOf_124 : decode cX4_linesOf 124 = .ok (.bipush 84, 2) := by decide +kernel
theorem dX4_linesOf_126 : decode cX4_linesOf 126 = .ok (.iand, 1) := by decide +kernel
theorem dX4_linesOf_127 : decode cX4_linesOf 127 = .ok (.bipush 84, 2) := by decide +kernel
theorem dX4_linesOf_129 : decode cX4_linesOf 129 = .ok (.if_icmp .ne 7, 3) := by decide +kernel
theorem dX4_linesOf_132 : decode cX4_linesOf 132 = .ok (.iconst 1, 1) := by decide +kernel
theorem dX4_linesOf_133 : decode cX4_linesOf 133 = .ok (.goto 4, 3) := by decide +kernel
theorem dX4_linesOf_136 : decode cX4_linesOf 136 = .ok (.iconst 0, 1) := by decide +kernel
theorem dX4_linesOf_137 : decode cX4_linesOf 137 = .ok (.iadd, 1) := by decide +kernel
theorem dX4_linesOf_138 : decode cX4_linesOf 138 = .ok (.ireturn, 1) := by decide +kernel
theorem dX4_claimsIn_0 : decode cX4_claimsIn 0 = .ok (.iload_n 3, 1) := by decide +kernel
theorem dX4_claimsIn_1 : decode cX4_claimsIn 1 = .ok (.iconst 2, 1) := by decide +kernel
theorem dX4_claimsIn_2 : decode cX4_claimsIn 2 = .ok (.if_icmp .ne 10, 3) := by decide +kernel
theorem dX4_claimsIn_5 : decode cX4_claimsIn 5 = .ok (.aload_n 0, 1) := by decide +kernel
theorem dX4_claimsIn_6 : decode cX4_claimsIn 6 = .ok (.iload_n 1, 1) := by decide +kernel
theorem dX4_claimsIn_7 : decode cX4_claimsIn 7 = .ok (.iload_n 2, 1) := by decide +kernel
theorem dX4_claimsIn_8 : decode cX4_claimsIn 8 = .ok (.invokevirtual 170, 3) := by decide +kernel
theorem dX4_claimsIn_11 : decode cX4_claimsIn 11 = .ok (.ireturn, 1) := by decide +kernel
theorem dX4_claimsIn_12 : decode cX4_claimsIn 12 = .ok (.iconst 0, 1) := by decide +kernel
theorem dX4_claimsIn_13 : decode cX4_claimsIn 13 = .ok (.istore 4, 2) := by decide +kernel
theorem dX4_claimsIn_15 : decode cX4_claimsIn 15 = .ok (.iconst 0, 1) := by decide +kernel
theorem dX4_claimsIn_16 : decode cX4_claimsIn 16 = .ok (.istore 5, 2) := by decide +kernel
theorem dX4_claimsIn_18 : decode cX4_claimsIn 18 = .ok (.iload 5, 2) := by decide +kernel
theorem dX4_claimsIn_20 : decode cX4_claimsIn 20 = .ok (.bipush 9, 2) := by decide +kernel
theorem dX4_claimsIn_22 : decode cX4_claimsIn 22 = .ok (.if_icmp .ge 166, 3) := by decide +kernel
theorem dX4_claimsIn_25 : decode cX4_claimsIn 25 = .ok (.iload 4, 2) := by decide +kernel
theorem dX4_claimsIn_27 : decode cX4_claimsIn 27 = .ok (.iload_n 3, 1) := by decide +kernel
theorem dX4_claimsIn_28 : decode cX4_claimsIn 28 = .ok (.iconst 1, 1) := by decide +kernel
theorem dX4_claimsIn_29 : decode cX4_claimsIn 29 = .ok (.if_icmp .ne 18, 3) := by decide +kernel
theorem dX4_claimsIn_32 : decode cX4_claimsIn 32 = .ok (.aload_n 0, 1) := by decide +kernel
theorem dX4_claimsIn_33 : decode cX4_claimsIn 33 = .ok (.iload_n 1, 1) := by decide +kernel
theorem dX4_claimsIn_34 : decode cX4_claimsIn 34 = .ok (.iload 5, 2) := by decide +kernel
theorem dX4_claimsIn_36 : decode cX4_claimsIn 36 = .ok (.invokevirtual 167, 3) := by decide +kernel
theorem dX4_claimsIn_39 : decode cX4_claimsIn 39 = .ok (.iload_n 2, 1) := by decide +kernel
theorem dX4_claimsIn_40 : decode cX4_claimsIn 40 = .ok (.if_icmp .ne 7, 3) := by decide +kernel
theorem dX4_claimsIn_43 : decode cX4_claimsIn 43 = .ok (.iconst 1, 1) := by decide +kernel
theorem dX4_claimsIn_44 : decode cX4_claimsIn 44 = .ok (.goto 4, 3) := by decide +kernel
theorem dX4_claimsIn_47 : decode cX4_claimsIn 47 = .ok (.iconst 0, 1) := by decide +kernel
theorem dX4_claimsIn_48 : decode cX4_claimsIn 48 = .ok (.iadd, 1) := by decide +kernel
theorem dX4_claimsIn_49 : decode cX4_claimsIn 49 = .ok (.istore 4, 2) := by decide +kernel
theorem dX4_claimsIn_51 : decode cX4_claimsIn 51 = .ok (.iconst 0, 1) := by decide +kernel
theorem dX4_claimsIn_52 : decode cX4_claimsIn 52 = .ok (.istore 6, 2) := by decide +kernel
theorem dX4_claimsIn_54 : decode cX4_claimsIn 54 = .ok (.iload 6, 2) := by decide +kernel
theorem dX4_claimsIn_56 : decode cX4_claimsIn 56 = .ok (.aload_n 0, 1) := by decide +kernel
theorem dX4_claimsIn_57 : decode cX4_claimsIn 57 = .ok (.getfield 7, 3) := by decide +kernel
theorem dX4_claimsIn_60 : decode cX4_claimsIn 60 = .ok (.iload_n 1, 1) := by decide +kernel
theorem dX4_claimsIn_61 : decode cX4_claimsIn 61 = .ok (.iconst 1, 1) := by decide +kernel
theorem dX4_claimsIn_62 : decode cX4_claimsIn 62 = .ok (.iadd, 1) := by decide +kernel
theorem dX4_claimsIn_63 : decode cX4_claimsIn 63 = .ok (.iload 5, 2) := by decide +kernel
theorem dX4_claimsIn_65 : decode cX4_claimsIn 65 = .ok (.iadd, 1) := by decide +kernel
theorem dX4_claimsIn_66 : decode cX4_claimsIn 66 = .ok (.iaload, 1) := by decide +kernel
theorem dX4_claimsIn_67 : decode cX4_claimsIn 67 = .ok (.if_icmp .ge 115, 3) := by decide +kernel
theorem dX4_claimsIn_70 : decode cX4_claimsIn 70 = .ok (.iload_n 1, 1) := by decide +kernel
theorem dX4_claimsIn_71 : decode cX4_claimsIn 71 = .ok (.iload 5, 2) := by decide +kernel
theorem dX4_claimsIn_73 : decode cX4_claimsIn 73 = .ok (.iload 6, 2) := by decide +kernel
theorem dX4_claimsIn_75 : decode cX4_claimsIn 75 = .ok (.invokestatic 59, 3) := by decide +kernel
theorem dX4_claimsIn_78 : decode cX4_claimsIn 78 = .ok (.iadd, 1) := by decide +kernel
theorem dX4_claimsIn_79 : decode cX4_claimsIn 79 = .ok (.istore 7, 2) := by decide +kernel
theorem dX4_claimsIn_81 : decode cX4_claimsIn 81 = .ok (.aload_n 0, 1) := by decide +kernel
theorem dX4_claimsIn_82 : decode cX4_claimsIn 82 = .ok (.getfield 7, 3) := by decide +kernel
theorem dX4_claimsIn_85 : decode cX4_claimsIn 85 = .ok (.iload_n 1, 1) := by decide +kernel
theorem dX4_claimsIn_86 : decode cX4_claimsIn 86 = .ok (.iconst 0, 1) := by decide +kernel
theorem dX4_claimsIn_87 : decode cX4_claimsIn 87 = .ok (.iadd, 1) := by decide +kernel
theorem dX4_claimsIn_88 : decode cX4_claimsIn 88 = .ok (.iaload, 1) := by decide +kernel
theorem dX4_claimsIn_89 : decode cX4_claimsIn 89 = .ok (.aload_n 0, 1) := by decide +kernel
theorem dX4_claimsIn_90 : decode cX4_claimsIn 90 = .ok (.getfield 7, 3) := by decide +kernel
theorem dX4_claimsIn_93 : decode cX4_claimsIn 93 = .ok (.iload 7, 2) := by decide +kernel
theorem dX4_claimsIn_95 : decode cX4_claimsIn 95 = .ok (.iconst 3, 1) := by decide +kernel
theorem dX4_claimsIn_96 : decode cX4_claimsIn 96 = .ok (.iadd, 1) := by decide +kernel
theorem dX4_claimsIn_97 : decode cX4_claimsIn 97 = .ok (.iaload, 1) := by decide +kernel
theorem dX4_claimsIn_98 : decode cX4_claimsIn 98 = .ok (.isub, 1) := by decide +kernel
theorem dX4_claimsIn_99 : decode cX4_claimsIn 99 = .ok (.iconst 1, 1) := by decide +kernel
theorem dX4_claimsIn_100 : decode cX4_claimsIn 100 = .ok (.iadd, 1) := by decide +kernel
theorem dX4_claimsIn_101 : decode cX4_claimsIn 101 = .ok (.istore 8, 2) := by decide +kernel
theorem dX4_claimsIn_103 : decode cX4_claimsIn 103 = .ok (.aload_n 0, 1) := by decide +kernel
theorem dX4_claimsIn_104 : decode cX4_claimsIn 104 = .ok (.getfield 7, 3) := by decide +kernel
theorem dX4_claimsIn_107 : decode cX4_claimsIn 107 = .ok (.iload 7, 2) := by decide +kernel
theorem dX4_claimsIn_109 : decode cX4_claimsIn 109 = .ok (.iconst 1, 1) := by decide +kernel
theorem dX4_claimsIn_110 : decode cX4_claimsIn 110 = .ok (.iadd, 1) := by decide +kernel
theorem dX4_claimsIn_111 : decode cX4_claimsIn 111 = .ok (.iaload, 1) := by decide +kernel
theorem dX4_claimsIn_112 : decode cX4_claimsIn 112 = .ok (.iload_n 2, 1) := by decide +kernel
theorem dX4_claimsIn_113 : decode cX4_claimsIn 113 = .ok (.if_icmp .ne 7, 3) := by decide +kernel
theorem dX4_claimsIn_116 : decode cX4_claimsIn 116 = .ok (.iconst 1, 1) := by decide +kernel
theorem dX4_claimsIn_117 : decode cX4_claimsIn 117 = .ok (.goto 4, 3) := by decide +kernel
theorem dX4_claimsIn_120 : decode cX4_claimsIn 120 = .ok (.iconst 0, 1) := by decide +kernel
theorem dX4_claimsIn_121 : decode cX4_claimsIn 121 = .ok (.istore 9, 2) := by decide +kernel
theorem dX4_claimsIn_123 : decode cX4_claimsIn 123 = .ok (.iload 4, 2) := by decide +kernel
theorem dX4_claimsIn_125 : decode cX4_claimsIn 125 = .ok (.iload 9, 2) := by decide +kernel
theorem dX4_claimsIn_127 : decode cX4_claimsIn 127 = .ok (.ifCond .eq 19, 3) := by decide +kernel
theorem dX4_claimsIn_130 : decode cX4_claimsIn 130 = .ok (.iload_n 3, 1) := by decide +kernel
theorem dX4_claimsIn_131 : decode cX4_claimsIn 131 = .ok (.ifCond .ne 15, 3) := by decide +kernel
theorem dX4_claimsIn_134 : decode cX4_claimsIn 134 = .ok (.aload_n 0, 1) := by decide +kernel
theorem dX4_claimsIn_135 : decode cX4_claimsIn 135 = .ok (.iload_n 1, 1) := by decide +kernel
theorem dX4_claimsIn_136 : decode cX4_claimsIn 136 = .ok (.iload 5, 2) := by decide +kernel
theorem dX4_claimsIn_138 : decode cX4_claimsIn 138 = .ok (.iload 6, 2) := by decide +kernel
theorem dX4_claimsIn_140 : decode cX4_claimsIn 140 = .ok (.invokevirtual 164, 3) := by decide +kernel
theorem dX4_claimsIn_143 : decode cX4_claimsIn 143 = .ok (.goto 4, 3) := by decide +kernel
theorem dX4_claimsIn_146 : decode cX4_claimsIn 146 = .ok (.iconst 0, 1) := by decide +kernel
theorem dX4_claimsIn_147 : decode cX4_claimsIn 147 = .ok (.iadd, 1) := by decide +kernel
theorem dX4_claimsIn_148 : decode cX4_claimsIn 148 = .ok (.istore 4, 2) := by decide +kernel
theorem dX4_claimsIn_150 : decode cX4_claimsIn 150 = .ok (.iload 9, 2) := by decide +kernel
theorem dX4_claimsIn_152 : decode cX4_claimsIn 152 = .ok (.ifCond .eq 20, 3) := by decide +kernel
theorem dX4_claimsIn_155 : decode cX4_claimsIn 155 = .ok (.iload_n 3, 1) := by decide +kernel
theorem dX4_claimsIn_156 : decode cX4_claimsIn 156 = .ok (.iconst 3, 1) := by decide +kernel
theorem dX4_claimsIn_157 : decode cX4_claimsIn 157 = .ok (.if_icmp .ne 15, 3) := by decide +kernel
theorem dX4_claimsIn_160 : decode cX4_claimsIn 160 = .ok (.iload 8, 2) := by decide +kernel
theorem dX4_claimsIn_162 : decode cX4_claimsIn 162 = .ok (.iload 4, 2) := by decide +kernel
theorem dX4_claimsIn_164 : decode cX4_claimsIn 164 = .ok (.if_icmp .le 8, 3) := by decide +kernel
theorem dX4_claimsIn_167 : decode cX4_claimsIn 167 = .ok (.iload 8, 2) := by decide +kernel
theorem dX4_claimsIn_169 : decode cX4_claimsIn 169 = .ok (.goto 5, 3) := by decide +kernel
theorem dX4_claimsIn_172 : decode cX4_claimsIn 172 = .ok (.iload 4, 2) := by decide +kernel
theorem dX4_claimsIn_174 : decode cX4_claimsIn 174 = .ok (.istore 4, 2) := by decide +kernel
theorem dX4_claimsIn_176 : decode cX4_claimsIn 176 = .ok (.iinc 6 1, 3) := by decide +kernel
theorem dX4_claimsIn_179 : decode cX4_claimsIn 179 = .ok (.goto (-125), 3) := by decide +kernel
theorem dX4_claimsIn_182 : decode cX4_claimsIn 182 = .ok (.iinc 5 1, 3) := by decide +kernel
theorem dX4_claimsIn_185 : decode cX4_claimsIn 185 = .ok (.goto (-167), 3) := by decide +kernel
theorem dX4_claimsIn_188 : decode cX4_claimsIn 188 = .ok (.iload 4, 2) := by decide +kernel
theorem dX4_claimsIn_190 : decode cX4_claimsIn 190 = .ok (.ireturn, 1) := by decide +kernel
theorem dX4_ownerIn_0 : decode cX4_ownerIn 0 = .ok (.iconst 0, 1) := by decide +kernel
theorem dX4_ownerIn_1 : decode cX4_ownerIn 1 = .ok (.istore_n 3, 1) := by decide +kernel
theorem dX4_ownerIn_2 : decode cX4_ownerIn 2 = .ok (.iconst 0, 1) := by decide +kernel
theorem dX4_ownerIn_3 : decode cX4_ownerIn 3 = .ok (.istore 4, 2) := by decide +kernel
theorem dX4_ownerIn_5 : decode cX4_ownerIn 5 = .ok (.iconst 1, 1) := by decide +kernel
theorem dX4_ownerIn_6 : decode cX4_ownerIn 6 = .ok (.istore 5, 2) := by decide +kernel
theorem dX4_ownerIn_8 : decode cX4_ownerIn 8 = .ok (.iconst 0, 1) := by decide +kernel
theorem dX4_ownerIn_9 : decode cX4_ownerIn 9 = .ok (.istore 6, 2) := by decide +kernel
theorem dX4_ownerIn_11 : decode cX4_ownerIn 11 = .ok (.iload 6, 2) := by decide +kernel
theorem dX4_ownerIn_13 : decode cX4_ownerIn 13 = .ok (.iconst 3, 1) := by decide +kernel
theorem dX4_ownerIn_14 : decode cX4_ownerIn 14 = .ok (.if_icmp .ge 75, 3) := by decide +kernel
theorem dX4_ownerIn_17 : decode cX4_ownerIn 17 = .ok (.aload_n 0, 1) := by decide +kernel
theorem dX4_ownerIn_18 : decode cX4_ownerIn 18 = .ok (.iload_n 1, 1) := by decide +kernel
theorem dX4_ownerIn_19 : decode cX4_ownerIn 19 = .ok (.iload 6, 2) := by decide +kernel
theorem dX4_ownerIn_21 : decode cX4_ownerIn 21 = .ok (.iload_n 2, 1) := by decide +kernel
theorem dX4_ownerIn_22 : decode cX4_ownerIn 22 = .ok (.invokevirtual 173, 3) := by decide +kernel
theorem dX4_ownerIn_25 : decode cX4_ownerIn 25 = .ok (.istore 7, 2) := by decide +kernel
theorem dX4_ownerIn_27 : decode cX4_ownerIn 27 = .ok (.iload 7, 2) := by decide +kernel
theorem dX4_ownerIn_29 : decode cX4_ownerIn 29 = .ok (.iload 4, 2) := by decide +kernel
theorem dX4_ownerIn_31 : decode cX4_ownerIn 31 = .ok (.if_icmp .eq 15, 3) := by decide +kernel
theorem dX4_ownerIn_34 : decode cX4_ownerIn 34 = .ok (.iload 5, 2) := by decide +kernel
theorem dX4_ownerIn_36 : decode cX4_ownerIn 36 = .ok (.ifCond .eq 14, 3) := by decide +kernel
theorem dX4_ownerIn_39 : decode cX4_ownerIn 39 = .ok (.iload 7, 2) := by decide +kernel
theorem dX4_ownerIn_41 : decode cX4_ownerIn 41 = .ok (.iload 4, 2) := by decide +kernel
theorem dX4_ownerIn_43 : decode cX4_ownerIn 43 = .ok (.if_icmp .ge 7, 3) := by decide +kernel
theorem dX4_ownerIn_46 : decode cX4_ownerIn 46 = .ok (.iconst 1, 1) := by decide +kernel
theorem dX4_ownerIn_47 : decode cX4_ownerIn 47 = .ok (.goto 4, 3) := by decide +kernel
theorem dX4_ownerIn_50 : decode cX4_ownerIn 50 = .ok (.iconst 0, 1) := by decide +kernel
theorem dX4_ownerIn_51 : decode cX4_ownerIn 51 = .ok (.istore 5, 2) := by decide +kernel
theorem dX4_ownerIn_53 : decode cX4_ownerIn 53 = .ok (.iload 7, 2) := by decide +kernel
theorem dX4_ownerIn_55 : decode cX4_ownerIn 55 = .ok (.iload 4, 2) := by decide +kernel
theorem dX4_ownerIn_57 : decode cX4_ownerIn 57 = .ok (.if_icmp .le 8, 3) := by decide +kernel
theorem dX4_ownerIn_60 : decode cX4_ownerIn 60 = .ok (.iload 6, 2) := by decide +kernel
theorem dX4_ownerIn_62 : decode cX4_ownerIn 62 = .ok (.goto 4, 3) := by decide +kernel
theorem dX4_ownerIn_65 : decode cX4_ownerIn 65 = .ok (.iload_n 3, 1) := by decide +kernel
theorem dX4_ownerIn_66 : decode cX4_ownerIn 66 = .ok (.istore_n 3, 1) := by decide +kernel
theorem dX4_ownerIn_67 : decode cX4_ownerIn 67 = .ok (.iload 7, 2) := by decide +kernel
theorem dX4_ownerIn_69 : decode cX4_ownerIn 69 = .ok (.iload 4, 2) := by decide +kernel
theorem dX4_ownerIn_71 : decode cX4_ownerIn 71 = .ok (.if_icmp .le 8, 3) := by decide +kernel
theorem dX4_ownerIn_74 : decode cX4_ownerIn 74 = .ok (.iload 7, 2) := by decide +kernel
theorem dX4_ownerIn_76 : decode cX4_ownerIn 76 = .ok (.goto 5, 3) := by decide +kernel
theorem dX4_ownerIn_79 : decode cX4_ownerIn 79 = .ok (.iload 4, 2) := by decide +kernel
theorem dX4_ownerIn_81 : decode cX4_ownerIn 81 = .ok (.istore 4, 2) := by decide +kernel
theorem dX4_ownerIn_83 : decode cX4_ownerIn 83 = .ok (.iinc 6 1, 3) := by decide +kernel
theorem dX4_ownerIn_86 : decode cX4_ownerIn 86 = .ok (.goto (-75), 3) := by decide +kernel
end
section
theorem dX4_ownerIn_89 : decode cX4_ownerIn 89 = .ok (.iload 5, 2) := by decide +kernel
theorem dX4_ownerIn_91 : decode cX4_ownerIn 91 = .ok (.ifCond .eq 7, 3) := by decide +kernel
theorem dX4_ownerIn_94 : decode cX4_ownerIn 94 = .ok (.iconst (-1), 1) := by decide +kernel
theorem dX4_ownerIn_95 : decode cX4_ownerIn 95 = .ok (.goto 4, 3) := by decide +kernel
theorem dX4_ownerIn_98 : decode cX4_ownerIn 98 = .ok (.iload_n 3, 1) := by decide +kernel
theorem dX4_ownerIn_99 : decode cX4_ownerIn 99 = .ok (.ireturn, 1) := by decide +kernel
theorem dX4_isFamily_0 : decode cX4_isFamily 0 = .ok (.iload_n 0, 1) := by decide +kernel
theorem dX4_isFamily_1 : decode cX4_isFamily 1 = .ok (.i2l, 1) := by decide +kernel
theorem dX4_isFamily_2 : decode cX4_isFamily 2 = .ok (.lconst 0, 1) := by decide +kernel
theorem dX4_isFamily_3 : decode cX4_isFamily 3 = .ok (.ldc2_w 55, 3) := by decide +kernel
theorem dX4_isFamily_6 : decode cX4_isFamily 6 = .ok (.invokestatic 45, 3) := by decide +kernel
theorem dX4_isFamily_9 : decode cX4_isFamily 9 = .ok (.ireturn, 1) := by decide +kernel
theorem dX4_isLaw_0 : decode cX4_isLaw 0 = .ok (.iload_n 0, 1) := by decide +kernel
theorem dX4_isLaw_1 : decode cX4_isLaw 1 = .ok (.i2l, 1) := by decide +kernel
theorem dX4_isLaw_2 : decode cX4_isLaw 2 = .ok (.lconst 0, 1) := by decide +kernel
theorem dX4_isLaw_3 : decode cX4_isLaw 3 = .ok (.ldc2_w 176, 3) := by decide +kernel
theorem dX4_isLaw_6 : decode cX4_isLaw 6 = .ok (.invokestatic 45, 3) := by decide +kernel
theorem dX4_isLaw_9 : decode cX4_isLaw 9 = .ok (.ireturn, 1) := by decide +kernel
theorem dX4_claims_0 : decode cX4_claims 0 = .ok (.iload_n 1, 1) := by decide +kernel
theorem dX4_claims_1 : decode cX4_claims 1 = .ok (.invokestatic 178, 3) := by decide +kernel
theorem dX4_claims_4 : decode cX4_claims 4 = .ok (.ifCond .eq 20, 3) := by decide +kernel
theorem dX4_claims_7 : decode cX4_claims 7 = .ok (.iload_n 2, 1) := by decide +kernel
theorem dX4_claims_8 : decode cX4_claims 8 = .ok (.invokestatic 181, 3) := by decide +kernel
theorem dX4_claims_11 : decode cX4_claims 11 = .ok (.ifCond .eq 13, 3) := by decide +kernel
theorem dX4_claims_14 : decode cX4_claims 14 = .ok (.aload_n 0, 1) := by decide +kernel
theorem dX4_claims_15 : decode cX4_claims 15 = .ok (.iconst 0, 1) := by decide +kernel
theorem dX4_claims_16 : decode cX4_claims 16 = .ok (.iload_n 1, 1) := by decide +kernel
theorem dX4_claims_17 : decode cX4_claims 17 = .ok (.iload_n 2, 1) := by decide +kernel
theorem dX4_claims_18 : decode cX4_claims 18 = .ok (.invokevirtual 173, 3) := by decide +kernel
theorem dX4_claims_21 : decode cX4_claims 21 = .ok (.goto 7, 3) := by decide +kernel
theorem dX4_claims_24 : decode cX4_claims 24 = .ok (.aload_n 0, 1) := by decide +kernel
theorem dX4_claims_25 : decode cX4_claims 25 = .ok (.invokevirtual 65, 3) := by decide +kernel
theorem dX4_claims_28 : decode cX4_claims 28 = .ok (.ireturn, 1) := by decide +kernel
theorem dX4_passesMany_0 : decode cX4_passesMany 0 = .ok (.aload_n 0, 1) := by decide +kernel
theorem dX4_passesMany_1 : decode cX4_passesMany 1 = .ok (.invokevirtual 184, 3) := by decide +kernel
theorem dX4_passesMany_4 : decode cX4_passesMany 4 = .ok (.iconst 0, 1) := by decide +kernel
theorem dX4_passesMany_5 : decode cX4_passesMany 5 = .ok (.istore_n 2, 1) := by decide +kernel
theorem dX4_passesMany_6 : decode cX4_passesMany 6 = .ok (.iload_n 2, 1) := by decide +kernel
theorem dX4_passesMany_7 : decode cX4_passesMany 7 = .ok (.iload_n 1, 1) := by decide +kernel
theorem dX4_passesMany_8 : decode cX4_passesMany 8 = .ok (.if_icmp .ge 17, 3) := by decide +kernel
theorem dX4_passesMany_11 : decode cX4_passesMany 11 = .ok (.aload_n 0, 1) := by decide +kernel
theorem dX4_passesMany_12 : decode cX4_passesMany 12 = .ok (.sipush 3273, 3) := by decide +kernel
theorem dX4_passesMany_15 : decode cX4_passesMany 15 = .ok (.iconst 1, 1) := by decide +kernel
theorem dX4_passesMany_16 : decode cX4_passesMany 16 = .ok (.invokevirtual 103, 3) := by decide +kernel
theorem dX4_passesMany_19 : decode cX4_passesMany 19 = .ok (.iinc 2 1, 3) := by decide +kernel
theorem dX4_passesMany_22 : decode cX4_passesMany 22 = .ok (.goto (-16), 3) := by decide +kernel
theorem dX4_passesMany_25 : decode cX4_passesMany 25 = .ok (.return_, 1) := by decide +kernel
theorem dX4_owner_0 : decode cX4_owner 0 = .ok (.iload_n 1, 1) := by decide +kernel
theorem dX4_owner_1 : decode cX4_owner 1 = .ok (.invokestatic 181, 3) := by decide +kernel
theorem dX4_owner_4 : decode cX4_owner 4 = .ok (.ifCond .eq 15, 3) := by decide +kernel
theorem dX4_owner_7 : decode cX4_owner 7 = .ok (.iload_n 2, 1) := by decide +kernel
theorem dX4_owner_8 : decode cX4_owner 8 = .ok (.i2l, 1) := by decide +kernel
theorem dX4_owner_9 : decode cX4_owner 9 = .ok (.lconst 0, 1) := by decide +kernel
theorem dX4_owner_10 : decode cX4_owner 10 = .ok (.ldc2_w 187, 3) := by decide +kernel
theorem dX4_owner_13 : decode cX4_owner 13 = .ok (.invokestatic 45, 3) := by decide +kernel
theorem dX4_owner_16 : decode cX4_owner 16 = .ok (.ifCond .ne 8, 3) := by decide +kernel
theorem dX4_owner_19 : decode cX4_owner 19 = .ok (.aload_n 0, 1) := by decide +kernel
theorem dX4_owner_20 : decode cX4_owner 20 = .ok (.invokevirtual 65, 3) := by decide +kernel
theorem dX4_owner_23 : decode cX4_owner 23 = .ok (.ireturn, 1) := by decide +kernel
theorem dX4_owner_24 : decode cX4_owner 24 = .ok (.aload_n 0, 1) := by decide +kernel
theorem dX4_owner_25 : decode cX4_owner 25 = .ok (.iload_n 2, 1) := by decide +kernel
theorem dX4_owner_26 : decode cX4_owner 26 = .ok (.invokevirtual 189, 3) := by decide +kernel
theorem dX4_owner_29 : decode cX4_owner 29 = .ok (.aload_n 0, 1) := by decide +kernel
theorem dX4_owner_30 : decode cX4_owner 30 = .ok (.sipush 3273, 3) := by decide +kernel
theorem dX4_owner_33 : decode cX4_owner 33 = .ok (.iload_n 1, 1) := by decide +kernel
theorem dX4_owner_34 : decode cX4_owner 34 = .ok (.invokevirtual 193, 3) := by decide +kernel
theorem dX4_owner_37 : decode cX4_owner 37 = .ok (.ireturn, 1) := by decide +kernel
theorem dX4_laws_0 : decode cX4_laws 0 = .ok (.iload_n 1, 1) := by decide +kernel
theorem dX4_laws_1 : decode cX4_laws 1 = .ok (.invokestatic 178, 3) := by decide +kernel
theorem dX4_laws_4 : decode cX4_laws 4 = .ok (.ifCond .ne 8, 3) := by decide +kernel
theorem dX4_laws_7 : decode cX4_laws 7 = .ok (.aload_n 0, 1) := by decide +kernel
theorem dX4_laws_8 : decode cX4_laws 8 = .ok (.invokevirtual 65, 3) := by decide +kernel
theorem dX4_laws_11 : decode cX4_laws 11 = .ok (.ireturn, 1) := by decide +kernel
theorem dX4_laws_12 : decode cX4_laws 12 = .ok (.iconst 0, 1) := by decide +kernel
theorem dX4_laws_13 : decode cX4_laws 13 = .ok (.istore_n 2, 1) := by decide +kernel
theorem dX4_laws_14 : decode cX4_laws 14 = .ok (.iconst 0, 1) := by decide +kernel
theorem dX4_laws_15 : decode cX4_laws 15 = .ok (.istore_n 3, 1) := by decide +kernel
theorem dX4_laws_16 : decode cX4_laws 16 = .ok (.iload_n 3, 1) := by decide +kernel
theorem dX4_laws_17 : decode cX4_laws 17 = .ok (.iconst 4, 1) := by decide +kernel
theorem dX4_laws_18 : decode cX4_laws 18 = .ok (.if_icmp .ge 29, 3) := by decide +kernel
theorem dX4_laws_21 : decode cX4_laws 21 = .ok (.iload_n 2, 1) := by decide +kernel
theorem dX4_laws_22 : decode cX4_laws 22 = .ok (.aload_n 0, 1) := by decide +kernel
theorem dX4_laws_23 : decode cX4_laws 23 = .ok (.iconst 0, 1) := by decide +kernel
theorem dX4_laws_24 : decode cX4_laws 24 = .ok (.iload_n 3, 1) := by decide +kernel
theorem dX4_laws_25 : decode cX4_laws 25 = .ok (.invokevirtual 193, 3) := by decide +kernel
theorem dX4_laws_28 : decode cX4_laws 28 = .ok (.iload_n 1, 1) := by decide +kernel
theorem dX4_laws_29 : decode cX4_laws 29 = .ok (.if_icmp .ne 9, 3) := by decide +kernel
theorem dX4_laws_32 : decode cX4_laws 32 = .ok (.iconst 1, 1) := by decide +kernel
theorem dX4_laws_33 : decode cX4_laws 33 = .ok (.iload_n 3, 1) := by decide +kernel
theorem dX4_laws_34 : decode cX4_laws 34 = .ok (.ishl, 1) := by decide +kernel
theorem dX4_laws_35 : decode cX4_laws 35 = .ok (.goto 4, 3) := by decide +kernel
theorem dX4_laws_38 : decode cX4_laws 38 = .ok (.iconst 0, 1) := by decide +kernel
theorem dX4_laws_39 : decode cX4_laws 39 = .ok (.ior, 1) := by decide +kernel
theorem dX4_laws_40 : decode cX4_laws 40 = .ok (.istore_n 2, 1) := by decide +kernel
theorem dX4_laws_41 : decode cX4_laws 41 = .ok (.iinc 3 1, 3) := by decide +kernel
theorem dX4_laws_44 : decode cX4_laws 44 = .ok (.goto (-28), 3) := by decide +kernel
theorem dX4_laws_47 : decode cX4_laws 47 = .ok (.iload_n 2, 1) := by decide +kernel
theorem dX4_laws_48 : decode cX4_laws 48 = .ok (.ireturn, 1) := by decide +kernel
theorem dX4_tells_0 : decode cX4_tells 0 = .ok (.lload_n 1, 1) := by decide +kernel
theorem dX4_tells_1 : decode cX4_tells 1 = .ok (.lstore 5, 2) := by decide +kernel
theorem dX4_tells_3 : decode cX4_tells 3 = .ok (.lload_n 3, 1) := by decide +kernel
theorem dX4_tells_4 : decode cX4_tells 4 = .ok (.lstore 7, 2) := by decide +kernel
theorem dX4_tells_6 : decode cX4_tells 6 = .ok (.lload 7, 2) := by decide +kernel
theorem dX4_tells_8 : decode cX4_tells 8 = .ok (.lconst 0, 1) := by decide +kernel
theorem dX4_tells_9 : decode cX4_tells 9 = .ok (.lcmp, 1) := by decide +kernel
theorem dX4_tells_10 : decode cX4_tells 10 = .ok (.ifCond .eq 21, 3) := by decide +kernel
theorem dX4_tells_13 : decode cX4_tells 13 = .ok (.lload 5, 2) := by decide +kernel
theorem dX4_tells_15 : decode cX4_tells 15 = .ok (.lload 7, 2) := by decide +kernel
theorem dX4_tells_17 : decode cX4_tells 17 = .ok (.lrem, 1) := by decide +kernel
theorem dX4_tells_18 : decode cX4_tells 18 = .ok (.lstore 9, 2) := by decide +kernel
theorem dX4_tells_20 : decode cX4_tells 20 = .ok (.lload 7, 2) := by decide +kernel
theorem dX4_tells_22 : decode cX4_tells 22 = .ok (.lstore 5, 2) := by decide +kernel
theorem dX4_tells_24 : decode cX4_tells 24 = .ok (.lload 9, 2) := by decide +kernel
theorem dX4_tells_26 : decode cX4_tells 26 = .ok (.lstore 7, 2) := by decide +kernel
theorem dX4_tells_28 : decode cX4_tells 28 = .ok (.goto (-22), 3) := by decide +kernel
theorem dX4_tells_31 : decode cX4_tells 31 = .ok (.aload_n 0, 1) := by decide +kernel
theorem dX4_tells_32 : decode cX4_tells 32 = .ok (.lload_n 1, 1) := by decide +kernel
theorem dX4_tells_33 : decode cX4_tells 33 = .ok (.lload 5, 2) := by decide +kernel
theorem dX4_tells_35 : decode cX4_tells 35 = .ok (.ldiv, 1) := by decide +kernel
theorem dX4_tells_36 : decode cX4_tells 36 = .ok (.putfield 196, 3) := by decide +kernel
theorem dX4_tells_39 : decode cX4_tells 39 = .ok (.aload_n 0, 1) := by decide +kernel
theorem dX4_tells_40 : decode cX4_tells 40 = .ok (.lload_n 3, 1) := by decide +kernel
theorem dX4_tells_41 : decode cX4_tells 41 = .ok (.lload 5, 2) := by decide +kernel
theorem dX4_tells_43 : decode cX4_tells 43 = .ok (.ldiv, 1) := by decide +kernel
theorem dX4_tells_44 : decode cX4_tells 44 = .ok (.putfield 23, 3) := by decide +kernel
theorem dX4_tells_47 : decode cX4_tells 47 = .ok (.iconst 1, 1) := by decide +kernel
theorem dX4_tells_48 : decode cX4_tells 48 = .ok (.ireturn, 1) := by decide +kernel
theorem dX4_allClaims_0 : decode cX4_allClaims 0 = .ok (.aload_n 0, 1) := by decide +kernel
theorem dX4_allClaims_1 : decode cX4_allClaims 1 = .ok (.iload_n 1, 1) := by decide +kernel
theorem dX4_allClaims_2 : decode cX4_allClaims 2 = .ok (.iconst 0, 1) := by decide +kernel
theorem dX4_allClaims_3 : decode cX4_allClaims 3 = .ok (.iload_n 2, 1) := by decide +kernel
theorem dX4_allClaims_4 : decode cX4_allClaims 4 = .ok (.invokevirtual 173, 3) := by decide +kernel
theorem dX4_allClaims_7 : decode cX4_allClaims 7 = .ok (.aload_n 0, 1) := by decide +kernel
theorem dX4_allClaims_8 : decode cX4_allClaims 8 = .ok (.iload_n 1, 1) := by decide +kernel
theorem dX4_allClaims_9 : decode cX4_allClaims 9 = .ok (.iconst 1, 1) := by decide +kernel
theorem dX4_allClaims_10 : decode cX4_allClaims 10 = .ok (.iload_n 2, 1) := by decide +kernel
theorem dX4_allClaims_11 : decode cX4_allClaims 11 = .ok (.invokevirtual 173, 3) := by decide +kernel
theorem dX4_allClaims_14 : decode cX4_allClaims 14 = .ok (.iadd, 1) := by decide +kernel
theorem dX4_allClaims_15 : decode cX4_allClaims 15 = .ok (.aload_n 0, 1) := by decide +kernel
theorem dX4_allClaims_16 : decode cX4_allClaims 16 = .ok (.iload_n 1, 1) := by decide +kernel
theorem dX4_allClaims_17 : decode cX4_allClaims 17 = .ok (.iconst 2, 1) := by decide +kernel
theorem dX4_allClaims_18 : decode cX4_allClaims 18 = .ok (.iload_n 2, 1) := by decide +kernel
theorem dX4_allClaims_19 : decode cX4_allClaims 19 = .ok (.invokevirtual 173, 3) := by decide +kernel
theorem dX4_allClaims_22 : decode cX4_allClaims 22 = .ok (.iadd, 1) := by decide +kernel
theorem dX4_allClaims_23 : decode cX4_allClaims 23 = .ok (.ireturn, 1) := by decide +kernel
theorem dX4_share_0 : decode cX4_share 0 = .ok (.iload_n 1, 1) := by decide +kernel
theorem dX4_share_1 : decode cX4_share 1 = .ok (.invokestatic 178, 3) := by decide +kernel
theorem dX4_share_4 : decode cX4_share 4 = .ok (.ifCond .ne 8, 3) := by decide +kernel
theorem dX4_share_7 : decode cX4_share 7 = .ok (.aload_n 0, 1) := by decide +kernel
theorem dX4_share_8 : decode cX4_share 8 = .ok (.invokevirtual 65, 3) := by decide +kernel
theorem dX4_share_11 : decode cX4_share 11 = .ok (.ireturn, 1) := by decide +kernel
theorem dX4_share_12 : decode cX4_share 12 = .ok (.aload_n 0, 1) := by decide +kernel
theorem dX4_share_13 : decode cX4_share 13 = .ok (.iconst 0, 1) := by decide +kernel
theorem dX4_share_14 : decode cX4_share 14 = .ok (.iconst 0, 1) := by decide +kernel
theorem dX4_share_15 : decode cX4_share 15 = .ok (.invokevirtual 199, 3) := by decide +kernel
theorem dX4_share_18 : decode cX4_share 18 = .ok (.istore_n 2, 1) := by decide +kernel
theorem dX4_share_19 : decode cX4_share 19 = .ok (.aload_n 0, 1) := by decide +kernel
theorem dX4_share_20 : decode cX4_share 20 = .ok (.aload_n 0, 1) := by decide +kernel
theorem dX4_share_21 : decode cX4_share 21 = .ok (.iconst 0, 1) := by decide +kernel
theorem dX4_share_22 : decode cX4_share 22 = .ok (.iload_n 1, 1) := by decide +kernel
theorem dX4_share_23 : decode cX4_share 23 = .ok (.iconst 0, 1) := by decide +kernel
theorem dX4_share_24 : decode cX4_share 24 = .ok (.invokevirtual 173, 3) := by decide +kernel
theorem dX4_share_27 : decode cX4_share 27 = .ok (.i2l, 1) := by decide +kernel
theorem dX4_share_28 : decode cX4_share 28 = .ok (.iload_n 2, 1) := by decide +kernel
theorem dX4_share_29 : decode cX4_share 29 = .ok (.ifCond .ne 7, 3) := by decide +kernel
theorem dX4_share_32 : decode cX4_share 32 = .ok (.lconst 1, 1) := by decide +kernel
theorem dX4_share_33 : decode cX4_share 33 = .ok (.goto 5, 3) := by decide +kernel
theorem dX4_share_36 : decode cX4_share 36 = .ok (.iload_n 2, 1) := by decide +kernel
theorem dX4_share_37 : decode cX4_share 37 = .ok (.i2l, 1) := by decide +kernel
theorem dX4_share_38 : decode cX4_share 38 = .ok (.invokevirtual 202, 3) := by decide +kernel
theorem dX4_share_41 : decode cX4_share 41 = .ok (.ireturn, 1) := by decide +kernel
theorem dX4_twos_0 : decode cX4_twos 0 = .ok (.iload_n 1, 1) := by decide +kernel
theorem dX4_twos_1 : decode cX4_twos 1 = .ok (.invokestatic 181, 3) := by decide +kernel
theorem dX4_twos_4 : decode cX4_twos 4 = .ok (.ifCond .ne 8, 3) := by decide +kernel
theorem dX4_twos_7 : decode cX4_twos 7 = .ok (.aload_n 0, 1) := by decide +kernel
theorem dX4_twos_8 : decode cX4_twos 8 = .ok (.invokevirtual 65, 3) := by decide +kernel
theorem dX4_twos_11 : decode cX4_twos 11 = .ok (.ireturn, 1) := by decide +kernel
theorem dX4_twos_12 : decode cX4_twos 12 = .ok (.aload_n 0, 1) := by decide +kernel
theorem dX4_twos_13 : decode cX4_twos 13 = .ok (.invokevirtual 184, 3) := by decide +kernel
theorem dX4_twos_16 : decode cX4_twos 16 = .ok (.iconst 0, 1) := by decide +kernel
theorem dX4_twos_17 : decode cX4_twos 17 = .ok (.istore_n 2, 1) := by decide +kernel
theorem dX4_twos_18 : decode cX4_twos 18 = .ok (.iload_n 2, 1) := by decide +kernel
theorem dX4_twos_19 : decode cX4_twos 19 = .ok (.bipush 41, 2) := by decide +kernel
theorem dX4_twos_21 : decode cX4_twos 21 = .ok (.if_icmp .ge 42, 3) := by decide +kernel
theorem dX4_twos_24 : decode cX4_twos 24 = .ok (.aload_n 0, 1) := by decide +kernel
theorem dX4_twos_25 : decode cX4_twos 25 = .ok (.sipush 3273, 3) := by decide +kernel
theorem dX4_twos_28 : decode cX4_twos 28 = .ok (.iload_n 1, 1) := by decide +kernel
theorem dX4_twos_29 : decode cX4_twos 29 = .ok (.invokevirtual 193, 3) := by decide +kernel
theorem dX4_twos_32 : decode cX4_twos 32 = .ok (.iconst (-1), 1) := by decide +kernel
theorem dX4_twos_33 : decode cX4_twos 33 = .ok (.if_icmp .ne 16, 3) := by decide +kernel
theorem dX4_twos_36 : decode cX4_twos 36 = .ok (.aload_n 0, 1) := by decide +kernel
theorem dX4_twos_37 : decode cX4_twos 37 = .ok (.sipush 3273, 3) := by decide +kernel
theorem dX4_twos_40 : decode cX4_twos 40 = .ok (.iload_n 1, 1) := by decide +kernel
theorem dX4_twos_41 : decode cX4_twos 41 = .ok (.invokevirtual 199, 3) := by decide +kernel
theorem dX4_twos_44 : decode cX4_twos 44 = .ok (.ifCond .le 5, 3) := by decide +kernel
theorem dX4_twos_47 : decode cX4_twos 47 = .ok (.iload_n 2, 1) := by decide +kernel
theorem dX4_twos_48 : decode cX4_twos 48 = .ok (.ireturn, 1) := by decide +kernel
theorem dX4_twos_49 : decode cX4_twos 49 = .ok (.aload_n 0, 1) := by decide +kernel
theorem dX4_twos_50 : decode cX4_twos 50 = .ok (.sipush 3273, 3) := by decide +kernel
theorem dX4_twos_53 : decode cX4_twos 53 = .ok (.iconst 1, 1) := by decide +kernel
theorem dX4_twos_54 : decode cX4_twos 54 = .ok (.invokevirtual 103, 3) := by decide +kernel
theorem dX4_twos_57 : decode cX4_twos 57 = .ok (.iinc 2 1, 3) := by decide +kernel
theorem dX4_twos_60 : decode cX4_twos 60 = .ok (.goto (-42), 3) := by decide +kernel
theorem dX4_twos_63 : decode cX4_twos 63 = .ok (.iconst (-1), 1) := by decide +kernel
theorem dX4_twos_64 : decode cX4_twos 64 = .ok (.ireturn, 1) := by decide +kernel
theorem dX4_lastsOf_0 : decode cX4_lastsOf 0 = .ok (.aload_n 0, 1) := by decide +kernel
theorem dX4_lastsOf_1 : decode cX4_lastsOf 1 = .ok (.getfield 7, 3) := by decide +kernel
theorem dX4_lastsOf_4 : decode cX4_lastsOf 4 = .ok (.sipush 3274, 3) := by decide +kernel
theorem dX4_lastsOf_7 : decode cX4_lastsOf 7 = .ok (.iload_n 1, 1) := by decide +kernel
theorem dX4_lastsOf_8 : decode cX4_lastsOf 8 = .ok (.iadd, 1) := by decide +kernel
theorem dX4_lastsOf_9 : decode cX4_lastsOf 9 = .ok (.iaload, 1) := by decide +kernel
theorem dX4_lastsOf_10 : decode cX4_lastsOf 10 = .ok (.iconst 1, 1) := by decide +kernel
theorem dX4_lastsOf_11 : decode cX4_lastsOf 11 = .ok (.isub, 1) := by decide +kernel
theorem dX4_lastsOf_12 : decode cX4_lastsOf 12 = .ok (.istore_n 2, 1) := by decide +kernel
theorem dX4_lastsOf_13 : decode cX4_lastsOf 13 = .ok (.iload_n 2, 1) := by decide +kernel
theorem dX4_lastsOf_14 : decode cX4_lastsOf 14 = .ok (.ifCond .ge 7, 3) := by decide +kernel
theorem dX4_lastsOf_17 : decode cX4_lastsOf 17 = .ok (.iconst 0, 1) := by decide +kernel
theorem dX4_lastsOf_18 : decode cX4_lastsOf 18 = .ok (.goto 19, 3) := by decide +kernel
theorem dX4_lastsOf_21 : decode cX4_lastsOf 21 = .ok (.aload_n 0, 1) := by decide +kernel
theorem dX4_lastsOf_22 : decode cX4_lastsOf 22 = .ok (.getfield 7, 3) := by decide +kernel
theorem dX4_lastsOf_25 : decode cX4_lastsOf 25 = .ok (.sipush 3273, 3) := by decide +kernel
theorem dX4_lastsOf_28 : decode cX4_lastsOf 28 = .ok (.iload_n 1, 1) := by decide +kernel
theorem dX4_lastsOf_29 : decode cX4_lastsOf 29 = .ok (.iload_n 2, 1) := by decide +kernel
theorem dX4_lastsOf_30 : decode cX4_lastsOf 30 = .ok (.invokestatic 59, 3) := by decide +kernel
theorem dX4_lastsOf_33 : decode cX4_lastsOf 33 = .ok (.iadd, 1) := by decide +kernel
theorem dX4_lastsOf_34 : decode cX4_lastsOf 34 = .ok (.iconst 2, 1) := by decide +kernel
theorem dX4_lastsOf_35 : decode cX4_lastsOf 35 = .ok (.iadd, 1) := by decide +kernel
theorem dX4_lastsOf_36 : decode cX4_lastsOf 36 = .ok (.iaload, 1) := by decide +kernel
theorem dX4_lastsOf_37 : decode cX4_lastsOf 37 = .ok (.istore_n 3, 1) := by decide +kernel
theorem dX4_lastsOf_38 : decode cX4_lastsOf 38 = .ok (.iconst 0, 1) := by decide +kernel
theorem dX4_lastsOf_39 : decode cX4_lastsOf 39 = .ok (.istore 4, 2) := by decide +kernel
theorem dX4_lastsOf_41 : decode cX4_lastsOf 41 = .ok (.iload 4, 2) := by decide +kernel
theorem dX4_lastsOf_43 : decode cX4_lastsOf 43 = .ok (.bipush 41, 2) := by decide +kernel
theorem dX4_lastsOf_45 : decode cX4_lastsOf 45 = .ok (.if_icmp .ge 89, 3) := by decide +kernel
theorem dX4_lastsOf_48 : decode cX4_lastsOf 48 = .ok (.iload_n 2, 1) := by decide +kernel
theorem dX4_lastsOf_49 : decode cX4_lastsOf 49 = .ok (.ifCond .ge 6, 3) := by decide +kernel
theorem dX4_lastsOf_52 : decode cX4_lastsOf 52 = .ok (.iload 4, 2) := by decide +kernel
theorem dX4_lastsOf_54 : decode cX4_lastsOf 54 = .ok (.ireturn, 1) := by decide +kernel
theorem dX4_lastsOf_55 : decode cX4_lastsOf 55 = .ok (.iload_n 3, 1) := by decide +kernel
theorem dX4_lastsOf_56 : decode cX4_lastsOf 56 = .ok (.aload_n 0, 1) := by decide +kernel
theorem dX4_lastsOf_57 : decode cX4_lastsOf 57 = .ok (.getfield 7, 3) := by decide +kernel
theorem dX4_lastsOf_60 : decode cX4_lastsOf 60 = .ok (.sipush 3273, 3) := by decide +kernel
theorem dX4_lastsOf_63 : decode cX4_lastsOf 63 = .ok (.iload_n 1, 1) := by decide +kernel
theorem dX4_lastsOf_64 : decode cX4_lastsOf 64 = .ok (.iload_n 2, 1) := by decide +kernel
theorem dX4_lastsOf_65 : decode cX4_lastsOf 65 = .ok (.invokestatic 59, 3) := by decide +kernel
theorem dX4_lastsOf_68 : decode cX4_lastsOf 68 = .ok (.iadd, 1) := by decide +kernel
theorem dX4_lastsOf_69 : decode cX4_lastsOf 69 = .ok (.iaload, 1) := by decide +kernel
theorem dX4_lastsOf_70 : decode cX4_lastsOf 70 = .ok (.aload_n 0, 1) := by decide +kernel
theorem dX4_lastsOf_71 : decode cX4_lastsOf 71 = .ok (.getfield 7, 3) := by decide +kernel
theorem dX4_lastsOf_74 : decode cX4_lastsOf 74 = .ok (.sipush 3391, 3) := by decide +kernel
theorem dX4_lastsOf_77 : decode cX4_lastsOf 77 = .ok (.iload_n 1, 1) := by decide +kernel
theorem dX4_lastsOf_78 : decode cX4_lastsOf 78 = .ok (.iadd, 1) := by decide +kernel
theorem dX4_lastsOf_79 : decode cX4_lastsOf 79 = .ok (.iaload, 1) := by decide +kernel
theorem dX4_lastsOf_80 : decode cX4_lastsOf 80 = .ok (.aload_n 0, 1) := by decide +kernel
theorem dX4_lastsOf_81 : decode cX4_lastsOf 81 = .ok (.getfield 7, 3) := by decide +kernel
theorem dX4_lastsOf_84 : decode cX4_lastsOf 84 = .ok (.sipush 3273, 3) := by decide +kernel
theorem dX4_lastsOf_87 : decode cX4_lastsOf 87 = .ok (.iaload, 1) := by decide +kernel
theorem dX4_lastsOf_88 : decode cX4_lastsOf 88 = .ok (.iload 4, 2) := by decide +kernel
theorem dX4_lastsOf_90 : decode cX4_lastsOf 90 = .ok (.iadd, 1) := by decide +kernel
theorem dX4_lastsOf_91 : decode cX4_lastsOf 91 = .ok (.invokestatic 97, 3) := by decide +kernel
theorem dX4_lastsOf_94 : decode cX4_lastsOf 94 = .ok (.isub, 1) := by decide +kernel
theorem dX4_lastsOf_95 : decode cX4_lastsOf 95 = .ok (.istore_n 3, 1) := by decide +kernel
theorem dX4_lastsOf_96 : decode cX4_lastsOf 96 = .ok (.iload_n 3, 1) := by decide +kernel
theorem dX4_lastsOf_97 : decode cX4_lastsOf 97 = .ok (.ifCond .gt 31, 3) := by decide +kernel
theorem dX4_lastsOf_100 : decode cX4_lastsOf 100 = .ok (.iinc 2 (-1), 3) := by decide +kernel
theorem dX4_lastsOf_103 : decode cX4_lastsOf 103 = .ok (.iload_n 2, 1) := by decide +kernel
theorem dX4_lastsOf_104 : decode cX4_lastsOf 104 = .ok (.ifCond .ge 7, 3) := by decide +kernel
theorem dX4_lastsOf_107 : decode cX4_lastsOf 107 = .ok (.iconst 0, 1) := by decide +kernel
theorem dX4_lastsOf_108 : decode cX4_lastsOf 108 = .ok (.goto 19, 3) := by decide +kernel
theorem dX4_lastsOf_111 : decode cX4_lastsOf 111 = .ok (.aload_n 0, 1) := by decide +kernel
theorem dX4_lastsOf_112 : decode cX4_lastsOf 112 = .ok (.getfield 7, 3) := by decide +kernel
theorem dX4_lastsOf_115 : decode cX4_lastsOf 115 = .ok (.sipush 3273, 3) := by decide +kernel
theorem dX4_lastsOf_118 : decode cX4_lastsOf 118 = .ok (.iload_n 1, 1) := by decide +kernel
theorem dX4_lastsOf_119 : decode cX4_lastsOf 119 = .ok (.iload_n 2, 1) := by decide +kernel
theorem dX4_lastsOf_120 : decode cX4_lastsOf 120 = .ok (.invokestatic 59, 3) := by decide +kernel
theorem dX4_lastsOf_123 : decode cX4_lastsOf 123 = .ok (.iadd, 1) := by decide +kernel
theorem dX4_lastsOf_124 : decode cX4_lastsOf 124 = .ok (.iconst 2, 1) := by decide +kernel
theorem dX4_lastsOf_125 : decode cX4_lastsOf 125 = .ok (.iadd, 1) := by decide +kernel
theorem dX4_lastsOf_126 : decode cX4_lastsOf 126 = .ok (.iaload, 1) := by decide +kernel
theorem dX4_lastsOf_127 : decode cX4_lastsOf 127 = .ok (.istore_n 3, 1) := by decide +kernel
theorem dX4_lastsOf_128 : decode cX4_lastsOf 128 = .ok (.iinc 4 1, 3) := by decide +kernel
theorem dX4_lastsOf_131 : decode cX4_lastsOf 131 = .ok (.goto (-90), 3) := by decide +kernel
theorem dX4_lastsOf_134 : decode cX4_lastsOf 134 = .ok (.bipush 41, 2) := by decide +kernel
theorem dX4_lastsOf_136 : decode cX4_lastsOf 136 = .ok (.ireturn, 1) := by decide +kernel
theorem dX4_wholeTried_0 : decode cX4_wholeTried 0 = .ok (.bipush 41, 2) := by decide +kernel
theorem dX4_wholeTried_2 : decode cX4_wholeTried 2 = .ok (.istore_n 1, 1) := by decide +kernel
theorem dX4_wholeTried_3 : decode cX4_wholeTried 3 = .ok (.iconst 0, 1) := by decide +kernel
theorem dX4_wholeTried_4 : decode cX4_wholeTried 4 = .ok (.istore_n 2, 1) := by decide +kernel
theorem dX4_wholeTried_5 : decode cX4_wholeTried 5 = .ok (.iload_n 2, 1) := by decide +kernel
theorem dX4_wholeTried_6 : decode cX4_wholeTried 6 = .ok (.bipush 9, 2) := by decide +kernel
theorem dX4_wholeTried_8 : decode cX4_wholeTried 8 = .ok (.if_icmp .ge 26, 3) := by decide +kernel
theorem dX4_wholeTried_11 : decode cX4_wholeTried 11 = .ok (.aload_n 0, 1) := by decide +kernel
theorem dX4_wholeTried_12 : decode cX4_wholeTried 12 = .ok (.iload_n 2, 1) := by decide +kernel
theorem dX4_wholeTried_13 : decode cX4_wholeTried 13 = .ok (.invokevirtual 206, 3) := by decide +kernel
theorem dX4_wholeTried_16 : decode cX4_wholeTried 16 = .ok (.istore_n 3, 1) := by decide +kernel
theorem dX4_wholeTried_17 : decode cX4_wholeTried 17 = .ok (.iload_n 3, 1) := by decide +kernel
theorem dX4_wholeTried_18 : decode cX4_wholeTried 18 = .ok (.iload_n 1, 1) := by decide +kernel
theorem dX4_wholeTried_19 : decode cX4_wholeTried 19 = .ok (.if_icmp .ge 7, 3) := by decide +kernel
theorem dX4_wholeTried_22 : decode cX4_wholeTried 22 = .ok (.iload_n 3, 1) := by decide +kernel
theorem dX4_wholeTried_23 : decode cX4_wholeTried 23 = .ok (.goto 4, 3) := by decide +kernel
theorem dX4_wholeTried_26 : decode cX4_wholeTried 26 = .ok (.iload_n 1, 1) := by decide +kernel
theorem dX4_wholeTried_27 : decode cX4_wholeTried 27 = .ok (.istore_n 1, 1) := by decide +kernel
theorem dX4_wholeTried_28 : decode cX4_wholeTried 28 = .ok (.iinc 2 1, 3) := by decide +kernel
theorem dX4_wholeTried_31 : decode cX4_wholeTried 31 = .ok (.goto (-26), 3) := by decide +kernel
theorem dX4_wholeTried_34 : decode cX4_wholeTried 34 = .ok (.iload_n 1, 1) := by decide +kernel
theorem dX4_wholeTried_35 : decode cX4_wholeTried 35 = .ok (.ireturn, 1) := by decide +kernel
theorem dX4_whole_0 : decode cX4_whole 0 = .ok (.aload_n 0, 1) := by decide +kernel
theorem dX4_whole_1 : decode cX4_whole 1 = .ok (.invokevirtual 184, 3) := by decide +kernel
theorem dX4_whole_4 : decode cX4_whole 4 = .ok (.aload_n 0, 1) := by decide +kernel
theorem dX4_whole_5 : decode cX4_whole 5 = .ok (.invokevirtual 209, 3) := by decide +kernel
theorem dX4_whole_8 : decode cX4_whole 8 = .ok (.ireturn, 1) := by decide +kernel
theorem dX4_holes_0 : decode cX4_holes 0 = .ok (.iload_n 1, 1) := by decide +kernel
theorem dX4_holes_1 : decode cX4_holes 1 = .ok (.i2l, 1) := by decide +kernel
theorem dX4_holes_2 : decode cX4_holes 2 = .ok (.lconst 0, 1) := by decide +kernel
theorem dX4_holes_3 : decode cX4_holes 3 = .ok (.ldc2_w 187, 3) := by decide +kernel
theorem dX4_holes_6 : decode cX4_holes 6 = .ok (.invokestatic 45, 3) := by decide +kernel
theorem dX4_holes_9 : decode cX4_holes 9 = .ok (.ifCond .ne 8, 3) := by decide +kernel
theorem dX4_holes_12 : decode cX4_holes 12 = .ok (.aload_n 0, 1) := by decide +kernel
theorem dX4_holes_13 : decode cX4_holes 13 = .ok (.invokevirtual 65, 3) := by decide +kernel
theorem dX4_holes_16 : decode cX4_holes 16 = .ok (.ireturn, 1) := by decide +kernel
theorem dX4_holes_17 : decode cX4_holes 17 = .ok (.aload_n 0, 1) := by decide +kernel
theorem dX4_holes_18 : decode cX4_holes 18 = .ok (.iload_n 1, 1) := by decide +kernel
theorem dX4_holes_19 : decode cX4_holes 19 = .ok (.invokevirtual 189, 3) := by decide +kernel
theorem dX4_holes_22 : decode cX4_holes 22 = .ok (.aload_n 0, 1) := by decide +kernel
theorem dX4_holes_23 : decode cX4_holes 23 = .ok (.sipush 3273, 3) := by decide +kernel
theorem dX4_holes_26 : decode cX4_holes 26 = .ok (.invokevirtual 107, 3) := by decide +kernel
theorem dX4_holes_29 : decode cX4_holes 29 = .ok (.ireturn, 1) := by decide +kernel
theorem dX4_isThread_0 : decode cX4_isThread 0 = .ok (.iload_n 0, 1) := by decide +kernel
theorem dX4_isThread_1 : decode cX4_isThread 1 = .ok (.i2l, 1) := by decide +kernel
theorem dX4_isThread_2 : decode cX4_isThread 2 = .ok (.iload_n 1, 1) := by decide +kernel
theorem dX4_isThread_3 : decode cX4_isThread 3 = .ok (.i2l, 1) := by decide +kernel
theorem dX4_isThread_4 : decode cX4_isThread 4 = .ok (.ldc2_w 57, 3) := by decide +kernel
theorem dX4_isThread_7 : decode cX4_isThread 7 = .ok (.invokestatic 45, 3) := by decide +kernel
theorem dX4_isThread_10 : decode cX4_isThread 10 = .ok (.ifCond .eq 31, 3) := by decide +kernel
theorem dX4_isThread_13 : decode cX4_isThread 13 = .ok (.iload_n 2, 1) := by decide +kernel
theorem dX4_isThread_14 : decode cX4_isThread 14 = .ok (.i2l, 1) := by decide +kernel
theorem dX4_isThread_15 : decode cX4_isThread 15 = .ok (.lconst 0, 1) := by decide +kernel
theorem dX4_isThread_16 : decode cX4_isThread 16 = .ok (.ldc2_w 53, 3) := by decide +kernel
theorem dX4_isThread_19 : decode cX4_isThread 19 = .ok (.invokestatic 45, 3) := by decide +kernel
theorem dX4_isThread_22 : decode cX4_isThread 22 = .ok (.ifCond .eq 19, 3) := by decide +kernel
theorem dX4_isThread_25 : decode cX4_isThread 25 = .ok (.iload_n 3, 1) := by decide +kernel
theorem dX4_isThread_26 : decode cX4_isThread 26 = .ok (.i2l, 1) := by decide +kernel
theorem dX4_isThread_27 : decode cX4_isThread 27 = .ok (.lconst 0, 1) := by decide +kernel
theorem dX4_isThread_28 : decode cX4_isThread 28 = .ok (.ldc2_w 55, 3) := by decide +kernel
theorem dX4_isThread_31 : decode cX4_isThread 31 = .ok (.invokestatic 45, 3) := by decide +kernel
theorem dX4_isThread_34 : decode cX4_isThread 34 = .ok (.ifCond .eq 7, 3) := by decide +kernel
theorem dX4_isThread_37 : decode cX4_isThread 37 = .ok (.iconst 1, 1) := by decide +kernel
theorem dX4_isThread_38 : decode cX4_isThread 38 = .ok (.goto 4, 3) := by decide +kernel
theorem dX4_isThread_41 : decode cX4_isThread 41 = .ok (.iconst 0, 1) := by decide +kernel
theorem dX4_isThread_42 : decode cX4_isThread 42 = .ok (.ireturn, 1) := by decide +kernel
theorem dX4_best_0 : decode cX4_best 0 = .ok (.iload_n 1, 1) := by decide +kernel
theorem dX4_best_1 : decode cX4_best 1 = .ok (.iconst 1, 1) := by decide +kernel
theorem dX4_best_2 : decode cX4_best 2 = .ok (.iload_n 2, 1) := by decide +kernel
theorem dX4_best_3 : decode cX4_best 3 = .ok (.iload_n 3, 1) := by decide +kernel
theorem dX4_best_4 : decode cX4_best 4 = .ok (.invokestatic 212, 3) := by decide +kernel
theorem dX4_best_7 : decode cX4_best 7 = .ok (.ifCond .eq 8, 3) := by decide +kernel
theorem dX4_best_10 : decode cX4_best 10 = .ok (.iload_n 3, 1) := by decide +kernel
theorem dX4_best_11 : decode cX4_best 11 = .ok (.iconst 2, 1) := by decide +kernel
theorem dX4_best_12 : decode cX4_best 12 = .ok (.if_icmp .ne 8, 3) := by decide +kernel
theorem dX4_best_15 : decode cX4_best 15 = .ok (.aload_n 0, 1) := by decide +kernel
theorem dX4_best_16 : decode cX4_best 16 = .ok (.invokevirtual 65, 3) := by decide +kernel
theorem dX4_best_19 : decode cX4_best 19 = .ok (.ireturn, 1) := by decide +kernel
theorem dX4_best_20 : decode cX4_best 20 = .ok (.iconst (-1), 1) := by decide +kernel
theorem dX4_best_21 : decode cX4_best 21 = .ok (.istore 4, 2) := by decide +kernel
theorem dX4_best_23 : decode cX4_best 23 = .ok (.iconst (-1), 1) := by decide +kernel
theorem dX4_best_24 : decode cX4_best 24 = .ok (.istore 5, 2) := by decide +kernel
theorem dX4_best_26 : decode cX4_best 26 = .ok (.iconst 0, 1) := by decide +kernel
theorem dX4_best_27 : decode cX4_best 27 = .ok (.istore 6, 2) := by decide +kernel
theorem dX4_best_29 : decode cX4_best 29 = .ok (.iload 6, 2) := by decide +kernel
theorem dX4_best_31 : decode cX4_best 31 = .ok (.bipush 9, 2) := by decide +kernel
theorem dX4_best_33 : decode cX4_best 33 = .ok (.if_icmp .ge 76, 3) := by decide +kernel
theorem dX4_best_36 : decode cX4_best 36 = .ok (.aload_n 0, 1) := by decide +kernel
theorem dX4_best_37 : decode cX4_best 37 = .ok (.getfield 7, 3) := by decide +kernel
theorem dX4_best_40 : decode cX4_best 40 = .ok (.iconst 1, 1) := by decide +kernel
theorem dX4_best_41 : decode cX4_best 41 = .ok (.iload 6, 2) := by decide +kernel
theorem dX4_best_43 : decode cX4_best 43 = .ok (.iadd, 1) := by decide +kernel
theorem dX4_best_44 : decode cX4_best 44 = .ok (.iaload, 1) := by decide +kernel
theorem dX4_best_45 : decode cX4_best 45 = .ok (.iconst 3, 1) := by decide +kernel
theorem dX4_best_46 : decode cX4_best 46 = .ok (.if_icmp .ge 57, 3) := by decide +kernel
theorem dX4_best_49 : decode cX4_best 49 = .ok (.aload_n 0, 1) := by decide +kernel
theorem dX4_best_50 : decode cX4_best 50 = .ok (.invokevirtual 184, 3) := by decide +kernel
theorem dX4_best_53 : decode cX4_best 53 = .ok (.aload_n 0, 1) := by decide +kernel
theorem dX4_best_54 : decode cX4_best 54 = .ok (.sipush 3273, 3) := by decide +kernel
theorem dX4_best_57 : decode cX4_best 57 = .ok (.iload 6, 2) := by decide +kernel
theorem dX4_best_59 : decode cX4_best 59 = .ok (.iload_n 2, 1) := by decide +kernel
theorem dX4_best_60 : decode cX4_best 60 = .ok (.iconst 0, 1) := by decide +kernel
theorem dX4_best_61 : decode cX4_best 61 = .ok (.iload_n 1, 1) := by decide +kernel
theorem dX4_best_62 : decode cX4_best 62 = .ok (.invokevirtual 87, 3) := by decide +kernel
theorem dX4_best_65 : decode cX4_best 65 = .ok (.aload_n 0, 1) := by decide +kernel
theorem dX4_best_66 : decode cX4_best 66 = .ok (.invokevirtual 209, 3) := by decide +kernel
theorem dX4_best_69 : decode cX4_best 69 = .ok (.istore 7, 2) := by decide +kernel
theorem dX4_best_71 : decode cX4_best 71 = .ok (.iload 7, 2) := by decide +kernel
theorem dX4_best_73 : decode cX4_best 73 = .ok (.iload 5, 2) := by decide +kernel
theorem dX4_best_75 : decode cX4_best 75 = .ok (.if_icmp .le 8, 3) := by decide +kernel
theorem dX4_best_78 : decode cX4_best 78 = .ok (.iload 6, 2) := by decide +kernel
theorem dX4_best_80 : decode cX4_best 80 = .ok (.goto 5, 3) := by decide +kernel
theorem dX4_best_83 : decode cX4_best 83 = .ok (.iload 4, 2) := by decide +kernel
theorem dX4_best_85 : decode cX4_best 85 = .ok (.istore 4, 2) := by decide +kernel
theorem dX4_best_87 : decode cX4_best 87 = .ok (.iload 7, 2) := by decide +kernel
theorem dX4_best_89 : decode cX4_best 89 = .ok (.iload 5, 2) := by decide +kernel
theorem dX4_best_91 : decode cX4_best 91 = .ok (.if_icmp .le 8, 3) := by decide +kernel
theorem dX4_best_94 : decode cX4_best 94 = .ok (.iload 7, 2) := by decide +kernel
theorem dX4_best_96 : decode cX4_best 96 = .ok (.goto 5, 3) := by decide +kernel
theorem dX4_best_99 : decode cX4_best 99 = .ok (.iload 5, 2) := by decide +kernel
theorem dX4_best_101 : decode cX4_best 101 = .ok (.istore 5, 2) := by decide +kernel
theorem dX4_best_103 : decode cX4_best 103 = .ok (.iinc 6 1, 3) := by decide +kernel
theorem dX4_best_106 : decode cX4_best 106 = .ok (.goto (-77), 3) := by decide +kernel
theorem dX4_best_109 : decode cX4_best 109 = .ok (.iload_n 3, 1) := by decide +kernel
theorem dX4_best_110 : decode cX4_best 110 = .ok (.ifCond .ne 8, 3) := by decide +kernel
theorem dX4_best_113 : decode cX4_best 113 = .ok (.iload 4, 2) := by decide +kernel
theorem dX4_best_115 : decode cX4_best 115 = .ok (.goto 5, 3) := by decide +kernel
theorem dX4_best_118 : decode cX4_best 118 = .ok (.iload 5, 2) := by decide +kernel
theorem dX4_best_120 : decode cX4_best 120 = .ok (.ireturn, 1) := by decide +kernel
theorem dX4_layLasting_0 : decode cX4_layLasting 0 = .ok (.iconst 0, 1) := by decide +kernel
theorem dX4_layLasting_1 : decode cX4_layLasting 1 = .ok (.istore_n 3, 1) := by decide +kernel
theorem dX4_layLasting_2 : decode cX4_layLasting 2 = .ok (.iload_n 3, 1) := by decide +kernel
theorem dX4_layLasting_3 : decode cX4_layLasting 3 = .ok (.bipush 9, 2) := by decide +kernel
theorem dX4_layLasting_5 : decode cX4_layLasting 5 = .ok (.if_icmp .ge 74, 3) := by decide +kernel
theorem dX4_layLasting_8 : decode cX4_layLasting 8 = .ok (.iconst 0, 1) := by decide +kernel
theorem dX4_layLasting_9 : decode cX4_layLasting 9 = .ok (.istore 4, 2) := by decide +kernel
theorem dX4_layLasting_11 : decode cX4_layLasting 11 = .ok (.iload 4, 2) := by decide +kernel
theorem dX4_layLasting_13 : decode cX4_layLasting 13 = .ok (.iload_n 1, 1) := by decide +kernel
theorem dX4_layLasting_14 : decode cX4_layLasting 14 = .ok (.if_icmp .ge 59, 3) := by decide +kernel
theorem dX4_layLasting_17 : decode cX4_layLasting 17 = .ok (.aload_n 0, 1) := by decide +kernel
theorem dX4_layLasting_18 : decode cX4_layLasting 18 = .ok (.invokevirtual 184, 3) := by decide +kernel
theorem dX4_layLasting_21 : decode cX4_layLasting 21 = .ok (.iload 4, 2) := by decide +kernel
theorem dX4_layLasting_23 : decode cX4_layLasting 23 = .ok (.ifCond .le 27, 3) := by decide +kernel
theorem dX4_layLasting_26 : decode cX4_layLasting 26 = .ok (.aload_n 0, 1) := by decide +kernel
theorem dX4_layLasting_27 : decode cX4_layLasting 27 = .ok (.getfield 7, 3) := by decide +kernel
theorem dX4_layLasting_30 : decode cX4_layLasting 30 = .ok (.iconst 1, 1) := by decide +kernel
theorem dX4_layLasting_31 : decode cX4_layLasting 31 = .ok (.iload_n 3, 1) := by decide +kernel
theorem dX4_layLasting_32 : decode cX4_layLasting 32 = .ok (.iadd, 1) := by decide +kernel
theorem dX4_layLasting_33 : decode cX4_layLasting 33 = .ok (.iaload, 1) := by decide +kernel
theorem dX4_layLasting_34 : decode cX4_layLasting 34 = .ok (.iconst 3, 1) := by decide +kernel
theorem dX4_layLasting_35 : decode cX4_layLasting 35 = .ok (.if_icmp .ge 15, 3) := by decide +kernel
theorem dX4_layLasting_38 : decode cX4_layLasting 38 = .ok (.aload_n 0, 1) := by decide +kernel
theorem dX4_layLasting_39 : decode cX4_layLasting 39 = .ok (.sipush 3273, 3) := by decide +kernel
theorem dX4_layLasting_42 : decode cX4_layLasting 42 = .ok (.iload_n 3, 1) := by decide +kernel
theorem dX4_layLasting_43 : decode cX4_layLasting 43 = .ok (.iload_n 2, 1) := by decide +kernel
theorem dX4_layLasting_44 : decode cX4_layLasting 44 = .ok (.iconst 0, 1) := by decide +kernel
theorem dX4_layLasting_45 : decode cX4_layLasting 45 = .ok (.iload 4, 2) := by decide +kernel
theorem dX4_layLasting_47 : decode cX4_layLasting 47 = .ok (.invokevirtual 87, 3) := by decide +kernel
theorem dX4_layLasting_50 : decode cX4_layLasting 50 = .ok (.aload_n 0, 1) := by decide +kernel
theorem dX4_layLasting_51 : decode cX4_layLasting 51 = .ok (.getfield 30, 3) := by decide +kernel
theorem dX4_layLasting_54 : decode cX4_layLasting 54 = .ok (.bipush 31, 2) := by decide +kernel
theorem dX4_layLasting_56 : decode cX4_layLasting 56 = .ok (.iload_n 3, 1) := by decide +kernel
theorem dX4_layLasting_57 : decode cX4_layLasting 57 = .ok (.imul, 1) := by decide +kernel
theorem dX4_layLasting_58 : decode cX4_layLasting 58 = .ok (.iload 4, 2) := by decide +kernel
theorem dX4_layLasting_60 : decode cX4_layLasting 60 = .ok (.iadd, 1) := by decide +kernel
theorem dX4_layLasting_61 : decode cX4_layLasting 61 = .ok (.aload_n 0, 1) := by decide +kernel
theorem dX4_layLasting_62 : decode cX4_layLasting 62 = .ok (.iload_n 3, 1) := by decide +kernel
theorem dX4_layLasting_63 : decode cX4_layLasting 63 = .ok (.invokevirtual 206, 3) := by decide +kernel
theorem dX4_layLasting_66 : decode cX4_layLasting 66 = .ok (.iastore, 1) := by decide +kernel
theorem dX4_layLasting_67 : decode cX4_layLasting 67 = .ok (.iinc 4 1, 3) := by decide +kernel
theorem dX4_layLasting_70 : decode cX4_layLasting 70 = .ok (.goto (-59), 3) := by decide +kernel
theorem dX4_layLasting_73 : decode cX4_layLasting 73 = .ok (.iinc 3 1, 3) := by decide +kernel
theorem dX4_layLasting_76 : decode cX4_layLasting 76 = .ok (.goto (-74), 3) := by decide +kernel
theorem dX4_layLasting_79 : decode cX4_layLasting 79 = .ok (.return_, 1) := by decide +kernel
theorem dX4_split_0 : decode cX4_split 0 = .ok (.iload_n 1, 1) := by decide +kernel
theorem dX4_split_1 : decode cX4_split 1 = .ok (.iconst 2, 1) := by decide +kernel
theorem dX4_split_2 : decode cX4_split 2 = .ok (.iload_n 2, 1) := by decide +kernel
theorem dX4_split_3 : decode cX4_split 3 = .ok (.iload_n 3, 1) := by decide +kernel
theorem dX4_split_4 : decode cX4_split 4 = .ok (.invokestatic 212, 3) := by decide +kernel
theorem dX4_split_7 : decode cX4_split 7 = .ok (.ifCond .ne 8, 3) := by decide +kernel
theorem dX4_split_10 : decode cX4_split 10 = .ok (.aload_n 0, 1) := by decide +kernel
theorem dX4_split_11 : decode cX4_split 11 = .ok (.invokevirtual 65, 3) := by decide +kernel
theorem dX4_split_14 : decode cX4_split 14 = .ok (.ireturn, 1) := by decide +kernel
theorem dX4_split_15 : decode cX4_split 15 = .ok (.aload_n 0, 1) := by decide +kernel
theorem dX4_split_16 : decode cX4_split 16 = .ok (.iload_n 1, 1) := by decide +kernel
theorem dX4_split_17 : decode cX4_split 17 = .ok (.iload_n 2, 1) := by decide +kernel
theorem dX4_split_18 : decode cX4_split 18 = .ok (.invokevirtual 215, 3) := by decide +kernel
theorem dX4_split_21 : decode cX4_split 21 = .ok (.iconst (-1), 1) := by decide +kernel
theorem dX4_split_22 : decode cX4_split 22 = .ok (.istore 4, 2) := by decide +kernel
theorem dX4_split_24 : decode cX4_split 24 = .ok (.iconst (-1), 1) := by decide +kernel
theorem dX4_split_25 : decode cX4_split 25 = .ok (.istore 5, 2) := by decide +kernel
theorem dX4_split_27 : decode cX4_split 27 = .ok (.iconst (-1), 1) := by decide +kernel
theorem dX4_split_28 : decode cX4_split 28 = .ok (.istore 6, 2) := by decide +kernel
theorem dX4_split_30 : decode cX4_split 30 = .ok (.iconst 0, 1) := by decide +kernel
theorem dX4_split_31 : decode cX4_split 31 = .ok (.istore 7, 2) := by decide +kernel
theorem dX4_split_33 : decode cX4_split 33 = .ok (.iload 7, 2) := by decide +kernel
theorem dX4_split_35 : decode cX4_split 35 = .ok (.bipush 9, 2) := by decide +kernel
theorem dX4_split_37 : decode cX4_split 37 = .ok (.if_icmp .ge 253, 3) := by decide +kernel
theorem dX4_split_40 : decode cX4_split 40 = .ok (.iload 7, 2) := by decide +kernel
theorem dX4_split_42 : decode cX4_split 42 = .ok (.iconst 1, 1) := by decide +kernel
theorem dX4_split_43 : decode cX4_split 43 = .ok (.iadd, 1) := by decide +kernel
theorem dX4_split_44 : decode cX4_split 44 = .ok (.istore 8, 2) := by decide +kernel
theorem dX4_split_46 : decode cX4_split 46 = .ok (.iload 8, 2) := by decide +kernel
theorem dX4_split_48 : decode cX4_split 48 = .ok (.bipush 9, 2) := by decide +kernel
theorem dX4_split_50 : decode cX4_split 50 = .ok (.if_icmp .ge 234, 3) := by decide +kernel
theorem dX4_split_53 : decode cX4_split 53 = .ok (.bipush 41, 2) := by decide +kernel
theorem dX4_split_55 : decode cX4_split 55 = .ok (.istore 9, 2) := by decide +kernel
theorem dX4_split_57 : decode cX4_split 57 = .ok (.iconst 0, 1) := by decide +kernel
theorem dX4_split_58 : decode cX4_split 58 = .ok (.istore 10, 2) := by decide +kernel
theorem dX4_split_60 : decode cX4_split 60 = .ok (.iload 10, 2) := by decide +kernel
theorem dX4_split_62 : decode cX4_split 62 = .ok (.bipush 9, 2) := by decide +kernel
theorem dX4_split_64 : decode cX4_split 64 = .ok (.if_icmp .ge 55, 3) := by decide +kernel
theorem dX4_split_67 : decode cX4_split 67 = .ok (.iload 10, 2) := by decide +kernel
theorem dX4_split_69 : decode cX4_split 69 = .ok (.iload 7, 2) := by decide +kernel
theorem dX4_split_71 : decode cX4_split 71 = .ok (.if_icmp .eq 38, 3) := by decide +kernel
theorem dX4_split_74 : decode cX4_split 74 = .ok (.iload 10, 2) := by decide +kernel
theorem dX4_split_76 : decode cX4_split 76 = .ok (.iload 8, 2) := by decide +kernel
theorem dX4_split_78 : decode cX4_split 78 = .ok (.if_icmp .eq 31, 3) := by decide +kernel
theorem dX4_split_81 : decode cX4_split 81 = .ok (.aload_n 0, 1) := by decide +kernel
theorem dX4_split_82 : decode cX4_split 82 = .ok (.getfield 30, 3) := by decide +kernel
theorem dX4_split_85 : decode cX4_split 85 = .ok (.bipush 31, 2) := by decide +kernel
theorem dX4_split_87 : decode cX4_split 87 = .ok (.iload 10, 2) := by decide +kernel
theorem dX4_split_89 : decode cX4_split 89 = .ok (.imul, 1) := by decide +kernel
theorem dX4_split_90 : decode cX4_split 90 = .ok (.iaload, 1) := by decide +kernel
theorem dX4_split_91 : decode cX4_split 91 = .ok (.iload 9, 2) := by decide +kernel
theorem dX4_split_93 : decode cX4_split 93 = .ok (.if_icmp .ge 16, 3) := by decide +kernel
theorem dX4_split_96 : decode cX4_split 96 = .ok (.aload_n 0, 1) := by decide +kernel
theorem dX4_split_97 : decode cX4_split 97 = .ok (.getfield 30, 3) := by decide +kernel
theorem dX4_split_100 : decode cX4_split 100 = .ok (.bipush 31, 2) := by decide +kernel
theorem dX4_split_102 : decode cX4_split 102 = .ok (.iload 10, 2) := by decide +kernel
theorem dX4_split_104 : decode cX4_split 104 = .ok (.imul, 1) := by decide +kernel
theorem dX4_split_105 : decode cX4_split 105 = .ok (.iaload, 1) := by decide +kernel
theorem dX4_split_106 : decode cX4_split 106 = .ok (.goto 5, 3) := by decide +kernel
theorem dX4_split_109 : decode cX4_split 109 = .ok (.iload 9, 2) := by decide +kernel
theorem dX4_split_111 : decode cX4_split 111 = .ok (.istore 9, 2) := by decide +kernel
theorem dX4_split_113 : decode cX4_split 113 = .ok (.iinc 10 1, 3) := by decide +kernel
theorem dX4_split_116 : decode cX4_split 116 = .ok (.goto (-56), 3) := by decide +kernel
theorem dX4_split_119 : decode cX4_split 119 = .ok (.iconst 1, 1) := by decide +kernel
theorem dX4_split_120 : decode cX4_split 120 = .ok (.istore 10, 2) := by decide +kernel
theorem dX4_split_122 : decode cX4_split 122 = .ok (.iload 10, 2) := by decide +kernel
theorem dX4_split_124 : decode cX4_split 124 = .ok (.iload_n 1, 1) := by decide +kernel
theorem dX4_split_125 : decode cX4_split 125 = .ok (.if_icmp .ge 153, 3) := by decide +kernel
theorem dX4_split_128 : decode cX4_split 128 = .ok (.aload_n 0, 1) := by decide +kernel
theorem dX4_split_129 : decode cX4_split 129 = .ok (.getfield 7, 3) := by decide +kernel
theorem dX4_split_132 : decode cX4_split 132 = .ok (.iconst 1, 1) := by decide +kernel
theorem dX4_split_133 : decode cX4_split 133 = .ok (.iload 7, 2) := by decide +kernel
theorem dX4_split_135 : decode cX4_split 135 = .ok (.iadd, 1) := by decide +kernel
theorem dX4_split_136 : decode cX4_split 136 = .ok (.iaload, 1) := by decide +kernel
theorem dX4_split_137 : decode cX4_split 137 = .ok (.iconst 3, 1) := by decide +kernel
theorem dX4_split_138 : decode cX4_split 138 = .ok (.if_icmp .ge 140, 3) := by decide +kernel
theorem dX4_split_141 : decode cX4_split 141 = .ok (.aload_n 0, 1) := by decide +kernel
theorem dX4_split_142 : decode cX4_split 142 = .ok (.getfield 7, 3) := by decide +kernel
theorem dX4_split_145 : decode cX4_split 145 = .ok (.iconst 1, 1) := by decide +kernel
theorem dX4_split_146 : decode cX4_split 146 = .ok (.iload 8, 2) := by decide +kernel
theorem dX4_split_148 : decode cX4_split 148 = .ok (.iadd, 1) := by decide +kernel
theorem dX4_split_149 : decode cX4_split 149 = .ok (.iaload, 1) := by decide +kernel
theorem dX4_split_150 : decode cX4_split 150 = .ok (.iconst 3, 1) := by decide +kernel
theorem dX4_split_151 : decode cX4_split 151 = .ok (.if_icmp .ge 127, 3) := by decide +kernel
theorem dX4_split_154 : decode cX4_split 154 = .ok (.aload_n 0, 1) := by decide +kernel
theorem dX4_split_155 : decode cX4_split 155 = .ok (.getfield 30, 3) := by decide +kernel
theorem dX4_split_158 : decode cX4_split 158 = .ok (.bipush 31, 2) := by decide +kernel
theorem dX4_split_160 : decode cX4_split 160 = .ok (.iload 7, 2) := by decide +kernel
theorem dX4_split_162 : decode cX4_split 162 = .ok (.imul, 1) := by decide +kernel
theorem dX4_split_163 : decode cX4_split 163 = .ok (.iload 10, 2) := by decide +kernel
theorem dX4_split_165 : decode cX4_split 165 = .ok (.iadd, 1) := by decide +kernel
theorem dX4_split_166 : decode cX4_split 166 = .ok (.iaload, 1) := by decide +kernel
theorem dX4_split_167 : decode cX4_split 167 = .ok (.istore 11, 2) := by decide +kernel
theorem dX4_split_169 : decode cX4_split 169 = .ok (.aload_n 0, 1) := by decide +kernel
theorem dX4_split_170 : decode cX4_split 170 = .ok (.getfield 30, 3) := by decide +kernel
theorem dX4_split_173 : decode cX4_split 173 = .ok (.bipush 31, 2) := by decide +kernel
theorem dX4_split_175 : decode cX4_split 175 = .ok (.iload 8, 2) := by decide +kernel
theorem dX4_split_177 : decode cX4_split 177 = .ok (.imul, 1) := by decide +kernel
theorem dX4_split_178 : decode cX4_split 178 = .ok (.iload_n 1, 1) := by decide +kernel
theorem dX4_split_179 : decode cX4_split 179 = .ok (.iadd, 1) := by decide +kernel
theorem dX4_split_180 : decode cX4_split 180 = .ok (.iload 10, 2) := by decide +kernel
theorem dX4_split_182 : decode cX4_split 182 = .ok (.isub, 1) := by decide +kernel
theorem dX4_split_183 : decode cX4_split 183 = .ok (.iaload, 1) := by decide +kernel
theorem dX4_split_184 : decode cX4_split 184 = .ok (.istore 12, 2) := by decide +kernel
theorem dX4_split_186 : decode cX4_split 186 = .ok (.iload 11, 2) := by decide +kernel
theorem dX4_split_188 : decode cX4_split 188 = .ok (.iload 12, 2) := by decide +kernel
theorem dX4_split_190 : decode cX4_split 190 = .ok (.if_icmp .ge 8, 3) := by decide +kernel
theorem dX4_split_193 : decode cX4_split 193 = .ok (.iload 11, 2) := by decide +kernel
theorem dX4_split_195 : decode cX4_split 195 = .ok (.goto 5, 3) := by decide +kernel
theorem dX4_split_198 : decode cX4_split 198 = .ok (.iload 12, 2) := by decide +kernel
theorem dX4_split_200 : decode cX4_split 200 = .ok (.istore 13, 2) := by decide +kernel
theorem dX4_split_202 : decode cX4_split 202 = .ok (.iload 9, 2) := by decide +kernel
theorem dX4_split_204 : decode cX4_split 204 = .ok (.iload 13, 2) := by decide +kernel
theorem dX4_split_206 : decode cX4_split 206 = .ok (.if_icmp .ge 8, 3) := by decide +kernel
theorem dX4_split_209 : decode cX4_split 209 = .ok (.iload 9, 2) := by decide +kernel
theorem dX4_split_211 : decode cX4_split 211 = .ok (.goto 5, 3) := by decide +kernel
theorem dX4_split_214 : decode cX4_split 214 = .ok (.iload 13, 2) := by decide +kernel
theorem dX4_split_216 : decode cX4_split 216 = .ok (.istore 13, 2) := by decide +kernel
theorem dX4_split_218 : decode cX4_split 218 = .ok (.iload 13, 2) := by decide +kernel
theorem dX4_split_220 : decode cX4_split 220 = .ok (.iload 6, 2) := by decide +kernel
theorem dX4_split_222 : decode cX4_split 222 = .ok (.if_icmp .le 14, 3) := by decide +kernel
theorem dX4_split_225 : decode cX4_split 225 = .ok (.bipush 10, 2) := by decide +kernel
theorem dX4_split_227 : decode cX4_split 227 = .ok (.iload 7, 2) := by decide +kernel
theorem dX4_split_229 : decode cX4_split 229 = .ok (.imul, 1) := by decide +kernel
theorem dX4_split_230 : decode cX4_split 230 = .ok (.iload 8, 2) := by decide +kernel
theorem dX4_split_232 : decode cX4_split 232 = .ok (.iadd, 1) := by decide +kernel
theorem dX4_split_233 : decode cX4_split 233 = .ok (.goto 5, 3) := by decide +kernel
theorem dX4_split_236 : decode cX4_split 236 = .ok (.iload 4, 2) := by decide +kernel
theorem dX4_split_238 : decode cX4_split 238 = .ok (.istore 4, 2) := by decide +kernel
theorem dX4_split_240 : decode cX4_split 240 = .ok (.iload 13, 2) := by decide +kernel
theorem dX4_split_242 : decode cX4_split 242 = .ok (.iload 6, 2) := by decide +kernel
theorem dX4_split_244 : decode cX4_split 244 = .ok (.if_icmp .le 8, 3) := by decide +kernel
theorem dX4_split_247 : decode cX4_split 247 = .ok (.iload 10, 2) := by decide +kernel
theorem dX4_split_249 : decode cX4_split 249 = .ok (.goto 5, 3) := by decide +kernel
theorem dX4_split_252 : decode cX4_split 252 = .ok (.iload 5, 2) := by decide +kernel
theorem dX4_split_254 : decode cX4_split 254 = .ok (.istore 5, 2) := by decide +kernel
theorem dX4_split_256 : decode cX4_split 256 = .ok (.iload 13, 2) := by decide +kernel
theorem dX4_split_258 : decode cX4_split 258 = .ok (.iload 6, 2) := by decide +kernel
theorem dX4_split_260 : decode cX4_split 260 = .ok (.if_icmp .le 8, 3) := by decide +kernel
theorem dX4_split_263 : decode cX4_split 263 = .ok (.iload 13, 2) := by decide +kernel
theorem dX4_split_265 : decode cX4_split 265 = .ok (.goto 5, 3) := by decide +kernel
theorem dX4_split_268 : decode cX4_split 268 = .ok (.iload 6, 2) := by decide +kernel
theorem dX4_split_270 : decode cX4_split 270 = .ok (.istore 6, 2) := by decide +kernel
theorem dX4_split_272 : decode cX4_split 272 = .ok (.iinc 10 1, 3) := by decide +kernel
theorem dX4_split_275 : decode cX4_split 275 = .ok (.goto (-153), 3) := by decide +kernel
theorem dX4_split_278 : decode cX4_split 278 = .ok (.iinc 8 1, 3) := by decide +kernel
theorem dX4_split_281 : decode cX4_split 281 = .ok (.goto (-235), 3) := by decide +kernel
theorem dX4_split_284 : decode cX4_split 284 = .ok (.iinc 7 1, 3) := by decide +kernel
theorem dX4_split_287 : decode cX4_split 287 = .ok (.goto (-254), 3) := by decide +kernel
theorem dX4_split_290 : decode cX4_split 290 = .ok (.iload_n 3, 1) := by decide +kernel
theorem dX4_split_291 : decode cX4_split 291 = .ok (.ifCond .ne 8, 3) := by decide +kernel
theorem dX4_split_294 : decode cX4_split 294 = .ok (.iload 4, 2) := by decide +kernel
theorem dX4_split_296 : decode cX4_split 296 = .ok (.goto 15, 3) := by decide +kernel
theorem dX4_split_299 : decode cX4_split 299 = .ok (.iload_n 3, 1) := by decide +kernel
theorem dX4_split_300 : decode cX4_split 300 = .ok (.iconst 1, 1) := by decide +kernel
theorem dX4_split_301 : decode cX4_split 301 = .ok (.if_icmp .ne 8, 3) := by decide +kernel
theorem dX4_split_304 : decode cX4_split 304 = .ok (.iload 5, 2) := by decide +kernel
theorem dX4_split_306 : decode cX4_split 306 = .ok (.goto 5, 3) := by decide +kernel
theorem dX4_split_309 : decode cX4_split 309 = .ok (.iload 6, 2) := by decide +kernel
theorem dX4_split_311 : decode cX4_split 311 = .ok (.ireturn, 1) := by decide +kernel
theorem dX4_reading_0 : decode cX4_reading 0 = .ok (.iload_n 1, 1) := by decide +kernel
theorem dX4_reading_1 : decode cX4_reading 1 = .ok (.invokestatic 49, 3) := by decide +kernel
theorem dX4_reading_4 : decode cX4_reading 4 = .ok (.ifCond .eq 27, 3) := by decide +kernel
theorem dX4_reading_7 : decode cX4_reading 7 = .ok (.iload_n 2, 1) := by decide +kernel
theorem dX4_reading_8 : decode cX4_reading 8 = .ok (.i2l, 1) := by decide +kernel
theorem dX4_reading_9 : decode cX4_reading 9 = .ok (.lconst 0, 1) := by decide +kernel
theorem dX4_reading_10 : decode cX4_reading 10 = .ok (.ldc2_w 101, 3) := by decide +kernel
theorem dX4_reading_13 : decode cX4_reading 13 = .ok (.invokestatic 45, 3) := by decide +kernel
theorem dX4_reading_16 : decode cX4_reading 16 = .ok (.ifCond .eq 15, 3) := by decide +kernel
theorem dX4_reading_19 : decode cX4_reading 19 = .ok (.iload_n 3, 1) := by decide +kernel
theorem dX4_reading_20 : decode cX4_reading 20 = .ok (.i2l, 1) := by decide +kernel
theorem dX4_reading_21 : decode cX4_reading 21 = .ok (.lconst 0, 1) := by decide +kernel
theorem dX4_reading_22 : decode cX4_reading 22 = .ok (.ldc2_w 57, 3) := by decide +kernel
theorem dX4_reading_25 : decode cX4_reading 25 = .ok (.invokestatic 45, 3) := by decide +kernel
theorem dX4_reading_28 : decode cX4_reading 28 = .ok (.ifCond .ne 8, 3) := by decide +kernel
theorem dX4_reading_31 : decode cX4_reading 31 = .ok (.aload_n 0, 1) := by decide +kernel
theorem dX4_reading_32 : decode cX4_reading 32 = .ok (.invokevirtual 65, 3) := by decide +kernel
theorem dX4_reading_35 : decode cX4_reading 35 = .ok (.ireturn, 1) := by decide +kernel
theorem dX4_reading_36 : decode cX4_reading 36 = .ok (.aload_n 0, 1) := by decide +kernel
theorem dX4_reading_37 : decode cX4_reading 37 = .ok (.getfield 7, 3) := by decide +kernel
theorem dX4_reading_40 : decode cX4_reading 40 = .ok (.bipush 127, 2) := by decide +kernel
theorem dX4_reading_42 : decode cX4_reading 42 = .ok (.iaload, 1) := by decide +kernel
theorem dX4_reading_43 : decode cX4_reading 43 = .ok (.bipush 6, 2) := by decide +kernel
theorem dX4_reading_45 : decode cX4_reading 45 = .ok (.if_icmp .ne 8, 3) := by decide +kernel
theorem dX4_reading_48 : decode cX4_reading 48 = .ok (.aload_n 0, 1) := by decide +kernel
theorem dX4_reading_49 : decode cX4_reading 49 = .ok (.invokevirtual 81, 3) := by decide +kernel
theorem dX4_reading_52 : decode cX4_reading 52 = .ok (.ireturn, 1) := by decide +kernel
theorem dX4_reading_53 : decode cX4_reading 53 = .ok (.sipush 128, 3) := by decide +kernel
theorem dX4_reading_56 : decode cX4_reading 56 = .ok (.iconst 3, 1) := by decide +kernel
theorem dX4_reading_57 : decode cX4_reading 57 = .ok (.aload_n 0, 1) := by decide +kernel
theorem dX4_reading_58 : decode cX4_reading 58 = .ok (.getfield 7, 3) := by decide +kernel
theorem dX4_reading_61 : decode cX4_reading 61 = .ok (.bipush 127, 2) := by decide +kernel
theorem dX4_reading_63 : decode cX4_reading 63 = .ok (.iaload, 1) := by decide +kernel
theorem dX4_reading_64 : decode cX4_reading 64 = .ok (.imul, 1) := by decide +kernel
theorem dX4_reading_65 : decode cX4_reading 65 = .ok (.iadd, 1) := by decide +kernel
theorem dX4_reading_66 : decode cX4_reading 66 = .ok (.istore 4, 2) := by decide +kernel
theorem dX4_reading_68 : decode cX4_reading 68 = .ok (.aload_n 0, 1) := by decide +kernel
theorem dX4_reading_69 : decode cX4_reading 69 = .ok (.getfield 7, 3) := by decide +kernel
theorem dX4_reading_72 : decode cX4_reading 72 = .ok (.iload 4, 2) := by decide +kernel
theorem dX4_reading_74 : decode cX4_reading 74 = .ok (.iload_n 1, 1) := by decide +kernel
theorem dX4_reading_75 : decode cX4_reading 75 = .ok (.iastore, 1) := by decide +kernel
theorem dX4_reading_76 : decode cX4_reading 76 = .ok (.aload_n 0, 1) := by decide +kernel
theorem dX4_reading_77 : decode cX4_reading 77 = .ok (.getfield 7, 3) := by decide +kernel
theorem dX4_reading_80 : decode cX4_reading 80 = .ok (.iload 4, 2) := by decide +kernel
theorem dX4_reading_82 : decode cX4_reading 82 = .ok (.iconst 1, 1) := by decide +kernel
theorem dX4_reading_83 : decode cX4_reading 83 = .ok (.iadd, 1) := by decide +kernel
theorem dX4_reading_84 : decode cX4_reading 84 = .ok (.iload_n 2, 1) := by decide +kernel
theorem dX4_reading_85 : decode cX4_reading 85 = .ok (.iastore, 1) := by decide +kernel
theorem dX4_reading_86 : decode cX4_reading 86 = .ok (.aload_n 0, 1) := by decide +kernel
theorem dX4_reading_87 : decode cX4_reading 87 = .ok (.getfield 7, 3) := by decide +kernel
theorem dX4_reading_90 : decode cX4_reading 90 = .ok (.iload 4, 2) := by decide +kernel
theorem dX4_reading_92 : decode cX4_reading 92 = .ok (.iconst 2, 1) := by decide +kernel
theorem dX4_reading_93 : decode cX4_reading 93 = .ok (.iadd, 1) := by decide +kernel
theorem dX4_reading_94 : decode cX4_reading 94 = .ok (.iload_n 3, 1) := by decide +kernel
theorem dX4_reading_95 : decode cX4_reading 95 = .ok (.iastore, 1) := by decide +kernel
theorem dX4_reading_96 : decode cX4_reading 96 = .ok (.aload_n 0, 1) := by decide +kernel
theorem dX4_reading_97 : decode cX4_reading 97 = .ok (.getfield 7, 3) := by decide +kernel
theorem dX4_reading_100 : decode cX4_reading 100 = .ok (.bipush 127, 2) := by decide +kernel
theorem dX4_reading_102 : decode cX4_reading 102 = .ok (.dup2, 1) := by decide +kernel
theorem dX4_reading_103 : decode cX4_reading 103 = .ok (.iaload, 1) := by decide +kernel
theorem dX4_reading_104 : decode cX4_reading 104 = .ok (.iconst 1, 1) := by decide +kernel
theorem dX4_reading_105 : decode cX4_reading 105 = .ok (.iadd, 1) := by decide +kernel
theorem dX4_reading_106 : decode cX4_reading 106 = .ok (.iastore, 1) := by decide +kernel
theorem dX4_reading_107 : decode cX4_reading 107 = .ok (.aload_n 0, 1) := by decide +kernel
theorem dX4_reading_108 : decode cX4_reading 108 = .ok (.getfield 7, 3) := by decide +kernel
theorem dX4_reading_111 : decode cX4_reading 111 = .ok (.bipush 127, 2) := by decide +kernel
theorem dX4_reading_113 : decode cX4_reading 113 = .ok (.iaload, 1) := by decide +kernel
theorem dX4_reading_114 : decode cX4_reading 114 = .ok (.ireturn, 1) := by decide +kernel
theorem dX4_forget_0 : decode cX4_forget 0 = .ok (.aload_n 0, 1) := by decide +kernel
theorem dX4_forget_1 : decode cX4_forget 1 = .ok (.getfield 7, 3) := by decide +kernel
theorem dX4_forget_4 : decode cX4_forget 4 = .ok (.bipush 127, 2) := by decide +kernel
theorem dX4_forget_6 : decode cX4_forget 6 = .ok (.iaload, 1) := by decide +kernel
theorem dX4_forget_7 : decode cX4_forget 7 = .ok (.istore_n 1, 1) := by decide +kernel
theorem dX4_forget_8 : decode cX4_forget 8 = .ok (.aload_n 0, 1) := by decide +kernel
theorem dX4_forget_9 : decode cX4_forget 9 = .ok (.getfield 7, 3) := by decide +kernel
theorem dX4_forget_12 : decode cX4_forget 12 = .ok (.bipush 127, 2) := by decide +kernel
theorem dX4_forget_14 : decode cX4_forget 14 = .ok (.iconst 0, 1) := by decide +kernel
theorem dX4_forget_15 : decode cX4_forget 15 = .ok (.iastore, 1) := by decide +kernel
theorem dX4_forget_16 : decode cX4_forget 16 = .ok (.iload_n 1, 1) := by decide +kernel
theorem dX4_forget_17 : decode cX4_forget 17 = .ok (.ireturn, 1) := by decide +kernel
theorem dX4_leftOf_0 : decode cX4_leftOf 0 = .ok (.aload_n 0, 1) := by decide +kernel
theorem dX4_leftOf_1 : decode cX4_leftOf 1 = .ok (.getfield 7, 3) := by decide +kernel
theorem dX4_leftOf_4 : decode cX4_leftOf 4 = .ok (.aload_n 0, 1) := by decide +kernel
theorem dX4_leftOf_5 : decode cX4_leftOf 5 = .ok (.iconst 0, 1) := by decide +kernel
theorem dX4_leftOf_6 : decode cX4_leftOf 6 = .ok (.iload_n 1, 1) := by decide +kernel
theorem dX4_leftOf_7 : decode cX4_leftOf 7 = .ok (.invokevirtual 94, 3) := by decide +kernel
theorem dX4_leftOf_10 : decode cX4_leftOf 10 = .ok (.iconst 2, 1) := by decide +kernel
theorem dX4_leftOf_11 : decode cX4_leftOf 11 = .ok (.iadd, 1) := by decide +kernel
theorem dX4_leftOf_12 : decode cX4_leftOf 12 = .ok (.iaload, 1) := by decide +kernel
theorem dX4_leftOf_13 : decode cX4_leftOf 13 = .ok (.istore 4, 2) := by decide +kernel
theorem dX4_leftOf_15 : decode cX4_leftOf 15 = .ok (.iconst 0, 1) := by decide +kernel
theorem dX4_leftOf_16 : decode cX4_leftOf 16 = .ok (.istore 5, 2) := by decide +kernel
theorem dX4_leftOf_18 : decode cX4_leftOf 18 = .ok (.iload 5, 2) := by decide +kernel
theorem dX4_leftOf_20 : decode cX4_leftOf 20 = .ok (.iload_n 3, 1) := by decide +kernel
theorem dX4_leftOf_21 : decode cX4_leftOf 21 = .ok (.if_icmp .ge 36, 3) := by decide +kernel
theorem dX4_leftOf_24 : decode cX4_leftOf 24 = .ok (.iload 4, 2) := by decide +kernel
theorem dX4_leftOf_26 : decode cX4_leftOf 26 = .ok (.iload_n 2, 1) := by decide +kernel
theorem dX4_leftOf_27 : decode cX4_leftOf 27 = .ok (.aload_n 0, 1) := by decide +kernel
theorem dX4_leftOf_28 : decode cX4_leftOf 28 = .ok (.getfield 7, 3) := by decide +kernel
theorem dX4_leftOf_31 : decode cX4_leftOf 31 = .ok (.bipush 118, 2) := by decide +kernel
theorem dX4_leftOf_33 : decode cX4_leftOf 33 = .ok (.iload_n 1, 1) := by decide +kernel
theorem dX4_leftOf_34 : decode cX4_leftOf 34 = .ok (.iadd, 1) := by decide +kernel
theorem dX4_leftOf_35 : decode cX4_leftOf 35 = .ok (.iaload, 1) := by decide +kernel
theorem dX4_leftOf_36 : decode cX4_leftOf 36 = .ok (.aload_n 0, 1) := by decide +kernel
theorem dX4_leftOf_37 : decode cX4_leftOf 37 = .ok (.getfield 7, 3) := by decide +kernel
theorem dX4_leftOf_40 : decode cX4_leftOf 40 = .ok (.iconst 0, 1) := by decide +kernel
theorem dX4_leftOf_41 : decode cX4_leftOf 41 = .ok (.iaload, 1) := by decide +kernel
theorem dX4_leftOf_42 : decode cX4_leftOf 42 = .ok (.iload 5, 2) := by decide +kernel
theorem dX4_leftOf_44 : decode cX4_leftOf 44 = .ok (.iadd, 1) := by decide +kernel
theorem dX4_leftOf_45 : decode cX4_leftOf 45 = .ok (.invokestatic 97, 3) := by decide +kernel
theorem dX4_leftOf_48 : decode cX4_leftOf 48 = .ok (.isub, 1) := by decide +kernel
theorem dX4_leftOf_49 : decode cX4_leftOf 49 = .ok (.istore 4, 2) := by decide +kernel
theorem dX4_leftOf_51 : decode cX4_leftOf 51 = .ok (.iinc 5 1, 3) := by decide +kernel
theorem dX4_leftOf_54 : decode cX4_leftOf 54 = .ok (.goto (-36), 3) := by decide +kernel
theorem dX4_leftOf_57 : decode cX4_leftOf 57 = .ok (.iload 4, 2) := by decide +kernel
theorem dX4_leftOf_59 : decode cX4_leftOf 59 = .ok (.ifCond .ge 7, 3) := by decide +kernel
theorem dX4_leftOf_62 : decode cX4_leftOf 62 = .ok (.iconst 0, 1) := by decide +kernel
theorem dX4_leftOf_63 : decode cX4_leftOf 63 = .ok (.goto 5, 3) := by decide +kernel
theorem dX4_leftOf_66 : decode cX4_leftOf 66 = .ok (.iload 4, 2) := by decide +kernel
theorem dX4_leftOf_68 : decode cX4_leftOf 68 = .ok (.ireturn, 1) := by decide +kernel
theorem dX4_kindsOf_0 : decode cX4_kindsOf 0 = .ok (.iconst 0, 1) := by decide +kernel
theorem dX4_kindsOf_1 : decode cX4_kindsOf 1 = .ok (.istore_n 2, 1) := by decide +kernel
theorem dX4_kindsOf_2 : decode cX4_kindsOf 2 = .ok (.iconst 0, 1) := by decide +kernel
theorem dX4_kindsOf_3 : decode cX4_kindsOf 3 = .ok (.istore_n 3, 1) := by decide +kernel
theorem dX4_kindsOf_4 : decode cX4_kindsOf 4 = .ok (.iload_n 3, 1) := by decide +kernel
theorem dX4_kindsOf_5 : decode cX4_kindsOf 5 = .ok (.bipush 6, 2) := by decide +kernel
theorem dX4_kindsOf_7 : decode cX4_kindsOf 7 = .ok (.if_icmp .ge 119, 3) := by decide +kernel
theorem dX4_kindsOf_10 : decode cX4_kindsOf 10 = .ok (.aload_n 0, 1) := by decide +kernel
theorem dX4_kindsOf_11 : decode cX4_kindsOf 11 = .ok (.getfield 7, 3) := by decide +kernel
theorem dX4_kindsOf_14 : decode cX4_kindsOf 14 = .ok (.iconst 1, 1) := by decide +kernel
theorem dX4_kindsOf_15 : decode cX4_kindsOf 15 = .ok (.iload_n 1, 1) := by decide +kernel
theorem dX4_kindsOf_16 : decode cX4_kindsOf 16 = .ok (.iadd, 1) := by decide +kernel
theorem dX4_kindsOf_17 : decode cX4_kindsOf 17 = .ok (.iaload, 1) := by decide +kernel
theorem dX4_kindsOf_18 : decode cX4_kindsOf 18 = .ok (.ifCond .le 108, 3) := by decide +kernel
theorem dX4_kindsOf_21 : decode cX4_kindsOf 21 = .ok (.iconst 1, 1) := by decide +kernel
theorem dX4_kindsOf_22 : decode cX4_kindsOf 22 = .ok (.istore 4, 2) := by decide +kernel
theorem dX4_kindsOf_24 : decode cX4_kindsOf 24 = .ok (.iconst 0, 1) := by decide +kernel
theorem dX4_kindsOf_25 : decode cX4_kindsOf 25 = .ok (.istore 5, 2) := by decide +kernel
theorem dX4_kindsOf_27 : decode cX4_kindsOf 27 = .ok (.iload 5, 2) := by decide +kernel
theorem dX4_kindsOf_29 : decode cX4_kindsOf 29 = .ok (.aload_n 0, 1) := by decide +kernel
theorem dX4_kindsOf_30 : decode cX4_kindsOf 30 = .ok (.getfield 7, 3) := by decide +kernel
theorem dX4_kindsOf_33 : decode cX4_kindsOf 33 = .ok (.bipush 127, 2) := by decide +kernel
theorem dX4_kindsOf_35 : decode cX4_kindsOf 35 = .ok (.iaload, 1) := by decide +kernel
theorem dX4_kindsOf_36 : decode cX4_kindsOf 36 = .ok (.if_icmp .ge 69, 3) := by decide +kernel
theorem dX4_kindsOf_39 : decode cX4_kindsOf 39 = .ok (.sipush 128, 3) := by decide +kernel
theorem dX4_kindsOf_42 : decode cX4_kindsOf 42 = .ok (.iconst 3, 1) := by decide +kernel
theorem dX4_kindsOf_43 : decode cX4_kindsOf 43 = .ok (.iload 5, 2) := by decide +kernel
theorem dX4_kindsOf_45 : decode cX4_kindsOf 45 = .ok (.imul, 1) := by decide +kernel
theorem dX4_kindsOf_46 : decode cX4_kindsOf 46 = .ok (.iadd, 1) := by decide +kernel
theorem dX4_kindsOf_47 : decode cX4_kindsOf 47 = .ok (.istore 6, 2) := by decide +kernel
theorem dX4_kindsOf_49 : decode cX4_kindsOf 49 = .ok (.iload 4, 2) := by decide +kernel
theorem dX4_kindsOf_51 : decode cX4_kindsOf 51 = .ok (.ifCond .eq 45, 3) := by decide +kernel
theorem dX4_kindsOf_54 : decode cX4_kindsOf 54 = .ok (.aload_n 0, 1) := by decide +kernel
theorem dX4_kindsOf_55 : decode cX4_kindsOf 55 = .ok (.getfield 7, 3) := by decide +kernel
theorem dX4_kindsOf_58 : decode cX4_kindsOf 58 = .ok (.iload 6, 2) := by decide +kernel
theorem dX4_kindsOf_60 : decode cX4_kindsOf 60 = .ok (.iaload, 1) := by decide +kernel
theorem dX4_kindsOf_61 : decode cX4_kindsOf 61 = .ok (.iload_n 1, 1) := by decide +kernel
theorem dX4_kindsOf_62 : decode cX4_kindsOf 62 = .ok (.if_icmp .ne 30, 3) := by decide +kernel
theorem dX4_kindsOf_65 : decode cX4_kindsOf 65 = .ok (.aload_n 0, 1) := by decide +kernel
theorem dX4_kindsOf_66 : decode cX4_kindsOf 66 = .ok (.iload_n 1, 1) := by decide +kernel
theorem dX4_kindsOf_67 : decode cX4_kindsOf 67 = .ok (.iload_n 3, 1) := by decide +kernel
theorem dX4_kindsOf_68 : decode cX4_kindsOf 68 = .ok (.aload_n 0, 1) := by decide +kernel
theorem dX4_kindsOf_69 : decode cX4_kindsOf 69 = .ok (.getfield 7, 3) := by decide +kernel
theorem dX4_kindsOf_72 : decode cX4_kindsOf 72 = .ok (.iload 6, 2) := by decide +kernel
theorem dX4_kindsOf_74 : decode cX4_kindsOf 74 = .ok (.iconst 1, 1) := by decide +kernel
theorem dX4_kindsOf_75 : decode cX4_kindsOf 75 = .ok (.iadd, 1) := by decide +kernel
theorem dX4_kindsOf_76 : decode cX4_kindsOf 76 = .ok (.iaload, 1) := by decide +kernel
theorem dX4_kindsOf_77 : decode cX4_kindsOf 77 = .ok (.invokevirtual 218, 3) := by decide +kernel
theorem dX4_kindsOf_80 : decode cX4_kindsOf 80 = .ok (.aload_n 0, 1) := by decide +kernel
theorem dX4_kindsOf_81 : decode cX4_kindsOf 81 = .ok (.getfield 7, 3) := by decide +kernel
theorem dX4_kindsOf_84 : decode cX4_kindsOf 84 = .ok (.iload 6, 2) := by decide +kernel
theorem dX4_kindsOf_86 : decode cX4_kindsOf 86 = .ok (.iconst 2, 1) := by decide +kernel
theorem dX4_kindsOf_87 : decode cX4_kindsOf 87 = .ok (.iadd, 1) := by decide +kernel
theorem dX4_kindsOf_88 : decode cX4_kindsOf 88 = .ok (.iaload, 1) := by decide +kernel
theorem dX4_kindsOf_89 : decode cX4_kindsOf 89 = .ok (.if_icmp .ne 7, 3) := by decide +kernel
theorem dX4_kindsOf_92 : decode cX4_kindsOf 92 = .ok (.iconst 1, 1) := by decide +kernel
theorem dX4_kindsOf_93 : decode cX4_kindsOf 93 = .ok (.goto 4, 3) := by decide +kernel
theorem dX4_kindsOf_96 : decode cX4_kindsOf 96 = .ok (.iconst 0, 1) := by decide +kernel
theorem dX4_kindsOf_97 : decode cX4_kindsOf 97 = .ok (.istore 4, 2) := by decide +kernel
theorem dX4_kindsOf_99 : decode cX4_kindsOf 99 = .ok (.iinc 5 1, 3) := by decide +kernel
theorem dX4_kindsOf_102 : decode cX4_kindsOf 102 = .ok (.goto (-75), 3) := by decide +kernel
theorem dX4_kindsOf_105 : decode cX4_kindsOf 105 = .ok (.iload_n 2, 1) := by decide +kernel
theorem dX4_kindsOf_106 : decode cX4_kindsOf 106 = .ok (.iload 4, 2) := by decide +kernel
theorem dX4_kindsOf_108 : decode cX4_kindsOf 108 = .ok (.ifCond .eq 9, 3) := by decide +kernel
theorem dX4_kindsOf_111 : decode cX4_kindsOf 111 = .ok (.iconst 1, 1) := by decide +kernel
theorem dX4_kindsOf_112 : decode cX4_kindsOf 112 = .ok (.iload_n 3, 1) := by decide +kernel
theorem dX4_kindsOf_113 : decode cX4_kindsOf 113 = .ok (.ishl, 1) := by decide +kernel
theorem dX4_kindsOf_114 : decode cX4_kindsOf 114 = .ok (.goto 4, 3) := by decide +kernel
theorem dX4_kindsOf_117 : decode cX4_kindsOf 117 = .ok (.iconst 0, 1) := by decide +kernel
theorem dX4_kindsOf_118 : decode cX4_kindsOf 118 = .ok (.ior, 1) := by decide +kernel
theorem dX4_kindsOf_119 : decode cX4_kindsOf 119 = .ok (.istore_n 2, 1) := by decide +kernel
theorem dX4_kindsOf_120 : decode cX4_kindsOf 120 = .ok (.iinc 3 1, 3) := by decide +kernel
theorem dX4_kindsOf_123 : decode cX4_kindsOf 123 = .ok (.goto (-119), 3) := by decide +kernel
theorem dX4_kindsOf_126 : decode cX4_kindsOf 126 = .ok (.iload_n 2, 1) := by decide +kernel
theorem dX4_kindsOf_127 : decode cX4_kindsOf 127 = .ok (.ireturn, 1) := by decide +kernel
theorem dX4_may_0 : decode cX4_may 0 = .ok (.iload_n 1, 1) := by decide +kernel
theorem dX4_may_1 : decode cX4_may 1 = .ok (.invokestatic 49, 3) := by decide +kernel
theorem dX4_may_4 : decode cX4_may 4 = .ok (.ifCond .eq 11, 3) := by decide +kernel
theorem dX4_may_7 : decode cX4_may 7 = .ok (.aload_n 0, 1) := by decide +kernel
theorem dX4_may_8 : decode cX4_may 8 = .ok (.iload_n 1, 1) := by decide +kernel
theorem dX4_may_9 : decode cX4_may 9 = .ok (.invokevirtual 221, 3) := by decide +kernel
theorem dX4_may_12 : decode cX4_may 12 = .ok (.goto 7, 3) := by decide +kernel
theorem dX4_may_15 : decode cX4_may 15 = .ok (.aload_n 0, 1) := by decide +kernel
theorem dX4_may_16 : decode cX4_may 16 = .ok (.invokevirtual 65, 3) := by decide +kernel
theorem dX4_may_19 : decode cX4_may 19 = .ok (.ireturn, 1) := by decide +kernel
theorem dX4_look_0 : decode cX4_look 0 = .ok (.iload_n 1, 1) := by decide +kernel
theorem dX4_look_1 : decode cX4_look 1 = .ok (.invokestatic 49, 3) := by decide +kernel
theorem dX4_look_4 : decode cX4_look 4 = .ok (.ifCond .ne 8, 3) := by decide +kernel
theorem dX4_look_7 : decode cX4_look 7 = .ok (.aload_n 0, 1) := by decide +kernel
theorem dX4_look_8 : decode cX4_look 8 = .ok (.invokevirtual 65, 3) := by decide +kernel
theorem dX4_look_11 : decode cX4_look 11 = .ok (.ireturn, 1) := by decide +kernel
theorem dX4_look_12 : decode cX4_look 12 = .ok (.aload_n 0, 1) := by decide +kernel
theorem dX4_look_13 : decode cX4_look 13 = .ok (.iload_n 1, 1) := by decide +kernel
theorem dX4_look_14 : decode cX4_look 14 = .ok (.invokevirtual 221, 3) := by decide +kernel
theorem dX4_look_17 : decode cX4_look 17 = .ok (.istore_n 2, 1) := by decide +kernel
theorem dX4_look_18 : decode cX4_look 18 = .ok (.iconst (-1), 1) := by decide +kernel
theorem dX4_look_19 : decode cX4_look 19 = .ok (.istore_n 3, 1) := by decide +kernel
theorem dX4_look_20 : decode cX4_look 20 = .ok (.bipush 7, 2) := by decide +kernel
theorem dX4_look_22 : decode cX4_look 22 = .ok (.istore 4, 2) := by decide +kernel
theorem dX4_look_24 : decode cX4_look 24 = .ok (.iconst 0, 1) := by decide +kernel
theorem dX4_look_25 : decode cX4_look 25 = .ok (.istore 5, 2) := by decide +kernel
theorem dX4_look_27 : decode cX4_look 27 = .ok (.iload 5, 2) := by decide +kernel
theorem dX4_look_29 : decode cX4_look 29 = .ok (.bipush 20, 2) := by decide +kernel
theorem dX4_look_31 : decode cX4_look 31 = .ok (.if_icmp .gt 158, 3) := by decide +kernel
theorem dX4_look_34 : decode cX4_look 34 = .ok (.iload_n 2, 1) := by decide +kernel
theorem dX4_look_35 : decode cX4_look 35 = .ok (.ifCond .eq 154, 3) := by decide +kernel
theorem dX4_look_38 : decode cX4_look 38 = .ok (.iconst 0, 1) := by decide +kernel
theorem dX4_look_39 : decode cX4_look 39 = .ok (.istore 6, 2) := by decide +kernel
theorem dX4_look_41 : decode cX4_look 41 = .ok (.iconst 0, 1) := by decide +kernel
theorem dX4_look_42 : decode cX4_look 42 = .ok (.istore 7, 2) := by decide +kernel
theorem dX4_look_44 : decode cX4_look 44 = .ok (.iload 7, 2) := by decide +kernel
theorem dX4_look_46 : decode cX4_look 46 = .ok (.bipush 6, 2) := by decide +kernel
theorem dX4_look_48 : decode cX4_look 48 = .ok (.if_icmp .ge 105, 3) := by decide +kernel
theorem dX4_look_51 : decode cX4_look 51 = .ok (.iconst 0, 1) := by decide +kernel
theorem dX4_look_52 : decode cX4_look 52 = .ok (.istore 8, 2) := by decide +kernel
theorem dX4_look_54 : decode cX4_look 54 = .ok (.iconst 0, 1) := by decide +kernel
theorem dX4_look_55 : decode cX4_look 55 = .ok (.istore 9, 2) := by decide +kernel
theorem dX4_look_57 : decode cX4_look 57 = .ok (.iload 9, 2) := by decide +kernel
theorem dX4_look_59 : decode cX4_look 59 = .ok (.bipush 6, 2) := by decide +kernel
theorem dX4_look_61 : decode cX4_look 61 = .ok (.if_icmp .ge 70, 3) := by decide +kernel
theorem dX4_look_64 : decode cX4_look 64 = .ok (.iload_n 2, 1) := by decide +kernel
theorem dX4_look_65 : decode cX4_look 65 = .ok (.iload 7, 2) := by decide +kernel
theorem dX4_look_67 : decode cX4_look 67 = .ok (.invokestatic 224, 3) := by decide +kernel
theorem dX4_look_70 : decode cX4_look 70 = .ok (.ifCond .eq 16, 3) := by decide +kernel
theorem dX4_look_73 : decode cX4_look 73 = .ok (.iload_n 2, 1) := by decide +kernel
theorem dX4_look_74 : decode cX4_look 74 = .ok (.iload 9, 2) := by decide +kernel
theorem dX4_look_76 : decode cX4_look 76 = .ok (.invokestatic 224, 3) := by decide +kernel
theorem dX4_look_79 : decode cX4_look 79 = .ok (.ifCond .eq 7, 3) := by decide +kernel
theorem dX4_look_82 : decode cX4_look 82 = .ok (.iconst 1, 1) := by decide +kernel
theorem dX4_look_83 : decode cX4_look 83 = .ok (.goto 4, 3) := by decide +kernel
theorem dX4_look_86 : decode cX4_look 86 = .ok (.iconst 0, 1) := by decide +kernel
theorem dX4_look_87 : decode cX4_look 87 = .ok (.istore 10, 2) := by decide +kernel
theorem dX4_look_89 : decode cX4_look 89 = .ok (.iload 8, 2) := by decide +kernel
theorem dX4_look_91 : decode cX4_look 91 = .ok (.iload 10, 2) := by decide +kernel
theorem dX4_look_93 : decode cX4_look 93 = .ok (.ifCond .eq 28, 3) := by decide +kernel
theorem dX4_look_96 : decode cX4_look 96 = .ok (.aload_n 0, 1) := by decide +kernel
theorem dX4_look_97 : decode cX4_look 97 = .ok (.iload_n 1, 1) := by decide +kernel
theorem dX4_look_98 : decode cX4_look 98 = .ok (.iload 7, 2) := by decide +kernel
theorem dX4_look_100 : decode cX4_look 100 = .ok (.iload 5, 2) := by decide +kernel
theorem dX4_look_102 : decode cX4_look 102 = .ok (.invokevirtual 218, 3) := by decide +kernel
theorem dX4_look_105 : decode cX4_look 105 = .ok (.aload_n 0, 1) := by decide +kernel
theorem dX4_look_106 : decode cX4_look 106 = .ok (.iload_n 1, 1) := by decide +kernel
theorem dX4_look_107 : decode cX4_look 107 = .ok (.iload 9, 2) := by decide +kernel
theorem dX4_look_109 : decode cX4_look 109 = .ok (.iload 5, 2) := by decide +kernel
theorem dX4_look_111 : decode cX4_look 111 = .ok (.invokevirtual 218, 3) := by decide +kernel
theorem dX4_look_114 : decode cX4_look 114 = .ok (.if_icmp .ne 7, 3) := by decide +kernel
theorem dX4_look_117 : decode cX4_look 117 = .ok (.iconst 1, 1) := by decide +kernel
theorem dX4_look_118 : decode cX4_look 118 = .ok (.goto 4, 3) := by decide +kernel
theorem dX4_look_121 : decode cX4_look 121 = .ok (.iconst 0, 1) := by decide +kernel
theorem dX4_look_122 : decode cX4_look 122 = .ok (.iadd, 1) := by decide +kernel
theorem dX4_look_123 : decode cX4_look 123 = .ok (.istore 8, 2) := by decide +kernel
theorem dX4_look_125 : decode cX4_look 125 = .ok (.iinc 9 1, 3) := by decide +kernel
theorem dX4_look_128 : decode cX4_look 128 = .ok (.goto (-71), 3) := by decide +kernel
theorem dX4_look_131 : decode cX4_look 131 = .ok (.iload 8, 2) := by decide +kernel
theorem dX4_look_133 : decode cX4_look 133 = .ok (.iload 6, 2) := by decide +kernel
theorem dX4_look_135 : decode cX4_look 135 = .ok (.if_icmp .le 8, 3) := by decide +kernel
theorem dX4_look_138 : decode cX4_look 138 = .ok (.iload 8, 2) := by decide +kernel
theorem dX4_look_140 : decode cX4_look 140 = .ok (.goto 5, 3) := by decide +kernel
theorem dX4_look_143 : decode cX4_look 143 = .ok (.iload 6, 2) := by decide +kernel
theorem dX4_look_145 : decode cX4_look 145 = .ok (.istore 6, 2) := by decide +kernel
theorem dX4_look_147 : decode cX4_look 147 = .ok (.iinc 7 1, 3) := by decide +kernel
theorem dX4_look_150 : decode cX4_look 150 = .ok (.goto (-106), 3) := by decide +kernel
theorem dX4_look_153 : decode cX4_look 153 = .ok (.iload 6, 2) := by decide +kernel
theorem dX4_look_155 : decode cX4_look 155 = .ok (.iload 4, 2) := by decide +kernel
theorem dX4_look_157 : decode cX4_look 157 = .ok (.if_icmp .ge 8, 3) := by decide +kernel
theorem dX4_look_160 : decode cX4_look 160 = .ok (.iload 5, 2) := by decide +kernel
theorem dX4_look_162 : decode cX4_look 162 = .ok (.goto 4, 3) := by decide +kernel
theorem dX4_look_165 : decode cX4_look 165 = .ok (.iload_n 3, 1) := by decide +kernel
theorem dX4_look_166 : decode cX4_look 166 = .ok (.istore_n 3, 1) := by decide +kernel
theorem dX4_look_167 : decode cX4_look 167 = .ok (.iload 6, 2) := by decide +kernel
theorem dX4_look_169 : decode cX4_look 169 = .ok (.iload 4, 2) := by decide +kernel
theorem dX4_look_171 : decode cX4_look 171 = .ok (.if_icmp .ge 8, 3) := by decide +kernel
theorem dX4_look_174 : decode cX4_look 174 = .ok (.iload 6, 2) := by decide +kernel
theorem dX4_look_176 : decode cX4_look 176 = .ok (.goto 5, 3) := by decide +kernel
theorem dX4_look_179 : decode cX4_look 179 = .ok (.iload 4, 2) := by decide +kernel
theorem dX4_look_181 : decode cX4_look 181 = .ok (.istore 4, 2) := by decide +kernel
theorem dX4_look_183 : decode cX4_look 183 = .ok (.iinc 5 1, 3) := by decide +kernel
theorem dX4_look_186 : decode cX4_look 186 = .ok (.goto (-159), 3) := by decide +kernel
theorem dX4_look_189 : decode cX4_look 189 = .ok (.iload_n 3, 1) := by decide +kernel
theorem dX4_look_190 : decode cX4_look 190 = .ok (.ireturn, 1) := by decide +kernel
theorem dX4_yearOf_0 : decode cX4_yearOf 0 = .ok (.aload_n 0, 1) := by decide +kernel
theorem dX4_yearOf_1 : decode cX4_yearOf 1 = .ok (.getfield 7, 3) := by decide +kernel
theorem dX4_yearOf_4 : decode cX4_yearOf 4 = .ok (.aload_n 0, 1) := by decide +kernel
theorem dX4_yearOf_5 : decode cX4_yearOf 5 = .ok (.getfield 33, 3) := by decide +kernel
theorem dX4_yearOf_8 : decode cX4_yearOf 8 = .ok (.iload_n 1, 1) := by decide +kernel
theorem dX4_yearOf_9 : decode cX4_yearOf 9 = .ok (.iaload, 1) := by decide +kernel
theorem dX4_yearOf_10 : decode cX4_yearOf 10 = .ok (.bipush 10, 2) := by decide +kernel
theorem dX4_yearOf_12 : decode cX4_yearOf 12 = .ok (.idiv, 1) := by decide +kernel
theorem dX4_yearOf_13 : decode cX4_yearOf 13 = .ok (.aload_n 0, 1) := by decide +kernel
theorem dX4_yearOf_14 : decode cX4_yearOf 14 = .ok (.getfield 33, 3) := by decide +kernel
theorem dX4_yearOf_17 : decode cX4_yearOf 17 = .ok (.iload_n 1, 1) := by decide +kernel
theorem dX4_yearOf_18 : decode cX4_yearOf 18 = .ok (.iaload, 1) := by decide +kernel
theorem dX4_yearOf_19 : decode cX4_yearOf 19 = .ok (.bipush 10, 2) := by decide +kernel
theorem dX4_yearOf_21 : decode cX4_yearOf 21 = .ok (.irem, 1) := by decide +kernel
theorem dX4_yearOf_22 : decode cX4_yearOf 22 = .ok (.invokestatic 59, 3) := by decide +kernel
theorem dX4_yearOf_25 : decode cX4_yearOf 25 = .ok (.iconst 3, 1) := by decide +kernel
theorem dX4_yearOf_26 : decode cX4_yearOf 26 = .ok (.iadd, 1) := by decide +kernel
theorem dX4_yearOf_27 : decode cX4_yearOf 27 = .ok (.iaload, 1) := by decide +kernel
theorem dX4_yearOf_28 : decode cX4_yearOf 28 = .ok (.ireturn, 1) := by decide +kernel
theorem dX4_canCome_0 : decode cX4_canCome 0 = .ok (.iload_n 1, 1) := by decide +kernel
theorem dX4_canCome_1 : decode cX4_canCome 1 = .ok (.iload_n 2, 1) := by decide +kernel
theorem dX4_canCome_2 : decode cX4_canCome 2 = .ok (.invokestatic 224, 3) := by decide +kernel
theorem dX4_canCome_5 : decode cX4_canCome 5 = .ok (.ifCond .ne 7, 3) := by decide +kernel
theorem dX4_canCome_8 : decode cX4_canCome 8 = .ok (.iconst 1, 1) := by decide +kernel
theorem dX4_canCome_9 : decode cX4_canCome 9 = .ok (.goto 4, 3) := by decide +kernel
theorem dX4_canCome_12 : decode cX4_canCome 12 = .ok (.iconst 0, 1) := by decide +kernel
theorem dX4_canCome_13 : decode cX4_canCome 13 = .ok (.istore_n 3, 1) := by decide +kernel
theorem dX4_canCome_14 : decode cX4_canCome 14 = .ok (.iconst 0, 1) := by decide +kernel
theorem dX4_canCome_15 : decode cX4_canCome 15 = .ok (.istore 4, 2) := by decide +kernel
theorem dX4_canCome_17 : decode cX4_canCome 17 = .ok (.iload 4, 2) := by decide +kernel
theorem dX4_canCome_19 : decode cX4_canCome 19 = .ok (.aload_n 0, 1) := by decide +kernel
theorem dX4_canCome_20 : decode cX4_canCome 20 = .ok (.getfield 228, 3) := by decide +kernel
theorem dX4_canCome_23 : decode cX4_canCome 23 = .ok (.if_icmp .ge 82, 3) := by decide +kernel
theorem dX4_canCome_26 : decode cX4_canCome 26 = .ok (.aload_n 0, 1) := by decide +kernel
theorem dX4_canCome_27 : decode cX4_canCome 27 = .ok (.getfield 33, 3) := by decide +kernel
theorem dX4_canCome_30 : decode cX4_canCome 30 = .ok (.iload 4, 2) := by decide +kernel
theorem dX4_canCome_32 : decode cX4_canCome 32 = .ok (.iaload, 1) := by decide +kernel
theorem dX4_canCome_33 : decode cX4_canCome 33 = .ok (.bipush 10, 2) := by decide +kernel
theorem dX4_canCome_35 : decode cX4_canCome 35 = .ok (.idiv, 1) := by decide +kernel
theorem dX4_canCome_36 : decode cX4_canCome 36 = .ok (.aload_n 0, 1) := by decide +kernel
theorem dX4_canCome_37 : decode cX4_canCome 37 = .ok (.getfield 33, 3) := by decide +kernel
theorem dX4_canCome_40 : decode cX4_canCome 40 = .ok (.iload_n 2, 1) := by decide +kernel
theorem dX4_canCome_41 : decode cX4_canCome 41 = .ok (.iaload, 1) := by decide +kernel
theorem dX4_canCome_42 : decode cX4_canCome 42 = .ok (.bipush 10, 2) := by decide +kernel
theorem dX4_canCome_44 : decode cX4_canCome 44 = .ok (.idiv, 1) := by decide +kernel
theorem dX4_canCome_45 : decode cX4_canCome 45 = .ok (.if_icmp .ne 13, 3) := by decide +kernel
theorem dX4_canCome_48 : decode cX4_canCome 48 = .ok (.iload 4, 2) := by decide +kernel
theorem dX4_canCome_50 : decode cX4_canCome 50 = .ok (.iload_n 2, 1) := by decide +kernel
theorem dX4_canCome_51 : decode cX4_canCome 51 = .ok (.if_icmp .ge 7, 3) := by decide +kernel
theorem dX4_canCome_54 : decode cX4_canCome 54 = .ok (.iconst 1, 1) := by decide +kernel
theorem dX4_canCome_55 : decode cX4_canCome 55 = .ok (.goto 4, 3) := by decide +kernel
theorem dX4_canCome_58 : decode cX4_canCome 58 = .ok (.iconst 0, 1) := by decide +kernel
theorem dX4_canCome_59 : decode cX4_canCome 59 = .ok (.istore 5, 2) := by decide +kernel
theorem dX4_canCome_61 : decode cX4_canCome 61 = .ok (.iload_n 3, 1) := by decide +kernel
theorem dX4_canCome_62 : decode cX4_canCome 62 = .ok (.ifCond .eq 35, 3) := by decide +kernel
theorem dX4_canCome_65 : decode cX4_canCome 65 = .ok (.iload_n 1, 1) := by decide +kernel
theorem dX4_canCome_66 : decode cX4_canCome 66 = .ok (.iload 4, 2) := by decide +kernel
theorem dX4_canCome_68 : decode cX4_canCome 68 = .ok (.invokestatic 224, 3) := by decide +kernel
theorem dX4_canCome_71 : decode cX4_canCome 71 = .ok (.ifCond .ne 22, 3) := by decide +kernel
theorem dX4_canCome_74 : decode cX4_canCome 74 = .ok (.iload 5, 2) := by decide +kernel
theorem dX4_canCome_76 : decode cX4_canCome 76 = .ok (.ifCond .ne 21, 3) := by decide +kernel
theorem dX4_canCome_79 : decode cX4_canCome 79 = .ok (.aload_n 0, 1) := by decide +kernel
theorem dX4_canCome_80 : decode cX4_canCome 80 = .ok (.iload 4, 2) := by decide +kernel
theorem dX4_canCome_82 : decode cX4_canCome 82 = .ok (.invokevirtual 231, 3) := by decide +kernel
theorem dX4_canCome_85 : decode cX4_canCome 85 = .ok (.aload_n 0, 1) := by decide +kernel
theorem dX4_canCome_86 : decode cX4_canCome 86 = .ok (.iload_n 2, 1) := by decide +kernel
theorem dX4_canCome_87 : decode cX4_canCome 87 = .ok (.invokevirtual 231, 3) := by decide +kernel
theorem dX4_canCome_90 : decode cX4_canCome 90 = .ok (.if_icmp .lt 7, 3) := by decide +kernel
theorem dX4_canCome_93 : decode cX4_canCome 93 = .ok (.iconst 1, 1) := by decide +kernel
theorem dX4_canCome_94 : decode cX4_canCome 94 = .ok (.goto 4, 3) := by decide +kernel
theorem dX4_canCome_97 : decode cX4_canCome 97 = .ok (.iconst 0, 1) := by decide +kernel
theorem dX4_canCome_98 : decode cX4_canCome 98 = .ok (.istore_n 3, 1) := by decide +kernel
theorem dX4_canCome_99 : decode cX4_canCome 99 = .ok (.iinc 4 1, 3) := by decide +kernel
theorem dX4_canCome_102 : decode cX4_canCome 102 = .ok (.goto (-85), 3) := by decide +kernel
theorem dX4_canCome_105 : decode cX4_canCome 105 = .ok (.iload_n 3, 1) := by decide +kernel
theorem dX4_canCome_106 : decode cX4_canCome 106 = .ok (.ireturn, 1) := by decide +kernel
theorem dX4_orders_0 : decode cX4_orders 0 = .ok (.iload_n 1, 1) := by decide +kernel
theorem dX4_orders_1 : decode cX4_orders 1 = .ok (.i2l, 1) := by decide +kernel
theorem dX4_orders_2 : decode cX4_orders 2 = .ok (.lconst 0, 1) := by decide +kernel
theorem dX4_orders_3 : decode cX4_orders 3 = .ok (.ldc2_w 234, 3) := by decide +kernel
theorem dX4_orders_6 : decode cX4_orders 6 = .ok (.invokestatic 45, 3) := by decide +kernel
theorem dX4_orders_9 : decode cX4_orders 9 = .ok (.ifCond .eq 8, 3) := by decide +kernel
theorem dX4_orders_12 : decode cX4_orders 12 = .ok (.iload_n 2, 1) := by decide +kernel
theorem dX4_orders_13 : decode cX4_orders 13 = .ok (.iconst (-1), 1) := by decide +kernel
theorem dX4_orders_14 : decode cX4_orders 14 = .ok (.if_icmp .ge 10, 3) := by decide +kernel
theorem dX4_orders_17 : decode cX4_orders 17 = .ok (.aload_n 0, 1) := by decide +kernel
theorem dX4_orders_18 : decode cX4_orders 18 = .ok (.bipush (-10), 2) := by decide +kernel
theorem dX4_orders_20 : decode cX4_orders 20 = .ok (.invokevirtual 236, 3) := by decide +kernel
theorem dX4_orders_23 : decode cX4_orders 23 = .ok (.ireturn, 1) := by decide +kernel
theorem dX4_orders_24 : decode cX4_orders 24 = .ok (.aload_n 0, 1) := by decide +kernel
theorem dX4_orders_25 : decode cX4_orders 25 = .ok (.iconst 0, 1) := by decide +kernel
theorem dX4_orders_26 : decode cX4_orders 26 = .ok (.putfield 228, 3) := by decide +kernel
theorem dX4_orders_29 : decode cX4_orders 29 = .ok (.iconst 0, 1) := by decide +kernel
theorem dX4_orders_30 : decode cX4_orders 30 = .ok (.istore_n 3, 1) := by decide +kernel
theorem dX4_orders_31 : decode cX4_orders 31 = .ok (.iload_n 3, 1) := by decide +kernel
theorem dX4_orders_32 : decode cX4_orders 32 = .ok (.bipush 9, 2) := by decide +kernel
theorem dX4_orders_34 : decode cX4_orders 34 = .ok (.if_icmp .ge 65, 3) := by decide +kernel
theorem dX4_orders_37 : decode cX4_orders 37 = .ok (.iconst 0, 1) := by decide +kernel
theorem dX4_orders_38 : decode cX4_orders 38 = .ok (.istore 4, 2) := by decide +kernel
theorem dX4_orders_40 : decode cX4_orders 40 = .ok (.iload 4, 2) := by decide +kernel
theorem dX4_orders_42 : decode cX4_orders 42 = .ok (.aload_n 0, 1) := by decide +kernel
theorem dX4_orders_43 : decode cX4_orders 43 = .ok (.getfield 7, 3) := by decide +kernel
theorem dX4_orders_46 : decode cX4_orders 46 = .ok (.iconst 1, 1) := by decide +kernel
theorem dX4_orders_47 : decode cX4_orders 47 = .ok (.iload_n 3, 1) := by decide +kernel
theorem dX4_orders_48 : decode cX4_orders 48 = .ok (.iadd, 1) := by decide +kernel
theorem dX4_orders_49 : decode cX4_orders 49 = .ok (.iaload, 1) := by decide +kernel
theorem dX4_orders_50 : decode cX4_orders 50 = .ok (.if_icmp .ge 43, 3) := by decide +kernel
theorem dX4_orders_53 : decode cX4_orders 53 = .ok (.iload_n 1, 1) := by decide +kernel
theorem dX4_orders_54 : decode cX4_orders 54 = .ok (.iload_n 3, 1) := by decide +kernel
theorem dX4_orders_55 : decode cX4_orders 55 = .ok (.invokestatic 224, 3) := by decide +kernel
theorem dX4_orders_58 : decode cX4_orders 58 = .ok (.ifCond .eq 35, 3) := by decide +kernel
theorem dX4_orders_61 : decode cX4_orders 61 = .ok (.aload_n 0, 1) := by decide +kernel
theorem dX4_orders_62 : decode cX4_orders 62 = .ok (.getfield 33, 3) := by decide +kernel
theorem dX4_orders_65 : decode cX4_orders 65 = .ok (.aload_n 0, 1) := by decide +kernel
theorem dX4_orders_66 : decode cX4_orders 66 = .ok (.getfield 228, 3) := by decide +kernel
theorem dX4_orders_69 : decode cX4_orders 69 = .ok (.bipush 10, 2) := by decide +kernel
theorem dX4_orders_71 : decode cX4_orders 71 = .ok (.iload_n 3, 1) := by decide +kernel
theorem dX4_orders_72 : decode cX4_orders 72 = .ok (.imul, 1) := by decide +kernel
theorem dX4_orders_73 : decode cX4_orders 73 = .ok (.iload 4, 2) := by decide +kernel
theorem dX4_orders_75 : decode cX4_orders 75 = .ok (.iadd, 1) := by decide +kernel
theorem dX4_orders_76 : decode cX4_orders 76 = .ok (.iastore, 1) := by decide +kernel
theorem dX4_orders_77 : decode cX4_orders 77 = .ok (.aload_n 0, 1) := by decide +kernel
theorem dX4_orders_78 : decode cX4_orders 78 = .ok (.dup, 1) := by decide +kernel
theorem dX4_orders_79 : decode cX4_orders 79 = .ok (.getfield 228, 3) := by decide +kernel
theorem dX4_orders_82 : decode cX4_orders 82 = .ok (.iconst 1, 1) := by decide +kernel
theorem dX4_orders_83 : decode cX4_orders 83 = .ok (.iadd, 1) := by decide +kernel
theorem dX4_orders_84 : decode cX4_orders 84 = .ok (.putfield 228, 3) := by decide +kernel
theorem dX4_orders_87 : decode cX4_orders 87 = .ok (.iinc 4 1, 3) := by decide +kernel
theorem dX4_orders_90 : decode cX4_orders 90 = .ok (.goto (-50), 3) := by decide +kernel
theorem dX4_orders_93 : decode cX4_orders 93 = .ok (.iinc 3 1, 3) := by decide +kernel
theorem dX4_orders_96 : decode cX4_orders 96 = .ok (.goto (-65), 3) := by decide +kernel
theorem dX4_orders_99 : decode cX4_orders 99 = .ok (.aload_n 0, 1) := by decide +kernel
theorem dX4_orders_100 : decode cX4_orders 100 = .ok (.getfield 228, 3) := by decide +kernel
theorem dX4_orders_103 : decode cX4_orders 103 = .ok (.bipush 6, 2) := by decide +kernel
theorem dX4_orders_105 : decode cX4_orders 105 = .ok (.if_icmp .le 16, 3) := by decide +kernel
theorem dX4_orders_108 : decode cX4_orders 108 = .ok (.aload_n 0, 1) := by decide +kernel
theorem dX4_orders_109 : decode cX4_orders 109 = .ok (.getfield 20, 3) := by decide +kernel
theorem dX4_orders_112 : decode cX4_orders 112 = .ok (.iconst 1, 1) := by decide +kernel
theorem dX4_orders_113 : decode cX4_orders 113 = .ok (.dup2, 1) := by decide +kernel
theorem dX4_orders_114 : decode cX4_orders 114 = .ok (.iaload, 1) := by decide +kernel
theorem dX4_orders_115 : decode cX4_orders 115 = .ok (.iconst 1, 1) := by decide +kernel
theorem dX4_orders_116 : decode cX4_orders 116 = .ok (.iadd, 1) := by decide +kernel
theorem dX4_orders_117 : decode cX4_orders 117 = .ok (.iastore, 1) := by decide +kernel
theorem dX4_orders_118 : decode cX4_orders 118 = .ok (.bipush (-20), 2) := by decide +kernel
theorem dX4_orders_120 : decode cX4_orders 120 = .ok (.ireturn, 1) := by decide +kernel
theorem dX4_orders_121 : decode cX4_orders 121 = .ok (.iconst 1, 1) := by decide +kernel
theorem dX4_orders_122 : decode cX4_orders 122 = .ok (.aload_n 0, 1) := by decide +kernel
theorem dX4_orders_123 : decode cX4_orders 123 = .ok (.getfield 228, 3) := by decide +kernel
theorem dX4_orders_126 : decode cX4_orders 126 = .ok (.ishl, 1) := by decide +kernel
theorem dX4_orders_127 : decode cX4_orders 127 = .ok (.iconst 1, 1) := by decide +kernel
theorem dX4_orders_128 : decode cX4_orders 128 = .ok (.isub, 1) := by decide +kernel
theorem dX4_orders_129 : decode cX4_orders 129 = .ok (.istore_n 3, 1) := by decide +kernel
theorem dX4_orders_130 : decode cX4_orders 130 = .ok (.iload_n 3, 1) := by decide +kernel
theorem dX4_orders_131 : decode cX4_orders 131 = .ok (.istore 4, 2) := by decide +kernel
theorem dX4_orders_133 : decode cX4_orders 133 = .ok (.iload 4, 2) := by decide +kernel
theorem dX4_orders_135 : decode cX4_orders 135 = .ok (.ifCond .lt 81, 3) := by decide +kernel
theorem dX4_orders_138 : decode cX4_orders 138 = .ok (.iload 4, 2) := by decide +kernel
theorem dX4_orders_140 : decode cX4_orders 140 = .ok (.iload_n 3, 1) := by decide +kernel
theorem dX4_orders_141 : decode cX4_orders 141 = .ok (.if_icmp .ne 7, 3) := by decide +kernel
theorem dX4_orders_144 : decode cX4_orders 144 = .ok (.iconst 1, 1) := by decide +kernel
theorem dX4_orders_145 : decode cX4_orders 145 = .ok (.goto 4, 3) := by decide +kernel
theorem dX4_orders_148 : decode cX4_orders 148 = .ok (.iconst 0, 1) := by decide +kernel
theorem dX4_orders_149 : decode cX4_orders 149 = .ok (.istore 5, 2) := by decide +kernel
theorem dX4_orders_151 : decode cX4_orders 151 = .ok (.iconst 0, 1) := by decide +kernel
theorem dX4_orders_152 : decode cX4_orders 152 = .ok (.istore 6, 2) := by decide +kernel
theorem dX4_orders_154 : decode cX4_orders 154 = .ok (.iload 6, 2) := by decide +kernel
theorem dX4_orders_156 : decode cX4_orders 156 = .ok (.aload_n 0, 1) := by decide +kernel
theorem dX4_orders_157 : decode cX4_orders 157 = .ok (.getfield 228, 3) := by decide +kernel
theorem dX4_orders_160 : decode cX4_orders 160 = .ok (.if_icmp .ge 41, 3) := by decide +kernel
theorem dX4_orders_163 : decode cX4_orders 163 = .ok (.iload 5, 2) := by decide +kernel
theorem dX4_orders_165 : decode cX4_orders 165 = .ok (.aload_n 0, 1) := by decide +kernel
theorem dX4_orders_166 : decode cX4_orders 166 = .ok (.iload 4, 2) := by decide +kernel
theorem dX4_orders_168 : decode cX4_orders 168 = .ok (.iload 6, 2) := by decide +kernel
theorem dX4_orders_170 : decode cX4_orders 170 = .ok (.invokevirtual 239, 3) := by decide +kernel
theorem dX4_orders_173 : decode cX4_orders 173 = .ok (.ifCond .eq 18, 3) := by decide +kernel
theorem dX4_orders_176 : decode cX4_orders 176 = .ok (.aload_n 0, 1) := by decide +kernel
theorem dX4_orders_177 : decode cX4_orders 177 = .ok (.getfield 36, 3) := by decide +kernel
theorem dX4_orders_180 : decode cX4_orders 180 = .ok (.iload 4, 2) := by decide +kernel
theorem dX4_orders_182 : decode cX4_orders 182 = .ok (.iconst 1, 1) := by decide +kernel
theorem dX4_orders_183 : decode cX4_orders 183 = .ok (.iload 6, 2) := by decide +kernel
theorem dX4_orders_185 : decode cX4_orders 185 = .ok (.ishl, 1) := by decide +kernel
theorem dX4_orders_186 : decode cX4_orders 186 = .ok (.ior, 1) := by decide +kernel
theorem dX4_orders_187 : decode cX4_orders 187 = .ok (.iaload, 1) := by decide +kernel
theorem dX4_orders_188 : decode cX4_orders 188 = .ok (.goto 4, 3) := by decide +kernel
theorem dX4_orders_191 : decode cX4_orders 191 = .ok (.iconst 0, 1) := by decide +kernel
theorem dX4_orders_192 : decode cX4_orders 192 = .ok (.iadd, 1) := by decide +kernel
theorem dX4_orders_193 : decode cX4_orders 193 = .ok (.istore 5, 2) := by decide +kernel
theorem dX4_orders_195 : decode cX4_orders 195 = .ok (.iinc 6 1, 3) := by decide +kernel
theorem dX4_orders_198 : decode cX4_orders 198 = .ok (.goto (-44), 3) := by decide +kernel
theorem dX4_orders_201 : decode cX4_orders 201 = .ok (.aload_n 0, 1) := by decide +kernel
theorem dX4_orders_202 : decode cX4_orders 202 = .ok (.getfield 36, 3) := by decide +kernel
theorem dX4_orders_205 : decode cX4_orders 205 = .ok (.iload 4, 2) := by decide +kernel
theorem dX4_orders_207 : decode cX4_orders 207 = .ok (.iload 5, 2) := by decide +kernel
theorem dX4_orders_209 : decode cX4_orders 209 = .ok (.iastore, 1) := by decide +kernel
theorem dX4_orders_210 : decode cX4_orders 210 = .ok (.iinc 4 (-1), 3) := by decide +kernel
theorem dX4_orders_213 : decode cX4_orders 213 = .ok (.goto (-80), 3) := by decide +kernel
theorem dX4_orders_216 : decode cX4_orders 216 = .ok (.iload_n 2, 1) := by decide +kernel
theorem dX4_orders_217 : decode cX4_orders 217 = .ok (.iconst (-1), 1) := by decide +kernel
theorem dX4_orders_218 : decode cX4_orders 218 = .ok (.if_icmp .ne 10, 3) := by decide +kernel
theorem dX4_orders_221 : decode cX4_orders 221 = .ok (.aload_n 0, 1) := by decide +kernel
theorem dX4_orders_222 : decode cX4_orders 222 = .ok (.getfield 36, 3) := by decide +kernel
theorem dX4_orders_225 : decode cX4_orders 225 = .ok (.iconst 0, 1) := by decide +kernel
theorem dX4_orders_226 : decode cX4_orders 226 = .ok (.iaload, 1) := by decide +kernel
theorem dX4_orders_227 : decode cX4_orders 227 = .ok (.ireturn, 1) := by decide +kernel
theorem dX4_orders_228 : decode cX4_orders 228 = .ok (.iconst 0, 1) := by decide +kernel
theorem dX4_orders_229 : decode cX4_orders 229 = .ok (.istore 4, 2) := by decide +kernel
theorem dX4_orders_231 : decode cX4_orders 231 = .ok (.bipush (-5), 2) := by decide +kernel
theorem dX4_orders_233 : decode cX4_orders 233 = .ok (.istore 5, 2) := by decide +kernel
theorem dX4_orders_235 : decode cX4_orders 235 = .ok (.iconst 0, 1) := by decide +kernel
theorem dX4_orders_236 : decode cX4_orders 236 = .ok (.istore 6, 2) := by decide +kernel
theorem dX4_orders_238 : decode cX4_orders 238 = .ok (.iload 6, 2) := by decide +kernel
theorem dX4_orders_240 : decode cX4_orders 240 = .ok (.iload_n 2, 1) := by decide +kernel
theorem dX4_orders_241 : decode cX4_orders 241 = .ok (.if_icmp .gt 114, 3) := by decide +kernel
theorem dX4_orders_244 : decode cX4_orders 244 = .ok (.iload 6, 2) := by decide +kernel
theorem dX4_orders_246 : decode cX4_orders 246 = .ok (.aload_n 0, 1) := by decide +kernel
theorem dX4_orders_247 : decode cX4_orders 247 = .ok (.getfield 228, 3) := by decide +kernel
theorem dX4_orders_250 : decode cX4_orders 250 = .ok (.if_icmp .gt 105, 3) := by decide +kernel
theorem dX4_orders_253 : decode cX4_orders 253 = .ok (.iconst (-1), 1) := by decide +kernel
theorem dX4_orders_254 : decode cX4_orders 254 = .ok (.istore 7, 2) := by decide +kernel
theorem dX4_orders_256 : decode cX4_orders 256 = .ok (.aload_n 0, 1) := by decide +kernel
theorem dX4_orders_257 : decode cX4_orders 257 = .ok (.getfield 228, 3) := by decide +kernel
theorem dX4_orders_260 : decode cX4_orders 260 = .ok (.iconst 1, 1) := by decide +kernel
theorem dX4_orders_261 : decode cX4_orders 261 = .ok (.isub, 1) := by decide +kernel
theorem dX4_orders_262 : decode cX4_orders 262 = .ok (.istore 8, 2) := by decide +kernel
theorem dX4_orders_264 : decode cX4_orders 264 = .ok (.iload 8, 2) := by decide +kernel
theorem dX4_orders_266 : decode cX4_orders 266 = .ok (.ifCond .lt 44, 3) := by decide +kernel
theorem dX4_orders_269 : decode cX4_orders 269 = .ok (.aload_n 0, 1) := by decide +kernel
theorem dX4_orders_270 : decode cX4_orders 270 = .ok (.iload 4, 2) := by decide +kernel
theorem dX4_orders_272 : decode cX4_orders 272 = .ok (.iload 8, 2) := by decide +kernel
theorem dX4_orders_274 : decode cX4_orders 274 = .ok (.invokevirtual 239, 3) := by decide +kernel
theorem dX4_orders_277 : decode cX4_orders 277 = .ok (.ifCond .eq 23, 3) := by decide +kernel
theorem dX4_orders_280 : decode cX4_orders 280 = .ok (.aload_n 0, 1) := by decide +kernel
theorem dX4_orders_281 : decode cX4_orders 281 = .ok (.getfield 36, 3) := by decide +kernel
theorem dX4_orders_284 : decode cX4_orders 284 = .ok (.iload 4, 2) := by decide +kernel
theorem dX4_orders_286 : decode cX4_orders 286 = .ok (.iconst 1, 1) := by decide +kernel
theorem dX4_orders_287 : decode cX4_orders 287 = .ok (.iload 8, 2) := by decide +kernel
theorem dX4_orders_289 : decode cX4_orders 289 = .ok (.ishl, 1) := by decide +kernel
theorem dX4_orders_290 : decode cX4_orders 290 = .ok (.ior, 1) := by decide +kernel
theorem dX4_orders_291 : decode cX4_orders 291 = .ok (.iaload, 1) := by decide +kernel
theorem dX4_orders_292 : decode cX4_orders 292 = .ok (.ifCond .le 8, 3) := by decide +kernel
theorem dX4_orders_295 : decode cX4_orders 295 = .ok (.iload 8, 2) := by decide +kernel
theorem dX4_orders_297 : decode cX4_orders 297 = .ok (.goto 5, 3) := by decide +kernel
theorem dX4_orders_300 : decode cX4_orders 300 = .ok (.iload 7, 2) := by decide +kernel
theorem dX4_orders_302 : decode cX4_orders 302 = .ok (.istore 7, 2) := by decide +kernel
theorem dX4_orders_304 : decode cX4_orders 304 = .ok (.iinc 8 (-1), 3) := by decide +kernel
theorem dX4_orders_307 : decode cX4_orders 307 = .ok (.goto (-43), 3) := by decide +kernel
theorem dX4_orders_310 : decode cX4_orders 310 = .ok (.iload 7, 2) := by decide +kernel
theorem dX4_orders_312 : decode cX4_orders 312 = .ok (.iconst (-1), 1) := by decide +kernel
theorem dX4_orders_313 : decode cX4_orders 313 = .ok (.if_icmp .ne 8, 3) := by decide +kernel
theorem dX4_orders_316 : decode cX4_orders 316 = .ok (.bipush (-5), 2) := by decide +kernel
theorem dX4_orders_318 : decode cX4_orders 318 = .ok (.goto 10, 3) := by decide +kernel
theorem dX4_orders_321 : decode cX4_orders 321 = .ok (.aload_n 0, 1) := by decide +kernel
theorem dX4_orders_322 : decode cX4_orders 322 = .ok (.getfield 33, 3) := by decide +kernel
theorem dX4_orders_325 : decode cX4_orders 325 = .ok (.iload 7, 2) := by decide +kernel
theorem dX4_orders_327 : decode cX4_orders 327 = .ok (.iaload, 1) := by decide +kernel
theorem dX4_orders_328 : decode cX4_orders 328 = .ok (.istore 5, 2) := by decide +kernel
theorem dX4_orders_330 : decode cX4_orders 330 = .ok (.iload 4, 2) := by decide +kernel
theorem dX4_orders_332 : decode cX4_orders 332 = .ok (.iload 7, 2) := by decide +kernel
theorem dX4_orders_334 : decode cX4_orders 334 = .ok (.iconst (-1), 1) := by decide +kernel
theorem dX4_orders_335 : decode cX4_orders 335 = .ok (.if_icmp .ne 7, 3) := by decide +kernel
theorem dX4_orders_338 : decode cX4_orders 338 = .ok (.iconst 0, 1) := by decide +kernel
theorem dX4_orders_339 : decode cX4_orders 339 = .ok (.goto 7, 3) := by decide +kernel
theorem dX4_orders_342 : decode cX4_orders 342 = .ok (.iconst 1, 1) := by decide +kernel
theorem dX4_orders_343 : decode cX4_orders 343 = .ok (.iload 7, 2) := by decide +kernel
theorem dX4_orders_345 : decode cX4_orders 345 = .ok (.ishl, 1) := by decide +kernel
theorem dX4_orders_346 : decode cX4_orders 346 = .ok (.ior, 1) := by decide +kernel
theorem dX4_orders_347 : decode cX4_orders 347 = .ok (.istore 4, 2) := by decide +kernel
theorem dX4_orders_349 : decode cX4_orders 349 = .ok (.iinc 6 1, 3) := by decide +kernel
theorem dX4_orders_352 : decode cX4_orders 352 = .ok (.goto (-114), 3) := by decide +kernel
theorem dX4_orders_355 : decode cX4_orders 355 = .ok (.iload 5, 2) := by decide +kernel
theorem dX4_orders_357 : decode cX4_orders 357 = .ok (.ireturn, 1) := by decide +kernel
theorem dX4_odds_0 : decode cX4_odds 0 = .ok (.iload_n 1, 1) := by decide +kernel
theorem dX4_odds_1 : decode cX4_odds 1 = .ok (.invokestatic 49, 3) := by decide +kernel
theorem dX4_odds_4 : decode cX4_odds 4 = .ok (.ifCond .eq 27, 3) := by decide +kernel
theorem dX4_odds_7 : decode cX4_odds 7 = .ok (.iload_n 2, 1) := by decide +kernel
theorem dX4_odds_8 : decode cX4_odds 8 = .ok (.i2l, 1) := by decide +kernel
theorem dX4_odds_9 : decode cX4_odds 9 = .ok (.lconst 0, 1) := by decide +kernel
theorem dX4_odds_10 : decode cX4_odds 10 = .ok (.ldc2_w 43, 3) := by decide +kernel
theorem dX4_odds_13 : decode cX4_odds 13 = .ok (.invokestatic 45, 3) := by decide +kernel
theorem dX4_odds_16 : decode cX4_odds 16 = .ok (.ifCond .eq 15, 3) := by decide +kernel
theorem dX4_odds_19 : decode cX4_odds 19 = .ok (.iload_n 3, 1) := by decide +kernel
theorem dX4_odds_20 : decode cX4_odds 20 = .ok (.i2l, 1) := by decide +kernel
theorem dX4_odds_21 : decode cX4_odds 21 = .ok (.lconst 0, 1) := by decide +kernel
theorem dX4_odds_22 : decode cX4_odds 22 = .ok (.ldc2_w 242, 3) := by decide +kernel
theorem dX4_odds_25 : decode cX4_odds 25 = .ok (.invokestatic 45, 3) := by decide +kernel
theorem dX4_odds_28 : decode cX4_odds 28 = .ok (.ifCond .ne 8, 3) := by decide +kernel
theorem dX4_odds_31 : decode cX4_odds 31 = .ok (.aload_n 0, 1) := by decide +kernel
theorem dX4_odds_32 : decode cX4_odds 32 = .ok (.invokevirtual 65, 3) := by decide +kernel
theorem dX4_odds_35 : decode cX4_odds 35 = .ok (.ireturn, 1) := by decide +kernel
theorem dX4_odds_36 : decode cX4_odds 36 = .ok (.lconst 0, 1) := by decide +kernel
theorem dX4_odds_37 : decode cX4_odds 37 = .ok (.lstore 4, 2) := by decide +kernel
theorem dX4_odds_39 : decode cX4_odds 39 = .ok (.lconst 1, 1) := by decide +kernel
theorem dX4_odds_40 : decode cX4_odds 40 = .ok (.lstore 6, 2) := by decide +kernel
theorem dX4_odds_42 : decode cX4_odds 42 = .ok (.iconst 0, 1) := by decide +kernel
theorem dX4_odds_43 : decode cX4_odds 43 = .ok (.istore 8, 2) := by decide +kernel
theorem dX4_odds_45 : decode cX4_odds 45 = .ok (.iload 8, 2) := by decide +kernel
theorem dX4_odds_47 : decode cX4_odds 47 = .ok (.iload_n 2, 1) := by decide +kernel
theorem dX4_odds_48 : decode cX4_odds 48 = .ok (.if_icmp .ge 17, 3) := by decide +kernel
theorem dX4_odds_51 : decode cX4_odds 51 = .ok (.lload 6, 2) := by decide +kernel
theorem dX4_odds_53 : decode cX4_odds 53 = .ok (.ldc2_w 242, 3) := by decide +kernel
theorem dX4_odds_56 : decode cX4_odds 56 = .ok (.lmul, 1) := by decide +kernel
theorem dX4_odds_57 : decode cX4_odds 57 = .ok (.lstore 6, 2) := by decide +kernel
theorem dX4_odds_59 : decode cX4_odds 59 = .ok (.iinc 8 1, 3) := by decide +kernel
theorem dX4_odds_62 : decode cX4_odds 62 = .ok (.goto (-17), 3) := by decide +kernel
theorem dX4_odds_65 : decode cX4_odds 65 = .ok (.iconst 0, 1) := by decide +kernel
theorem dX4_odds_66 : decode cX4_odds 66 = .ok (.istore 8, 2) := by decide +kernel
theorem dX4_odds_68 : decode cX4_odds 68 = .ok (.iload 8, 2) := by decide +kernel
theorem dX4_odds_70 : decode cX4_odds 70 = .ok (.iconst 1, 1) := by decide +kernel
theorem dX4_odds_71 : decode cX4_odds 71 = .ok (.iload_n 2, 1) := by decide +kernel
theorem dX4_odds_72 : decode cX4_odds 72 = .ok (.ishl, 1) := by decide +kernel
theorem dX4_odds_73 : decode cX4_odds 73 = .ok (.if_icmp .ge 94, 3) := by decide +kernel
theorem dX4_odds_76 : decode cX4_odds 76 = .ok (.lconst 1, 1) := by decide +kernel
theorem dX4_odds_77 : decode cX4_odds 77 = .ok (.lstore 9, 2) := by decide +kernel
theorem dX4_odds_79 : decode cX4_odds 79 = .ok (.aload_n 0, 1) := by decide +kernel
theorem dX4_odds_80 : decode cX4_odds 80 = .ok (.invokevirtual 184, 3) := by decide +kernel
theorem dX4_odds_83 : decode cX4_odds 83 = .ok (.iconst 0, 1) := by decide +kernel
theorem dX4_odds_84 : decode cX4_odds 84 = .ok (.istore 11, 2) := by decide +kernel
theorem dX4_odds_86 : decode cX4_odds 86 = .ok (.iload 11, 2) := by decide +kernel
theorem dX4_odds_88 : decode cX4_odds 88 = .ok (.iload_n 2, 1) := by decide +kernel
theorem dX4_odds_89 : decode cX4_odds 89 = .ok (.if_icmp .ge 48, 3) := by decide +kernel
theorem dX4_odds_92 : decode cX4_odds 92 = .ok (.lload 9, 2) := by decide +kernel
theorem dX4_odds_94 : decode cX4_odds 94 = .ok (.iload 8, 2) := by decide +kernel
theorem dX4_odds_96 : decode cX4_odds 96 = .ok (.iload 11, 2) := by decide +kernel
theorem dX4_odds_98 : decode cX4_odds 98 = .ok (.invokestatic 224, 3) := by decide +kernel
theorem dX4_odds_101 : decode cX4_odds 101 = .ok (.ifCond .eq 8, 3) := by decide +kernel
theorem dX4_odds_104 : decode cX4_odds 104 = .ok (.iload_n 3, 1) := by decide +kernel
theorem dX4_odds_105 : decode cX4_odds 105 = .ok (.i2l, 1) := by decide +kernel
theorem dX4_odds_106 : decode cX4_odds 106 = .ok (.goto 8, 3) := by decide +kernel
theorem dX4_odds_109 : decode cX4_odds 109 = .ok (.bipush 10, 2) := by decide +kernel
theorem dX4_odds_111 : decode cX4_odds 111 = .ok (.iload_n 3, 1) := by decide +kernel
theorem dX4_odds_112 : decode cX4_odds 112 = .ok (.isub, 1) := by decide +kernel
theorem dX4_odds_113 : decode cX4_odds 113 = .ok (.i2l, 1) := by decide +kernel
theorem dX4_odds_114 : decode cX4_odds 114 = .ok (.lmul, 1) := by decide +kernel
theorem dX4_odds_115 : decode cX4_odds 115 = .ok (.lstore 9, 2) := by decide +kernel
theorem dX4_odds_117 : decode cX4_odds 117 = .ok (.aload_n 0, 1) := by decide +kernel
theorem dX4_odds_118 : decode cX4_odds 118 = .ok (.sipush 3273, 3) := by decide +kernel
theorem dX4_odds_121 : decode cX4_odds 121 = .ok (.iload 8, 2) := by decide +kernel
theorem dX4_odds_123 : decode cX4_odds 123 = .ok (.iload 11, 2) := by decide +kernel
theorem dX4_odds_125 : decode cX4_odds 125 = .ok (.invokestatic 224, 3) := by decide +kernel
theorem dX4_odds_128 : decode cX4_odds 128 = .ok (.invokevirtual 103, 3) := by decide +kernel
theorem dX4_odds_131 : decode cX4_odds 131 = .ok (.iinc 11 1, 3) := by decide +kernel
theorem dX4_odds_134 : decode cX4_odds 134 = .ok (.goto (-48), 3) := by decide +kernel
theorem dX4_odds_137 : decode cX4_odds 137 = .ok (.lload 4, 2) := by decide +kernel
theorem dX4_odds_139 : decode cX4_odds 139 = .ok (.aload_n 0, 1) := by decide +kernel
theorem dX4_odds_140 : decode cX4_odds 140 = .ok (.getfield 7, 3) := by decide +kernel
theorem dX4_odds_143 : decode cX4_odds 143 = .ok (.sipush 3274, 3) := by decide +kernel
theorem dX4_odds_146 : decode cX4_odds 146 = .ok (.iload_n 1, 1) := by decide +kernel
theorem dX4_odds_147 : decode cX4_odds 147 = .ok (.iadd, 1) := by decide +kernel
theorem dX4_odds_148 : decode cX4_odds 148 = .ok (.iaload, 1) := by decide +kernel
theorem dX4_odds_149 : decode cX4_odds 149 = .ok (.ifCond .ne 8, 3) := by decide +kernel
theorem dX4_odds_152 : decode cX4_odds 152 = .ok (.lload 9, 2) := by decide +kernel
theorem dX4_odds_154 : decode cX4_odds 154 = .ok (.goto 4, 3) := by decide +kernel
theorem dX4_odds_157 : decode cX4_odds 157 = .ok (.lconst 0, 1) := by decide +kernel
theorem dX4_odds_158 : decode cX4_odds 158 = .ok (.ladd, 1) := by decide +kernel
theorem dX4_odds_159 : decode cX4_odds 159 = .ok (.lstore 4, 2) := by decide +kernel
theorem dX4_odds_161 : decode cX4_odds 161 = .ok (.iinc 8 1, 3) := by decide +kernel
theorem dX4_odds_164 : decode cX4_odds 164 = .ok (.goto (-96), 3) := by decide +kernel
theorem dX4_odds_167 : decode cX4_odds 167 = .ok (.aload_n 0, 1) := by decide +kernel
theorem dX4_odds_168 : decode cX4_odds 168 = .ok (.lload 4, 2) := by decide +kernel
theorem dX4_odds_170 : decode cX4_odds 170 = .ok (.lload 6, 2) := by decide +kernel
theorem dX4_odds_172 : decode cX4_odds 172 = .ok (.invokevirtual 202, 3) := by decide +kernel
theorem dX4_odds_175 : decode cX4_odds 175 = .ok (.ireturn, 1) := by decide +kernel
theorem dX4_drawn_0 : decode cX4_drawn 0 = .ok (.iload_n 1, 1) := by decide +kernel
theorem dX4_drawn_1 : decode cX4_drawn 1 = .ok (.i2l, 1) := by decide +kernel
theorem dX4_drawn_2 : decode cX4_drawn 2 = .ok (.lconst 0, 1) := by decide +kernel
theorem dX4_drawn_3 : decode cX4_drawn 3 = .ok (.ldc2_w 244, 3) := by decide +kernel
theorem dX4_drawn_6 : decode cX4_drawn 6 = .ok (.invokestatic 45, 3) := by decide +kernel
theorem dX4_drawn_9 : decode cX4_drawn 9 = .ok (.ifCond .eq 15, 3) := by decide +kernel
theorem dX4_drawn_12 : decode cX4_drawn 12 = .ok (.iload_n 2, 1) := by decide +kernel
theorem dX4_drawn_13 : decode cX4_drawn 13 = .ok (.i2l, 1) := by decide +kernel
theorem dX4_drawn_14 : decode cX4_drawn 14 = .ok (.lconst 0, 1) := by decide +kernel
theorem dX4_drawn_15 : decode cX4_drawn 15 = .ok (.ldc2_w 101, 3) := by decide +kernel
theorem dX4_drawn_18 : decode cX4_drawn 18 = .ok (.invokestatic 45, 3) := by decide +kernel
theorem dX4_drawn_21 : decode cX4_drawn 21 = .ok (.ifCond .ne 8, 3) := by decide +kernel
theorem dX4_drawn_24 : decode cX4_drawn 24 = .ok (.aload_n 0, 1) := by decide +kernel
theorem dX4_drawn_25 : decode cX4_drawn 25 = .ok (.invokevirtual 65, 3) := by decide +kernel
theorem dX4_drawn_28 : decode cX4_drawn 28 = .ok (.ireturn, 1) := by decide +kernel
theorem dX4_drawn_29 : decode cX4_drawn 29 = .ok (.iload_n 1, 1) := by decide +kernel
theorem dX4_drawn_30 : decode cX4_drawn 30 = .ok (.i2l, 1) := by decide +kernel
theorem dX4_drawn_31 : decode cX4_drawn 31 = .ok (.lstore_n 3, 1) := by decide +kernel
theorem dX4_drawn_32 : decode cX4_drawn 32 = .ok (.aload_n 0, 1) := by decide +kernel
theorem dX4_drawn_33 : decode cX4_drawn 33 = .ok (.invokevirtual 184, 3) := by decide +kernel
theorem dX4_drawn_36 : decode cX4_drawn 36 = .ok (.iconst 0, 1) := by decide +kernel
theorem dX4_drawn_37 : decode cX4_drawn 37 = .ok (.istore 5, 2) := by decide +kernel
theorem dX4_drawn_39 : decode cX4_drawn 39 = .ok (.iload 5, 2) := by decide +kernel
theorem dX4_drawn_41 : decode cX4_drawn 41 = .ok (.iload_n 2, 1) := by decide +kernel
theorem dX4_drawn_42 : decode cX4_drawn 42 = .ok (.if_icmp .ge 68, 3) := by decide +kernel
theorem dX4_drawn_45 : decode cX4_drawn 45 = .ok (.iconst 0, 1) := by decide +kernel
theorem dX4_drawn_46 : decode cX4_drawn 46 = .ok (.istore 6, 2) := by decide +kernel
theorem dX4_drawn_48 : decode cX4_drawn 48 = .ok (.iload 6, 2) := by decide +kernel
theorem dX4_drawn_50 : decode cX4_drawn 50 = .ok (.bipush 9, 2) := by decide +kernel
theorem dX4_drawn_52 : decode cX4_drawn 52 = .ok (.if_icmp .ge 44, 3) := by decide +kernel
theorem dX4_drawn_55 : decode cX4_drawn 55 = .ok (.lload_n 3, 1) := by decide +kernel
theorem dX4_drawn_56 : decode cX4_drawn 56 = .ok (.ldc2_w 246, 3) := by decide +kernel
theorem dX4_drawn_59 : decode cX4_drawn 59 = .ok (.lmul, 1) := by decide +kernel
theorem dX4_drawn_60 : decode cX4_drawn 60 = .ok (.ldc2_w 248, 3) := by decide +kernel
theorem dX4_drawn_63 : decode cX4_drawn 63 = .ok (.ladd, 1) := by decide +kernel
theorem dX4_drawn_64 : decode cX4_drawn 64 = .ok (.ldc2_w 250, 3) := by decide +kernel
theorem dX4_drawn_67 : decode cX4_drawn 67 = .ok (.lrem, 1) := by decide +kernel
theorem dX4_drawn_68 : decode cX4_drawn 68 = .ok (.lstore_n 3, 1) := by decide +kernel
theorem dX4_drawn_69 : decode cX4_drawn 69 = .ok (.aload_n 0, 1) := by decide +kernel
theorem dX4_drawn_70 : decode cX4_drawn 70 = .ok (.getfield 7, 3) := by decide +kernel
theorem dX4_drawn_73 : decode cX4_drawn 73 = .ok (.sipush 3391, 3) := by decide +kernel
theorem dX4_drawn_76 : decode cX4_drawn 76 = .ok (.iload 6, 2) := by decide +kernel
theorem dX4_drawn_78 : decode cX4_drawn 78 = .ok (.iadd, 1) := by decide +kernel
theorem dX4_drawn_79 : decode cX4_drawn 79 = .ok (.lload_n 3, 1) := by decide +kernel
theorem dX4_drawn_80 : decode cX4_drawn 80 = .ok (.ldc2_w 252, 3) := by decide +kernel
theorem dX4_drawn_83 : decode cX4_drawn 83 = .ok (.ldiv, 1) := by decide +kernel
theorem dX4_drawn_84 : decode cX4_drawn 84 = .ok (.ldc2_w 254, 3) := by decide +kernel
theorem dX4_drawn_87 : decode cX4_drawn 87 = .ok (.lrem, 1) := by decide +kernel
theorem dX4_drawn_88 : decode cX4_drawn 88 = .ok (.l2i, 1) := by decide +kernel
theorem dX4_drawn_89 : decode cX4_drawn 89 = .ok (.iastore, 1) := by decide +kernel
theorem dX4_drawn_90 : decode cX4_drawn 90 = .ok (.iinc 6 1, 3) := by decide +kernel
theorem dX4_drawn_93 : decode cX4_drawn 93 = .ok (.goto (-45), 3) := by decide +kernel
theorem dX4_drawn_96 : decode cX4_drawn 96 = .ok (.aload_n 0, 1) := by decide +kernel
theorem dX4_drawn_97 : decode cX4_drawn 97 = .ok (.sipush 3273, 3) := by decide +kernel
theorem dX4_drawn_100 : decode cX4_drawn 100 = .ok (.iconst 1, 1) := by decide +kernel
theorem dX4_drawn_101 : decode cX4_drawn 101 = .ok (.invokevirtual 103, 3) := by decide +kernel
theorem dX4_drawn_104 : decode cX4_drawn 104 = .ok (.iinc 5 1, 3) := by decide +kernel
theorem dX4_drawn_107 : decode cX4_drawn 107 = .ok (.goto (-68), 3) := by decide +kernel
theorem dX4_drawn_110 : decode cX4_drawn 110 = .ok (.aload_n 0, 1) := by decide +kernel
theorem dX4_drawn_111 : decode cX4_drawn 111 = .ok (.sipush 3273, 3) := by decide +kernel
theorem dX4_drawn_114 : decode cX4_drawn 114 = .ok (.invokevirtual 107, 3) := by decide +kernel
theorem dX4_drawn_117 : decode cX4_drawn 117 = .ok (.invokestatic 110, 3) := by decide +kernel
theorem dX4_drawn_120 : decode cX4_drawn 120 = .ok (.ireturn, 1) := by decide +kernel
theorem dX4_part_0 : decode cX4_part 0 = .ok (.iload_n 1, 1) := by decide +kernel
theorem dX4_part_1 : decode cX4_part 1 = .ok (.ifCond .ne 10, 3) := by decide +kernel
theorem dX4_part_4 : decode cX4_part 4 = .ok (.aload_n 0, 1) := by decide +kernel
theorem dX4_part_5 : decode cX4_part 5 = .ok (.getfield 196, 3) := by decide +kernel
theorem dX4_part_8 : decode cX4_part 8 = .ok (.goto 20, 3) := by decide +kernel
theorem dX4_part_11 : decode cX4_part 11 = .ok (.iload_n 1, 1) := by decide +kernel
theorem dX4_part_12 : decode cX4_part 12 = .ok (.iconst 1, 1) := by decide +kernel
theorem dX4_part_13 : decode cX4_part 13 = .ok (.if_icmp .ne 10, 3) := by decide +kernel
theorem dX4_part_16 : decode cX4_part 16 = .ok (.aload_n 0, 1) := by decide +kernel
theorem dX4_part_17 : decode cX4_part 17 = .ok (.getfield 23, 3) := by decide +kernel
theorem dX4_part_20 : decode cX4_part 20 = .ok (.goto 8, 3) := by decide +kernel
theorem dX4_part_23 : decode cX4_part 23 = .ok (.aload_n 0, 1) := by decide +kernel
theorem dX4_part_24 : decode cX4_part 24 = .ok (.invokevirtual 65, 3) := by decide +kernel
theorem dX4_part_27 : decode cX4_part 27 = .ok (.i2l, 1) := by decide +kernel
theorem dX4_part_28 : decode cX4_part 28 = .ok (.lreturn, 1) := by decide +kernel
theorem dX4_image_0 : decode cX4_image 0 = .ok (.iload_n 1, 1) := by decide +kernel
theorem dX4_image_1 : decode cX4_image 1 = .ok (.i2l, 1) := by decide +kernel
theorem dX4_image_2 : decode cX4_image 2 = .ok (.lconst 0, 1) := by decide +kernel
theorem dX4_image_3 : decode cX4_image 3 = .ok (.lconst 1, 1) := by decide +kernel
theorem dX4_image_4 : decode cX4_image 4 = .ok (.invokestatic 45, 3) := by decide +kernel
theorem dX4_image_7 : decode cX4_image 7 = .ok (.ifCond .ne 8, 3) := by decide +kernel
theorem dX4_image_10 : decode cX4_image 10 = .ok (.aload_n 0, 1) := by decide +kernel
theorem dX4_image_11 : decode cX4_image 11 = .ok (.invokevirtual 65, 3) := by decide +kernel
theorem dX4_image_14 : decode cX4_image 14 = .ok (.ireturn, 1) := by decide +kernel
theorem dX4_image_15 : decode cX4_image 15 = .ok (.aload_n 0, 1) := by decide +kernel
theorem dX4_image_16 : decode cX4_image 16 = .ok (.iconst 0, 1) := by decide +kernel
theorem dX4_image_17 : decode cX4_image 17 = .ok (.sipush 1091, 3) := by decide +kernel
theorem dX4_image_20 : decode cX4_image 20 = .ok (.iconst 1, 1) := by decide +kernel
theorem dX4_image_21 : decode cX4_image 21 = .ok (.iload_n 1, 1) := by decide +kernel
theorem dX4_image_22 : decode cX4_image 22 = .ok (.iadd, 1) := by decide +kernel
theorem dX4_image_23 : decode cX4_image 23 = .ok (.imul, 1) := by decide +kernel
theorem dX4_image_24 : decode cX4_image 24 = .ok (.sipush 1091, 3) := by decide +kernel
theorem dX4_image_27 : decode cX4_image 27 = .ok (.invokevirtual 73, 3) := by decide +kernel
theorem dX4_image_30 : decode cX4_image 30 = .ok (.aload_n 0, 1) := by decide +kernel
theorem dX4_image_31 : decode cX4_image 31 = .ok (.getfield 13, 3) := by decide +kernel
theorem dX4_image_34 : decode cX4_image 34 = .ok (.iload_n 1, 1) := by decide +kernel
theorem dX4_image_35 : decode cX4_image 35 = .ok (.iconst 1, 1) := by decide +kernel
theorem dX4_image_36 : decode cX4_image 36 = .ok (.bastore, 1) := by decide +kernel
theorem dX4_image_37 : decode cX4_image 37 = .ok (.iconst 1, 1) := by decide +kernel
theorem dX4_image_38 : decode cX4_image 38 = .ok (.ireturn, 1) := by decide +kernel
theorem dX4_from_0 : decode cX4_from 0 = .ok (.iload_n 1, 1) := by decide +kernel
theorem dX4_from_1 : decode cX4_from 1 = .ok (.i2l, 1) := by decide +kernel
theorem dX4_from_2 : decode cX4_from 2 = .ok (.lconst 0, 1) := by decide +kernel
theorem dX4_from_3 : decode cX4_from 3 = .ok (.lconst 1, 1) := by decide +kernel
theorem dX4_from_4 : decode cX4_from 4 = .ok (.invokestatic 45, 3) := by decide +kernel
theorem dX4_from_7 : decode cX4_from 7 = .ok (.ifCond .ne 8, 3) := by decide +kernel
theorem dX4_from_10 : decode cX4_from 10 = .ok (.aload_n 0, 1) := by decide +kernel
theorem dX4_from_11 : decode cX4_from 11 = .ok (.invokevirtual 65, 3) := by decide +kernel
theorem dX4_from_14 : decode cX4_from 14 = .ok (.ireturn, 1) := by decide +kernel
theorem dX4_from_15 : decode cX4_from 15 = .ok (.aload_n 0, 1) := by decide +kernel
theorem dX4_from_16 : decode cX4_from 16 = .ok (.getfield 13, 3) := by decide +kernel
theorem dX4_from_19 : decode cX4_from 19 = .ok (.iload_n 1, 1) := by decide +kernel
theorem dX4_from_20 : decode cX4_from 20 = .ok (.baload, 1) := by decide +kernel
theorem dX4_from_21 : decode cX4_from 21 = .ok (.ifCond .ne 8, 3) := by decide +kernel
theorem dX4_from_24 : decode cX4_from 24 = .ok (.aload_n 0, 1) := by decide +kernel
theorem dX4_from_25 : decode cX4_from 25 = .ok (.invokevirtual 91, 3) := by decide +kernel
theorem dX4_from_28 : decode cX4_from 28 = .ok (.ireturn, 1) := by decide +kernel
theorem dX4_from_29 : decode cX4_from 29 = .ok (.aload_n 0, 1) := by decide +kernel
theorem dX4_from_30 : decode cX4_from 30 = .ok (.sipush 1091, 3) := by decide +kernel
theorem dX4_from_33 : decode cX4_from 33 = .ok (.iconst 1, 1) := by decide +kernel
theorem dX4_from_34 : decode cX4_from 34 = .ok (.iload_n 1, 1) := by decide +kernel
theorem dX4_from_35 : decode cX4_from 35 = .ok (.iadd, 1) := by decide +kernel
theorem dX4_from_36 : decode cX4_from 36 = .ok (.imul, 1) := by decide +kernel
theorem dX4_from_37 : decode cX4_from 37 = .ok (.iconst 0, 1) := by decide +kernel
theorem dX4_from_38 : decode cX4_from 38 = .ok (.sipush 1091, 3) := by decide +kernel
theorem dX4_from_41 : decode cX4_from 41 = .ok (.invokevirtual 73, 3) := by decide +kernel
theorem dX4_from_44 : decode cX4_from 44 = .ok (.iconst 1, 1) := by decide +kernel
theorem dX4_from_45 : decode cX4_from 45 = .ok (.ireturn, 1) := by decide +kernel
theorem dX4_status_0 : decode cX4_status 0 = .ok (.iload_n 1, 1) := by decide +kernel
theorem dX4_status_1 : decode cX4_status 1 = .ok (.i2l, 1) := by decide +kernel
theorem dX4_status_2 : decode cX4_status 2 = .ok (.lconst 0, 1) := by decide +kernel
theorem dX4_status_3 : decode cX4_status 3 = .ok (.ldc2_w 55, 3) := by decide +kernel
theorem dX4_status_6 : decode cX4_status 6 = .ok (.invokestatic 45, 3) := by decide +kernel
theorem dX4_status_9 : decode cX4_status 9 = .ok (.ifCond .eq 12, 3) := by decide +kernel
theorem dX4_status_12 : decode cX4_status 12 = .ok (.aload_n 0, 1) := by decide +kernel
theorem dX4_status_13 : decode cX4_status 13 = .ok (.getfield 20, 3) := by decide +kernel
theorem dX4_status_16 : decode cX4_status 16 = .ok (.iload_n 1, 1) := by decide +kernel
theorem dX4_status_17 : decode cX4_status 17 = .ok (.iaload, 1) := by decide +kernel
theorem dX4_status_18 : decode cX4_status 18 = .ok (.goto 8, 3) := by decide +kernel
theorem dX4_status_21 : decode cX4_status 21 = .ok (.aload_n 0, 1) := by decide +kernel
theorem dX4_status_22 : decode cX4_status 22 = .ok (.iconst (-1), 1) := by decide +kernel
theorem dX4_status_23 : decode cX4_status 23 = .ok (.invokevirtual 236, 3) := by decide +kernel
theorem dX4_status_26 : decode cX4_status 26 = .ok (.ireturn, 1) := by decide +kernel
theorem dX4_countOf_0 : decode cX4_countOf 0 = .ok (.iload_n 1, 1) := by decide +kernel
theorem dX4_countOf_1 : decode cX4_countOf 1 = .ok (.tableswitch 74 0 4 #[35, 41, 50, 57, 65], 35) := by decide +kernel
theorem dX4_countOf_36 : decode cX4_countOf 36 = .ok (.aload_n 0, 1) := by decide +kernel
theorem dX4_countOf_37 : decode cX4_countOf 37 = .ok (.iconst 0, 1) := by decide +kernel
theorem dX4_countOf_38 : decode cX4_countOf 38 = .ok (.invokevirtual 69, 3) := by decide +kernel
theorem dX4_countOf_41 : decode cX4_countOf 41 = .ok (.ireturn, 1) := by decide +kernel
theorem dX4_countOf_42 : decode cX4_countOf 42 = .ok (.aload_n 0, 1) := by decide +kernel
theorem dX4_countOf_43 : decode cX4_countOf 43 = .ok (.iconst 0, 1) := by decide +kernel
theorem dX4_countOf_44 : decode cX4_countOf 44 = .ok (.invokevirtual 107, 3) := by decide +kernel
theorem dX4_countOf_47 : decode cX4_countOf 47 = .ok (.invokestatic 110, 3) := by decide +kernel
theorem dX4_countOf_50 : decode cX4_countOf 50 = .ok (.ireturn, 1) := by decide +kernel
theorem dX4_countOf_51 : decode cX4_countOf 51 = .ok (.aload_n 0, 1) := by decide +kernel
theorem dX4_countOf_52 : decode cX4_countOf 52 = .ok (.getfield 7, 3) := by decide +kernel
theorem dX4_countOf_55 : decode cX4_countOf 55 = .ok (.iconst 0, 1) := by decide +kernel
theorem dX4_countOf_56 : decode cX4_countOf 56 = .ok (.iaload, 1) := by decide +kernel
theorem dX4_countOf_57 : decode cX4_countOf 57 = .ok (.ireturn, 1) := by decide +kernel
theorem dX4_countOf_58 : decode cX4_countOf 58 = .ok (.aload_n 0, 1) := by decide +kernel
theorem dX4_countOf_59 : decode cX4_countOf 59 = .ok (.getfield 7, 3) := by decide +kernel
theorem dX4_countOf_62 : decode cX4_countOf 62 = .ok (.bipush 127, 2) := by decide +kernel
theorem dX4_countOf_64 : decode cX4_countOf 64 = .ok (.iaload, 1) := by decide +kernel
theorem dX4_countOf_65 : decode cX4_countOf 65 = .ok (.ireturn, 1) := by decide +kernel
theorem dX4_countOf_66 : decode cX4_countOf 66 = .ok (.aload_n 0, 1) := by decide +kernel
theorem dX4_countOf_67 : decode cX4_countOf 67 = .ok (.getfield 7, 3) := by decide +kernel
theorem dX4_countOf_70 : decode cX4_countOf 70 = .ok (.sipush 146, 3) := by decide +kernel
theorem dX4_countOf_73 : decode cX4_countOf 73 = .ok (.iaload, 1) := by decide +kernel
theorem dX4_countOf_74 : decode cX4_countOf 74 = .ok (.ireturn, 1) := by decide +kernel
theorem dX4_countOf_75 : decode cX4_countOf 75 = .ok (.aload_n 0, 1) := by decide +kernel
theorem dX4_countOf_76 : decode cX4_countOf 76 = .ok (.getfield 115, 3) := by decide +kernel
theorem dX4_countOf_79 : decode cX4_countOf 79 = .ok (.ireturn, 1) := by decide +kernel
theorem dX4_count_0 : decode cX4_count 0 = .ok (.iload_n 1, 1) := by decide +kernel
theorem dX4_count_1 : decode cX4_count 1 = .ok (.i2l, 1) := by decide +kernel
theorem dX4_count_2 : decode cX4_count 2 = .ok (.lconst 0, 1) := by decide +kernel
theorem dX4_count_3 : decode cX4_count 3 = .ok (.ldc2_w 53, 3) := by decide +kernel
theorem dX4_count_6 : decode cX4_count 6 = .ok (.invokestatic 45, 3) := by decide +kernel
theorem dX4_count_9 : decode cX4_count 9 = .ok (.ifCond .eq 11, 3) := by decide +kernel
theorem dX4_count_12 : decode cX4_count 12 = .ok (.aload_n 0, 1) := by decide +kernel
theorem dX4_count_13 : decode cX4_count 13 = .ok (.iload_n 1, 1) := by decide +kernel
theorem dX4_count_14 : decode cX4_count 14 = .ok (.invokevirtual 256, 3) := by decide +kernel
theorem dX4_count_17 : decode cX4_count 17 = .ok (.goto 7, 3) := by decide +kernel
theorem dX4_count_20 : decode cX4_count 20 = .ok (.aload_n 0, 1) := by decide +kernel
theorem dX4_count_21 : decode cX4_count 21 = .ok (.invokevirtual 65, 3) := by decide +kernel
theorem dX4_count_24 : decode cX4_count 24 = .ok (.ireturn, 1) := by decide +kernel
theorem dX4_mix_0 : decode cX4_mix 0 = .ok (.aload_n 0, 1) := by decide +kernel
theorem dX4_mix_1 : decode cX4_mix 1 = .ok (.ldc2_w 259, 3) := by decide +kernel
theorem dX4_mix_4 : decode cX4_mix 4 = .ok (.aload_n 0, 1) := by decide +kernel
theorem dX4_mix_5 : decode cX4_mix 5 = .ok (.getfield 261, 3) := by decide +kernel
theorem dX4_mix_8 : decode cX4_mix 8 = .ok (.lmul, 1) := by decide +kernel
theorem dX4_mix_9 : decode cX4_mix 9 = .ok (.lload_n 1, 1) := by decide +kernel
theorem dX4_mix_10 : decode cX4_mix 10 = .ok (.ladd, 1) := by decide +kernel
theorem dX4_mix_11 : decode cX4_mix 11 = .ok (.putfield 261, 3) := by decide +kernel
theorem dX4_mix_14 : decode cX4_mix 14 = .ok (.return_, 1) := by decide +kernel
theorem dX4_digest_0 : decode cX4_digest 0 = .ok (.aload_n 0, 1) := by decide +kernel
theorem dX4_digest_1 : decode cX4_digest 1 = .ok (.ldc2_w 264, 3) := by decide +kernel
theorem dX4_digest_4 : decode cX4_digest 4 = .ok (.putfield 261, 3) := by decide +kernel
theorem dX4_digest_7 : decode cX4_digest 7 = .ok (.iconst 0, 1) := by decide +kernel
theorem dX4_digest_8 : decode cX4_digest 8 = .ok (.istore_n 1, 1) := by decide +kernel
theorem dX4_digest_9 : decode cX4_digest 9 = .ok (.iload_n 1, 1) := by decide +kernel
theorem dX4_digest_10 : decode cX4_digest 10 = .ok (.bipush 6, 2) := by decide +kernel
theorem dX4_digest_12 : decode cX4_digest 12 = .ok (.if_icmp .ge 19, 3) := by decide +kernel
theorem dX4_digest_15 : decode cX4_digest 15 = .ok (.aload_n 0, 1) := by decide +kernel
theorem dX4_digest_16 : decode cX4_digest 16 = .ok (.aload_n 0, 1) := by decide +kernel
theorem dX4_digest_17 : decode cX4_digest 17 = .ok (.iload_n 1, 1) := by decide +kernel
theorem dX4_digest_18 : decode cX4_digest 18 = .ok (.invokevirtual 256, 3) := by decide +kernel
theorem dX4_digest_21 : decode cX4_digest 21 = .ok (.i2l, 1) := by decide +kernel
theorem dX4_digest_22 : decode cX4_digest 22 = .ok (.invokevirtual 266, 3) := by decide +kernel
theorem dX4_digest_25 : decode cX4_digest 25 = .ok (.iinc 1 1, 3) := by decide +kernel
theorem dX4_digest_28 : decode cX4_digest 28 = .ok (.goto (-19), 3) := by decide +kernel
theorem dX4_digest_31 : decode cX4_digest 31 = .ok (.iconst 0, 1) := by decide +kernel
theorem dX4_digest_32 : decode cX4_digest 32 = .ok (.istore_n 1, 1) := by decide +kernel
theorem dX4_digest_33 : decode cX4_digest 33 = .ok (.iload_n 1, 1) := by decide +kernel
theorem dX4_digest_34 : decode cX4_digest 34 = .ok (.bipush 9, 2) := by decide +kernel
theorem dX4_digest_36 : decode cX4_digest 36 = .ok (.if_icmp .ge 75, 3) := by decide +kernel
theorem dX4_digest_39 : decode cX4_digest 39 = .ok (.aload_n 0, 1) := by decide +kernel
theorem dX4_digest_40 : decode cX4_digest 40 = .ok (.aload_n 0, 1) := by decide +kernel
theorem dX4_digest_41 : decode cX4_digest 41 = .ok (.getfield 7, 3) := by decide +kernel
theorem dX4_digest_44 : decode cX4_digest 44 = .ok (.bipush 118, 2) := by decide +kernel
theorem dX4_digest_46 : decode cX4_digest 46 = .ok (.iload_n 1, 1) := by decide +kernel
theorem dX4_digest_47 : decode cX4_digest 47 = .ok (.iadd, 1) := by decide +kernel
theorem dX4_digest_48 : decode cX4_digest 48 = .ok (.iaload, 1) := by decide +kernel
theorem dX4_digest_49 : decode cX4_digest 49 = .ok (.i2l, 1) := by decide +kernel
theorem dX4_digest_50 : decode cX4_digest 50 = .ok (.invokevirtual 266, 3) := by decide +kernel
theorem dX4_digest_53 : decode cX4_digest 53 = .ok (.aload_n 0, 1) := by decide +kernel
theorem dX4_digest_54 : decode cX4_digest 54 = .ok (.aload_n 0, 1) := by decide +kernel
theorem dX4_digest_55 : decode cX4_digest 55 = .ok (.getfield 7, 3) := by decide +kernel
theorem dX4_digest_58 : decode cX4_digest 58 = .ok (.iconst 1, 1) := by decide +kernel
theorem dX4_digest_59 : decode cX4_digest 59 = .ok (.iload_n 1, 1) := by decide +kernel
theorem dX4_digest_60 : decode cX4_digest 60 = .ok (.iadd, 1) := by decide +kernel
theorem dX4_digest_61 : decode cX4_digest 61 = .ok (.iaload, 1) := by decide +kernel
theorem dX4_digest_62 : decode cX4_digest 62 = .ok (.i2l, 1) := by decide +kernel
theorem dX4_digest_63 : decode cX4_digest 63 = .ok (.invokevirtual 266, 3) := by decide +kernel
theorem dX4_digest_66 : decode cX4_digest 66 = .ok (.iconst 0, 1) := by decide +kernel
theorem dX4_digest_67 : decode cX4_digest 67 = .ok (.istore_n 2, 1) := by decide +kernel
theorem dX4_digest_68 : decode cX4_digest 68 = .ok (.iload_n 2, 1) := by decide +kernel
theorem dX4_digest_69 : decode cX4_digest 69 = .ok (.iconst 4, 1) := by decide +kernel
theorem dX4_digest_70 : decode cX4_digest 70 = .ok (.aload_n 0, 1) := by decide +kernel
theorem dX4_digest_71 : decode cX4_digest 71 = .ok (.getfield 7, 3) := by decide +kernel
theorem dX4_digest_74 : decode cX4_digest 74 = .ok (.iconst 1, 1) := by decide +kernel
theorem dX4_digest_75 : decode cX4_digest 75 = .ok (.iload_n 1, 1) := by decide +kernel
theorem dX4_digest_76 : decode cX4_digest 76 = .ok (.iadd, 1) := by decide +kernel
theorem dX4_digest_77 : decode cX4_digest 77 = .ok (.iaload, 1) := by decide +kernel
theorem dX4_digest_78 : decode cX4_digest 78 = .ok (.imul, 1) := by decide +kernel
theorem dX4_digest_79 : decode cX4_digest 79 = .ok (.if_icmp .ge 26, 3) := by decide +kernel
theorem dX4_digest_82 : decode cX4_digest 82 = .ok (.aload_n 0, 1) := by decide +kernel
theorem dX4_digest_83 : decode cX4_digest 83 = .ok (.aload_n 0, 1) := by decide +kernel
theorem dX4_digest_84 : decode cX4_digest 84 = .ok (.getfield 7, 3) := by decide +kernel
theorem dX4_digest_87 : decode cX4_digest 87 = .ok (.iload_n 1, 1) := by decide +kernel
theorem dX4_digest_88 : decode cX4_digest 88 = .ok (.iconst 0, 1) := by decide +kernel
theorem dX4_digest_89 : decode cX4_digest 89 = .ok (.invokestatic 59, 3) := by decide +kernel
theorem dX4_digest_92 : decode cX4_digest 92 = .ok (.iload_n 2, 1) := by decide +kernel
theorem dX4_digest_93 : decode cX4_digest 93 = .ok (.iadd, 1) := by decide +kernel
theorem dX4_digest_94 : decode cX4_digest 94 = .ok (.iaload, 1) := by decide +kernel
theorem dX4_digest_95 : decode cX4_digest 95 = .ok (.i2l, 1) := by decide +kernel
theorem dX4_digest_96 : decode cX4_digest 96 = .ok (.invokevirtual 266, 3) := by decide +kernel
theorem dX4_digest_99 : decode cX4_digest 99 = .ok (.iinc 2 1, 3) := by decide +kernel
theorem dX4_digest_102 : decode cX4_digest 102 = .ok (.goto (-34), 3) := by decide +kernel
theorem dX4_digest_105 : decode cX4_digest 105 = .ok (.iinc 1 1, 3) := by decide +kernel
theorem dX4_digest_108 : decode cX4_digest 108 = .ok (.goto (-75), 3) := by decide +kernel
theorem dX4_digest_111 : decode cX4_digest 111 = .ok (.iconst 0, 1) := by decide +kernel
theorem dX4_digest_112 : decode cX4_digest 112 = .ok (.istore_n 1, 1) := by decide +kernel
theorem dX4_digest_113 : decode cX4_digest 113 = .ok (.iload_n 1, 1) := by decide +kernel
theorem dX4_digest_114 : decode cX4_digest 114 = .ok (.iconst 3, 1) := by decide +kernel
theorem dX4_digest_115 : decode cX4_digest 115 = .ok (.aload_n 0, 1) := by decide +kernel
theorem dX4_digest_116 : decode cX4_digest 116 = .ok (.getfield 7, 3) := by decide +kernel
theorem dX4_digest_119 : decode cX4_digest 119 = .ok (.bipush 127, 2) := by decide +kernel
theorem dX4_digest_121 : decode cX4_digest 121 = .ok (.iaload, 1) := by decide +kernel
theorem dX4_digest_122 : decode cX4_digest 122 = .ok (.imul, 1) := by decide +kernel
theorem dX4_digest_123 : decode cX4_digest 123 = .ok (.if_icmp .ge 24, 3) := by decide +kernel
theorem dX4_digest_126 : decode cX4_digest 126 = .ok (.aload_n 0, 1) := by decide +kernel
theorem dX4_digest_127 : decode cX4_digest 127 = .ok (.aload_n 0, 1) := by decide +kernel
theorem dX4_digest_128 : decode cX4_digest 128 = .ok (.getfield 7, 3) := by decide +kernel
theorem dX4_digest_131 : decode cX4_digest 131 = .ok (.sipush 128, 3) := by decide +kernel
theorem dX4_digest_134 : decode cX4_digest 134 = .ok (.iload_n 1, 1) := by decide +kernel
theorem dX4_digest_135 : decode cX4_digest 135 = .ok (.iadd, 1) := by decide +kernel
theorem dX4_digest_136 : decode cX4_digest 136 = .ok (.iaload, 1) := by decide +kernel
theorem dX4_digest_137 : decode cX4_digest 137 = .ok (.i2l, 1) := by decide +kernel
theorem dX4_digest_138 : decode cX4_digest 138 = .ok (.invokevirtual 266, 3) := by decide +kernel
theorem dX4_digest_141 : decode cX4_digest 141 = .ok (.iinc 1 1, 3) := by decide +kernel
theorem dX4_digest_144 : decode cX4_digest 144 = .ok (.goto (-31), 3) := by decide +kernel
theorem dX4_digest_147 : decode cX4_digest 147 = .ok (.aload_n 0, 1) := by decide +kernel
theorem dX4_digest_148 : decode cX4_digest 148 = .ok (.aload_n 0, 1) := by decide +kernel
theorem dX4_digest_149 : decode cX4_digest 149 = .ok (.getfield 196, 3) := by decide +kernel
theorem dX4_digest_152 : decode cX4_digest 152 = .ok (.invokevirtual 266, 3) := by decide +kernel
theorem dX4_digest_155 : decode cX4_digest 155 = .ok (.aload_n 0, 1) := by decide +kernel
theorem dX4_digest_156 : decode cX4_digest 156 = .ok (.aload_n 0, 1) := by decide +kernel
theorem dX4_digest_157 : decode cX4_digest 157 = .ok (.getfield 23, 3) := by decide +kernel
theorem dX4_digest_160 : decode cX4_digest 160 = .ok (.invokevirtual 266, 3) := by decide +kernel
theorem dX4_digest_163 : decode cX4_digest 163 = .ok (.aload_n 0, 1) := by decide +kernel
theorem dX4_digest_164 : decode cX4_digest 164 = .ok (.getfield 261, 3) := by decide +kernel
theorem dX4_digest_167 : decode cX4_digest 167 = .ok (.lreturn, 1) := by decide +kernel
end
section
theorem dL_law_0 : decode cL_law 0 = .ok (.new 7, 3) := by decide +kernel
theorem dL_law_3 : decode cL_law 3 = .ok (.dup, 1) := by decide +kernel
theorem dL_law_4 : decode cL_law 4 = .ok (.invokespecial 9, 3) := by decide +kernel
theorem dL_law_7 : decode cL_law 7 = .ok (.astore_n 1, 1) := by decide +kernel
theorem dL_law_8 : decode cL_law 8 = .ok (.new 10, 3) := by decide +kernel
theorem dL_law_11 : decode cL_law 11 = .ok (.dup, 1) := by decide +kernel
theorem dL_law_12 : decode cL_law 12 = .ok (.invokespecial 12, 3) := by decide +kernel
theorem dL_law_15 : decode cL_law 15 = .ok (.astore_n 2, 1) := by decide +kernel
theorem dL_law_16 : decode cL_law 16 = .ok (.iconst 0, 1) := by decide +kernel
theorem dL_law_17 : decode cL_law 17 = .ok (.istore_n 3, 1) := by decide +kernel
theorem dL_law_18 : decode cL_law 18 = .ok (.iload_n 3, 1) := by decide +kernel
theorem dL_law_19 : decode cL_law 19 = .ok (.aload_n 0, 1) := by decide +kernel
theorem dL_law_20 : decode cL_law 20 = .ok (.arraylength, 1) := by decide +kernel
theorem dL_law_21 : decode cL_law 21 = .ok (.iconst 5, 1) := by decide +kernel
theorem dL_law_22 : decode cL_law 22 = .ok (.isub, 1) := by decide +kernel
theorem dL_law_23 : decode cL_law 23 = .ok (.if_icmp .gt 1054, 3) := by decide +kernel
theorem dL_law_26 : decode cL_law 26 = .ok (.aload_n 0, 1) := by decide +kernel
theorem dL_law_27 : decode cL_law 27 = .ok (.iload_n 3, 1) := by decide +kernel
theorem dL_law_28 : decode cL_law 28 = .ok (.iaload, 1) := by decide +kernel
theorem dL_law_29 : decode cL_law 29 = .ok (.bipush 63, 2) := by decide +kernel
theorem dL_law_31 : decode cL_law 31 = .ok (.iand, 1) := by decide +kernel
theorem dL_law_32 : decode cL_law 32 = .ok (.tableswitch 1039 0 32 #[148, 171, 204, 257, 280, 303, 316, 339, 352, 365, 408, 441, 474, 507, 530, 553, 576, 589, 612, 655, 698, 741, 754, 777, 800, 833, 876, 909, 933, 956, 979, 1002, 1025], 148) := by decide +kernel
theorem dL_law_180 : decode cL_law 180 = .ok (.aload_n 1, 1) := by decide +kernel
theorem dL_law_181 : decode cL_law 181 = .ok (.aload_n 0, 1) := by decide +kernel
theorem dL_law_182 : decode cL_law 182 = .ok (.iload_n 3, 1) := by decide +kernel
theorem dL_law_183 : decode cL_law 183 = .ok (.iconst 1, 1) := by decide +kernel
theorem dL_law_184 : decode cL_law 184 = .ok (.iadd, 1) := by decide +kernel
theorem dL_law_185 : decode cL_law 185 = .ok (.iaload, 1) := by decide +kernel
theorem dL_law_186 : decode cL_law 186 = .ok (.invokevirtual 13, 3) := by decide +kernel
theorem dL_law_189 : decode cL_law 189 = .ok (.aload_n 2, 1) := by decide +kernel
theorem dL_law_190 : decode cL_law 190 = .ok (.aload_n 0, 1) := by decide +kernel
theorem dL_law_191 : decode cL_law 191 = .ok (.iload_n 3, 1) := by decide +kernel
theorem dL_law_192 : decode cL_law 192 = .ok (.iconst 1, 1) := by decide +kernel
theorem dL_law_193 : decode cL_law 193 = .ok (.iadd, 1) := by decide +kernel
theorem dL_law_194 : decode cL_law 194 = .ok (.iaload, 1) := by decide +kernel
theorem dL_law_195 : decode cL_law 195 = .ok (.invokevirtual 17, 3) := by decide +kernel
theorem dL_law_198 : decode cL_law 198 = .ok (.if_icmp .eq 873, 3) := by decide +kernel
theorem dL_law_201 : decode cL_law 201 = .ok (.iconst 0, 1) := by decide +kernel
theorem dL_law_202 : decode cL_law 202 = .ok (.ireturn, 1) := by decide +kernel
theorem dL_law_203 : decode cL_law 203 = .ok (.aload_n 1, 1) := by decide +kernel
theorem dL_law_204 : decode cL_law 204 = .ok (.aload_n 0, 1) := by decide +kernel
theorem dL_law_205 : decode cL_law 205 = .ok (.iload_n 3, 1) := by decide +kernel
theorem dL_law_206 : decode cL_law 206 = .ok (.iconst 1, 1) := by decide +kernel
theorem dL_law_207 : decode cL_law 207 = .ok (.iadd, 1) := by decide +kernel
theorem dL_law_208 : decode cL_law 208 = .ok (.iaload, 1) := by decide +kernel
theorem dL_law_209 : decode cL_law 209 = .ok (.aload_n 0, 1) := by decide +kernel
theorem dL_law_210 : decode cL_law 210 = .ok (.iload_n 3, 1) := by decide +kernel
theorem dL_law_211 : decode cL_law 211 = .ok (.iconst 2, 1) := by decide +kernel
theorem dL_law_212 : decode cL_law 212 = .ok (.iadd, 1) := by decide +kernel
theorem dL_law_213 : decode cL_law 213 = .ok (.iaload, 1) := by decide +kernel
theorem dL_law_214 : decode cL_law 214 = .ok (.invokevirtual 18, 3) := by decide +kernel
theorem dL_law_217 : decode cL_law 217 = .ok (.aload_n 2, 1) := by decide +kernel
theorem dL_law_218 : decode cL_law 218 = .ok (.aload_n 0, 1) := by decide +kernel
theorem dL_law_219 : decode cL_law 219 = .ok (.iload_n 3, 1) := by decide +kernel
theorem dL_law_220 : decode cL_law 220 = .ok (.iconst 1, 1) := by decide +kernel
theorem dL_law_221 : decode cL_law 221 = .ok (.iadd, 1) := by decide +kernel
theorem dL_law_222 : decode cL_law 222 = .ok (.iaload, 1) := by decide +kernel
theorem dL_law_223 : decode cL_law 223 = .ok (.aload_n 0, 1) := by decide +kernel
theorem dL_law_224 : decode cL_law 224 = .ok (.iload_n 3, 1) := by decide +kernel
theorem dL_law_225 : decode cL_law 225 = .ok (.iconst 2, 1) := by decide +kernel
theorem dL_law_226 : decode cL_law 226 = .ok (.iadd, 1) := by decide +kernel
theorem dL_law_227 : decode cL_law 227 = .ok (.iaload, 1) := by decide +kernel
theorem dL_law_228 : decode cL_law 228 = .ok (.invokevirtual 22, 3) := by decide +kernel
theorem dL_law_231 : decode cL_law 231 = .ok (.if_icmp .eq 840, 3) := by decide +kernel
theorem dL_law_234 : decode cL_law 234 = .ok (.iconst 0, 1) := by decide +kernel
theorem dL_law_235 : decode cL_law 235 = .ok (.ireturn, 1) := by decide +kernel
theorem dL_law_236 : decode cL_law 236 = .ok (.aload_n 1, 1) := by decide +kernel
theorem dL_law_237 : decode cL_law 237 = .ok (.aload_n 0, 1) := by decide +kernel
theorem dL_law_238 : decode cL_law 238 = .ok (.iload_n 3, 1) := by decide +kernel
theorem dL_law_239 : decode cL_law 239 = .ok (.iconst 1, 1) := by decide +kernel
theorem dL_law_240 : decode cL_law 240 = .ok (.iadd, 1) := by decide +kernel
theorem dL_law_241 : decode cL_law 241 = .ok (.iaload, 1) := by decide +kernel
theorem dL_law_242 : decode cL_law 242 = .ok (.aload_n 0, 1) := by decide +kernel
theorem dL_law_243 : decode cL_law 243 = .ok (.iload_n 3, 1) := by decide +kernel
theorem dL_law_244 : decode cL_law 244 = .ok (.iconst 2, 1) := by decide +kernel
theorem dL_law_245 : decode cL_law 245 = .ok (.iadd, 1) := by decide +kernel
theorem dL_law_246 : decode cL_law 246 = .ok (.iaload, 1) := by decide +kernel
theorem dL_law_247 : decode cL_law 247 = .ok (.aload_n 0, 1) := by decide +kernel
theorem dL_law_248 : decode cL_law 248 = .ok (.iload_n 3, 1) := by decide +kernel
theorem dL_law_249 : decode cL_law 249 = .ok (.iconst 3, 1) := by decide +kernel
theorem dL_law_250 : decode cL_law 250 = .ok (.iadd, 1) := by decide +kernel
theorem dL_law_251 : decode cL_law 251 = .ok (.iaload, 1) := by decide +kernel
theorem dL_law_252 : decode cL_law 252 = .ok (.aload_n 0, 1) := by decide +kernel
theorem dL_law_253 : decode cL_law 253 = .ok (.iload_n 3, 1) := by decide +kernel
theorem dL_law_254 : decode cL_law 254 = .ok (.iconst 4, 1) := by decide +kernel
theorem dL_law_255 : decode cL_law 255 = .ok (.iadd, 1) := by decide +kernel
theorem dL_law_256 : decode cL_law 256 = .ok (.iaload, 1) := by decide +kernel
theorem dL_law_257 : decode cL_law 257 = .ok (.invokevirtual 23, 3) := by decide +kernel
theorem dL_law_260 : decode cL_law 260 = .ok (.aload_n 2, 1) := by decide +kernel
theorem dL_law_261 : decode cL_law 261 = .ok (.aload_n 0, 1) := by decide +kernel
theorem dL_law_262 : decode cL_law 262 = .ok (.iload_n 3, 1) := by decide +kernel
theorem dL_law_263 : decode cL_law 263 = .ok (.iconst 1, 1) := by decide +kernel
theorem dL_law_264 : decode cL_law 264 = .ok (.iadd, 1) := by decide +kernel
theorem dL_law_265 : decode cL_law 265 = .ok (.iaload, 1) := by decide +kernel
theorem dL_law_266 : decode cL_law 266 = .ok (.aload_n 0, 1) := by decide +kernel
theorem dL_law_267 : decode cL_law 267 = .ok (.iload_n 3, 1) := by decide +kernel
theorem dL_law_268 : decode cL_law 268 = .ok (.iconst 2, 1) := by decide +kernel
theorem dL_law_269 : decode cL_law 269 = .ok (.iadd, 1) := by decide +kernel
theorem dL_law_270 : decode cL_law 270 = .ok (.iaload, 1) := by decide +kernel
theorem dL_law_271 : decode cL_law 271 = .ok (.aload_n 0, 1) := by decide +kernel
theorem dL_law_272 : decode cL_law 272 = .ok (.iload_n 3, 1) := by decide +kernel
theorem dL_law_273 : decode cL_law 273 = .ok (.iconst 3, 1) := by decide +kernel
theorem dL_law_274 : decode cL_law 274 = .ok (.iadd, 1) := by decide +kernel
theorem dL_law_275 : decode cL_law 275 = .ok (.iaload, 1) := by decide +kernel
theorem dL_law_276 : decode cL_law 276 = .ok (.aload_n 0, 1) := by decide +kernel
theorem dL_law_277 : decode cL_law 277 = .ok (.iload_n 3, 1) := by decide +kernel
theorem dL_law_278 : decode cL_law 278 = .ok (.iconst 4, 1) := by decide +kernel
theorem dL_law_279 : decode cL_law 279 = .ok (.iadd, 1) := by decide +kernel
theorem dL_law_280 : decode cL_law 280 = .ok (.iaload, 1) := by decide +kernel
theorem dL_law_281 : decode cL_law 281 = .ok (.invokevirtual 27, 3) := by decide +kernel
theorem dL_law_284 : decode cL_law 284 = .ok (.if_icmp .eq 787, 3) := by decide +kernel
theorem dL_law_287 : decode cL_law 287 = .ok (.iconst 0, 1) := by decide +kernel
theorem dL_law_288 : decode cL_law 288 = .ok (.ireturn, 1) := by decide +kernel
theorem dL_law_289 : decode cL_law 289 = .ok (.aload_n 1, 1) := by decide +kernel
theorem dL_law_290 : decode cL_law 290 = .ok (.aload_n 0, 1) := by decide +kernel
theorem dL_law_291 : decode cL_law 291 = .ok (.iload_n 3, 1) := by decide +kernel
theorem dL_law_292 : decode cL_law 292 = .ok (.iconst 1, 1) := by decide +kernel
theorem dL_law_293 : decode cL_law 293 = .ok (.iadd, 1) := by decide +kernel
theorem dL_law_294 : decode cL_law 294 = .ok (.iaload, 1) := by decide +kernel
theorem dL_law_295 : decode cL_law 295 = .ok (.invokevirtual 28, 3) := by decide +kernel
theorem dL_law_298 : decode cL_law 298 = .ok (.aload_n 2, 1) := by decide +kernel
theorem dL_law_299 : decode cL_law 299 = .ok (.aload_n 0, 1) := by decide +kernel
theorem dL_law_300 : decode cL_law 300 = .ok (.iload_n 3, 1) := by decide +kernel
theorem dL_law_301 : decode cL_law 301 = .ok (.iconst 1, 1) := by decide +kernel
theorem dL_law_302 : decode cL_law 302 = .ok (.iadd, 1) := by decide +kernel
theorem dL_law_303 : decode cL_law 303 = .ok (.iaload, 1) := by decide +kernel
theorem dL_law_304 : decode cL_law 304 = .ok (.invokevirtual 31, 3) := by decide +kernel
theorem dL_law_307 : decode cL_law 307 = .ok (.if_icmp .eq 764, 3) := by decide +kernel
theorem dL_law_310 : decode cL_law 310 = .ok (.iconst 0, 1) := by decide +kernel
theorem dL_law_311 : decode cL_law 311 = .ok (.ireturn, 1) := by decide +kernel
theorem dL_law_312 : decode cL_law 312 = .ok (.aload_n 1, 1) := by decide +kernel
theorem dL_law_313 : decode cL_law 313 = .ok (.aload_n 0, 1) := by decide +kernel
theorem dL_law_314 : decode cL_law 314 = .ok (.iload_n 3, 1) := by decide +kernel
theorem dL_law_315 : decode cL_law 315 = .ok (.iconst 1, 1) := by decide +kernel
theorem dL_law_316 : decode cL_law 316 = .ok (.iadd, 1) := by decide +kernel
theorem dL_law_317 : decode cL_law 317 = .ok (.iaload, 1) := by decide +kernel
theorem dL_law_318 : decode cL_law 318 = .ok (.invokevirtual 32, 3) := by decide +kernel
theorem dL_law_321 : decode cL_law 321 = .ok (.aload_n 2, 1) := by decide +kernel
theorem dL_law_322 : decode cL_law 322 = .ok (.aload_n 0, 1) := by decide +kernel
theorem dL_law_323 : decode cL_law 323 = .ok (.iload_n 3, 1) := by decide +kernel
theorem dL_law_324 : decode cL_law 324 = .ok (.iconst 1, 1) := by decide +kernel
theorem dL_law_325 : decode cL_law 325 = .ok (.iadd, 1) := by decide +kernel
theorem dL_law_326 : decode cL_law 326 = .ok (.iaload, 1) := by decide +kernel
theorem dL_law_327 : decode cL_law 327 = .ok (.invokevirtual 35, 3) := by decide +kernel
theorem dL_law_330 : decode cL_law 330 = .ok (.if_icmp .eq 741, 3) := by decide +kernel
theorem dL_law_333 : decode cL_law 333 = .ok (.iconst 0, 1) := by decide +kernel
theorem dL_law_334 : decode cL_law 334 = .ok (.ireturn, 1) := by decide +kernel
theorem dL_law_335 : decode cL_law 335 = .ok (.aload_n 1, 1) := by decide +kernel
theorem dL_law_336 : decode cL_law 336 = .ok (.invokevirtual 36, 3) := by decide +kernel
theorem dL_law_339 : decode cL_law 339 = .ok (.aload_n 2, 1) := by decide +kernel
theorem dL_law_340 : decode cL_law 340 = .ok (.invokevirtual 40, 3) := by decide +kernel
theorem dL_law_343 : decode cL_law 343 = .ok (.if_icmp .eq 728, 3) := by decide +kernel
theorem dL_law_346 : decode cL_law 346 = .ok (.iconst 0, 1) := by decide +kernel
theorem dL_law_347 : decode cL_law 347 = .ok (.ireturn, 1) := by decide +kernel
theorem dL_law_348 : decode cL_law 348 = .ok (.aload_n 1, 1) := by decide +kernel
theorem dL_law_349 : decode cL_law 349 = .ok (.aload_n 0, 1) := by decide +kernel
theorem dL_law_350 : decode cL_law 350 = .ok (.iload_n 3, 1) := by decide +kernel
theorem dL_law_351 : decode cL_law 351 = .ok (.iconst 1, 1) := by decide +kernel
theorem dL_law_352 : decode cL_law 352 = .ok (.iadd, 1) := by decide +kernel
theorem dL_law_353 : decode cL_law 353 = .ok (.iaload, 1) := by decide +kernel
theorem dL_law_354 : decode cL_law 354 = .ok (.invokevirtual 41, 3) := by decide +kernel
theorem dL_law_357 : decode cL_law 357 = .ok (.aload_n 2, 1) := by decide +kernel
theorem dL_law_358 : decode cL_law 358 = .ok (.aload_n 0, 1) := by decide +kernel
theorem dL_law_359 : decode cL_law 359 = .ok (.iload_n 3, 1) := by decide +kernel
theorem dL_law_360 : decode cL_law 360 = .ok (.iconst 1, 1) := by decide +kernel
theorem dL_law_361 : decode cL_law 361 = .ok (.iadd, 1) := by decide +kernel
theorem dL_law_362 : decode cL_law 362 = .ok (.iaload, 1) := by decide +kernel
theorem dL_law_363 : decode cL_law 363 = .ok (.invokevirtual 44, 3) := by decide +kernel
theorem dL_law_366 : decode cL_law 366 = .ok (.if_icmp .eq 705, 3) := by decide +kernel
theorem dL_law_369 : decode cL_law 369 = .ok (.iconst 0, 1) := by decide +kernel
theorem dL_law_370 : decode cL_law 370 = .ok (.ireturn, 1) := by decide +kernel
theorem dL_law_371 : decode cL_law 371 = .ok (.aload_n 1, 1) := by decide +kernel
theorem dL_law_372 : decode cL_law 372 = .ok (.invokevirtual 45, 3) := by decide +kernel
theorem dL_law_375 : decode cL_law 375 = .ok (.aload_n 2, 1) := by decide +kernel
theorem dL_law_376 : decode cL_law 376 = .ok (.invokevirtual 48, 3) := by decide +kernel
theorem dL_law_379 : decode cL_law 379 = .ok (.if_icmp .eq 692, 3) := by decide +kernel
theorem dL_law_382 : decode cL_law 382 = .ok (.iconst 0, 1) := by decide +kernel
theorem dL_law_383 : decode cL_law 383 = .ok (.ireturn, 1) := by decide +kernel
theorem dL_law_384 : decode cL_law 384 = .ok (.aload_n 1, 1) := by decide +kernel
theorem dL_law_385 : decode cL_law 385 = .ok (.invokevirtual 49, 3) := by decide +kernel
theorem dL_law_388 : decode cL_law 388 = .ok (.aload_n 2, 1) := by decide +kernel
theorem dL_law_389 : decode cL_law 389 = .ok (.invokevirtual 52, 3) := by decide +kernel
theorem dL_law_392 : decode cL_law 392 = .ok (.if_icmp .eq 679, 3) := by decide +kernel
theorem dL_law_395 : decode cL_law 395 = .ok (.iconst 0, 1) := by decide +kernel
theorem dL_law_396 : decode cL_law 396 = .ok (.ireturn, 1) := by decide +kernel
theorem dL_law_397 : decode cL_law 397 = .ok (.aload_n 1, 1) := by decide +kernel
theorem dL_law_398 : decode cL_law 398 = .ok (.aload_n 0, 1) := by decide +kernel
theorem dL_law_399 : decode cL_law 399 = .ok (.iload_n 3, 1) := by decide +kernel
theorem dL_law_400 : decode cL_law 400 = .ok (.iconst 1, 1) := by decide +kernel
theorem dL_law_401 : decode cL_law 401 = .ok (.iadd, 1) := by decide +kernel
theorem dL_law_402 : decode cL_law 402 = .ok (.iaload, 1) := by decide +kernel
theorem dL_law_403 : decode cL_law 403 = .ok (.aload_n 0, 1) := by decide +kernel
theorem dL_law_404 : decode cL_law 404 = .ok (.iload_n 3, 1) := by decide +kernel
theorem dL_law_405 : decode cL_law 405 = .ok (.iconst 2, 1) := by decide +kernel
theorem dL_law_406 : decode cL_law 406 = .ok (.iadd, 1) := by decide +kernel
theorem dL_law_407 : decode cL_law 407 = .ok (.iaload, 1) := by decide +kernel
theorem dL_law_408 : decode cL_law 408 = .ok (.aload_n 0, 1) := by decide +kernel
theorem dL_law_409 : decode cL_law 409 = .ok (.iload_n 3, 1) := by decide +kernel
theorem dL_law_410 : decode cL_law 410 = .ok (.iconst 3, 1) := by decide +kernel
theorem dL_law_411 : decode cL_law 411 = .ok (.iadd, 1) := by decide +kernel
theorem dL_law_412 : decode cL_law 412 = .ok (.iaload, 1) := by decide +kernel
theorem dL_law_413 : decode cL_law 413 = .ok (.invokevirtual 53, 3) := by decide +kernel
theorem dL_law_416 : decode cL_law 416 = .ok (.aload_n 2, 1) := by decide +kernel
theorem dL_law_417 : decode cL_law 417 = .ok (.aload_n 0, 1) := by decide +kernel
theorem dL_law_418 : decode cL_law 418 = .ok (.iload_n 3, 1) := by decide +kernel
theorem dL_law_419 : decode cL_law 419 = .ok (.iconst 1, 1) := by decide +kernel
theorem dL_law_420 : decode cL_law 420 = .ok (.iadd, 1) := by decide +kernel
theorem dL_law_421 : decode cL_law 421 = .ok (.iaload, 1) := by decide +kernel
theorem dL_law_422 : decode cL_law 422 = .ok (.aload_n 0, 1) := by decide +kernel
theorem dL_law_423 : decode cL_law 423 = .ok (.iload_n 3, 1) := by decide +kernel
theorem dL_law_424 : decode cL_law 424 = .ok (.iconst 2, 1) := by decide +kernel
theorem dL_law_425 : decode cL_law 425 = .ok (.iadd, 1) := by decide +kernel
theorem dL_law_426 : decode cL_law 426 = .ok (.iaload, 1) := by decide +kernel
theorem dL_law_427 : decode cL_law 427 = .ok (.aload_n 0, 1) := by decide +kernel
theorem dL_law_428 : decode cL_law 428 = .ok (.iload_n 3, 1) := by decide +kernel
theorem dL_law_429 : decode cL_law 429 = .ok (.iconst 3, 1) := by decide +kernel
theorem dL_law_430 : decode cL_law 430 = .ok (.iadd, 1) := by decide +kernel
theorem dL_law_431 : decode cL_law 431 = .ok (.iaload, 1) := by decide +kernel
theorem dL_law_432 : decode cL_law 432 = .ok (.invokevirtual 57, 3) := by decide +kernel
theorem dL_law_435 : decode cL_law 435 = .ok (.if_icmp .eq 636, 3) := by decide +kernel
theorem dL_law_438 : decode cL_law 438 = .ok (.iconst 0, 1) := by decide +kernel
theorem dL_law_439 : decode cL_law 439 = .ok (.ireturn, 1) := by decide +kernel
theorem dL_law_440 : decode cL_law 440 = .ok (.aload_n 1, 1) := by decide +kernel
theorem dL_law_441 : decode cL_law 441 = .ok (.aload_n 0, 1) := by decide +kernel
theorem dL_law_442 : decode cL_law 442 = .ok (.iload_n 3, 1) := by decide +kernel
theorem dL_law_443 : decode cL_law 443 = .ok (.iconst 1, 1) := by decide +kernel
theorem dL_law_444 : decode cL_law 444 = .ok (.iadd, 1) := by decide +kernel
theorem dL_law_445 : decode cL_law 445 = .ok (.iaload, 1) := by decide +kernel
theorem dL_law_446 : decode cL_law 446 = .ok (.aload_n 0, 1) := by decide +kernel
theorem dL_law_447 : decode cL_law 447 = .ok (.iload_n 3, 1) := by decide +kernel
theorem dL_law_448 : decode cL_law 448 = .ok (.iconst 2, 1) := by decide +kernel
theorem dL_law_449 : decode cL_law 449 = .ok (.iadd, 1) := by decide +kernel
theorem dL_law_450 : decode cL_law 450 = .ok (.iaload, 1) := by decide +kernel
theorem dL_law_451 : decode cL_law 451 = .ok (.invokevirtual 58, 3) := by decide +kernel
theorem dL_law_454 : decode cL_law 454 = .ok (.aload_n 2, 1) := by decide +kernel
theorem dL_law_455 : decode cL_law 455 = .ok (.aload_n 0, 1) := by decide +kernel
theorem dL_law_456 : decode cL_law 456 = .ok (.iload_n 3, 1) := by decide +kernel
theorem dL_law_457 : decode cL_law 457 = .ok (.iconst 1, 1) := by decide +kernel
theorem dL_law_458 : decode cL_law 458 = .ok (.iadd, 1) := by decide +kernel
theorem dL_law_459 : decode cL_law 459 = .ok (.iaload, 1) := by decide +kernel
theorem dL_law_460 : decode cL_law 460 = .ok (.aload_n 0, 1) := by decide +kernel
theorem dL_law_461 : decode cL_law 461 = .ok (.iload_n 3, 1) := by decide +kernel
theorem dL_law_462 : decode cL_law 462 = .ok (.iconst 2, 1) := by decide +kernel
theorem dL_law_463 : decode cL_law 463 = .ok (.iadd, 1) := by decide +kernel
theorem dL_law_464 : decode cL_law 464 = .ok (.iaload, 1) := by decide +kernel
theorem dL_law_465 : decode cL_law 465 = .ok (.invokevirtual 61, 3) := by decide +kernel
theorem dL_law_468 : decode cL_law 468 = .ok (.if_icmp .eq 603, 3) := by decide +kernel
theorem dL_law_471 : decode cL_law 471 = .ok (.iconst 0, 1) := by decide +kernel
theorem dL_law_472 : decode cL_law 472 = .ok (.ireturn, 1) := by decide +kernel
theorem dL_law_473 : decode cL_law 473 = .ok (.aload_n 1, 1) := by decide +kernel
theorem dL_law_474 : decode cL_law 474 = .ok (.aload_n 0, 1) := by decide +kernel
theorem dL_law_475 : decode cL_law 475 = .ok (.iload_n 3, 1) := by decide +kernel
theorem dL_law_476 : decode cL_law 476 = .ok (.iconst 1, 1) := by decide +kernel
theorem dL_law_477 : decode cL_law 477 = .ok (.iadd, 1) := by decide +kernel
theorem dL_law_478 : decode cL_law 478 = .ok (.iaload, 1) := by decide +kernel
theorem dL_law_479 : decode cL_law 479 = .ok (.aload_n 0, 1) := by decide +kernel
theorem dL_law_480 : decode cL_law 480 = .ok (.iload_n 3, 1) := by decide +kernel
theorem dL_law_481 : decode cL_law 481 = .ok (.iconst 2, 1) := by decide +kernel
theorem dL_law_482 : decode cL_law 482 = .ok (.iadd, 1) := by decide +kernel
theorem dL_law_483 : decode cL_law 483 = .ok (.iaload, 1) := by decide +kernel
theorem dL_law_484 : decode cL_law 484 = .ok (.invokevirtual 62, 3) := by decide +kernel
theorem dL_law_487 : decode cL_law 487 = .ok (.aload_n 2, 1) := by decide +kernel
theorem dL_law_488 : decode cL_law 488 = .ok (.aload_n 0, 1) := by decide +kernel
theorem dL_law_489 : decode cL_law 489 = .ok (.iload_n 3, 1) := by decide +kernel
theorem dL_law_490 : decode cL_law 490 = .ok (.iconst 1, 1) := by decide +kernel
theorem dL_law_491 : decode cL_law 491 = .ok (.iadd, 1) := by decide +kernel
theorem dL_law_492 : decode cL_law 492 = .ok (.iaload, 1) := by decide +kernel
theorem dL_law_493 : decode cL_law 493 = .ok (.aload_n 0, 1) := by decide +kernel
theorem dL_law_494 : decode cL_law 494 = .ok (.iload_n 3, 1) := by decide +kernel
theorem dL_law_495 : decode cL_law 495 = .ok (.iconst 2, 1) := by decide +kernel
theorem dL_law_496 : decode cL_law 496 = .ok (.iadd, 1) := by decide +kernel
theorem dL_law_497 : decode cL_law 497 = .ok (.iaload, 1) := by decide +kernel
theorem dL_law_498 : decode cL_law 498 = .ok (.invokevirtual 65, 3) := by decide +kernel
theorem dL_law_501 : decode cL_law 501 = .ok (.if_icmp .eq 570, 3) := by decide +kernel
theorem dL_law_504 : decode cL_law 504 = .ok (.iconst 0, 1) := by decide +kernel
theorem dL_law_505 : decode cL_law 505 = .ok (.ireturn, 1) := by decide +kernel
theorem dL_law_506 : decode cL_law 506 = .ok (.aload_n 1, 1) := by decide +kernel
theorem dL_law_507 : decode cL_law 507 = .ok (.aload_n 0, 1) := by decide +kernel
theorem dL_law_508 : decode cL_law 508 = .ok (.iload_n 3, 1) := by decide +kernel
theorem dL_law_509 : decode cL_law 509 = .ok (.iconst 1, 1) := by decide +kernel
theorem dL_law_510 : decode cL_law 510 = .ok (.iadd, 1) := by decide +kernel
theorem dL_law_511 : decode cL_law 511 = .ok (.iaload, 1) := by decide +kernel
theorem dL_law_512 : decode cL_law 512 = .ok (.aload_n 0, 1) := by decide +kernel
theorem dL_law_513 : decode cL_law 513 = .ok (.iload_n 3, 1) := by decide +kernel
theorem dL_law_514 : decode cL_law 514 = .ok (.iconst 2, 1) := by decide +kernel
theorem dL_law_515 : decode cL_law 515 = .ok (.iadd, 1) := by decide +kernel
theorem dL_law_516 : decode cL_law 516 = .ok (.iaload, 1) := by decide +kernel
theorem dL_law_517 : decode cL_law 517 = .ok (.invokevirtual 66, 3) := by decide +kernel
theorem dL_law_520 : decode cL_law 520 = .ok (.aload_n 2, 1) := by decide +kernel
theorem dL_law_521 : decode cL_law 521 = .ok (.aload_n 0, 1) := by decide +kernel
theorem dL_law_522 : decode cL_law 522 = .ok (.iload_n 3, 1) := by decide +kernel
theorem dL_law_523 : decode cL_law 523 = .ok (.iconst 1, 1) := by decide +kernel
theorem dL_law_524 : decode cL_law 524 = .ok (.iadd, 1) := by decide +kernel
theorem dL_law_525 : decode cL_law 525 = .ok (.iaload, 1) := by decide +kernel
theorem dL_law_526 : decode cL_law 526 = .ok (.aload_n 0, 1) := by decide +kernel
theorem dL_law_527 : decode cL_law 527 = .ok (.iload_n 3, 1) := by decide +kernel
theorem dL_law_528 : decode cL_law 528 = .ok (.iconst 2, 1) := by decide +kernel
theorem dL_law_529 : decode cL_law 529 = .ok (.iadd, 1) := by decide +kernel
theorem dL_law_530 : decode cL_law 530 = .ok (.iaload, 1) := by decide +kernel
theorem dL_law_531 : decode cL_law 531 = .ok (.invokevirtual 69, 3) := by decide +kernel
theorem dL_law_534 : decode cL_law 534 = .ok (.if_icmp .eq 537, 3) := by decide +kernel
theorem dL_law_537 : decode cL_law 537 = .ok (.iconst 0, 1) := by decide +kernel
theorem dL_law_538 : decode cL_law 538 = .ok (.ireturn, 1) := by decide +kernel
theorem dL_law_539 : decode cL_law 539 = .ok (.aload_n 1, 1) := by decide +kernel
theorem dL_law_540 : decode cL_law 540 = .ok (.aload_n 0, 1) := by decide +kernel
theorem dL_law_541 : decode cL_law 541 = .ok (.iload_n 3, 1) := by decide +kernel
theorem dL_law_542 : decode cL_law 542 = .ok (.iconst 1, 1) := by decide +kernel
theorem dL_law_543 : decode cL_law 543 = .ok (.iadd, 1) := by decide +kernel
theorem dL_law_544 : decode cL_law 544 = .ok (.iaload, 1) := by decide +kernel
theorem dL_law_545 : decode cL_law 545 = .ok (.invokevirtual 70, 3) := by decide +kernel
theorem dL_law_548 : decode cL_law 548 = .ok (.aload_n 2, 1) := by decide +kernel
theorem dL_law_549 : decode cL_law 549 = .ok (.aload_n 0, 1) := by decide +kernel
theorem dL_law_550 : decode cL_law 550 = .ok (.iload_n 3, 1) := by decide +kernel
theorem dL_law_551 : decode cL_law 551 = .ok (.iconst 1, 1) := by decide +kernel
theorem dL_law_552 : decode cL_law 552 = .ok (.iadd, 1) := by decide +kernel
theorem dL_law_553 : decode cL_law 553 = .ok (.iaload, 1) := by decide +kernel
theorem dL_law_554 : decode cL_law 554 = .ok (.invokevirtual 73, 3) := by decide +kernel
theorem dL_law_557 : decode cL_law 557 = .ok (.if_icmp .eq 514, 3) := by decide +kernel
theorem dL_law_560 : decode cL_law 560 = .ok (.iconst 0, 1) := by decide +kernel
theorem dL_law_561 : decode cL_law 561 = .ok (.ireturn, 1) := by decide +kernel
theorem dL_law_562 : decode cL_law 562 = .ok (.aload_n 1, 1) := by decide +kernel
theorem dL_law_563 : decode cL_law 563 = .ok (.aload_n 0, 1) := by decide +kernel
theorem dL_law_564 : decode cL_law 564 = .ok (.iload_n 3, 1) := by decide +kernel
theorem dL_law_565 : decode cL_law 565 = .ok (.iconst 1, 1) := by decide +kernel
theorem dL_law_566 : decode cL_law 566 = .ok (.iadd, 1) := by decide +kernel
theorem dL_law_567 : decode cL_law 567 = .ok (.iaload, 1) := by decide +kernel
theorem dL_law_568 : decode cL_law 568 = .ok (.invokevirtual 74, 3) := by decide +kernel
theorem dL_law_571 : decode cL_law 571 = .ok (.aload_n 2, 1) := by decide +kernel
theorem dL_law_572 : decode cL_law 572 = .ok (.aload_n 0, 1) := by decide +kernel
theorem dL_law_573 : decode cL_law 573 = .ok (.iload_n 3, 1) := by decide +kernel
theorem dL_law_574 : decode cL_law 574 = .ok (.iconst 1, 1) := by decide +kernel
theorem dL_law_575 : decode cL_law 575 = .ok (.iadd, 1) := by decide +kernel
theorem dL_law_576 : decode cL_law 576 = .ok (.iaload, 1) := by decide +kernel
theorem dL_law_577 : decode cL_law 577 = .ok (.invokevirtual 77, 3) := by decide +kernel
theorem dL_law_580 : decode cL_law 580 = .ok (.if_icmp .eq 491, 3) := by decide +kernel
theorem dL_law_583 : decode cL_law 583 = .ok (.iconst 0, 1) := by decide +kernel
theorem dL_law_584 : decode cL_law 584 = .ok (.ireturn, 1) := by decide +kernel
theorem dL_law_585 : decode cL_law 585 = .ok (.aload_n 1, 1) := by decide +kernel
theorem dL_law_586 : decode cL_law 586 = .ok (.aload_n 0, 1) := by decide +kernel
theorem dL_law_587 : decode cL_law 587 = .ok (.iload_n 3, 1) := by decide +kernel
theorem dL_law_588 : decode cL_law 588 = .ok (.iconst 1, 1) := by decide +kernel
theorem dL_law_589 : decode cL_law 589 = .ok (.iadd, 1) := by decide +kernel
theorem dL_law_590 : decode cL_law 590 = .ok (.iaload, 1) := by decide +kernel
theorem dL_law_591 : decode cL_law 591 = .ok (.invokevirtual 78, 3) := by decide +kernel
theorem dL_law_594 : decode cL_law 594 = .ok (.aload_n 2, 1) := by decide +kernel
theorem dL_law_595 : decode cL_law 595 = .ok (.aload_n 0, 1) := by decide +kernel
theorem dL_law_596 : decode cL_law 596 = .ok (.iload_n 3, 1) := by decide +kernel
theorem dL_law_597 : decode cL_law 597 = .ok (.iconst 1, 1) := by decide +kernel
theorem dL_law_598 : decode cL_law 598 = .ok (.iadd, 1) := by decide +kernel
theorem dL_law_599 : decode cL_law 599 = .ok (.iaload, 1) := by decide +kernel
theorem dL_law_600 : decode cL_law 600 = .ok (.invokevirtual 81, 3) := by decide +kernel
theorem dL_law_603 : decode cL_law 603 = .ok (.if_icmp .eq 468, 3) := by decide +kernel
theorem dL_law_606 : decode cL_law 606 = .ok (.iconst 0, 1) := by decide +kernel
theorem dL_law_607 : decode cL_law 607 = .ok (.ireturn, 1) := by decide +kernel
theorem dL_law_608 : decode cL_law 608 = .ok (.aload_n 1, 1) := by decide +kernel
theorem dL_law_609 : decode cL_law 609 = .ok (.invokevirtual 82, 3) := by decide +kernel
theorem dL_law_612 : decode cL_law 612 = .ok (.aload_n 2, 1) := by decide +kernel
theorem dL_law_613 : decode cL_law 613 = .ok (.invokevirtual 85, 3) := by decide +kernel
theorem dL_law_616 : decode cL_law 616 = .ok (.if_icmp .eq 455, 3) := by decide +kernel
theorem dL_law_619 : decode cL_law 619 = .ok (.iconst 0, 1) := by decide +kernel
theorem dL_law_620 : decode cL_law 620 = .ok (.ireturn, 1) := by decide +kernel
theorem dL_law_621 : decode cL_law 621 = .ok (.aload_n 1, 1) := by decide +kernel
theorem dL_law_622 : decode cL_law 622 = .ok (.aload_n 0, 1) := by decide +kernel
theorem dL_law_623 : decode cL_law 623 = .ok (.iload_n 3, 1) := by decide +kernel
theorem dL_law_624 : decode cL_law 624 = .ok (.iconst 1, 1) := by decide +kernel
theorem dL_law_625 : decode cL_law 625 = .ok (.iadd, 1) := by decide +kernel
theorem dL_law_626 : decode cL_law 626 = .ok (.iaload, 1) := by decide +kernel
theorem dL_law_627 : decode cL_law 627 = .ok (.invokevirtual 86, 3) := by decide +kernel
theorem dL_law_630 : decode cL_law 630 = .ok (.aload_n 2, 1) := by decide +kernel
theorem dL_law_631 : decode cL_law 631 = .ok (.aload_n 0, 1) := by decide +kernel
theorem dL_law_632 : decode cL_law 632 = .ok (.iload_n 3, 1) := by decide +kernel
theorem dL_law_633 : decode cL_law 633 = .ok (.iconst 1, 1) := by decide +kernel
theorem dL_law_634 : decode cL_law 634 = .ok (.iadd, 1) := by decide +kernel
theorem dL_law_635 : decode cL_law 635 = .ok (.iaload, 1) := by decide +kernel
theorem dL_law_636 : decode cL_law 636 = .ok (.invokevirtual 89, 3) := by decide +kernel
theorem dL_law_639 : decode cL_law 639 = .ok (.if_icmp .eq 432, 3) := by decide +kernel
theorem dL_law_642 : decode cL_law 642 = .ok (.iconst 0, 1) := by decide +kernel
theorem dL_law_643 : decode cL_law 643 = .ok (.ireturn, 1) := by decide +kernel
theorem dL_law_644 : decode cL_law 644 = .ok (.aload_n 1, 1) := by decide +kernel
theorem dL_law_645 : decode cL_law 645 = .ok (.aload_n 0, 1) := by decide +kernel
theorem dL_law_646 : decode cL_law 646 = .ok (.iload_n 3, 1) := by decide +kernel
theorem dL_law_647 : decode cL_law 647 = .ok (.iconst 1, 1) := by decide +kernel
theorem dL_law_648 : decode cL_law 648 = .ok (.iadd, 1) := by decide +kernel
theorem dL_law_649 : decode cL_law 649 = .ok (.iaload, 1) := by decide +kernel
theorem dL_law_650 : decode cL_law 650 = .ok (.aload_n 0, 1) := by decide +kernel
theorem dL_law_651 : decode cL_law 651 = .ok (.iload_n 3, 1) := by decide +kernel
theorem dL_law_652 : decode cL_law 652 = .ok (.iconst 2, 1) := by decide +kernel
theorem dL_law_653 : decode cL_law 653 = .ok (.iadd, 1) := by decide +kernel
theorem dL_law_654 : decode cL_law 654 = .ok (.iaload, 1) := by decide +kernel
theorem dL_law_655 : decode cL_law 655 = .ok (.aload_n 0, 1) := by decide +kernel
theorem dL_law_656 : decode cL_law 656 = .ok (.iload_n 3, 1) := by decide +kernel
theorem dL_law_657 : decode cL_law 657 = .ok (.iconst 3, 1) := by decide +kernel
theorem dL_law_658 : decode cL_law 658 = .ok (.iadd, 1) := by decide +kernel
theorem dL_law_659 : decode cL_law 659 = .ok (.iaload, 1) := by decide +kernel
theorem dL_law_660 : decode cL_law 660 = .ok (.invokevirtual 90, 3) := by decide +kernel
theorem dL_law_663 : decode cL_law 663 = .ok (.aload_n 2, 1) := by decide +kernel
theorem dL_law_664 : decode cL_law 664 = .ok (.aload_n 0, 1) := by decide +kernel
theorem dL_law_665 : decode cL_law 665 = .ok (.iload_n 3, 1) := by decide +kernel
theorem dL_law_666 : decode cL_law 666 = .ok (.iconst 1, 1) := by decide +kernel
theorem dL_law_667 : decode cL_law 667 = .ok (.iadd, 1) := by decide +kernel
theorem dL_law_668 : decode cL_law 668 = .ok (.iaload, 1) := by decide +kernel
theorem dL_law_669 : decode cL_law 669 = .ok (.aload_n 0, 1) := by decide +kernel
theorem dL_law_670 : decode cL_law 670 = .ok (.iload_n 3, 1) := by decide +kernel
theorem dL_law_671 : decode cL_law 671 = .ok (.iconst 2, 1) := by decide +kernel
theorem dL_law_672 : decode cL_law 672 = .ok (.iadd, 1) := by decide +kernel
theorem dL_law_673 : decode cL_law 673 = .ok (.iaload, 1) := by decide +kernel
theorem dL_law_674 : decode cL_law 674 = .ok (.aload_n 0, 1) := by decide +kernel
theorem dL_law_675 : decode cL_law 675 = .ok (.iload_n 3, 1) := by decide +kernel
theorem dL_law_676 : decode cL_law 676 = .ok (.iconst 3, 1) := by decide +kernel
theorem dL_law_677 : decode cL_law 677 = .ok (.iadd, 1) := by decide +kernel
theorem dL_law_678 : decode cL_law 678 = .ok (.iaload, 1) := by decide +kernel
theorem dL_law_679 : decode cL_law 679 = .ok (.invokevirtual 93, 3) := by decide +kernel
theorem dL_law_682 : decode cL_law 682 = .ok (.if_icmp .eq 389, 3) := by decide +kernel
theorem dL_law_685 : decode cL_law 685 = .ok (.iconst 0, 1) := by decide +kernel
theorem dL_law_686 : decode cL_law 686 = .ok (.ireturn, 1) := by decide +kernel
theorem dL_law_687 : decode cL_law 687 = .ok (.aload_n 1, 1) := by decide +kernel
theorem dL_law_688 : decode cL_law 688 = .ok (.aload_n 0, 1) := by decide +kernel
theorem dL_law_689 : decode cL_law 689 = .ok (.iload_n 3, 1) := by decide +kernel
theorem dL_law_690 : decode cL_law 690 = .ok (.iconst 1, 1) := by decide +kernel
theorem dL_law_691 : decode cL_law 691 = .ok (.iadd, 1) := by decide +kernel
theorem dL_law_692 : decode cL_law 692 = .ok (.iaload, 1) := by decide +kernel
theorem dL_law_693 : decode cL_law 693 = .ok (.aload_n 0, 1) := by decide +kernel
theorem dL_law_694 : decode cL_law 694 = .ok (.iload_n 3, 1) := by decide +kernel
theorem dL_law_695 : decode cL_law 695 = .ok (.iconst 2, 1) := by decide +kernel
theorem dL_law_696 : decode cL_law 696 = .ok (.iadd, 1) := by decide +kernel
theorem dL_law_697 : decode cL_law 697 = .ok (.iaload, 1) := by decide +kernel
theorem dL_law_698 : decode cL_law 698 = .ok (.aload_n 0, 1) := by decide +kernel
theorem dL_law_699 : decode cL_law 699 = .ok (.iload_n 3, 1) := by decide +kernel
theorem dL_law_700 : decode cL_law 700 = .ok (.iconst 3, 1) := by decide +kernel
theorem dL_law_701 : decode cL_law 701 = .ok (.iadd, 1) := by decide +kernel
theorem dL_law_702 : decode cL_law 702 = .ok (.iaload, 1) := by decide +kernel
theorem dL_law_703 : decode cL_law 703 = .ok (.invokevirtual 94, 3) := by decide +kernel
theorem dL_law_706 : decode cL_law 706 = .ok (.aload_n 2, 1) := by decide +kernel
theorem dL_law_707 : decode cL_law 707 = .ok (.aload_n 0, 1) := by decide +kernel
theorem dL_law_708 : decode cL_law 708 = .ok (.iload_n 3, 1) := by decide +kernel
theorem dL_law_709 : decode cL_law 709 = .ok (.iconst 1, 1) := by decide +kernel
theorem dL_law_710 : decode cL_law 710 = .ok (.iadd, 1) := by decide +kernel
theorem dL_law_711 : decode cL_law 711 = .ok (.iaload, 1) := by decide +kernel
theorem dL_law_712 : decode cL_law 712 = .ok (.aload_n 0, 1) := by decide +kernel
theorem dL_law_713 : decode cL_law 713 = .ok (.iload_n 3, 1) := by decide +kernel
theorem dL_law_714 : decode cL_law 714 = .ok (.iconst 2, 1) := by decide +kernel
theorem dL_law_715 : decode cL_law 715 = .ok (.iadd, 1) := by decide +kernel
theorem dL_law_716 : decode cL_law 716 = .ok (.iaload, 1) := by decide +kernel
theorem dL_law_717 : decode cL_law 717 = .ok (.aload_n 0, 1) := by decide +kernel
theorem dL_law_718 : decode cL_law 718 = .ok (.iload_n 3, 1) := by decide +kernel
theorem dL_law_719 : decode cL_law 719 = .ok (.iconst 3, 1) := by decide +kernel
theorem dL_law_720 : decode cL_law 720 = .ok (.iadd, 1) := by decide +kernel
theorem dL_law_721 : decode cL_law 721 = .ok (.iaload, 1) := by decide +kernel
theorem dL_law_722 : decode cL_law 722 = .ok (.invokevirtual 97, 3) := by decide +kernel
theorem dL_law_725 : decode cL_law 725 = .ok (.if_icmp .eq 346, 3) := by decide +kernel
theorem dL_law_728 : decode cL_law 728 = .ok (.iconst 0, 1) := by decide +kernel
theorem dL_law_729 : decode cL_law 729 = .ok (.ireturn, 1) := by decide +kernel
theorem dL_law_730 : decode cL_law 730 = .ok (.aload_n 1, 1) := by decide +kernel
theorem dL_law_731 : decode cL_law 731 = .ok (.aload_n 0, 1) := by decide +kernel
theorem dL_law_732 : decode cL_law 732 = .ok (.iload_n 3, 1) := by decide +kernel
theorem dL_law_733 : decode cL_law 733 = .ok (.iconst 1, 1) := by decide +kernel
theorem dL_law_734 : decode cL_law 734 = .ok (.iadd, 1) := by decide +kernel
theorem dL_law_735 : decode cL_law 735 = .ok (.iaload, 1) := by decide +kernel
theorem dL_law_736 : decode cL_law 736 = .ok (.aload_n 0, 1) := by decide +kernel
theorem dL_law_737 : decode cL_law 737 = .ok (.iload_n 3, 1) := by decide +kernel
theorem dL_law_738 : decode cL_law 738 = .ok (.iconst 2, 1) := by decide +kernel
theorem dL_law_739 : decode cL_law 739 = .ok (.iadd, 1) := by decide +kernel
theorem dL_law_740 : decode cL_law 740 = .ok (.iaload, 1) := by decide +kernel
theorem dL_law_741 : decode cL_law 741 = .ok (.aload_n 0, 1) := by decide +kernel
theorem dL_law_742 : decode cL_law 742 = .ok (.iload_n 3, 1) := by decide +kernel
theorem dL_law_743 : decode cL_law 743 = .ok (.iconst 3, 1) := by decide +kernel
theorem dL_law_744 : decode cL_law 744 = .ok (.iadd, 1) := by decide +kernel
theorem dL_law_745 : decode cL_law 745 = .ok (.iaload, 1) := by decide +kernel
theorem dL_law_746 : decode cL_law 746 = .ok (.invokevirtual 98, 3) := by decide +kernel
theorem dL_law_749 : decode cL_law 749 = .ok (.aload_n 2, 1) := by decide +kernel
theorem dL_law_750 : decode cL_law 750 = .ok (.aload_n 0, 1) := by decide +kernel
theorem dL_law_751 : decode cL_law 751 = .ok (.iload_n 3, 1) := by decide +kernel
theorem dL_law_752 : decode cL_law 752 = .ok (.iconst 1, 1) := by decide +kernel
theorem dL_law_753 : decode cL_law 753 = .ok (.iadd, 1) := by decide +kernel
theorem dL_law_754 : decode cL_law 754 = .ok (.iaload, 1) := by decide +kernel
theorem dL_law_755 : decode cL_law 755 = .ok (.aload_n 0, 1) := by decide +kernel
theorem dL_law_756 : decode cL_law 756 = .ok (.iload_n 3, 1) := by decide +kernel
theorem dL_law_757 : decode cL_law 757 = .ok (.iconst 2, 1) := by decide +kernel
theorem dL_law_758 : decode cL_law 758 = .ok (.iadd, 1) := by decide +kernel
theorem dL_law_759 : decode cL_law 759 = .ok (.iaload, 1) := by decide +kernel
theorem dL_law_760 : decode cL_law 760 = .ok (.aload_n 0, 1) := by decide +kernel
theorem dL_law_761 : decode cL_law 761 = .ok (.iload_n 3, 1) := by decide +kernel
theorem dL_law_762 : decode cL_law 762 = .ok (.iconst 3, 1) := by decide +kernel
theorem dL_law_763 : decode cL_law 763 = .ok (.iadd, 1) := by decide +kernel
theorem dL_law_764 : decode cL_law 764 = .ok (.iaload, 1) := by decide +kernel
theorem dL_law_765 : decode cL_law 765 = .ok (.invokevirtual 101, 3) := by decide +kernel
theorem dL_law_768 : decode cL_law 768 = .ok (.if_icmp .eq 303, 3) := by decide +kernel
theorem dL_law_771 : decode cL_law 771 = .ok (.iconst 0, 1) := by decide +kernel
theorem dL_law_772 : decode cL_law 772 = .ok (.ireturn, 1) := by decide +kernel
theorem dL_law_773 : decode cL_law 773 = .ok (.aload_n 1, 1) := by decide +kernel
theorem dL_law_774 : decode cL_law 774 = .ok (.invokevirtual 102, 3) := by decide +kernel
theorem dL_law_777 : decode cL_law 777 = .ok (.aload_n 2, 1) := by decide +kernel
theorem dL_law_778 : decode cL_law 778 = .ok (.invokevirtual 105, 3) := by decide +kernel
theorem dL_law_781 : decode cL_law 781 = .ok (.if_icmp .eq 290, 3) := by decide +kernel
theorem dL_law_784 : decode cL_law 784 = .ok (.iconst 0, 1) := by decide +kernel
theorem dL_law_785 : decode cL_law 785 = .ok (.ireturn, 1) := by decide +kernel
theorem dL_law_786 : decode cL_law 786 = .ok (.aload_n 1, 1) := by decide +kernel
theorem dL_law_787 : decode cL_law 787 = .ok (.aload_n 0, 1) := by decide +kernel
theorem dL_law_788 : decode cL_law 788 = .ok (.iload_n 3, 1) := by decide +kernel
theorem dL_law_789 : decode cL_law 789 = .ok (.iconst 1, 1) := by decide +kernel
theorem dL_law_790 : decode cL_law 790 = .ok (.iadd, 1) := by decide +kernel
theorem dL_law_791 : decode cL_law 791 = .ok (.iaload, 1) := by decide +kernel
theorem dL_law_792 : decode cL_law 792 = .ok (.invokevirtual 106, 3) := by decide +kernel
theorem dL_law_795 : decode cL_law 795 = .ok (.aload_n 2, 1) := by decide +kernel
theorem dL_law_796 : decode cL_law 796 = .ok (.aload_n 0, 1) := by decide +kernel
theorem dL_law_797 : decode cL_law 797 = .ok (.iload_n 3, 1) := by decide +kernel
theorem dL_law_798 : decode cL_law 798 = .ok (.iconst 1, 1) := by decide +kernel
theorem dL_law_799 : decode cL_law 799 = .ok (.iadd, 1) := by decide +kernel
theorem dL_law_800 : decode cL_law 800 = .ok (.iaload, 1) := by decide +kernel
theorem dL_law_801 : decode cL_law 801 = .ok (.invokevirtual 109, 3) := by decide +kernel
theorem dL_law_804 : decode cL_law 804 = .ok (.if_icmp .eq 267, 3) := by decide +kernel
theorem dL_law_807 : decode cL_law 807 = .ok (.iconst 0, 1) := by decide +kernel
theorem dL_law_808 : decode cL_law 808 = .ok (.ireturn, 1) := by decide +kernel
theorem dL_law_809 : decode cL_law 809 = .ok (.aload_n 1, 1) := by decide +kernel
theorem dL_law_810 : decode cL_law 810 = .ok (.aload_n 0, 1) := by decide +kernel
theorem dL_law_811 : decode cL_law 811 = .ok (.iload_n 3, 1) := by decide +kernel
theorem dL_law_812 : decode cL_law 812 = .ok (.iconst 1, 1) := by decide +kernel
theorem dL_law_813 : decode cL_law 813 = .ok (.iadd, 1) := by decide +kernel
theorem dL_law_814 : decode cL_law 814 = .ok (.iaload, 1) := by decide +kernel
theorem dL_law_815 : decode cL_law 815 = .ok (.invokevirtual 110, 3) := by decide +kernel
theorem dL_law_818 : decode cL_law 818 = .ok (.aload_n 2, 1) := by decide +kernel
theorem dL_law_819 : decode cL_law 819 = .ok (.aload_n 0, 1) := by decide +kernel
theorem dL_law_820 : decode cL_law 820 = .ok (.iload_n 3, 1) := by decide +kernel
theorem dL_law_821 : decode cL_law 821 = .ok (.iconst 1, 1) := by decide +kernel
theorem dL_law_822 : decode cL_law 822 = .ok (.iadd, 1) := by decide +kernel
theorem dL_law_823 : decode cL_law 823 = .ok (.iaload, 1) := by decide +kernel
theorem dL_law_824 : decode cL_law 824 = .ok (.invokevirtual 113, 3) := by decide +kernel
theorem dL_law_827 : decode cL_law 827 = .ok (.if_icmp .eq 244, 3) := by decide +kernel
theorem dL_law_830 : decode cL_law 830 = .ok (.iconst 0, 1) := by decide +kernel
theorem dL_law_831 : decode cL_law 831 = .ok (.ireturn, 1) := by decide +kernel
theorem dL_law_832 : decode cL_law 832 = .ok (.aload_n 1, 1) := by decide +kernel
theorem dL_law_833 : decode cL_law 833 = .ok (.aload_n 0, 1) := by decide +kernel
theorem dL_law_834 : decode cL_law 834 = .ok (.iload_n 3, 1) := by decide +kernel
theorem dL_law_835 : decode cL_law 835 = .ok (.iconst 1, 1) := by decide +kernel
theorem dL_law_836 : decode cL_law 836 = .ok (.iadd, 1) := by decide +kernel
theorem dL_law_837 : decode cL_law 837 = .ok (.iaload, 1) := by decide +kernel
theorem dL_law_838 : decode cL_law 838 = .ok (.aload_n 0, 1) := by decide +kernel
theorem dL_law_839 : decode cL_law 839 = .ok (.iload_n 3, 1) := by decide +kernel
theorem dL_law_840 : decode cL_law 840 = .ok (.iconst 2, 1) := by decide +kernel
theorem dL_law_841 : decode cL_law 841 = .ok (.iadd, 1) := by decide +kernel
theorem dL_law_842 : decode cL_law 842 = .ok (.iaload, 1) := by decide +kernel
theorem dL_law_843 : decode cL_law 843 = .ok (.invokevirtual 114, 3) := by decide +kernel
theorem dL_law_846 : decode cL_law 846 = .ok (.aload_n 2, 1) := by decide +kernel
theorem dL_law_847 : decode cL_law 847 = .ok (.aload_n 0, 1) := by decide +kernel
theorem dL_law_848 : decode cL_law 848 = .ok (.iload_n 3, 1) := by decide +kernel
theorem dL_law_849 : decode cL_law 849 = .ok (.iconst 1, 1) := by decide +kernel
theorem dL_law_850 : decode cL_law 850 = .ok (.iadd, 1) := by decide +kernel
theorem dL_law_851 : decode cL_law 851 = .ok (.iaload, 1) := by decide +kernel
theorem dL_law_852 : decode cL_law 852 = .ok (.aload_n 0, 1) := by decide +kernel
theorem dL_law_853 : decode cL_law 853 = .ok (.iload_n 3, 1) := by decide +kernel
theorem dL_law_854 : decode cL_law 854 = .ok (.iconst 2, 1) := by decide +kernel
theorem dL_law_855 : decode cL_law 855 = .ok (.iadd, 1) := by decide +kernel
theorem dL_law_856 : decode cL_law 856 = .ok (.iaload, 1) := by decide +kernel
theorem dL_law_857 : decode cL_law 857 = .ok (.invokevirtual 117, 3) := by decide +kernel
theorem dL_law_860 : decode cL_law 860 = .ok (.if_icmp .eq 211, 3) := by decide +kernel
theorem dL_law_863 : decode cL_law 863 = .ok (.iconst 0, 1) := by decide +kernel
theorem dL_law_864 : decode cL_law 864 = .ok (.ireturn, 1) := by decide +kernel
theorem dL_law_865 : decode cL_law 865 = .ok (.aload_n 1, 1) := by decide +kernel
theorem dL_law_866 : decode cL_law 866 = .ok (.aload_n 0, 1) := by decide +kernel
theorem dL_law_867 : decode cL_law 867 = .ok (.iload_n 3, 1) := by decide +kernel
theorem dL_law_868 : decode cL_law 868 = .ok (.iconst 1, 1) := by decide +kernel
theorem dL_law_869 : decode cL_law 869 = .ok (.iadd, 1) := by decide +kernel
theorem dL_law_870 : decode cL_law 870 = .ok (.iaload, 1) := by decide +kernel
theorem dL_law_871 : decode cL_law 871 = .ok (.aload_n 0, 1) := by decide +kernel
theorem dL_law_872 : decode cL_law 872 = .ok (.iload_n 3, 1) := by decide +kernel
theorem dL_law_873 : decode cL_law 873 = .ok (.iconst 2, 1) := by decide +kernel
theorem dL_law_874 : decode cL_law 874 = .ok (.iadd, 1) := by decide +kernel
theorem dL_law_875 : decode cL_law 875 = .ok (.iaload, 1) := by decide +kernel
theorem dL_law_876 : decode cL_law 876 = .ok (.aload_n 0, 1) := by decide +kernel
theorem dL_law_877 : decode cL_law 877 = .ok (.iload_n 3, 1) := by decide +kernel
theorem dL_law_878 : decode cL_law 878 = .ok (.iconst 3, 1) := by decide +kernel
theorem dL_law_879 : decode cL_law 879 = .ok (.iadd, 1) := by decide +kernel
theorem dL_law_880 : decode cL_law 880 = .ok (.iaload, 1) := by decide +kernel
theorem dL_law_881 : decode cL_law 881 = .ok (.invokevirtual 118, 3) := by decide +kernel
theorem dL_law_884 : decode cL_law 884 = .ok (.aload_n 2, 1) := by decide +kernel
theorem dL_law_885 : decode cL_law 885 = .ok (.aload_n 0, 1) := by decide +kernel
theorem dL_law_886 : decode cL_law 886 = .ok (.iload_n 3, 1) := by decide +kernel
theorem dL_law_887 : decode cL_law 887 = .ok (.iconst 1, 1) := by decide +kernel
theorem dL_law_888 : decode cL_law 888 = .ok (.iadd, 1) := by decide +kernel
theorem dL_law_889 : decode cL_law 889 = .ok (.iaload, 1) := by decide +kernel
theorem dL_law_890 : decode cL_law 890 = .ok (.aload_n 0, 1) := by decide +kernel
theorem dL_law_891 : decode cL_law 891 = .ok (.iload_n 3, 1) := by decide +kernel
theorem dL_law_892 : decode cL_law 892 = .ok (.iconst 2, 1) := by decide +kernel
theorem dL_law_893 : decode cL_law 893 = .ok (.iadd, 1) := by decide +kernel
theorem dL_law_894 : decode cL_law 894 = .ok (.iaload, 1) := by decide +kernel
theorem dL_law_895 : decode cL_law 895 = .ok (.aload_n 0, 1) := by decide +kernel
theorem dL_law_896 : decode cL_law 896 = .ok (.iload_n 3, 1) := by decide +kernel
theorem dL_law_897 : decode cL_law 897 = .ok (.iconst 3, 1) := by decide +kernel
theorem dL_law_898 : decode cL_law 898 = .ok (.iadd, 1) := by decide +kernel
theorem dL_law_899 : decode cL_law 899 = .ok (.iaload, 1) := by decide +kernel
theorem dL_law_900 : decode cL_law 900 = .ok (.invokevirtual 121, 3) := by decide +kernel
theorem dL_law_903 : decode cL_law 903 = .ok (.if_icmp .eq 168, 3) := by decide +kernel
theorem dL_law_906 : decode cL_law 906 = .ok (.iconst 0, 1) := by decide +kernel
theorem dL_law_907 : decode cL_law 907 = .ok (.ireturn, 1) := by decide +kernel
theorem dL_law_908 : decode cL_law 908 = .ok (.aload_n 1, 1) := by decide +kernel
theorem dL_law_909 : decode cL_law 909 = .ok (.aload_n 0, 1) := by decide +kernel
theorem dL_law_910 : decode cL_law 910 = .ok (.iload_n 3, 1) := by decide +kernel
theorem dL_law_911 : decode cL_law 911 = .ok (.iconst 1, 1) := by decide +kernel
theorem dL_law_912 : decode cL_law 912 = .ok (.iadd, 1) := by decide +kernel
theorem dL_law_913 : decode cL_law 913 = .ok (.iaload, 1) := by decide +kernel
theorem dL_law_914 : decode cL_law 914 = .ok (.aload_n 0, 1) := by decide +kernel
theorem dL_law_915 : decode cL_law 915 = .ok (.iload_n 3, 1) := by decide +kernel
theorem dL_law_916 : decode cL_law 916 = .ok (.iconst 2, 1) := by decide +kernel
theorem dL_law_917 : decode cL_law 917 = .ok (.iadd, 1) := by decide +kernel
theorem dL_law_918 : decode cL_law 918 = .ok (.iaload, 1) := by decide +kernel
theorem dL_law_919 : decode cL_law 919 = .ok (.invokevirtual 122, 3) := by decide +kernel
theorem dL_law_922 : decode cL_law 922 = .ok (.aload_n 2, 1) := by decide +kernel
theorem dL_law_923 : decode cL_law 923 = .ok (.aload_n 0, 1) := by decide +kernel
theorem dL_law_924 : decode cL_law 924 = .ok (.iload_n 3, 1) := by decide +kernel
theorem dL_law_925 : decode cL_law 925 = .ok (.iconst 1, 1) := by decide +kernel
theorem dL_law_926 : decode cL_law 926 = .ok (.iadd, 1) := by decide +kernel
theorem dL_law_927 : decode cL_law 927 = .ok (.iaload, 1) := by decide +kernel
theorem dL_law_928 : decode cL_law 928 = .ok (.aload_n 0, 1) := by decide +kernel
theorem dL_law_929 : decode cL_law 929 = .ok (.iload_n 3, 1) := by decide +kernel
theorem dL_law_930 : decode cL_law 930 = .ok (.iconst 2, 1) := by decide +kernel
theorem dL_law_931 : decode cL_law 931 = .ok (.iadd, 1) := by decide +kernel
theorem dL_law_932 : decode cL_law 932 = .ok (.iaload, 1) := by decide +kernel
theorem dL_law_933 : decode cL_law 933 = .ok (.invokevirtual 125, 3) := by decide +kernel
theorem dL_law_936 : decode cL_law 936 = .ok (.if_icmp .eq 135, 3) := by decide +kernel
theorem dL_law_939 : decode cL_law 939 = .ok (.iconst 0, 1) := by decide +kernel
theorem dL_law_940 : decode cL_law 940 = .ok (.ireturn, 1) := by decide +kernel
theorem dL_law_941 : decode cL_law 941 = .ok (.aload_n 1, 1) := by decide +kernel
theorem dL_law_942 : decode cL_law 942 = .ok (.aload_n 0, 1) := by decide +kernel
theorem dL_law_943 : decode cL_law 943 = .ok (.iload_n 3, 1) := by decide +kernel
theorem dL_law_944 : decode cL_law 944 = .ok (.iconst 1, 1) := by decide +kernel
theorem dL_law_945 : decode cL_law 945 = .ok (.iadd, 1) := by decide +kernel
theorem dL_law_946 : decode cL_law 946 = .ok (.iaload, 1) := by decide +kernel
theorem dL_law_947 : decode cL_law 947 = .ok (.invokevirtual 126, 3) := by decide +kernel
theorem dL_law_950 : decode cL_law 950 = .ok (.aload_n 2, 1) := by decide +kernel
theorem dL_law_951 : decode cL_law 951 = .ok (.aload_n 0, 1) := by decide +kernel
theorem dL_law_952 : decode cL_law 952 = .ok (.iload_n 3, 1) := by decide +kernel
theorem dL_law_953 : decode cL_law 953 = .ok (.iconst 1, 1) := by decide +kernel
theorem dL_law_954 : decode cL_law 954 = .ok (.iadd, 1) := by decide +kernel
theorem dL_law_955 : decode cL_law 955 = .ok (.iaload, 1) := by decide +kernel
theorem dL_law_956 : decode cL_law 956 = .ok (.invokevirtual 130, 3) := by decide +kernel
theorem dL_law_959 : decode cL_law 959 = .ok (.lcmp, 1) := by decide +kernel
theorem dL_law_960 : decode cL_law 960 = .ok (.ifCond .eq 111, 3) := by decide +kernel
theorem dL_law_963 : decode cL_law 963 = .ok (.iconst 0, 1) := by decide +kernel
theorem dL_law_964 : decode cL_law 964 = .ok (.ireturn, 1) := by decide +kernel
theorem dL_law_965 : decode cL_law 965 = .ok (.aload_n 1, 1) := by decide +kernel
theorem dL_law_966 : decode cL_law 966 = .ok (.aload_n 0, 1) := by decide +kernel
theorem dL_law_967 : decode cL_law 967 = .ok (.iload_n 3, 1) := by decide +kernel
theorem dL_law_968 : decode cL_law 968 = .ok (.iconst 1, 1) := by decide +kernel
theorem dL_law_969 : decode cL_law 969 = .ok (.iadd, 1) := by decide +kernel
theorem dL_law_970 : decode cL_law 970 = .ok (.iaload, 1) := by decide +kernel
theorem dL_law_971 : decode cL_law 971 = .ok (.invokevirtual 131, 3) := by decide +kernel
theorem dL_law_974 : decode cL_law 974 = .ok (.aload_n 2, 1) := by decide +kernel
theorem dL_law_975 : decode cL_law 975 = .ok (.aload_n 0, 1) := by decide +kernel
theorem dL_law_976 : decode cL_law 976 = .ok (.iload_n 3, 1) := by decide +kernel
theorem dL_law_977 : decode cL_law 977 = .ok (.iconst 1, 1) := by decide +kernel
theorem dL_law_978 : decode cL_law 978 = .ok (.iadd, 1) := by decide +kernel
theorem dL_law_979 : decode cL_law 979 = .ok (.iaload, 1) := by decide +kernel
theorem dL_law_980 : decode cL_law 980 = .ok (.invokevirtual 134, 3) := by decide +kernel
theorem dL_law_983 : decode cL_law 983 = .ok (.if_icmp .eq 88, 3) := by decide +kernel
theorem dL_law_986 : decode cL_law 986 = .ok (.iconst 0, 1) := by decide +kernel
theorem dL_law_987 : decode cL_law 987 = .ok (.ireturn, 1) := by decide +kernel
theorem dL_law_988 : decode cL_law 988 = .ok (.aload_n 1, 1) := by decide +kernel
theorem dL_law_989 : decode cL_law 989 = .ok (.aload_n 0, 1) := by decide +kernel
theorem dL_law_990 : decode cL_law 990 = .ok (.iload_n 3, 1) := by decide +kernel
theorem dL_law_991 : decode cL_law 991 = .ok (.iconst 1, 1) := by decide +kernel
theorem dL_law_992 : decode cL_law 992 = .ok (.iadd, 1) := by decide +kernel
theorem dL_law_993 : decode cL_law 993 = .ok (.iaload, 1) := by decide +kernel
theorem dL_law_994 : decode cL_law 994 = .ok (.invokevirtual 135, 3) := by decide +kernel
theorem dL_law_997 : decode cL_law 997 = .ok (.aload_n 2, 1) := by decide +kernel
theorem dL_law_998 : decode cL_law 998 = .ok (.aload_n 0, 1) := by decide +kernel
theorem dL_law_999 : decode cL_law 999 = .ok (.iload_n 3, 1) := by decide +kernel
theorem dL_law_1000 : decode cL_law 1000 = .ok (.iconst 1, 1) := by decide +kernel
theorem dL_law_1001 : decode cL_law 1001 = .ok (.iadd, 1) := by decide +kernel
theorem dL_law_1002 : decode cL_law 1002 = .ok (.iaload, 1) := by decide +kernel
theorem dL_law_1003 : decode cL_law 1003 = .ok (.invokevirtual 138, 3) := by decide +kernel
theorem dL_law_1006 : decode cL_law 1006 = .ok (.if_icmp .eq 65, 3) := by decide +kernel
theorem dL_law_1009 : decode cL_law 1009 = .ok (.iconst 0, 1) := by decide +kernel
theorem dL_law_1010 : decode cL_law 1010 = .ok (.ireturn, 1) := by decide +kernel
theorem dL_law_1011 : decode cL_law 1011 = .ok (.aload_n 1, 1) := by decide +kernel
theorem dL_law_1012 : decode cL_law 1012 = .ok (.aload_n 0, 1) := by decide +kernel
theorem dL_law_1013 : decode cL_law 1013 = .ok (.iload_n 3, 1) := by decide +kernel
theorem dL_law_1014 : decode cL_law 1014 = .ok (.iconst 1, 1) := by decide +kernel
theorem dL_law_1015 : decode cL_law 1015 = .ok (.iadd, 1) := by decide +kernel
theorem dL_law_1016 : decode cL_law 1016 = .ok (.iaload, 1) := by decide +kernel
theorem dL_law_1017 : decode cL_law 1017 = .ok (.invokevirtual 139, 3) := by decide +kernel
theorem dL_law_1020 : decode cL_law 1020 = .ok (.aload_n 2, 1) := by decide +kernel
theorem dL_law_1021 : decode cL_law 1021 = .ok (.aload_n 0, 1) := by decide +kernel
theorem dL_law_1022 : decode cL_law 1022 = .ok (.iload_n 3, 1) := by decide +kernel
theorem dL_law_1023 : decode cL_law 1023 = .ok (.iconst 1, 1) := by decide +kernel
theorem dL_law_1024 : decode cL_law 1024 = .ok (.iadd, 1) := by decide +kernel
theorem dL_law_1025 : decode cL_law 1025 = .ok (.iaload, 1) := by decide +kernel
theorem dL_law_1026 : decode cL_law 1026 = .ok (.invokevirtual 142, 3) := by decide +kernel
theorem dL_law_1029 : decode cL_law 1029 = .ok (.if_icmp .eq 42, 3) := by decide +kernel
theorem dL_law_1032 : decode cL_law 1032 = .ok (.iconst 0, 1) := by decide +kernel
theorem dL_law_1033 : decode cL_law 1033 = .ok (.ireturn, 1) := by decide +kernel
theorem dL_law_1034 : decode cL_law 1034 = .ok (.aload_n 1, 1) := by decide +kernel
theorem dL_law_1035 : decode cL_law 1035 = .ok (.aload_n 0, 1) := by decide +kernel
theorem dL_law_1036 : decode cL_law 1036 = .ok (.iload_n 3, 1) := by decide +kernel
theorem dL_law_1037 : decode cL_law 1037 = .ok (.iconst 1, 1) := by decide +kernel
theorem dL_law_1038 : decode cL_law 1038 = .ok (.iadd, 1) := by decide +kernel
theorem dL_law_1039 : decode cL_law 1039 = .ok (.iaload, 1) := by decide +kernel
theorem dL_law_1040 : decode cL_law 1040 = .ok (.invokevirtual 143, 3) := by decide +kernel
theorem dL_law_1043 : decode cL_law 1043 = .ok (.aload_n 2, 1) := by decide +kernel
theorem dL_law_1044 : decode cL_law 1044 = .ok (.aload_n 0, 1) := by decide +kernel
theorem dL_law_1045 : decode cL_law 1045 = .ok (.iload_n 3, 1) := by decide +kernel
theorem dL_law_1046 : decode cL_law 1046 = .ok (.iconst 1, 1) := by decide +kernel
theorem dL_law_1047 : decode cL_law 1047 = .ok (.iadd, 1) := by decide +kernel
theorem dL_law_1048 : decode cL_law 1048 = .ok (.iaload, 1) := by decide +kernel
theorem dL_law_1049 : decode cL_law 1049 = .ok (.invokevirtual 146, 3) := by decide +kernel
theorem dL_law_1052 : decode cL_law 1052 = .ok (.if_icmp .eq 19, 3) := by decide +kernel
theorem dL_law_1055 : decode cL_law 1055 = .ok (.iconst 0, 1) := by decide +kernel
theorem dL_law_1056 : decode cL_law 1056 = .ok (.ireturn, 1) := by decide +kernel
theorem dL_law_1057 : decode cL_law 1057 = .ok (.aload_n 1, 1) := by decide +kernel
theorem dL_law_1058 : decode cL_law 1058 = .ok (.invokevirtual 147, 3) := by decide +kernel
theorem dL_law_1061 : decode cL_law 1061 = .ok (.aload_n 2, 1) := by decide +kernel
theorem dL_law_1062 : decode cL_law 1062 = .ok (.invokevirtual 151, 3) := by decide +kernel
theorem dL_law_1065 : decode cL_law 1065 = .ok (.lcmp, 1) := by decide +kernel
theorem dL_law_1066 : decode cL_law 1066 = .ok (.ifCond .eq 5, 3) := by decide +kernel
theorem dL_law_1069 : decode cL_law 1069 = .ok (.iconst 0, 1) := by decide +kernel
theorem dL_law_1070 : decode cL_law 1070 = .ok (.ireturn, 1) := by decide +kernel
theorem dL_law_1071 : decode cL_law 1071 = .ok (.iinc 3 5, 3) := by decide +kernel
theorem dL_law_1074 : decode cL_law 1074 = .ok (.goto (-1056), 3) := by decide +kernel
theorem dL_law_1077 : decode cL_law 1077 = .ok (.iconst 1, 1) := by decide +kernel
theorem dL_law_1078 : decode cL_law 1078 = .ok (.ireturn, 1) := by decide +kernel
end
section
/-! ===== the mini layer: the machine as seen by one method: locals, stack, a list of cells M whose k-th lies at base + k ===== -/
def zad (b k : Nat) : Nat := b + k
abbrev zG : Type := Launch × va_G × Nat × (Nat → ClassId) × (Nat → Nat) × Nat × (Nat → Int32)
abbrev zF : Type := Program × Env × Room × State × MethodId × Array Value × List Frame × Method × Code
abbrev zfp (F : zF) : Program := F.1
abbrev zfe (F : zF) : Env := F.2.1
abbrev zfR (F : zF) : Room := F.2.2.1
abbrev zfs (F : zF) : State := F.2.2.2.1
abbrev zfm (F : zF) : MethodId := F.2.2.2.2.1
abbrev zfa (F : zF) : Array Value := F.2.2.2.2.2.1
abbrev zfb (F : zF) : List Frame := F.2.2.2.2.2.2.1
abbrev zfM (F : zF) : Method := F.2.2.2.2.2.2.2.1
abbrev zfc (F : zF) : Code := F.2.2.2.2.2.2.2.2
abbrev zb (G : zG) : Nat := G.2.2.1
abbrev zca (G : zG) : Nat → ClassId := G.2.2.2.1
abbrev zsa (G : zG) : Nat → Nat := G.2.2.2.2.1
def zW (b : Nat) (M : List va_E) : va_W := M.mapIdx (fun k e => (zad b k, e))
def zA (G : zG) : Nat → Prop := fun q => zb G ≤ q
def zT (G : zG) : List (ClassId × FieldType) := [(zca G 0, .int), (zca G 1, .boolean), (zca G 2, .object RX1)]
def zH (G : zG) (M : List va_E) (H : Heap) : Prop := va_P G.2.1 vwCl (zW (zb G) M) H ∧ H.size = zb G + M.length
def zTb : List Cond := lw_tbl.filter goodWord
theorem zTb_in {w : Cond} (h : w ∈ zTb) : w ∈ lw_tbl := (List.mem_filter.mp h).1
theorem zTb_mem {w : Cond} (h : w ∈ lw_tbl) (hg : goodWord w = true) : w ∈ zTb := List.mem_filter.mpr ⟨h, hg⟩
theorem zTb_mem2 {w : Cond} (i : Nat) (h : lw_tbl[i]? = some w) (hg : goodWord w = true) : w ∈ zTb := zTb_mem (List.mem_of_getElem? h) hg
theorem zTb_good : GoodIn zTb zTb := fun w h => ⟨h, good_of_word (List.mem_filter.mp h).2⟩
/-- the static rows of the class, and the script (row 0) -/
def zLen (G : zG) : Nat → Nat
  | 0 => G.2.2.2.2.2.1
  | 1 => 24
  | 2 => 12
  | _ => 3
def zLine (j : Nat) : Int32 := ([0, 1, 2, 3, 4, 5, 6, 7, 8, 0, 3, 6, 1, 4, 7, 2, 5, 8, 0, 4, 8, 2, 4, 6] : List Int32).getD j 0
def zLett (j : Nat) : Int32 := ([115, 111, 99, 107, 119, 101, 97, 114, 100, 97, 114, 110] : List Int32).getD j 0
def zNumb (j : Nat) : Int32 := ([1, 2, 4] : List Int32).getD j 0
def zCon (G : zG) : Nat → Nat → Int32
  | 0 => G.2.2.2.2.2.2
  | 1 => zLine
  | 2 => zLett
  | _ => zNumb
def zNm : List (String × Nat × MethodName × String) := [(RX3, 11, yX1_init, RX3), (RX3, 29, yX2_init, RX3), (RX0, 27, yX3_within, RX3), (RX0, 46, yX3_between, RX3), (RX0, 65, yX3_loss, RX3), (RX2, 73, yX3_between, RX3), (RX2, 44, yX3_within, RX3), (RX2, 87, yX3_wearsAsTold, RX3), (RX0, 104, yX3_powerOfTen, RX3)]
def zNf : List (String × Nat × String × String × String × String) := [(RX2, 70, RX3, "WORD_LETTERS", "[I", RX3), (RX2, 48, RX3, "WORD_NUMBERS", "[I", RX3), (RX0, 92, RX3, "LINE_CELLS", "[I", RX3)]
def zSt (i : Nat) : String := match i with
  | 1 => "LINE_CELLS"
  | 2 => "WORD_LETTERS"
  | _ => "WORD_NUMBERS"
def zN (U : State) : Prop := (∀ q ∈ zNm, va_Nw (.methodLinkNest q.1 q.2.1 q.2.2.1 q.2.2.2) U) ∧ ∀ q ∈ zNf, va_Nw (.fieldLinkNest q.1 q.2.1 q.2.2.1 q.2.2.2.1 q.2.2.2.2.1 q.2.2.2.2.2) U
def zC (G : zG) (U : State) : Prop := va_K G.2.1 vwCl (zT G) U ∧ zN U ∧ va_AO RX1 U ∧ (∀ i, i < 4 → va_X (zsa G i) (zLen G i) (zCon G i) U U.heap ∧ zsa G i < zb G) ∧ (∀ i, 0 < i → i < 4 → va_Z RX3 (zSt i) "[I" (.ref (zsa G i)) (zA G) U U.heap) ∧ zb G ≤ U.heap.size
theorem zC.warm {G : zG} {s U : State} {H0 : Heap} {locs : List Loc} (h : zC G s) (hW : s.WarmedH U.vm) (hH : U.heap = H0) (hS : va_S (zA G) s.heap H0 locs) : zC G U := by
  subst hH
  obtain ⟨h1, h2, h3, h4, h5, h6⟩ := h
  refine ⟨va_K.moved hW.alike h1, ⟨fun q hq => va_Nw.warmM hW (h2.1 q hq), fun q hq => va_Nw.warmF hW (h2.2 q hq)⟩, va_AO.moved hW.alike h3, fun i hi => ?_, fun i h0 hi => ?_, Nat.le_trans h6 hS.1⟩
  · obtain ⟨hx, hlt⟩ := h4 i hi
    exact ⟨va_X.moved hW.alike (va_X.kept hx (hS.2.1 _ (Nat.lt_of_lt_of_le hlt h6) (Nat.not_le.mpr hlt))), hlt⟩
  · exact va_Z.moved hW.alike (va_Z.kept (h5 i h0 hi) (fun a ha hn => hS.2.1 a ha hn))
theorem zC.blind {G : zG} {U : State} (h : zC G U) (g : JFrame) (mk : MethodId) (a : Array Value) : zC G (U.calling g mk a) := by
  obtain ⟨h1, h2, h3, h4, h5, h6⟩ := h
  have hv : U.vm.Alike (U.calling g mk a).vm := Vm.Alike.refl U.vm
  refine ⟨va_K.moved hv h1, ⟨fun q hq => va_Nw.same rfl rfl (h2.1 q hq), fun q hq => va_Nw.same rfl rfl (h2.2 q hq)⟩, va_AO.moved hv h3, fun i hi => ⟨va_X.moved hv (h4 i hi).1, (h4 i hi).2⟩, fun i h0 hi => va_Z.moved hv (h5 i h0 hi), h6⟩
/-! the list of cells -/
theorem zW_get {b : Nat} {M : List va_E} {k : Nat} {e : va_E} (h : M[k]? = some e) : (zW b M)[k]? = some (zad b k, e) := by
  simp [zW, List.getElem?_mapIdx, h]
theorem zW_of {b : Nat} {M : List va_E} {k : Nat} {q : Nat × va_E} (h : (zW b M)[k]? = some q) : M[k]? = some q.2 ∧ q.1 = zad b k := by
  simp only [zW, List.getElem?_mapIdx] at h
  cases hm : M[k]? with
  | none => rw [hm] at h; cases h
  | some e => rw [hm] at h; cases h; exact ⟨rfl, rfl⟩
theorem zW_set {b : Nat} {M : List va_E} {k : Nat} {e : va_E} : (zW b M).set k (zad b k, e) = zW b (M.set k e) := by
  apply List.ext_getElem?
  intro i
  by_cases hi : i = k
  · subst hi
    by_cases hl : i < M.length
    · simp [zW, List.getElem?_mapIdx, List.getElem?_set, hl]
    · simp [zW, List.getElem?_mapIdx, List.getElem?_set, hl]
  · simp [zW, List.getElem?_mapIdx, List.getElem?_set, Ne.symm hi]
theorem zW_push {b : Nat} {M : List va_E} {e : va_E} : zW b M ++ [(zad b M.length, e)] = zW b (M ++ [e]) := by
  simp [zW, List.mapIdx_append]
theorem zD (G : zG) (M : List va_E) : va_D (zA G) (zW (zb G) M) := by
  refine ⟨fun i j p q hp hq he => ?_, fun k q hq => ?_⟩
  · have h1 := (zW_of hp).2
    have h2 := (zW_of hq).2
    rw [h1, h2] at he
    unfold zad at he
    omega
  · have h1 := (zW_of hq).2
    show zb G ≤ q.1
    rw [h1]
    unfold zad
    omega
/-! Z -/
def Z (G : zG) (F : zF) (cells slots : Nat) (Q : State → Prop) (pc : Nat) (lv : List (Nat × Value)) (st : List Value) (M : List va_E) : Prop :=
  ∀ (H : Heap) (locs : List Loc) (ls : Array Slot), zH G M H → va_S (zA G) (zfs F).heap H locs → lv_has ls (zfc F).maxLocals lv →
    W (zfp F) G.1 (zfe F) (zfR F) (zfs F) (zfm F) (zfa F) (zfb F) (zfM F) (zfc F) H locs cells slots Q (F0 (zfm F) pc ls st)
def zOk (G : zG) (F : zF) (y : MethodName) (cc : ByteArray) (nL : Nat) (ret : Option FieldType) (own : String) (d n0 : Nat) : Prop :=
  (zfp F).tables.exec = Jvm.exec ∧ (zfc F).code = cc ∧ (zfc F).maxLocals = nL ∧ (zfs F).vm.findClass own = some (zfm F).cls ∧ (∀ w ∈ zTb, w.before (zfa F) (zfs F) = true) ∧ zC G (zfs F) ∧ (zfs F).heap.size = zb G + n0 ∧ (zfM F).locks = false ∧ (zfM F).sig.returnType = ret ∧ d ≤ (zfR F).frames ∧ 64 * d ≤ (zfR F).locals ∧ (zfM F).name = y.name
/-- the size of the heap is held by the count of the new cells -/
theorem W.size {p : Program} {l : Launch} {e : Env} {R : Room} {s : State} {m : MethodId} {args : Array Value} {below : List Frame} {meth : Method} {c : Code} {H : Heap} {locs : List Loc} {cells slots : Nat} {Q : State → Prop} {g : JFrame}
    (k : H.size ≤ s.heap.size + cells → W p l e R s m args below meth c H locs cells slots Q g) : W p l e R s m args below meth c H locs cells slots Q g := by
  intro T hT X
  exact k (by rw [← hT]; exact X.heapSize) T hT X
def zQc (G : zG) (Q1 : Option Value → List va_E → Prop) : Array Value → State → Outcome → State → Prop := fun _ st oc t => (∃ v M', oc = .returned v ∧ Q1 v M' ∧ zH G M' t.heap) ∧ va_F (zA G) st t
def zEnd (G : zG) (F : zF) (Q1 : Option Value → List va_E → Prop) (mc ms : Nat) : State → Prop := MQ (zfb F) (zQc G Q1) (zfa F) (zfs F) mc ms (zA G)
/-- the contract of a method, in the mini layer's words -/
def zS (G : zG) (d : Nat) (y : MethodName) (cc : ByteArray) (nL : Nat) (ret : Option FieldType) (av : List Value) (M : List va_E) (mc ms : Nat) (Q1 : Option Value → List va_E → Prop) : Prop :=
  Met G.1 y (.code y cc nL ret :: zTb) { frames := d, cells := mc, slots := ms, locals := 64 * d } (va_Pc av (fun U => zH G M U.heap ∧ zC G U)) (zQc G Q1) mc ms (zA G)
theorem zS.of {G : zG} {d : Nat} {y : MethodName} {cc : ByteArray} {nL : Nat} {ret : Option FieldType} {av : List Value} {M : List va_E} {mc ms : Nat} {Q1 : Option Value → List va_E → Prop}
    (hy : plainName y.cls = true) (hn : (lg_sl av).length ≤ nL)
    (h : ∀ F : zF, zOk G F y cc nL ret y.cls d M.length → (zfR F).cells = mc → (zfR F).slots = ms → Z G F 0 0 (zEnd G F Q1 mc ms) 0 (lv_args 0 av) [] M) : zS G d y cc nL ret av M mc ms Q1 := by
  refine Met.ofW (cc := cc) (maxL := nL) (ret := ret) hy rfl ?_
  intro p e s m args below meth c s₁ B hml hv
  obtain ⟨rfl, hH, hC⟩ := hv
  have hts := atoms_spec (ws := Cond.code y cc nL ret :: zTb) B.pre
  have hown : s.vm.findClass y.cls = some m.cls := findClass_of_methodNamed B.named
  have hl := lv_entry av (n := nL) hn
  rw [lg_entry_eq]
  generalize (lg_sl av ++ List.replicate (nL - (lg_sl av).length) Slot.unset).toArray = ls at hl ⊢
  exact h (p, e, _, s, m, av.toArray, below, meth, c) ⟨B.exec, B.bytes, hml, hown, fun w hw => hts w (List.mem_cons_of_mem _ hw), hC, hH.2, B.notSynchronized, B.returns, Nat.le_refl _, Nat.le_refl _, (name_of_methodNamed B.named B.method).1⟩ rfl rfl s.heap [] ls hH va_S.rf (by show lv_has ls c.maxLocals _; rw [hml]; exact hl)
section ZR
variable {G : zG} {F : zF} {y : MethodName} {cc : ByteArray} {nL : Nat} {ret : Option FieldType} {own : String} {d n0 cells slots pc : Nat} {Q : State → Prop} {lv : List (Nat × Value)} {st : List Value} {M : List va_E}
theorem zlk_mem : ∀ {l : List (Nat × Value)} {i : Nat} {v : Value}, l.lookup i = some v → (i, v) ∈ l
  | [], i, v, h => by cases h
  | (j, u) :: l, i, v, h => by
    rw [List.lookup_cons] at h
    by_cases hj : (i == j) = true
    · rw [hj] at h
      have e : i = j := by simpa using hj
      subst e
      cases h
      exact List.mem_cons_self
    · have hj' : (i == j) = false := by simpa using hj
      rw [hj'] at h
      exact List.mem_cons_of_mem _ (zlk_mem h)
theorem zlk {ls : Array Slot} {n i : Nat} {v : Value} (h : lv_has ls n lv) (hk : lv.lookup i = some v) : ls[i]? = some (.val v) := h.2.2 (i, v) (zlk_mem hk)
theorem z_iconst (O : zOk G F y cc nL ret own d n0) {n : Int} (v : Int32) (hd : decode cc pc = .ok (.iconst n, 1)) (hv : Int32.ofInt n = v := by decide) (k : Z G F cells slots Q (pc + 1) lv (.int v :: st) M) : Z G F cells slots Q (pc) lv (st) M :=
  fun H locs ls hH hS hl => lv_iconst O.1 O.2.1 hd hv (k H locs ls hH hS hl)
theorem z_bipush (O : zOk G F y cc nL ret own d n0) {n : Int} (v : Int32) (hd : decode cc pc = .ok (.bipush n, 2)) (hv : (Int8.ofInt n).toInt32 = v := by decide) (k : Z G F cells slots Q (pc + 2) lv (.int v :: st) M) : Z G F cells slots Q (pc) lv (st) M :=
  fun H locs ls hH hS hl => lv_bipush O.1 O.2.1 hd hv (k H locs ls hH hS hl)
theorem z_sipush (O : zOk G F y cc nL ret own d n0) {n : Int} (v : Int32) (hd : decode cc pc = .ok (.sipush n, 3)) (hv : (Int16.ofInt n).toInt32 = v := by decide) (k : Z G F cells slots Q (pc + 3) lv (.int v :: st) M) : Z G F cells slots Q (pc) lv (st) M :=
  fun H locs ls hH hS hl => lv_sipush O.1 O.2.1 hd hv (k H locs ls hH hS hl)
theorem z_lconst (O : zOk G F y cc nL ret own d n0) {n : Fin 2} (v : Int64) (hd : decode cc pc = .ok (.lconst n, 1)) (hv : Int64.ofNat (n : Nat) = v := by decide) (k : Z G F cells slots Q (pc + 1) lv (.long v :: st) M) : Z G F cells slots Q (pc) lv (st) M :=
  fun H locs ls hH hS hl => lv_lconst O.1 O.2.1 hd hv (k H locs ls hH hS hl)
theorem z_iload_n (O : zOk G F y cc nL ret own d n0) {k0 : Fin 4} {x : Int32} (hd : decode cc pc = .ok (.iload_n k0, 1)) (hk : lv.lookup (k0 : Nat) = some (.int x) := by rfl) (k : Z G F cells slots Q (pc + 1) lv (.int x :: st) M) : Z G F cells slots Q (pc) lv (st) M :=
  fun H locs ls hH hS hl => lv_iload_n O.1 O.2.1 hd rfl (zlk hl hk) (k H locs ls hH hS hl)
theorem z_iload (O : zOk G F y cc nL ret own d n0) {i : Nat} {x : Int32} (hd : decode cc pc = .ok (.iload i, 2)) (hk : lv.lookup i = some (.int x) := by rfl) (k : Z G F cells slots Q (pc + 2) lv (.int x :: st) M) : Z G F cells slots Q (pc) lv (st) M :=
  fun H locs ls hH hS hl => lv_iload O.1 O.2.1 hd (zlk hl hk) (k H locs ls hH hS hl)
theorem z_lload_n (O : zOk G F y cc nL ret own d n0) {k0 : Fin 4} {x : Int64} (hd : decode cc pc = .ok (.lload_n k0, 1)) (hk : lv.lookup (k0 : Nat) = some (.long x) := by rfl) (k : Z G F cells slots Q (pc + 1) lv (.long x :: st) M) : Z G F cells slots Q (pc) lv (st) M :=
  fun H locs ls hH hS hl => lv_lload_n O.1 O.2.1 hd rfl (zlk hl hk) (k H locs ls hH hS hl)
theorem z_lload (O : zOk G F y cc nL ret own d n0) {i : Nat} {x : Int64} (hd : decode cc pc = .ok (.lload i, 2)) (hk : lv.lookup i = some (.long x) := by rfl) (k : Z G F cells slots Q (pc + 2) lv (.long x :: st) M) : Z G F cells slots Q (pc) lv (st) M :=
  fun H locs ls hH hS hl => lv_lload O.1 O.2.1 hd (zlk hl hk) (k H locs ls hH hS hl)
theorem z_aload_n (O : zOk G F y cc nL ret own d n0) {k0 : Fin 4} {x : Nat} (hd : decode cc pc = .ok (.aload_n k0, 1)) (hk : lv.lookup (k0 : Nat) = some (.ref x) := by rfl) (k : Z G F cells slots Q (pc + 1) lv (.ref x :: st) M) : Z G F cells slots Q (pc) lv (st) M :=
  fun H locs ls hH hS hl => lv_aload_n O.1 O.2.1 hd rfl (zlk hl hk) (k H locs ls hH hS hl)
theorem z_aload (O : zOk G F y cc nL ret own d n0) {i : Nat} {x : Nat} (hd : decode cc pc = .ok (.aload i, 2)) (hk : lv.lookup i = some (.ref x) := by rfl) (k : Z G F cells slots Q (pc + 2) lv (.ref x :: st) M) : Z G F cells slots Q (pc) lv (st) M :=
  fun H locs ls hH hS hl => lv_aload O.1 O.2.1 hd (zlk hl hk) (k H locs ls hH hS hl)
theorem z_aload_nN (O : zOk G F y cc nL ret own d n0) {k0 : Fin 4} (hd : decode cc pc = .ok (.aload_n k0, 1)) (hk : lv.lookup (k0 : Nat) = some .null := by rfl) (k : Z G F cells slots Q (pc + 1) lv (.null :: st) M) : Z G F cells slots Q (pc) lv (st) M :=
  fun H locs ls hH hS hl => lv_aload_nN O.1 O.2.1 hd rfl (zlk hl hk) (k H locs ls hH hS hl)
def zins : List (Nat × Value) → Nat → Value → List (Nat × Value)
  | [], i, v => [(i, v)]
  | (j, u) :: l, i, v => bif Nat.blt j i then (j, u) :: zins l i v else (i, v) :: (j, u) :: l
def zst1 (lv : List (Nat × Value)) (i : Nat) (v : Value) : List (Nat × Value) := zins (lv.filter (fun q => !(q.1 == i) && !(q.1 + 1 == i && q.2.category == 2))) i v
def zst2 (lv : List (Nat × Value)) (i : Nat) (v : Value) : List (Nat × Value) := zins (lv.filter (fun q => !(q.1 == i) && (!(q.1 == i + 1) && !(q.1 + 1 == i && q.2.category == 2)))) i v
theorem zins_mem : ∀ {l : List (Nat × Value)} {i : Nat} {v : Value} {q : Nat × Value}, q ∈ zins l i v → q ∈ (i, v) :: l
  | [], i, v, q, h => h
  | (j, u) :: l, i, v, q, h => by
    unfold zins at h
    cases hb : Nat.blt j i with
    | false => rw [hb] at h; exact h
    | true =>
      rw [hb] at h
      rcases List.mem_cons.mp h with rfl | h
      · exact List.mem_cons_of_mem _ List.mem_cons_self
      · rcases List.mem_cons.mp (zins_mem h) with rfl | h
        · exact List.mem_cons_self
        · exact List.mem_cons_of_mem _ (List.mem_cons_of_mem _ h)
theorem lv_has.less {ls : Array Slot} {n : Nat} {l l' : List (Nat × Value)} (h : lv_has ls n l) (hl : ∀ q, q ∈ l' → q ∈ l) : lv_has ls n l' := ⟨h.1, h.2.1, fun q hq => h.2.2 q (hl q hq)⟩
theorem z_istore_n (O : zOk G F y cc nL ret own d n0) {k0 : Fin 4} {x : Int32} {lv' : List (Nat × Value)} (hd : decode cc pc = .ok (.istore_n k0, 1)) (hn : (k0 : Nat) < nL) (hl' : zst1 lv (k0 : Nat) (.int x) = lv') (k : Z G F cells slots Q (pc + 1) lv' (st) M) : Z G F cells slots Q (pc) lv (.int x :: st) M := by
  intro H locs ls hH hS hl
  refine lv_istore_n O.1 O.2.1 hd rfl hl (by rw [O.2.2.1]; exact hn) rfl (fun ls' h' => k H locs ls' hH hS ?_)
  exact h'.less (fun q hq => zins_mem (by rw [← hl'] at hq; exact hq))
theorem z_istore (O : zOk G F y cc nL ret own d n0) {i : Nat} {x : Int32} {lv' : List (Nat × Value)} (hd : decode cc pc = .ok (.istore i, 2)) (hn : i < nL) (hl' : zst1 lv i (.int x) = lv') (k : Z G F cells slots Q (pc + 2) lv' (st) M) : Z G F cells slots Q (pc) lv (.int x :: st) M := by
  intro H locs ls hH hS hl
  refine lv_istore O.1 O.2.1 hd hl (by rw [O.2.2.1]; exact hn) rfl (fun ls' h' => k H locs ls' hH hS ?_)
  exact h'.less (fun q hq => zins_mem (by rw [← hl'] at hq; exact hq))
theorem z_lstore_n (O : zOk G F y cc nL ret own d n0) {k0 : Fin 4} {x : Int64} {lv' : List (Nat × Value)} (hd : decode cc pc = .ok (.lstore_n k0, 1)) (hn : (k0 : Nat) + 1 < nL) (hl' : zst2 lv (k0 : Nat) (.long x) = lv') (k : Z G F cells slots Q (pc + 1) lv' (st) M) : Z G F cells slots Q (pc) lv (.long x :: st) M := by
  intro H locs ls hH hS hl
  refine lv_lstore_n O.1 O.2.1 hd rfl hl (by rw [O.2.2.1]; exact hn) rfl (fun ls' h' => k H locs ls' hH hS ?_)
  exact h'.less (fun q hq => zins_mem (by rw [← hl'] at hq; exact hq))
theorem z_lstore (O : zOk G F y cc nL ret own d n0) {i : Nat} {x : Int64} {lv' : List (Nat × Value)} (hd : decode cc pc = .ok (.lstore i, 2)) (hn : i + 1 < nL) (hl' : zst2 lv i (.long x) = lv') (k : Z G F cells slots Q (pc + 2) lv' (st) M) : Z G F cells slots Q (pc) lv (.long x :: st) M := by
  intro H locs ls hH hS hl
  refine lv_lstore O.1 O.2.1 hd hl (by rw [O.2.2.1]; exact hn) rfl (fun ls' h' => k H locs ls' hH hS ?_)
  exact h'.less (fun q hq => zins_mem (by rw [← hl'] at hq; exact hq))
theorem z_astore_n (O : zOk G F y cc nL ret own d n0) {k0 : Fin 4} {x : Nat} {lv' : List (Nat × Value)} (hd : decode cc pc = .ok (.astore_n k0, 1)) (hn : (k0 : Nat) < nL) (hl' : zst1 lv (k0 : Nat) (.ref x) = lv') (k : Z G F cells slots Q (pc + 1) lv' (st) M) : Z G F cells slots Q (pc) lv (.ref x :: st) M := by
  intro H locs ls hH hS hl
  refine lv_astore_n O.1 O.2.1 hd rfl hl (by rw [O.2.2.1]; exact hn) rfl (fun ls' h' => k H locs ls' hH hS ?_)
  exact h'.less (fun q hq => zins_mem (by rw [← hl'] at hq; exact hq))
theorem z_astore_nN (O : zOk G F y cc nL ret own d n0) {k0 : Fin 4} {lv' : List (Nat × Value)} (hd : decode cc pc = .ok (.astore_n k0, 1)) (hn : (k0 : Nat) < nL) (hl' : zst1 lv (k0 : Nat) (.null) = lv') (k : Z G F cells slots Q (pc + 1) lv' (st) M) : Z G F cells slots Q (pc) lv (.null :: st) M := by
  intro H locs ls hH hS hl
  refine lv_astore_nN O.1 O.2.1 hd rfl hl (by rw [O.2.2.1]; exact hn) rfl (fun ls' h' => k H locs ls' hH hS ?_)
  exact h'.less (fun q hq => zins_mem (by rw [← hl'] at hq; exact hq))
theorem z_iinc (O : zOk G F y cc nL ret own d n0) {i : Nat} {n : Int} {x : Int32} (c0 : Int32) {lv' : List (Nat × Value)} (hd : decode cc pc = .ok (.iinc i n, 3)) (hn : i < nL) (hk : lv.lookup i = some (.int x)) (hl' : zst1 lv i (.int (x + c0)) = lv') (hc : Int32.ofInt n = c0 := by decide) (k : Z G F cells slots Q (pc + 3) lv' (st) M) : Z G F cells slots Q (pc) lv (st) M := by
  intro H locs ls hH hS hl
  subst hc
  obtain ⟨k', hk'⟩ := List.mem_iff_getElem?.mp (zlk_mem hk)
  refine lv_iinc O.1 O.2.1 hd hl hk' rfl (by rw [O.2.2.1]; exact hn) rfl (fun ls' h' => k H locs ls' hH hS ?_)
  exact h'.less (fun q hq => zins_mem (by rw [← hl'] at hq; exact hq))
theorem z_iadd (O : zOk G F y cc nL ret own d n0) {x y : Int32} (hd : decode cc pc = .ok (.iadd, 1)) (k : Z G F cells slots Q (pc + 1) lv (.int (x + y) :: st) M) : Z G F cells slots Q (pc) lv (.int y :: .int x :: st) M :=
  fun H locs ls hH hS hl => lv_iadd O.1 O.2.1 hd (k H locs ls hH hS hl)
theorem z_isub (O : zOk G F y cc nL ret own d n0) {x y : Int32} (hd : decode cc pc = .ok (.isub, 1)) (k : Z G F cells slots Q (pc + 1) lv (.int (x - y) :: st) M) : Z G F cells slots Q (pc) lv (.int y :: .int x :: st) M :=
  fun H locs ls hH hS hl => lv_isub O.1 O.2.1 hd (k H locs ls hH hS hl)
theorem z_imul (O : zOk G F y cc nL ret own d n0) {x y : Int32} (hd : decode cc pc = .ok (.imul, 1)) (k : Z G F cells slots Q (pc + 1) lv (.int (x * y) :: st) M) : Z G F cells slots Q (pc) lv (.int y :: .int x :: st) M :=
  fun H locs ls hH hS hl => lv_imul O.1 O.2.1 hd (k H locs ls hH hS hl)
theorem z_iand (O : zOk G F y cc nL ret own d n0) {x y : Int32} (hd : decode cc pc = .ok (.iand, 1)) (k : Z G F cells slots Q (pc + 1) lv (.int (x &&& y) :: st) M) : Z G F cells slots Q (pc) lv (.int y :: .int x :: st) M :=
  fun H locs ls hH hS hl => lv_iand O.1 O.2.1 hd (k H locs ls hH hS hl)
theorem z_ior (O : zOk G F y cc nL ret own d n0) {x y : Int32} (hd : decode cc pc = .ok (.ior, 1)) (k : Z G F cells slots Q (pc + 1) lv (.int (x ||| y) :: st) M) : Z G F cells slots Q (pc) lv (.int y :: .int x :: st) M :=
  fun H locs ls hH hS hl => lv_ior O.1 O.2.1 hd (k H locs ls hH hS hl)
theorem z_ishl (O : zOk G F y cc nL ret own d n0) {x y : Int32} (hd : decode cc pc = .ok (.ishl, 1)) (k : Z G F cells slots Q (pc + 1) lv (.int (x <<< (y &&& 31)) :: st) M) : Z G F cells slots Q (pc) lv (.int y :: .int x :: st) M :=
  fun H locs ls hH hS hl => lv_ishl O.1 O.2.1 hd (k H locs ls hH hS hl)
theorem z_ishr (O : zOk G F y cc nL ret own d n0) {x y : Int32} (hd : decode cc pc = .ok (.ishr, 1)) (k : Z G F cells slots Q (pc + 1) lv (.int (x >>> (y &&& 31)) :: st) M) : Z G F cells slots Q (pc) lv (.int y :: .int x :: st) M :=
  fun H locs ls hH hS hl => lv_ishr O.1 O.2.1 hd (k H locs ls hH hS hl)
theorem z_iushr (O : zOk G F y cc nL ret own d n0) {x y : Int32} (hd : decode cc pc = .ok (.iushr, 1)) (k : Z G F cells slots Q (pc + 1) lv (.int ((x.toUInt32 >>> (y.toUInt32 &&& Int32.toUInt32 31)).toInt32) :: st) M) : Z G F cells slots Q (pc) lv (.int y :: .int x :: st) M :=
  fun H locs ls hH hS hl => lv_iushr O.1 O.2.1 hd rfl (k H locs ls hH hS hl)
theorem z_idiv (O : zOk G F y cc nL ret own d n0) {x y : Int32} (hd : decode cc pc = .ok (.idiv, 1)) (h0 : ¬ y = 0) (k : Z G F cells slots Q (pc + 1) lv (.int (x / y) :: st) M) : Z G F cells slots Q (pc) lv (.int y :: .int x :: st) M :=
  fun H locs ls hH hS hl => lv_idiv O.1 O.2.1 hd h0 (k H locs ls hH hS hl)
theorem z_irem (O : zOk G F y cc nL ret own d n0) {x y : Int32} (hd : decode cc pc = .ok (.irem, 1)) (h0 : ¬ y = 0) (k : Z G F cells slots Q (pc + 1) lv (.int (x - x / y * y) :: st) M) : Z G F cells slots Q (pc) lv (.int y :: .int x :: st) M :=
  fun H locs ls hH hS hl => lv_irem O.1 O.2.1 hd h0 (k H locs ls hH hS hl)
theorem z_ladd (O : zOk G F y cc nL ret own d n0) {x y : Int64} (hd : decode cc pc = .ok (.ladd, 1)) (k : Z G F cells slots Q (pc + 1) lv (.long (x + y) :: st) M) : Z G F cells slots Q (pc) lv (.long y :: .long x :: st) M :=
  fun H locs ls hH hS hl => lv_ladd O.1 O.2.1 hd (k H locs ls hH hS hl)
theorem z_lsub (O : zOk G F y cc nL ret own d n0) {x y : Int64} (hd : decode cc pc = .ok (.lsub, 1)) (k : Z G F cells slots Q (pc + 1) lv (.long (x - y) :: st) M) : Z G F cells slots Q (pc) lv (.long y :: .long x :: st) M :=
  fun H locs ls hH hS hl => lv_lsub O.1 O.2.1 hd (k H locs ls hH hS hl)
theorem z_lmul (O : zOk G F y cc nL ret own d n0) {x y : Int64} (hd : decode cc pc = .ok (.lmul, 1)) (k : Z G F cells slots Q (pc + 1) lv (.long (x * y) :: st) M) : Z G F cells slots Q (pc) lv (.long y :: .long x :: st) M :=
  fun H locs ls hH hS hl => lv_lmul O.1 O.2.1 hd (k H locs ls hH hS hl)
theorem z_ldiv (O : zOk G F y cc nL ret own d n0) {x y : Int64} (hd : decode cc pc = .ok (.ldiv, 1)) (h0 : ¬ y = 0) (k : Z G F cells slots Q (pc + 1) lv (.long (x / y) :: st) M) : Z G F cells slots Q (pc) lv (.long y :: .long x :: st) M :=
  fun H locs ls hH hS hl => lv_ldiv O.1 O.2.1 hd h0 (k H locs ls hH hS hl)
theorem z_lrem (O : zOk G F y cc nL ret own d n0) {x y : Int64} (hd : decode cc pc = .ok (.lrem, 1)) (h0 : ¬ y = 0) (k : Z G F cells slots Q (pc + 1) lv (.long (x - x / y * y) :: st) M) : Z G F cells slots Q (pc) lv (.long y :: .long x :: st) M :=
  fun H locs ls hH hS hl => lv_lrem O.1 O.2.1 hd h0 (k H locs ls hH hS hl)
theorem z_i2l (O : zOk G F y cc nL ret own d n0) {x : Int32} (hd : decode cc pc = .ok (.i2l, 1)) (k : Z G F cells slots Q (pc + 1) lv (.long x.toInt64 :: st) M) : Z G F cells slots Q (pc) lv (.int x :: st) M :=
  fun H locs ls hH hS hl => lv_i2l O.1 O.2.1 hd rfl (k H locs ls hH hS hl)
theorem z_l2i (O : zOk G F y cc nL ret own d n0) {x : Int64} (hd : decode cc pc = .ok (.l2i, 1)) (k : Z G F cells slots Q (pc + 1) lv (.int x.toInt32 :: st) M) : Z G F cells slots Q (pc) lv (.long x :: st) M :=
  fun H locs ls hH hS hl => lv_l2i O.1 O.2.1 hd rfl (k H locs ls hH hS hl)
theorem z_lcmp (O : zOk G F y cc nL ret own d n0) {x y : Int64} (hd : decode cc pc = .ok (.lcmp, 1)) (k : Z G F cells slots Q (pc + 1) lv (.int (lg_cmp x y) :: st) M) : Z G F cells slots Q (pc) lv (.long y :: .long x :: st) M :=
  fun H locs ls hH hS hl => W.lcmp O.1 O.2.1 hd (k H locs ls hH hS hl)
theorem z_dup (O : zOk G F y cc nL ret own d n0) {u : Value} (hd : decode cc pc = .ok (.dup, 1)) (h1 : u.category = 1 := by rfl) (k : Z G F cells slots Q (pc + 1) lv (u :: u :: st) M) : Z G F cells slots Q (pc) lv (u :: st) M :=
  fun H locs ls hH hS hl => lv_dup O.1 O.2.1 hd h1 (k H locs ls hH hS hl)
theorem z_pop (O : zOk G F y cc nL ret own d n0) {u : Value} (hd : decode cc pc = .ok (.pop, 1)) (h1 : u.category = 1 := by rfl) (k : Z G F cells slots Q (pc + 1) lv (st) M) : Z G F cells slots Q (pc) lv (u :: st) M :=
  fun H locs ls hH hS hl => lv_pop O.1 O.2.1 hd h1 (k H locs ls hH hS hl)
theorem z_dup2 (O : zOk G F y cc nL ret own d n0) {u v : Value} (hd : decode cc pc = .ok (.dup2, 1)) (h1 : u.category = 1 := by rfl) (h2 : v.category = 1 := by rfl) (k : Z G F cells slots Q (pc + 1) lv (u :: v :: u :: v :: st) M) : Z G F cells slots Q (pc) lv (u :: v :: st) M :=
  fun H locs ls hH hS hl => lv_dup2_11 O.1 O.2.1 hd h1 h2 (k H locs ls hH hS hl)
theorem z_if_eq (O : zOk G F y cc nL ret own d n0) {x : Int32} {off : Int} (tgt : Nat) (hd : decode cc pc = .ok (.ifCond .eq off, 3)) (ht : (pc : Int) + off = (tgt : Int)) (kt : (x = 0) → Z G F cells slots Q (tgt) lv (st) M) (kf : (¬ (x = 0)) → Z G F cells slots Q (pc + 3) lv (st) M) : Z G F cells slots Q (pc) lv (.int x :: st) M :=
  fun H locs ls hH hS hl => lv_if_eq O.1 O.2.1 hd ht (fun h => kt h H locs ls hH hS hl) (fun h => kf h H locs ls hH hS hl)
theorem z_icmp_eq (O : zOk G F y cc nL ret own d n0) {x y : Int32} {off : Int} (tgt : Nat) (hd : decode cc pc = .ok (.if_icmp .eq off, 3)) (ht : (pc : Int) + off = (tgt : Int)) (kt : (x = y) → Z G F cells slots Q (tgt) lv (st) M) (kf : (¬ (x = y)) → Z G F cells slots Q (pc + 3) lv (st) M) : Z G F cells slots Q (pc) lv (.int y :: .int x :: st) M :=
  fun H locs ls hH hS hl => lv_icmp_eq O.1 O.2.1 hd ht (fun h => kt h H locs ls hH hS hl) (fun h => kf h H locs ls hH hS hl)
theorem z_if_ne (O : zOk G F y cc nL ret own d n0) {x : Int32} {off : Int} (tgt : Nat) (hd : decode cc pc = .ok (.ifCond .ne off, 3)) (ht : (pc : Int) + off = (tgt : Int)) (kt : (¬ x = 0) → Z G F cells slots Q (tgt) lv (st) M) (kf : (x = 0) → Z G F cells slots Q (pc + 3) lv (st) M) : Z G F cells slots Q (pc) lv (.int x :: st) M :=
  fun H locs ls hH hS hl => lv_if_ne O.1 O.2.1 hd ht (fun h => kt h H locs ls hH hS hl) (fun h => kf h H locs ls hH hS hl)
theorem z_icmp_ne (O : zOk G F y cc nL ret own d n0) {x y : Int32} {off : Int} (tgt : Nat) (hd : decode cc pc = .ok (.if_icmp .ne off, 3)) (ht : (pc : Int) + off = (tgt : Int)) (kt : (¬ x = y) → Z G F cells slots Q (tgt) lv (st) M) (kf : (x = y) → Z G F cells slots Q (pc + 3) lv (st) M) : Z G F cells slots Q (pc) lv (.int y :: .int x :: st) M :=
  fun H locs ls hH hS hl => lv_icmp_ne O.1 O.2.1 hd ht (fun h => kt h H locs ls hH hS hl) (fun h => kf h H locs ls hH hS hl)
theorem z_if_lt (O : zOk G F y cc nL ret own d n0) {x : Int32} {off : Int} (tgt : Nat) (hd : decode cc pc = .ok (.ifCond .lt off, 3)) (ht : (pc : Int) + off = (tgt : Int)) (kt : (x < 0) → Z G F cells slots Q (tgt) lv (st) M) (kf : (¬ (x < 0)) → Z G F cells slots Q (pc + 3) lv (st) M) : Z G F cells slots Q (pc) lv (.int x :: st) M :=
  fun H locs ls hH hS hl => lv_if_lt O.1 O.2.1 hd ht (fun h => kt h H locs ls hH hS hl) (fun h => kf h H locs ls hH hS hl)
theorem z_icmp_lt (O : zOk G F y cc nL ret own d n0) {x y : Int32} {off : Int} (tgt : Nat) (hd : decode cc pc = .ok (.if_icmp .lt off, 3)) (ht : (pc : Int) + off = (tgt : Int)) (kt : (x < y) → Z G F cells slots Q (tgt) lv (st) M) (kf : (¬ (x < y)) → Z G F cells slots Q (pc + 3) lv (st) M) : Z G F cells slots Q (pc) lv (.int y :: .int x :: st) M :=
  fun H locs ls hH hS hl => lv_icmp_lt O.1 O.2.1 hd ht (fun h => kt h H locs ls hH hS hl) (fun h => kf h H locs ls hH hS hl)
theorem z_if_ge (O : zOk G F y cc nL ret own d n0) {x : Int32} {off : Int} (tgt : Nat) (hd : decode cc pc = .ok (.ifCond .ge off, 3)) (ht : (pc : Int) + off = (tgt : Int)) (kt : (0 ≤ x) → Z G F cells slots Q (tgt) lv (st) M) (kf : (¬ (0 ≤ x)) → Z G F cells slots Q (pc + 3) lv (st) M) : Z G F cells slots Q (pc) lv (.int x :: st) M :=
  fun H locs ls hH hS hl => lv_if_ge O.1 O.2.1 hd ht (fun h => kt h H locs ls hH hS hl) (fun h => kf h H locs ls hH hS hl)
theorem z_icmp_ge (O : zOk G F y cc nL ret own d n0) {x y : Int32} {off : Int} (tgt : Nat) (hd : decode cc pc = .ok (.if_icmp .ge off, 3)) (ht : (pc : Int) + off = (tgt : Int)) (kt : (y ≤ x) → Z G F cells slots Q (tgt) lv (st) M) (kf : (¬ (y ≤ x)) → Z G F cells slots Q (pc + 3) lv (st) M) : Z G F cells slots Q (pc) lv (.int y :: .int x :: st) M :=
  fun H locs ls hH hS hl => lv_icmp_ge O.1 O.2.1 hd ht (fun h => kt h H locs ls hH hS hl) (fun h => kf h H locs ls hH hS hl)
theorem z_if_gt (O : zOk G F y cc nL ret own d n0) {x : Int32} {off : Int} (tgt : Nat) (hd : decode cc pc = .ok (.ifCond .gt off, 3)) (ht : (pc : Int) + off = (tgt : Int)) (kt : (0 < x) → Z G F cells slots Q (tgt) lv (st) M) (kf : (¬ (0 < x)) → Z G F cells slots Q (pc + 3) lv (st) M) : Z G F cells slots Q (pc) lv (.int x :: st) M :=
  fun H locs ls hH hS hl => lv_if_gt O.1 O.2.1 hd ht (fun h => kt h H locs ls hH hS hl) (fun h => kf h H locs ls hH hS hl)
theorem z_icmp_gt (O : zOk G F y cc nL ret own d n0) {x y : Int32} {off : Int} (tgt : Nat) (hd : decode cc pc = .ok (.if_icmp .gt off, 3)) (ht : (pc : Int) + off = (tgt : Int)) (kt : (y < x) → Z G F cells slots Q (tgt) lv (st) M) (kf : (¬ (y < x)) → Z G F cells slots Q (pc + 3) lv (st) M) : Z G F cells slots Q (pc) lv (.int y :: .int x :: st) M :=
  fun H locs ls hH hS hl => lv_icmp_gt O.1 O.2.1 hd ht (fun h => kt h H locs ls hH hS hl) (fun h => kf h H locs ls hH hS hl)
theorem z_if_le (O : zOk G F y cc nL ret own d n0) {x : Int32} {off : Int} (tgt : Nat) (hd : decode cc pc = .ok (.ifCond .le off, 3)) (ht : (pc : Int) + off = (tgt : Int)) (kt : (x ≤ 0) → Z G F cells slots Q (tgt) lv (st) M) (kf : (¬ (x ≤ 0)) → Z G F cells slots Q (pc + 3) lv (st) M) : Z G F cells slots Q (pc) lv (.int x :: st) M :=
  fun H locs ls hH hS hl => lv_if_le O.1 O.2.1 hd ht (fun h => kt h H locs ls hH hS hl) (fun h => kf h H locs ls hH hS hl)
theorem z_icmp_le (O : zOk G F y cc nL ret own d n0) {x y : Int32} {off : Int} (tgt : Nat) (hd : decode cc pc = .ok (.if_icmp .le off, 3)) (ht : (pc : Int) + off = (tgt : Int)) (kt : (x ≤ y) → Z G F cells slots Q (tgt) lv (st) M) (kf : (¬ (x ≤ y)) → Z G F cells slots Q (pc + 3) lv (st) M) : Z G F cells slots Q (pc) lv (.int y :: .int x :: st) M :=
  fun H locs ls hH hS hl => lv_icmp_le O.1 O.2.1 hd ht (fun h => kt h H locs ls hH hS hl) (fun h => kf h H locs ls hH hS hl)
theorem z_goto (O : zOk G F y cc nL ret own d n0) {off : Int} (tgt : Nat) (hd : decode cc pc = .ok (.goto off, 3)) (ht : (pc : Int) + off = (tgt : Int)) (k : Z G F cells slots Q (tgt) lv (st) M) : Z G F cells slots Q (pc) lv (st) M :=
  fun H locs ls hH hS hl => lv_goto O.1 O.2.1 hd ht (k H locs ls hH hS hl)
theorem z_ifnonnull (O : zOk G F y cc nL ret own d n0) {x : Nat} {off : Int} (tgt : Nat) (hd : decode cc pc = .ok (.ifnonnull off, 3)) (ht : (pc : Int) + off = (tgt : Int)) (k : Z G F cells slots Q (tgt) lv (st) M) : Z G F cells slots Q (pc) lv (.ref x :: st) M :=
  fun H locs ls hH hS hl => lv_ifnonnull O.1 O.2.1 hd ht (k H locs ls hH hS hl)
theorem z_ifnonnullN (O : zOk G F y cc nL ret own d n0) {off : Int} (hd : decode cc pc = .ok (.ifnonnull off, 3)) (k : Z G F cells slots Q (pc + 3) lv (st) M) : Z G F cells slots Q (pc) lv (.null :: st) M :=
  fun H locs ls hH hS hl => lv_ifnonnullN O.1 O.2.1 hd (k H locs ls hH hS hl)
theorem z_tableOut (O : zOk G F y cc nL ret own d n0) {dflt lo hi : Int} {offs : Array Int} {len : Nat} {x : Int32} (tgt : Nat) (hd : decode cc pc = .ok (.tableswitch dflt lo hi offs, len)) (h : x.toInt < lo ∨ hi < x.toInt) (ht : (pc : Int) + dflt = (tgt : Int)) (k : Z G F cells slots Q (tgt) lv (st) M) : Z G F cells slots Q (pc) lv (.int x :: st) M :=
  fun H locs ls hH hS hl => lv_tableOut O.1 O.2.1 hd h ht (k H locs ls hH hS hl)
theorem z_tableIn (O : zOk G F y cc nL ret own d n0) {dflt lo hi : Int} {offs : Array Int} {len : Nat} {x : Int32} {off : Int} (tgt : Nat) (hd : decode cc pc = .ok (.tableswitch dflt lo hi offs, len)) (h1 : ¬ x.toInt < lo) (h2 : ¬ hi < x.toInt) (ho : offs[(x.toInt - lo).toNat]? = some off) (ht : (pc : Int) + off = (tgt : Int)) (k : Z G F cells slots Q (tgt) lv (st) M) : Z G F cells slots Q (pc) lv (.int x :: st) M :=
  fun H locs ls hH hS hl => lv_tableIn O.1 O.2.1 hd h1 h2 ho ht (k H locs ls hH hS hl)
theorem z_lookup (O : zOk G F y cc nL ret own d n0) {dflt : Int} {ps : Array (Int × Int)} {len : Nat} {x : Int32} {off : Int} (tgt : Nat) (hd : decode cc pc = .ok (.lookupswitch dflt ps, len)) (hp : (ps.toList.zip (ps.toList.drop 1)).all (fun (a, next) => a.1 < next.1) = true) (ho : Op.lookupswitch.offset ps.toList dflt x.toInt = off) (ht : (pc : Int) + off = (tgt : Int)) (k : Z G F cells slots Q (tgt) lv (st) M) : Z G F cells slots Q (pc) lv (.int x :: st) M :=
  fun H locs ls hH hS hl => lv_lookup O.1 O.2.1 hd hp ho ht (k H locs ls hH hS hl)
theorem z_ldc (O : zOk G F y cc nL ret own d n0) {idx : Nat} {v : Int32} (hd : decode cc pc = .ok (.ldc idx, 2)) (hc : Cond.constant own idx v ∈ zTb) (k : Z G F cells slots Q (pc + 2) lv (.int v :: st) M) : Z G F cells slots Q (pc) lv (st) M :=
  fun H locs ls hH hS hl => lv_ldc O.1 O.2.1 O.2.2.2.1 (O.2.2.2.2.1 _ hc) hd (k H locs ls hH hS hl)
theorem z_ldcw (O : zOk G F y cc nL ret own d n0) {idx : Nat} {v : Int32} (hd : decode cc pc = .ok (.ldc_w idx, 3)) (hc : Cond.constant own idx v ∈ zTb) (k : Z G F cells slots Q (pc + 3) lv (.int v :: st) M) : Z G F cells slots Q (pc) lv (st) M :=
  fun H locs ls hH hS hl => lv_ldcw O.1 O.2.1 O.2.2.2.1 (O.2.2.2.2.1 _ hc) hd (k H locs ls hH hS hl)
theorem z_ldc2 (O : zOk G F y cc nL ret own d n0) {idx : Nat} {v : Int64} (hd : decode cc pc = .ok (.ldc2_w idx, 3)) (hc : Cond.constantLong own idx v ∈ zTb) (k : Z G F cells slots Q (pc + 3) lv (.long v :: st) M) : Z G F cells slots Q (pc) lv (st) M :=
  fun H locs ls hH hS hl => lv_ldc2 O.1 O.2.1 O.2.2.2.1 (O.2.2.2.2.1 _ hc) hd (k H locs ls hH hS hl)
/-- entry idx of own's pool is field i of class ci -/
def zFld (own : String) (idx ci i : Nat) (ty : FieldType) (fin : Nat) : Prop := ∃ (C : String) (T : u_T) (N : Nat) (t0 : Nat → FieldType), vwCl[ci]? = some (C, T, N) ∧ i < N ∧ (∀ w ∈ u_ws C T N, w ∈ zTb) ∧ (∀ k, k < N → parseFieldDescriptor (T k).2.2.1 = some (t0 k)) ∧ (∀ a, a < N → ∀ b, b < N → a ≠ b → (T a).2.1 ≠ (T b).2.1) ∧ Cond.fieldLink own idx (T i).1 (T i).2.1 (T i).2.2.1 ∈ zTb ∧ parseFieldDescriptor (T i).2.2.1 = some ty ∧ (T i).2.2.2 = Nat.blt 0 fin ∧ (fin = 1 → (T i).1 = own)
theorem z_get (O : zOk G F y cc nL ret own d n0) {idx ci i a : Nat} {ty : FieldType} {fin : Nat} {fs : List Value} {v : Value} (hd : decode cc pc = .ok (.getfield idx, 3)) (hf : zFld own idx ci i ty fin) (he : M[a]? = some (.inr (ci, fs))) (hv : fs[i]? = some v) (k : Z G F cells slots Q (pc + 3) lv (v :: st) M) : Z G F cells slots Q (pc) lv (.ref (zad (zb G) a) :: st) M := by
  intro H locs ls hH hS hl
  obtain ⟨C, T, N, t0, h1, h2, h3, h4, h5, h6, h7, h8, h9⟩ := hf
  exact va_get O.1 O.2.1 O.2.2.2.2.1 h3 O.2.2.2.1 O.2.2.2.2.2.1.1 hH.1 a (zW_get he) h1 i h2 (O.2.2.2.2.1 _ h6) (fun _ h => h) hv hd (k H locs ls hH hS hl)
/-- the heap behind a store -/
theorem zH_set {H1 : Heap} {k : Nat} {e e' : va_E} (he : M[k]? = some e) (hP : va_P G.2.1 vwCl ((zW (zb G) M).set k (zad (zb G) k, e')) H1) (hsz : (zfs F).heap.size = zb G + n0) (hc : n0 + cells = M.length) (hle : H1.size ≤ (zfs F).heap.size + cells) : zH G (M.set k e') H1 := by
  rw [zW_set] at hP
  refine ⟨hP, ?_⟩
  have hl : 0 < M.length := Nat.lt_of_le_of_lt (Nat.zero_le k) (List.getElem?_eq_some_iff.mp he).1
  have hlt : M.length - 1 < (M.set k e').length := by rw [List.length_set]; omega
  have h1 := (hP (M.length - 1) _ (zW_get (List.getElem?_eq_getElem hlt))).lt
  rw [List.length_set]
  unfold zad at h1
  dsimp only at h1
  omega
theorem z_put (O : zOk G F y cc nL ret own d n0) {idx ci i a : Nat} {ty : FieldType} {fs : List Value} {v : Value} (hc : n0 + cells = M.length) (hd : decode cc pc = .ok (.putfield idx, 3)) (hf : zFld own idx ci i ty 0) (he : M[a]? = some (.inr (ci, fs))) (hn : narrow ty v = v) (hfit : fits ty v = true) (hlt : i < fs.length) (k : Z G F cells slots Q (pc + 3) lv (st) (M.set a (.inr (ci, fs.set i v)))) : Z G F cells slots Q (pc) lv (v :: .ref (zad (zb G) a) :: st) M := by
  intro H locs ls hH hS hl
  obtain ⟨C, T, N, t0, h1, h2, h3, h4, h5, h6, h7, h8, h9⟩ := hf
  refine va_put O.1 O.2.1 O.2.2.2.2.1 h3 t0 h4 h5 O.2.2.2.1 O.2.2.2.2.2.1.1 hH.1 (zD G M) hS a (zW_get he) h1 i h2 (O.2.2.2.2.1 _ h6) (fun _ h => h) h8 h7 hn hfit hlt hd (fun H1 locs1 hP1 hD1 hS1 => W.size (fun hle => k H1 locs1 ls ?_ hS1 hl))
  exact zH_set he hP1 O.2.2.2.2.2.2.1 hc hle
theorem z_putF (O : zOk G F y cc nL ret own d n0) {idx ci i a : Nat} {ty : FieldType} {fs : List Value} {v : Value} (hc : n0 + cells = M.length) (hi : y.name = "<init>") (hd : decode cc pc = .ok (.putfield idx, 3)) (hf : zFld own idx ci i ty 1) (he : M[a]? = some (.inr (ci, fs))) (hn : narrow ty v = v) (hfit : fits ty v = true) (hlt : i < fs.length) (k : Z G F cells slots Q (pc + 3) lv (st) (M.set a (.inr (ci, fs.set i v)))) : Z G F cells slots Q (pc) lv (v :: .ref (zad (zb G) a) :: st) M := by
  intro H locs ls hH hS hl
  obtain ⟨C, T, N, t0, h1, h2, h3, h4, h5, h6, h7, h8, h9⟩ := hf
  refine va_putF O.1 O.2.1 O.2.2.2.2.1 h3 t0 h4 h5 O.2.2.2.1 O.2.2.2.2.2.1.1 hH.1 (zD G M) hS a (zW_get he) h1 i h2 (O.2.2.2.2.1 _ h6) (fun _ h => h) h8 (O.2.2.2.2.2.2.2.2.2.2.2.trans hi) (h9 rfl) h7 hn hfit hlt hd (fun H1 locs1 hP1 hD1 hS1 => W.size (fun hle => k H1 locs1 ls ?_ hS1 hl))
  exact zH_set he hP1 O.2.2.2.2.2.2.1 hc hle
/-- the static rows -/
theorem z_gets (O : zOk G F y cc nL ret own d n0) {idx i : Nat} (hd : decode cc pc = .ok (.getstatic idx, 3)) (h0 : 0 < i) (h4 : i < 4) (hq : (own, idx, RX3, zSt i, "[I", RX3) ∈ zNf) (k : Z G F cells slots Q (pc + 3) lv (.ref (zsa G i) :: st) M) : Z G F cells slots Q (pc) lv (st) M := by
  intro H locs ls hH hS hl
  have hC := O.2.2.2.2.2.1
  exact va_getsN O.1 O.2.1 (hC.2.2.2.2.1 i h0 h4) hS O.2.2.2.1 (va_Nw.use rfl (hC.2.1.2 _ hq)) (fun _ h => h) hd (k H locs ls hH hS hl)
theorem z_cald (O : zOk G F y cc nL ret own d n0) (i : Nat) {x : Int32} (h4 : i < 4) (hd : decode cc pc = .ok (.iaload, 1)) (hin : vp_in x (zLen G i)) (k : Z G F cells slots Q (pc + 1) lv (.int (zCon G i x.toNatClampNeg) :: st) M) : Z G F cells slots Q (pc) lv (.int x :: .ref (zsa G i) :: st) M := by
  intro H locs ls hH hS hl
  obtain ⟨hx, hlt⟩ := O.2.2.2.2.2.1.2.2.2.1 i h4
  exact va_sld O.1 O.2.1 hx (Nat.lt_of_lt_of_le hlt O.2.2.2.2.2.1.2.2.2.2.2) (Nat.not_le.mpr hlt) hS hin hd (k H locs ls hH hS hl)
theorem z_clen (O : zOk G F y cc nL ret own d n0) (i : Nat) (h4 : i < 4) (hd : decode cc pc = .ok (.arraylength, 1)) (k : Z G F cells slots Q (pc + 1) lv (.int (Int32.ofNat (zLen G i)) :: st) M) : Z G F cells slots Q (pc) lv (.ref (zsa G i) :: st) M := by
  intro H locs ls hH hS hl
  obtain ⟨hx, hlt⟩ := O.2.2.2.2.2.1.2.2.2.1 i h4
  exact va_slen O.1 O.2.1 hx (Nat.lt_of_lt_of_le hlt O.2.2.2.2.2.1.2.2.2.2.2) (Nat.not_le.mpr hlt) hS hd (k H locs ls hH hS hl)
/-- arrays -/
abbrev zI (G : zG) (n : Nat) (f : Nat → Int32) : va_E := .inl (zca G 0, n, .inl f)
abbrev zB (G : zG) (n : Nat) (f : Nat → Int32) : va_E := .inl (zca G 1, n, .inl f)
abbrev zR (G : zG) (n : Nat) (f : Nat → Option Nat) : va_E := .inl (zca G 2, n, .inr (.inr (.inr (.inr f))))
theorem z_iald (O : zOk G F y cc nL ret own d n0) {a n : Nat} {f : Nat → Int32} {x : Int32} (hd : decode cc pc = .ok (.iaload, 1)) (he : M[a]? = some (zI G n f)) (hin : vp_in x n) (k : Z G F cells slots Q (pc + 1) lv (.int (f x.toNatClampNeg) :: st) M) : Z G F cells slots Q (pc) lv (.int x :: .ref (zad (zb G) a) :: st) M :=
  fun H locs ls hH hS hl => va_iald O.1 O.2.1 O.2.2.2.2.2.1.1 hH.1 a 0 (zW_get he) rfl hin hd (k H locs ls hH hS hl)
theorem z_zald (O : zOk G F y cc nL ret own d n0) {a n : Nat} {f : Nat → Int32} {x : Int32} (hd : decode cc pc = .ok (.baload, 1)) (he : M[a]? = some (zB G n f)) (hin : vp_in x n) (k : Z G F cells slots Q (pc + 1) lv (.int (f x.toNatClampNeg) :: st) M) : Z G F cells slots Q (pc) lv (.int x :: .ref (zad (zb G) a) :: st) M :=
  fun H locs ls hH hS hl => va_zald O.1 O.2.1 O.2.2.2.2.2.1.1 hH.1 a 1 (zW_get he) rfl hin hd (k H locs ls hH hS hl)
theorem z_aald (O : zOk G F y cc nL ret own d n0) {a n : Nat} {f : Nat → Option Nat} {x : Int32} (hd : decode cc pc = .ok (.aaload, 1)) (he : M[a]? = some (zR G n f)) (hin : vp_in x n) (k : Z G F cells slots Q (pc + 1) lv (va_rf (f x.toNatClampNeg) :: st) M) : Z G F cells slots Q (pc) lv (.int x :: .ref (zad (zb G) a) :: st) M :=
  fun H locs ls hH hS hl => va_aldq O.1 O.2.1 O.2.2.2.2.2.1.1 hH.1 a 2 (zW_get he) rfl hin hd (k H locs ls hH hS hl)
theorem z_iast (O : zOk G F y cc nL ret own d n0) {a n : Nat} {f : Nat → Int32} {x v : Int32} (hc : n0 + cells = M.length) (hd : decode cc pc = .ok (.iastore, 1)) (he : M[a]? = some (zI G n f)) (hin : vp_in x n) (k : Z G F cells slots Q (pc + 1) lv (st) (M.set a (zI G n (upd f x.toNatClampNeg v)))) : Z G F cells slots Q (pc) lv (.int v :: .int x :: .ref (zad (zb G) a) :: st) M :=
  fun H locs ls hH hS hl => va_iast O.1 O.2.1 O.2.2.2.2.2.1.1 hH.1 (zD G M) hS a 0 (zW_get he) rfl hin hd (fun H1 locs1 hP1 hD1 hS1 => W.size (fun hle => k H1 locs1 ls (zH_set he hP1 O.2.2.2.2.2.2.1 hc hle) hS1 hl))
theorem z_zast (O : zOk G F y cc nL ret own d n0) {a n : Nat} {f : Nat → Int32} {x v : Int32} (hc : n0 + cells = M.length) (hd : decode cc pc = .ok (.bastore, 1)) (he : M[a]? = some (zB G n f)) (hin : vp_in x n) (k : Z G F cells slots Q (pc + 1) lv (st) (M.set a (zB G n (upd f x.toNatClampNeg (vp_nar .boolean v))))) : Z G F cells slots Q (pc) lv (.int v :: .int x :: .ref (zad (zb G) a) :: st) M :=
  fun H locs ls hH hS hl => va_zast O.1 O.2.1 O.2.2.2.2.2.1.1 hH.1 (zD G M) hS a 1 (zW_get he) rfl hin hd (fun H1 locs1 hP1 hD1 hS1 => W.size (fun hle => k H1 locs1 ls (zH_set he hP1 O.2.2.2.2.2.2.1 hc hle) hS1 hl))
theorem z_aast (O : zOk G F y cc nL ret own d n0) {a n q : Nat} {f : Nat → Option Nat} {x : Int32} {vs : List Value} (hc : n0 + cells = M.length) (hd : decode cc pc = .ok (.aastore, 1)) (he : M[a]? = some (zR G n f)) (hq : M[q]? = some (.inr (1, vs))) (hin : vp_in x n) (k : Z G F cells slots Q (pc + 1) lv (st) (M.set a (zR G n (va_up f x.toNatClampNeg (some (zad (zb G) q)))))) : Z G F cells slots Q (pc) lv (.ref (zad (zb G) q) :: .int x :: .ref (zad (zb G) a) :: st) M :=
  fun H locs ls hH hS hl => va_astq (r := (RX1, TX1, 6)) O.1 O.2.1 O.2.2.2.2.2.1.1 hH.1 (zD G M) hS a 2 q 1 (zW_get he) rfl (zW_get hq) rfl hin hd (fun H1 locs1 hP1 hD1 hS1 => W.size (fun hle => k H1 locs1 ls (zH_set he hP1 O.2.2.2.2.2.2.1 hc hle) hS1 hl))
end ZR
end
section
section ZR2
variable {G : zG} {F : zF} {y : MethodName} {cc : ByteArray} {nL : Nat} {ret : Option FieldType} {own : String} {d n0 cells slots pc : Nat} {Q : State → Prop} {lv : List (Nat × Value)} {st : List Value} {M : List va_E}
/-- a new cell lies behind the last -/
theorem zH_push {H1 : Heap} {q : Nat} {e : va_E} (hP : va_P G.2.1 vwCl (zW (zb G) M ++ [(q, e)]) H1) (hD : va_D (zA G) (zW (zb G) M ++ [(q, e)])) (hsz : (zfs F).heap.size = zb G + n0) (hc : n0 + cells = M.length) (hle : H1.size ≤ (zfs F).heap.size + (cells + 1)) : q = zad (zb G) M.length ∧ zH G (M ++ [e]) H1 := by
  have hlen : (zW (zb G) M).length = M.length := by simp [zW]
  have hlast : (zW (zb G) M ++ [(q, e)])[M.length]? = some (q, e) := by
    rw [List.getElem?_append_right (by omega), hlen]
    simp
  have hA : zb G ≤ q := hD.2 _ _ hlast
  have hlt : q < H1.size := (hP _ _ hlast).lt
  have hge : zb G + M.length ≤ q := by
    rcases Nat.lt_or_ge q (zb G + M.length) with hq | hq
    · have hk : q - zb G < M.length := by omega
      have h1 : (zW (zb G) M ++ [(q, e)])[q - zb G]? = some (zad (zb G) (q - zb G), M[q - zb G]) := by
        rw [List.getElem?_append_left (by omega)]
        exact zW_get (List.getElem?_eq_getElem hk)
      have h2 := hD.1 _ _ _ _ h1 hlast (by show zad (zb G) (q - zb G) = q; unfold zad; omega)
      omega
    · exact hq
  have hq : q = zad (zb G) M.length := by unfold zad; omega
  refine ⟨hq, ?_, ?_⟩
  · rw [hq, zW_push] at hP
    exact hP
  · rw [List.length_append, List.length_singleton]
    omega
/-- entry idx of own's pool is class ci, of N fields, which are fs when it is new -/
def zCls (own : String) (idx ci N : Nat) (fs : List Value) : Prop := ∃ (C : String) (T : u_T) (t0 : Nat → FieldType), vwCl[ci]? = some (C, T, N) ∧ (∀ w ∈ u_ws C T N, w ∈ zTb) ∧ (∀ k, k < N → parseFieldDescriptor (T k).2.2.1 = some (t0 k)) ∧ Cond.classLink own idx C ∈ zTb ∧ Cond.instantiable C N ∈ zTb ∧ Cond.initialized C ∈ zTb ∧ ∀ j, j < N → defaultValue (t0 j) = vp_V fs j
theorem z_new (O : zOk G F y cc nL ret own d n0) {idx ci N : Nat} {fs : List Value} (hc : n0 + cells = M.length) (hd : decode cc pc = .ok (.new idx, 3)) (hf : zCls own idx ci N fs) (h1 : cells + 1 ≤ (zfR F).cells) (h2 : slots + N ≤ (zfR F).slots) (k : Z G F (cells + 1) (slots + N) Q (pc + 3) lv (.ref (zad (zb G) M.length) :: st) (M ++ [.inr (ci, fs)])) : Z G F cells slots Q (pc) lv (st) M := by
  intro H locs ls hH hS hl
  obtain ⟨C, T, t0, g1, g2, g3, g4, g5, g6, g7⟩ := hf
  refine va_new O.1 O.2.1 O.2.2.2.2.1 g2 t0 g3 O.2.2.2.1 (O.2.2.2.2.1 _ g4) (O.2.2.2.2.1 _ g5) (O.2.2.2.2.1 _ g6) O.2.2.2.2.2.1.1 hH.1 (zD G M) hS (fun q hq => Nat.le_trans O.2.2.2.2.2.1.2.2.2.2.2 hq) g1 g7 h1 h2 hd (fun q H1 hP1 hD1 hS1 => W.size (fun hle => ?_))
  obtain ⟨rfl, hH1⟩ := zH_push hP1 hD1 O.2.2.2.2.2.2.1 hc hle
  exact k H1 locs ls hH1 hS1 hl
theorem z_newI (O : zOk G F y cc nL ret own d n0) {x : Int32} (N : Nat) (hc : n0 + cells = M.length) (hd : decode cc pc = .ok (.newarray .int, 2)) (ha : Cond.arrayClass .int ∈ zTb) (hx : ¬ x < 0) (hN : x.toNatClampNeg = N) (hb : N * 4 ≤ 536870912) (h1 : cells + 1 ≤ (zfR F).cells) (h2 : slots + N ≤ (zfR F).slots) (k : Z G F (cells + 1) (slots + N) Q (pc + 2) lv (.ref (zad (zb G) M.length) :: st) (M ++ [zI G N (fun _ => 0)])) : Z G F cells slots Q (pc) lv (.int x :: st) M := by
  intro H locs ls hH hS hl
  refine va_newa (atype := .int) (ty := .int) (N' := N) (a0 := (N, .inl (fun _ => 0))) O.1 O.2.1 (O.2.2.2.2.1 _ ha) rfl O.2.2.2.2.2.1.1 hH.1 (zD G M) hS (fun q hq => Nat.le_trans O.2.2.2.2.2.1.2.2.2.2.2 hq) (fun cA => rfl) hx hN hb h1 h2 hd (fun q cA H1 hK1 hP1 hD1 hS1 => W.size (fun hle => ?_))
  have e1 : cA = zca G 0 := by
    have h1 := (hK1.2 3 (cA, .int) rfl).2
    have h2 := (hK1.2 0 (zca G 0, .int) rfl).2
    exact Option.some.inj (h1.symm.trans h2)
  subst e1
  obtain ⟨rfl, hH1⟩ := zH_push hP1 hD1 O.2.2.2.2.2.2.1 hc hle
  exact k H1 locs ls hH1 hS1 hl
theorem z_newB (O : zOk G F y cc nL ret own d n0) {x : Int32} (N : Nat) (hc : n0 + cells = M.length) (hd : decode cc pc = .ok (.newarray .boolean, 2)) (ha : Cond.arrayClass .boolean ∈ zTb) (hx : ¬ x < 0) (hN : x.toNatClampNeg = N) (hb : N * 1 ≤ 536870912) (h1 : cells + 1 ≤ (zfR F).cells) (h2 : slots + N ≤ (zfR F).slots) (k : Z G F (cells + 1) (slots + N) Q (pc + 2) lv (.ref (zad (zb G) M.length) :: st) (M ++ [zB G N (fun _ => 0)])) : Z G F cells slots Q (pc) lv (.int x :: st) M := by
  intro H locs ls hH hS hl
  refine va_newa (atype := .boolean) (ty := .boolean) (N' := N) (a0 := (N, .inl (fun _ => 0))) O.1 O.2.1 (O.2.2.2.2.1 _ ha) rfl O.2.2.2.2.2.1.1 hH.1 (zD G M) hS (fun q hq => Nat.le_trans O.2.2.2.2.2.1.2.2.2.2.2 hq) (fun cA => rfl) hx hN hb h1 h2 hd (fun q cA H1 hK1 hP1 hD1 hS1 => W.size (fun hle => ?_))
  have e1 : cA = zca G 1 := by
    have h1 := (hK1.2 3 (cA, .boolean) rfl).2
    have h2 := (hK1.2 1 (zca G 1, .boolean) rfl).2
    exact Option.some.inj (h1.symm.trans h2)
  subst e1
  obtain ⟨rfl, hH1⟩ := zH_push hP1 hD1 O.2.2.2.2.2.2.1 hc hle
  exact k H1 locs ls hH1 hS1 hl
theorem z_newR (O : zOk G F y cc nL ret own d n0) {x : Int32} {idx : Nat} (N : Nat) (hc : n0 + cells = M.length) (hd : decode cc pc = .ok (.anewarray idx, 3)) (hcl : Cond.classLink own idx RX1 ∈ zTb) (hx : ¬ x < 0) (hN : x.toNatClampNeg = N) (hb : N * 4 ≤ 536870912) (h1 : cells + 1 ≤ (zfR F).cells) (h2 : slots + N ≤ (zfR F).slots) (k : Z G F (cells + 1) (slots + N) Q (pc + 3) lv (.ref (zad (zb G) M.length) :: st) (M ++ [zR G N (fun _ => none)])) : Z G F cells slots Q (pc) lv (.int x :: st) M := by
  intro H locs ls hH hS hl
  refine va_newq (C := RX1) (N' := N) O.1 O.2.1 O.2.2.2.1 (O.2.2.2.2.1 _ hcl) O.2.2.2.2.2.1.2.2.1 O.2.2.2.2.2.1.1 hH.1 (zD G M) hS (fun q hq => Nat.le_trans O.2.2.2.2.2.1.2.2.2.2.2 hq) hx hN hb h1 h2 hd (fun q cA H1 hK1 hP1 hD1 hS1 => W.size (fun hle => ?_))
  have e1 : cA = zca G 2 := by
    obtain ⟨kA, comp, q1, q2, q3, q4⟩ := (hK1.2 3 (cA, .object RX1) rfl).2
    obtain ⟨kA', comp', r1, r2, r3, r4⟩ := (hK1.2 2 (zca G 2, .object RX1) rfl).2
    exact Option.some.inj (q4.symm.trans r4)
  subst e1
  obtain ⟨rfl, hH1⟩ := zH_push hP1 hD1 O.2.2.2.2.2.2.1 hc hle
  exact k H1 locs ls hH1 hS1 hl
theorem z_objInit (O : zOk G F y cc nL ret own d n0) {idx a : Nat} (hd : decode cc pc = .ok (.invokespecial idx, 3)) (hl1 : Cond.methodLink own idx Lib.objectInit ∈ zTb) (h2 : Cond.instanceMethod Lib.objectInit ∈ zTb) (h3 : Cond.code Lib.objectInit ⟨#[0xb1]⟩ 1 none ∈ zTb) (hr : (st.map fun v => v.category).sum ≤ 8) (hd1 : 1 ≤ d) (k : Z G F cells slots Q (pc + 3) lv (st) M) : Z G F cells slots Q (pc) lv (.ref a :: st) M := by
  intro H locs ls hH hS hl
  have hO1 := O.2.2.2.2.2.2.2.2.2.1
  have hO2 := O.2.2.2.2.2.2.2.2.2.2.1
  exact W.objInit O.1 O.2.1 O.2.2.2.1 (O.2.2.2.2.1 _ hl1) (O.2.2.2.2.1 _ h2) (O.2.2.2.2.1 _ h3) rfl hl.1 rfl hd (by omega) (by show 2 * 0 + _ + 12 ≤ _; omega) (k H locs ls hH hS hl)
theorem z_copy (O : zOk G F y cc nL ret own d n0) {idx a0 a1 c0 c1 : Nat} {f g : Nat → Int32} {sp dp n : Int32} (hc : n0 + cells = M.length) (hd : decode cc pc = .ok (.invokestatic idx, 3)) (hl1 : Cond.methodLink own idx arraycopyName ∈ zTb) (h2 : Cond.native arraycopyName ∈ zTb) (h3 : Cond.static arraycopyName ∈ zTb) (h4 : Cond.initialized "java/lang/System" ∈ zTb)
    (he0 : M[a0]? = some (zI G c0 f)) (he1 : M[a1]? = some (zI G c1 g)) (g1 : ¬ sp < 0) (g2 : ¬ dp < 0) (g3 : ¬ n < 0) (g4 : sp.toNatClampNeg + n.toNatClampNeg ≤ c0) (g5 : dp.toNatClampNeg + n.toNatClampNeg ≤ c1) (hr : (st.map fun v => v.category).sum ≤ 8) (hd1 : 1 ≤ d)
    (k : Z G F cells slots Q (pc + 3) lv (st) (M.set a1 (zI G c1 (va_cpy f g sp.toNatClampNeg dp.toNatClampNeg n.toNatClampNeg)))) : Z G F cells slots Q (pc) lv (.int n :: .int dp :: .ref (zad (zb G) a1) :: .int sp :: .ref (zad (zb G) a0) :: st) M := by
  intro H locs ls hH hS hl
  have hO1 := O.2.2.2.2.2.2.2.2.2.1
  have hO2 := O.2.2.2.2.2.2.2.2.2.2.1
  have hw : nativeFrameWords "java/lang/System" "arraycopy" 5 + 11 ≤ 50 := by decide
  refine va_copyi (ty := .int) O.1 O.2.1 hl.1.symm O.2.2.2.1 (O.2.2.2.2.1 _ hl1) (O.2.2.2.2.1 _ h2) (O.2.2.2.2.1 _ h3) (O.2.2.2.2.1 _ h4) O.2.2.2.2.2.1.1 hH.1 (zD G M) hS a0 a1 0 0 (zW_get he0) (zW_get he1) rfl rfl rfl g1 g2 g3 g4 g5 (fun _ _ => rfl) (by omega) (by omega) hd (fun H1 locs1 hP1 hD1 hS1 => W.size (fun hle => k H1 locs1 ls (zH_set he1 hP1 O.2.2.2.2.2.2.1 hc hle) hS1 hl))
/-! calls -/
theorem z_run (av : Array Value) {st0 rest : List Value} {mc ms : Nat} {Q1 : Option Value → List va_E → Prop}
    (hr : ∀ (H : Heap) (locs : List Loc) (ls : Array Slot), zH G M H → va_S (zA G) (zfs F).heap H locs → lv_has ls (zfc F).maxLocals lv → va_Run (zfp F) G.1 (zfe F) (zfR F) (zfs F) (zfm F) (zfa F) (zfb F) (zfM F) (zfc F) H locs cells slots mc ms (F0 (zfm F) pc ls st0) rest (zQc G Q1 av) (zA G))
    (k : ∀ v M', Q1 v M' → Z G F (cells + mc) (slots + ms) Q (pc + 3) lv (v.toList ++ rest) M') : Z G F cells slots Q pc lv st0 M := by
  intro H locs ls hH hS hl T hT X
  obtain ⟨v, st₀, t, T', L, h0, X', hL, e1, e2, ⟨⟨v', M', hv, hq, hH'⟩, hz, hk⟩, stp⟩ := hr H locs ls hH hS hl T hT X
  cases hv
  rw [h0] at hz hk
  obtain ⟨t2, a1, b1⟩ := k v M' hq T'.heap (locs ++ L) ls (by rw [e1]; exact hH')
    ⟨Nat.le_trans hS.1 (by rw [e1]; exact hz), fun q h1 h2 => by rw [e1, hk q (Nat.lt_of_lt_of_le h1 hS.1) h2]; exact hS.2.1 q h1 h2, fun q hq => by
      rcases List.mem_append.mp hq with h | h
      · exact hS.2.2 q h
      · exact hL q h⟩ hl T' rfl X'
  exact ⟨t2, stp t2 a1, b1⟩
theorem zGood {ws : List Cond} (h : ∀ w ∈ ws, w ∈ zTb) : GoodIn zTb ws := fun w hw => ⟨h w hw, good_of_word (List.mem_filter.mp (h w hw)).2⟩
theorem zBlind {av : List Value} : FrameBlind (va_Pc av (fun U => zH G M U.heap ∧ zC G U)) := fun a U g mk h => ⟨h.1, h.2.1, zC.blind h.2.2 g mk a⟩
theorem zPre {s : State} {H : Heap} {locs : List Loc} {av : List Value} (hC : zC G s) (hH : zH G M H) (hS : va_S (zA G) s.heap H locs) : ∀ U : State, U.heap = H → s.WarmedH U.vm → va_Pc av (fun U => zH G M U.heap ∧ zC G U) av.toArray U :=
  fun U hU hW => ⟨rfl, by rw [hU]; exact hH, hC.warm hW hU hS⟩
/-- a method of ours, as the tables tell it: code and class; n its parameters -/
def zMc (y' : MethodName) (cc' : ByteArray) (nL' : Nat) (ret' : Option FieldType) (n : Nat) : Prop := Cond.code y' cc' nL' ret' ∈ zTb ∧ Cond.initialized y'.cls ∈ zTb ∧ (y'.cls ≠ "java/lang/invoke/MethodHandle" ∧ y'.cls ≠ "java/lang/invoke/VarHandle" ∧ (parseMethodDescriptor y'.desc).map (fun d => d.parameters.length) = some n) ∧ nL' ≤ 40
def zMv (y' : MethodName) (cc' : ByteArray) (nL' : Nat) (ret' : Option FieldType) (n : Nat) (C : String) : Prop := zMc y' cc' nL' ret' n ∧ Cond.instanceMethod y' ∈ zTb ∧ Cond.selects C y' y' ∈ zTb
def zMs (y' : MethodName) (cc' : ByteArray) (nL' : Nat) (ret' : Option FieldType) (n : Nat) : Prop := zMc y' cc' nL' ret' n ∧ Cond.static y' ∈ zTb
def zMi (y' : MethodName) (cc' : ByteArray) (nL' : Nat) (n : Nat) : Prop := zMc y' cc' nL' none n ∧ y'.name = "<init>" ∧ Cond.instanceMethod y' ∈ zTb
variable {y' : MethodName} {cc' : ByteArray} {nL' n idx mc ms d' : Nat} {ret' : Option FieldType} {Q1 : Option Value → List va_E → Prop}
theorem zCode (h : zMc y' cc' nL' ret' n) : GoodIn zTb (.code y' cc' nL' ret' :: zTb) := zGood (fun w hw => by
  rcases List.mem_cons.mp hw with rfl | hw
  · exact h.1
  · exact hw)
theorem z_V (O : zOk G F y cc nL ret own d n0) {a ci N : Nat} {C : String} {T : u_T} {fs As st0 : List Value} (hM : zS G d' y' cc' nL' ret' (.ref (zad (zb G) a) :: As) M mc ms Q1) (hk : zMv y' cc' nL' ret' n C) (hl1 : Cond.methodLink own idx y' ∈ zTb) (hci : vwCl[ci]? = some (C, T, N)) (he : M[a]? = some (.inr (ci, fs))) (hn : As.length = n) (hst : st0 = As.reverse ++ .ref (zad (zb G) a) :: st) (hr : (st.map fun v => v.category).sum ≤ 8) (hdd : d' + 1 ≤ d) (hd : decode cc pc = .ok (.invokevirtual idx, 3)) (hf : cells + mc ≤ (zfR F).cells ∧ slots + ms ≤ (zfR F).slots)
    (k : ∀ v M', Q1 v M' → Z G F (cells + mc) (slots + ms) Q (pc + 3) lv (v.toList ++ st) M') : Z G F cells slots Q pc lv st0 M := by
  refine z_run (Value.ref (zad (zb G) a) :: As).toArray (fun H locs ls hH hS hl => ?_) k
  subst hst
  have hO1 := O.2.2.2.2.2.2.2.2.2.1
  have hO2 := O.2.2.2.2.2.2.2.2.2.2.1
  have h40 := hk.1.2.2.2
  exact va_runV (C := C) (As := As) ⟨O.1, O.2.1, rfl, O.2.2.2.1, O.2.2.2.2.1⟩ hM ⟨callB_of n O.2.2.2.2.1 (zCode hk.1) rfl rfl rfl (O.2.2.2.2.1 _ hk.1.2.1) (O.2.2.2.2.1 _ hl1) hk.1.2.2.1 ⟨by show d' + 1 ≤ _; omega, by show _ + _ + 64 * d' ≤ _; omega⟩, O.2.2.2.2.1 _ hk.2.1, O.2.2.2.2.1 _ hk.2.2⟩ ⟨zBlind, va_recv O.2.2.2.2.2.1.1 hH.1 hci (zW_get he), zPre O.2.2.2.2.2.1 hH hS⟩ rfl hn hl.1 rfl (lv_room hr) hd hf
theorem z_S (O : zOk G F y cc nL ret own d n0) {As st0 : List Value} (hM : zS G d' y' cc' nL' ret' As M mc ms Q1) (hk : zMs y' cc' nL' ret' n) (hl1 : Cond.methodLink own idx y' ∈ zTb) (hn : As.length = n) (hst : st0 = As.reverse ++ st) (hr : (st.map fun v => v.category).sum ≤ 8) (hdd : d' + 1 ≤ d) (hd : decode cc pc = .ok (.invokestatic idx, 3)) (hf : cells + mc ≤ (zfR F).cells ∧ slots + ms ≤ (zfR F).slots)
    (k : ∀ v M', Q1 v M' → Z G F (cells + mc) (slots + ms) Q (pc + 3) lv (v.toList ++ st) M') : Z G F cells slots Q pc lv st0 M := by
  refine z_run As.toArray (fun H locs ls hH hS hl => ?_) k
  subst hst
  have hO1 := O.2.2.2.2.2.2.2.2.2.1
  have hO2 := O.2.2.2.2.2.2.2.2.2.2.1
  have h40 := hk.1.2.2.2
  exact va_runS (As := As) ⟨O.1, O.2.1, rfl, O.2.2.2.1, O.2.2.2.2.1⟩ hM ⟨callB_of n O.2.2.2.2.1 (zCode hk.1) rfl rfl rfl (O.2.2.2.2.1 _ hk.1.2.1) (O.2.2.2.2.1 _ hl1) hk.1.2.2.1 ⟨by show d' + 1 ≤ _; omega, by show _ + _ + 64 * d' ≤ _; omega⟩, O.2.2.2.2.1 _ hk.2⟩ ⟨zBlind, zPre O.2.2.2.2.2.1 hH hS⟩ rfl hn hl.1 rfl (lv_room hr) hd hf
theorem z_SN (O : zOk G F y cc nL ret own d n0) {As st0 : List Value} (hM : zS G d' y' cc' nL' ret' As M mc ms Q1) (hk : zMs y' cc' nL' ret' n) (hl1 : (own, idx, y', RX3) ∈ zNm) (hn : As.length = n) (hst : st0 = As.reverse ++ st) (hr : (st.map fun v => v.category).sum ≤ 8) (hdd : d' + 1 ≤ d) (hd : decode cc pc = .ok (.invokestatic idx, 3)) (hf : cells + mc ≤ (zfR F).cells ∧ slots + ms ≤ (zfR F).slots)
    (k : ∀ v M', Q1 v M' → Z G F (cells + mc) (slots + ms) Q (pc + 3) lv (v.toList ++ st) M') : Z G F cells slots Q pc lv st0 M := by
  refine z_run As.toArray (fun H locs ls hH hS hl => ?_) k
  subst hst
  have hO1 := O.2.2.2.2.2.2.2.2.2.1
  have hO2 := O.2.2.2.2.2.2.2.2.2.2.1
  have h40 := hk.1.2.2.2
  exact va_runSN (As := As) ⟨O.1, O.2.1, rfl, O.2.2.2.1, O.2.2.2.2.1⟩ hM ⟨va_cnB n O.2.2.2.2.1 (zCode hk.1) rfl rfl rfl (O.2.2.2.2.2.1.2.1.1 _ hl1) (O.2.2.2.2.1 _ hk.1.2.1) hk.1.2.2.1 ⟨by show d' + 1 ≤ _; omega, by show _ + _ + 64 * d' ≤ _; omega⟩, O.2.2.2.2.1 _ hk.2, trivial⟩ ⟨zBlind, zPre O.2.2.2.2.2.1 hH hS⟩ rfl hn hl.1 rfl (lv_room hr) hd hf
theorem z_I (O : zOk G F y cc nL ret own d n0) {a : Nat} {As st0 : List Value} (hM : zS G d' y' cc' nL' none (.ref (zad (zb G) a) :: As) M mc ms Q1) (hk : zMi y' cc' nL' n) (hl1 : Cond.methodLink own idx y' ∈ zTb) (hn : As.length = n) (hst : st0 = As.reverse ++ .ref (zad (zb G) a) :: st) (hr : (st.map fun v => v.category).sum ≤ 8) (hdd : d' + 1 ≤ d) (hd : decode cc pc = .ok (.invokespecial idx, 3)) (hf : cells + mc ≤ (zfR F).cells ∧ slots + ms ≤ (zfR F).slots)
    (k : ∀ v M', Q1 v M' → Z G F (cells + mc) (slots + ms) Q (pc + 3) lv (v.toList ++ st) M') : Z G F cells slots Q pc lv st0 M := by
  refine z_run (Value.ref (zad (zb G) a) :: As).toArray (fun H locs ls hH hS hl => ?_) k
  subst hst
  have hO1 := O.2.2.2.2.2.2.2.2.2.1
  have hO2 := O.2.2.2.2.2.2.2.2.2.2.1
  have h40 := hk.1.2.2.2
  exact va_runI (As := As) ⟨O.1, O.2.1, rfl, O.2.2.2.1, O.2.2.2.2.1⟩ hM ⟨callB_of n O.2.2.2.2.1 (zCode hk.1) rfl rfl rfl (O.2.2.2.2.1 _ hk.1.2.1) (O.2.2.2.2.1 _ hl1) hk.1.2.2.1 ⟨by show d' + 1 ≤ _; omega, by show _ + _ + 64 * d' ≤ _; omega⟩, hk.2.1, O.2.2.2.2.1 _ hk.2.2⟩ ⟨zBlind, zPre O.2.2.2.2.2.1 hH hS⟩ rfl hn hl.1 rfl (lv_room hr) hd hf
theorem z_IN (O : zOk G F y cc nL ret own d n0) {a : Nat} {As st0 : List Value} (hM : zS G d' y' cc' nL' none (.ref (zad (zb G) a) :: As) M mc ms Q1) (hk : zMi y' cc' nL' n) (hl1 : (own, idx, y', RX3) ∈ zNm) (hn : As.length = n) (hst : st0 = As.reverse ++ .ref (zad (zb G) a) :: st) (hr : (st.map fun v => v.category).sum ≤ 8) (hdd : d' + 1 ≤ d) (hd : decode cc pc = .ok (.invokespecial idx, 3)) (hf : cells + mc ≤ (zfR F).cells ∧ slots + ms ≤ (zfR F).slots)
    (k : ∀ v M', Q1 v M' → Z G F (cells + mc) (slots + ms) Q (pc + 3) lv (v.toList ++ st) M') : Z G F cells slots Q pc lv st0 M := by
  refine z_run (Value.ref (zad (zb G) a) :: As).toArray (fun H locs ls hH hS hl => ?_) k
  subst hst
  have hO1 := O.2.2.2.2.2.2.2.2.2.1
  have hO2 := O.2.2.2.2.2.2.2.2.2.2.1
  have h40 := hk.1.2.2.2
  exact va_runIN (As := As) ⟨O.1, O.2.1, rfl, O.2.2.2.1, O.2.2.2.2.1⟩ hM ⟨va_cnB n O.2.2.2.2.1 (zCode hk.1) rfl rfl rfl (O.2.2.2.2.2.1.2.1.1 _ hl1) (O.2.2.2.2.1 _ hk.1.2.1) hk.1.2.2.1 ⟨by show d' + 1 ≤ _; omega, by show _ + _ + 64 * d' ≤ _; omega⟩, hk.2.1, O.2.2.2.2.1 _ hk.2.2⟩ ⟨zBlind, zPre O.2.2.2.2.2.1 hH hS⟩ rfl hn hl.1 rfl (lv_room hr) hd hf
/-! what a method gives: exactly, or by a predicate -/
def zE (x : Value) (M1 : List va_E) : Option Value → List va_E → Prop := fun v M' => v = some x ∧ M' = M1
def zU (M1 : List va_E) : Option Value → List va_E → Prop := fun v M' => v = none ∧ M' = M1
def zP (Q2 : Value → List va_E → Prop) : Option Value → List va_E → Prop := fun v M' => ∃ x, v = some x ∧ Q2 x M'
def zPU (Q2 : List va_E → Prop) : Option Value → List va_E → Prop := fun v M' => v = none ∧ Q2 M'
/-! ends -/
theorem z_iret {pc : Nat} (O : zOk G F y cc nL (some .int) own d n0) {x : Int32} (hd : decode cc pc = .ok (.ireturn, 1)) (hq : Q1 (some (.int x)) M) : Z G F mc ms (zEnd G F Q1 mc ms) pc lv [.int x] M :=
  fun H locs ls hH hS hl => W.iret O.1 O.2.1 O.2.2.2.2.2.2.2.2.1 (fun t ht _ => ⟨⟨_, M, rfl, hq, by rw [ht]; exact hH⟩, hS.F ht⟩) hS.2.2 hd O.2.2.2.2.2.2.2.1
theorem z_zret {pc : Nat} (O : zOk G F y cc nL (some .boolean) own d n0) {x : Int32} (hd : decode cc pc = .ok (.ireturn, 1)) (hn : narrow .boolean (.int x) = .int x) (hq : Q1 (some (.int x)) M) : Z G F mc ms (zEnd G F Q1 mc ms) pc lv [.int x] M :=
  fun H locs ls hH hS hl => W.zret O.1 O.2.1 O.2.2.2.2.2.2.2.2.1 hn (fun t ht _ => ⟨⟨_, M, rfl, hq, by rw [ht]; exact hH⟩, hS.F ht⟩) hS.2.2 hd O.2.2.2.2.2.2.2.1
theorem z_lret {pc : Nat} (O : zOk G F y cc nL (some .long) own d n0) {x : Int64} (hd : decode cc pc = .ok (.lreturn, 1)) (hq : Q1 (some (.long x)) M) : Z G F mc ms (zEnd G F Q1 mc ms) pc lv [.long x] M :=
  fun H locs ls hH hS hl => W.lret O.1 O.2.1 O.2.2.2.2.2.2.2.2.1 (fun t ht _ => ⟨⟨_, M, rfl, hq, by rw [ht]; exact hH⟩, hS.F ht⟩) hS.2.2 hd O.2.2.2.2.2.2.2.1
theorem z_vret {pc : Nat} (O : zOk G F y cc nL none own d n0) (hd : decode cc pc = .ok (.return_, 1)) (hq : Q1 none M) : Z G F mc ms (zEnd G F Q1 mc ms) pc lv [] M :=
  fun H locs ls hH hS hl => W.vret O.1 O.2.1 O.2.2.2.2.2.2.2.2.1 (fun t ht _ => ⟨⟨_, M, rfl, hq, by rw [ht]; exact hH⟩, hS.F ht⟩) hS.2.2 hd O.2.2.2.2.2.2.2.1
theorem z_widen {k n : Nat} (h1 : cells ≤ k) (h2 : slots ≤ n) (kk : Z G F k n Q pc lv st M) : Z G F cells slots Q pc lv st M :=
  fun H locs ls hH hS hl => W.widen h1 h2 (kk H locs ls hH hS hl)
theorem z_lv {lv' : List (Nat × Value)} (h : ∀ q, q ∈ lv' → q ∈ lv) (kk : Z G F cells slots Q pc lv' st M) : Z G F cells slots Q pc lv st M :=
  fun H locs ls hH hS hl => kk H locs ls hH hS (hl.less h)
theorem z_V0e (O : zOk G F y cc nL ret own d n0) {a ci N : Nat} {C : String} {T : u_T} {fs : List Value} {x : Value} {M1 : List va_E} (hM : zS G d' y' cc' nL' ret' (.ref (zad (zb G) a) :: []) M mc ms (zE x M1)) (hk : zMv y' cc' nL' ret' 0 C) (hl1 : Cond.methodLink own idx y' ∈ zTb) (hci : vwCl[ci]? = some (C, T, N)) (he : M[a]? = some (.inr (ci, fs))) (hd : decode cc pc = .ok (.invokevirtual idx, 3)) (hr : (st.map fun v => v.category).sum ≤ 8) (hdd : d' + 1 ≤ d) (hf : cells + mc ≤ (zfR F).cells ∧ slots + ms ≤ (zfR F).slots) (k : Z G F (cells + mc) (slots + ms) Q (pc + 3) lv (x :: st) M1) : Z G F cells slots Q pc lv (.ref (zad (zb G) a) :: st) M :=
  z_V O hM hk hl1 hci he rfl rfl hr hdd hd hf (fun v M' h => by obtain ⟨rfl, rfl⟩ := h; exact k)
theorem z_V0u (O : zOk G F y cc nL ret own d n0) {a ci N : Nat} {C : String} {T : u_T} {fs : List Value} {M1 : List va_E} (hM : zS G d' y' cc' nL' ret' (.ref (zad (zb G) a) :: []) M mc ms (zU M1)) (hk : zMv y' cc' nL' ret' 0 C) (hl1 : Cond.methodLink own idx y' ∈ zTb) (hci : vwCl[ci]? = some (C, T, N)) (he : M[a]? = some (.inr (ci, fs))) (hd : decode cc pc = .ok (.invokevirtual idx, 3)) (hr : (st.map fun v => v.category).sum ≤ 8) (hdd : d' + 1 ≤ d) (hf : cells + mc ≤ (zfR F).cells ∧ slots + ms ≤ (zfR F).slots) (k : Z G F (cells + mc) (slots + ms) Q (pc + 3) lv st M1) : Z G F cells slots Q pc lv (.ref (zad (zb G) a) :: st) M :=
  z_V O hM hk hl1 hci he rfl rfl hr hdd hd hf (fun v M' h => by obtain ⟨rfl, rfl⟩ := h; exact k)
theorem z_V0p (O : zOk G F y cc nL ret own d n0) {a ci N : Nat} {C : String} {T : u_T} {fs : List Value} {Q2 : Value → List va_E → Prop} (hM : zS G d' y' cc' nL' ret' (.ref (zad (zb G) a) :: []) M mc ms (zP Q2)) (hk : zMv y' cc' nL' ret' 0 C) (hl1 : Cond.methodLink own idx y' ∈ zTb) (hci : vwCl[ci]? = some (C, T, N)) (he : M[a]? = some (.inr (ci, fs))) (hd : decode cc pc = .ok (.invokevirtual idx, 3)) (hr : (st.map fun v => v.category).sum ≤ 8) (hdd : d' + 1 ≤ d) (hf : cells + mc ≤ (zfR F).cells ∧ slots + ms ≤ (zfR F).slots) (k : ∀ x M', Q2 x M' → Z G F (cells + mc) (slots + ms) Q (pc + 3) lv (x :: st) M') : Z G F cells slots Q pc lv (.ref (zad (zb G) a) :: st) M :=
  z_V O hM hk hl1 hci he rfl rfl hr hdd hd hf (fun v M' h => by obtain ⟨x, rfl, h⟩ := h; exact k x M' h)
theorem z_V0pu (O : zOk G F y cc nL ret own d n0) {a ci N : Nat} {C : String} {T : u_T} {fs : List Value} {Q2 : List va_E → Prop} (hM : zS G d' y' cc' nL' ret' (.ref (zad (zb G) a) :: []) M mc ms (zPU Q2)) (hk : zMv y' cc' nL' ret' 0 C) (hl1 : Cond.methodLink own idx y' ∈ zTb) (hci : vwCl[ci]? = some (C, T, N)) (he : M[a]? = some (.inr (ci, fs))) (hd : decode cc pc = .ok (.invokevirtual idx, 3)) (hr : (st.map fun v => v.category).sum ≤ 8) (hdd : d' + 1 ≤ d) (hf : cells + mc ≤ (zfR F).cells ∧ slots + ms ≤ (zfR F).slots) (k : ∀ M', Q2 M' → Z G F (cells + mc) (slots + ms) Q (pc + 3) lv st M') : Z G F cells slots Q pc lv (.ref (zad (zb G) a) :: st) M :=
  z_V O hM hk hl1 hci he rfl rfl hr hdd hd hf (fun v M' h => by obtain ⟨rfl, h⟩ := h; exact k M' h)
theorem z_V1e (O : zOk G F y cc nL ret own d n0) {a ci N : Nat} {C : String} {T : u_T} {fs : List Value} {x1 : Value} {x : Value} {M1 : List va_E} (hM : zS G d' y' cc' nL' ret' (.ref (zad (zb G) a) :: [x1]) M mc ms (zE x M1)) (hk : zMv y' cc' nL' ret' 1 C) (hl1 : Cond.methodLink own idx y' ∈ zTb) (hci : vwCl[ci]? = some (C, T, N)) (he : M[a]? = some (.inr (ci, fs))) (hd : decode cc pc = .ok (.invokevirtual idx, 3)) (hr : (st.map fun v => v.category).sum ≤ 8) (hdd : d' + 1 ≤ d) (hf : cells + mc ≤ (zfR F).cells ∧ slots + ms ≤ (zfR F).slots) (k : Z G F (cells + mc) (slots + ms) Q (pc + 3) lv (x :: st) M1) : Z G F cells slots Q pc lv (x1 :: .ref (zad (zb G) a) :: st) M :=
  z_V O hM hk hl1 hci he rfl rfl hr hdd hd hf (fun v M' h => by obtain ⟨rfl, rfl⟩ := h; exact k)
theorem z_S1e (O : zOk G F y cc nL ret own d n0) {x1 : Value} {x : Value} {M1 : List va_E} (hM : zS G d' y' cc' nL' ret' [x1] M mc ms (zE x M1)) (hk : zMs y' cc' nL' ret' 1) (hl1 : Cond.methodLink own idx y' ∈ zTb) (hd : decode cc pc = .ok (.invokestatic idx, 3)) (hr : (st.map fun v => v.category).sum ≤ 8) (hdd : d' + 1 ≤ d) (hf : cells + mc ≤ (zfR F).cells ∧ slots + ms ≤ (zfR F).slots) (k : Z G F (cells + mc) (slots + ms) Q (pc + 3) lv (x :: st) M1) : Z G F cells slots Q pc lv (x1 :: st) M :=
  z_S O hM hk hl1 rfl rfl hr hdd hd hf (fun v M' h => by obtain ⟨rfl, rfl⟩ := h; exact k)
theorem z_SN1e (O : zOk G F y cc nL ret own d n0) {x1 : Value} {x : Value} {M1 : List va_E} (hM : zS G d' y' cc' nL' ret' [x1] M mc ms (zE x M1)) (hk : zMs y' cc' nL' ret' 1) (hl1 : (own, idx, y', RX3) ∈ zNm) (hd : decode cc pc = .ok (.invokestatic idx, 3)) (hr : (st.map fun v => v.category).sum ≤ 8) (hdd : d' + 1 ≤ d) (hf : cells + mc ≤ (zfR F).cells ∧ slots + ms ≤ (zfR F).slots) (k : Z G F (cells + mc) (slots + ms) Q (pc + 3) lv (x :: st) M1) : Z G F cells slots Q pc lv (x1 :: st) M :=
  z_SN O hM hk hl1 rfl rfl hr hdd hd hf (fun v M' h => by obtain ⟨rfl, rfl⟩ := h; exact k)
theorem z_V1u (O : zOk G F y cc nL ret own d n0) {a ci N : Nat} {C : String} {T : u_T} {fs : List Value} {x1 : Value} {M1 : List va_E} (hM : zS G d' y' cc' nL' ret' (.ref (zad (zb G) a) :: [x1]) M mc ms (zU M1)) (hk : zMv y' cc' nL' ret' 1 C) (hl1 : Cond.methodLink own idx y' ∈ zTb) (hci : vwCl[ci]? = some (C, T, N)) (he : M[a]? = some (.inr (ci, fs))) (hd : decode cc pc = .ok (.invokevirtual idx, 3)) (hr : (st.map fun v => v.category).sum ≤ 8) (hdd : d' + 1 ≤ d) (hf : cells + mc ≤ (zfR F).cells ∧ slots + ms ≤ (zfR F).slots) (k : Z G F (cells + mc) (slots + ms) Q (pc + 3) lv st M1) : Z G F cells slots Q pc lv (x1 :: .ref (zad (zb G) a) :: st) M :=
  z_V O hM hk hl1 hci he rfl rfl hr hdd hd hf (fun v M' h => by obtain ⟨rfl, rfl⟩ := h; exact k)
theorem z_S1u (O : zOk G F y cc nL ret own d n0) {x1 : Value} {M1 : List va_E} (hM : zS G d' y' cc' nL' ret' [x1] M mc ms (zU M1)) (hk : zMs y' cc' nL' ret' 1) (hl1 : Cond.methodLink own idx y' ∈ zTb) (hd : decode cc pc = .ok (.invokestatic idx, 3)) (hr : (st.map fun v => v.category).sum ≤ 8) (hdd : d' + 1 ≤ d) (hf : cells + mc ≤ (zfR F).cells ∧ slots + ms ≤ (zfR F).slots) (k : Z G F (cells + mc) (slots + ms) Q (pc + 3) lv st M1) : Z G F cells slots Q pc lv (x1 :: st) M :=
  z_S O hM hk hl1 rfl rfl hr hdd hd hf (fun v M' h => by obtain ⟨rfl, rfl⟩ := h; exact k)
theorem z_V1p (O : zOk G F y cc nL ret own d n0) {a ci N : Nat} {C : String} {T : u_T} {fs : List Value} {x1 : Value} {Q2 : Value → List va_E → Prop} (hM : zS G d' y' cc' nL' ret' (.ref (zad (zb G) a) :: [x1]) M mc ms (zP Q2)) (hk : zMv y' cc' nL' ret' 1 C) (hl1 : Cond.methodLink own idx y' ∈ zTb) (hci : vwCl[ci]? = some (C, T, N)) (he : M[a]? = some (.inr (ci, fs))) (hd : decode cc pc = .ok (.invokevirtual idx, 3)) (hr : (st.map fun v => v.category).sum ≤ 8) (hdd : d' + 1 ≤ d) (hf : cells + mc ≤ (zfR F).cells ∧ slots + ms ≤ (zfR F).slots) (k : ∀ x M', Q2 x M' → Z G F (cells + mc) (slots + ms) Q (pc + 3) lv (x :: st) M') : Z G F cells slots Q pc lv (x1 :: .ref (zad (zb G) a) :: st) M :=
  z_V O hM hk hl1 hci he rfl rfl hr hdd hd hf (fun v M' h => by obtain ⟨x, rfl, h⟩ := h; exact k x M' h)
theorem z_S1p (O : zOk G F y cc nL ret own d n0) {x1 : Value} {Q2 : Value → List va_E → Prop} (hM : zS G d' y' cc' nL' ret' [x1] M mc ms (zP Q2)) (hk : zMs y' cc' nL' ret' 1) (hl1 : Cond.methodLink own idx y' ∈ zTb) (hd : decode cc pc = .ok (.invokestatic idx, 3)) (hr : (st.map fun v => v.category).sum ≤ 8) (hdd : d' + 1 ≤ d) (hf : cells + mc ≤ (zfR F).cells ∧ slots + ms ≤ (zfR F).slots) (k : ∀ x M', Q2 x M' → Z G F (cells + mc) (slots + ms) Q (pc + 3) lv (x :: st) M') : Z G F cells slots Q pc lv (x1 :: st) M :=
  z_S O hM hk hl1 rfl rfl hr hdd hd hf (fun v M' h => by obtain ⟨x, rfl, h⟩ := h; exact k x M' h)
theorem z_V1pu (O : zOk G F y cc nL ret own d n0) {a ci N : Nat} {C : String} {T : u_T} {fs : List Value} {x1 : Value} {Q2 : List va_E → Prop} (hM : zS G d' y' cc' nL' ret' (.ref (zad (zb G) a) :: [x1]) M mc ms (zPU Q2)) (hk : zMv y' cc' nL' ret' 1 C) (hl1 : Cond.methodLink own idx y' ∈ zTb) (hci : vwCl[ci]? = some (C, T, N)) (he : M[a]? = some (.inr (ci, fs))) (hd : decode cc pc = .ok (.invokevirtual idx, 3)) (hr : (st.map fun v => v.category).sum ≤ 8) (hdd : d' + 1 ≤ d) (hf : cells + mc ≤ (zfR F).cells ∧ slots + ms ≤ (zfR F).slots) (k : ∀ M', Q2 M' → Z G F (cells + mc) (slots + ms) Q (pc + 3) lv st M') : Z G F cells slots Q pc lv (x1 :: .ref (zad (zb G) a) :: st) M :=
  z_V O hM hk hl1 hci he rfl rfl hr hdd hd hf (fun v M' h => by obtain ⟨rfl, h⟩ := h; exact k M' h)
theorem z_S1pu (O : zOk G F y cc nL ret own d n0) {x1 : Value} {Q2 : List va_E → Prop} (hM : zS G d' y' cc' nL' ret' [x1] M mc ms (zPU Q2)) (hk : zMs y' cc' nL' ret' 1) (hl1 : Cond.methodLink own idx y' ∈ zTb) (hd : decode cc pc = .ok (.invokestatic idx, 3)) (hr : (st.map fun v => v.category).sum ≤ 8) (hdd : d' + 1 ≤ d) (hf : cells + mc ≤ (zfR F).cells ∧ slots + ms ≤ (zfR F).slots) (k : ∀ M', Q2 M' → Z G F (cells + mc) (slots + ms) Q (pc + 3) lv st M') : Z G F cells slots Q pc lv (x1 :: st) M :=
  z_S O hM hk hl1 rfl rfl hr hdd hd hf (fun v M' h => by obtain ⟨rfl, h⟩ := h; exact k M' h)
theorem z_V2e (O : zOk G F y cc nL ret own d n0) {a ci N : Nat} {C : String} {T : u_T} {fs : List Value} {x1 x2 : Value} {x : Value} {M1 : List va_E} (hM : zS G d' y' cc' nL' ret' (.ref (zad (zb G) a) :: [x1, x2]) M mc ms (zE x M1)) (hk : zMv y' cc' nL' ret' 2 C) (hl1 : Cond.methodLink own idx y' ∈ zTb) (hci : vwCl[ci]? = some (C, T, N)) (he : M[a]? = some (.inr (ci, fs))) (hd : decode cc pc = .ok (.invokevirtual idx, 3)) (hr : (st.map fun v => v.category).sum ≤ 8) (hdd : d' + 1 ≤ d) (hf : cells + mc ≤ (zfR F).cells ∧ slots + ms ≤ (zfR F).slots) (k : Z G F (cells + mc) (slots + ms) Q (pc + 3) lv (x :: st) M1) : Z G F cells slots Q pc lv (x2 :: x1 :: .ref (zad (zb G) a) :: st) M :=
  z_V O hM hk hl1 hci he rfl rfl hr hdd hd hf (fun v M' h => by obtain ⟨rfl, rfl⟩ := h; exact k)
theorem z_S2e (O : zOk G F y cc nL ret own d n0) {x1 x2 : Value} {x : Value} {M1 : List va_E} (hM : zS G d' y' cc' nL' ret' [x1, x2] M mc ms (zE x M1)) (hk : zMs y' cc' nL' ret' 2) (hl1 : Cond.methodLink own idx y' ∈ zTb) (hd : decode cc pc = .ok (.invokestatic idx, 3)) (hr : (st.map fun v => v.category).sum ≤ 8) (hdd : d' + 1 ≤ d) (hf : cells + mc ≤ (zfR F).cells ∧ slots + ms ≤ (zfR F).slots) (k : Z G F (cells + mc) (slots + ms) Q (pc + 3) lv (x :: st) M1) : Z G F cells slots Q pc lv (x2 :: x1 :: st) M :=
  z_S O hM hk hl1 rfl rfl hr hdd hd hf (fun v M' h => by obtain ⟨rfl, rfl⟩ := h; exact k)
theorem z_SN2e (O : zOk G F y cc nL ret own d n0) {x1 x2 : Value} {x : Value} {M1 : List va_E} (hM : zS G d' y' cc' nL' ret' [x1, x2] M mc ms (zE x M1)) (hk : zMs y' cc' nL' ret' 2) (hl1 : (own, idx, y', RX3) ∈ zNm) (hd : decode cc pc = .ok (.invokestatic idx, 3)) (hr : (st.map fun v => v.category).sum ≤ 8) (hdd : d' + 1 ≤ d) (hf : cells + mc ≤ (zfR F).cells ∧ slots + ms ≤ (zfR F).slots) (k : Z G F (cells + mc) (slots + ms) Q (pc + 3) lv (x :: st) M1) : Z G F cells slots Q pc lv (x2 :: x1 :: st) M :=
  z_SN O hM hk hl1 rfl rfl hr hdd hd hf (fun v M' h => by obtain ⟨rfl, rfl⟩ := h; exact k)
theorem z_V2u (O : zOk G F y cc nL ret own d n0) {a ci N : Nat} {C : String} {T : u_T} {fs : List Value} {x1 x2 : Value} {M1 : List va_E} (hM : zS G d' y' cc' nL' ret' (.ref (zad (zb G) a) :: [x1, x2]) M mc ms (zU M1)) (hk : zMv y' cc' nL' ret' 2 C) (hl1 : Cond.methodLink own idx y' ∈ zTb) (hci : vwCl[ci]? = some (C, T, N)) (he : M[a]? = some (.inr (ci, fs))) (hd : decode cc pc = .ok (.invokevirtual idx, 3)) (hr : (st.map fun v => v.category).sum ≤ 8) (hdd : d' + 1 ≤ d) (hf : cells + mc ≤ (zfR F).cells ∧ slots + ms ≤ (zfR F).slots) (k : Z G F (cells + mc) (slots + ms) Q (pc + 3) lv st M1) : Z G F cells slots Q pc lv (x2 :: x1 :: .ref (zad (zb G) a) :: st) M :=
  z_V O hM hk hl1 hci he rfl rfl hr hdd hd hf (fun v M' h => by obtain ⟨rfl, rfl⟩ := h; exact k)
theorem z_S2u (O : zOk G F y cc nL ret own d n0) {x1 x2 : Value} {M1 : List va_E} (hM : zS G d' y' cc' nL' ret' [x1, x2] M mc ms (zU M1)) (hk : zMs y' cc' nL' ret' 2) (hl1 : Cond.methodLink own idx y' ∈ zTb) (hd : decode cc pc = .ok (.invokestatic idx, 3)) (hr : (st.map fun v => v.category).sum ≤ 8) (hdd : d' + 1 ≤ d) (hf : cells + mc ≤ (zfR F).cells ∧ slots + ms ≤ (zfR F).slots) (k : Z G F (cells + mc) (slots + ms) Q (pc + 3) lv st M1) : Z G F cells slots Q pc lv (x2 :: x1 :: st) M :=
  z_S O hM hk hl1 rfl rfl hr hdd hd hf (fun v M' h => by obtain ⟨rfl, rfl⟩ := h; exact k)
theorem z_V2p (O : zOk G F y cc nL ret own d n0) {a ci N : Nat} {C : String} {T : u_T} {fs : List Value} {x1 x2 : Value} {Q2 : Value → List va_E → Prop} (hM : zS G d' y' cc' nL' ret' (.ref (zad (zb G) a) :: [x1, x2]) M mc ms (zP Q2)) (hk : zMv y' cc' nL' ret' 2 C) (hl1 : Cond.methodLink own idx y' ∈ zTb) (hci : vwCl[ci]? = some (C, T, N)) (he : M[a]? = some (.inr (ci, fs))) (hd : decode cc pc = .ok (.invokevirtual idx, 3)) (hr : (st.map fun v => v.category).sum ≤ 8) (hdd : d' + 1 ≤ d) (hf : cells + mc ≤ (zfR F).cells ∧ slots + ms ≤ (zfR F).slots) (k : ∀ x M', Q2 x M' → Z G F (cells + mc) (slots + ms) Q (pc + 3) lv (x :: st) M') : Z G F cells slots Q pc lv (x2 :: x1 :: .ref (zad (zb G) a) :: st) M :=
  z_V O hM hk hl1 hci he rfl rfl hr hdd hd hf (fun v M' h => by obtain ⟨x, rfl, h⟩ := h; exact k x M' h)
theorem z_S2p (O : zOk G F y cc nL ret own d n0) {x1 x2 : Value} {Q2 : Value → List va_E → Prop} (hM : zS G d' y' cc' nL' ret' [x1, x2] M mc ms (zP Q2)) (hk : zMs y' cc' nL' ret' 2) (hl1 : Cond.methodLink own idx y' ∈ zTb) (hd : decode cc pc = .ok (.invokestatic idx, 3)) (hr : (st.map fun v => v.category).sum ≤ 8) (hdd : d' + 1 ≤ d) (hf : cells + mc ≤ (zfR F).cells ∧ slots + ms ≤ (zfR F).slots) (k : ∀ x M', Q2 x M' → Z G F (cells + mc) (slots + ms) Q (pc + 3) lv (x :: st) M') : Z G F cells slots Q pc lv (x2 :: x1 :: st) M :=
  z_S O hM hk hl1 rfl rfl hr hdd hd hf (fun v M' h => by obtain ⟨x, rfl, h⟩ := h; exact k x M' h)
theorem z_V2pu (O : zOk G F y cc nL ret own d n0) {a ci N : Nat} {C : String} {T : u_T} {fs : List Value} {x1 x2 : Value} {Q2 : List va_E → Prop} (hM : zS G d' y' cc' nL' ret' (.ref (zad (zb G) a) :: [x1, x2]) M mc ms (zPU Q2)) (hk : zMv y' cc' nL' ret' 2 C) (hl1 : Cond.methodLink own idx y' ∈ zTb) (hci : vwCl[ci]? = some (C, T, N)) (he : M[a]? = some (.inr (ci, fs))) (hd : decode cc pc = .ok (.invokevirtual idx, 3)) (hr : (st.map fun v => v.category).sum ≤ 8) (hdd : d' + 1 ≤ d) (hf : cells + mc ≤ (zfR F).cells ∧ slots + ms ≤ (zfR F).slots) (k : ∀ M', Q2 M' → Z G F (cells + mc) (slots + ms) Q (pc + 3) lv st M') : Z G F cells slots Q pc lv (x2 :: x1 :: .ref (zad (zb G) a) :: st) M :=
  z_V O hM hk hl1 hci he rfl rfl hr hdd hd hf (fun v M' h => by obtain ⟨rfl, h⟩ := h; exact k M' h)
theorem z_S2pu (O : zOk G F y cc nL ret own d n0) {x1 x2 : Value} {Q2 : List va_E → Prop} (hM : zS G d' y' cc' nL' ret' [x1, x2] M mc ms (zPU Q2)) (hk : zMs y' cc' nL' ret' 2) (hl1 : Cond.methodLink own idx y' ∈ zTb) (hd : decode cc pc = .ok (.invokestatic idx, 3)) (hr : (st.map fun v => v.category).sum ≤ 8) (hdd : d' + 1 ≤ d) (hf : cells + mc ≤ (zfR F).cells ∧ slots + ms ≤ (zfR F).slots) (k : ∀ M', Q2 M' → Z G F (cells + mc) (slots + ms) Q (pc + 3) lv st M') : Z G F cells slots Q pc lv (x2 :: x1 :: st) M :=
  z_S O hM hk hl1 rfl rfl hr hdd hd hf (fun v M' h => by obtain ⟨rfl, h⟩ := h; exact k M' h)
theorem z_V3e (O : zOk G F y cc nL ret own d n0) {a ci N : Nat} {C : String} {T : u_T} {fs : List Value} {x1 x2 x3 : Value} {x : Value} {M1 : List va_E} (hM : zS G d' y' cc' nL' ret' (.ref (zad (zb G) a) :: [x1, x2, x3]) M mc ms (zE x M1)) (hk : zMv y' cc' nL' ret' 3 C) (hl1 : Cond.methodLink own idx y' ∈ zTb) (hci : vwCl[ci]? = some (C, T, N)) (he : M[a]? = some (.inr (ci, fs))) (hd : decode cc pc = .ok (.invokevirtual idx, 3)) (hr : (st.map fun v => v.category).sum ≤ 8) (hdd : d' + 1 ≤ d) (hf : cells + mc ≤ (zfR F).cells ∧ slots + ms ≤ (zfR F).slots) (k : Z G F (cells + mc) (slots + ms) Q (pc + 3) lv (x :: st) M1) : Z G F cells slots Q pc lv (x3 :: x2 :: x1 :: .ref (zad (zb G) a) :: st) M :=
  z_V O hM hk hl1 hci he rfl rfl hr hdd hd hf (fun v M' h => by obtain ⟨rfl, rfl⟩ := h; exact k)
theorem z_S3e (O : zOk G F y cc nL ret own d n0) {x1 x2 x3 : Value} {x : Value} {M1 : List va_E} (hM : zS G d' y' cc' nL' ret' [x1, x2, x3] M mc ms (zE x M1)) (hk : zMs y' cc' nL' ret' 3) (hl1 : Cond.methodLink own idx y' ∈ zTb) (hd : decode cc pc = .ok (.invokestatic idx, 3)) (hr : (st.map fun v => v.category).sum ≤ 8) (hdd : d' + 1 ≤ d) (hf : cells + mc ≤ (zfR F).cells ∧ slots + ms ≤ (zfR F).slots) (k : Z G F (cells + mc) (slots + ms) Q (pc + 3) lv (x :: st) M1) : Z G F cells slots Q pc lv (x3 :: x2 :: x1 :: st) M :=
  z_S O hM hk hl1 rfl rfl hr hdd hd hf (fun v M' h => by obtain ⟨rfl, rfl⟩ := h; exact k)
theorem z_SN3e (O : zOk G F y cc nL ret own d n0) {x1 x2 x3 : Value} {x : Value} {M1 : List va_E} (hM : zS G d' y' cc' nL' ret' [x1, x2, x3] M mc ms (zE x M1)) (hk : zMs y' cc' nL' ret' 3) (hl1 : (own, idx, y', RX3) ∈ zNm) (hd : decode cc pc = .ok (.invokestatic idx, 3)) (hr : (st.map fun v => v.category).sum ≤ 8) (hdd : d' + 1 ≤ d) (hf : cells + mc ≤ (zfR F).cells ∧ slots + ms ≤ (zfR F).slots) (k : Z G F (cells + mc) (slots + ms) Q (pc + 3) lv (x :: st) M1) : Z G F cells slots Q pc lv (x3 :: x2 :: x1 :: st) M :=
  z_SN O hM hk hl1 rfl rfl hr hdd hd hf (fun v M' h => by obtain ⟨rfl, rfl⟩ := h; exact k)
theorem z_V3u (O : zOk G F y cc nL ret own d n0) {a ci N : Nat} {C : String} {T : u_T} {fs : List Value} {x1 x2 x3 : Value} {M1 : List va_E} (hM : zS G d' y' cc' nL' ret' (.ref (zad (zb G) a) :: [x1, x2, x3]) M mc ms (zU M1)) (hk : zMv y' cc' nL' ret' 3 C) (hl1 : Cond.methodLink own idx y' ∈ zTb) (hci : vwCl[ci]? = some (C, T, N)) (he : M[a]? = some (.inr (ci, fs))) (hd : decode cc pc = .ok (.invokevirtual idx, 3)) (hr : (st.map fun v => v.category).sum ≤ 8) (hdd : d' + 1 ≤ d) (hf : cells + mc ≤ (zfR F).cells ∧ slots + ms ≤ (zfR F).slots) (k : Z G F (cells + mc) (slots + ms) Q (pc + 3) lv st M1) : Z G F cells slots Q pc lv (x3 :: x2 :: x1 :: .ref (zad (zb G) a) :: st) M :=
  z_V O hM hk hl1 hci he rfl rfl hr hdd hd hf (fun v M' h => by obtain ⟨rfl, rfl⟩ := h; exact k)
theorem z_S3u (O : zOk G F y cc nL ret own d n0) {x1 x2 x3 : Value} {M1 : List va_E} (hM : zS G d' y' cc' nL' ret' [x1, x2, x3] M mc ms (zU M1)) (hk : zMs y' cc' nL' ret' 3) (hl1 : Cond.methodLink own idx y' ∈ zTb) (hd : decode cc pc = .ok (.invokestatic idx, 3)) (hr : (st.map fun v => v.category).sum ≤ 8) (hdd : d' + 1 ≤ d) (hf : cells + mc ≤ (zfR F).cells ∧ slots + ms ≤ (zfR F).slots) (k : Z G F (cells + mc) (slots + ms) Q (pc + 3) lv st M1) : Z G F cells slots Q pc lv (x3 :: x2 :: x1 :: st) M :=
  z_S O hM hk hl1 rfl rfl hr hdd hd hf (fun v M' h => by obtain ⟨rfl, rfl⟩ := h; exact k)
theorem z_V3p (O : zOk G F y cc nL ret own d n0) {a ci N : Nat} {C : String} {T : u_T} {fs : List Value} {x1 x2 x3 : Value} {Q2 : Value → List va_E → Prop} (hM : zS G d' y' cc' nL' ret' (.ref (zad (zb G) a) :: [x1, x2, x3]) M mc ms (zP Q2)) (hk : zMv y' cc' nL' ret' 3 C) (hl1 : Cond.methodLink own idx y' ∈ zTb) (hci : vwCl[ci]? = some (C, T, N)) (he : M[a]? = some (.inr (ci, fs))) (hd : decode cc pc = .ok (.invokevirtual idx, 3)) (hr : (st.map fun v => v.category).sum ≤ 8) (hdd : d' + 1 ≤ d) (hf : cells + mc ≤ (zfR F).cells ∧ slots + ms ≤ (zfR F).slots) (k : ∀ x M', Q2 x M' → Z G F (cells + mc) (slots + ms) Q (pc + 3) lv (x :: st) M') : Z G F cells slots Q pc lv (x3 :: x2 :: x1 :: .ref (zad (zb G) a) :: st) M :=
  z_V O hM hk hl1 hci he rfl rfl hr hdd hd hf (fun v M' h => by obtain ⟨x, rfl, h⟩ := h; exact k x M' h)
theorem z_S3p (O : zOk G F y cc nL ret own d n0) {x1 x2 x3 : Value} {Q2 : Value → List va_E → Prop} (hM : zS G d' y' cc' nL' ret' [x1, x2, x3] M mc ms (zP Q2)) (hk : zMs y' cc' nL' ret' 3) (hl1 : Cond.methodLink own idx y' ∈ zTb) (hd : decode cc pc = .ok (.invokestatic idx, 3)) (hr : (st.map fun v => v.category).sum ≤ 8) (hdd : d' + 1 ≤ d) (hf : cells + mc ≤ (zfR F).cells ∧ slots + ms ≤ (zfR F).slots) (k : ∀ x M', Q2 x M' → Z G F (cells + mc) (slots + ms) Q (pc + 3) lv (x :: st) M') : Z G F cells slots Q pc lv (x3 :: x2 :: x1 :: st) M :=
  z_S O hM hk hl1 rfl rfl hr hdd hd hf (fun v M' h => by obtain ⟨x, rfl, h⟩ := h; exact k x M' h)
theorem z_V3pu (O : zOk G F y cc nL ret own d n0) {a ci N : Nat} {C : String} {T : u_T} {fs : List Value} {x1 x2 x3 : Value} {Q2 : List va_E → Prop} (hM : zS G d' y' cc' nL' ret' (.ref (zad (zb G) a) :: [x1, x2, x3]) M mc ms (zPU Q2)) (hk : zMv y' cc' nL' ret' 3 C) (hl1 : Cond.methodLink own idx y' ∈ zTb) (hci : vwCl[ci]? = some (C, T, N)) (he : M[a]? = some (.inr (ci, fs))) (hd : decode cc pc = .ok (.invokevirtual idx, 3)) (hr : (st.map fun v => v.category).sum ≤ 8) (hdd : d' + 1 ≤ d) (hf : cells + mc ≤ (zfR F).cells ∧ slots + ms ≤ (zfR F).slots) (k : ∀ M', Q2 M' → Z G F (cells + mc) (slots + ms) Q (pc + 3) lv st M') : Z G F cells slots Q pc lv (x3 :: x2 :: x1 :: .ref (zad (zb G) a) :: st) M :=
  z_V O hM hk hl1 hci he rfl rfl hr hdd hd hf (fun v M' h => by obtain ⟨rfl, h⟩ := h; exact k M' h)
theorem z_S3pu (O : zOk G F y cc nL ret own d n0) {x1 x2 x3 : Value} {Q2 : List va_E → Prop} (hM : zS G d' y' cc' nL' ret' [x1, x2, x3] M mc ms (zPU Q2)) (hk : zMs y' cc' nL' ret' 3) (hl1 : Cond.methodLink own idx y' ∈ zTb) (hd : decode cc pc = .ok (.invokestatic idx, 3)) (hr : (st.map fun v => v.category).sum ≤ 8) (hdd : d' + 1 ≤ d) (hf : cells + mc ≤ (zfR F).cells ∧ slots + ms ≤ (zfR F).slots) (k : ∀ M', Q2 M' → Z G F (cells + mc) (slots + ms) Q (pc + 3) lv st M') : Z G F cells slots Q pc lv (x3 :: x2 :: x1 :: st) M :=
  z_S O hM hk hl1 rfl rfl hr hdd hd hf (fun v M' h => by obtain ⟨rfl, h⟩ := h; exact k M' h)
theorem z_V4e (O : zOk G F y cc nL ret own d n0) {a ci N : Nat} {C : String} {T : u_T} {fs : List Value} {x1 x2 x3 x4 : Value} {x : Value} {M1 : List va_E} (hM : zS G d' y' cc' nL' ret' (.ref (zad (zb G) a) :: [x1, x2, x3, x4]) M mc ms (zE x M1)) (hk : zMv y' cc' nL' ret' 4 C) (hl1 : Cond.methodLink own idx y' ∈ zTb) (hci : vwCl[ci]? = some (C, T, N)) (he : M[a]? = some (.inr (ci, fs))) (hd : decode cc pc = .ok (.invokevirtual idx, 3)) (hr : (st.map fun v => v.category).sum ≤ 8) (hdd : d' + 1 ≤ d) (hf : cells + mc ≤ (zfR F).cells ∧ slots + ms ≤ (zfR F).slots) (k : Z G F (cells + mc) (slots + ms) Q (pc + 3) lv (x :: st) M1) : Z G F cells slots Q pc lv (x4 :: x3 :: x2 :: x1 :: .ref (zad (zb G) a) :: st) M :=
  z_V O hM hk hl1 hci he rfl rfl hr hdd hd hf (fun v M' h => by obtain ⟨rfl, rfl⟩ := h; exact k)
theorem z_S4e (O : zOk G F y cc nL ret own d n0) {x1 x2 x3 x4 : Value} {x : Value} {M1 : List va_E} (hM : zS G d' y' cc' nL' ret' [x1, x2, x3, x4] M mc ms (zE x M1)) (hk : zMs y' cc' nL' ret' 4) (hl1 : Cond.methodLink own idx y' ∈ zTb) (hd : decode cc pc = .ok (.invokestatic idx, 3)) (hr : (st.map fun v => v.category).sum ≤ 8) (hdd : d' + 1 ≤ d) (hf : cells + mc ≤ (zfR F).cells ∧ slots + ms ≤ (zfR F).slots) (k : Z G F (cells + mc) (slots + ms) Q (pc + 3) lv (x :: st) M1) : Z G F cells slots Q pc lv (x4 :: x3 :: x2 :: x1 :: st) M :=
  z_S O hM hk hl1 rfl rfl hr hdd hd hf (fun v M' h => by obtain ⟨rfl, rfl⟩ := h; exact k)
theorem z_SN4e (O : zOk G F y cc nL ret own d n0) {x1 x2 x3 x4 : Value} {x : Value} {M1 : List va_E} (hM : zS G d' y' cc' nL' ret' [x1, x2, x3, x4] M mc ms (zE x M1)) (hk : zMs y' cc' nL' ret' 4) (hl1 : (own, idx, y', RX3) ∈ zNm) (hd : decode cc pc = .ok (.invokestatic idx, 3)) (hr : (st.map fun v => v.category).sum ≤ 8) (hdd : d' + 1 ≤ d) (hf : cells + mc ≤ (zfR F).cells ∧ slots + ms ≤ (zfR F).slots) (k : Z G F (cells + mc) (slots + ms) Q (pc + 3) lv (x :: st) M1) : Z G F cells slots Q pc lv (x4 :: x3 :: x2 :: x1 :: st) M :=
  z_SN O hM hk hl1 rfl rfl hr hdd hd hf (fun v M' h => by obtain ⟨rfl, rfl⟩ := h; exact k)
theorem z_V4u (O : zOk G F y cc nL ret own d n0) {a ci N : Nat} {C : String} {T : u_T} {fs : List Value} {x1 x2 x3 x4 : Value} {M1 : List va_E} (hM : zS G d' y' cc' nL' ret' (.ref (zad (zb G) a) :: [x1, x2, x3, x4]) M mc ms (zU M1)) (hk : zMv y' cc' nL' ret' 4 C) (hl1 : Cond.methodLink own idx y' ∈ zTb) (hci : vwCl[ci]? = some (C, T, N)) (he : M[a]? = some (.inr (ci, fs))) (hd : decode cc pc = .ok (.invokevirtual idx, 3)) (hr : (st.map fun v => v.category).sum ≤ 8) (hdd : d' + 1 ≤ d) (hf : cells + mc ≤ (zfR F).cells ∧ slots + ms ≤ (zfR F).slots) (k : Z G F (cells + mc) (slots + ms) Q (pc + 3) lv st M1) : Z G F cells slots Q pc lv (x4 :: x3 :: x2 :: x1 :: .ref (zad (zb G) a) :: st) M :=
  z_V O hM hk hl1 hci he rfl rfl hr hdd hd hf (fun v M' h => by obtain ⟨rfl, rfl⟩ := h; exact k)
theorem z_S4u (O : zOk G F y cc nL ret own d n0) {x1 x2 x3 x4 : Value} {M1 : List va_E} (hM : zS G d' y' cc' nL' ret' [x1, x2, x3, x4] M mc ms (zU M1)) (hk : zMs y' cc' nL' ret' 4) (hl1 : Cond.methodLink own idx y' ∈ zTb) (hd : decode cc pc = .ok (.invokestatic idx, 3)) (hr : (st.map fun v => v.category).sum ≤ 8) (hdd : d' + 1 ≤ d) (hf : cells + mc ≤ (zfR F).cells ∧ slots + ms ≤ (zfR F).slots) (k : Z G F (cells + mc) (slots + ms) Q (pc + 3) lv st M1) : Z G F cells slots Q pc lv (x4 :: x3 :: x2 :: x1 :: st) M :=
  z_S O hM hk hl1 rfl rfl hr hdd hd hf (fun v M' h => by obtain ⟨rfl, rfl⟩ := h; exact k)
theorem z_V4p (O : zOk G F y cc nL ret own d n0) {a ci N : Nat} {C : String} {T : u_T} {fs : List Value} {x1 x2 x3 x4 : Value} {Q2 : Value → List va_E → Prop} (hM : zS G d' y' cc' nL' ret' (.ref (zad (zb G) a) :: [x1, x2, x3, x4]) M mc ms (zP Q2)) (hk : zMv y' cc' nL' ret' 4 C) (hl1 : Cond.methodLink own idx y' ∈ zTb) (hci : vwCl[ci]? = some (C, T, N)) (he : M[a]? = some (.inr (ci, fs))) (hd : decode cc pc = .ok (.invokevirtual idx, 3)) (hr : (st.map fun v => v.category).sum ≤ 8) (hdd : d' + 1 ≤ d) (hf : cells + mc ≤ (zfR F).cells ∧ slots + ms ≤ (zfR F).slots) (k : ∀ x M', Q2 x M' → Z G F (cells + mc) (slots + ms) Q (pc + 3) lv (x :: st) M') : Z G F cells slots Q pc lv (x4 :: x3 :: x2 :: x1 :: .ref (zad (zb G) a) :: st) M :=
  z_V O hM hk hl1 hci he rfl rfl hr hdd hd hf (fun v M' h => by obtain ⟨x, rfl, h⟩ := h; exact k x M' h)
theorem z_S4p (O : zOk G F y cc nL ret own d n0) {x1 x2 x3 x4 : Value} {Q2 : Value → List va_E → Prop} (hM : zS G d' y' cc' nL' ret' [x1, x2, x3, x4] M mc ms (zP Q2)) (hk : zMs y' cc' nL' ret' 4) (hl1 : Cond.methodLink own idx y' ∈ zTb) (hd : decode cc pc = .ok (.invokestatic idx, 3)) (hr : (st.map fun v => v.category).sum ≤ 8) (hdd : d' + 1 ≤ d) (hf : cells + mc ≤ (zfR F).cells ∧ slots + ms ≤ (zfR F).slots) (k : ∀ x M', Q2 x M' → Z G F (cells + mc) (slots + ms) Q (pc + 3) lv (x :: st) M') : Z G F cells slots Q pc lv (x4 :: x3 :: x2 :: x1 :: st) M :=
  z_S O hM hk hl1 rfl rfl hr hdd hd hf (fun v M' h => by obtain ⟨x, rfl, h⟩ := h; exact k x M' h)
theorem z_V4pu (O : zOk G F y cc nL ret own d n0) {a ci N : Nat} {C : String} {T : u_T} {fs : List Value} {x1 x2 x3 x4 : Value} {Q2 : List va_E → Prop} (hM : zS G d' y' cc' nL' ret' (.ref (zad (zb G) a) :: [x1, x2, x3, x4]) M mc ms (zPU Q2)) (hk : zMv y' cc' nL' ret' 4 C) (hl1 : Cond.methodLink own idx y' ∈ zTb) (hci : vwCl[ci]? = some (C, T, N)) (he : M[a]? = some (.inr (ci, fs))) (hd : decode cc pc = .ok (.invokevirtual idx, 3)) (hr : (st.map fun v => v.category).sum ≤ 8) (hdd : d' + 1 ≤ d) (hf : cells + mc ≤ (zfR F).cells ∧ slots + ms ≤ (zfR F).slots) (k : ∀ M', Q2 M' → Z G F (cells + mc) (slots + ms) Q (pc + 3) lv st M') : Z G F cells slots Q pc lv (x4 :: x3 :: x2 :: x1 :: .ref (zad (zb G) a) :: st) M :=
  z_V O hM hk hl1 hci he rfl rfl hr hdd hd hf (fun v M' h => by obtain ⟨rfl, h⟩ := h; exact k M' h)
theorem z_S4pu (O : zOk G F y cc nL ret own d n0) {x1 x2 x3 x4 : Value} {Q2 : List va_E → Prop} (hM : zS G d' y' cc' nL' ret' [x1, x2, x3, x4] M mc ms (zPU Q2)) (hk : zMs y' cc' nL' ret' 4) (hl1 : Cond.methodLink own idx y' ∈ zTb) (hd : decode cc pc = .ok (.invokestatic idx, 3)) (hr : (st.map fun v => v.category).sum ≤ 8) (hdd : d' + 1 ≤ d) (hf : cells + mc ≤ (zfR F).cells ∧ slots + ms ≤ (zfR F).slots) (k : ∀ M', Q2 M' → Z G F (cells + mc) (slots + ms) Q (pc + 3) lv st M') : Z G F cells slots Q pc lv (x4 :: x3 :: x2 :: x1 :: st) M :=
  z_S O hM hk hl1 rfl rfl hr hdd hd hf (fun v M' h => by obtain ⟨rfl, h⟩ := h; exact k M' h)
theorem z_V5e (O : zOk G F y cc nL ret own d n0) {a ci N : Nat} {C : String} {T : u_T} {fs : List Value} {x1 x2 x3 x4 x5 : Value} {x : Value} {M1 : List va_E} (hM : zS G d' y' cc' nL' ret' (.ref (zad (zb G) a) :: [x1, x2, x3, x4, x5]) M mc ms (zE x M1)) (hk : zMv y' cc' nL' ret' 5 C) (hl1 : Cond.methodLink own idx y' ∈ zTb) (hci : vwCl[ci]? = some (C, T, N)) (he : M[a]? = some (.inr (ci, fs))) (hd : decode cc pc = .ok (.invokevirtual idx, 3)) (hr : (st.map fun v => v.category).sum ≤ 8) (hdd : d' + 1 ≤ d) (hf : cells + mc ≤ (zfR F).cells ∧ slots + ms ≤ (zfR F).slots) (k : Z G F (cells + mc) (slots + ms) Q (pc + 3) lv (x :: st) M1) : Z G F cells slots Q pc lv (x5 :: x4 :: x3 :: x2 :: x1 :: .ref (zad (zb G) a) :: st) M :=
  z_V O hM hk hl1 hci he rfl rfl hr hdd hd hf (fun v M' h => by obtain ⟨rfl, rfl⟩ := h; exact k)
theorem z_V5u (O : zOk G F y cc nL ret own d n0) {a ci N : Nat} {C : String} {T : u_T} {fs : List Value} {x1 x2 x3 x4 x5 : Value} {M1 : List va_E} (hM : zS G d' y' cc' nL' ret' (.ref (zad (zb G) a) :: [x1, x2, x3, x4, x5]) M mc ms (zU M1)) (hk : zMv y' cc' nL' ret' 5 C) (hl1 : Cond.methodLink own idx y' ∈ zTb) (hci : vwCl[ci]? = some (C, T, N)) (he : M[a]? = some (.inr (ci, fs))) (hd : decode cc pc = .ok (.invokevirtual idx, 3)) (hr : (st.map fun v => v.category).sum ≤ 8) (hdd : d' + 1 ≤ d) (hf : cells + mc ≤ (zfR F).cells ∧ slots + ms ≤ (zfR F).slots) (k : Z G F (cells + mc) (slots + ms) Q (pc + 3) lv st M1) : Z G F cells slots Q pc lv (x5 :: x4 :: x3 :: x2 :: x1 :: .ref (zad (zb G) a) :: st) M :=
  z_V O hM hk hl1 hci he rfl rfl hr hdd hd hf (fun v M' h => by obtain ⟨rfl, rfl⟩ := h; exact k)
theorem z_V5p (O : zOk G F y cc nL ret own d n0) {a ci N : Nat} {C : String} {T : u_T} {fs : List Value} {x1 x2 x3 x4 x5 : Value} {Q2 : Value → List va_E → Prop} (hM : zS G d' y' cc' nL' ret' (.ref (zad (zb G) a) :: [x1, x2, x3, x4, x5]) M mc ms (zP Q2)) (hk : zMv y' cc' nL' ret' 5 C) (hl1 : Cond.methodLink own idx y' ∈ zTb) (hci : vwCl[ci]? = some (C, T, N)) (he : M[a]? = some (.inr (ci, fs))) (hd : decode cc pc = .ok (.invokevirtual idx, 3)) (hr : (st.map fun v => v.category).sum ≤ 8) (hdd : d' + 1 ≤ d) (hf : cells + mc ≤ (zfR F).cells ∧ slots + ms ≤ (zfR F).slots) (k : ∀ x M', Q2 x M' → Z G F (cells + mc) (slots + ms) Q (pc + 3) lv (x :: st) M') : Z G F cells slots Q pc lv (x5 :: x4 :: x3 :: x2 :: x1 :: .ref (zad (zb G) a) :: st) M :=
  z_V O hM hk hl1 hci he rfl rfl hr hdd hd hf (fun v M' h => by obtain ⟨x, rfl, h⟩ := h; exact k x M' h)
theorem z_V5pu (O : zOk G F y cc nL ret own d n0) {a ci N : Nat} {C : String} {T : u_T} {fs : List Value} {x1 x2 x3 x4 x5 : Value} {Q2 : List va_E → Prop} (hM : zS G d' y' cc' nL' ret' (.ref (zad (zb G) a) :: [x1, x2, x3, x4, x5]) M mc ms (zPU Q2)) (hk : zMv y' cc' nL' ret' 5 C) (hl1 : Cond.methodLink own idx y' ∈ zTb) (hci : vwCl[ci]? = some (C, T, N)) (he : M[a]? = some (.inr (ci, fs))) (hd : decode cc pc = .ok (.invokevirtual idx, 3)) (hr : (st.map fun v => v.category).sum ≤ 8) (hdd : d' + 1 ≤ d) (hf : cells + mc ≤ (zfR F).cells ∧ slots + ms ≤ (zfR F).slots) (k : ∀ M', Q2 M' → Z G F (cells + mc) (slots + ms) Q (pc + 3) lv st M') : Z G F cells slots Q pc lv (x5 :: x4 :: x3 :: x2 :: x1 :: .ref (zad (zb G) a) :: st) M :=
  z_V O hM hk hl1 hci he rfl rfl hr hdd hd hf (fun v M' h => by obtain ⟨rfl, h⟩ := h; exact k M' h)
theorem z_V6e (O : zOk G F y cc nL ret own d n0) {a ci N : Nat} {C : String} {T : u_T} {fs : List Value} {x1 x2 x3 x4 x5 x6 : Value} {x : Value} {M1 : List va_E} (hM : zS G d' y' cc' nL' ret' (.ref (zad (zb G) a) :: [x1, x2, x3, x4, x5, x6]) M mc ms (zE x M1)) (hk : zMv y' cc' nL' ret' 6 C) (hl1 : Cond.methodLink own idx y' ∈ zTb) (hci : vwCl[ci]? = some (C, T, N)) (he : M[a]? = some (.inr (ci, fs))) (hd : decode cc pc = .ok (.invokevirtual idx, 3)) (hr : (st.map fun v => v.category).sum ≤ 8) (hdd : d' + 1 ≤ d) (hf : cells + mc ≤ (zfR F).cells ∧ slots + ms ≤ (zfR F).slots) (k : Z G F (cells + mc) (slots + ms) Q (pc + 3) lv (x :: st) M1) : Z G F cells slots Q pc lv (x6 :: x5 :: x4 :: x3 :: x2 :: x1 :: .ref (zad (zb G) a) :: st) M :=
  z_V O hM hk hl1 hci he rfl rfl hr hdd hd hf (fun v M' h => by obtain ⟨rfl, rfl⟩ := h; exact k)
theorem z_V6u (O : zOk G F y cc nL ret own d n0) {a ci N : Nat} {C : String} {T : u_T} {fs : List Value} {x1 x2 x3 x4 x5 x6 : Value} {M1 : List va_E} (hM : zS G d' y' cc' nL' ret' (.ref (zad (zb G) a) :: [x1, x2, x3, x4, x5, x6]) M mc ms (zU M1)) (hk : zMv y' cc' nL' ret' 6 C) (hl1 : Cond.methodLink own idx y' ∈ zTb) (hci : vwCl[ci]? = some (C, T, N)) (he : M[a]? = some (.inr (ci, fs))) (hd : decode cc pc = .ok (.invokevirtual idx, 3)) (hr : (st.map fun v => v.category).sum ≤ 8) (hdd : d' + 1 ≤ d) (hf : cells + mc ≤ (zfR F).cells ∧ slots + ms ≤ (zfR F).slots) (k : Z G F (cells + mc) (slots + ms) Q (pc + 3) lv st M1) : Z G F cells slots Q pc lv (x6 :: x5 :: x4 :: x3 :: x2 :: x1 :: .ref (zad (zb G) a) :: st) M :=
  z_V O hM hk hl1 hci he rfl rfl hr hdd hd hf (fun v M' h => by obtain ⟨rfl, rfl⟩ := h; exact k)
theorem z_V6p (O : zOk G F y cc nL ret own d n0) {a ci N : Nat} {C : String} {T : u_T} {fs : List Value} {x1 x2 x3 x4 x5 x6 : Value} {Q2 : Value → List va_E → Prop} (hM : zS G d' y' cc' nL' ret' (.ref (zad (zb G) a) :: [x1, x2, x3, x4, x5, x6]) M mc ms (zP Q2)) (hk : zMv y' cc' nL' ret' 6 C) (hl1 : Cond.methodLink own idx y' ∈ zTb) (hci : vwCl[ci]? = some (C, T, N)) (he : M[a]? = some (.inr (ci, fs))) (hd : decode cc pc = .ok (.invokevirtual idx, 3)) (hr : (st.map fun v => v.category).sum ≤ 8) (hdd : d' + 1 ≤ d) (hf : cells + mc ≤ (zfR F).cells ∧ slots + ms ≤ (zfR F).slots) (k : ∀ x M', Q2 x M' → Z G F (cells + mc) (slots + ms) Q (pc + 3) lv (x :: st) M') : Z G F cells slots Q pc lv (x6 :: x5 :: x4 :: x3 :: x2 :: x1 :: .ref (zad (zb G) a) :: st) M :=
  z_V O hM hk hl1 hci he rfl rfl hr hdd hd hf (fun v M' h => by obtain ⟨x, rfl, h⟩ := h; exact k x M' h)
theorem z_V6pu (O : zOk G F y cc nL ret own d n0) {a ci N : Nat} {C : String} {T : u_T} {fs : List Value} {x1 x2 x3 x4 x5 x6 : Value} {Q2 : List va_E → Prop} (hM : zS G d' y' cc' nL' ret' (.ref (zad (zb G) a) :: [x1, x2, x3, x4, x5, x6]) M mc ms (zPU Q2)) (hk : zMv y' cc' nL' ret' 6 C) (hl1 : Cond.methodLink own idx y' ∈ zTb) (hci : vwCl[ci]? = some (C, T, N)) (he : M[a]? = some (.inr (ci, fs))) (hd : decode cc pc = .ok (.invokevirtual idx, 3)) (hr : (st.map fun v => v.category).sum ≤ 8) (hdd : d' + 1 ≤ d) (hf : cells + mc ≤ (zfR F).cells ∧ slots + ms ≤ (zfR F).slots) (k : ∀ M', Q2 M' → Z G F (cells + mc) (slots + ms) Q (pc + 3) lv st M') : Z G F cells slots Q pc lv (x6 :: x5 :: x4 :: x3 :: x2 :: x1 :: .ref (zad (zb G) a) :: st) M :=
  z_V O hM hk hl1 hci he rfl rfl hr hdd hd hf (fun v M' h => by obtain ⟨rfl, h⟩ := h; exact k M' h)
theorem z_I0u (O : zOk G F y cc nL ret own d n0) {a : Nat} {M1 : List va_E} (hM : zS G d' y' cc' nL' none [.ref (zad (zb G) a)] M mc ms (zU M1)) (hk : zMi y' cc' nL' 0) (hl1 : Cond.methodLink own idx y' ∈ zTb) (hd : decode cc pc = .ok (.invokespecial idx, 3)) (hr : (st.map fun v => v.category).sum ≤ 8) (hdd : d' + 1 ≤ d) (hf : cells + mc ≤ (zfR F).cells ∧ slots + ms ≤ (zfR F).slots) (k : Z G F (cells + mc) (slots + ms) Q (pc + 3) lv st M1) : Z G F cells slots Q pc lv (.ref (zad (zb G) a) :: st) M :=
  z_I O hM hk hl1 rfl rfl hr hdd hd hf (fun v M' h => by obtain ⟨rfl, rfl⟩ := h; exact k)
theorem z_IN0u (O : zOk G F y cc nL ret own d n0) {a : Nat} {M1 : List va_E} (hM : zS G d' y' cc' nL' none [.ref (zad (zb G) a)] M mc ms (zU M1)) (hk : zMi y' cc' nL' 0) (hl1 : (own, idx, y', RX3) ∈ zNm) (hd : decode cc pc = .ok (.invokespecial idx, 3)) (hr : (st.map fun v => v.category).sum ≤ 8) (hdd : d' + 1 ≤ d) (hf : cells + mc ≤ (zfR F).cells ∧ slots + ms ≤ (zfR F).slots) (k : Z G F (cells + mc) (slots + ms) Q (pc + 3) lv st M1) : Z G F cells slots Q pc lv (.ref (zad (zb G) a) :: st) M :=
  z_IN O hM hk hl1 rfl rfl hr hdd hd hf (fun v M' h => by obtain ⟨rfl, rfl⟩ := h; exact k)
theorem z_I0pu (O : zOk G F y cc nL ret own d n0) {a : Nat} {Q2 : List va_E → Prop} (hM : zS G d' y' cc' nL' none [.ref (zad (zb G) a)] M mc ms (zPU Q2)) (hk : zMi y' cc' nL' 0) (hl1 : Cond.methodLink own idx y' ∈ zTb) (hd : decode cc pc = .ok (.invokespecial idx, 3)) (hr : (st.map fun v => v.category).sum ≤ 8) (hdd : d' + 1 ≤ d) (hf : cells + mc ≤ (zfR F).cells ∧ slots + ms ≤ (zfR F).slots) (k : ∀ M', Q2 M' → Z G F (cells + mc) (slots + ms) Q (pc + 3) lv st M') : Z G F cells slots Q pc lv (.ref (zad (zb G) a) :: st) M :=
  z_I O hM hk hl1 rfl rfl hr hdd hd hf (fun v M' h => by obtain ⟨rfl, h⟩ := h; exact k M' h)
theorem z_IN0pu (O : zOk G F y cc nL ret own d n0) {a : Nat} {Q2 : List va_E → Prop} (hM : zS G d' y' cc' nL' none [.ref (zad (zb G) a)] M mc ms (zPU Q2)) (hk : zMi y' cc' nL' 0) (hl1 : (own, idx, y', RX3) ∈ zNm) (hd : decode cc pc = .ok (.invokespecial idx, 3)) (hr : (st.map fun v => v.category).sum ≤ 8) (hdd : d' + 1 ≤ d) (hf : cells + mc ≤ (zfR F).cells ∧ slots + ms ≤ (zfR F).slots) (k : ∀ M', Q2 M' → Z G F (cells + mc) (slots + ms) Q (pc + 3) lv st M') : Z G F cells slots Q pc lv (.ref (zad (zb G) a) :: st) M :=
  z_IN O hM hk hl1 rfl rfl hr hdd hd hf (fun v M' h => by obtain ⟨rfl, h⟩ := h; exact k M' h)
end ZR2
end
section
theorem mX3_init : zMi yX3_init cX3_init 1 0 := ⟨⟨zTb_mem2 77 (by decide +kernel) rfl, zTb_mem2 65 (by decide +kernel) rfl, (by decide +kernel), (by decide)⟩, rfl, zTb_mem2 76 (by decide +kernel) rfl⟩
theorem mX1_init : zMi yX1_init cX1_init 1 0 := ⟨⟨zTb_mem2 85 (by decide +kernel) rfl, zTb_mem2 66 (by decide +kernel) rfl, (by decide +kernel), (by decide)⟩, rfl, zTb_mem2 84 (by decide +kernel) rfl⟩
theorem mX0_init : zMi yX0_init cX0_init 2 0 := ⟨⟨zTb_mem2 91 (by decide +kernel) rfl, zTb_mem2 67 (by decide +kernel) rfl, (by decide +kernel), (by decide)⟩, rfl, zTb_mem2 90 (by decide +kernel) rfl⟩
theorem mX2_init : zMi yX2_init cX2_init 1 0 := ⟨⟨zTb_mem2 136 (by decide +kernel) rfl, zTb_mem2 68 (by decide +kernel) rfl, (by decide +kernel), (by decide)⟩, rfl, zTb_mem2 135 (by decide +kernel) rfl⟩
theorem mX3_sock : zMv yX3_sock cX3_sock 3 (some .int) 1 RX3 := ⟨⟨zTb_mem2 212 (by decide +kernel) rfl, zTb_mem2 65 (by decide +kernel) rfl, (by decide +kernel), (by decide)⟩, zTb_mem2 210 (by decide +kernel) rfl, zTb_mem2 211 (by decide +kernel) rfl⟩
theorem mX3_within : zMs yX3_within cX3_within 2 (some .boolean) 2 := ⟨⟨zTb_mem2 215 (by decide +kernel) rfl, zTb_mem2 65 (by decide +kernel) rfl, (by decide +kernel), (by decide)⟩, zTb_mem2 214 (by decide +kernel) rfl⟩
theorem mX3_refuse : zMv yX3_refuse cX3_refuse 2 (some .int) 1 RX3 := ⟨⟨zTb_mem2 219 (by decide +kernel) rfl, zTb_mem2 65 (by decide +kernel) rfl, (by decide +kernel), (by decide)⟩, zTb_mem2 218 (by decide +kernel) rfl, zTb_mem2 0 (by decide +kernel) rfl⟩
theorem mX0_darns : zMv yX0_darns cX0_darns 1 (some .int) 0 RX0 := ⟨⟨zTb_mem2 223 (by decide +kernel) rfl, zTb_mem2 67 (by decide +kernel) rfl, (by decide +kernel), (by decide)⟩, zTb_mem2 221 (by decide +kernel) rfl, zTb_mem2 222 (by decide +kernel) rfl⟩
theorem mX0_darnsOf : zMv yX0_darnsOf cX0_darnsOf 4 (some .int) 1 RX0 := ⟨⟨zTb_mem2 227 (by decide +kernel) rfl, zTb_mem2 67 (by decide +kernel) rfl, (by decide +kernel), (by decide)⟩, zTb_mem2 225 (by decide +kernel) rfl, zTb_mem2 226 (by decide +kernel) rfl⟩
theorem mX0_many : zMv yX0_many cX0_many 2 (some .int) 1 RX0 := ⟨⟨zTb_mem2 231 (by decide +kernel) rfl, zTb_mem2 67 (by decide +kernel) rfl, (by decide +kernel), (by decide)⟩, zTb_mem2 229 (by decide +kernel) rfl, zTb_mem2 230 (by decide +kernel) rfl⟩
theorem mX1_renew : zMv yX1_renew cX1_renew 2 none 1 RX1 := ⟨⟨zTb_mem2 235 (by decide +kernel) rfl, zTb_mem2 66 (by decide +kernel) rfl, (by decide +kernel), (by decide)⟩, zTb_mem2 233 (by decide +kernel) rfl, zTb_mem2 234 (by decide +kernel) rfl⟩
theorem mX0_renew : zMv yX0_renew cX0_renew 3 none 1 RX0 := ⟨⟨zTb_mem2 239 (by decide +kernel) rfl, zTb_mem2 67 (by decide +kernel) rfl, (by decide +kernel), (by decide)⟩, zTb_mem2 237 (by decide +kernel) rfl, zTb_mem2 238 (by decide +kernel) rfl⟩
theorem mX3_wear : zMv yX3_wear cX3_wear 4 (some .int) 2 RX3 := ⟨⟨zTb_mem2 243 (by decide +kernel) rfl, zTb_mem2 65 (by decide +kernel) rfl, (by decide +kernel), (by decide)⟩, zTb_mem2 241 (by decide +kernel) rfl, zTb_mem2 242 (by decide +kernel) rfl⟩
theorem mX3_wearsAsTold : zMs yX3_wearsAsTold cX3_wearsAsTold 2 (some .boolean) 2 := ⟨⟨zTb_mem2 246 (by decide +kernel) rfl, zTb_mem2 65 (by decide +kernel) rfl, (by decide +kernel), (by decide)⟩, zTb_mem2 245 (by decide +kernel) rfl⟩
theorem mX3_between : zMs yX3_between cX3_between 3 (some .boolean) 3 := ⟨⟨zTb_mem2 249 (by decide +kernel) rfl, zTb_mem2 65 (by decide +kernel) rfl, (by decide +kernel), (by decide)⟩, zTb_mem2 248 (by decide +kernel) rfl⟩
theorem mX3_darn : zMv yX3_darn cX3_darn 6 (some .int) 4 RX3 := ⟨⟨zTb_mem2 253 (by decide +kernel) rfl, zTb_mem2 65 (by decide +kernel) rfl, (by decide +kernel), (by decide)⟩, zTb_mem2 251 (by decide +kernel) rfl, zTb_mem2 252 (by decide +kernel) rfl⟩
theorem mX0_verdict : zMv yX0_verdict cX0_verdict 5 (some .int) 4 RX0 := ⟨⟨zTb_mem2 257 (by decide +kernel) rfl, zTb_mem2 67 (by decide +kernel) rfl, (by decide +kernel), (by decide)⟩, zTb_mem2 255 (by decide +kernel) rfl, zTb_mem2 256 (by decide +kernel) rfl⟩
theorem mX0_hasRoom : zMv yX0_hasRoom cX0_hasRoom 2 (some .boolean) 1 RX0 := ⟨⟨zTb_mem2 263 (by decide +kernel) rfl, zTb_mem2 67 (by decide +kernel) rfl, (by decide +kernel), (by decide)⟩, zTb_mem2 261 (by decide +kernel) rfl, zTb_mem2 262 (by decide +kernel) rfl⟩
theorem mX1_keep : zMv yX1_keep cX1_keep 1 none 0 RX1 := ⟨⟨zTb_mem2 267 (by decide +kernel) rfl, zTb_mem2 66 (by decide +kernel) rfl, (by decide +kernel), (by decide)⟩, zTb_mem2 265 (by decide +kernel) rfl, zTb_mem2 266 (by decide +kernel) rfl⟩
theorem mJ9_min_7cf53 : zMs yJ9_min_7cf53 cJ9_min_7cf53 2 (some .int) 2 := ⟨⟨zTb_mem2 273 (by decide +kernel) rfl, zTb_mem2 71 (by decide +kernel) rfl, (by decide +kernel), (by decide)⟩, zTb_mem2 272 (by decide +kernel) rfl⟩
theorem mX0_put : zMv yX0_put cX0_put 6 (some .int) 4 RX0 := ⟨⟨zTb_mem2 277 (by decide +kernel) rfl, zTb_mem2 67 (by decide +kernel) rfl, (by decide +kernel), (by decide)⟩, zTb_mem2 275 (by decide +kernel) rfl, zTb_mem2 276 (by decide +kernel) rfl⟩
theorem mX3_unpick : zMv yX3_unpick cX3_unpick 2 (some .int) 1 RX3 := ⟨⟨zTb_mem2 282 (by decide +kernel) rfl, zTb_mem2 65 (by decide +kernel) rfl, (by decide +kernel), (by decide)⟩, zTb_mem2 280 (by decide +kernel) rfl, zTb_mem2 281 (by decide +kernel) rfl⟩
theorem mX0_isHole : zMv yX0_isHole cX0_isHole 2 (some .boolean) 1 RX0 := ⟨⟨zTb_mem2 286 (by decide +kernel) rfl, zTb_mem2 67 (by decide +kernel) rfl, (by decide +kernel), (by decide)⟩, zTb_mem2 284 (by decide +kernel) rfl, zTb_mem2 285 (by decide +kernel) rfl⟩
theorem mX0_take : zMv yX0_take cX0_take 2 (some .int) 1 RX0 := ⟨⟨zTb_mem2 290 (by decide +kernel) rfl, zTb_mem2 67 (by decide +kernel) rfl, (by decide +kernel), (by decide)⟩, zTb_mem2 288 (by decide +kernel) rfl, zTb_mem2 289 (by decide +kernel) rfl⟩
theorem mX0_get : zMv yX0_get cX0_get 4 (some .int) 3 RX0 := ⟨⟨zTb_mem2 295 (by decide +kernel) rfl, zTb_mem2 67 (by decide +kernel) rfl, (by decide +kernel), (by decide)⟩, zTb_mem2 293 (by decide +kernel) rfl, zTb_mem2 294 (by decide +kernel) rfl⟩
theorem mX3_years : zMv yX3_years cX3_years 3 (some .int) 1 RX3 := ⟨⟨zTb_mem2 299 (by decide +kernel) rfl, zTb_mem2 65 (by decide +kernel) rfl, (by decide +kernel), (by decide)⟩, zTb_mem2 297 (by decide +kernel) rfl, zTb_mem2 298 (by decide +kernel) rfl⟩
theorem mX0_pass : zMv yX0_pass cX0_pass 2 none 0 RX0 := ⟨⟨zTb_mem2 303 (by decide +kernel) rfl, zTb_mem2 67 (by decide +kernel) rfl, (by decide +kernel), (by decide)⟩, zTb_mem2 301 (by decide +kernel) rfl, zTb_mem2 302 (by decide +kernel) rfl⟩
theorem mX0_wearTop : zMv yX0_wearTop cX0_wearTop 4 none 1 RX0 := ⟨⟨zTb_mem2 307 (by decide +kernel) rfl, zTb_mem2 67 (by decide +kernel) rfl, (by decide +kernel), (by decide)⟩, zTb_mem2 306 (by decide +kernel) rfl, zTb_mem2 1 (by decide +kernel) rfl⟩
theorem mX0_threadAt : zMv yX0_threadAt cX0_threadAt 3 (some .int) 2 RX0 := ⟨⟨zTb_mem2 311 (by decide +kernel) rfl, zTb_mem2 67 (by decide +kernel) rfl, (by decide +kernel), (by decide)⟩, zTb_mem2 309 (by decide +kernel) rfl, zTb_mem2 310 (by decide +kernel) rfl⟩
theorem mX3_loss : zMs yX3_loss cX3_loss 3 (some .int) 3 := ⟨⟨zTb_mem2 314 (by decide +kernel) rfl, zTb_mem2 65 (by decide +kernel) rfl, (by decide +kernel), (by decide)⟩, zTb_mem2 313 (by decide +kernel) rfl⟩
theorem mX0_holeBits : zMv yX0_holeBits cX0_holeBits 3 (some .int) 0 RX0 := ⟨⟨zTb_mem2 318 (by decide +kernel) rfl, zTb_mem2 67 (by decide +kernel) rfl, (by decide +kernel), (by decide)⟩, zTb_mem2 316 (by decide +kernel) rfl, zTb_mem2 317 (by decide +kernel) rfl⟩
theorem mJ6_bitCount_0f7a4 : zMs yJ6_bitCount_0f7a4 cJ6_bitCount_0f7a4 1 (some .int) 1 := ⟨⟨zTb_mem2 321 (by decide +kernel) rfl, zTb_mem2 72 (by decide +kernel) rfl, (by decide +kernel), (by decide)⟩, zTb_mem2 320 (by decide +kernel) rfl⟩
theorem mX3_undo : zMv yX3_undo cX3_undo 1 (some .int) 0 RX3 := ⟨⟨zTb_mem2 328 (by decide +kernel) rfl, zTb_mem2 65 (by decide +kernel) rfl, (by decide +kernel), (by decide)⟩, zTb_mem2 326 (by decide +kernel) rfl, zTb_mem2 327 (by decide +kernel) rfl⟩
theorem mX1_bringBack : zMv yX1_bringBack cX1_bringBack 1 none 0 RX1 := ⟨⟨zTb_mem2 332 (by decide +kernel) rfl, zTb_mem2 66 (by decide +kernel) rfl, (by decide +kernel), (by decide)⟩, zTb_mem2 330 (by decide +kernel) rfl, zTb_mem2 331 (by decide +kernel) rfl⟩
theorem mX3_type : zMv yX3_type cX3_type 2 (some .int) 1 RX3 := ⟨⟨zTb_mem2 336 (by decide +kernel) rfl, zTb_mem2 65 (by decide +kernel) rfl, (by decide +kernel), (by decide)⟩, zTb_mem2 334 (by decide +kernel) rfl, zTb_mem2 335 (by decide +kernel) rfl⟩
theorem mX3_clear : zMv yX3_clear cX3_clear 2 (some .int) 0 RX3 := ⟨⟨zTb_mem2 340 (by decide +kernel) rfl, zTb_mem2 65 (by decide +kernel) rfl, (by decide +kernel), (by decide)⟩, zTb_mem2 338 (by decide +kernel) rfl, zTb_mem2 339 (by decide +kernel) rfl⟩
theorem mX3_read : zMv yX3_read cX3_read 3 (some .int) 0 RX3 := ⟨⟨zTb_mem2 344 (by decide +kernel) rfl, zTb_mem2 65 (by decide +kernel) rfl, (by decide +kernel), (by decide)⟩, zTb_mem2 342 (by decide +kernel) rfl, zTb_mem2 343 (by decide +kernel) rfl⟩
theorem mX2_fault : zMv yX2_fault cX2_fault 2 (some .int) 0 RX2 := ⟨⟨zTb_mem2 348 (by decide +kernel) rfl, zTb_mem2 68 (by decide +kernel) rfl, (by decide +kernel), (by decide)⟩, zTb_mem2 346 (by decide +kernel) rfl, zTb_mem2 347 (by decide +kernel) rfl⟩
theorem mX2_step : zMv yX2_step cX2_step 1 none 0 RX2 := ⟨⟨zTb_mem2 352 (by decide +kernel) rfl, zTb_mem2 68 (by decide +kernel) rfl, (by decide +kernel), (by decide)⟩, zTb_mem2 351 (by decide +kernel) rfl, zTb_mem2 2 (by decide +kernel) rfl⟩
theorem mX2_isLetter : zMs yX2_isLetter cX2_isLetter 1 (some .boolean) 1 := ⟨⟨zTb_mem2 355 (by decide +kernel) rfl, zTb_mem2 68 (by decide +kernel) rfl, (by decide +kernel), (by decide)⟩, zTb_mem2 354 (by decide +kernel) rfl⟩
theorem mX2_takeWord : zMv yX2_takeWord cX2_takeWord 2 none 0 RX2 := ⟨⟨zTb_mem2 360 (by decide +kernel) rfl, zTb_mem2 68 (by decide +kernel) rfl, (by decide +kernel), (by decide)⟩, zTb_mem2 359 (by decide +kernel) rfl, zTb_mem2 3 (by decide +kernel) rfl⟩
theorem mX2_spells : zMv yX2_spells cX2_spells 3 (some .boolean) 1 RX2 := ⟨⟨zTb_mem2 364 (by decide +kernel) rfl, zTb_mem2 68 (by decide +kernel) rfl, (by decide +kernel), (by decide)⟩, zTb_mem2 363 (by decide +kernel) rfl, zTb_mem2 4 (by decide +kernel) rfl⟩
theorem mX2_isFigure : zMs yX2_isFigure cX2_isFigure 1 (some .boolean) 1 := ⟨⟨zTb_mem2 370 (by decide +kernel) rfl, zTb_mem2 68 (by decide +kernel) rfl, (by decide +kernel), (by decide)⟩, zTb_mem2 369 (by decide +kernel) rfl⟩
theorem mX2_takeNumber : zMv yX2_takeNumber cX2_takeNumber 1 none 0 RX2 := ⟨⟨zTb_mem2 374 (by decide +kernel) rfl, zTb_mem2 68 (by decide +kernel) rfl, (by decide +kernel), (by decide)⟩, zTb_mem2 373 (by decide +kernel) rfl, zTb_mem2 5 (by decide +kernel) rfl⟩
theorem mX2_takeItem : zMv yX2_takeItem cX2_takeItem 3 (some .boolean) 0 RX2 := ⟨⟨zTb_mem2 378 (by decide +kernel) rfl, zTb_mem2 68 (by decide +kernel) rfl, (by decide +kernel), (by decide)⟩, zTb_mem2 377 (by decide +kernel) rfl, zTb_mem2 6 (by decide +kernel) rfl⟩
theorem mX2_refusedOn : zMv yX2_refusedOn cX2_refusedOn 3 (some .int) 1 RX2 := ⟨⟨zTb_mem2 384 (by decide +kernel) rfl, zTb_mem2 68 (by decide +kernel) rfl, (by decide +kernel), (by decide)⟩, zTb_mem2 382 (by decide +kernel) rfl, zTb_mem2 383 (by decide +kernel) rfl⟩
theorem mX2_isToldTo : zMv yX2_isToldTo cX2_isToldTo 6 (some .boolean) 2 RX2 := ⟨⟨zTb_mem2 388 (by decide +kernel) rfl, zTb_mem2 68 (by decide +kernel) rfl, (by decide +kernel), (by decide)⟩, zTb_mem2 387 (by decide +kernel) rfl, zTb_mem2 7 (by decide +kernel) rfl⟩
theorem mX0_copy : zMv yX0_copy cX0_copy 2 none 1 RX0 := ⟨⟨zTb_mem2 396 (by decide +kernel) rfl, zTb_mem2 67 (by decide +kernel) rfl, (by decide +kernel), (by decide)⟩, zTb_mem2 394 (by decide +kernel) rfl, zTb_mem2 395 (by decide +kernel) rfl⟩
theorem mX3_of : zMv yX3_of cX3_of 4 (some .int) 3 RX3 := ⟨⟨zTb_mem2 401 (by decide +kernel) rfl, zTb_mem2 65 (by decide +kernel) rfl, (by decide +kernel), (by decide)⟩, zTb_mem2 399 (by decide +kernel) rfl, zTb_mem2 400 (by decide +kernel) rfl⟩
theorem mX0_counts : zMv yX0_counts cX0_counts 5 (some .int) 2 RX0 := ⟨⟨zTb_mem2 406 (by decide +kernel) rfl, zTb_mem2 67 (by decide +kernel) rfl, (by decide +kernel), (by decide)⟩, zTb_mem2 404 (by decide +kernel) rfl, zTb_mem2 405 (by decide +kernel) rfl⟩
theorem mX0_countsOver : zMv yX0_countsOver cX0_countsOver 5 (some .int) 3 RX0 := ⟨⟨zTb_mem2 410 (by decide +kernel) rfl, zTb_mem2 67 (by decide +kernel) rfl, (by decide +kernel), (by decide)⟩, zTb_mem2 409 (by decide +kernel) rfl, zTb_mem2 8 (by decide +kernel) rfl⟩
theorem mX0_year : zMv yX0_year cX0_year 1 (some .int) 0 RX0 := ⟨⟨zTb_mem2 415 (by decide +kernel) rfl, zTb_mem2 67 (by decide +kernel) rfl, (by decide +kernel), (by decide)⟩, zTb_mem2 413 (by decide +kernel) rfl, zTb_mem2 414 (by decide +kernel) rfl⟩
theorem mX3_cell : zMv yX3_cell cX3_cell 3 (some .int) 2 RX3 := ⟨⟨zTb_mem2 420 (by decide +kernel) rfl, zTb_mem2 65 (by decide +kernel) rfl, (by decide +kernel), (by decide)⟩, zTb_mem2 418 (by decide +kernel) rfl, zTb_mem2 419 (by decide +kernel) rfl⟩
theorem mX3_claims : zMv yX3_claims cX3_claims 3 (some .int) 2 RX3 := ⟨⟨zTb_mem2 424 (by decide +kernel) rfl, zTb_mem2 65 (by decide +kernel) rfl, (by decide +kernel), (by decide)⟩, zTb_mem2 422 (by decide +kernel) rfl, zTb_mem2 423 (by decide +kernel) rfl⟩
theorem mX0_claimOf : zMv yX0_claimOf cX0_claimOf 3 (some .int) 2 RX0 := ⟨⟨zTb_mem2 428 (by decide +kernel) rfl, zTb_mem2 67 (by decide +kernel) rfl, (by decide +kernel), (by decide)⟩, zTb_mem2 426 (by decide +kernel) rfl, zTb_mem2 427 (by decide +kernel) rfl⟩
theorem mX0_weigh : zMv yX0_weigh cX0_weigh 3 none 1 RX0 := ⟨⟨zTb_mem2 432 (by decide +kernel) rfl, zTb_mem2 67 (by decide +kernel) rfl, (by decide +kernel), (by decide)⟩, zTb_mem2 430 (by decide +kernel) rfl, zTb_mem2 431 (by decide +kernel) rfl⟩
theorem mX0_weighThread : zMv yX0_weighThread cX0_weighThread 4 none 0 RX0 := ⟨⟨zTb_mem2 436 (by decide +kernel) rfl, zTb_mem2 67 (by decide +kernel) rfl, (by decide +kernel), (by decide)⟩, zTb_mem2 435 (by decide +kernel) rfl, zTb_mem2 9 (by decide +kernel) rfl⟩
theorem mX0_addClaim : zMv yX0_addClaim cX0_addClaim 3 none 2 RX0 := ⟨⟨zTb_mem2 440 (by decide +kernel) rfl, zTb_mem2 67 (by decide +kernel) rfl, (by decide +kernel), (by decide)⟩, zTb_mem2 439 (by decide +kernel) rfl, zTb_mem2 10 (by decide +kernel) rfl⟩
theorem mX0_topFamily : zMv yX0_topFamily cX0_topFamily 3 (some .int) 1 RX0 := ⟨⟨zTb_mem2 444 (by decide +kernel) rfl, zTb_mem2 67 (by decide +kernel) rfl, (by decide +kernel), (by decide)⟩, zTb_mem2 443 (by decide +kernel) rfl, zTb_mem2 11 (by decide +kernel) rfl⟩
theorem mX0_lineFamily : zMv yX0_lineFamily cX0_lineFamily 5 (some .int) 1 RX0 := ⟨⟨zTb_mem2 448 (by decide +kernel) rfl, zTb_mem2 67 (by decide +kernel) rfl, (by decide +kernel), (by decide)⟩, zTb_mem2 447 (by decide +kernel) rfl, zTb_mem2 12 (by decide +kernel) rfl⟩
theorem mX0_weighAges : zMv yX0_weighAges cX0_weighAges 5 none 0 RX0 := ⟨⟨zTb_mem2 454 (by decide +kernel) rfl, zTb_mem2 67 (by decide +kernel) rfl, (by decide +kernel), (by decide)⟩, zTb_mem2 453 (by decide +kernel) rfl, zTb_mem2 13 (by decide +kernel) rfl⟩
theorem mJ9_max_7cf53 : zMs yJ9_max_7cf53 cJ9_max_7cf53 2 (some .int) 2 := ⟨⟨zTb_mem2 457 (by decide +kernel) rfl, zTb_mem2 71 (by decide +kernel) rfl, (by decide +kernel), (by decide)⟩, zTb_mem2 456 (by decide +kernel) rfl⟩
theorem mX3_owner : zMv yX3_owner cX3_owner 3 (some .int) 2 RX3 := ⟨⟨zTb_mem2 461 (by decide +kernel) rfl, zTb_mem2 65 (by decide +kernel) rfl, (by decide +kernel), (by decide)⟩, zTb_mem2 459 (by decide +kernel) rfl, zTb_mem2 460 (by decide +kernel) rfl⟩
theorem mX3_tryYears : zMv yX3_tryYears cX3_tryYears 3 none 1 RX3 := ⟨⟨zTb_mem2 465 (by decide +kernel) rfl, zTb_mem2 65 (by decide +kernel) rfl, (by decide +kernel), (by decide)⟩, zTb_mem2 464 (by decide +kernel) rfl, zTb_mem2 14 (by decide +kernel) rfl⟩
theorem mX0_ownerBy : zMv yX0_ownerBy cX0_ownerBy 5 (some .int) 1 RX0 := ⟨⟨zTb_mem2 469 (by decide +kernel) rfl, zTb_mem2 67 (by decide +kernel) rfl, (by decide +kernel), (by decide)⟩, zTb_mem2 467 (by decide +kernel) rfl, zTb_mem2 468 (by decide +kernel) rfl⟩
theorem mX3_laws : zMv yX3_laws cX3_laws 4 (some .int) 1 RX3 := ⟨⟨zTb_mem2 473 (by decide +kernel) rfl, zTb_mem2 65 (by decide +kernel) rfl, (by decide +kernel), (by decide)⟩, zTb_mem2 471 (by decide +kernel) rfl, zTb_mem2 472 (by decide +kernel) rfl⟩
theorem mX3_share : zMv yX3_share cX3_share 2 (some .int) 1 RX3 := ⟨⟨zTb_mem2 477 (by decide +kernel) rfl, zTb_mem2 65 (by decide +kernel) rfl, (by decide +kernel), (by decide)⟩, zTb_mem2 475 (by decide +kernel) rfl, zTb_mem2 476 (by decide +kernel) rfl⟩
theorem mX0_allClaims : zMv yX0_allClaims cX0_allClaims 4 (some .int) 1 RX0 := ⟨⟨zTb_mem2 481 (by decide +kernel) rfl, zTb_mem2 67 (by decide +kernel) rfl, (by decide +kernel), (by decide)⟩, zTb_mem2 479 (by decide +kernel) rfl, zTb_mem2 480 (by decide +kernel) rfl⟩
theorem mX3_setFraction : zMv yX3_setFraction cX3_setFraction 7 none 2 RX3 := ⟨⟨zTb_mem2 485 (by decide +kernel) rfl, zTb_mem2 65 (by decide +kernel) rfl, (by decide +kernel), (by decide)⟩, zTb_mem2 484 (by decide +kernel) rfl, zTb_mem2 15 (by decide +kernel) rfl⟩
theorem mX3_commonDivisor : zMs yX3_commonDivisor cX3_commonDivisor 7 (some .long) 2 := ⟨⟨zTb_mem2 488 (by decide +kernel) rfl, zTb_mem2 65 (by decide +kernel) rfl, (by decide +kernel), (by decide)⟩, zTb_mem2 487 (by decide +kernel) rfl⟩
theorem mX3_twos : zMv yX3_twos cX3_twos 3 (some .int) 1 RX3 := ⟨⟨zTb_mem2 492 (by decide +kernel) rfl, zTb_mem2 65 (by decide +kernel) rfl, (by decide +kernel), (by decide)⟩, zTb_mem2 490 (by decide +kernel) rfl, zTb_mem2 491 (by decide +kernel) rfl⟩
theorem mX0_isTwos : zMv yX0_isTwos cX0_isTwos 2 (some .boolean) 1 RX0 := ⟨⟨zTb_mem2 496 (by decide +kernel) rfl, zTb_mem2 67 (by decide +kernel) rfl, (by decide +kernel), (by decide)⟩, zTb_mem2 494 (by decide +kernel) rfl, zTb_mem2 495 (by decide +kernel) rfl⟩
theorem mX3_whole : zMv yX3_whole cX3_whole 1 (some .int) 0 RX3 := ⟨⟨zTb_mem2 502 (by decide +kernel) rfl, zTb_mem2 65 (by decide +kernel) rfl, (by decide +kernel), (by decide)⟩, zTb_mem2 500 (by decide +kernel) rfl, zTb_mem2 501 (by decide +kernel) rfl⟩
theorem mX3_findSpans : zMv yX3_findSpans cX3_findSpans 2 none 0 RX3 := ⟨⟨zTb_mem2 506 (by decide +kernel) rfl, zTb_mem2 65 (by decide +kernel) rfl, (by decide +kernel), (by decide)⟩, zTb_mem2 505 (by decide +kernel) rfl, zTb_mem2 16 (by decide +kernel) rfl⟩
theorem mX0_span : zMv yX0_span cX0_span 8 (some .int) 3 RX0 := ⟨⟨zTb_mem2 510 (by decide +kernel) rfl, zTb_mem2 67 (by decide +kernel) rfl, (by decide +kernel), (by decide)⟩, zTb_mem2 508 (by decide +kernel) rfl, zTb_mem2 509 (by decide +kernel) rfl⟩
theorem mX3_leastSpanBut : zMv yX3_leastSpanBut cX3_leastSpanBut 5 (some .int) 2 RX3 := ⟨⟨zTb_mem2 514 (by decide +kernel) rfl, zTb_mem2 65 (by decide +kernel) rfl, (by decide +kernel), (by decide)⟩, zTb_mem2 513 (by decide +kernel) rfl, zTb_mem2 17 (by decide +kernel) rfl⟩
theorem mX3_holes : zMv yX3_holes cX3_holes 2 (some .int) 1 RX3 := ⟨⟨zTb_mem2 519 (by decide +kernel) rfl, zTb_mem2 65 (by decide +kernel) rfl, (by decide +kernel), (by decide)⟩, zTb_mem2 517 (by decide +kernel) rfl, zTb_mem2 518 (by decide +kernel) rfl⟩
theorem mX3_best : zMv yX3_best cX3_best 8 (some .int) 3 RX3 := ⟨⟨zTb_mem2 523 (by decide +kernel) rfl, zTb_mem2 65 (by decide +kernel) rfl, (by decide +kernel), (by decide)⟩, zTb_mem2 521 (by decide +kernel) rfl, zTb_mem2 522 (by decide +kernel) rfl⟩
theorem mX3_split : zMv yX3_split cX3_split 12 (some .int) 3 RX3 := ⟨⟨zTb_mem2 528 (by decide +kernel) rfl, zTb_mem2 65 (by decide +kernel) rfl, (by decide +kernel), (by decide)⟩, zTb_mem2 526 (by decide +kernel) rfl, zTb_mem2 527 (by decide +kernel) rfl⟩
theorem mX3_findSplitSpans : zMv yX3_findSplitSpans cX3_findSplitSpans 5 none 2 RX3 := ⟨⟨zTb_mem2 532 (by decide +kernel) rfl, zTb_mem2 65 (by decide +kernel) rfl, (by decide +kernel), (by decide)⟩, zTb_mem2 531 (by decide +kernel) rfl, zTb_mem2 18 (by decide +kernel) rfl⟩
theorem mX3_bestSplit : zMv yX3_bestSplit cX3_bestSplit 7 (some .int) 4 RX3 := ⟨⟨zTb_mem2 536 (by decide +kernel) rfl, zTb_mem2 65 (by decide +kernel) rfl, (by decide +kernel), (by decide)⟩, zTb_mem2 535 (by decide +kernel) rfl, zTb_mem2 19 (by decide +kernel) rfl⟩
theorem mX3_splitSpan : zMv yX3_splitSpan cX3_splitSpan 7 (some .int) 5 RX3 := ⟨⟨zTb_mem2 540 (by decide +kernel) rfl, zTb_mem2 65 (by decide +kernel) rfl, (by decide +kernel), (by decide)⟩, zTb_mem2 539 (by decide +kernel) rfl, zTb_mem2 20 (by decide +kernel) rfl⟩
theorem mX3_reading : zMv yX3_reading cX3_reading 4 (some .int) 3 RX3 := ⟨⟨zTb_mem2 544 (by decide +kernel) rfl, zTb_mem2 65 (by decide +kernel) rfl, (by decide +kernel), (by decide)⟩, zTb_mem2 542 (by decide +kernel) rfl, zTb_mem2 543 (by decide +kernel) rfl⟩
theorem mX1_addReading : zMv yX1_addReading cX1_addReading 4 (some .int) 3 RX1 := ⟨⟨zTb_mem2 548 (by decide +kernel) rfl, zTb_mem2 66 (by decide +kernel) rfl, (by decide +kernel), (by decide)⟩, zTb_mem2 546 (by decide +kernel) rfl, zTb_mem2 547 (by decide +kernel) rfl⟩
theorem mX3_forget : zMv yX3_forget cX3_forget 2 (some .int) 0 RX3 := ⟨⟨zTb_mem2 552 (by decide +kernel) rfl, zTb_mem2 65 (by decide +kernel) rfl, (by decide +kernel), (by decide)⟩, zTb_mem2 550 (by decide +kernel) rfl, zTb_mem2 551 (by decide +kernel) rfl⟩
theorem mX3_may : zMv yX3_may cX3_may 2 (some .int) 1 RX3 := ⟨⟨zTb_mem2 556 (by decide +kernel) rfl, zTb_mem2 65 (by decide +kernel) rfl, (by decide +kernel), (by decide)⟩, zTb_mem2 554 (by decide +kernel) rfl, zTb_mem2 555 (by decide +kernel) rfl⟩
theorem mX1_possibleKinds : zMv yX1_possibleKinds cX1_possibleKinds 4 (some .int) 1 RX1 := ⟨⟨zTb_mem2 560 (by decide +kernel) rfl, zTb_mem2 66 (by decide +kernel) rfl, (by decide +kernel), (by decide)⟩, zTb_mem2 558 (by decide +kernel) rfl, zTb_mem2 559 (by decide +kernel) rfl⟩
theorem mX1_agrees : zMv yX1_agrees cX1_agrees 4 (some .boolean) 2 RX1 := ⟨⟨zTb_mem2 565 (by decide +kernel) rfl, zTb_mem2 66 (by decide +kernel) rfl, (by decide +kernel), (by decide)⟩, zTb_mem2 564 (by decide +kernel) rfl, zTb_mem2 21 (by decide +kernel) rfl⟩
theorem mX0_leftOf : zMv yX0_leftOf cX0_leftOf 6 (some .int) 3 RX0 := ⟨⟨zTb_mem2 569 (by decide +kernel) rfl, zTb_mem2 67 (by decide +kernel) rfl, (by decide +kernel), (by decide)⟩, zTb_mem2 567 (by decide +kernel) rfl, zTb_mem2 568 (by decide +kernel) rfl⟩
theorem mX3_look : zMv yX3_look cX3_look 7 (some .int) 1 RX3 := ⟨⟨zTb_mem2 573 (by decide +kernel) rfl, zTb_mem2 65 (by decide +kernel) rfl, (by decide +kernel), (by decide)⟩, zTb_mem2 571 (by decide +kernel) rfl, zTb_mem2 572 (by decide +kernel) rfl⟩
theorem mX3_mostAlike : zMv yX3_mostAlike cX3_mostAlike 8 (some .int) 3 RX3 := ⟨⟨zTb_mem2 577 (by decide +kernel) rfl, zTb_mem2 65 (by decide +kernel) rfl, (by decide +kernel), (by decide)⟩, zTb_mem2 576 (by decide +kernel) rfl, zTb_mem2 22 (by decide +kernel) rfl⟩
theorem mX3_orders : zMv yX3_orders cX3_orders 4 (some .int) 2 RX3 := ⟨⟨zTb_mem2 583 (by decide +kernel) rfl, zTb_mem2 65 (by decide +kernel) rfl, (by decide +kernel), (by decide)⟩, zTb_mem2 581 (by decide +kernel) rfl, zTb_mem2 582 (by decide +kernel) rfl⟩
theorem mX3_findFirstOrder : zMv yX3_findFirstOrder cX3_findFirstOrder 8 none 2 RX3 := ⟨⟨zTb_mem2 588 (by decide +kernel) rfl, zTb_mem2 65 (by decide +kernel) rfl, (by decide +kernel), (by decide)⟩, zTb_mem2 587 (by decide +kernel) rfl, zTb_mem2 23 (by decide +kernel) rfl⟩
theorem mX0_nextYear : zMv yX0_nextYear cX0_nextYear 7 (some .int) 2 RX0 := ⟨⟨zTb_mem2 592 (by decide +kernel) rfl, zTb_mem2 67 (by decide +kernel) rfl, (by decide +kernel), (by decide)⟩, zTb_mem2 590 (by decide +kernel) rfl, zTb_mem2 591 (by decide +kernel) rfl⟩
theorem mX3_waysToOrder : zMv yX3_waysToOrder cX3_waysToOrder 8 (some .int) 1 RX3 := ⟨⟨zTb_mem2 596 (by decide +kernel) rfl, zTb_mem2 65 (by decide +kernel) rfl, (by decide +kernel), (by decide)⟩, zTb_mem2 595 (by decide +kernel) rfl, zTb_mem2 24 (by decide +kernel) rfl⟩
theorem mX3_yearOrdered : zMv yX3_yearOrdered cX3_yearOrdered 2 (some .int) 1 RX3 := ⟨⟨zTb_mem2 600 (by decide +kernel) rfl, zTb_mem2 65 (by decide +kernel) rfl, (by decide +kernel), (by decide)⟩, zTb_mem2 599 (by decide +kernel) rfl, zTb_mem2 25 (by decide +kernel) rfl⟩
theorem mX3_odds : zMv yX3_odds cX3_odds 7 (some .int) 3 RX3 := ⟨⟨zTb_mem2 604 (by decide +kernel) rfl, zTb_mem2 65 (by decide +kernel) rfl, (by decide +kernel), (by decide)⟩, zTb_mem2 602 (by decide +kernel) rfl, zTb_mem2 603 (by decide +kernel) rfl⟩
theorem mX0_holeWays : zMv yX0_holeWays cX0_holeWays 12 (some .long) 6 RX0 := ⟨⟨zTb_mem2 609 (by decide +kernel) rfl, zTb_mem2 67 (by decide +kernel) rfl, (by decide +kernel), (by decide)⟩, zTb_mem2 607 (by decide +kernel) rfl, zTb_mem2 608 (by decide +kernel) rfl⟩
theorem mX3_powerOfTen : zMs yX3_powerOfTen cX3_powerOfTen 4 (some .long) 1 := ⟨⟨zTb_mem2 612 (by decide +kernel) rfl, zTb_mem2 65 (by decide +kernel) rfl, (by decide +kernel), (by decide)⟩, zTb_mem2 611 (by decide +kernel) rfl⟩
theorem mX3_drawn : zMv yX3_drawn cX3_drawn 7 (some .int) 2 RX3 := ⟨⟨zTb_mem2 619 (by decide +kernel) rfl, zTb_mem2 65 (by decide +kernel) rfl, (by decide +kernel), (by decide)⟩, zTb_mem2 617 (by decide +kernel) rfl, zTb_mem2 618 (by decide +kernel) rfl⟩
theorem mX3_part : zMv yX3_part cX3_part 2 (some .long) 1 RX3 := ⟨⟨zTb_mem2 629 (by decide +kernel) rfl, zTb_mem2 65 (by decide +kernel) rfl, (by decide +kernel), (by decide)⟩, zTb_mem2 627 (by decide +kernel) rfl, zTb_mem2 628 (by decide +kernel) rfl⟩
theorem mX3_image : zMv yX3_image cX3_image 3 (some .int) 1 RX3 := ⟨⟨zTb_mem2 633 (by decide +kernel) rfl, zTb_mem2 65 (by decide +kernel) rfl, (by decide +kernel), (by decide)⟩, zTb_mem2 631 (by decide +kernel) rfl, zTb_mem2 632 (by decide +kernel) rfl⟩
theorem mX1_copy : zMv yX1_copy cX1_copy 2 none 1 RX1 := ⟨⟨zTb_mem2 637 (by decide +kernel) rfl, zTb_mem2 66 (by decide +kernel) rfl, (by decide +kernel), (by decide)⟩, zTb_mem2 635 (by decide +kernel) rfl, zTb_mem2 636 (by decide +kernel) rfl⟩
theorem mX3_from : zMv yX3_from cX3_from 3 (some .int) 1 RX3 := ⟨⟨zTb_mem2 642 (by decide +kernel) rfl, zTb_mem2 65 (by decide +kernel) rfl, (by decide +kernel), (by decide)⟩, zTb_mem2 640 (by decide +kernel) rfl, zTb_mem2 641 (by decide +kernel) rfl⟩
theorem mX3_status : zMv yX3_status cX3_status 2 (some .int) 1 RX3 := ⟨⟨zTb_mem2 646 (by decide +kernel) rfl, zTb_mem2 65 (by decide +kernel) rfl, (by decide +kernel), (by decide)⟩, zTb_mem2 644 (by decide +kernel) rfl, zTb_mem2 645 (by decide +kernel) rfl⟩
theorem mX3_count : zMv yX3_count cX3_count 2 (some .int) 1 RX3 := ⟨⟨zTb_mem2 650 (by decide +kernel) rfl, zTb_mem2 65 (by decide +kernel) rfl, (by decide +kernel), (by decide)⟩, zTb_mem2 648 (by decide +kernel) rfl, zTb_mem2 649 (by decide +kernel) rfl⟩
theorem mX3_howMany : zMv yX3_howMany cX3_howMany 2 (some .int) 1 RX3 := ⟨⟨zTb_mem2 654 (by decide +kernel) rfl, zTb_mem2 65 (by decide +kernel) rfl, (by decide +kernel), (by decide)⟩, zTb_mem2 653 (by decide +kernel) rfl, zTb_mem2 26 (by decide +kernel) rfl⟩
theorem mX3_digest : zMv yX3_digest cX3_digest 4 (some .long) 0 RX3 := ⟨⟨zTb_mem2 658 (by decide +kernel) rfl, zTb_mem2 65 (by decide +kernel) rfl, (by decide +kernel), (by decide)⟩, zTb_mem2 656 (by decide +kernel) rfl, zTb_mem2 657 (by decide +kernel) rfl⟩
theorem mX0_digested : zMv yX0_digested cX0_digested 6 (some .long) 1 RX0 := ⟨⟨zTb_mem2 664 (by decide +kernel) rfl, zTb_mem2 67 (by decide +kernel) rfl, (by decide +kernel), (by decide)⟩, zTb_mem2 662 (by decide +kernel) rfl, zTb_mem2 663 (by decide +kernel) rfl⟩
theorem mX1_digestedReadings : zMv yX1_digestedReadings cX1_digestedReadings 4 (some .long) 1 RX1 := ⟨⟨zTb_mem2 669 (by decide +kernel) rfl, zTb_mem2 66 (by decide +kernel) rfl, (by decide +kernel), (by decide)⟩, zTb_mem2 667 (by decide +kernel) rfl, zTb_mem2 668 (by decide +kernel) rfl⟩
theorem mX4_init : zMi yX4_init cX4_init 1 0 := ⟨⟨zTb_mem2 675 (by decide +kernel) rfl, zTb_mem2 69 (by decide +kernel) rfl, (by decide +kernel), (by decide)⟩, rfl, zTb_mem2 674 (by decide +kernel) rfl⟩
theorem mX4_begins : zMv yX4_begins cX4_begins 4 none 2 RX4 := ⟨⟨zTb_mem2 680 (by decide +kernel) rfl, zTb_mem2 69 (by decide +kernel) rfl, (by decide +kernel), (by decide)⟩, zTb_mem2 679 (by decide +kernel) rfl, zTb_mem2 27 (by decide +kernel) rfl⟩
theorem mX4_sock : zMv yX4_sock cX4_sock 3 (some .int) 1 RX4 := ⟨⟨zTb_mem2 740 (by decide +kernel) rfl, zTb_mem2 69 (by decide +kernel) rfl, (by decide +kernel), (by decide)⟩, zTb_mem2 738 (by decide +kernel) rfl, zTb_mem2 739 (by decide +kernel) rfl⟩
theorem mX4_in : zMs yX4_in cX4_in 6 (some .boolean) 3 := ⟨⟨zTb_mem2 744 (by decide +kernel) rfl, zTb_mem2 69 (by decide +kernel) rfl, (by decide +kernel), (by decide)⟩, zTb_mem2 743 (by decide +kernel) rfl⟩
theorem mX4_bad : zMv yX4_bad cX4_bad 1 (some .int) 0 RX4 := ⟨⟨zTb_mem2 748 (by decide +kernel) rfl, zTb_mem2 69 (by decide +kernel) rfl, (by decide +kernel), (by decide)⟩, zTb_mem2 747 (by decide +kernel) rfl, zTb_mem2 28 (by decide +kernel) rfl⟩
theorem mX4_darnsIn : zMv yX4_darnsIn cX4_darnsIn 4 (some .int) 1 RX4 := ⟨⟨zTb_mem2 752 (by decide +kernel) rfl, zTb_mem2 69 (by decide +kernel) rfl, (by decide +kernel), (by decide)⟩, zTb_mem2 751 (by decide +kernel) rfl, zTb_mem2 29 (by decide +kernel) rfl⟩
theorem mX4_wear : zMv yX4_wear cX4_wear 4 (some .int) 2 RX4 := ⟨⟨zTb_mem2 756 (by decide +kernel) rfl, zTb_mem2 69 (by decide +kernel) rfl, (by decide +kernel), (by decide)⟩, zTb_mem2 754 (by decide +kernel) rfl, zTb_mem2 755 (by decide +kernel) rfl⟩
theorem mX4_isCell : zMs yX4_isCell cX4_isCell 1 (some .boolean) 1 := ⟨⟨zTb_mem2 759 (by decide +kernel) rfl, zTb_mem2 69 (by decide +kernel) rfl, (by decide +kernel), (by decide)⟩, zTb_mem2 758 (by decide +kernel) rfl⟩
theorem mX4_darn : zMv yX4_darn cX4_darn 5 (some .int) 4 RX4 := ⟨⟨zTb_mem2 765 (by decide +kernel) rfl, zTb_mem2 69 (by decide +kernel) rfl, (by decide +kernel), (by decide)⟩, zTb_mem2 763 (by decide +kernel) rfl, zTb_mem2 764 (by decide +kernel) rfl⟩
theorem mX4_isDarn : zMs yX4_isDarn cX4_isDarn 4 (some .boolean) 4 := ⟨⟨zTb_mem2 768 (by decide +kernel) rfl, zTb_mem2 69 (by decide +kernel) rfl, (by decide +kernel), (by decide)⟩, zTb_mem2 767 (by decide +kernel) rfl⟩
theorem mX4_full : zMv yX4_full cX4_full 1 (some .int) 0 RX4 := ⟨⟨zTb_mem2 774 (by decide +kernel) rfl, zTb_mem2 69 (by decide +kernel) rfl, (by decide +kernel), (by decide)⟩, zTb_mem2 773 (by decide +kernel) rfl, zTb_mem2 30 (by decide +kernel) rfl⟩
theorem mX4_minds : zMv yX4_minds cX4_minds 1 none 0 RX4 := ⟨⟨zTb_mem2 778 (by decide +kernel) rfl, zTb_mem2 69 (by decide +kernel) rfl, (by decide +kernel), (by decide)⟩, zTb_mem2 777 (by decide +kernel) rfl, zTb_mem2 31 (by decide +kernel) rfl⟩
theorem mX4_copy : zMv yX4_copy cX4_copy 5 none 3 RX4 := ⟨⟨zTb_mem2 782 (by decide +kernel) rfl, zTb_mem2 69 (by decide +kernel) rfl, (by decide +kernel), (by decide)⟩, zTb_mem2 781 (by decide +kernel) rfl, zTb_mem2 32 (by decide +kernel) rfl⟩
theorem mX4_puts : zMv yX4_puts cX4_puts 7 none 5 RX4 := ⟨⟨zTb_mem2 786 (by decide +kernel) rfl, zTb_mem2 69 (by decide +kernel) rfl, (by decide +kernel), (by decide)⟩, zTb_mem2 785 (by decide +kernel) rfl, zTb_mem2 33 (by decide +kernel) rfl⟩
theorem mX4_placeOf : zMs yX4_placeOf cX4_placeOf 2 (some .int) 2 := ⟨⟨zTb_mem2 789 (by decide +kernel) rfl, zTb_mem2 69 (by decide +kernel) rfl, (by decide +kernel), (by decide)⟩, zTb_mem2 788 (by decide +kernel) rfl⟩
theorem mX4_unpick : zMv yX4_unpick cX4_unpick 3 (some .int) 1 RX4 := ⟨⟨zTb_mem2 793 (by decide +kernel) rfl, zTb_mem2 69 (by decide +kernel) rfl, (by decide +kernel), (by decide)⟩, zTb_mem2 791 (by decide +kernel) rfl, zTb_mem2 792 (by decide +kernel) rfl⟩
theorem mX4_no : zMv yX4_no cX4_no 1 (some .int) 0 RX4 := ⟨⟨zTb_mem2 797 (by decide +kernel) rfl, zTb_mem2 69 (by decide +kernel) rfl, (by decide +kernel), (by decide)⟩, zTb_mem2 796 (by decide +kernel) rfl, zTb_mem2 34 (by decide +kernel) rfl⟩
theorem mX4_topOf : zMv yX4_topOf cX4_topOf 4 (some .int) 2 RX4 := ⟨⟨zTb_mem2 801 (by decide +kernel) rfl, zTb_mem2 69 (by decide +kernel) rfl, (by decide +kernel), (by decide)⟩, zTb_mem2 800 (by decide +kernel) rfl, zTb_mem2 35 (by decide +kernel) rfl⟩
theorem mX4_years : zMv yX4_years cX4_years 3 (some .int) 1 RX4 := ⟨⟨zTb_mem2 805 (by decide +kernel) rfl, zTb_mem2 69 (by decide +kernel) rfl, (by decide +kernel), (by decide)⟩, zTb_mem2 803 (by decide +kernel) rfl, zTb_mem2 804 (by decide +kernel) rfl⟩
theorem mX4_passes : zMv yX4_passes cX4_passes 5 none 2 RX4 := ⟨⟨zTb_mem2 810 (by decide +kernel) rfl, zTb_mem2 69 (by decide +kernel) rfl, (by decide +kernel), (by decide)⟩, zTb_mem2 809 (by decide +kernel) rfl, zTb_mem2 36 (by decide +kernel) rfl⟩
theorem mX4_loses : zMs yX4_loses cX4_loses 3 (some .int) 3 := ⟨⟨zTb_mem2 813 (by decide +kernel) rfl, zTb_mem2 69 (by decide +kernel) rfl, (by decide +kernel), (by decide)⟩, zTb_mem2 812 (by decide +kernel) rfl⟩
theorem mX4_holesIn : zMv yX4_holesIn cX4_holesIn 4 (some .int) 1 RX4 := ⟨⟨zTb_mem2 817 (by decide +kernel) rfl, zTb_mem2 69 (by decide +kernel) rfl, (by decide +kernel), (by decide)⟩, zTb_mem2 816 (by decide +kernel) rfl, zTb_mem2 37 (by decide +kernel) rfl⟩
theorem mX4_ones : zMs yX4_ones cX4_ones 3 (some .int) 1 := ⟨⟨zTb_mem2 820 (by decide +kernel) rfl, zTb_mem2 69 (by decide +kernel) rfl, (by decide +kernel), (by decide)⟩, zTb_mem2 819 (by decide +kernel) rfl⟩
theorem mX4_undo : zMv yX4_undo cX4_undo 1 (some .int) 0 RX4 := ⟨⟨zTb_mem2 824 (by decide +kernel) rfl, zTb_mem2 69 (by decide +kernel) rfl, (by decide +kernel), (by decide)⟩, zTb_mem2 822 (by decide +kernel) rfl, zTb_mem2 823 (by decide +kernel) rfl⟩
theorem mX4_type : zMv yX4_type cX4_type 2 (some .int) 1 RX4 := ⟨⟨zTb_mem2 828 (by decide +kernel) rfl, zTb_mem2 69 (by decide +kernel) rfl, (by decide +kernel), (by decide)⟩, zTb_mem2 826 (by decide +kernel) rfl, zTb_mem2 827 (by decide +kernel) rfl⟩
theorem mX4_clear : zMv yX4_clear cX4_clear 2 (some .int) 0 RX4 := ⟨⟨zTb_mem2 833 (by decide +kernel) rfl, zTb_mem2 69 (by decide +kernel) rfl, (by decide +kernel), (by decide)⟩, zTb_mem2 831 (by decide +kernel) rfl, zTb_mem2 832 (by decide +kernel) rfl⟩
theorem mX4_read : zMv yX4_read cX4_read 2 (some .int) 0 RX4 := ⟨⟨zTb_mem2 837 (by decide +kernel) rfl, zTb_mem2 69 (by decide +kernel) rfl, (by decide +kernel), (by decide)⟩, zTb_mem2 835 (by decide +kernel) rfl, zTb_mem2 836 (by decide +kernel) rfl⟩
theorem mX4_token : zMv yX4_token cX4_token 1 none 0 RX4 := ⟨⟨zTb_mem2 841 (by decide +kernel) rfl, zTb_mem2 69 (by decide +kernel) rfl, (by decide +kernel), (by decide)⟩, zTb_mem2 840 (by decide +kernel) rfl, zTb_mem2 38 (by decide +kernel) rfl⟩
theorem mX4_byteAt : zMv yX4_byteAt cX4_byteAt 2 (some .int) 1 RX4 := ⟨⟨zTb_mem2 845 (by decide +kernel) rfl, zTb_mem2 69 (by decide +kernel) rfl, (by decide +kernel), (by decide)⟩, zTb_mem2 844 (by decide +kernel) rfl, zTb_mem2 39 (by decide +kernel) rfl⟩
theorem mX4_takesItem : zMv yX4_takesItem cX4_takesItem 5 (some .boolean) 1 RX4 := ⟨⟨zTb_mem2 853 (by decide +kernel) rfl, zTb_mem2 69 (by decide +kernel) rfl, (by decide +kernel), (by decide)⟩, zTb_mem2 852 (by decide +kernel) rfl, zTb_mem2 40 (by decide +kernel) rfl⟩
theorem mX4_wordNow : zMv yX4_wordNow cX4_wordNow 1 (some .int) 0 RX4 := ⟨⟨zTb_mem2 857 (by decide +kernel) rfl, zTb_mem2 69 (by decide +kernel) rfl, (by decide +kernel), (by decide)⟩, zTb_mem2 856 (by decide +kernel) rfl, zTb_mem2 41 (by decide +kernel) rfl⟩
theorem mX4_isNamed : zMv yX4_isNamed cX4_isNamed 5 (some .boolean) 4 RX4 := ⟨⟨zTb_mem2 861 (by decide +kernel) rfl, zTb_mem2 69 (by decide +kernel) rfl, (by decide +kernel), (by decide)⟩, zTb_mem2 860 (by decide +kernel) rfl, zTb_mem2 42 (by decide +kernel) rfl⟩
theorem mX4_takesNumber : zMv yX4_takesNumber cX4_takesNumber 3 (some .boolean) 1 RX4 := ⟨⟨zTb_mem2 865 (by decide +kernel) rfl, zTb_mem2 69 (by decide +kernel) rfl, (by decide +kernel), (by decide)⟩, zTb_mem2 864 (by decide +kernel) rfl, zTb_mem2 43 (by decide +kernel) rfl⟩
theorem mX4_tellsItem : zMv yX4_tellsItem cX4_tellsItem 3 (some .boolean) 1 RX4 := ⟨⟨zTb_mem2 869 (by decide +kernel) rfl, zTb_mem2 69 (by decide +kernel) rfl, (by decide +kernel), (by decide)⟩, zTb_mem2 868 (by decide +kernel) rfl, zTb_mem2 44 (by decide +kernel) rfl⟩
theorem mX4_of : zMv yX4_of cX4_of 5 (some .int) 3 RX4 := ⟨⟨zTb_mem2 873 (by decide +kernel) rfl, zTb_mem2 69 (by decide +kernel) rfl, (by decide +kernel), (by decide)⟩, zTb_mem2 871 (by decide +kernel) rfl, zTb_mem2 872 (by decide +kernel) rfl⟩
theorem mX4_countsOf : zMv yX4_countsOf cX4_countsOf 8 (some .int) 3 RX4 := ⟨⟨zTb_mem2 877 (by decide +kernel) rfl, zTb_mem2 69 (by decide +kernel) rfl, (by decide +kernel), (by decide)⟩, zTb_mem2 876 (by decide +kernel) rfl, zTb_mem2 45 (by decide +kernel) rfl⟩
theorem mX4_cell : zMv yX4_cell cX4_cell 3 (some .int) 2 RX4 := ⟨⟨zTb_mem2 881 (by decide +kernel) rfl, zTb_mem2 69 (by decide +kernel) rfl, (by decide +kernel), (by decide)⟩, zTb_mem2 879 (by decide +kernel) rfl, zTb_mem2 880 (by decide +kernel) rfl⟩
theorem mX4_claims : zMv yX4_claims cX4_claims 3 (some .int) 2 RX4 := ⟨⟨zTb_mem2 885 (by decide +kernel) rfl, zTb_mem2 69 (by decide +kernel) rfl, (by decide +kernel), (by decide)⟩, zTb_mem2 883 (by decide +kernel) rfl, zTb_mem2 884 (by decide +kernel) rfl⟩
theorem mX4_isFamily : zMs yX4_isFamily cX4_isFamily 1 (some .boolean) 1 := ⟨⟨zTb_mem2 888 (by decide +kernel) rfl, zTb_mem2 69 (by decide +kernel) rfl, (by decide +kernel), (by decide)⟩, zTb_mem2 887 (by decide +kernel) rfl⟩
theorem mX4_isLaw : zMs yX4_isLaw cX4_isLaw 1 (some .boolean) 1 := ⟨⟨zTb_mem2 891 (by decide +kernel) rfl, zTb_mem2 69 (by decide +kernel) rfl, (by decide +kernel), (by decide)⟩, zTb_mem2 890 (by decide +kernel) rfl⟩
theorem mX4_claimsIn : zMv yX4_claimsIn cX4_claimsIn 10 (some .int) 3 RX4 := ⟨⟨zTb_mem2 896 (by decide +kernel) rfl, zTb_mem2 69 (by decide +kernel) rfl, (by decide +kernel), (by decide)⟩, zTb_mem2 895 (by decide +kernel) rfl, zTb_mem2 46 (by decide +kernel) rfl⟩
theorem mX4_linesOf : zMv yX4_linesOf cX4_linesOf 6 (some .int) 2 RX4 := ⟨⟨zTb_mem2 900 (by decide +kernel) rfl, zTb_mem2 69 (by decide +kernel) rfl, (by decide +kernel), (by decide)⟩, zTb_mem2 899 (by decide +kernel) rfl, zTb_mem2 47 (by decide +kernel) rfl⟩
theorem mX4_familyAt : zMv yX4_familyAt cX4_familyAt 4 (some .int) 2 RX4 := ⟨⟨zTb_mem2 904 (by decide +kernel) rfl, zTb_mem2 69 (by decide +kernel) rfl, (by decide +kernel), (by decide)⟩, zTb_mem2 903 (by decide +kernel) rfl, zTb_mem2 48 (by decide +kernel) rfl⟩
theorem mX4_owner : zMv yX4_owner cX4_owner 3 (some .int) 2 RX4 := ⟨⟨zTb_mem2 908 (by decide +kernel) rfl, zTb_mem2 69 (by decide +kernel) rfl, (by decide +kernel), (by decide)⟩, zTb_mem2 906 (by decide +kernel) rfl, zTb_mem2 907 (by decide +kernel) rfl⟩
theorem mX4_passesMany : zMv yX4_passesMany cX4_passesMany 3 none 1 RX4 := ⟨⟨zTb_mem2 913 (by decide +kernel) rfl, zTb_mem2 69 (by decide +kernel) rfl, (by decide +kernel), (by decide)⟩, zTb_mem2 912 (by decide +kernel) rfl, zTb_mem2 49 (by decide +kernel) rfl⟩
theorem mX4_tries : zMv yX4_tries cX4_tries 1 none 0 RX4 := ⟨⟨zTb_mem2 917 (by decide +kernel) rfl, zTb_mem2 69 (by decide +kernel) rfl, (by decide +kernel), (by decide)⟩, zTb_mem2 916 (by decide +kernel) rfl, zTb_mem2 50 (by decide +kernel) rfl⟩
theorem mX4_ownerIn : zMv yX4_ownerIn cX4_ownerIn 8 (some .int) 2 RX4 := ⟨⟨zTb_mem2 921 (by decide +kernel) rfl, zTb_mem2 69 (by decide +kernel) rfl, (by decide +kernel), (by decide)⟩, zTb_mem2 920 (by decide +kernel) rfl, zTb_mem2 51 (by decide +kernel) rfl⟩
theorem mX4_laws : zMv yX4_laws cX4_laws 4 (some .int) 1 RX4 := ⟨⟨zTb_mem2 925 (by decide +kernel) rfl, zTb_mem2 69 (by decide +kernel) rfl, (by decide +kernel), (by decide)⟩, zTb_mem2 923 (by decide +kernel) rfl, zTb_mem2 924 (by decide +kernel) rfl⟩
theorem mX4_share : zMv yX4_share cX4_share 3 (some .int) 1 RX4 := ⟨⟨zTb_mem2 929 (by decide +kernel) rfl, zTb_mem2 69 (by decide +kernel) rfl, (by decide +kernel), (by decide)⟩, zTb_mem2 927 (by decide +kernel) rfl, zTb_mem2 928 (by decide +kernel) rfl⟩
theorem mX4_allClaims : zMv yX4_allClaims cX4_allClaims 3 (some .int) 2 RX4 := ⟨⟨zTb_mem2 933 (by decide +kernel) rfl, zTb_mem2 69 (by decide +kernel) rfl, (by decide +kernel), (by decide)⟩, zTb_mem2 932 (by decide +kernel) rfl, zTb_mem2 52 (by decide +kernel) rfl⟩
theorem mX4_tells : zMv yX4_tells cX4_tells 11 (some .int) 2 RX4 := ⟨⟨zTb_mem2 937 (by decide +kernel) rfl, zTb_mem2 69 (by decide +kernel) rfl, (by decide +kernel), (by decide)⟩, zTb_mem2 936 (by decide +kernel) rfl, zTb_mem2 53 (by decide +kernel) rfl⟩
theorem mX4_twos : zMv yX4_twos cX4_twos 3 (some .int) 1 RX4 := ⟨⟨zTb_mem2 941 (by decide +kernel) rfl, zTb_mem2 69 (by decide +kernel) rfl, (by decide +kernel), (by decide)⟩, zTb_mem2 939 (by decide +kernel) rfl, zTb_mem2 940 (by decide +kernel) rfl⟩
theorem mX4_whole : zMv yX4_whole cX4_whole 1 (some .int) 0 RX4 := ⟨⟨zTb_mem2 945 (by decide +kernel) rfl, zTb_mem2 69 (by decide +kernel) rfl, (by decide +kernel), (by decide)⟩, zTb_mem2 943 (by decide +kernel) rfl, zTb_mem2 944 (by decide +kernel) rfl⟩
theorem mX4_wholeTried : zMv yX4_wholeTried cX4_wholeTried 4 (some .int) 0 RX4 := ⟨⟨zTb_mem2 949 (by decide +kernel) rfl, zTb_mem2 69 (by decide +kernel) rfl, (by decide +kernel), (by decide)⟩, zTb_mem2 948 (by decide +kernel) rfl, zTb_mem2 54 (by decide +kernel) rfl⟩
theorem mX4_lastsOf : zMv yX4_lastsOf cX4_lastsOf 5 (some .int) 1 RX4 := ⟨⟨zTb_mem2 953 (by decide +kernel) rfl, zTb_mem2 69 (by decide +kernel) rfl, (by decide +kernel), (by decide)⟩, zTb_mem2 952 (by decide +kernel) rfl, zTb_mem2 55 (by decide +kernel) rfl⟩
theorem mX4_holes : zMv yX4_holes cX4_holes 2 (some .int) 1 RX4 := ⟨⟨zTb_mem2 957 (by decide +kernel) rfl, zTb_mem2 69 (by decide +kernel) rfl, (by decide +kernel), (by decide)⟩, zTb_mem2 955 (by decide +kernel) rfl, zTb_mem2 956 (by decide +kernel) rfl⟩
theorem mX4_best : zMv yX4_best cX4_best 8 (some .int) 3 RX4 := ⟨⟨zTb_mem2 961 (by decide +kernel) rfl, zTb_mem2 69 (by decide +kernel) rfl, (by decide +kernel), (by decide)⟩, zTb_mem2 959 (by decide +kernel) rfl, zTb_mem2 960 (by decide +kernel) rfl⟩
theorem mX4_isThread : zMs yX4_isThread cX4_isThread 4 (some .boolean) 4 := ⟨⟨zTb_mem2 964 (by decide +kernel) rfl, zTb_mem2 69 (by decide +kernel) rfl, (by decide +kernel), (by decide)⟩, zTb_mem2 963 (by decide +kernel) rfl⟩
theorem mX4_split : zMv yX4_split cX4_split 14 (some .int) 3 RX4 := ⟨⟨zTb_mem2 968 (by decide +kernel) rfl, zTb_mem2 69 (by decide +kernel) rfl, (by decide +kernel), (by decide)⟩, zTb_mem2 966 (by decide +kernel) rfl, zTb_mem2 967 (by decide +kernel) rfl⟩
theorem mX4_layLasting : zMv yX4_layLasting cX4_layLasting 5 none 2 RX4 := ⟨⟨zTb_mem2 972 (by decide +kernel) rfl, zTb_mem2 69 (by decide +kernel) rfl, (by decide +kernel), (by decide)⟩, zTb_mem2 971 (by decide +kernel) rfl, zTb_mem2 56 (by decide +kernel) rfl⟩
theorem mX4_reading : zMv yX4_reading cX4_reading 5 (some .int) 3 RX4 := ⟨⟨zTb_mem2 976 (by decide +kernel) rfl, zTb_mem2 69 (by decide +kernel) rfl, (by decide +kernel), (by decide)⟩, zTb_mem2 974 (by decide +kernel) rfl, zTb_mem2 975 (by decide +kernel) rfl⟩
theorem mX4_forget : zMv yX4_forget cX4_forget 2 (some .int) 0 RX4 := ⟨⟨zTb_mem2 980 (by decide +kernel) rfl, zTb_mem2 69 (by decide +kernel) rfl, (by decide +kernel), (by decide)⟩, zTb_mem2 978 (by decide +kernel) rfl, zTb_mem2 979 (by decide +kernel) rfl⟩
theorem mX4_may : zMv yX4_may cX4_may 2 (some .int) 1 RX4 := ⟨⟨zTb_mem2 984 (by decide +kernel) rfl, zTb_mem2 69 (by decide +kernel) rfl, (by decide +kernel), (by decide)⟩, zTb_mem2 982 (by decide +kernel) rfl, zTb_mem2 983 (by decide +kernel) rfl⟩
theorem mX4_kindsOf : zMv yX4_kindsOf cX4_kindsOf 7 (some .int) 1 RX4 := ⟨⟨zTb_mem2 988 (by decide +kernel) rfl, zTb_mem2 69 (by decide +kernel) rfl, (by decide +kernel), (by decide)⟩, zTb_mem2 987 (by decide +kernel) rfl, zTb_mem2 57 (by decide +kernel) rfl⟩
theorem mX4_leftOf : zMv yX4_leftOf cX4_leftOf 6 (some .int) 3 RX4 := ⟨⟨zTb_mem2 992 (by decide +kernel) rfl, zTb_mem2 69 (by decide +kernel) rfl, (by decide +kernel), (by decide)⟩, zTb_mem2 991 (by decide +kernel) rfl, zTb_mem2 58 (by decide +kernel) rfl⟩
theorem mX4_look : zMv yX4_look cX4_look 11 (some .int) 1 RX4 := ⟨⟨zTb_mem2 996 (by decide +kernel) rfl, zTb_mem2 69 (by decide +kernel) rfl, (by decide +kernel), (by decide)⟩, zTb_mem2 994 (by decide +kernel) rfl, zTb_mem2 995 (by decide +kernel) rfl⟩
theorem mX4_has : zMs yX4_has cX4_has 2 (some .boolean) 2 := ⟨⟨zTb_mem2 999 (by decide +kernel) rfl, zTb_mem2 69 (by decide +kernel) rfl, (by decide +kernel), (by decide)⟩, zTb_mem2 998 (by decide +kernel) rfl⟩
theorem mX4_orders : zMv yX4_orders cX4_orders 9 (some .int) 2 RX4 := ⟨⟨zTb_mem2 1003 (by decide +kernel) rfl, zTb_mem2 69 (by decide +kernel) rfl, (by decide +kernel), (by decide)⟩, zTb_mem2 1001 (by decide +kernel) rfl, zTb_mem2 1002 (by decide +kernel) rfl⟩
theorem mX4_badAs : zMv yX4_badAs cX4_badAs 2 (some .int) 1 RX4 := ⟨⟨zTb_mem2 1008 (by decide +kernel) rfl, zTb_mem2 69 (by decide +kernel) rfl, (by decide +kernel), (by decide)⟩, zTb_mem2 1007 (by decide +kernel) rfl, zTb_mem2 59 (by decide +kernel) rfl⟩
theorem mX4_canCome : zMv yX4_canCome cX4_canCome 6 (some .boolean) 2 RX4 := ⟨⟨zTb_mem2 1012 (by decide +kernel) rfl, zTb_mem2 69 (by decide +kernel) rfl, (by decide +kernel), (by decide)⟩, zTb_mem2 1011 (by decide +kernel) rfl, zTb_mem2 60 (by decide +kernel) rfl⟩
theorem mX4_yearOf : zMv yX4_yearOf cX4_yearOf 2 (some .int) 1 RX4 := ⟨⟨zTb_mem2 1016 (by decide +kernel) rfl, zTb_mem2 69 (by decide +kernel) rfl, (by decide +kernel), (by decide)⟩, zTb_mem2 1015 (by decide +kernel) rfl, zTb_mem2 61 (by decide +kernel) rfl⟩
theorem mX4_odds : zMv yX4_odds cX4_odds 12 (some .int) 3 RX4 := ⟨⟨zTb_mem2 1020 (by decide +kernel) rfl, zTb_mem2 69 (by decide +kernel) rfl, (by decide +kernel), (by decide)⟩, zTb_mem2 1018 (by decide +kernel) rfl, zTb_mem2 1019 (by decide +kernel) rfl⟩
theorem mX4_drawn : zMv yX4_drawn cX4_drawn 7 (some .int) 2 RX4 := ⟨⟨zTb_mem2 1025 (by decide +kernel) rfl, zTb_mem2 69 (by decide +kernel) rfl, (by decide +kernel), (by decide)⟩, zTb_mem2 1023 (by decide +kernel) rfl, zTb_mem2 1024 (by decide +kernel) rfl⟩
theorem mX4_part : zMv yX4_part cX4_part 2 (some .long) 1 RX4 := ⟨⟨zTb_mem2 1035 (by decide +kernel) rfl, zTb_mem2 69 (by decide +kernel) rfl, (by decide +kernel), (by decide)⟩, zTb_mem2 1033 (by decide +kernel) rfl, zTb_mem2 1034 (by decide +kernel) rfl⟩
theorem mX4_image : zMv yX4_image cX4_image 2 (some .int) 1 RX4 := ⟨⟨zTb_mem2 1039 (by decide +kernel) rfl, zTb_mem2 69 (by decide +kernel) rfl, (by decide +kernel), (by decide)⟩, zTb_mem2 1037 (by decide +kernel) rfl, zTb_mem2 1038 (by decide +kernel) rfl⟩
theorem mX4_from : zMv yX4_from cX4_from 2 (some .int) 1 RX4 := ⟨⟨zTb_mem2 1043 (by decide +kernel) rfl, zTb_mem2 69 (by decide +kernel) rfl, (by decide +kernel), (by decide)⟩, zTb_mem2 1041 (by decide +kernel) rfl, zTb_mem2 1042 (by decide +kernel) rfl⟩
theorem mX4_status : zMv yX4_status cX4_status 2 (some .int) 1 RX4 := ⟨⟨zTb_mem2 1047 (by decide +kernel) rfl, zTb_mem2 69 (by decide +kernel) rfl, (by decide +kernel), (by decide)⟩, zTb_mem2 1045 (by decide +kernel) rfl, zTb_mem2 1046 (by decide +kernel) rfl⟩
theorem mX4_count : zMv yX4_count cX4_count 2 (some .int) 1 RX4 := ⟨⟨zTb_mem2 1051 (by decide +kernel) rfl, zTb_mem2 69 (by decide +kernel) rfl, (by decide +kernel), (by decide)⟩, zTb_mem2 1049 (by decide +kernel) rfl, zTb_mem2 1050 (by decide +kernel) rfl⟩
theorem mX4_countOf : zMv yX4_countOf cX4_countOf 2 (some .int) 1 RX4 := ⟨⟨zTb_mem2 1055 (by decide +kernel) rfl, zTb_mem2 69 (by decide +kernel) rfl, (by decide +kernel), (by decide)⟩, zTb_mem2 1054 (by decide +kernel) rfl, zTb_mem2 62 (by decide +kernel) rfl⟩
theorem mX4_digest : zMv yX4_digest cX4_digest 3 (some .long) 0 RX4 := ⟨⟨zTb_mem2 1059 (by decide +kernel) rfl, zTb_mem2 69 (by decide +kernel) rfl, (by decide +kernel), (by decide)⟩, zTb_mem2 1057 (by decide +kernel) rfl, zTb_mem2 1058 (by decide +kernel) rfl⟩
theorem mX4_mix : zMv yX4_mix cX4_mix 3 none 1 RX4 := ⟨⟨zTb_mem2 1064 (by decide +kernel) rfl, zTb_mem2 69 (by decide +kernel) rfl, (by decide +kernel), (by decide)⟩, zTb_mem2 1063 (by decide +kernel) rfl, zTb_mem2 63 (by decide +kernel) rfl⟩
theorem lkL_9 : Cond.methodLink RL 9 yX3_init ∈ zTb := zTb_mem2 75 (by decide +kernel) rfl
theorem lkX3_3 : Cond.methodLink RX3 3 Lib.objectInit ∈ zTb := zTb_mem2 78 (by decide +kernel) rfl
theorem lkX1_3 : Cond.methodLink RX1 3 Lib.objectInit ∈ zTb := zTb_mem2 86 (by decide +kernel) rfl
theorem lkX1_11 : Cond.methodLink RX1 11 yX0_init ∈ zTb := zTb_mem2 89 (by decide +kernel) rfl
theorem lkX0_3 : Cond.methodLink RX0 3 Lib.objectInit ∈ zTb := zTb_mem2 92 (by decide +kernel) rfl
theorem lkX3_22 : Cond.methodLink RX3 22 yX0_init ∈ zTb := zTb_mem2 131 (by decide +kernel) rfl
theorem lkX2_3 : Cond.methodLink RX2 3 Lib.objectInit ∈ zTb := zTb_mem2 137 (by decide +kernel) rfl
theorem lkL_13 : Cond.methodLink RL 13 yX3_sock ∈ zTb := zTb_mem2 209 (by decide +kernel) rfl
theorem lkX3_54 : Cond.methodLink RX3 54 yX3_within ∈ zTb := zTb_mem2 213 (by decide +kernel) rfl
theorem lkX3_58 : Cond.methodLink RX3 58 yX3_refuse ∈ zTb := zTb_mem2 216 (by decide +kernel) rfl
theorem lkX3_65 : Cond.methodLink RX3 65 yX0_darns ∈ zTb := zTb_mem2 220 (by decide +kernel) rfl
theorem lkX0_39 : Cond.methodLink RX0 39 yX0_darnsOf ∈ zTb := zTb_mem2 224 (by decide +kernel) rfl
theorem lkX0_35 : Cond.methodLink RX0 35 yX0_many ∈ zTb := zTb_mem2 228 (by decide +kernel) rfl
theorem lkX3_69 : Cond.methodLink RX3 69 yX1_renew ∈ zTb := zTb_mem2 232 (by decide +kernel) rfl
theorem lkX1_25 : Cond.methodLink RX1 25 yX0_renew ∈ zTb := zTb_mem2 236 (by decide +kernel) rfl
theorem lkL_18 : Cond.methodLink RL 18 yX3_wear ∈ zTb := zTb_mem2 240 (by decide +kernel) rfl
theorem lkX3_73 : Cond.methodLink RX3 73 yX3_wearsAsTold ∈ zTb := zTb_mem2 244 (by decide +kernel) rfl
theorem lkX3_96 : Cond.methodLink RX3 96 yX3_between ∈ zTb := zTb_mem2 247 (by decide +kernel) rfl
theorem lkL_23 : Cond.methodLink RL 23 yX3_darn ∈ zTb := zTb_mem2 250 (by decide +kernel) rfl
theorem lkX3_79 : Cond.methodLink RX3 79 yX0_verdict ∈ zTb := zTb_mem2 254 (by decide +kernel) rfl
theorem lkX0_50 : Cond.methodLink RX0 50 yX0_hasRoom ∈ zTb := zTb_mem2 260 (by decide +kernel) rfl
theorem lkX3_83 : Cond.methodLink RX3 83 yX1_keep ∈ zTb := zTb_mem2 264 (by decide +kernel) rfl
theorem lkX1_40 : Cond.methodLink RX1 40 arraycopyName ∈ zTb := zTb_mem2 268 (by decide +kernel) rfl
theorem lkX1_52 : Cond.methodLink RX1 52 yJ9_min_7cf53 ∈ zTb := zTb_mem2 271 (by decide +kernel) rfl
theorem lkX3_86 : Cond.methodLink RX3 86 yX0_put ∈ zTb := zTb_mem2 274 (by decide +kernel) rfl
theorem lkX0_53 : Cond.methodLink RX0 53 yX0_verdict ∈ zTb := zTb_mem2 278 (by decide +kernel) rfl
theorem lkL_28 : Cond.methodLink RL 28 yX3_unpick ∈ zTb := zTb_mem2 279 (by decide +kernel) rfl
theorem lkX3_89 : Cond.methodLink RX3 89 yX0_isHole ∈ zTb := zTb_mem2 283 (by decide +kernel) rfl
theorem lkX3_93 : Cond.methodLink RX3 93 yX0_take ∈ zTb := zTb_mem2 287 (by decide +kernel) rfl
theorem lkX0_42 : Cond.methodLink RX0 42 yX0_isHole ∈ zTb := zTb_mem2 291 (by decide +kernel) rfl
theorem lkX0_31 : Cond.methodLink RX0 31 yX0_get ∈ zTb := zTb_mem2 292 (by decide +kernel) rfl
theorem lkL_32 : Cond.methodLink RL 32 yX3_years ∈ zTb := zTb_mem2 296 (by decide +kernel) rfl
theorem lkX3_100 : Cond.methodLink RX3 100 yX0_pass ∈ zTb := zTb_mem2 300 (by decide +kernel) rfl
theorem lkX0_57 : Cond.methodLink RX0 57 yX0_wearTop ∈ zTb := zTb_mem2 304 (by decide +kernel) rfl
theorem lkX0_61 : Cond.methodLink RX0 61 yX0_threadAt ∈ zTb := zTb_mem2 308 (by decide +kernel) rfl
theorem lkX3_103 : Cond.methodLink RX3 103 yX0_holeBits ∈ zTb := zTb_mem2 315 (by decide +kernel) rfl
theorem lkX3_106 : Cond.methodLink RX3 106 yJ6_bitCount_0f7a4 ∈ zTb := zTb_mem2 319 (by decide +kernel) rfl
theorem lkL_36 : Cond.methodLink RL 36 yX3_undo ∈ zTb := zTb_mem2 325 (by decide +kernel) rfl
theorem lkX3_115 : Cond.methodLink RX3 115 yX1_bringBack ∈ zTb := zTb_mem2 329 (by decide +kernel) rfl
theorem lkL_41 : Cond.methodLink RL 41 yX3_type ∈ zTb := zTb_mem2 333 (by decide +kernel) rfl
theorem lkL_45 : Cond.methodLink RL 45 yX3_clear ∈ zTb := zTb_mem2 337 (by decide +kernel) rfl
theorem lkL_49 : Cond.methodLink RL 49 yX3_read ∈ zTb := zTb_mem2 341 (by decide +kernel) rfl
theorem lkX3_124 : Cond.methodLink RX3 124 yX2_fault ∈ zTb := zTb_mem2 345 (by decide +kernel) rfl
theorem lkX2_28 : Cond.methodLink RX2 28 yX2_step ∈ zTb := zTb_mem2 349 (by decide +kernel) rfl
theorem lkX2_54 : Cond.methodLink RX2 54 yX2_isLetter ∈ zTb := zTb_mem2 353 (by decide +kernel) rfl
theorem lkX2_58 : Cond.methodLink RX2 58 yX2_takeWord ∈ zTb := zTb_mem2 357 (by decide +kernel) rfl
theorem lkX2_67 : Cond.methodLink RX2 67 yX2_spells ∈ zTb := zTb_mem2 361 (by decide +kernel) rfl
theorem lkX2_61 : Cond.methodLink RX2 61 yX2_isFigure ∈ zTb := zTb_mem2 368 (by decide +kernel) rfl
theorem lkX2_64 : Cond.methodLink RX2 64 yX2_takeNumber ∈ zTb := zTb_mem2 371 (by decide +kernel) rfl
theorem lkX2_31 : Cond.methodLink RX2 31 yX2_takeItem ∈ zTb := zTb_mem2 375 (by decide +kernel) rfl
theorem lkX3_127 : Cond.methodLink RX3 127 yX2_refusedOn ∈ zTb := zTb_mem2 381 (by decide +kernel) rfl
theorem lkX2_77 : Cond.methodLink RX2 77 yX2_isToldTo ∈ zTb := zTb_mem2 385 (by decide +kernel) rfl
theorem lkX2_81 : Cond.methodLink RX2 81 yX0_renew ∈ zTb := zTb_mem2 389 (by decide +kernel) rfl
theorem lkX2_93 : Cond.methodLink RX2 93 yX0_verdict ∈ zTb := zTb_mem2 391 (by decide +kernel) rfl
theorem lkX2_97 : Cond.methodLink RX2 97 yX0_put ∈ zTb := zTb_mem2 392 (by decide +kernel) rfl
theorem lkX3_131 : Cond.methodLink RX3 131 yX0_copy ∈ zTb := zTb_mem2 393 (by decide +kernel) rfl
theorem lkX0_21 : Cond.methodLink RX0 21 arraycopyName ∈ zTb := zTb_mem2 397 (by decide +kernel) rfl
theorem lkL_53 : Cond.methodLink RL 53 yX3_of ∈ zTb := zTb_mem2 398 (by decide +kernel) rfl
theorem lkX3_138 : Cond.methodLink RX3 138 yX0_many ∈ zTb := zTb_mem2 402 (by decide +kernel) rfl
theorem lkX3_141 : Cond.methodLink RX3 141 yX0_counts ∈ zTb := zTb_mem2 403 (by decide +kernel) rfl
theorem lkX0_68 : Cond.methodLink RX0 68 yX0_countsOver ∈ zTb := zTb_mem2 407 (by decide +kernel) rfl
theorem lkX3_145 : Cond.methodLink RX3 145 yX0_get ∈ zTb := zTb_mem2 411 (by decide +kernel) rfl
theorem lkX3_149 : Cond.methodLink RX3 149 yX0_year ∈ zTb := zTb_mem2 412 (by decide +kernel) rfl
theorem lkX3_152 : Cond.methodLink RX3 152 yX3_loss ∈ zTb := zTb_mem2 416 (by decide +kernel) rfl
theorem lkL_58 : Cond.methodLink RL 58 yX3_cell ∈ zTb := zTb_mem2 417 (by decide +kernel) rfl
theorem lkL_62 : Cond.methodLink RL 62 yX3_claims ∈ zTb := zTb_mem2 421 (by decide +kernel) rfl
theorem lkX3_155 : Cond.methodLink RX3 155 yX0_claimOf ∈ zTb := zTb_mem2 425 (by decide +kernel) rfl
theorem lkX0_95 : Cond.methodLink RX0 95 yX0_weigh ∈ zTb := zTb_mem2 429 (by decide +kernel) rfl
theorem lkX0_71 : Cond.methodLink RX0 71 yX0_weighThread ∈ zTb := zTb_mem2 433 (by decide +kernel) rfl
theorem lkX0_77 : Cond.methodLink RX0 77 yX0_addClaim ∈ zTb := zTb_mem2 437 (by decide +kernel) rfl
theorem lkX0_74 : Cond.methodLink RX0 74 yX0_topFamily ∈ zTb := zTb_mem2 441 (by decide +kernel) rfl
theorem lkX0_81 : Cond.methodLink RX0 81 yX0_lineFamily ∈ zTb := zTb_mem2 445 (by decide +kernel) rfl
theorem lkX0_84 : Cond.methodLink RX0 84 yX0_weighAges ∈ zTb := zTb_mem2 451 (by decide +kernel) rfl
theorem lkX0_87 : Cond.methodLink RX0 87 yJ9_max_7cf53 ∈ zTb := zTb_mem2 455 (by decide +kernel) rfl
theorem lkL_66 : Cond.methodLink RL 66 yX3_owner ∈ zTb := zTb_mem2 458 (by decide +kernel) rfl
theorem lkX3_158 : Cond.methodLink RX3 158 yX3_tryYears ∈ zTb := zTb_mem2 462 (by decide +kernel) rfl
theorem lkX3_161 : Cond.methodLink RX3 161 yX0_ownerBy ∈ zTb := zTb_mem2 466 (by decide +kernel) rfl
theorem lkL_70 : Cond.methodLink RL 70 yX3_laws ∈ zTb := zTb_mem2 470 (by decide +kernel) rfl
theorem lkL_74 : Cond.methodLink RL 74 yX3_share ∈ zTb := zTb_mem2 474 (by decide +kernel) rfl
theorem lkX3_164 : Cond.methodLink RX3 164 yX0_allClaims ∈ zTb := zTb_mem2 478 (by decide +kernel) rfl
theorem lkX3_167 : Cond.methodLink RX3 167 yX3_setFraction ∈ zTb := zTb_mem2 482 (by decide +kernel) rfl
theorem lkX3_271 : Cond.methodLink RX3 271 yX3_commonDivisor ∈ zTb := zTb_mem2 486 (by decide +kernel) rfl
theorem lkL_78 : Cond.methodLink RL 78 yX3_twos ∈ zTb := zTb_mem2 489 (by decide +kernel) rfl
theorem lkX3_171 : Cond.methodLink RX3 171 yX0_isTwos ∈ zTb := zTb_mem2 493 (by decide +kernel) rfl
theorem lkX0_98 : Cond.methodLink RX0 98 yX0_ownerBy ∈ zTb := zTb_mem2 497 (by decide +kernel) rfl
theorem lkX0_101 : Cond.methodLink RX0 101 yX0_allClaims ∈ zTb := zTb_mem2 498 (by decide +kernel) rfl
theorem lkL_82 : Cond.methodLink RL 82 yX3_whole ∈ zTb := zTb_mem2 499 (by decide +kernel) rfl
theorem lkX3_174 : Cond.methodLink RX3 174 yX3_findSpans ∈ zTb := zTb_mem2 503 (by decide +kernel) rfl
theorem lkX3_183 : Cond.methodLink RX3 183 yX0_span ∈ zTb := zTb_mem2 507 (by decide +kernel) rfl
theorem lkX3_177 : Cond.methodLink RX3 177 yX3_leastSpanBut ∈ zTb := zTb_mem2 511 (by decide +kernel) rfl
theorem lkX3_186 : Cond.methodLink RX3 186 yJ9_min_7cf53 ∈ zTb := zTb_mem2 515 (by decide +kernel) rfl
theorem lkL_86 : Cond.methodLink RL 86 yX3_holes ∈ zTb := zTb_mem2 516 (by decide +kernel) rfl
theorem lkL_90 : Cond.methodLink RL 90 yX3_best ∈ zTb := zTb_mem2 520 (by decide +kernel) rfl
theorem lkX3_180 : Cond.methodLink RX3 180 yX0_hasRoom ∈ zTb := zTb_mem2 524 (by decide +kernel) rfl
theorem lkL_94 : Cond.methodLink RL 94 yX3_split ∈ zTb := zTb_mem2 525 (by decide +kernel) rfl
theorem lkX3_191 : Cond.methodLink RX3 191 yX3_findSplitSpans ∈ zTb := zTb_mem2 529 (by decide +kernel) rfl
theorem lkX3_195 : Cond.methodLink RX3 195 yX3_bestSplit ∈ zTb := zTb_mem2 533 (by decide +kernel) rfl
theorem lkX3_198 : Cond.methodLink RX3 198 yX3_splitSpan ∈ zTb := zTb_mem2 537 (by decide +kernel) rfl
theorem lkL_98 : Cond.methodLink RL 98 yX3_reading ∈ zTb := zTb_mem2 541 (by decide +kernel) rfl
theorem lkX3_205 : Cond.methodLink RX3 205 yX1_addReading ∈ zTb := zTb_mem2 545 (by decide +kernel) rfl
theorem lkL_102 : Cond.methodLink RL 102 yX3_forget ∈ zTb := zTb_mem2 549 (by decide +kernel) rfl
theorem lkL_106 : Cond.methodLink RL 106 yX3_may ∈ zTb := zTb_mem2 553 (by decide +kernel) rfl
theorem lkX3_208 : Cond.methodLink RX3 208 yX1_possibleKinds ∈ zTb := zTb_mem2 557 (by decide +kernel) rfl
theorem lkX1_58 : Cond.methodLink RX1 58 yX0_isHole ∈ zTb := zTb_mem2 561 (by decide +kernel) rfl
theorem lkX1_62 : Cond.methodLink RX1 62 yX1_agrees ∈ zTb := zTb_mem2 562 (by decide +kernel) rfl
theorem lkX1_66 : Cond.methodLink RX1 66 yX0_leftOf ∈ zTb := zTb_mem2 566 (by decide +kernel) rfl
theorem lkL_110 : Cond.methodLink RL 110 yX3_look ∈ zTb := zTb_mem2 570 (by decide +kernel) rfl
theorem lkX3_211 : Cond.methodLink RX3 211 yX3_mostAlike ∈ zTb := zTb_mem2 574 (by decide +kernel) rfl
theorem lkX3_277 : Cond.methodLink RX3 277 yX0_leftOf ∈ zTb := zTb_mem2 578 (by decide +kernel) rfl
theorem lkX3_280 : Cond.methodLink RX3 280 yJ9_max_7cf53 ∈ zTb := zTb_mem2 579 (by decide +kernel) rfl
theorem lkL_114 : Cond.methodLink RL 114 yX3_orders ∈ zTb := zTb_mem2 580 (by decide +kernel) rfl
theorem lkX3_214 : Cond.methodLink RX3 214 yX0_darnsOf ∈ zTb := zTb_mem2 584 (by decide +kernel) rfl
theorem lkX3_217 : Cond.methodLink RX3 217 yX3_findFirstOrder ∈ zTb := zTb_mem2 585 (by decide +kernel) rfl
theorem lkX3_283 : Cond.methodLink RX3 283 yX0_nextYear ∈ zTb := zTb_mem2 589 (by decide +kernel) rfl
theorem lkX3_220 : Cond.methodLink RX3 220 yX3_waysToOrder ∈ zTb := zTb_mem2 593 (by decide +kernel) rfl
theorem lkX3_286 : Cond.methodLink RX3 286 yX3_yearOrdered ∈ zTb := zTb_mem2 597 (by decide +kernel) rfl
theorem lkL_118 : Cond.methodLink RL 118 yX3_odds ∈ zTb := zTb_mem2 601 (by decide +kernel) rfl
theorem lkX3_223 : Cond.methodLink RX3 223 yX0_threadAt ∈ zTb := zTb_mem2 605 (by decide +kernel) rfl
theorem lkX3_226 : Cond.methodLink RX3 226 yX0_holeWays ∈ zTb := zTb_mem2 606 (by decide +kernel) rfl
theorem lkX0_108 : Cond.methodLink RX0 108 yX0_holeWays ∈ zTb := zTb_mem2 614 (by decide +kernel) rfl
theorem lkX3_230 : Cond.methodLink RX3 230 yX3_powerOfTen ∈ zTb := zTb_mem2 615 (by decide +kernel) rfl
theorem lkL_122 : Cond.methodLink RL 122 yX3_drawn ∈ zTb := zTb_mem2 616 (by decide +kernel) rfl
theorem lkL_126 : Cond.methodLink RL 126 yX3_part ∈ zTb := zTb_mem2 626 (by decide +kernel) rfl
theorem lkL_131 : Cond.methodLink RL 131 yX3_image ∈ zTb := zTb_mem2 630 (by decide +kernel) rfl
theorem lkX3_245 : Cond.methodLink RX3 245 yX1_copy ∈ zTb := zTb_mem2 634 (by decide +kernel) rfl
theorem lkX1_36 : Cond.methodLink RX1 36 yX0_copy ∈ zTb := zTb_mem2 638 (by decide +kernel) rfl
theorem lkL_135 : Cond.methodLink RL 135 yX3_from ∈ zTb := zTb_mem2 639 (by decide +kernel) rfl
theorem lkL_139 : Cond.methodLink RL 139 yX3_status ∈ zTb := zTb_mem2 643 (by decide +kernel) rfl
theorem lkL_143 : Cond.methodLink RL 143 yX3_count ∈ zTb := zTb_mem2 647 (by decide +kernel) rfl
theorem lkX3_257 : Cond.methodLink RX3 257 yX3_howMany ∈ zTb := zTb_mem2 651 (by decide +kernel) rfl
theorem lkL_147 : Cond.methodLink RL 147 yX3_digest ∈ zTb := zTb_mem2 655 (by decide +kernel) rfl
theorem lkX3_264 : Cond.methodLink RX3 264 yX0_digested ∈ zTb := zTb_mem2 661 (by decide +kernel) rfl
theorem lkX3_268 : Cond.methodLink RX3 268 yX1_digestedReadings ∈ zTb := zTb_mem2 666 (by decide +kernel) rfl
theorem lkL_12 : Cond.methodLink RL 12 yX4_init ∈ zTb := zTb_mem2 673 (by decide +kernel) rfl
theorem lkX4_1 : Cond.methodLink RX4 1 Lib.objectInit ∈ zTb := zTb_mem2 676 (by decide +kernel) rfl
theorem lkX4_39 : Cond.methodLink RX4 39 yX4_begins ∈ zTb := zTb_mem2 677 (by decide +kernel) rfl
theorem lkL_17 : Cond.methodLink RL 17 yX4_sock ∈ zTb := zTb_mem2 737 (by decide +kernel) rfl
theorem lkX4_45 : Cond.methodLink RX4 45 yX4_in ∈ zTb := zTb_mem2 742 (by decide +kernel) rfl
theorem lkX4_65 : Cond.methodLink RX4 65 yX4_bad ∈ zTb := zTb_mem2 745 (by decide +kernel) rfl
theorem lkX4_69 : Cond.methodLink RX4 69 yX4_darnsIn ∈ zTb := zTb_mem2 749 (by decide +kernel) rfl
theorem lkL_22 : Cond.methodLink RL 22 yX4_wear ∈ zTb := zTb_mem2 753 (by decide +kernel) rfl
theorem lkX4_49 : Cond.methodLink RX4 49 yX4_isCell ∈ zTb := zTb_mem2 757 (by decide +kernel) rfl
theorem lkL_27 : Cond.methodLink RL 27 yX4_darn ∈ zTb := zTb_mem2 762 (by decide +kernel) rfl
theorem lkX4_77 : Cond.methodLink RX4 77 yX4_isDarn ∈ zTb := zTb_mem2 766 (by decide +kernel) rfl
theorem lkX4_81 : Cond.methodLink RX4 81 yX4_full ∈ zTb := zTb_mem2 771 (by decide +kernel) rfl
theorem lkX4_84 : Cond.methodLink RX4 84 yX4_minds ∈ zTb := zTb_mem2 775 (by decide +kernel) rfl
theorem lkX4_73 : Cond.methodLink RX4 73 yX4_copy ∈ zTb := zTb_mem2 779 (by decide +kernel) rfl
theorem lkX4_87 : Cond.methodLink RX4 87 yX4_puts ∈ zTb := zTb_mem2 783 (by decide +kernel) rfl
theorem lkX4_59 : Cond.methodLink RX4 59 yX4_placeOf ∈ zTb := zTb_mem2 787 (by decide +kernel) rfl
theorem lkL_31 : Cond.methodLink RL 31 yX4_unpick ∈ zTb := zTb_mem2 790 (by decide +kernel) rfl
theorem lkX4_91 : Cond.methodLink RX4 91 yX4_no ∈ zTb := zTb_mem2 794 (by decide +kernel) rfl
theorem lkX4_94 : Cond.methodLink RX4 94 yX4_topOf ∈ zTb := zTb_mem2 798 (by decide +kernel) rfl
theorem lkL_35 : Cond.methodLink RL 35 yX4_years ∈ zTb := zTb_mem2 802 (by decide +kernel) rfl
theorem lkX4_103 : Cond.methodLink RX4 103 yX4_passes ∈ zTb := zTb_mem2 807 (by decide +kernel) rfl
theorem lkX4_97 : Cond.methodLink RX4 97 yX4_loses ∈ zTb := zTb_mem2 811 (by decide +kernel) rfl
theorem lkX4_107 : Cond.methodLink RX4 107 yX4_holesIn ∈ zTb := zTb_mem2 814 (by decide +kernel) rfl
theorem lkX4_110 : Cond.methodLink RX4 110 yX4_ones ∈ zTb := zTb_mem2 818 (by decide +kernel) rfl
theorem lkL_40 : Cond.methodLink RL 40 yX4_undo ∈ zTb := zTb_mem2 821 (by decide +kernel) rfl
theorem lkL_44 : Cond.methodLink RL 44 yX4_type ∈ zTb := zTb_mem2 825 (by decide +kernel) rfl
theorem lkL_48 : Cond.methodLink RL 48 yX4_clear ∈ zTb := zTb_mem2 830 (by decide +kernel) rfl
theorem lkL_52 : Cond.methodLink RL 52 yX4_read ∈ zTb := zTb_mem2 834 (by decide +kernel) rfl
theorem lkX4_146 : Cond.methodLink RX4 146 yX4_token ∈ zTb := zTb_mem2 838 (by decide +kernel) rfl
theorem lkX4_122 : Cond.methodLink RX4 122 yX4_byteAt ∈ zTb := zTb_mem2 842 (by decide +kernel) rfl
theorem lkX4_161 : Cond.methodLink RX4 161 yX4_takesItem ∈ zTb := zTb_mem2 850 (by decide +kernel) rfl
theorem lkX4_149 : Cond.methodLink RX4 149 yX4_wordNow ∈ zTb := zTb_mem2 854 (by decide +kernel) rfl
theorem lkX4_143 : Cond.methodLink RX4 143 yX4_isNamed ∈ zTb := zTb_mem2 858 (by decide +kernel) rfl
theorem lkX4_152 : Cond.methodLink RX4 152 yX4_takesNumber ∈ zTb := zTb_mem2 862 (by decide +kernel) rfl
theorem lkX4_158 : Cond.methodLink RX4 158 yX4_tellsItem ∈ zTb := zTb_mem2 866 (by decide +kernel) rfl
theorem lkL_57 : Cond.methodLink RL 57 yX4_of ∈ zTb := zTb_mem2 870 (by decide +kernel) rfl
theorem lkX4_164 : Cond.methodLink RX4 164 yX4_countsOf ∈ zTb := zTb_mem2 874 (by decide +kernel) rfl
theorem lkL_61 : Cond.methodLink RL 61 yX4_cell ∈ zTb := zTb_mem2 878 (by decide +kernel) rfl
theorem lkL_65 : Cond.methodLink RL 65 yX4_claims ∈ zTb := zTb_mem2 882 (by decide +kernel) rfl
theorem lkX4_178 : Cond.methodLink RX4 178 yX4_isFamily ∈ zTb := zTb_mem2 886 (by decide +kernel) rfl
theorem lkX4_181 : Cond.methodLink RX4 181 yX4_isLaw ∈ zTb := zTb_mem2 889 (by decide +kernel) rfl
theorem lkX4_173 : Cond.methodLink RX4 173 yX4_claimsIn ∈ zTb := zTb_mem2 893 (by decide +kernel) rfl
theorem lkX4_170 : Cond.methodLink RX4 170 yX4_linesOf ∈ zTb := zTb_mem2 897 (by decide +kernel) rfl
theorem lkX4_167 : Cond.methodLink RX4 167 yX4_familyAt ∈ zTb := zTb_mem2 901 (by decide +kernel) rfl
theorem lkL_69 : Cond.methodLink RL 69 yX4_owner ∈ zTb := zTb_mem2 905 (by decide +kernel) rfl
theorem lkX4_189 : Cond.methodLink RX4 189 yX4_passesMany ∈ zTb := zTb_mem2 910 (by decide +kernel) rfl
theorem lkX4_184 : Cond.methodLink RX4 184 yX4_tries ∈ zTb := zTb_mem2 914 (by decide +kernel) rfl
theorem lkX4_193 : Cond.methodLink RX4 193 yX4_ownerIn ∈ zTb := zTb_mem2 918 (by decide +kernel) rfl
theorem lkL_73 : Cond.methodLink RL 73 yX4_laws ∈ zTb := zTb_mem2 922 (by decide +kernel) rfl
theorem lkL_77 : Cond.methodLink RL 77 yX4_share ∈ zTb := zTb_mem2 926 (by decide +kernel) rfl
theorem lkX4_199 : Cond.methodLink RX4 199 yX4_allClaims ∈ zTb := zTb_mem2 930 (by decide +kernel) rfl
theorem lkX4_202 : Cond.methodLink RX4 202 yX4_tells ∈ zTb := zTb_mem2 934 (by decide +kernel) rfl
theorem lkL_81 : Cond.methodLink RL 81 yX4_twos ∈ zTb := zTb_mem2 938 (by decide +kernel) rfl
theorem lkL_85 : Cond.methodLink RL 85 yX4_whole ∈ zTb := zTb_mem2 942 (by decide +kernel) rfl
theorem lkX4_209 : Cond.methodLink RX4 209 yX4_wholeTried ∈ zTb := zTb_mem2 946 (by decide +kernel) rfl
theorem lkX4_206 : Cond.methodLink RX4 206 yX4_lastsOf ∈ zTb := zTb_mem2 950 (by decide +kernel) rfl
theorem lkL_89 : Cond.methodLink RL 89 yX4_holes ∈ zTb := zTb_mem2 954 (by decide +kernel) rfl
theorem lkL_93 : Cond.methodLink RL 93 yX4_best ∈ zTb := zTb_mem2 958 (by decide +kernel) rfl
theorem lkX4_212 : Cond.methodLink RX4 212 yX4_isThread ∈ zTb := zTb_mem2 962 (by decide +kernel) rfl
theorem lkL_97 : Cond.methodLink RL 97 yX4_split ∈ zTb := zTb_mem2 965 (by decide +kernel) rfl
theorem lkX4_215 : Cond.methodLink RX4 215 yX4_layLasting ∈ zTb := zTb_mem2 969 (by decide +kernel) rfl
theorem lkL_101 : Cond.methodLink RL 101 yX4_reading ∈ zTb := zTb_mem2 973 (by decide +kernel) rfl
theorem lkL_105 : Cond.methodLink RL 105 yX4_forget ∈ zTb := zTb_mem2 977 (by decide +kernel) rfl
theorem lkL_109 : Cond.methodLink RL 109 yX4_may ∈ zTb := zTb_mem2 981 (by decide +kernel) rfl
theorem lkX4_221 : Cond.methodLink RX4 221 yX4_kindsOf ∈ zTb := zTb_mem2 985 (by decide +kernel) rfl
theorem lkX4_218 : Cond.methodLink RX4 218 yX4_leftOf ∈ zTb := zTb_mem2 989 (by decide +kernel) rfl
theorem lkL_113 : Cond.methodLink RL 113 yX4_look ∈ zTb := zTb_mem2 993 (by decide +kernel) rfl
theorem lkX4_224 : Cond.methodLink RX4 224 yX4_has ∈ zTb := zTb_mem2 997 (by decide +kernel) rfl
theorem lkL_117 : Cond.methodLink RL 117 yX4_orders ∈ zTb := zTb_mem2 1000 (by decide +kernel) rfl
theorem lkX4_236 : Cond.methodLink RX4 236 yX4_badAs ∈ zTb := zTb_mem2 1005 (by decide +kernel) rfl
theorem lkX4_239 : Cond.methodLink RX4 239 yX4_canCome ∈ zTb := zTb_mem2 1009 (by decide +kernel) rfl
theorem lkX4_231 : Cond.methodLink RX4 231 yX4_yearOf ∈ zTb := zTb_mem2 1013 (by decide +kernel) rfl
theorem lkL_121 : Cond.methodLink RL 121 yX4_odds ∈ zTb := zTb_mem2 1017 (by decide +kernel) rfl
theorem lkL_125 : Cond.methodLink RL 125 yX4_drawn ∈ zTb := zTb_mem2 1022 (by decide +kernel) rfl
theorem lkL_130 : Cond.methodLink RL 130 yX4_part ∈ zTb := zTb_mem2 1032 (by decide +kernel) rfl
theorem lkL_134 : Cond.methodLink RL 134 yX4_image ∈ zTb := zTb_mem2 1036 (by decide +kernel) rfl
theorem lkL_138 : Cond.methodLink RL 138 yX4_from ∈ zTb := zTb_mem2 1040 (by decide +kernel) rfl
theorem lkL_142 : Cond.methodLink RL 142 yX4_status ∈ zTb := zTb_mem2 1044 (by decide +kernel) rfl
theorem lkL_146 : Cond.methodLink RL 146 yX4_count ∈ zTb := zTb_mem2 1048 (by decide +kernel) rfl
theorem lkX4_256 : Cond.methodLink RX4 256 yX4_countOf ∈ zTb := zTb_mem2 1052 (by decide +kernel) rfl
theorem lkL_151 : Cond.methodLink RL 151 yX4_digest ∈ zTb := zTb_mem2 1056 (by decide +kernel) rfl
theorem lkX4_266 : Cond.methodLink RX4 266 yX4_mix ∈ zTb := zTb_mem2 1061 (by decide +kernel) rfl
theorem nlX3_11 : (RX3, 11, yX1_init, RX3) ∈ zNm := by decide +kernel
theorem nlX3_29 : (RX3, 29, yX2_init, RX3) ∈ zNm := by decide +kernel
theorem nlX0_27 : (RX0, 27, yX3_within, RX3) ∈ zNm := by decide +kernel
theorem nlX0_46 : (RX0, 46, yX3_between, RX3) ∈ zNm := by decide +kernel
theorem nlX0_65 : (RX0, 65, yX3_loss, RX3) ∈ zNm := by decide +kernel
theorem nlX2_73 : (RX2, 73, yX3_between, RX3) ∈ zNm := by decide +kernel
theorem nlX2_44 : (RX2, 44, yX3_within, RX3) ∈ zNm := by decide +kernel
theorem nlX2_87 : (RX2, 87, yX3_wearsAsTold, RX3) ∈ zNm := by decide +kernel
theorem nlX0_104 : (RX0, 104, yX3_powerOfTen, RX3) ∈ zNm := by decide +kernel
theorem nsX2_70 : (RX2, 70, RX3, zSt 2, "[I", RX3) ∈ zNf := by decide +kernel
theorem nsX2_48 : (RX2, 48, RX3, zSt 3, "[I", RX3) ∈ zNf := by decide +kernel
theorem nsX0_92 : (RX0, 92, RX3, zSt 1, "[I", RX3) ∈ zNf := by decide +kernel
theorem zin0 : ∀ w ∈ u_ws RX0 TX0 3, w ∈ zTb := fun w h => zTb_mem (inX0 w h) (List.all_eq_true.mp (show (u_ws RX0 TX0 3).all goodWord = true from by decide +kernel) w h)
theorem zin1 : ∀ w ∈ u_ws RX1 TX1 6, w ∈ zTb := fun w h => zTb_mem (inX1 w h) (List.all_eq_true.mp (show (u_ws RX1 TX1 6).all goodWord = true from by decide +kernel) w h)
theorem zin2 : ∀ w ∈ u_ws RX2 TX2 9, w ∈ zTb := fun w h => zTb_mem (inX2 w h) (List.all_eq_true.mp (show (u_ws RX2 TX2 9).all goodWord = true from by decide +kernel) w h)
theorem zin3 : ∀ w ∈ u_ws RX3 TX3 13, w ∈ zTb := fun w h => zTb_mem (inX3 w h) (List.all_eq_true.mp (show (u_ws RX3 TX3 13).all goodWord = true from by decide +kernel) w h)
theorem zin4 : ∀ w ∈ u_ws RX4 TX4 18, w ∈ zTb := fun w h => zTb_mem (inX4 w h) (List.all_eq_true.mp (show (u_ws RX4 TX4 18).all goodWord = true from by decide +kernel) w h)
theorem flX0_9 : zFld RX0 9 0 0 (.array .int) 1 := ⟨RX0, TX0, 3, tyX0, rfl, (by decide), zin0, tyX0_ok, nmX0, zTb_mem2 93 (by decide +kernel) rfl, (by decide +kernel), rfl, (fun _ => rfl)⟩
theorem flX3_76 : zFld RX3 76 0 0 (.array .int) 2 := ⟨RX0, TX0, 3, tyX0, rfl, (by decide), zin0, tyX0_ok, nmX0, zTb_mem2 94 (by decide +kernel) rfl, (by decide +kernel), rfl, (fun h => by cases h)⟩
theorem flX2_90 : zFld RX2 90 0 0 (.array .int) 2 := ⟨RX0, TX0, 3, tyX0, rfl, (by decide), zin0, tyX0_ok, nmX0, zTb_mem2 95 (by decide +kernel) rfl, (by decide +kernel), rfl, (fun h => by cases h)⟩
theorem flX0_15 : zFld RX0 15 0 1 (.array .int) 1 := ⟨RX0, TX0, 3, tyX0, rfl, (by decide), zin0, tyX0_ok, nmX0, zTb_mem2 96 (by decide +kernel) rfl, (by decide +kernel), rfl, (fun _ => rfl)⟩
theorem flX1_49 : zFld RX1 49 0 1 (.array .int) 2 := ⟨RX0, TX0, 3, tyX0, rfl, (by decide), zin0, tyX0_ok, nmX0, zTb_mem2 97 (by decide +kernel) rfl, (by decide +kernel), rfl, (fun h => by cases h)⟩
theorem flX0_18 : zFld RX0 18 0 2 (.array .int) 1 := ⟨RX0, TX0, 3, tyX0, rfl, (by decide), zin0, tyX0_ok, nmX0, zTb_mem2 98 (by decide +kernel) rfl, (by decide +kernel), rfl, (fun _ => rfl)⟩
theorem flX1_12 : zFld RX1 12 1 0 (.object "DarnedSock$Sock") 1 := ⟨RX1, TX1, 6, tyX1, rfl, (by decide), zin1, tyX1_ok, nmX1, zTb_mem2 107 (by decide +kernel) rfl, (by decide +kernel), rfl, (fun _ => rfl)⟩
theorem flX3_62 : zFld RX3 62 1 0 (.object "DarnedSock$Sock") 2 := ⟨RX1, TX1, 6, tyX1, rfl, (by decide), zin1, tyX1_ok, nmX1, zTb_mem2 108 (by decide +kernel) rfl, (by decide +kernel), rfl, (fun h => by cases h)⟩
theorem flX1_18 : zFld RX1 18 1 1 (.array .int) 1 := ⟨RX1, TX1, 6, tyX1, rfl, (by decide), zin1, tyX1_ok, nmX1, zTb_mem2 109 (by decide +kernel) rfl, (by decide +kernel), rfl, (fun _ => rfl)⟩
theorem flX1_29 : zFld RX1 29 1 2 .int 0 := ⟨RX1, TX1, 6, tyX1, rfl, (by decide), zin1, tyX1_ok, nmX1, zTb_mem2 110 (by decide +kernel) rfl, (by decide +kernel), rfl, (fun h => by cases h)⟩
theorem flX3_202 : zFld RX3 202 1 2 .int 0 := ⟨RX1, TX1, 6, tyX1, rfl, (by decide), zin1, tyX1_ok, nmX1, zTb_mem2 111 (by decide +kernel) rfl, (by decide +kernel), rfl, (fun h => by cases h)⟩
theorem flX1_22 : zFld RX1 22 1 3 (.array .int) 1 := ⟨RX1, TX1, 6, tyX1, rfl, (by decide), zin1, tyX1_ok, nmX1, zTb_mem2 112 (by decide +kernel) rfl, (by decide +kernel), rfl, (fun _ => rfl)⟩
theorem flX1_46 : zFld RX1 46 1 4 .int 0 := ⟨RX1, TX1, 6, tyX1, rfl, (by decide), zin1, tyX1_ok, nmX1, zTb_mem2 113 (by decide +kernel) rfl, (by decide +kernel), rfl, (fun h => by cases h)⟩
theorem flX1_33 : zFld RX1 33 1 5 .int 0 := ⟨RX1, TX1, 6, tyX1, rfl, (by decide), zin1, tyX1_ok, nmX1, zTb_mem2 114 (by decide +kernel) rfl, (by decide +kernel), rfl, (fun h => by cases h)⟩
theorem flX3_111 : zFld RX3 111 1 5 .int 0 := ⟨RX1, TX1, 6, tyX1, rfl, (by decide), zin1, tyX1_ok, nmX1, zTb_mem2 115 (by decide +kernel) rfl, (by decide +kernel), rfl, (fun h => by cases h)⟩
theorem flX2_9 : zFld RX2 9 2 0 (.array .int) 1 := ⟨RX2, TX2, 9, tyX2, rfl, (by decide), zin2, tyX2_ok, nmX2, zTb_mem2 138 (by decide +kernel) rfl, (by decide +kernel), rfl, (fun _ => rfl)⟩
theorem flX3_121 : zFld RX3 121 2 0 (.array .int) 2 := ⟨RX2, TX2, 9, tyX2, rfl, (by decide), zin2, tyX2_ok, nmX2, zTb_mem2 139 (by decide +kernel) rfl, (by decide +kernel), rfl, (fun h => by cases h)⟩
theorem flX2_51 : zFld RX2 51 2 1 .int 0 := ⟨RX2, TX2, 9, tyX2, rfl, (by decide), zin2, tyX2_ok, nmX2, zTb_mem2 140 (by decide +kernel) rfl, (by decide +kernel), rfl, (fun h => by cases h)⟩
theorem flX3_118 : zFld RX3 118 2 1 .int 0 := ⟨RX2, TX2, 9, tyX2, rfl, (by decide), zin2, tyX2_ok, nmX2, zTb_mem2 141 (by decide +kernel) rfl, (by decide +kernel), rfl, (fun h => by cases h)⟩
theorem flX2_15 : zFld RX2 15 2 2 (.array .int) 1 := ⟨RX2, TX2, 9, tyX2, rfl, (by decide), zin2, tyX2_ok, nmX2, zTb_mem2 142 (by decide +kernel) rfl, (by decide +kernel), rfl, (fun _ => rfl)⟩
theorem flX2_18 : zFld RX2 18 2 3 (.array .int) 1 := ⟨RX2, TX2, 9, tyX2, rfl, (by decide), zin2, tyX2_ok, nmX2, zTb_mem2 143 (by decide +kernel) rfl, (by decide +kernel), rfl, (fun _ => rfl)⟩
theorem flX2_21 : zFld RX2 21 2 4 .int 0 := ⟨RX2, TX2, 9, tyX2, rfl, (by decide), zin2, tyX2_ok, nmX2, zTb_mem2 144 (by decide +kernel) rfl, (by decide +kernel), rfl, (fun h => by cases h)⟩
theorem flX3_135 : zFld RX3 135 2 4 .int 0 := ⟨RX2, TX2, 9, tyX2, rfl, (by decide), zin2, tyX2_ok, nmX2, zTb_mem2 145 (by decide +kernel) rfl, (by decide +kernel), rfl, (fun h => by cases h)⟩
theorem flX2_38 : zFld RX2 38 2 5 .int 0 := ⟨RX2, TX2, 9, tyX2, rfl, (by decide), zin2, tyX2_ok, nmX2, zTb_mem2 146 (by decide +kernel) rfl, (by decide +kernel), rfl, (fun h => by cases h)⟩
theorem flX2_35 : zFld RX2 35 2 6 .int 0 := ⟨RX2, TX2, 9, tyX2, rfl, (by decide), zin2, tyX2_ok, nmX2, zTb_mem2 147 (by decide +kernel) rfl, (by decide +kernel), rfl, (fun h => by cases h)⟩
theorem flX2_25 : zFld RX2 25 2 7 .int 0 := ⟨RX2, TX2, 9, tyX2, rfl, (by decide), zin2, tyX2_ok, nmX2, zTb_mem2 148 (by decide +kernel) rfl, (by decide +kernel), rfl, (fun h => by cases h)⟩
theorem flX2_41 : zFld RX2 41 2 8 .int 0 := ⟨RX2, TX2, 9, tyX2, rfl, (by decide), zin2, tyX2_ok, nmX2, zTb_mem2 149 (by decide +kernel) rfl, (by decide +kernel), rfl, (fun h => by cases h)⟩
theorem flX3_12 : zFld RX3 12 3 0 (.object "DarnedSock$State") 1 := ⟨RX3, TX3, 13, tyX3, rfl, (by decide), zin3, tyX3_ok, nmX3, zTb_mem2 169 (by decide +kernel) rfl, (by decide +kernel), rfl, (fun _ => rfl)⟩
theorem flX3_16 : zFld RX3 16 3 1 (.array (.object "DarnedSock$State")) 1 := ⟨RX3, TX3, 13, tyX3, rfl, (by decide), zin3, tyX3_ok, nmX3, zTb_mem2 170 (by decide +kernel) rfl, (by decide +kernel), rfl, (fun _ => rfl)⟩
theorem flX3_23 : zFld RX3 23 3 2 (.object "DarnedSock$Sock") 1 := ⟨RX3, TX3, 13, tyX3, rfl, (by decide), zin3, tyX3_ok, nmX3, zTb_mem2 171 (by decide +kernel) rfl, (by decide +kernel), rfl, (fun _ => rfl)⟩
theorem flX3_30 : zFld RX3 30 3 3 (.object "DarnedSock$Text") 1 := ⟨RX3, TX3, 13, tyX3, rfl, (by decide), zin3, tyX3_ok, nmX3, zTb_mem2 172 (by decide +kernel) rfl, (by decide +kernel), rfl, (fun _ => rfl)⟩
theorem flX3_34 : zFld RX3 34 3 4 (.array .int) 1 := ⟨RX3, TX3, 13, tyX3, rfl, (by decide), zin3, tyX3_ok, nmX3, zTb_mem2 173 (by decide +kernel) rfl, (by decide +kernel), rfl, (fun _ => rfl)⟩
theorem flX3_38 : zFld RX3 38 3 5 (.array .int) 1 := ⟨RX3, TX3, 13, tyX3, rfl, (by decide), zin3, tyX3_ok, nmX3, zTb_mem2 174 (by decide +kernel) rfl, (by decide +kernel), rfl, (fun _ => rfl)⟩
theorem flX3_41 : zFld RX3 41 3 6 (.array .int) 1 := ⟨RX3, TX3, 13, tyX3, rfl, (by decide), zin3, tyX3_ok, nmX3, zTb_mem2 175 (by decide +kernel) rfl, (by decide +kernel), rfl, (fun _ => rfl)⟩
theorem flX3_44 : zFld RX3 44 3 7 (.array .int) 1 := ⟨RX3, TX3, 13, tyX3, rfl, (by decide), zin3, tyX3_ok, nmX3, zTb_mem2 176 (by decide +kernel) rfl, (by decide +kernel), rfl, (fun _ => rfl)⟩
theorem flX3_47 : zFld RX3 47 3 8 .long 0 := ⟨RX3, TX3, 13, tyX3, rfl, (by decide), zin3, tyX3_ok, nmX3, zTb_mem2 177 (by decide +kernel) rfl, (by decide +kernel), rfl, (fun h => by cases h)⟩
theorem flX3_51 : zFld RX3 51 3 9 .long 0 := ⟨RX3, TX3, 13, tyX3, rfl, (by decide), zin3, tyX3_ok, nmX3, zTb_mem2 178 (by decide +kernel) rfl, (by decide +kernel), rfl, (fun h => by cases h)⟩
theorem flX3_248 : zFld RX3 248 3 10 .int 0 := ⟨RX3, TX3, 13, tyX3, rfl, (by decide), zin3, tyX3_ok, nmX3, zTb_mem2 179 (by decide +kernel) rfl, (by decide +kernel), rfl, (fun h => by cases h)⟩
theorem flX3_251 : zFld RX3 251 3 11 .int 0 := ⟨RX3, TX3, 13, tyX3, rfl, (by decide), zin3, tyX3_ok, nmX3, zTb_mem2 180 (by decide +kernel) rfl, (by decide +kernel), rfl, (fun h => by cases h)⟩
theorem flX3_254 : zFld RX3 254 3 12 .int 0 := ⟨RX3, TX3, 13, tyX3, rfl, (by decide), zin3, tyX3_ok, nmX3, zTb_mem2 181 (by decide +kernel) rfl, (by decide +kernel), rfl, (fun h => by cases h)⟩
theorem flX4_7 : zFld RX4 7 4 0 (.array .int) 1 := ⟨RX4, TX4, 18, tyX4, rfl, (by decide), zin4, tyX4_ok, nmX4, zTb_mem2 681 (by decide +kernel) rfl, (by decide +kernel), rfl, (fun _ => rfl)⟩
theorem flX4_13 : zFld RX4 13 4 1 (.array .boolean) 1 := ⟨RX4, TX4, 18, tyX4, rfl, (by decide), zin4, tyX4_ok, nmX4, zTb_mem2 682 (by decide +kernel) rfl, (by decide +kernel), rfl, (fun _ => rfl)⟩
theorem flX4_17 : zFld RX4 17 4 2 (.array .int) 1 := ⟨RX4, TX4, 18, tyX4, rfl, (by decide), zin4, tyX4_ok, nmX4, zTb_mem2 683 (by decide +kernel) rfl, (by decide +kernel), rfl, (fun _ => rfl)⟩
theorem flX4_115 : zFld RX4 115 4 3 .int 0 := ⟨RX4, TX4, 18, tyX4, rfl, (by decide), zin4, tyX4_ok, nmX4, zTb_mem2 684 (by decide +kernel) rfl, (by decide +kernel), rfl, (fun h => by cases h)⟩
theorem flX4_20 : zFld RX4 20 4 4 (.array .int) 1 := ⟨RX4, TX4, 18, tyX4, rfl, (by decide), zin4, tyX4_ok, nmX4, zTb_mem2 685 (by decide +kernel) rfl, (by decide +kernel), rfl, (fun _ => rfl)⟩
theorem flX4_196 : zFld RX4 196 4 5 .long 0 := ⟨RX4, TX4, 18, tyX4, rfl, (by decide), zin4, tyX4_ok, nmX4, zTb_mem2 686 (by decide +kernel) rfl, (by decide +kernel), rfl, (fun h => by cases h)⟩
theorem flX4_23 : zFld RX4 23 4 6 .long 0 := ⟨RX4, TX4, 18, tyX4, rfl, (by decide), zin4, tyX4_ok, nmX4, zTb_mem2 687 (by decide +kernel) rfl, (by decide +kernel), rfl, (fun h => by cases h)⟩
theorem flX4_119 : zFld RX4 119 4 7 .int 0 := ⟨RX4, TX4, 18, tyX4, rfl, (by decide), zin4, tyX4_ok, nmX4, zTb_mem2 688 (by decide +kernel) rfl, (by decide +kernel), rfl, (fun h => by cases h)⟩
theorem flX4_125 : zFld RX4 125 4 8 .int 0 := ⟨RX4, TX4, 18, tyX4, rfl, (by decide), zin4, tyX4_ok, nmX4, zTb_mem2 689 (by decide +kernel) rfl, (by decide +kernel), rfl, (fun h => by cases h)⟩
theorem flX4_132 : zFld RX4 132 4 9 .boolean 0 := ⟨RX4, TX4, 18, tyX4, rfl, (by decide), zin4, tyX4_ok, nmX4, zTb_mem2 690 (by decide +kernel) rfl, (by decide +kernel), rfl, (fun h => by cases h)⟩
theorem flX4_140 : zFld RX4 140 4 10 .boolean 0 := ⟨RX4, TX4, 18, tyX4, rfl, (by decide), zin4, tyX4_ok, nmX4, zTb_mem2 691 (by decide +kernel) rfl, (by decide +kernel), rfl, (fun h => by cases h)⟩
theorem flX4_27 : zFld RX4 27 4 11 (.array .int) 1 := ⟨RX4, TX4, 18, tyX4, rfl, (by decide), zin4, tyX4_ok, nmX4, zTb_mem2 692 (by decide +kernel) rfl, (by decide +kernel), rfl, (fun _ => rfl)⟩
theorem flX4_155 : zFld RX4 155 4 12 .int 0 := ⟨RX4, TX4, 18, tyX4, rfl, (by decide), zin4, tyX4_ok, nmX4, zTb_mem2 693 (by decide +kernel) rfl, (by decide +kernel), rfl, (fun h => by cases h)⟩
theorem flX4_30 : zFld RX4 30 4 13 (.array .int) 1 := ⟨RX4, TX4, 18, tyX4, rfl, (by decide), zin4, tyX4_ok, nmX4, zTb_mem2 694 (by decide +kernel) rfl, (by decide +kernel), rfl, (fun _ => rfl)⟩
theorem flX4_33 : zFld RX4 33 4 14 (.array .int) 1 := ⟨RX4, TX4, 18, tyX4, rfl, (by decide), zin4, tyX4_ok, nmX4, zTb_mem2 695 (by decide +kernel) rfl, (by decide +kernel), rfl, (fun _ => rfl)⟩
theorem flX4_228 : zFld RX4 228 4 15 .int 0 := ⟨RX4, TX4, 18, tyX4, rfl, (by decide), zin4, tyX4_ok, nmX4, zTb_mem2 696 (by decide +kernel) rfl, (by decide +kernel), rfl, (fun h => by cases h)⟩
theorem flX4_36 : zFld RX4 36 4 16 (.array .int) 1 := ⟨RX4, TX4, 18, tyX4, rfl, (by decide), zin4, tyX4_ok, nmX4, zTb_mem2 697 (by decide +kernel) rfl, (by decide +kernel), rfl, (fun _ => rfl)⟩
theorem flX4_261 : zFld RX4 261 4 17 .long 0 := ⟨RX4, TX4, 18, tyX4, rfl, (by decide), zin4, tyX4_ok, nmX4, zTb_mem2 698 (by decide +kernel) rfl, (by decide +kernel), rfl, (fun h => by cases h)⟩
theorem clL_7 : zCls RL 7 3 13 [.null, .null, .null, .null, .null, .null, .null, .null, .long 0, .long 0, .int 0, .int 0, .int 0] := ⟨RX3, TX3, tyX3, rfl, zin3, tyX3_ok, zTb_mem2 73 (by decide +kernel) rfl, zTb_mem2 74 (by decide +kernel) rfl, zTb_mem2 65 (by decide +kernel) rfl, by decide +kernel⟩
theorem ckL_7 : Cond.classLink RL 7 RX3 ∈ zTb := zTb_mem2 73 (by decide +kernel) rfl
theorem clX3_9 : zCls RX3 9 1 6 [.null, .null, .int 0, .null, .int 0, .int 0] := ⟨RX1, TX1, tyX1, rfl, zin1, tyX1_ok, zTb_mem2 81 (by decide +kernel) rfl, zTb_mem2 82 (by decide +kernel) rfl, zTb_mem2 66 (by decide +kernel) rfl, by decide +kernel⟩
theorem ckX3_9 : Cond.classLink RX3 9 RX1 ∈ zTb := zTb_mem2 81 (by decide +kernel) rfl
theorem clX1_9 : zCls RX1 9 0 3 [.null, .null, .null] := ⟨RX0, TX0, tyX0, rfl, zin0, tyX0_ok, zTb_mem2 87 (by decide +kernel) rfl, zTb_mem2 88 (by decide +kernel) rfl, zTb_mem2 67 (by decide +kernel) rfl, by decide +kernel⟩
theorem ckX1_9 : Cond.classLink RX1 9 RX0 ∈ zTb := zTb_mem2 87 (by decide +kernel) rfl
theorem clX3_20 : zCls RX3 20 0 3 [.null, .null, .null] := ⟨RX0, TX0, tyX0, rfl, zin0, tyX0_ok, zTb_mem2 130 (by decide +kernel) rfl, zTb_mem2 88 (by decide +kernel) rfl, zTb_mem2 67 (by decide +kernel) rfl, by decide +kernel⟩
theorem ckX3_20 : Cond.classLink RX3 20 RX0 ∈ zTb := zTb_mem2 130 (by decide +kernel) rfl
theorem clX3_27 : zCls RX3 27 2 9 [.null, .int 0, .null, .null, .int 0, .int 0, .int 0, .int 0, .int 0] := ⟨RX2, TX2, tyX2, rfl, zin2, tyX2_ok, zTb_mem2 132 (by decide +kernel) rfl, zTb_mem2 133 (by decide +kernel) rfl, zTb_mem2 68 (by decide +kernel) rfl, by decide +kernel⟩
theorem ckX3_27 : Cond.classLink RX3 27 RX2 ∈ zTb := zTb_mem2 132 (by decide +kernel) rfl
theorem clL_10 : zCls RL 10 4 18 [.null, .null, .null, .int 0, .null, .long 0, .long 0, .int 0, .int 0, .int 0, .int 0, .null, .int 0, .null, .null, .int 0, .null, .long 0] := ⟨RX4, TX4, tyX4, rfl, zin4, tyX4_ok, zTb_mem2 671 (by decide +kernel) rfl, zTb_mem2 672 (by decide +kernel) rfl, zTb_mem2 69 (by decide +kernel) rfl, by decide +kernel⟩
theorem ckL_10 : Cond.classLink RL 10 RX4 ∈ zTb := zTb_mem2 671 (by decide +kernel) rfl
theorem kcJ6_265 : Cond.constant RJ6 265 (1431655765) ∈ zTb := zTb_mem2 322 (by decide +kernel) rfl
theorem kcJ6_266 : Cond.constant RJ6 266 (858993459) ∈ zTb := zTb_mem2 323 (by decide +kernel) rfl
theorem kcJ6_267 : Cond.constant RJ6 267 (252645135) ∈ zTb := zTb_mem2 324 (by decide +kernel) rfl
theorem kcX3_234 : Cond.constant RX3 234 (999999) ∈ zTb := zTb_mem2 620 (by decide +kernel) rfl
theorem klX3_275 : Cond.constantLong RX3 275 (10) ∈ zTb := zTb_mem2 613 (by decide +kernel) rfl
theorem klX3_235 : Cond.constantLong RX3 235 (1103515245) ∈ zTb := zTb_mem2 621 (by decide +kernel) rfl
theorem klX3_237 : Cond.constantLong RX3 237 (12345) ∈ zTb := zTb_mem2 622 (by decide +kernel) rfl
theorem klX3_239 : Cond.constantLong RX3 239 (2147483648) ∈ zTb := zTb_mem2 623 (by decide +kernel) rfl
theorem klX3_241 : Cond.constantLong RX3 241 (65536) ∈ zTb := zTb_mem2 624 (by decide +kernel) rfl
theorem klX3_243 : Cond.constantLong RX3 243 (6) ∈ zTb := zTb_mem2 625 (by decide +kernel) rfl
theorem klX3_260 : Cond.constantLong RX3 260 (1061) ∈ zTb := zTb_mem2 659 (by decide +kernel) rfl
theorem klX3_262 : Cond.constantLong RX3 262 (31) ∈ zTb := zTb_mem2 660 (by decide +kernel) rfl
theorem klX0_112 : Cond.constantLong RX0 112 (31) ∈ zTb := zTb_mem2 665 (by decide +kernel) rfl
theorem klX1_70 : Cond.constantLong RX1 70 (31) ∈ zTb := zTb_mem2 670 (by decide +kernel) rfl
theorem klX4_63 : Cond.constantLong RX4 63 (99) ∈ zTb := zTb_mem2 741 (by decide +kernel) rfl
theorem klX4_43 : Cond.constantLong RX4 43 (8) ∈ zTb := zTb_mem2 760 (by decide +kernel) rfl
theorem klX4_53 : Cond.constantLong RX4 53 (5) ∈ zTb := zTb_mem2 761 (by decide +kernel) rfl
theorem klX4_55 : Cond.constantLong RX4 55 (2) ∈ zTb := zTb_mem2 769 (by decide +kernel) rfl
theorem klX4_57 : Cond.constantLong RX4 57 (30) ∈ zTb := zTb_mem2 770 (by decide +kernel) rfl
theorem klX4_101 : Cond.constantLong RX4 101 (20) ∈ zTb := zTb_mem2 806 (by decide +kernel) rfl
theorem klX4_113 : Cond.constantLong RX4 113 (127) ∈ zTb := zTb_mem2 829 (by decide +kernel) rfl
theorem klX4_128 : Cond.constantLong RX4 128 (97) ∈ zTb := zTb_mem2 846 (by decide +kernel) rfl
theorem klX4_130 : Cond.constantLong RX4 130 (122) ∈ zTb := zTb_mem2 847 (by decide +kernel) rfl
theorem klX4_136 : Cond.constantLong RX4 136 (48) ∈ zTb := zTb_mem2 848 (by decide +kernel) rfl
theorem klX4_138 : Cond.constantLong RX4 138 (57) ∈ zTb := zTb_mem2 849 (by decide +kernel) rfl
theorem klX4_176 : Cond.constantLong RX4 176 (3) ∈ zTb := zTb_mem2 892 (by decide +kernel) rfl
theorem klX4_187 : Cond.constantLong RX4 187 (40) ∈ zTb := zTb_mem2 909 (by decide +kernel) rfl
theorem klX4_234 : Cond.constantLong RX4 234 (511) ∈ zTb := zTb_mem2 1004 (by decide +kernel) rfl
theorem klX4_242 : Cond.constantLong RX4 242 (10) ∈ zTb := zTb_mem2 1021 (by decide +kernel) rfl
theorem klX4_244 : Cond.constantLong RX4 244 (999999) ∈ zTb := zTb_mem2 1026 (by decide +kernel) rfl
theorem klX4_246 : Cond.constantLong RX4 246 (1103515245) ∈ zTb := zTb_mem2 1027 (by decide +kernel) rfl
theorem klX4_248 : Cond.constantLong RX4 248 (12345) ∈ zTb := zTb_mem2 1028 (by decide +kernel) rfl
theorem klX4_250 : Cond.constantLong RX4 250 (2147483648) ∈ zTb := zTb_mem2 1029 (by decide +kernel) rfl
theorem klX4_252 : Cond.constantLong RX4 252 (65536) ∈ zTb := zTb_mem2 1030 (by decide +kernel) rfl
theorem klX4_254 : Cond.constantLong RX4 254 (6) ∈ zTb := zTb_mem2 1031 (by decide +kernel) rfl
theorem klX4_264 : Cond.constantLong RX4 264 (1061) ∈ zTb := zTb_mem2 1060 (by decide +kernel) rfl
theorem klX4_259 : Cond.constantLong RX4 259 (31) ∈ zTb := zTb_mem2 1065 (by decide +kernel) rfl
theorem ka_int : Cond.arrayClass .int ∈ zTb := zTb_mem2 106 (by decide +kernel) rfl
theorem ka_boolean : Cond.arrayClass .boolean ∈ zTb := zTb_mem2 736 (by decide +kernel) rfl
theorem ko_i : Cond.instanceMethod Lib.objectInit ∈ zTb := zTb_mem2 79 (by decide +kernel) rfl
theorem ko_c : Cond.code Lib.objectInit ⟨#[0xb1]⟩ 1 none ∈ zTb := zTb_mem2 80 (by decide +kernel) rfl
theorem kp_n : Cond.native arraycopyName ∈ zTb := zTb_mem2 270 (by decide +kernel) rfl
theorem kp_s : Cond.static arraycopyName ∈ zTb := zTb_mem2 269 (by decide +kernel) rfl
theorem kp_i : Cond.initialized "java/lang/System" ∈ zTb := zTb_mem2 70 (by decide +kernel) rfl
end
section
def updN (r : Nat → Nat) (k v : Nat) : Nat → Nat := fun j => if j = k then v else r j
theorem updN_s {r : Nat → Nat} {k v : Nat} : updN r k v k = v := by simp [updN]
theorem updN_n {r : Nat → Nat} {k v j : Nat} (h : j ≠ k) : updN r k v j = r j := by simp [updN, h]
abbrev zIN (G : zG) (n : Nat) (r : Nat → Nat) : va_E := zI G n (fun j => nI (r j))
abbrev zBN (G : zG) (n : Nat) (r : Nat → Nat) : va_E := zB G n (fun j => nI (r j))
theorem upd_nI (r : Nat → Nat) (k v : Nat) : upd (fun j => nI (r j)) k (nI v) = fun j => nI (updN r k v j) := by
  funext j
  by_cases h : j = k
  · simp [upd, updN, h]
  · simp [upd, updN, h]
/-- down a loop: from the last turn to the first -/
theorem zdown {P : Nat → Prop} (N : Nat) (h0 : P N) (hs : ∀ c, c < N → P (c + 1) → P c) : P 0 := by
  have h : ∀ n c, c + n = N → P c := by
    intro n
    induction n with
    | zero => intro c hc; rw [Nat.add_zero] at hc; rw [hc]; exact h0
    | succ n ih => intro c hc; exact hs c (by omega) (ih (c + 1) (by omega))
  exact h N 0 (by omega)
theorem zdownF {P : Nat → Prop} (N i0 : Nat) (hi : i0 ≤ N) (h0 : P N) (hs : ∀ c, i0 ≤ c → c < N → P (c + 1) → P c) : P i0 := by
  have h : ∀ n c, i0 ≤ c → c + n = N → P c := by
    intro n
    induction n with
    | zero => intro c _ hc; rw [Nat.add_zero] at hc; rw [hc]; exact h0
    | succ n ih => intro c h1 hc; exact hs c h1 (by omega) (ih (c + 1) (by omega) (by omega))
  exact h (N - i0) i0 (Nat.le_refl _) (by omega)
section ZN
variable {G : zG} {F : zF} {y : MethodName} {cc : ByteArray} {nL : Nat} {ret : Option FieldType} {own : String} {d n0 cells slots pc : Nat} {Q : State → Prop} {lv : List (Nat × Value)} {st : List Value} {M : List va_E}
theorem zgs {a : Nat} {e e' : va_E} (h : M[a]? = some e) : (M.set a e')[a]? = some e' := by
  have := (List.getElem?_eq_some_iff.mp h).1
  simp [this]
theorem zgn {a c : Nat} {e e' : va_E} (hn : c ≠ a) (h : M[a]? = some e) : (M.set c e')[a]? = some e := by
  rw [List.getElem?_set_ne hn]
  exact h
theorem zss {a : Nat} {e e' : va_E} : (M.set a e).set a e' = M.set a e' := List.set_set ..
theorem z_eq {st' : List Value} {lv' : List (Nat × Value)} {M' : List va_E} (h1 : lv = lv') (h2 : st = st') (h3 : M = M') (k : Z G F cells slots Q pc lv' st' M') : Z G F cells slots Q pc lv st M := by
  subst h1; subst h2; subst h3; exact k
theorem z_top {v v' : Value} (h : v = v') (k : Z G F cells slots Q pc lv (v' :: st) M) : Z G F cells slots Q pc lv (v :: st) M := by
  subst h; exact k
theorem z_top2 {u v v' : Value} (h : v = v') (k : Z G F cells slots Q pc lv (u :: v' :: st) M) : Z G F cells slots Q pc lv (u :: v :: st) M := by
  subst h; exact k
theorem z_M {M' : List va_E} (h : M = M') (k : Z G F cells slots Q pc lv st M') : Z G F cells slots Q pc lv st M := by
  subst h; exact k
theorem z_iaddN (O : zOk G F y cc nL ret own d n0) {a b : Nat} (hd : decode cc pc = .ok (.iadd, 1)) (k : Z G F cells slots Q (pc + 1) lv (.int (nI (a + b)) :: st) M) : Z G F cells slots Q (pc) lv (.int (nI b) :: .int (nI a) :: st) M := z_iadd O hd (by rw [nI_add]; exact k)
theorem z_imulN (O : zOk G F y cc nL ret own d n0) {a b : Nat} (hd : decode cc pc = .ok (.imul, 1)) (k : Z G F cells slots Q (pc + 1) lv (.int (nI (a * b)) :: st) M) : Z G F cells slots Q (pc) lv (.int (nI b) :: .int (nI a) :: st) M := z_imul O hd (by rw [pk_mul]; exact k)
theorem z_isubN (O : zOk G F y cc nL ret own d n0) {a b : Nat} (hd : decode cc pc = .ok (.isub, 1)) (h : b ≤ a) (k : Z G F cells slots Q (pc + 1) lv (.int (nI (a - b)) :: st) M) : Z G F cells slots Q (pc) lv (.int (nI b) :: .int (nI a) :: st) M := z_isub O hd (by rw [pk_sub h]; exact k)
theorem z_idivN (O : zOk G F y cc nL ret own d n0) {a b : Nat} (hd : decode cc pc = .ok (.idiv, 1)) (ha : a < 2 ^ 31) (h0 : 0 < b) (hb : b < 2 ^ 31) (k : Z G F cells slots Q (pc + 1) lv (.int (nI (a / b)) :: st) M) : Z G F cells slots Q (pc) lv (.int (nI b) :: .int (nI a) :: st) M := z_idiv O hd (nI_ne0 h0 hb) (by rw [pk_div ha h0 hb]; exact k)
theorem z_iremN (O : zOk G F y cc nL ret own d n0) {a b : Nat} (hd : decode cc pc = .ok (.irem, 1)) (ha : a < 2 ^ 31) (h0 : 0 < b) (hb : b < 2 ^ 31) (k : Z G F cells slots Q (pc + 1) lv (.int (nI (a % b)) :: st) M) : Z G F cells slots Q (pc) lv (.int (nI b) :: .int (nI a) :: st) M := z_irem O hd (nI_ne0 h0 hb) (by rw [pk_rem ha h0 hb]; exact k)
theorem z_i2lN (O : zOk G F y cc nL ret own d n0) {a : Nat} (hd : decode cc pc = .ok (.i2l, 1)) (ha : a < 2 ^ 31) (k : Z G F cells slots Q (pc + 1) lv (.long (lN a) :: st) M) : Z G F cells slots Q (pc) lv (.int (nI a) :: st) M := z_i2l O hd (by rw [nI_l ha]; exact k)
theorem z_l2iN (O : zOk G F y cc nL ret own d n0) {a : Nat} (hd : decode cc pc = .ok (.l2i, 1)) (k : Z G F cells slots Q (pc + 1) lv (.int (nI a) :: st) M) : Z G F cells slots Q (pc) lv (.long (lN a) :: st) M := z_l2i O hd (by rw [lN_i]; exact k)
theorem z_laddN (O : zOk G F y cc nL ret own d n0) {a b : Nat} (hd : decode cc pc = .ok (.ladd, 1)) (k : Z G F cells slots Q (pc + 1) lv (.long (lN (a + b)) :: st) M) : Z G F cells slots Q (pc) lv (.long (lN b) :: .long (lN a) :: st) M := z_ladd O hd (by rw [lN_add]; exact k)
theorem z_lmulN (O : zOk G F y cc nL ret own d n0) {a b : Nat} (hd : decode cc pc = .ok (.lmul, 1)) (k : Z G F cells slots Q (pc + 1) lv (.long (lN (a * b)) :: st) M) : Z G F cells slots Q (pc) lv (.long (lN b) :: .long (lN a) :: st) M := z_lmul O hd (by rw [lN_mul]; exact k)
theorem lN_ne0 {b : Nat} (h0 : 0 < b) (hb : b < 2 ^ 63) : ¬ lN b = 0 := fun h => by
  have h1 := (pk_lEQ hb (by omega : 0 < 2 ^ 63)).mp (show lN b = lN 0 from h)
  omega
theorem z_ldivN (O : zOk G F y cc nL ret own d n0) {a b : Nat} (hd : decode cc pc = .ok (.ldiv, 1)) (ha : a < 2 ^ 63) (h0 : 0 < b) (hb : b < 2 ^ 63) (k : Z G F cells slots Q (pc + 1) lv (.long (lN (a / b)) :: st) M) : Z G F cells slots Q (pc) lv (.long (lN b) :: .long (lN a) :: st) M := z_ldiv O hd (lN_ne0 h0 hb) (by rw [pk_lDiv ha h0 hb]; exact k)
theorem z_lremN (O : zOk G F y cc nL ret own d n0) {a b : Nat} (hd : decode cc pc = .ok (.lrem, 1)) (ha : a < 2 ^ 63) (h0 : 0 < b) (hb : b < 2 ^ 63) (k : Z G F cells slots Q (pc + 1) lv (.long (lN (a % b)) :: st) M) : Z G F cells slots Q (pc) lv (.long (lN b) :: .long (lN a) :: st) M := z_lrem O hd (lN_ne0 h0 hb) (by rw [pk_lRem ha h0 hb]; exact k)
theorem z_ialdN (O : zOk G F y cc nL ret own d n0) {a n i : Nat} {r : Nat → Nat} (hd : decode cc pc = .ok (.iaload, 1)) (he : M[a]? = some (zIN G n r)) (hin : i < n) (hn : n < 2 ^ 31) (k : Z G F cells slots Q (pc + 1) lv (.int (nI (r i)) :: st) M) : Z G F cells slots Q (pc) lv (.int (nI i) :: .ref (zad (zb G) a) :: st) M := z_iald O hd he (vp_in_nI hin hn) (by rw [nI_clamp (by omega)]; exact k)
theorem z_zaldN (O : zOk G F y cc nL ret own d n0) {a n i : Nat} {r : Nat → Nat} (hd : decode cc pc = .ok (.baload, 1)) (he : M[a]? = some (zBN G n r)) (hin : i < n) (hn : n < 2 ^ 31) (k : Z G F cells slots Q (pc + 1) lv (.int (nI (r i)) :: st) M) : Z G F cells slots Q (pc) lv (.int (nI i) :: .ref (zad (zb G) a) :: st) M := z_zald O hd he (vp_in_nI hin hn) (by rw [nI_clamp (by omega)]; exact k)
theorem z_iastN (O : zOk G F y cc nL ret own d n0) {a n i v : Nat} {r : Nat → Nat} (hc : n0 + cells = M.length) (hd : decode cc pc = .ok (.iastore, 1)) (he : M[a]? = some (zIN G n r)) (hin : i < n) (hn : n < 2 ^ 31) (k : Z G F cells slots Q (pc + 1) lv (st) (M.set a (zIN G n (updN r i v)))) : Z G F cells slots Q (pc) lv (.int (nI v) :: .int (nI i) :: .ref (zad (zb G) a) :: st) M := z_iast O hc hd he (vp_in_nI hin hn) (by rw [nI_clamp (by omega), upd_nI]; exact k)
theorem z_iincN (O : zOk G F y cc nL ret own d n0) {i : Nat} {n : Int} {a : Nat} (c0 : Nat) {lv' : List (Nat × Value)} (hd : decode cc pc = .ok (.iinc i n, 3)) (hn : i < nL) (hk : lv.lookup i = some (.int (nI a))) (hl' : zst1 lv i (.int (nI (a + c0))) = lv') (hc : Int32.ofInt n = nI c0) (k : Z G F cells slots Q (pc + 3) lv' (st) M) : Z G F cells slots Q (pc) lv (st) M := z_iinc O (nI c0) hd hn hk (by rw [nI_add]; exact hl') hc k
theorem nb : (2 : Nat) ^ 31 = 2147483648 := by decide
theorem z_icmp_eqN (O : zOk G F y cc nL ret own d n0) {a b : Nat} {off : Int} (tgt : Nat) (hd : decode cc pc = .ok (.if_icmp .eq off, 3)) (ht : (pc : Int) + off = (tgt : Int)) (ha : a < 2 ^ 31) (hb : b < 2 ^ 31) (kt : (a = b) → Z G F cells slots Q (tgt) lv (st) M) (kf : (¬ (a = b)) → Z G F cells slots Q (pc + 3) lv (st) M) : Z G F cells slots Q (pc) lv (.int (nI b) :: .int (nI a) :: st) M :=
  z_icmp_eq O tgt hd ht (fun h => kt ((nI_eq ha hb).mp h)) (fun h => kf (fun q => h ((nI_eq ha hb).mpr q)))
theorem z_icmp_neN (O : zOk G F y cc nL ret own d n0) {a b : Nat} {off : Int} (tgt : Nat) (hd : decode cc pc = .ok (.if_icmp .ne off, 3)) (ht : (pc : Int) + off = (tgt : Int)) (ha : a < 2 ^ 31) (hb : b < 2 ^ 31) (kt : (¬ a = b) → Z G F cells slots Q (tgt) lv (st) M) (kf : (a = b) → Z G F cells slots Q (pc + 3) lv (st) M) : Z G F cells slots Q (pc) lv (.int (nI b) :: .int (nI a) :: st) M :=
  z_icmp_ne O tgt hd ht (fun h => kt (fun q => h ((nI_eq ha hb).mpr q))) (fun h => kf ((nI_eq ha hb).mp h))
theorem z_icmp_ltN (O : zOk G F y cc nL ret own d n0) {a b : Nat} {off : Int} (tgt : Nat) (hd : decode cc pc = .ok (.if_icmp .lt off, 3)) (ht : (pc : Int) + off = (tgt : Int)) (ha : a < 2 ^ 31) (hb : b < 2 ^ 31) (kt : (a < b) → Z G F cells slots Q (tgt) lv (st) M) (kf : (¬ (a < b)) → Z G F cells slots Q (pc + 3) lv (st) M) : Z G F cells slots Q (pc) lv (.int (nI b) :: .int (nI a) :: st) M :=
  z_icmp_lt O tgt hd ht (fun h => kt ((nI_ltI ha hb).mp h)) (fun h => kf (fun q => h ((nI_ltI ha hb).mpr q)))
theorem z_icmp_geN (O : zOk G F y cc nL ret own d n0) {a b : Nat} {off : Int} (tgt : Nat) (hd : decode cc pc = .ok (.if_icmp .ge off, 3)) (ht : (pc : Int) + off = (tgt : Int)) (ha : a < 2 ^ 31) (hb : b < 2 ^ 31) (kt : (b ≤ a) → Z G F cells slots Q (tgt) lv (st) M) (kf : (¬ (b ≤ a)) → Z G F cells slots Q (pc + 3) lv (st) M) : Z G F cells slots Q (pc) lv (.int (nI b) :: .int (nI a) :: st) M :=
  z_icmp_ge O tgt hd ht (fun h => kt ((nI_leI hb ha).mp h)) (fun h => kf (fun q => h ((nI_leI hb ha).mpr q)))
theorem z_icmp_gtN (O : zOk G F y cc nL ret own d n0) {a b : Nat} {off : Int} (tgt : Nat) (hd : decode cc pc = .ok (.if_icmp .gt off, 3)) (ht : (pc : Int) + off = (tgt : Int)) (ha : a < 2 ^ 31) (hb : b < 2 ^ 31) (kt : (b < a) → Z G F cells slots Q (tgt) lv (st) M) (kf : (¬ (b < a)) → Z G F cells slots Q (pc + 3) lv (st) M) : Z G F cells slots Q (pc) lv (.int (nI b) :: .int (nI a) :: st) M :=
  z_icmp_gt O tgt hd ht (fun h => kt ((nI_ltI hb ha).mp h)) (fun h => kf (fun q => h ((nI_ltI hb ha).mpr q)))
theorem z_icmp_leN (O : zOk G F y cc nL ret own d n0) {a b : Nat} {off : Int} (tgt : Nat) (hd : decode cc pc = .ok (.if_icmp .le off, 3)) (ht : (pc : Int) + off = (tgt : Int)) (ha : a < 2 ^ 31) (hb : b < 2 ^ 31) (kt : (a ≤ b) → Z G F cells slots Q (tgt) lv (st) M) (kf : (¬ (a ≤ b)) → Z G F cells slots Q (pc + 3) lv (st) M) : Z G F cells slots Q (pc) lv (.int (nI b) :: .int (nI a) :: st) M :=
  z_icmp_le O tgt hd ht (fun h => kt ((nI_leI ha hb).mp h)) (fun h => kf (fun q => h ((nI_leI ha hb).mpr q)))
theorem z_if_eqN (O : zOk G F y cc nL ret own d n0) {a : Nat} {off : Int} (tgt : Nat) (hd : decode cc pc = .ok (.ifCond .eq off, 3)) (ht : (pc : Int) + off = (tgt : Int)) (ha : a < 2 ^ 31) (kt : (a = 0) → Z G F cells slots Q (tgt) lv (st) M) (kf : (¬ a = 0) → Z G F cells slots Q (pc + 3) lv (st) M) : Z G F cells slots Q (pc) lv (.int (nI a) :: st) M :=
  z_if_eq O tgt hd ht (fun h => kt ((nI_eq ha (by decide : 0 < 2 ^ 31)).mp h)) (fun h => kf (fun q => h ((nI_eq ha (by decide : 0 < 2 ^ 31)).mpr q)))
theorem z_if_neN (O : zOk G F y cc nL ret own d n0) {a : Nat} {off : Int} (tgt : Nat) (hd : decode cc pc = .ok (.ifCond .ne off, 3)) (ht : (pc : Int) + off = (tgt : Int)) (ha : a < 2 ^ 31) (kt : (¬ a = 0) → Z G F cells slots Q (tgt) lv (st) M) (kf : (a = 0) → Z G F cells slots Q (pc + 3) lv (st) M) : Z G F cells slots Q (pc) lv (.int (nI a) :: st) M :=
  z_if_ne O tgt hd ht (fun h => kt (fun q => h ((nI_eq ha (by decide : 0 < 2 ^ 31)).mpr q))) (fun h => kf ((nI_eq ha (by decide : 0 < 2 ^ 31)).mp h))
theorem z_if_leN (O : zOk G F y cc nL ret own d n0) {a : Nat} {off : Int} (tgt : Nat) (hd : decode cc pc = .ok (.ifCond .le off, 3)) (ht : (pc : Int) + off = (tgt : Int)) (ha : a < 2 ^ 31) (kt : (a = 0) → Z G F cells slots Q (tgt) lv (st) M) (kf : (¬ a = 0) → Z G F cells slots Q (pc + 3) lv (st) M) : Z G F cells slots Q (pc) lv (.int (nI a) :: st) M :=
  z_if_le O tgt hd ht (fun h => kt (Nat.le_zero.mp ((nI_leI ha (by decide : 0 < 2 ^ 31)).mp h))) (fun h => kf (fun q => h ((nI_leI ha (by decide : 0 < 2 ^ 31)).mpr (Nat.le_zero.mpr q))))
theorem z_if_gtN (O : zOk G F y cc nL ret own d n0) {a : Nat} {off : Int} (tgt : Nat) (hd : decode cc pc = .ok (.ifCond .gt off, 3)) (ht : (pc : Int) + off = (tgt : Int)) (ha : a < 2 ^ 31) (kt : (0 < a) → Z G F cells slots Q (tgt) lv (st) M) (kf : (¬ 0 < a) → Z G F cells slots Q (pc + 3) lv (st) M) : Z G F cells slots Q (pc) lv (.int (nI a) :: st) M :=
  z_if_gt O tgt hd ht (fun h => kt ((nI_ltI (by decide : 0 < 2 ^ 31) ha).mp h)) (fun h => kf (fun q => h ((nI_ltI (by decide : 0 < 2 ^ 31) ha).mpr q)))
theorem z_if_ltN (O : zOk G F y cc nL ret own d n0) {a : Nat} {off : Int} (hd : decode cc pc = .ok (.ifCond .lt off, 3)) (tgt : Nat) (ht : (pc : Int) + off = (tgt : Int)) (ha : a < 2 ^ 31) (kf : Z G F cells slots Q (pc + 3) lv (st) M) : Z G F cells slots Q (pc) lv (.int (nI a) :: st) M :=
  z_if_lt O tgt hd ht (fun h => absurd h (nI_pos ha)) (fun _ => kf)
theorem z_if_geN (O : zOk G F y cc nL ret own d n0) {a : Nat} {off : Int} (tgt : Nat) (hd : decode cc pc = .ok (.ifCond .ge off, 3)) (ht : (pc : Int) + off = (tgt : Int)) (ha : a < 2 ^ 31) (kt : Z G F cells slots Q (tgt) lv (st) M) : Z G F cells slots Q (pc) lv (.int (nI a) :: st) M :=
  z_if_ge O tgt hd ht (fun _ => kt) (fun h => absurd (nI_pos' ha) h)
/-- a truth as the machine has it -/
def bI (p : Prop) [Decidable p] : Int32 := if p then 1 else 0
theorem bI_t {p : Prop} [Decidable p] (h : p) : bI p = 1 := if_pos h
theorem bI_f {p : Prop} [Decidable p] (h : ¬ p) : bI p = 0 := if_neg h
theorem bI_congr {p q : Prop} [Decidable p] [Decidable q] (h : p ↔ q) : bI p = bI q := by
  by_cases hp : p
  · rw [bI_t hp, bI_t (h.mp hp)]
  · rw [bI_f hp, bI_f (fun x => hp (h.mpr x))]
theorem bI_nar {p : Prop} [Decidable p] : narrow .boolean (.int (bI p)) = .int (bI p) := by
  by_cases h : p
  · rw [bI_t h]; rfl
  · rw [bI_f h]; rfl
theorem bI_fit {p : Prop} [Decidable p] : fits .boolean (.int (bI p)) = true := by
  by_cases h : p
  · rw [bI_t h]; rfl
  · rw [bI_f h]; rfl
theorem z_if_eqB (O : zOk G F y cc nL ret own d n0) {p : Prop} [Decidable p] {off : Int} (tgt : Nat) (hd : decode cc pc = .ok (.ifCond .eq off, 3)) (ht : (pc : Int) + off = (tgt : Int)) (kt : ¬ p → Z G F cells slots Q (tgt) lv (st) M) (kf : p → Z G F cells slots Q (pc + 3) lv (st) M) : Z G F cells slots Q (pc) lv (.int (bI p) :: st) M :=
  z_if_eq O tgt hd ht (fun h => kt (fun hp => by rw [bI_t hp] at h; exact absurd h (by decide))) (fun h => kf (by by_cases hp : p; exact hp; exact absurd (bI_f hp) h))
theorem z_if_neB (O : zOk G F y cc nL ret own d n0) {p : Prop} [Decidable p] {off : Int} (tgt : Nat) (hd : decode cc pc = .ok (.ifCond .ne off, 3)) (ht : (pc : Int) + off = (tgt : Int)) (kt : p → Z G F cells slots Q (tgt) lv (st) M) (kf : ¬ p → Z G F cells slots Q (pc + 3) lv (st) M) : Z G F cells slots Q (pc) lv (.int (bI p) :: st) M :=
  z_if_ne O tgt hd ht (fun h => kt (by by_cases hp : p; exact hp; exact absurd (bI_f hp) h)) (fun h => kf (fun hp => by rw [bI_t hp] at h; exact absurd h (by decide)))
variable {y' : MethodName} {cc' : ByteArray} {nL' idx d' : Nat} {ret' : Option FieldType}
theorem z_V0e0 (O : zOk G F y cc nL ret own d n0) {a ci N : Nat} {C : String} {T : u_T} {fs : List Value} {x : Value} {M1 : List va_E} (hM : zS G d' y' cc' nL' ret' (.ref (zad (zb G) a) :: []) M 0 0 (zE x M1)) (hk : zMv y' cc' nL' ret' 0 C) (hl1 : Cond.methodLink own idx y' ∈ zTb) (hci : vwCl[ci]? = some (C, T, N)) (he : M[a]? = some (.inr (ci, fs))) (hd : decode cc pc = .ok (.invokevirtual idx, 3)) (hr : (st.map fun v => v.category).sum ≤ 8) (hdd : d' + 1 ≤ d) (k : Z G F 0 0 Q (pc + 3) lv (x :: st) M1) : Z G F 0 0 Q pc lv (.ref (zad (zb G) a) :: st) M :=
  z_V0e O hM hk hl1 hci he hd hr hdd ⟨Nat.zero_le _, Nat.zero_le _⟩ k
theorem z_V0u0 (O : zOk G F y cc nL ret own d n0) {a ci N : Nat} {C : String} {T : u_T} {fs : List Value} {M1 : List va_E} (hM : zS G d' y' cc' nL' ret' (.ref (zad (zb G) a) :: []) M 0 0 (zU M1)) (hk : zMv y' cc' nL' ret' 0 C) (hl1 : Cond.methodLink own idx y' ∈ zTb) (hci : vwCl[ci]? = some (C, T, N)) (he : M[a]? = some (.inr (ci, fs))) (hd : decode cc pc = .ok (.invokevirtual idx, 3)) (hr : (st.map fun v => v.category).sum ≤ 8) (hdd : d' + 1 ≤ d) (k : Z G F 0 0 Q (pc + 3) lv st M1) : Z G F 0 0 Q pc lv (.ref (zad (zb G) a) :: st) M :=
  z_V0u O hM hk hl1 hci he hd hr hdd ⟨Nat.zero_le _, Nat.zero_le _⟩ k
theorem z_V0p0 (O : zOk G F y cc nL ret own d n0) {a ci N : Nat} {C : String} {T : u_T} {fs : List Value} {Q2 : Value → List va_E → Prop} (hM : zS G d' y' cc' nL' ret' (.ref (zad (zb G) a) :: []) M 0 0 (zP Q2)) (hk : zMv y' cc' nL' ret' 0 C) (hl1 : Cond.methodLink own idx y' ∈ zTb) (hci : vwCl[ci]? = some (C, T, N)) (he : M[a]? = some (.inr (ci, fs))) (hd : decode cc pc = .ok (.invokevirtual idx, 3)) (hr : (st.map fun v => v.category).sum ≤ 8) (hdd : d' + 1 ≤ d) (k : ∀ x M', Q2 x M' → Z G F 0 0 Q (pc + 3) lv (x :: st) M') : Z G F 0 0 Q pc lv (.ref (zad (zb G) a) :: st) M :=
  z_V0p O hM hk hl1 hci he hd hr hdd ⟨Nat.zero_le _, Nat.zero_le _⟩ k
theorem z_V0pu0 (O : zOk G F y cc nL ret own d n0) {a ci N : Nat} {C : String} {T : u_T} {fs : List Value} {Q2 : List va_E → Prop} (hM : zS G d' y' cc' nL' ret' (.ref (zad (zb G) a) :: []) M 0 0 (zPU Q2)) (hk : zMv y' cc' nL' ret' 0 C) (hl1 : Cond.methodLink own idx y' ∈ zTb) (hci : vwCl[ci]? = some (C, T, N)) (he : M[a]? = some (.inr (ci, fs))) (hd : decode cc pc = .ok (.invokevirtual idx, 3)) (hr : (st.map fun v => v.category).sum ≤ 8) (hdd : d' + 1 ≤ d) (k : ∀ M', Q2 M' → Z G F 0 0 Q (pc + 3) lv st M') : Z G F 0 0 Q pc lv (.ref (zad (zb G) a) :: st) M :=
  z_V0pu O hM hk hl1 hci he hd hr hdd ⟨Nat.zero_le _, Nat.zero_le _⟩ k
theorem z_V1e0 (O : zOk G F y cc nL ret own d n0) {a ci N : Nat} {C : String} {T : u_T} {fs : List Value} {x1 : Value} {x : Value} {M1 : List va_E} (hM : zS G d' y' cc' nL' ret' (.ref (zad (zb G) a) :: [x1]) M 0 0 (zE x M1)) (hk : zMv y' cc' nL' ret' 1 C) (hl1 : Cond.methodLink own idx y' ∈ zTb) (hci : vwCl[ci]? = some (C, T, N)) (he : M[a]? = some (.inr (ci, fs))) (hd : decode cc pc = .ok (.invokevirtual idx, 3)) (hr : (st.map fun v => v.category).sum ≤ 8) (hdd : d' + 1 ≤ d) (k : Z G F 0 0 Q (pc + 3) lv (x :: st) M1) : Z G F 0 0 Q pc lv (x1 :: .ref (zad (zb G) a) :: st) M :=
  z_V1e O hM hk hl1 hci he hd hr hdd ⟨Nat.zero_le _, Nat.zero_le _⟩ k
theorem z_S1e0 (O : zOk G F y cc nL ret own d n0) {x1 : Value} {x : Value} {M1 : List va_E} (hM : zS G d' y' cc' nL' ret' [x1] M 0 0 (zE x M1)) (hk : zMs y' cc' nL' ret' 1) (hl1 : Cond.methodLink own idx y' ∈ zTb) (hd : decode cc pc = .ok (.invokestatic idx, 3)) (hr : (st.map fun v => v.category).sum ≤ 8) (hdd : d' + 1 ≤ d) (k : Z G F 0 0 Q (pc + 3) lv (x :: st) M1) : Z G F 0 0 Q pc lv (x1 :: st) M :=
  z_S1e O hM hk hl1 hd hr hdd ⟨Nat.zero_le _, Nat.zero_le _⟩ k
theorem z_SN1e0 (O : zOk G F y cc nL ret own d n0) {x1 : Value} {x : Value} {M1 : List va_E} (hM : zS G d' y' cc' nL' ret' [x1] M 0 0 (zE x M1)) (hk : zMs y' cc' nL' ret' 1) (hl1 : (own, idx, y', RX3) ∈ zNm) (hd : decode cc pc = .ok (.invokestatic idx, 3)) (hr : (st.map fun v => v.category).sum ≤ 8) (hdd : d' + 1 ≤ d) (k : Z G F 0 0 Q (pc + 3) lv (x :: st) M1) : Z G F 0 0 Q pc lv (x1 :: st) M :=
  z_SN1e O hM hk hl1 hd hr hdd ⟨Nat.zero_le _, Nat.zero_le _⟩ k
theorem z_V1u0 (O : zOk G F y cc nL ret own d n0) {a ci N : Nat} {C : String} {T : u_T} {fs : List Value} {x1 : Value} {M1 : List va_E} (hM : zS G d' y' cc' nL' ret' (.ref (zad (zb G) a) :: [x1]) M 0 0 (zU M1)) (hk : zMv y' cc' nL' ret' 1 C) (hl1 : Cond.methodLink own idx y' ∈ zTb) (hci : vwCl[ci]? = some (C, T, N)) (he : M[a]? = some (.inr (ci, fs))) (hd : decode cc pc = .ok (.invokevirtual idx, 3)) (hr : (st.map fun v => v.category).sum ≤ 8) (hdd : d' + 1 ≤ d) (k : Z G F 0 0 Q (pc + 3) lv st M1) : Z G F 0 0 Q pc lv (x1 :: .ref (zad (zb G) a) :: st) M :=
  z_V1u O hM hk hl1 hci he hd hr hdd ⟨Nat.zero_le _, Nat.zero_le _⟩ k
theorem z_S1u0 (O : zOk G F y cc nL ret own d n0) {x1 : Value} {M1 : List va_E} (hM : zS G d' y' cc' nL' ret' [x1] M 0 0 (zU M1)) (hk : zMs y' cc' nL' ret' 1) (hl1 : Cond.methodLink own idx y' ∈ zTb) (hd : decode cc pc = .ok (.invokestatic idx, 3)) (hr : (st.map fun v => v.category).sum ≤ 8) (hdd : d' + 1 ≤ d) (k : Z G F 0 0 Q (pc + 3) lv st M1) : Z G F 0 0 Q pc lv (x1 :: st) M :=
  z_S1u O hM hk hl1 hd hr hdd ⟨Nat.zero_le _, Nat.zero_le _⟩ k
theorem z_V1p0 (O : zOk G F y cc nL ret own d n0) {a ci N : Nat} {C : String} {T : u_T} {fs : List Value} {x1 : Value} {Q2 : Value → List va_E → Prop} (hM : zS G d' y' cc' nL' ret' (.ref (zad (zb G) a) :: [x1]) M 0 0 (zP Q2)) (hk : zMv y' cc' nL' ret' 1 C) (hl1 : Cond.methodLink own idx y' ∈ zTb) (hci : vwCl[ci]? = some (C, T, N)) (he : M[a]? = some (.inr (ci, fs))) (hd : decode cc pc = .ok (.invokevirtual idx, 3)) (hr : (st.map fun v => v.category).sum ≤ 8) (hdd : d' + 1 ≤ d) (k : ∀ x M', Q2 x M' → Z G F 0 0 Q (pc + 3) lv (x :: st) M') : Z G F 0 0 Q pc lv (x1 :: .ref (zad (zb G) a) :: st) M :=
  z_V1p O hM hk hl1 hci he hd hr hdd ⟨Nat.zero_le _, Nat.zero_le _⟩ k
theorem z_S1p0 (O : zOk G F y cc nL ret own d n0) {x1 : Value} {Q2 : Value → List va_E → Prop} (hM : zS G d' y' cc' nL' ret' [x1] M 0 0 (zP Q2)) (hk : zMs y' cc' nL' ret' 1) (hl1 : Cond.methodLink own idx y' ∈ zTb) (hd : decode cc pc = .ok (.invokestatic idx, 3)) (hr : (st.map fun v => v.category).sum ≤ 8) (hdd : d' + 1 ≤ d) (k : ∀ x M', Q2 x M' → Z G F 0 0 Q (pc + 3) lv (x :: st) M') : Z G F 0 0 Q pc lv (x1 :: st) M :=
  z_S1p O hM hk hl1 hd hr hdd ⟨Nat.zero_le _, Nat.zero_le _⟩ k
theorem z_V1pu0 (O : zOk G F y cc nL ret own d n0) {a ci N : Nat} {C : String} {T : u_T} {fs : List Value} {x1 : Value} {Q2 : List va_E → Prop} (hM : zS G d' y' cc' nL' ret' (.ref (zad (zb G) a) :: [x1]) M 0 0 (zPU Q2)) (hk : zMv y' cc' nL' ret' 1 C) (hl1 : Cond.methodLink own idx y' ∈ zTb) (hci : vwCl[ci]? = some (C, T, N)) (he : M[a]? = some (.inr (ci, fs))) (hd : decode cc pc = .ok (.invokevirtual idx, 3)) (hr : (st.map fun v => v.category).sum ≤ 8) (hdd : d' + 1 ≤ d) (k : ∀ M', Q2 M' → Z G F 0 0 Q (pc + 3) lv st M') : Z G F 0 0 Q pc lv (x1 :: .ref (zad (zb G) a) :: st) M :=
  z_V1pu O hM hk hl1 hci he hd hr hdd ⟨Nat.zero_le _, Nat.zero_le _⟩ k
theorem z_S1pu0 (O : zOk G F y cc nL ret own d n0) {x1 : Value} {Q2 : List va_E → Prop} (hM : zS G d' y' cc' nL' ret' [x1] M 0 0 (zPU Q2)) (hk : zMs y' cc' nL' ret' 1) (hl1 : Cond.methodLink own idx y' ∈ zTb) (hd : decode cc pc = .ok (.invokestatic idx, 3)) (hr : (st.map fun v => v.category).sum ≤ 8) (hdd : d' + 1 ≤ d) (k : ∀ M', Q2 M' → Z G F 0 0 Q (pc + 3) lv st M') : Z G F 0 0 Q pc lv (x1 :: st) M :=
  z_S1pu O hM hk hl1 hd hr hdd ⟨Nat.zero_le _, Nat.zero_le _⟩ k
theorem z_V2e0 (O : zOk G F y cc nL ret own d n0) {a ci N : Nat} {C : String} {T : u_T} {fs : List Value} {x1 x2 : Value} {x : Value} {M1 : List va_E} (hM : zS G d' y' cc' nL' ret' (.ref (zad (zb G) a) :: [x1, x2]) M 0 0 (zE x M1)) (hk : zMv y' cc' nL' ret' 2 C) (hl1 : Cond.methodLink own idx y' ∈ zTb) (hci : vwCl[ci]? = some (C, T, N)) (he : M[a]? = some (.inr (ci, fs))) (hd : decode cc pc = .ok (.invokevirtual idx, 3)) (hr : (st.map fun v => v.category).sum ≤ 8) (hdd : d' + 1 ≤ d) (k : Z G F 0 0 Q (pc + 3) lv (x :: st) M1) : Z G F 0 0 Q pc lv (x2 :: x1 :: .ref (zad (zb G) a) :: st) M :=
  z_V2e O hM hk hl1 hci he hd hr hdd ⟨Nat.zero_le _, Nat.zero_le _⟩ k
theorem z_S2e0 (O : zOk G F y cc nL ret own d n0) {x1 x2 : Value} {x : Value} {M1 : List va_E} (hM : zS G d' y' cc' nL' ret' [x1, x2] M 0 0 (zE x M1)) (hk : zMs y' cc' nL' ret' 2) (hl1 : Cond.methodLink own idx y' ∈ zTb) (hd : decode cc pc = .ok (.invokestatic idx, 3)) (hr : (st.map fun v => v.category).sum ≤ 8) (hdd : d' + 1 ≤ d) (k : Z G F 0 0 Q (pc + 3) lv (x :: st) M1) : Z G F 0 0 Q pc lv (x2 :: x1 :: st) M :=
  z_S2e O hM hk hl1 hd hr hdd ⟨Nat.zero_le _, Nat.zero_le _⟩ k
theorem z_SN2e0 (O : zOk G F y cc nL ret own d n0) {x1 x2 : Value} {x : Value} {M1 : List va_E} (hM : zS G d' y' cc' nL' ret' [x1, x2] M 0 0 (zE x M1)) (hk : zMs y' cc' nL' ret' 2) (hl1 : (own, idx, y', RX3) ∈ zNm) (hd : decode cc pc = .ok (.invokestatic idx, 3)) (hr : (st.map fun v => v.category).sum ≤ 8) (hdd : d' + 1 ≤ d) (k : Z G F 0 0 Q (pc + 3) lv (x :: st) M1) : Z G F 0 0 Q pc lv (x2 :: x1 :: st) M :=
  z_SN2e O hM hk hl1 hd hr hdd ⟨Nat.zero_le _, Nat.zero_le _⟩ k
theorem z_V2u0 (O : zOk G F y cc nL ret own d n0) {a ci N : Nat} {C : String} {T : u_T} {fs : List Value} {x1 x2 : Value} {M1 : List va_E} (hM : zS G d' y' cc' nL' ret' (.ref (zad (zb G) a) :: [x1, x2]) M 0 0 (zU M1)) (hk : zMv y' cc' nL' ret' 2 C) (hl1 : Cond.methodLink own idx y' ∈ zTb) (hci : vwCl[ci]? = some (C, T, N)) (he : M[a]? = some (.inr (ci, fs))) (hd : decode cc pc = .ok (.invokevirtual idx, 3)) (hr : (st.map fun v => v.category).sum ≤ 8) (hdd : d' + 1 ≤ d) (k : Z G F 0 0 Q (pc + 3) lv st M1) : Z G F 0 0 Q pc lv (x2 :: x1 :: .ref (zad (zb G) a) :: st) M :=
  z_V2u O hM hk hl1 hci he hd hr hdd ⟨Nat.zero_le _, Nat.zero_le _⟩ k
theorem z_S2u0 (O : zOk G F y cc nL ret own d n0) {x1 x2 : Value} {M1 : List va_E} (hM : zS G d' y' cc' nL' ret' [x1, x2] M 0 0 (zU M1)) (hk : zMs y' cc' nL' ret' 2) (hl1 : Cond.methodLink own idx y' ∈ zTb) (hd : decode cc pc = .ok (.invokestatic idx, 3)) (hr : (st.map fun v => v.category).sum ≤ 8) (hdd : d' + 1 ≤ d) (k : Z G F 0 0 Q (pc + 3) lv st M1) : Z G F 0 0 Q pc lv (x2 :: x1 :: st) M :=
  z_S2u O hM hk hl1 hd hr hdd ⟨Nat.zero_le _, Nat.zero_le _⟩ k
theorem z_V2p0 (O : zOk G F y cc nL ret own d n0) {a ci N : Nat} {C : String} {T : u_T} {fs : List Value} {x1 x2 : Value} {Q2 : Value → List va_E → Prop} (hM : zS G d' y' cc' nL' ret' (.ref (zad (zb G) a) :: [x1, x2]) M 0 0 (zP Q2)) (hk : zMv y' cc' nL' ret' 2 C) (hl1 : Cond.methodLink own idx y' ∈ zTb) (hci : vwCl[ci]? = some (C, T, N)) (he : M[a]? = some (.inr (ci, fs))) (hd : decode cc pc = .ok (.invokevirtual idx, 3)) (hr : (st.map fun v => v.category).sum ≤ 8) (hdd : d' + 1 ≤ d) (k : ∀ x M', Q2 x M' → Z G F 0 0 Q (pc + 3) lv (x :: st) M') : Z G F 0 0 Q pc lv (x2 :: x1 :: .ref (zad (zb G) a) :: st) M :=
  z_V2p O hM hk hl1 hci he hd hr hdd ⟨Nat.zero_le _, Nat.zero_le _⟩ k
theorem z_S2p0 (O : zOk G F y cc nL ret own d n0) {x1 x2 : Value} {Q2 : Value → List va_E → Prop} (hM : zS G d' y' cc' nL' ret' [x1, x2] M 0 0 (zP Q2)) (hk : zMs y' cc' nL' ret' 2) (hl1 : Cond.methodLink own idx y' ∈ zTb) (hd : decode cc pc = .ok (.invokestatic idx, 3)) (hr : (st.map fun v => v.category).sum ≤ 8) (hdd : d' + 1 ≤ d) (k : ∀ x M', Q2 x M' → Z G F 0 0 Q (pc + 3) lv (x :: st) M') : Z G F 0 0 Q pc lv (x2 :: x1 :: st) M :=
  z_S2p O hM hk hl1 hd hr hdd ⟨Nat.zero_le _, Nat.zero_le _⟩ k
theorem z_V2pu0 (O : zOk G F y cc nL ret own d n0) {a ci N : Nat} {C : String} {T : u_T} {fs : List Value} {x1 x2 : Value} {Q2 : List va_E → Prop} (hM : zS G d' y' cc' nL' ret' (.ref (zad (zb G) a) :: [x1, x2]) M 0 0 (zPU Q2)) (hk : zMv y' cc' nL' ret' 2 C) (hl1 : Cond.methodLink own idx y' ∈ zTb) (hci : vwCl[ci]? = some (C, T, N)) (he : M[a]? = some (.inr (ci, fs))) (hd : decode cc pc = .ok (.invokevirtual idx, 3)) (hr : (st.map fun v => v.category).sum ≤ 8) (hdd : d' + 1 ≤ d) (k : ∀ M', Q2 M' → Z G F 0 0 Q (pc + 3) lv st M') : Z G F 0 0 Q pc lv (x2 :: x1 :: .ref (zad (zb G) a) :: st) M :=
  z_V2pu O hM hk hl1 hci he hd hr hdd ⟨Nat.zero_le _, Nat.zero_le _⟩ k
theorem z_S2pu0 (O : zOk G F y cc nL ret own d n0) {x1 x2 : Value} {Q2 : List va_E → Prop} (hM : zS G d' y' cc' nL' ret' [x1, x2] M 0 0 (zPU Q2)) (hk : zMs y' cc' nL' ret' 2) (hl1 : Cond.methodLink own idx y' ∈ zTb) (hd : decode cc pc = .ok (.invokestatic idx, 3)) (hr : (st.map fun v => v.category).sum ≤ 8) (hdd : d' + 1 ≤ d) (k : ∀ M', Q2 M' → Z G F 0 0 Q (pc + 3) lv st M') : Z G F 0 0 Q pc lv (x2 :: x1 :: st) M :=
  z_S2pu O hM hk hl1 hd hr hdd ⟨Nat.zero_le _, Nat.zero_le _⟩ k
theorem z_V3e0 (O : zOk G F y cc nL ret own d n0) {a ci N : Nat} {C : String} {T : u_T} {fs : List Value} {x1 x2 x3 : Value} {x : Value} {M1 : List va_E} (hM : zS G d' y' cc' nL' ret' (.ref (zad (zb G) a) :: [x1, x2, x3]) M 0 0 (zE x M1)) (hk : zMv y' cc' nL' ret' 3 C) (hl1 : Cond.methodLink own idx y' ∈ zTb) (hci : vwCl[ci]? = some (C, T, N)) (he : M[a]? = some (.inr (ci, fs))) (hd : decode cc pc = .ok (.invokevirtual idx, 3)) (hr : (st.map fun v => v.category).sum ≤ 8) (hdd : d' + 1 ≤ d) (k : Z G F 0 0 Q (pc + 3) lv (x :: st) M1) : Z G F 0 0 Q pc lv (x3 :: x2 :: x1 :: .ref (zad (zb G) a) :: st) M :=
  z_V3e O hM hk hl1 hci he hd hr hdd ⟨Nat.zero_le _, Nat.zero_le _⟩ k
theorem z_S3e0 (O : zOk G F y cc nL ret own d n0) {x1 x2 x3 : Value} {x : Value} {M1 : List va_E} (hM : zS G d' y' cc' nL' ret' [x1, x2, x3] M 0 0 (zE x M1)) (hk : zMs y' cc' nL' ret' 3) (hl1 : Cond.methodLink own idx y' ∈ zTb) (hd : decode cc pc = .ok (.invokestatic idx, 3)) (hr : (st.map fun v => v.category).sum ≤ 8) (hdd : d' + 1 ≤ d) (k : Z G F 0 0 Q (pc + 3) lv (x :: st) M1) : Z G F 0 0 Q pc lv (x3 :: x2 :: x1 :: st) M :=
  z_S3e O hM hk hl1 hd hr hdd ⟨Nat.zero_le _, Nat.zero_le _⟩ k
theorem z_SN3e0 (O : zOk G F y cc nL ret own d n0) {x1 x2 x3 : Value} {x : Value} {M1 : List va_E} (hM : zS G d' y' cc' nL' ret' [x1, x2, x3] M 0 0 (zE x M1)) (hk : zMs y' cc' nL' ret' 3) (hl1 : (own, idx, y', RX3) ∈ zNm) (hd : decode cc pc = .ok (.invokestatic idx, 3)) (hr : (st.map fun v => v.category).sum ≤ 8) (hdd : d' + 1 ≤ d) (k : Z G F 0 0 Q (pc + 3) lv (x :: st) M1) : Z G F 0 0 Q pc lv (x3 :: x2 :: x1 :: st) M :=
  z_SN3e O hM hk hl1 hd hr hdd ⟨Nat.zero_le _, Nat.zero_le _⟩ k
theorem z_V3u0 (O : zOk G F y cc nL ret own d n0) {a ci N : Nat} {C : String} {T : u_T} {fs : List Value} {x1 x2 x3 : Value} {M1 : List va_E} (hM : zS G d' y' cc' nL' ret' (.ref (zad (zb G) a) :: [x1, x2, x3]) M 0 0 (zU M1)) (hk : zMv y' cc' nL' ret' 3 C) (hl1 : Cond.methodLink own idx y' ∈ zTb) (hci : vwCl[ci]? = some (C, T, N)) (he : M[a]? = some (.inr (ci, fs))) (hd : decode cc pc = .ok (.invokevirtual idx, 3)) (hr : (st.map fun v => v.category).sum ≤ 8) (hdd : d' + 1 ≤ d) (k : Z G F 0 0 Q (pc + 3) lv st M1) : Z G F 0 0 Q pc lv (x3 :: x2 :: x1 :: .ref (zad (zb G) a) :: st) M :=
  z_V3u O hM hk hl1 hci he hd hr hdd ⟨Nat.zero_le _, Nat.zero_le _⟩ k
theorem z_S3u0 (O : zOk G F y cc nL ret own d n0) {x1 x2 x3 : Value} {M1 : List va_E} (hM : zS G d' y' cc' nL' ret' [x1, x2, x3] M 0 0 (zU M1)) (hk : zMs y' cc' nL' ret' 3) (hl1 : Cond.methodLink own idx y' ∈ zTb) (hd : decode cc pc = .ok (.invokestatic idx, 3)) (hr : (st.map fun v => v.category).sum ≤ 8) (hdd : d' + 1 ≤ d) (k : Z G F 0 0 Q (pc + 3) lv st M1) : Z G F 0 0 Q pc lv (x3 :: x2 :: x1 :: st) M :=
  z_S3u O hM hk hl1 hd hr hdd ⟨Nat.zero_le _, Nat.zero_le _⟩ k
theorem z_V3p0 (O : zOk G F y cc nL ret own d n0) {a ci N : Nat} {C : String} {T : u_T} {fs : List Value} {x1 x2 x3 : Value} {Q2 : Value → List va_E → Prop} (hM : zS G d' y' cc' nL' ret' (.ref (zad (zb G) a) :: [x1, x2, x3]) M 0 0 (zP Q2)) (hk : zMv y' cc' nL' ret' 3 C) (hl1 : Cond.methodLink own idx y' ∈ zTb) (hci : vwCl[ci]? = some (C, T, N)) (he : M[a]? = some (.inr (ci, fs))) (hd : decode cc pc = .ok (.invokevirtual idx, 3)) (hr : (st.map fun v => v.category).sum ≤ 8) (hdd : d' + 1 ≤ d) (k : ∀ x M', Q2 x M' → Z G F 0 0 Q (pc + 3) lv (x :: st) M') : Z G F 0 0 Q pc lv (x3 :: x2 :: x1 :: .ref (zad (zb G) a) :: st) M :=
  z_V3p O hM hk hl1 hci he hd hr hdd ⟨Nat.zero_le _, Nat.zero_le _⟩ k
theorem z_S3p0 (O : zOk G F y cc nL ret own d n0) {x1 x2 x3 : Value} {Q2 : Value → List va_E → Prop} (hM : zS G d' y' cc' nL' ret' [x1, x2, x3] M 0 0 (zP Q2)) (hk : zMs y' cc' nL' ret' 3) (hl1 : Cond.methodLink own idx y' ∈ zTb) (hd : decode cc pc = .ok (.invokestatic idx, 3)) (hr : (st.map fun v => v.category).sum ≤ 8) (hdd : d' + 1 ≤ d) (k : ∀ x M', Q2 x M' → Z G F 0 0 Q (pc + 3) lv (x :: st) M') : Z G F 0 0 Q pc lv (x3 :: x2 :: x1 :: st) M :=
  z_S3p O hM hk hl1 hd hr hdd ⟨Nat.zero_le _, Nat.zero_le _⟩ k
theorem z_V3pu0 (O : zOk G F y cc nL ret own d n0) {a ci N : Nat} {C : String} {T : u_T} {fs : List Value} {x1 x2 x3 : Value} {Q2 : List va_E → Prop} (hM : zS G d' y' cc' nL' ret' (.ref (zad (zb G) a) :: [x1, x2, x3]) M 0 0 (zPU Q2)) (hk : zMv y' cc' nL' ret' 3 C) (hl1 : Cond.methodLink own idx y' ∈ zTb) (hci : vwCl[ci]? = some (C, T, N)) (he : M[a]? = some (.inr (ci, fs))) (hd : decode cc pc = .ok (.invokevirtual idx, 3)) (hr : (st.map fun v => v.category).sum ≤ 8) (hdd : d' + 1 ≤ d) (k : ∀ M', Q2 M' → Z G F 0 0 Q (pc + 3) lv st M') : Z G F 0 0 Q pc lv (x3 :: x2 :: x1 :: .ref (zad (zb G) a) :: st) M :=
  z_V3pu O hM hk hl1 hci he hd hr hdd ⟨Nat.zero_le _, Nat.zero_le _⟩ k
theorem z_S3pu0 (O : zOk G F y cc nL ret own d n0) {x1 x2 x3 : Value} {Q2 : List va_E → Prop} (hM : zS G d' y' cc' nL' ret' [x1, x2, x3] M 0 0 (zPU Q2)) (hk : zMs y' cc' nL' ret' 3) (hl1 : Cond.methodLink own idx y' ∈ zTb) (hd : decode cc pc = .ok (.invokestatic idx, 3)) (hr : (st.map fun v => v.category).sum ≤ 8) (hdd : d' + 1 ≤ d) (k : ∀ M', Q2 M' → Z G F 0 0 Q (pc + 3) lv st M') : Z G F 0 0 Q pc lv (x3 :: x2 :: x1 :: st) M :=
  z_S3pu O hM hk hl1 hd hr hdd ⟨Nat.zero_le _, Nat.zero_le _⟩ k
theorem z_V4e0 (O : zOk G F y cc nL ret own d n0) {a ci N : Nat} {C : String} {T : u_T} {fs : List Value} {x1 x2 x3 x4 : Value} {x : Value} {M1 : List va_E} (hM : zS G d' y' cc' nL' ret' (.ref (zad (zb G) a) :: [x1, x2, x3, x4]) M 0 0 (zE x M1)) (hk : zMv y' cc' nL' ret' 4 C) (hl1 : Cond.methodLink own idx y' ∈ zTb) (hci : vwCl[ci]? = some (C, T, N)) (he : M[a]? = some (.inr (ci, fs))) (hd : decode cc pc = .ok (.invokevirtual idx, 3)) (hr : (st.map fun v => v.category).sum ≤ 8) (hdd : d' + 1 ≤ d) (k : Z G F 0 0 Q (pc + 3) lv (x :: st) M1) : Z G F 0 0 Q pc lv (x4 :: x3 :: x2 :: x1 :: .ref (zad (zb G) a) :: st) M :=
  z_V4e O hM hk hl1 hci he hd hr hdd ⟨Nat.zero_le _, Nat.zero_le _⟩ k
theorem z_S4e0 (O : zOk G F y cc nL ret own d n0) {x1 x2 x3 x4 : Value} {x : Value} {M1 : List va_E} (hM : zS G d' y' cc' nL' ret' [x1, x2, x3, x4] M 0 0 (zE x M1)) (hk : zMs y' cc' nL' ret' 4) (hl1 : Cond.methodLink own idx y' ∈ zTb) (hd : decode cc pc = .ok (.invokestatic idx, 3)) (hr : (st.map fun v => v.category).sum ≤ 8) (hdd : d' + 1 ≤ d) (k : Z G F 0 0 Q (pc + 3) lv (x :: st) M1) : Z G F 0 0 Q pc lv (x4 :: x3 :: x2 :: x1 :: st) M :=
  z_S4e O hM hk hl1 hd hr hdd ⟨Nat.zero_le _, Nat.zero_le _⟩ k
theorem z_SN4e0 (O : zOk G F y cc nL ret own d n0) {x1 x2 x3 x4 : Value} {x : Value} {M1 : List va_E} (hM : zS G d' y' cc' nL' ret' [x1, x2, x3, x4] M 0 0 (zE x M1)) (hk : zMs y' cc' nL' ret' 4) (hl1 : (own, idx, y', RX3) ∈ zNm) (hd : decode cc pc = .ok (.invokestatic idx, 3)) (hr : (st.map fun v => v.category).sum ≤ 8) (hdd : d' + 1 ≤ d) (k : Z G F 0 0 Q (pc + 3) lv (x :: st) M1) : Z G F 0 0 Q pc lv (x4 :: x3 :: x2 :: x1 :: st) M :=
  z_SN4e O hM hk hl1 hd hr hdd ⟨Nat.zero_le _, Nat.zero_le _⟩ k
theorem z_V4u0 (O : zOk G F y cc nL ret own d n0) {a ci N : Nat} {C : String} {T : u_T} {fs : List Value} {x1 x2 x3 x4 : Value} {M1 : List va_E} (hM : zS G d' y' cc' nL' ret' (.ref (zad (zb G) a) :: [x1, x2, x3, x4]) M 0 0 (zU M1)) (hk : zMv y' cc' nL' ret' 4 C) (hl1 : Cond.methodLink own idx y' ∈ zTb) (hci : vwCl[ci]? = some (C, T, N)) (he : M[a]? = some (.inr (ci, fs))) (hd : decode cc pc = .ok (.invokevirtual idx, 3)) (hr : (st.map fun v => v.category).sum ≤ 8) (hdd : d' + 1 ≤ d) (k : Z G F 0 0 Q (pc + 3) lv st M1) : Z G F 0 0 Q pc lv (x4 :: x3 :: x2 :: x1 :: .ref (zad (zb G) a) :: st) M :=
  z_V4u O hM hk hl1 hci he hd hr hdd ⟨Nat.zero_le _, Nat.zero_le _⟩ k
theorem z_S4u0 (O : zOk G F y cc nL ret own d n0) {x1 x2 x3 x4 : Value} {M1 : List va_E} (hM : zS G d' y' cc' nL' ret' [x1, x2, x3, x4] M 0 0 (zU M1)) (hk : zMs y' cc' nL' ret' 4) (hl1 : Cond.methodLink own idx y' ∈ zTb) (hd : decode cc pc = .ok (.invokestatic idx, 3)) (hr : (st.map fun v => v.category).sum ≤ 8) (hdd : d' + 1 ≤ d) (k : Z G F 0 0 Q (pc + 3) lv st M1) : Z G F 0 0 Q pc lv (x4 :: x3 :: x2 :: x1 :: st) M :=
  z_S4u O hM hk hl1 hd hr hdd ⟨Nat.zero_le _, Nat.zero_le _⟩ k
theorem z_V4p0 (O : zOk G F y cc nL ret own d n0) {a ci N : Nat} {C : String} {T : u_T} {fs : List Value} {x1 x2 x3 x4 : Value} {Q2 : Value → List va_E → Prop} (hM : zS G d' y' cc' nL' ret' (.ref (zad (zb G) a) :: [x1, x2, x3, x4]) M 0 0 (zP Q2)) (hk : zMv y' cc' nL' ret' 4 C) (hl1 : Cond.methodLink own idx y' ∈ zTb) (hci : vwCl[ci]? = some (C, T, N)) (he : M[a]? = some (.inr (ci, fs))) (hd : decode cc pc = .ok (.invokevirtual idx, 3)) (hr : (st.map fun v => v.category).sum ≤ 8) (hdd : d' + 1 ≤ d) (k : ∀ x M', Q2 x M' → Z G F 0 0 Q (pc + 3) lv (x :: st) M') : Z G F 0 0 Q pc lv (x4 :: x3 :: x2 :: x1 :: .ref (zad (zb G) a) :: st) M :=
  z_V4p O hM hk hl1 hci he hd hr hdd ⟨Nat.zero_le _, Nat.zero_le _⟩ k
theorem z_S4p0 (O : zOk G F y cc nL ret own d n0) {x1 x2 x3 x4 : Value} {Q2 : Value → List va_E → Prop} (hM : zS G d' y' cc' nL' ret' [x1, x2, x3, x4] M 0 0 (zP Q2)) (hk : zMs y' cc' nL' ret' 4) (hl1 : Cond.methodLink own idx y' ∈ zTb) (hd : decode cc pc = .ok (.invokestatic idx, 3)) (hr : (st.map fun v => v.category).sum ≤ 8) (hdd : d' + 1 ≤ d) (k : ∀ x M', Q2 x M' → Z G F 0 0 Q (pc + 3) lv (x :: st) M') : Z G F 0 0 Q pc lv (x4 :: x3 :: x2 :: x1 :: st) M :=
  z_S4p O hM hk hl1 hd hr hdd ⟨Nat.zero_le _, Nat.zero_le _⟩ k
theorem z_V4pu0 (O : zOk G F y cc nL ret own d n0) {a ci N : Nat} {C : String} {T : u_T} {fs : List Value} {x1 x2 x3 x4 : Value} {Q2 : List va_E → Prop} (hM : zS G d' y' cc' nL' ret' (.ref (zad (zb G) a) :: [x1, x2, x3, x4]) M 0 0 (zPU Q2)) (hk : zMv y' cc' nL' ret' 4 C) (hl1 : Cond.methodLink own idx y' ∈ zTb) (hci : vwCl[ci]? = some (C, T, N)) (he : M[a]? = some (.inr (ci, fs))) (hd : decode cc pc = .ok (.invokevirtual idx, 3)) (hr : (st.map fun v => v.category).sum ≤ 8) (hdd : d' + 1 ≤ d) (k : ∀ M', Q2 M' → Z G F 0 0 Q (pc + 3) lv st M') : Z G F 0 0 Q pc lv (x4 :: x3 :: x2 :: x1 :: .ref (zad (zb G) a) :: st) M :=
  z_V4pu O hM hk hl1 hci he hd hr hdd ⟨Nat.zero_le _, Nat.zero_le _⟩ k
theorem z_S4pu0 (O : zOk G F y cc nL ret own d n0) {x1 x2 x3 x4 : Value} {Q2 : List va_E → Prop} (hM : zS G d' y' cc' nL' ret' [x1, x2, x3, x4] M 0 0 (zPU Q2)) (hk : zMs y' cc' nL' ret' 4) (hl1 : Cond.methodLink own idx y' ∈ zTb) (hd : decode cc pc = .ok (.invokestatic idx, 3)) (hr : (st.map fun v => v.category).sum ≤ 8) (hdd : d' + 1 ≤ d) (k : ∀ M', Q2 M' → Z G F 0 0 Q (pc + 3) lv st M') : Z G F 0 0 Q pc lv (x4 :: x3 :: x2 :: x1 :: st) M :=
  z_S4pu O hM hk hl1 hd hr hdd ⟨Nat.zero_le _, Nat.zero_le _⟩ k
theorem z_V5e0 (O : zOk G F y cc nL ret own d n0) {a ci N : Nat} {C : String} {T : u_T} {fs : List Value} {x1 x2 x3 x4 x5 : Value} {x : Value} {M1 : List va_E} (hM : zS G d' y' cc' nL' ret' (.ref (zad (zb G) a) :: [x1, x2, x3, x4, x5]) M 0 0 (zE x M1)) (hk : zMv y' cc' nL' ret' 5 C) (hl1 : Cond.methodLink own idx y' ∈ zTb) (hci : vwCl[ci]? = some (C, T, N)) (he : M[a]? = some (.inr (ci, fs))) (hd : decode cc pc = .ok (.invokevirtual idx, 3)) (hr : (st.map fun v => v.category).sum ≤ 8) (hdd : d' + 1 ≤ d) (k : Z G F 0 0 Q (pc + 3) lv (x :: st) M1) : Z G F 0 0 Q pc lv (x5 :: x4 :: x3 :: x2 :: x1 :: .ref (zad (zb G) a) :: st) M :=
  z_V5e O hM hk hl1 hci he hd hr hdd ⟨Nat.zero_le _, Nat.zero_le _⟩ k
theorem z_V5u0 (O : zOk G F y cc nL ret own d n0) {a ci N : Nat} {C : String} {T : u_T} {fs : List Value} {x1 x2 x3 x4 x5 : Value} {M1 : List va_E} (hM : zS G d' y' cc' nL' ret' (.ref (zad (zb G) a) :: [x1, x2, x3, x4, x5]) M 0 0 (zU M1)) (hk : zMv y' cc' nL' ret' 5 C) (hl1 : Cond.methodLink own idx y' ∈ zTb) (hci : vwCl[ci]? = some (C, T, N)) (he : M[a]? = some (.inr (ci, fs))) (hd : decode cc pc = .ok (.invokevirtual idx, 3)) (hr : (st.map fun v => v.category).sum ≤ 8) (hdd : d' + 1 ≤ d) (k : Z G F 0 0 Q (pc + 3) lv st M1) : Z G F 0 0 Q pc lv (x5 :: x4 :: x3 :: x2 :: x1 :: .ref (zad (zb G) a) :: st) M :=
  z_V5u O hM hk hl1 hci he hd hr hdd ⟨Nat.zero_le _, Nat.zero_le _⟩ k
theorem z_V5p0 (O : zOk G F y cc nL ret own d n0) {a ci N : Nat} {C : String} {T : u_T} {fs : List Value} {x1 x2 x3 x4 x5 : Value} {Q2 : Value → List va_E → Prop} (hM : zS G d' y' cc' nL' ret' (.ref (zad (zb G) a) :: [x1, x2, x3, x4, x5]) M 0 0 (zP Q2)) (hk : zMv y' cc' nL' ret' 5 C) (hl1 : Cond.methodLink own idx y' ∈ zTb) (hci : vwCl[ci]? = some (C, T, N)) (he : M[a]? = some (.inr (ci, fs))) (hd : decode cc pc = .ok (.invokevirtual idx, 3)) (hr : (st.map fun v => v.category).sum ≤ 8) (hdd : d' + 1 ≤ d) (k : ∀ x M', Q2 x M' → Z G F 0 0 Q (pc + 3) lv (x :: st) M') : Z G F 0 0 Q pc lv (x5 :: x4 :: x3 :: x2 :: x1 :: .ref (zad (zb G) a) :: st) M :=
  z_V5p O hM hk hl1 hci he hd hr hdd ⟨Nat.zero_le _, Nat.zero_le _⟩ k
theorem z_V5pu0 (O : zOk G F y cc nL ret own d n0) {a ci N : Nat} {C : String} {T : u_T} {fs : List Value} {x1 x2 x3 x4 x5 : Value} {Q2 : List va_E → Prop} (hM : zS G d' y' cc' nL' ret' (.ref (zad (zb G) a) :: [x1, x2, x3, x4, x5]) M 0 0 (zPU Q2)) (hk : zMv y' cc' nL' ret' 5 C) (hl1 : Cond.methodLink own idx y' ∈ zTb) (hci : vwCl[ci]? = some (C, T, N)) (he : M[a]? = some (.inr (ci, fs))) (hd : decode cc pc = .ok (.invokevirtual idx, 3)) (hr : (st.map fun v => v.category).sum ≤ 8) (hdd : d' + 1 ≤ d) (k : ∀ M', Q2 M' → Z G F 0 0 Q (pc + 3) lv st M') : Z G F 0 0 Q pc lv (x5 :: x4 :: x3 :: x2 :: x1 :: .ref (zad (zb G) a) :: st) M :=
  z_V5pu O hM hk hl1 hci he hd hr hdd ⟨Nat.zero_le _, Nat.zero_le _⟩ k
theorem z_V6e0 (O : zOk G F y cc nL ret own d n0) {a ci N : Nat} {C : String} {T : u_T} {fs : List Value} {x1 x2 x3 x4 x5 x6 : Value} {x : Value} {M1 : List va_E} (hM : zS G d' y' cc' nL' ret' (.ref (zad (zb G) a) :: [x1, x2, x3, x4, x5, x6]) M 0 0 (zE x M1)) (hk : zMv y' cc' nL' ret' 6 C) (hl1 : Cond.methodLink own idx y' ∈ zTb) (hci : vwCl[ci]? = some (C, T, N)) (he : M[a]? = some (.inr (ci, fs))) (hd : decode cc pc = .ok (.invokevirtual idx, 3)) (hr : (st.map fun v => v.category).sum ≤ 8) (hdd : d' + 1 ≤ d) (k : Z G F 0 0 Q (pc + 3) lv (x :: st) M1) : Z G F 0 0 Q pc lv (x6 :: x5 :: x4 :: x3 :: x2 :: x1 :: .ref (zad (zb G) a) :: st) M :=
  z_V6e O hM hk hl1 hci he hd hr hdd ⟨Nat.zero_le _, Nat.zero_le _⟩ k
theorem z_V6u0 (O : zOk G F y cc nL ret own d n0) {a ci N : Nat} {C : String} {T : u_T} {fs : List Value} {x1 x2 x3 x4 x5 x6 : Value} {M1 : List va_E} (hM : zS G d' y' cc' nL' ret' (.ref (zad (zb G) a) :: [x1, x2, x3, x4, x5, x6]) M 0 0 (zU M1)) (hk : zMv y' cc' nL' ret' 6 C) (hl1 : Cond.methodLink own idx y' ∈ zTb) (hci : vwCl[ci]? = some (C, T, N)) (he : M[a]? = some (.inr (ci, fs))) (hd : decode cc pc = .ok (.invokevirtual idx, 3)) (hr : (st.map fun v => v.category).sum ≤ 8) (hdd : d' + 1 ≤ d) (k : Z G F 0 0 Q (pc + 3) lv st M1) : Z G F 0 0 Q pc lv (x6 :: x5 :: x4 :: x3 :: x2 :: x1 :: .ref (zad (zb G) a) :: st) M :=
  z_V6u O hM hk hl1 hci he hd hr hdd ⟨Nat.zero_le _, Nat.zero_le _⟩ k
theorem z_V6p0 (O : zOk G F y cc nL ret own d n0) {a ci N : Nat} {C : String} {T : u_T} {fs : List Value} {x1 x2 x3 x4 x5 x6 : Value} {Q2 : Value → List va_E → Prop} (hM : zS G d' y' cc' nL' ret' (.ref (zad (zb G) a) :: [x1, x2, x3, x4, x5, x6]) M 0 0 (zP Q2)) (hk : zMv y' cc' nL' ret' 6 C) (hl1 : Cond.methodLink own idx y' ∈ zTb) (hci : vwCl[ci]? = some (C, T, N)) (he : M[a]? = some (.inr (ci, fs))) (hd : decode cc pc = .ok (.invokevirtual idx, 3)) (hr : (st.map fun v => v.category).sum ≤ 8) (hdd : d' + 1 ≤ d) (k : ∀ x M', Q2 x M' → Z G F 0 0 Q (pc + 3) lv (x :: st) M') : Z G F 0 0 Q pc lv (x6 :: x5 :: x4 :: x3 :: x2 :: x1 :: .ref (zad (zb G) a) :: st) M :=
  z_V6p O hM hk hl1 hci he hd hr hdd ⟨Nat.zero_le _, Nat.zero_le _⟩ k
theorem z_V6pu0 (O : zOk G F y cc nL ret own d n0) {a ci N : Nat} {C : String} {T : u_T} {fs : List Value} {x1 x2 x3 x4 x5 x6 : Value} {Q2 : List va_E → Prop} (hM : zS G d' y' cc' nL' ret' (.ref (zad (zb G) a) :: [x1, x2, x3, x4, x5, x6]) M 0 0 (zPU Q2)) (hk : zMv y' cc' nL' ret' 6 C) (hl1 : Cond.methodLink own idx y' ∈ zTb) (hci : vwCl[ci]? = some (C, T, N)) (he : M[a]? = some (.inr (ci, fs))) (hd : decode cc pc = .ok (.invokevirtual idx, 3)) (hr : (st.map fun v => v.category).sum ≤ 8) (hdd : d' + 1 ≤ d) (k : ∀ M', Q2 M' → Z G F 0 0 Q (pc + 3) lv st M') : Z G F 0 0 Q pc lv (x6 :: x5 :: x4 :: x3 :: x2 :: x1 :: .ref (zad (zb G) a) :: st) M :=
  z_V6pu O hM hk hl1 hci he hd hr hdd ⟨Nat.zero_le _, Nat.zero_le _⟩ k
end ZN
end
section
section ZX
variable {G : zG} {F : zF} {y : MethodName} {cc : ByteArray} {nL : Nat} {ret : Option FieldType} {own : String} {d n0 cells slots pc : Nat} {Q : State → Prop} {lv : List (Nat × Value)} {st : List Value} {M : List va_E}
theorem z_tabN (O : zOk G F y cc nL ret own d n0) {dflt lo hi : Int} {offs : Array Int} {len : Nat} {a : Nat} {off : Int} (v tgt : Nat) (hd : decode cc pc = .ok (.tableswitch dflt lo hi offs, len)) (ho : offs[((v : Int) - lo).toNat]? = some off) (h1 : lo ≤ (v : Int)) (h2 : (v : Int) ≤ hi) (hv : v < 2 ^ 31) (ht : (pc : Int) + off = (tgt : Int)) (kt : a = v → Z G F cells slots Q (tgt) lv (st) M) (kf : ¬ a = v → Z G F cells slots Q (pc) lv (.int (nI a) :: st) M) : Z G F cells slots Q (pc) lv (.int (nI a) :: st) M := by
  by_cases h : a = v
  · have e : (nI a).toInt = (v : Int) := by rw [h]; exact nI_toInt hv
    exact z_tableIn O tgt hd (by rw [e]; omega) (by rw [e]; omega) (by rw [e]; exact ho) ht (kt h)
  · exact kf h
theorem z_tabNI (O : zOk G F y cc nL ret own d n0) {dflt lo hi : Int} {offs : Array Int} {len : Nat} {a : Nat} {off : Int} (v tgt : Nat) (hd : decode cc pc = .ok (.tableswitch dflt lo hi offs, len)) (h : a = v) (ho : offs[((v : Int) - lo).toNat]? = some off) (h1 : lo ≤ (v : Int)) (h2 : (v : Int) ≤ hi) (hv : v < 2 ^ 31) (ht : (pc : Int) + off = (tgt : Int)) (kt : Z G F cells slots Q (tgt) lv (st) M) : Z G F cells slots Q (pc) lv (.int (nI a) :: st) M :=
  z_tabN O v tgt hd ho h1 h2 hv ht (fun _ => kt) (fun h' => absurd h h')
theorem z_tabNO (O : zOk G F y cc nL ret own d n0) {dflt lo hi : Int} {offs : Array Int} {len : Nat} {a : Nat} (tgt : Nat) (hd : decode cc pc = .ok (.tableswitch dflt lo hi offs, len)) (h : (a : Int) < lo ∨ hi < (a : Int)) (ha : a < 2 ^ 31) (ht : (pc : Int) + dflt = (tgt : Int)) (k : Z G F cells slots Q (tgt) lv (st) M) : Z G F cells slots Q (pc) lv (.int (nI a) :: st) M :=
  z_tableOut O tgt hd (by rw [nI_toInt ha]; exact h) ht k
theorem z_idecN (O : zOk G F y cc nL ret own d n0) {i : Nat} {n : Int} {a : Nat} (c0 : Nat) {lv' : List (Nat × Value)} (hd : decode cc pc = .ok (.iinc i n, 3)) (hn : i < nL) (hk : lv.lookup i = some (.int (nI a))) (h : c0 ≤ a) (hl' : zst1 lv i (.int (nI (a - c0))) = lv') (hc : Int32.ofInt n = - nI c0) (k : Z G F cells slots Q (pc + 3) lv' (st) M) : Z G F cells slots Q (pc) lv (st) M :=
  z_iinc O (- nI c0) hd hn hk (by rw [show nI a + -nI c0 = nI a - nI c0 from (Int32.sub_eq_add_neg _ _).symm, pk_sub h]; exact hl') hc k
/-- a number of threads that is left, or less than none -/
def lfx (x : Int32) (n : Nat) : Prop := (n = 0 ∧ x ≤ 0) ∨ (0 < n ∧ x = nI n)
theorem lfx_n {n : Nat} : lfx (nI n) n := by
  by_cases h : n = 0
  · exact Or.inl ⟨h, by rw [h, nI_0]; exact Int32.le_refl 0⟩
  · exact Or.inr ⟨by omega, rfl⟩
theorem lfx_le {x : Int32} {n : Nat} (h : lfx x n) (hn : n < 2 ^ 31) : x ≤ 0 ↔ n = 0 := by
  rcases h with ⟨h1, h2⟩ | ⟨h1, rfl⟩
  · exact ⟨fun _ => h1, fun _ => h2⟩
  · exact ⟨fun h => absurd h (nI_nle h1 hn), fun h => by omega⟩
theorem lfx_sub {t l : Nat} (ht : t < 2 ^ 30) (hl : l < 2 ^ 30) : lfx (nI t - nI l) (t - l) := by
  by_cases h : t ≤ l
  · refine Or.inl ⟨by omega, ?_⟩
    rw [Int32.le_iff_toInt_le, pk_sub_toInt ht hl, Int32.toInt_zero]
    omega
  · exact Or.inr ⟨by omega, pk_sub (by omega)⟩
end ZX
end
section
/-! ===== the class's own numbers ===== -/
def fld (r : Nat → Nat) (c p f : Nat) : Nat := r ((c * 3 + p) * 4 + f)
def lossN (k w y : Nat) : Nat := if k = 1 ∨ k = 3 then (w + 1) / 2 else if k = 2 then w + 1 else if k = 4 then (if y % 3 = 0 then w + 1 else 2 * (w + 1)) else w
theorem lossN_le (k w y : Nat) : lossN k w y ≤ 2 * (w + 1) := by
  unfold lossN
  repeat' split
  all_goals omega
def rowOK (r : Nat → Nat) : Prop := (∀ j, r j < 1048576) ∧ ∀ c, c < 9 → r (108 + c) ≤ 3
def weOK (we : Nat → Nat) : Prop := ∀ j, we j < 1048576
/-- a sock's cells: the object, its rows of wears, darns, claims -/
def zSock (G : zG) (M : List va_E) (k i1 i2 i3 : Nat) (we r cl : Nat → Nat) : Prop :=
  M[k]? = some (.inr (0, [.ref (zad (zb G) i1), .ref (zad (zb G) i2), .ref (zad (zb G) i3)])) ∧ M[i1]? = some (zIN G 9 we) ∧ M[i2]? = some (zIN G 118 r) ∧ M[i3]? = some (zIN G 3 cl)
theorem zIN_inj {G : zG} {n m : Nat} {r r' : Nat → Nat} {M : List va_E} {i j : Nat} (h1 : M[i]? = some (zIN G n r)) (h2 : M[j]? = some (zIN G m r')) (hne : n ≠ m) : i ≠ j := by
  intro h
  subst h
  rw [h1] at h2
  have := Option.some.inj h2
  simp only [zIN, zI, Sum.inl.injEq, Prod.mk.injEq] at this
  exact hne this.2.1
theorem zIN_obj {G : zG} {n : Nat} {r : Nat → Nat} {M : List va_E} {i j : Nat} {o : Nat × List Value} (h1 : M[i]? = some (zIN G n r)) (h2 : M[j]? = some (.inr o)) : i ≠ j := by
  intro h
  subst h
  rw [h1] at h2
  cases h2
theorem zSock.row {G : zG} {M : List va_E} {k i1 i2 i3 : Nat} {we r cl : Nat → Nat} (h : zSock G M k i1 i2 i3 we r cl) (r' : Nat → Nat) : zSock G (M.set i2 (zIN G 118 r')) k i1 i2 i3 we r' cl := by
  obtain ⟨h0, h1, h2, h3⟩ := h
  exact ⟨zgn (zIN_obj h2 h0) h0, zgn (zIN_inj h2 h1 (by decide)) h1, zgs h2, zgn (zIN_inj h2 h3 (by decide)) h3⟩
theorem zSock.wear {G : zG} {M : List va_E} {k i1 i2 i3 : Nat} {we r cl : Nat → Nat} (h : zSock G M k i1 i2 i3 we r cl) (we' : Nat → Nat) : zSock G (M.set i1 (zIN G 9 we')) k i1 i2 i3 we' r cl := by
  obtain ⟨h0, h1, h2, h3⟩ := h
  exact ⟨zgn (zIN_obj h1 h0) h0, zgs h1, zgn (zIN_inj h1 h2 (by decide)) h2, zgn (zIN_inj h1 h3 (by decide)) h3⟩
theorem zSock.clm {G : zG} {M : List va_E} {k i1 i2 i3 : Nat} {we r cl : Nat → Nat} (h : zSock G M k i1 i2 i3 we r cl) (cl' : Nat → Nat) : zSock G (M.set i3 (zIN G 3 cl')) k i1 i2 i3 we r cl' := by
  obtain ⟨h0, h1, h2, h3⟩ := h
  exact ⟨zgn (zIN_obj h3 h0) h0, zgn (zIN_inj h3 h1 (by decide)) h1, zgn (zIN_inj h3 h2 (by decide)) h2, zgs h3⟩
theorem zIN_self {G : zG} {n i : Nat} {r : Nat → Nat} {M : List va_E} (h : M[i]? = some (zIN G n r)) : M.set i (zIN G n r) = M := by
  apply List.ext_getElem?
  intro j
  by_cases hj : j = i
  · subst hj
    rw [zgs h, h]
  · rw [List.getElem?_set_ne (Ne.symm hj)]
end
section
section SK
variable {G : zG} {M : List va_E} {k i1 i2 i3 : Nat} {we r cl : Nat → Nat}

set_option maxRecDepth 20000 in
set_option maxHeartbeats 4000000 in
theorem s_within {x l : Int32} : zS G 1 yX3_within cX3_within 2 (some .boolean) [.int x, .int l] M 0 0 (zE (.int (bI (0 ≤ x ∧ x < l))) M) := by
  refine zS.of (by decide) (Nat.le_of_ble_eq_true rfl) (fun F O hR1 hR2 => ?_)
  have O : zOk G F yX3_within cX3_within 2 (some .boolean) RX3 1 M.length := O
  refine z_eq (lv' := [(0, _), (1, _)]) rfl rfl rfl ?_
  refine z_iload_n O dX3_within_0 rfl ?_
  refine z_if_lt O 13 dX3_within_1 (by decide) (fun h1 => ?_) (fun h1 => ?_)
  · refine z_iconst O (nI 0) dX3_within_13 (by decide) ?_
    exact z_zret O dX3_within_14 rfl (by first | exact ⟨by rw [bI_t ⟨Int32.not_lt.mp h1, Int32.not_le.mp h6⟩]; rfl, rfl⟩ | exact ⟨by rw [bI_f (fun q => absurd h6 (Int32.not_le.mpr q.2))]; rfl, rfl⟩ | exact ⟨by rw [bI_f (fun q => absurd h1 (Int32.not_lt.mpr q.1))]; rfl, rfl⟩)
  · refine z_iload_n O dX3_within_4 rfl ?_
    refine z_iload_n O dX3_within_5 rfl ?_
    refine z_icmp_ge O 13 dX3_within_6 (by decide) (fun h6 => ?_) (fun h6 => ?_)
    · refine z_iconst O (nI 0) dX3_within_13 (by decide) ?_
      exact z_zret O dX3_within_14 rfl (by first | exact ⟨by rw [bI_t ⟨Int32.not_lt.mp h1, Int32.not_le.mp h6⟩]; rfl, rfl⟩ | exact ⟨by rw [bI_f (fun q => absurd h6 (Int32.not_le.mpr q.2))]; rfl, rfl⟩ | exact ⟨by rw [bI_f (fun q => absurd h1 (Int32.not_lt.mpr q.1))]; rfl, rfl⟩)
    · refine z_iconst O (nI 1) dX3_within_9 (by decide) ?_
      refine z_goto O 14 dX3_within_10 (by decide) ?_
      exact z_zret O dX3_within_14 rfl (by first | exact ⟨by rw [bI_t ⟨Int32.not_lt.mp h1, Int32.not_le.mp h6⟩]; rfl, rfl⟩ | exact ⟨by rw [bI_f (fun q => absurd h6 (Int32.not_le.mpr q.2))]; rfl, rfl⟩ | exact ⟨by rw [bI_f (fun q => absurd h1 (Int32.not_lt.mpr q.1))]; rfl, rfl⟩)
theorem s_withinN {a b : Nat} (ha : a < 2 ^ 31) (hb : b < 2 ^ 31) : zS G 1 yX3_within cX3_within 2 (some .boolean) [.int (nI a), .int (nI b)] M 0 0 (zE (.int (bI (a < b))) M) := by
  rw [← bI_congr (p := 0 ≤ nI a ∧ nI a < nI b) (q := a < b) ⟨fun q => (nI_ltI ha hb).mp q.2, fun q => ⟨nI_pos' ha, (nI_ltI ha hb).mpr q⟩⟩]
  exact s_within
set_option maxRecDepth 20000 in
set_option maxHeartbeats 4000000 in
theorem s_between {x l h : Int32} : zS G 1 yX3_between cX3_between 3 (some .boolean) [.int x, .int l, .int h] M 0 0 (zE (.int (bI (l ≤ x ∧ x ≤ h))) M) := by
  refine zS.of (by decide) (Nat.le_of_ble_eq_true rfl) (fun F O hR1 hR2 => ?_)
  have O : zOk G F yX3_between cX3_between 3 (some .boolean) RX3 1 M.length := O
  refine z_eq (lv' := [(0, _), (1, _), (2, _)]) rfl rfl rfl ?_
  refine z_iload_n O dX3_between_0 rfl ?_
  refine z_iload_n O dX3_between_1 rfl ?_
  refine z_icmp_lt O 14 dX3_between_2 (by decide) (fun h2 => ?_) (fun h2 => ?_)
  · refine z_iconst O (nI 0) dX3_between_14 (by decide) ?_
    exact z_zret O dX3_between_15 rfl (by first | exact ⟨by rw [bI_t ⟨Int32.not_lt.mp h2, Int32.not_lt.mp h7⟩]; rfl, rfl⟩ | exact ⟨by rw [bI_f (fun q => absurd h7 (Int32.not_lt.mpr q.2))]; rfl, rfl⟩ | exact ⟨by rw [bI_f (fun q => absurd h2 (Int32.not_lt.mpr q.1))]; rfl, rfl⟩)
  · refine z_iload_n O dX3_between_5 rfl ?_
    refine z_iload_n O dX3_between_6 rfl ?_
    refine z_icmp_gt O 14 dX3_between_7 (by decide) (fun h7 => ?_) (fun h7 => ?_)
    · refine z_iconst O (nI 0) dX3_between_14 (by decide) ?_
      exact z_zret O dX3_between_15 rfl (by first | exact ⟨by rw [bI_t ⟨Int32.not_lt.mp h2, Int32.not_lt.mp h7⟩]; rfl, rfl⟩ | exact ⟨by rw [bI_f (fun q => absurd h7 (Int32.not_lt.mpr q.2))]; rfl, rfl⟩ | exact ⟨by rw [bI_f (fun q => absurd h2 (Int32.not_lt.mpr q.1))]; rfl, rfl⟩)
    · refine z_iconst O (nI 1) dX3_between_10 (by decide) ?_
      refine z_goto O 15 dX3_between_11 (by decide) ?_
      exact z_zret O dX3_between_15 rfl (by first | exact ⟨by rw [bI_t ⟨Int32.not_lt.mp h2, Int32.not_lt.mp h7⟩]; rfl, rfl⟩ | exact ⟨by rw [bI_f (fun q => absurd h7 (Int32.not_lt.mpr q.2))]; rfl, rfl⟩ | exact ⟨by rw [bI_f (fun q => absurd h2 (Int32.not_lt.mpr q.1))]; rfl, rfl⟩)
theorem s_betweenN {a b e : Nat} (ha : a < 2 ^ 31) (hb : b < 2 ^ 31) (he : e < 2 ^ 31) : zS G 1 yX3_between cX3_between 3 (some .boolean) [.int (nI a), .int (nI b), .int (nI e)] M 0 0 (zE (.int (bI (b ≤ a ∧ a ≤ e))) M) := by
  rw [← bI_congr (p := nI b ≤ nI a ∧ nI a ≤ nI e) (q := b ≤ a ∧ a ≤ e) ⟨fun q => ⟨(nI_leI hb ha).mp q.1, (nI_leI ha he).mp q.2⟩, fun q => ⟨(nI_leI hb ha).mpr q.1, (nI_leI ha he).mpr q.2⟩⟩]
  exact s_between
set_option maxRecDepth 20000 in
set_option maxHeartbeats 4000000 in
theorem s_loss {kd w y : Nat} (h1 : kd < 2 ^ 31) (h2 : w < 2 ^ 30) (h3 : y < 2 ^ 31) : zS G 1 yX3_loss cX3_loss 3 (some .int) [.int (nI kd), .int (nI w), .int (nI y)] M 0 0 (zE (.int (nI (lossN kd w y))) M) := by
  refine zS.of (by decide) (Nat.le_of_ble_eq_true rfl) (fun F O hR1 hR2 => ?_)
  have O : zOk G F yX3_loss cX3_loss 3 (some .int) RX3 1 M.length := O
  refine z_eq (lv' := [(0, _), (1, _), (2, _)]) rfl rfl rfl ?_
  refine z_iload_n O dX3_loss_0 rfl ?_
  refine z_tabN O 1 32 dX3_loss_1 (by rfl) (by decide) (by decide) (by decide) (by decide) (fun hk1 => ?_) (fun hn1_1 => ?_)
  · refine z_iload_n O dX3_loss_32 rfl ?_
    refine z_iconst O (nI 1) dX3_loss_33 (by decide) ?_
    refine z_iaddN O dX3_loss_34 ?_
    refine z_iconst O (nI 2) dX3_loss_35 (by decide) ?_
    refine z_idivN O dX3_loss_36 (by omega) (by omega) (by omega) ?_
    exact z_iret O dX3_loss_37 ⟨by simp [lossN, *], rfl⟩
  refine z_tabN O 2 38 dX3_loss_1 (by rfl) (by decide) (by decide) (by decide) (by decide) (fun hk1 => ?_) (fun hn1_2 => ?_)
  · refine z_iload_n O dX3_loss_38 rfl ?_
    refine z_iconst O (nI 1) dX3_loss_39 (by decide) ?_
    refine z_iaddN O dX3_loss_40 ?_
    exact z_iret O dX3_loss_41 ⟨by simp [lossN, *], rfl⟩
  refine z_tabN O 3 32 dX3_loss_1 (by rfl) (by decide) (by decide) (by decide) (by decide) (fun hk1 => ?_) (fun hn1_3 => ?_)
  · refine z_iload_n O dX3_loss_32 rfl ?_
    refine z_iconst O (nI 1) dX3_loss_33 (by decide) ?_
    refine z_iaddN O dX3_loss_34 ?_
    refine z_iconst O (nI 2) dX3_loss_35 (by decide) ?_
    refine z_idivN O dX3_loss_36 (by omega) (by omega) (by omega) ?_
    exact z_iret O dX3_loss_37 ⟨by simp [lossN, *], rfl⟩
  refine z_tabN O 4 42 dX3_loss_1 (by rfl) (by decide) (by decide) (by decide) (by decide) (fun hk1 => ?_) (fun hn1_4 => ?_)
  · refine z_iload_n O dX3_loss_42 rfl ?_
    refine z_iconst O (nI 3) dX3_loss_43 (by decide) ?_
    refine z_iremN O dX3_loss_44 (by omega) (by omega) (by omega) ?_
    refine z_if_neN O 54 dX3_loss_45 (by decide) (by omega) (fun h45 => ?_) (fun h45 => ?_)
    · refine z_iconst O (nI 2) dX3_loss_54 (by decide) ?_
      refine z_iload_n O dX3_loss_55 rfl ?_
      refine z_iconst O (nI 1) dX3_loss_56 (by decide) ?_
      refine z_iaddN O dX3_loss_57 ?_
      refine z_imulN O dX3_loss_58 ?_
      exact z_iret O dX3_loss_59 ⟨by simp [lossN, *], rfl⟩
    · refine z_iload_n O dX3_loss_48 rfl ?_
      refine z_iconst O (nI 1) dX3_loss_49 (by decide) ?_
      refine z_iaddN O dX3_loss_50 ?_
      refine z_goto O 59 dX3_loss_51 (by decide) ?_
      exact z_iret O dX3_loss_59 ⟨by simp [lossN, *], rfl⟩
  refine z_tabNO O 60 dX3_loss_1 (by omega) (by omega) (by decide) ?_
  refine z_iload_n O dX3_loss_60 rfl ?_
  exact z_iret O dX3_loss_61 ⟨by simp [lossN, *], rfl⟩
set_option maxRecDepth 20000 in
set_option maxHeartbeats 4000000 in
theorem s_year (hS : zSock G M k i1 i2 i3 we r cl) : zS G 1 yX0_year cX0_year 1 (some .int) [.ref (zad (zb G) k)] M 0 0 (zE (.int (nI (r 117))) M) := by
  refine zS.of (by decide) (Nat.le_of_ble_eq_true rfl) (fun F O hR1 hR2 => ?_)
  have O : zOk G F yX0_year cX0_year 1 (some .int) RX0 1 M.length := O
  refine z_eq (lv' := [(0, _)]) rfl rfl rfl ?_
  obtain ⟨hk0, hk1, hk2, hk3⟩ := id hS
  refine z_aload_n O dX0_year_0 rfl ?_
  refine z_get O dX0_year_1 flX0_15 (by assumption) (by rfl) ?_
  refine z_bipush O (nI 117) dX0_year_4 (by decide) ?_
  refine z_ialdN O dX0_year_6 (by assumption) (by omega) (by decide) ?_
  exact z_iret O dX0_year_7 ⟨rfl, rfl⟩
set_option maxRecDepth 20000 in
set_option maxHeartbeats 4000000 in
theorem s_many (hS : zSock G M k i1 i2 i3 we r cl) {c : Nat} (hc : c < 9) : zS G 1 yX0_many cX0_many 2 (some .int) [.ref (zad (zb G) k), .int (nI c)] M 0 0 (zE (.int (nI (r (108 + c)))) M) := by
  refine zS.of (by decide) (Nat.le_of_ble_eq_true rfl) (fun F O hR1 hR2 => ?_)
  have O : zOk G F yX0_many cX0_many 2 (some .int) RX0 1 M.length := O
  refine z_eq (lv' := [(0, _), (1, _)]) rfl rfl rfl ?_
  obtain ⟨hk0, hk1, hk2, hk3⟩ := id hS
  refine z_iload_n O dX0_many_0 rfl ?_
  refine z_if_ltN O dX0_many_1 22 (by decide) (by omega) ?_
  refine z_iload_n O dX0_many_4 rfl ?_
  refine z_bipush O (nI 9) dX0_many_5 (by decide) ?_
  refine z_icmp_geN O 22 dX0_many_7 (by decide) (by omega) (by omega) (fun h7 => by omega) (fun h7 => ?_)
  refine z_aload_n O dX0_many_10 rfl ?_
  refine z_get O dX0_many_11 flX0_15 (by assumption) (by rfl) ?_
  refine z_bipush O (nI 108) dX0_many_14 (by decide) ?_
  refine z_iload_n O dX0_many_16 rfl ?_
  refine z_iaddN O dX0_many_17 ?_
  refine z_ialdN O dX0_many_18 (by assumption) (by omega) (by decide) ?_
  refine z_goto O 23 dX0_many_19 (by decide) ?_
  exact z_iret O dX0_many_23 ⟨rfl, rfl⟩
set_option maxRecDepth 20000 in
set_option maxHeartbeats 4000000 in
theorem s_get (hS : zSock G M k i1 i2 i3 we r cl) {c p f : Nat} (hc : c < 9) (hp : p < 3) (hf : f < 4) : zS G 1 yX0_get cX0_get 4 (some .int) [.ref (zad (zb G) k), .int (nI c), .int (nI p), .int (nI f)] M 0 0 (zE (.int (nI (fld r c p f))) M) := by
  refine zS.of (by decide) (Nat.le_of_ble_eq_true rfl) (fun F O hR1 hR2 => ?_)
  have O : zOk G F yX0_get cX0_get 4 (some .int) RX0 1 M.length := O
  refine z_eq (lv' := [(0, _), (1, _), (2, _), (3, _)]) rfl rfl rfl ?_
  obtain ⟨hk0, hk1, hk2, hk3⟩ := id hS
  refine z_iload_n O dX0_get_0 rfl ?_
  refine z_if_ltN O dX0_get_1 19 (by decide) (by omega) ?_
  refine z_iload_n O dX0_get_4 rfl ?_
  refine z_bipush O (nI 9) dX0_get_5 (by decide) ?_
  refine z_icmp_geN O 19 dX0_get_7 (by decide) (by omega) (by omega) (fun h7 => by omega) (fun h7 => ?_)
  refine z_iload_n O dX0_get_10 rfl ?_
  refine z_if_ltN O dX0_get_11 19 (by decide) (by omega) ?_
  refine z_iload_n O dX0_get_14 rfl ?_
  refine z_iconst O (nI 3) dX0_get_15 (by decide) ?_
  refine z_icmp_ltN O 21 dX0_get_16 (by decide) (by omega) (by omega) (fun h16 => ?_) (fun h16 => by omega)
  refine z_iload_n O dX0_get_21 rfl ?_
  refine z_if_ltN O dX0_get_22 30 (by decide) (by omega) ?_
  refine z_iload_n O dX0_get_25 rfl ?_
  refine z_iconst O (nI 4) dX0_get_26 (by decide) ?_
  refine z_icmp_ltN O 32 dX0_get_27 (by decide) (by omega) (by omega) (fun h27 => ?_) (fun h27 => by omega)
  refine z_aload_n O dX0_get_32 rfl ?_
  refine z_get O dX0_get_33 flX0_15 (by assumption) (by rfl) ?_
  refine z_iload_n O dX0_get_36 rfl ?_
  refine z_iconst O (nI 3) dX0_get_37 (by decide) ?_
  refine z_imulN O dX0_get_38 ?_
  refine z_iload_n O dX0_get_39 rfl ?_
  refine z_iaddN O dX0_get_40 ?_
  refine z_iconst O (nI 4) dX0_get_41 (by decide) ?_
  refine z_imulN O dX0_get_42 ?_
  refine z_iload_n O dX0_get_43 rfl ?_
  refine z_iaddN O dX0_get_44 ?_
  refine z_ialdN O dX0_get_45 (by assumption) (by omega) (by decide) ?_
  exact z_iret O dX0_get_46 ⟨rfl, rfl⟩
set_option maxRecDepth 20000 in
set_option maxHeartbeats 4000000 in
theorem s_threadAt (hS : zSock G M k i1 i2 i3 we r cl) {c p : Nat} (hc : c < 9) (hp : p < 3) : zS G 2 yX0_threadAt cX0_threadAt 3 (some .int) [.ref (zad (zb G) k), .int (nI c), .int (nI p)] M 0 0 (zE (.int (nI (fld r c p 2))) M) := by
  refine zS.of (by decide) (Nat.le_of_ble_eq_true rfl) (fun F O hR1 hR2 => ?_)
  have O : zOk G F yX0_threadAt cX0_threadAt 3 (some .int) RX0 2 M.length := O
  refine z_eq (lv' := [(0, _), (1, _), (2, _)]) rfl rfl rfl ?_
  obtain ⟨hk0, hk1, hk2, hk3⟩ := id hS
  refine z_iload_n O dX0_threadAt_0 rfl ?_
  refine z_iconst O (nI 3) dX0_threadAt_1 (by decide) ?_
  refine z_SN2e0 O (s_withinN (by omega) (by omega)) mX3_within nlX0_27 dX0_threadAt_2 (Nat.le_of_ble_eq_true rfl) (by decide) ?_
  refine z_if_eqB O 18 dX0_threadAt_5 (by decide) (fun h5 => by omega) (fun h5 => ?_)
  refine z_aload_n O dX0_threadAt_8 rfl ?_
  refine z_iload_n O dX0_threadAt_9 rfl ?_
  refine z_iload_n O dX0_threadAt_10 rfl ?_
  refine z_iconst O (nI 2) dX0_threadAt_11 (by decide) ?_
  refine z_V3e0 O (s_get hS hc hp (by omega)) mX0_get lkX0_31 rfl (by assumption) dX0_threadAt_12 (Nat.le_of_ble_eq_true rfl) (by decide) ?_
  refine z_goto O 19 dX0_threadAt_15 (by decide) ?_
  exact z_iret O dX0_threadAt_19 ⟨rfl, rfl⟩
set_option maxRecDepth 20000 in
set_option maxHeartbeats 4000000 in
theorem s_isHole (hS : zSock G M k i1 i2 i3 we r cl) (hr : rowOK r) {c : Nat} (hc : c < 9) : zS G 2 yX0_isHole cX0_isHole 2 (some .boolean) [.ref (zad (zb G) k), .int (nI c)] M 0 0 (zE (.int (bI (r (108 + c) = 0))) M) := by
  refine zS.of (by decide) (Nat.le_of_ble_eq_true rfl) (fun F O hR1 hR2 => ?_)
  have O : zOk G F yX0_isHole cX0_isHole 2 (some .boolean) RX0 2 M.length := O
  refine z_eq (lv' := [(0, _), (1, _)]) rfl rfl rfl ?_
  obtain ⟨hk0, hk1, hk2, hk3⟩ := id hS
  refine z_aload_n O dX0_isHole_0 rfl ?_
  refine z_iload_n O dX0_isHole_1 rfl ?_
  refine z_V1e0 O (s_many hS hc) mX0_many lkX0_35 rfl (by assumption) dX0_isHole_2 (Nat.le_of_ble_eq_true rfl) (by decide) ?_
  refine z_if_gtN O 12 dX0_isHole_5 (by decide) (by have := hr.1 (108 + c); omega) (fun h5 => ?_) (fun h5 => ?_)
  · refine z_iconst O (nI 0) dX0_isHole_12 (by decide) ?_
    exact z_zret O dX0_isHole_13 rfl (by first | exact ⟨by rw [bI_t (by omega)]; rfl, rfl⟩ | exact ⟨by rw [bI_f (by omega)]; rfl, rfl⟩)
  · refine z_iconst O (nI 1) dX0_isHole_8 (by decide) ?_
    refine z_goto O 13 dX0_isHole_9 (by decide) ?_
    exact z_zret O dX0_isHole_13 rfl (by first | exact ⟨by rw [bI_t (by omega)]; rfl, rfl⟩ | exact ⟨by rw [bI_f (by omega)]; rfl, rfl⟩)
set_option maxRecDepth 20000 in
set_option maxHeartbeats 4000000 in
theorem s_hasRoom (hS : zSock G M k i1 i2 i3 we r cl) (hr : rowOK r) {c : Nat} (hc : c < 9) : zS G 2 yX0_hasRoom cX0_hasRoom 2 (some .boolean) [.ref (zad (zb G) k), .int (nI c)] M 0 0 (zE (.int (bI (r (108 + c) < 3))) M) := by
  refine zS.of (by decide) (Nat.le_of_ble_eq_true rfl) (fun F O hR1 hR2 => ?_)
  have O : zOk G F yX0_hasRoom cX0_hasRoom 2 (some .boolean) RX0 2 M.length := O
  refine z_eq (lv' := [(0, _), (1, _)]) rfl rfl rfl ?_
  obtain ⟨hk0, hk1, hk2, hk3⟩ := id hS
  refine z_aload_n O dX0_hasRoom_0 rfl ?_
  refine z_iload_n O dX0_hasRoom_1 rfl ?_
  refine z_V1e0 O (s_many hS hc) mX0_many lkX0_35 rfl (by assumption) dX0_hasRoom_2 (Nat.le_of_ble_eq_true rfl) (by decide) ?_
  refine z_iconst O (nI 3) dX0_hasRoom_5 (by decide) ?_
  refine z_icmp_geN O 13 dX0_hasRoom_6 (by decide) (by have := hr.1 (108 + c); omega) (by have := hr.1 (108 + c); omega) (fun h6 => ?_) (fun h6 => ?_)
  · refine z_iconst O (nI 0) dX0_hasRoom_13 (by decide) ?_
    exact z_zret O dX0_hasRoom_14 rfl (by first | exact ⟨by rw [bI_t (by omega)]; rfl, rfl⟩ | exact ⟨by rw [bI_f (by omega)]; rfl, rfl⟩)
  · refine z_iconst O (nI 1) dX0_hasRoom_9 (by decide) ?_
    refine z_goto O 14 dX0_hasRoom_10 (by decide) ?_
    exact z_zret O dX0_hasRoom_14 rfl (by first | exact ⟨by rw [bI_t (by omega)]; rfl, rfl⟩ | exact ⟨by rw [bI_f (by omega)]; rfl, rfl⟩)
end SK
end
