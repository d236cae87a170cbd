-- ===== PART A: goes FIRST, ahead of the names: the tables' words, and 'selects' of the private methods out of them =====
/-- a private method of a class that the tables say can be made, by its rows of tables_1 -/
def lw_okq (q : MethodName × Nat) : Prop := (q.1.cls ≠ "java/lang/invoke/MethodHandle" ∧ q.1.cls ≠ "java/lang/invoke/VarHandle") ∧ Cond.instantiable q.1.cls q.2 ∈ tables_1 ∧ Cond.privateMethod q.1 ∈ tables_1 ∧ Cond.instanceMethod q.1 ∈ tables_1
theorem lw_p0 : lw_okq (⟨"OthersMan$Script", "nextToken", "()Z"⟩, 10) := ⟨⟨by decide +kernel, by decide +kernel⟩, List.mem_of_getElem? (i := 22) (by decide +kernel), List.mem_of_getElem? (i := 257) (by decide +kernel), List.mem_of_getElem? (i := 258) (by decide +kernel)⟩
theorem lw_p1 : lw_okq (⟨"OthersMan$Script", "byteAt", "(I)I"⟩, 10) := ⟨⟨by decide +kernel, by decide +kernel⟩, List.mem_of_getElem? (i := 22) (by decide +kernel), List.mem_of_getElem? (i := 261) (by decide +kernel), List.mem_of_getElem? (i := 262) (by decide +kernel)⟩
theorem lw_p2 : lw_okq (⟨"OthersMan$Script", "takeWord", "()V"⟩, 10) := ⟨⟨by decide +kernel, by decide +kernel⟩, List.mem_of_getElem? (i := 22) (by decide +kernel), List.mem_of_getElem? (i := 269) (by decide +kernel), List.mem_of_getElem? (i := 270) (by decide +kernel)⟩
theorem lw_p3 : lw_okq (⟨"OthersMan$Script", "itemNamed", "()I"⟩, 10) := ⟨⟨by decide +kernel, by decide +kernel⟩, List.mem_of_getElem? (i := 22) (by decide +kernel), List.mem_of_getElem? (i := 273) (by decide +kernel), List.mem_of_getElem? (i := 274) (by decide +kernel)⟩
theorem lw_p4 : lw_okq (⟨"OthersMan$Script", "spells", "(Ljava/lang/String;)Z"⟩, 10) := ⟨⟨by decide +kernel, by decide +kernel⟩, List.mem_of_getElem? (i := 22) (by decide +kernel), List.mem_of_getElem? (i := 278) (by decide +kernel), List.mem_of_getElem? (i := 279) (by decide +kernel)⟩
theorem lw_p5 : lw_okq (⟨"OthersMan$Script", "takeNumber", "()V"⟩, 10) := ⟨⟨by decide +kernel, by decide +kernel⟩, List.mem_of_getElem? (i := 22) (by decide +kernel), List.mem_of_getElem? (i := 341) (by decide +kernel), List.mem_of_getElem? (i := 342) (by decide +kernel)⟩
theorem lw_p6 : lw_okq (⟨"OthersMan$Script", "isTaken", "(LOthersMan$Plan;)Z"⟩, 10) := ⟨⟨by decide +kernel, by decide +kernel⟩, List.mem_of_getElem? (i := 22) (by decide +kernel), List.mem_of_getElem? (i := 348) (by decide +kernel), List.mem_of_getElem? (i := 349) (by decide +kernel)⟩
theorem lw_p7 : lw_okq (⟨"OthersMan$Script", "isBegun", "(LOthersMan$Plan;)Z"⟩, 10) := ⟨⟨by decide +kernel, by decide +kernel⟩, List.mem_of_getElem? (i := 22) (by decide +kernel), List.mem_of_getElem? (i := 352) (by decide +kernel), List.mem_of_getElem? (i := 353) (by decide +kernel)⟩
theorem lw_p8 : lw_okq (⟨"OthersMan$Script", "isNumberTaken", "(LOthersMan$Plan;)Z"⟩, 10) := ⟨⟨by decide +kernel, by decide +kernel⟩, List.mem_of_getElem? (i := 22) (by decide +kernel), List.mem_of_getElem? (i := 356) (by decide +kernel), List.mem_of_getElem? (i := 357) (by decide +kernel)⟩
theorem lw_p9 : lw_okq (⟨"OthersMan$Script", "isAllowed", "(LOthersMan$Plan;I)Z"⟩, 10) := ⟨⟨by decide +kernel, by decide +kernel⟩, List.mem_of_getElem? (i := 22) (by decide +kernel), List.mem_of_getElem? (i := 360) (by decide +kernel), List.mem_of_getElem? (i := 361) (by decide +kernel)⟩
theorem lw_p10 : lw_okq (⟨"OthersMan$Script", "isDirectionTold", "(I)Z"⟩, 10) := ⟨⟨by decide +kernel, by decide +kernel⟩, List.mem_of_getElem? (i := 22) (by decide +kernel), List.mem_of_getElem? (i := 364) (by decide +kernel), List.mem_of_getElem? (i := 365) (by decide +kernel)⟩
theorem lw_p11 : lw_okq (⟨"OthersMan$Script", "isPlace", "(LOthersMan$Plan;I)Z"⟩, 10) := ⟨⟨by decide +kernel, by decide +kernel⟩, List.mem_of_getElem? (i := 22) (by decide +kernel), List.mem_of_getElem? (i := 368) (by decide +kernel), List.mem_of_getElem? (i := 369) (by decide +kernel)⟩
theorem lw_p12 : lw_okq (⟨"OthersMan$Script", "isEnded", "(LOthersMan$Plan;)Z"⟩, 10) := ⟨⟨by decide +kernel, by decide +kernel⟩, List.mem_of_getElem? (i := 22) (by decide +kernel), List.mem_of_getElem? (i := 379) (by decide +kernel), List.mem_of_getElem? (i := 380) (by decide +kernel)⟩
theorem lw_p13 : lw_okq (⟨"OthersMan$Script", "apply", "(LOthersMan$Plan;III)V"⟩, 10) := ⟨⟨by decide +kernel, by decide +kernel⟩, List.mem_of_getElem? (i := 22) (by decide +kernel), List.mem_of_getElem? (i := 386) (by decide +kernel), List.mem_of_getElem? (i := 387) (by decide +kernel)⟩
theorem lw_p14 : lw_okq (⟨"OthersMan$Script", "applyLaw", "(LOthersMan$Plan;I)V"⟩, 10) := ⟨⟨by decide +kernel, by decide +kernel⟩, List.mem_of_getElem? (i := 22) (by decide +kernel), List.mem_of_getElem? (i := 390) (by decide +kernel), List.mem_of_getElem? (i := 391) (by decide +kernel)⟩
theorem lw_p15 : lw_okq (⟨"OthersMan$Plan", "mapStepsFrom", "(III)V"⟩, 11) := ⟨⟨by decide +kernel, by decide +kernel⟩, List.mem_of_getElem? (i := 103) (by decide +kernel), List.mem_of_getElem? (i := 398) (by decide +kernel), List.mem_of_getElem? (i := 399) (by decide +kernel)⟩
def lw_privs_1 : List (MethodName × Nat) := [(⟨"OthersMan$Script", "nextToken", "()Z"⟩, 10), (⟨"OthersMan$Script", "byteAt", "(I)I"⟩, 10), (⟨"OthersMan$Script", "takeWord", "()V"⟩, 10), (⟨"OthersMan$Script", "itemNamed", "()I"⟩, 10), (⟨"OthersMan$Script", "spells", "(Ljava/lang/String;)Z"⟩, 10), (⟨"OthersMan$Script", "takeNumber", "()V"⟩, 10), (⟨"OthersMan$Script", "isTaken", "(LOthersMan$Plan;)Z"⟩, 10), (⟨"OthersMan$Script", "isBegun", "(LOthersMan$Plan;)Z"⟩, 10), (⟨"OthersMan$Script", "isNumberTaken", "(LOthersMan$Plan;)Z"⟩, 10), (⟨"OthersMan$Script", "isAllowed", "(LOthersMan$Plan;I)Z"⟩, 10), (⟨"OthersMan$Script", "isDirectionTold", "(I)Z"⟩, 10), (⟨"OthersMan$Script", "isPlace", "(LOthersMan$Plan;I)Z"⟩, 10), (⟨"OthersMan$Script", "isEnded", "(LOthersMan$Plan;)Z"⟩, 10), (⟨"OthersMan$Script", "apply", "(LOthersMan$Plan;III)V"⟩, 10), (⟨"OthersMan$Script", "applyLaw", "(LOthersMan$Plan;I)V"⟩, 10), (⟨"OthersMan$Plan", "mapStepsFrom", "(III)V"⟩, 11)]
theorem lw_r1 : ∀ q ∈ lw_privs_1, lw_okq q := List.forall_mem_cons.mpr ⟨lw_p0, List.forall_mem_cons.mpr ⟨lw_p1, List.forall_mem_cons.mpr ⟨lw_p2, List.forall_mem_cons.mpr ⟨lw_p3, List.forall_mem_cons.mpr ⟨lw_p4, List.forall_mem_cons.mpr ⟨lw_p5, List.forall_mem_cons.mpr ⟨lw_p6, List.forall_mem_cons.mpr ⟨lw_p7, List.forall_mem_cons.mpr ⟨lw_p8, List.forall_mem_cons.mpr ⟨lw_p9, List.forall_mem_cons.mpr ⟨lw_p10, List.forall_mem_cons.mpr ⟨lw_p11, List.forall_mem_cons.mpr ⟨lw_p12, List.forall_mem_cons.mpr ⟨lw_p13, List.forall_mem_cons.mpr ⟨lw_p14, List.forall_mem_cons.mpr ⟨lw_p15, fun _ h => absurd h List.not_mem_nil⟩⟩⟩⟩⟩⟩⟩⟩⟩⟩⟩⟩⟩⟩⟩⟩
theorem lw_p16 : lw_okq (⟨"OthersMan$Plan", "reach", "(IIII)I"⟩, 11) := ⟨⟨by decide +kernel, by decide +kernel⟩, List.mem_of_getElem? (i := 103) (by decide +kernel), List.mem_of_getElem? (i := 403) (by decide +kernel), List.mem_of_getElem? (i := 404) (by decide +kernel)⟩
theorem lw_p17 : lw_okq (⟨"OthersMan", "whyNotTold", "(I)I"⟩, 11) := ⟨⟨by decide +kernel, by decide +kernel⟩, List.mem_of_getElem? (i := 14) (by decide +kernel), List.mem_of_getElem? (i := 455) (by decide +kernel), List.mem_of_getElem? (i := 456) (by decide +kernel)⟩
theorem lw_p18 : lw_okq (⟨"OthersMan$Walk", "goOn", "()V"⟩, 7) := ⟨⟨by decide +kernel, by decide +kernel⟩, List.mem_of_getElem? (i := 62) (by decide +kernel), List.mem_of_getElem? (i := 474) (by decide +kernel), List.mem_of_getElem? (i := 475) (by decide +kernel)⟩
theorem lw_p19 : lw_okq (⟨"OthersMan", "mayBeRefused", "(I)Z"⟩, 11) := ⟨⟨by decide +kernel, by decide +kernel⟩, List.mem_of_getElem? (i := 14) (by decide +kernel), List.mem_of_getElem? (i := 482) (by decide +kernel), List.mem_of_getElem? (i := 483) (by decide +kernel)⟩
theorem lw_p20 : lw_okq (⟨"OthersMan$Plan", "staysWithin", "(III)Z"⟩, 11) := ⟨⟨by decide +kernel, by decide +kernel⟩, List.mem_of_getElem? (i := 103) (by decide +kernel), List.mem_of_getElem? (i := 521) (by decide +kernel), List.mem_of_getElem? (i := 522) (by decide +kernel)⟩
theorem lw_p21 : lw_okq (⟨"OthersMan", "valueAsItIs", "(I)I"⟩, 11) := ⟨⟨by decide +kernel, by decide +kernel⟩, List.mem_of_getElem? (i := 14) (by decide +kernel), List.mem_of_getElem? (i := 534) (by decide +kernel), List.mem_of_getElem? (i := 535) (by decide +kernel)⟩
theorem lw_p22 : lw_okq (⟨"OthersMan", "reckonAsItIs", "()V"⟩, 11) := ⟨⟨by decide +kernel, by decide +kernel⟩, List.mem_of_getElem? (i := 14) (by decide +kernel), List.mem_of_getElem? (i := 538) (by decide +kernel), List.mem_of_getElem? (i := 539) (by decide +kernel)⟩
theorem lw_p23 : lw_okq (⟨"OthersMan", "valueFrom", "(II)I"⟩, 11) := ⟨⟨by decide +kernel, by decide +kernel⟩, List.mem_of_getElem? (i := 14) (by decide +kernel), List.mem_of_getElem? (i := 556) (by decide +kernel), List.mem_of_getElem? (i := 557) (by decide +kernel)⟩
theorem lw_p24 : lw_okq (⟨"OthersMan", "ahead", "(I)I"⟩, 11) := ⟨⟨by decide +kernel, by decide +kernel⟩, List.mem_of_getElem? (i := 14) (by decide +kernel), List.mem_of_getElem? (i := 564) (by decide +kernel), List.mem_of_getElem? (i := 565) (by decide +kernel)⟩
theorem lw_p25 : lw_okq (⟨"OthersMan$Reckoner", "mostFrom", "(III)I"⟩, 5) := ⟨⟨by decide +kernel, by decide +kernel⟩, List.mem_of_getElem? (i := 97) (by decide +kernel), List.mem_of_getElem? (i := 569) (by decide +kernel), List.mem_of_getElem? (i := 570) (by decide +kernel)⟩
theorem lw_p26 : lw_okq (⟨"OthersMan$Reckoner", "valueIn", "(II)I"⟩, 5) := ⟨⟨by decide +kernel, by decide +kernel⟩, List.mem_of_getElem? (i := 97) (by decide +kernel), List.mem_of_getElem? (i := 581) (by decide +kernel), List.mem_of_getElem? (i := 582) (by decide +kernel)⟩
theorem lw_p27 : lw_okq (⟨"OthersMan$Reckoner", "afterDone", "(III)I"⟩, 5) := ⟨⟨by decide +kernel, by decide +kernel⟩, List.mem_of_getElem? (i := 97) (by decide +kernel), List.mem_of_getElem? (i := 596) (by decide +kernel), List.mem_of_getElem? (i := 597) (by decide +kernel)⟩
theorem lw_p28 : lw_okq (⟨"OthersMan$Reckoner", "afterTold", "(IIZI)I"⟩, 5) := ⟨⟨by decide +kernel, by decide +kernel⟩, List.mem_of_getElem? (i := 97) (by decide +kernel), List.mem_of_getElem? (i := 605) (by decide +kernel), List.mem_of_getElem? (i := 606) (by decide +kernel)⟩
theorem lw_p29 : lw_okq (⟨"OthersMan$Reckoner", "afterRefused", "(III)I"⟩, 5) := ⟨⟨by decide +kernel, by decide +kernel⟩, List.mem_of_getElem? (i := 97) (by decide +kernel), List.mem_of_getElem? (i := 609) (by decide +kernel), List.mem_of_getElem? (i := 610) (by decide +kernel)⟩
theorem lw_p30 : lw_okq (⟨"OthersMan", "valueByLaws", "(III)I"⟩, 11) := ⟨⟨by decide +kernel, by decide +kernel⟩, List.mem_of_getElem? (i := 14) (by decide +kernel), List.mem_of_getElem? (i := 643) (by decide +kernel), List.mem_of_getElem? (i := 644) (by decide +kernel)⟩
theorem lw_p31 : lw_okq (⟨"OthersMan", "isFair", "(II)Z"⟩, 11) := ⟨⟨by decide +kernel, by decide +kernel⟩, List.mem_of_getElem? (i := 14) (by decide +kernel), List.mem_of_getElem? (i := 652) (by decide +kernel), List.mem_of_getElem? (i := 653) (by decide +kernel)⟩
def lw_privs_2 : List (MethodName × Nat) := [(⟨"OthersMan$Plan", "reach", "(IIII)I"⟩, 11), (⟨"OthersMan", "whyNotTold", "(I)I"⟩, 11), (⟨"OthersMan$Walk", "goOn", "()V"⟩, 7), (⟨"OthersMan", "mayBeRefused", "(I)Z"⟩, 11), (⟨"OthersMan$Plan", "staysWithin", "(III)Z"⟩, 11), (⟨"OthersMan", "valueAsItIs", "(I)I"⟩, 11), (⟨"OthersMan", "reckonAsItIs", "()V"⟩, 11), (⟨"OthersMan", "valueFrom", "(II)I"⟩, 11), (⟨"OthersMan", "ahead", "(I)I"⟩, 11), (⟨"OthersMan$Reckoner", "mostFrom", "(III)I"⟩, 5), (⟨"OthersMan$Reckoner", "valueIn", "(II)I"⟩, 5), (⟨"OthersMan$Reckoner", "afterDone", "(III)I"⟩, 5), (⟨"OthersMan$Reckoner", "afterTold", "(IIZI)I"⟩, 5), (⟨"OthersMan$Reckoner", "afterRefused", "(III)I"⟩, 5), (⟨"OthersMan", "valueByLaws", "(III)I"⟩, 11), (⟨"OthersMan", "isFair", "(II)Z"⟩, 11)]
theorem lw_r2 : ∀ q ∈ lw_privs_2, lw_okq q := List.forall_mem_cons.mpr ⟨lw_p16, List.forall_mem_cons.mpr ⟨lw_p17, List.forall_mem_cons.mpr ⟨lw_p18, List.forall_mem_cons.mpr ⟨lw_p19, List.forall_mem_cons.mpr ⟨lw_p20, List.forall_mem_cons.mpr ⟨lw_p21, List.forall_mem_cons.mpr ⟨lw_p22, List.forall_mem_cons.mpr ⟨lw_p23, List.forall_mem_cons.mpr ⟨lw_p24, List.forall_mem_cons.mpr ⟨lw_p25, List.forall_mem_cons.mpr ⟨lw_p26, List.forall_mem_cons.mpr ⟨lw_p27, List.forall_mem_cons.mpr ⟨lw_p28, List.forall_mem_cons.mpr ⟨lw_p29, List.forall_mem_cons.mpr ⟨lw_p30, List.forall_mem_cons.mpr ⟨lw_p31, fun _ h => absurd h List.not_mem_nil⟩⟩⟩⟩⟩⟩⟩⟩⟩⟩⟩⟩⟩⟩⟩⟩
theorem lw_p32 : lw_okq (⟨"OthersMan", "walkedByLot", "()I"⟩, 11) := ⟨⟨by decide +kernel, by decide +kernel⟩, List.mem_of_getElem? (i := 14) (by decide +kernel), List.mem_of_getElem? (i := 668) (by decide +kernel), List.mem_of_getElem? (i := 669) (by decide +kernel)⟩
theorem lw_p33 : lw_okq (⟨"OthersMan", "rateStep", "(I)I"⟩, 11) := ⟨⟨by decide +kernel, by decide +kernel⟩, List.mem_of_getElem? (i := 14) (by decide +kernel), List.mem_of_getElem? (i := 694) (by decide +kernel), List.mem_of_getElem? (i := 695) (by decide +kernel)⟩
theorem lw_p34 : lw_okq (⟨"OthersMan", "rateTold", "(I)I"⟩, 11) := ⟨⟨by decide +kernel, by decide +kernel⟩, List.mem_of_getElem? (i := 14) (by decide +kernel), List.mem_of_getElem? (i := 698) (by decide +kernel), List.mem_of_getElem? (i := 699) (by decide +kernel)⟩
theorem lw_p35 : lw_okq (⟨"OthersMan", "rateRung", "(I)I"⟩, 11) := ⟨⟨by decide +kernel, by decide +kernel⟩, List.mem_of_getElem? (i := 14) (by decide +kernel), List.mem_of_getElem? (i := 703) (by decide +kernel), List.mem_of_getElem? (i := 704) (by decide +kernel)⟩
theorem lw_p36 : lw_okq (⟨"OthersMan", "rateRefused", "(I)I"⟩, 11) := ⟨⟨by decide +kernel, by decide +kernel⟩, List.mem_of_getElem? (i := 14) (by decide +kernel), List.mem_of_getElem? (i := 708) (by decide +kernel), List.mem_of_getElem? (i := 709) (by decide +kernel)⟩
theorem lw_p37 : lw_okq (⟨"OthersMan", "rateFatal", "(I)I"⟩, 11) := ⟨⟨by decide +kernel, by decide +kernel⟩, List.mem_of_getElem? (i := 14) (by decide +kernel), List.mem_of_getElem? (i := 713) (by decide +kernel), List.mem_of_getElem? (i := 714) (by decide +kernel)⟩
theorem lw_p38 : lw_okq (⟨"OthersMan", "ratePassed", "(I)I"⟩, 11) := ⟨⟨by decide +kernel, by decide +kernel⟩, List.mem_of_getElem? (i := 14) (by decide +kernel), List.mem_of_getElem? (i := 718) (by decide +kernel), List.mem_of_getElem? (i := 719) (by decide +kernel)⟩
theorem lw_p39 : lw_okq (⟨"OthersMan", "imageOf", "(I)LOthersMan$Walk;"⟩, 11) := ⟨⟨by decide +kernel, by decide +kernel⟩, List.mem_of_getElem? (i := 14) (by decide +kernel), List.mem_of_getElem? (i := 727) (by decide +kernel), List.mem_of_getElem? (i := 728) (by decide +kernel)⟩
theorem lw_p40 : lw_okq (⟨"OthersManModel", "drafts", "(II)V"⟩, 19) := ⟨⟨by decide +kernel, by decide +kernel⟩, List.mem_of_getElem? (i := 751) (by decide +kernel), List.mem_of_getElem? (i := 757) (by decide +kernel), List.mem_of_getElem? (i := 758) (by decide +kernel)⟩
theorem lw_p41 : lw_okq (⟨"OthersManModel", "adopts", "()V"⟩, 19) := ⟨⟨by decide +kernel, by decide +kernel⟩, List.mem_of_getElem? (i := 751) (by decide +kernel), List.mem_of_getElem? (i := 761) (by decide +kernel), List.mem_of_getElem? (i := 762) (by decide +kernel)⟩
theorem lw_p42 : lw_okq (⟨"OthersManModel", "begins", "()V"⟩, 19) := ⟨⟨by decide +kernel, by decide +kernel⟩, List.mem_of_getElem? (i := 751) (by decide +kernel), List.mem_of_getElem? (i := 765) (by decide +kernel), List.mem_of_getElem? (i := 766) (by decide +kernel)⟩
theorem lw_p43 : lw_okq (⟨"OthersManModel", "advances", "()V"⟩, 19) := ⟨⟨by decide +kernel, by decide +kernel⟩, List.mem_of_getElem? (i := 751) (by decide +kernel), List.mem_of_getElem? (i := 844) (by decide +kernel), List.mem_of_getElem? (i := 845) (by decide +kernel)⟩
theorem lw_p44 : lw_okq (⟨"OthersManModel", "byteAt", "(I)I"⟩, 19) := ⟨⟨by decide +kernel, by decide +kernel⟩, List.mem_of_getElem? (i := 751) (by decide +kernel), List.mem_of_getElem? (i := 848) (by decide +kernel), List.mem_of_getElem? (i := 849) (by decide +kernel)⟩
theorem lw_p45 : lw_okq (⟨"OthersManModel", "isWell", "()Z"⟩, 19) := ⟨⟨by decide +kernel, by decide +kernel⟩, List.mem_of_getElem? (i := 751) (by decide +kernel), List.mem_of_getElem? (i := 862) (by decide +kernel), List.mem_of_getElem? (i := 863) (by decide +kernel)⟩
theorem lw_p46 : lw_okq (⟨"OthersManModel", "takes", "(Z)I"⟩, 19) := ⟨⟨by decide +kernel, by decide +kernel⟩, List.mem_of_getElem? (i := 751) (by decide +kernel), List.mem_of_getElem? (i := 866) (by decide +kernel), List.mem_of_getElem? (i := 867) (by decide +kernel)⟩
theorem lw_p47 : lw_okq (⟨"OthersManModel", "readsItem", "(I)V"⟩, 19) := ⟨⟨by decide +kernel, by decide +kernel⟩, List.mem_of_getElem? (i := 751) (by decide +kernel), List.mem_of_getElem? (i := 870) (by decide +kernel), List.mem_of_getElem? (i := 871) (by decide +kernel)⟩
def lw_privs_3 : List (MethodName × Nat) := [(⟨"OthersMan", "walkedByLot", "()I"⟩, 11), (⟨"OthersMan", "rateStep", "(I)I"⟩, 11), (⟨"OthersMan", "rateTold", "(I)I"⟩, 11), (⟨"OthersMan", "rateRung", "(I)I"⟩, 11), (⟨"OthersMan", "rateRefused", "(I)I"⟩, 11), (⟨"OthersMan", "rateFatal", "(I)I"⟩, 11), (⟨"OthersMan", "ratePassed", "(I)I"⟩, 11), (⟨"OthersMan", "imageOf", "(I)LOthersMan$Walk;"⟩, 11), (⟨"OthersManModel", "drafts", "(II)V"⟩, 19), (⟨"OthersManModel", "adopts", "()V"⟩, 19), (⟨"OthersManModel", "begins", "()V"⟩, 19), (⟨"OthersManModel", "advances", "()V"⟩, 19), (⟨"OthersManModel", "byteAt", "(I)I"⟩, 19), (⟨"OthersManModel", "isWell", "()Z"⟩, 19), (⟨"OthersManModel", "takes", "(Z)I"⟩, 19), (⟨"OthersManModel", "readsItem", "(I)V"⟩, 19)]
theorem lw_r3 : ∀ q ∈ lw_privs_3, lw_okq q := List.forall_mem_cons.mpr ⟨lw_p32, List.forall_mem_cons.mpr ⟨lw_p33, List.forall_mem_cons.mpr ⟨lw_p34, List.forall_mem_cons.mpr ⟨lw_p35, List.forall_mem_cons.mpr ⟨lw_p36, List.forall_mem_cons.mpr ⟨lw_p37, List.forall_mem_cons.mpr ⟨lw_p38, List.forall_mem_cons.mpr ⟨lw_p39, List.forall_mem_cons.mpr ⟨lw_p40, List.forall_mem_cons.mpr ⟨lw_p41, List.forall_mem_cons.mpr ⟨lw_p42, List.forall_mem_cons.mpr ⟨lw_p43, List.forall_mem_cons.mpr ⟨lw_p44, List.forall_mem_cons.mpr ⟨lw_p45, List.forall_mem_cons.mpr ⟨lw_p46, List.forall_mem_cons.mpr ⟨lw_p47, fun _ h => absurd h List.not_mem_nil⟩⟩⟩⟩⟩⟩⟩⟩⟩⟩⟩⟩⟩⟩⟩⟩
theorem lw_p48 : lw_okq (⟨"OthersManModel", "number", "(II)I"⟩, 19) := ⟨⟨by decide +kernel, by decide +kernel⟩, List.mem_of_getElem? (i := 751) (by decide +kernel), List.mem_of_getElem? (i := 874) (by decide +kernel), List.mem_of_getElem? (i := 875) (by decide +kernel)⟩
theorem lw_p49 : lw_okq (⟨"OthersManModel", "readsLaw", "()V"⟩, 19) := ⟨⟨by decide +kernel, by decide +kernel⟩, List.mem_of_getElem? (i := 751) (by decide +kernel), List.mem_of_getElem? (i := 878) (by decide +kernel), List.mem_of_getElem? (i := 879) (by decide +kernel)⟩
theorem lw_p50 : lw_okq (⟨"OthersManModel", "readsMan", "(I)V"⟩, 19) := ⟨⟨by decide +kernel, by decide +kernel⟩, List.mem_of_getElem? (i := 751) (by decide +kernel), List.mem_of_getElem? (i := 882) (by decide +kernel), List.mem_of_getElem? (i := 883) (by decide +kernel)⟩
theorem lw_p51 : lw_okq (⟨"OthersManModel", "mayNow", "(I)I"⟩, 19) := ⟨⟨by decide +kernel, by decide +kernel⟩, List.mem_of_getElem? (i := 751) (by decide +kernel), List.mem_of_getElem? (i := 898) (by decide +kernel), List.mem_of_getElem? (i := 899) (by decide +kernel)⟩
theorem lw_p52 : lw_okq (⟨"OthersManModel", "asTold", "()V"⟩, 19) := ⟨⟨by decide +kernel, by decide +kernel⟩, List.mem_of_getElem? (i := 751) (by decide +kernel), List.mem_of_getElem? (i := 902) (by decide +kernel), List.mem_of_getElem? (i := 903) (by decide +kernel)⟩
theorem lw_p53 : lw_okq (⟨"OthersManModel", "mayBe", "(III)I"⟩, 19) := ⟨⟨by decide +kernel, by decide +kernel⟩, List.mem_of_getElem? (i := 751) (by decide +kernel), List.mem_of_getElem? (i := 906) (by decide +kernel), List.mem_of_getElem? (i := 907) (by decide +kernel)⟩
theorem lw_p54 : lw_okq (⟨"OthersManModel", "leads", "(III)I"⟩, 19) := ⟨⟨by decide +kernel, by decide +kernel⟩, List.mem_of_getElem? (i := 751) (by decide +kernel), List.mem_of_getElem? (i := 910) (by decide +kernel), List.mem_of_getElem? (i := 911) (by decide +kernel)⟩
theorem lw_p55 : lw_okq (⟨"OthersManModel", "refusal", "(I)I"⟩, 19) := ⟨⟨by decide +kernel, by decide +kernel⟩, List.mem_of_getElem? (i := 751) (by decide +kernel), List.mem_of_getElem? (i := 921) (by decide +kernel), List.mem_of_getElem? (i := 922) (by decide +kernel)⟩
theorem lw_p56 : lw_okq (⟨"OthersManModel", "mayTell", "(I)Z"⟩, 19) := ⟨⟨by decide +kernel, by decide +kernel⟩, List.mem_of_getElem? (i := 751) (by decide +kernel), List.mem_of_getElem? (i := 925) (by decide +kernel), List.mem_of_getElem? (i := 926) (by decide +kernel)⟩
theorem lw_p57 : lw_okq (⟨"OthersManModel", "counts", "()V"⟩, 19) := ⟨⟨by decide +kernel, by decide +kernel⟩, List.mem_of_getElem? (i := 751) (by decide +kernel), List.mem_of_getElem? (i := 929) (by decide +kernel), List.mem_of_getElem? (i := 930) (by decide +kernel)⟩
theorem lw_p58 : lw_okq (⟨"OthersManModel", "mayRefuse", "()Z"⟩, 19) := ⟨⟨by decide +kernel, by decide +kernel⟩, List.mem_of_getElem? (i := 751) (by decide +kernel), List.mem_of_getElem? (i := 937) (by decide +kernel), List.mem_of_getElem? (i := 938) (by decide +kernel)⟩
theorem lw_p59 : lw_okq (⟨"OthersManModel", "safeIn", "(II)I"⟩, 19) := ⟨⟨by decide +kernel, by decide +kernel⟩, List.mem_of_getElem? (i := 751) (by decide +kernel), List.mem_of_getElem? (i := 960) (by decide +kernel), List.mem_of_getElem? (i := 961) (by decide +kernel)⟩
theorem lw_p60 : lw_okq (⟨"OthersManModel", "cells", "()I"⟩, 19) := ⟨⟨by decide +kernel, by decide +kernel⟩, List.mem_of_getElem? (i := 751) (by decide +kernel), List.mem_of_getElem? (i := 964) (by decide +kernel), List.mem_of_getElem? (i := 965) (by decide +kernel)⟩
theorem lw_p61 : lw_okq (⟨"OthersManModel", "valueNow", "(I)I"⟩, 19) := ⟨⟨by decide +kernel, by decide +kernel⟩, List.mem_of_getElem? (i := 751) (by decide +kernel), List.mem_of_getElem? (i := 977) (by decide +kernel), List.mem_of_getElem? (i := 978) (by decide +kernel)⟩
theorem lw_p62 : lw_okq (⟨"OthersManModel", "valueIn", "(IIIIII)I"⟩, 19) := ⟨⟨by decide +kernel, by decide +kernel⟩, List.mem_of_getElem? (i := 751) (by decide +kernel), List.mem_of_getElem? (i := 981) (by decide +kernel), List.mem_of_getElem? (i := 982) (by decide +kernel)⟩
theorem lw_p63 : lw_okq (⟨"OthersManModel", "stepsIn", "(I)I"⟩, 19) := ⟨⟨by decide +kernel, by decide +kernel⟩, List.mem_of_getElem? (i := 751) (by decide +kernel), List.mem_of_getElem? (i := 985) (by decide +kernel), List.mem_of_getElem? (i := 986) (by decide +kernel)⟩
def lw_privs_4 : List (MethodName × Nat) := [(⟨"OthersManModel", "number", "(II)I"⟩, 19), (⟨"OthersManModel", "readsLaw", "()V"⟩, 19), (⟨"OthersManModel", "readsMan", "(I)V"⟩, 19), (⟨"OthersManModel", "mayNow", "(I)I"⟩, 19), (⟨"OthersManModel", "asTold", "()V"⟩, 19), (⟨"OthersManModel", "mayBe", "(III)I"⟩, 19), (⟨"OthersManModel", "leads", "(III)I"⟩, 19), (⟨"OthersManModel", "refusal", "(I)I"⟩, 19), (⟨"OthersManModel", "mayTell", "(I)Z"⟩, 19), (⟨"OthersManModel", "counts", "()V"⟩, 19), (⟨"OthersManModel", "mayRefuse", "()Z"⟩, 19), (⟨"OthersManModel", "safeIn", "(II)I"⟩, 19), (⟨"OthersManModel", "cells", "()I"⟩, 19), (⟨"OthersManModel", "valueNow", "(I)I"⟩, 19), (⟨"OthersManModel", "valueIn", "(IIIIII)I"⟩, 19), (⟨"OthersManModel", "stepsIn", "(I)I"⟩, 19)]
theorem lw_r4 : ∀ q ∈ lw_privs_4, lw_okq q := List.forall_mem_cons.mpr ⟨lw_p48, List.forall_mem_cons.mpr ⟨lw_p49, List.forall_mem_cons.mpr ⟨lw_p50, List.forall_mem_cons.mpr ⟨lw_p51, List.forall_mem_cons.mpr ⟨lw_p52, List.forall_mem_cons.mpr ⟨lw_p53, List.forall_mem_cons.mpr ⟨lw_p54, List.forall_mem_cons.mpr ⟨lw_p55, List.forall_mem_cons.mpr ⟨lw_p56, List.forall_mem_cons.mpr ⟨lw_p57, List.forall_mem_cons.mpr ⟨lw_p58, List.forall_mem_cons.mpr ⟨lw_p59, List.forall_mem_cons.mpr ⟨lw_p60, List.forall_mem_cons.mpr ⟨lw_p61, List.forall_mem_cons.mpr ⟨lw_p62, List.forall_mem_cons.mpr ⟨lw_p63, fun _ h => absurd h List.not_mem_nil⟩⟩⟩⟩⟩⟩⟩⟩⟩⟩⟩⟩⟩⟩⟩⟩
theorem lw_p64 : lw_okq (⟨"OthersManModel", "reckons", "(I)V"⟩, 19) := ⟨⟨by decide +kernel, by decide +kernel⟩, List.mem_of_getElem? (i := 751) (by decide +kernel), List.mem_of_getElem? (i := 989) (by decide +kernel), List.mem_of_getElem? (i := 990) (by decide +kernel)⟩
theorem lw_p65 : lw_okq (⟨"OthersManModel", "valueOf", "(IIIII)I"⟩, 19) := ⟨⟨by decide +kernel, by decide +kernel⟩, List.mem_of_getElem? (i := 751) (by decide +kernel), List.mem_of_getElem? (i := 996) (by decide +kernel), List.mem_of_getElem? (i := 997) (by decide +kernel)⟩
theorem lw_p66 : lw_okq (⟨"OthersManModel", "looks", "(IIIII)I"⟩, 19) := ⟨⟨by decide +kernel, by decide +kernel⟩, List.mem_of_getElem? (i := 751) (by decide +kernel), List.mem_of_getElem? (i := 1000) (by decide +kernel), List.mem_of_getElem? (i := 1001) (by decide +kernel)⟩
theorem lw_p67 : lw_okq (⟨"OthersManModel", "after", "(IIIIII)I"⟩, 19) := ⟨⟨by decide +kernel, by decide +kernel⟩, List.mem_of_getElem? (i := 751) (by decide +kernel), List.mem_of_getElem? (i := 1004) (by decide +kernel), List.mem_of_getElem? (i := 1005) (by decide +kernel)⟩
theorem lw_p68 : lw_okq (⟨"OthersManModel", "told", "(IIII)I"⟩, 19) := ⟨⟨by decide +kernel, by decide +kernel⟩, List.mem_of_getElem? (i := 751) (by decide +kernel), List.mem_of_getElem? (i := 1008) (by decide +kernel), List.mem_of_getElem? (i := 1009) (by decide +kernel)⟩
theorem lw_p69 : lw_okq (⟨"OthersManModel", "bestOf", "([IIIZ)I"⟩, 19) := ⟨⟨by decide +kernel, by decide +kernel⟩, List.mem_of_getElem? (i := 751) (by decide +kernel), List.mem_of_getElem? (i := 1012) (by decide +kernel), List.mem_of_getElem? (i := 1013) (by decide +kernel)⟩
theorem lw_p70 : lw_okq (⟨"OthersManModel", "isLaw", "(I)Z"⟩, 19) := ⟨⟨by decide +kernel, by decide +kernel⟩, List.mem_of_getElem? (i := 751) (by decide +kernel), List.mem_of_getElem? (i := 1035) (by decide +kernel), List.mem_of_getElem? (i := 1036) (by decide +kernel)⟩
theorem lw_p71 : lw_okq (⟨"OthersManModel", "bagOf", "(III)I"⟩, 19) := ⟨⟨by decide +kernel, by decide +kernel⟩, List.mem_of_getElem? (i := 751) (by decide +kernel), List.mem_of_getElem? (i := 1039) (by decide +kernel), List.mem_of_getElem? (i := 1040) (by decide +kernel)⟩
theorem lw_p72 : lw_okq (⟨"OthersManModel", "walks", "()I"⟩, 19) := ⟨⟨by decide +kernel, by decide +kernel⟩, List.mem_of_getElem? (i := 751) (by decide +kernel), List.mem_of_getElem? (i := 1055) (by decide +kernel), List.mem_of_getElem? (i := 1056) (by decide +kernel)⟩
def lw_privs_5 : List (MethodName × Nat) := [(⟨"OthersManModel", "reckons", "(I)V"⟩, 19), (⟨"OthersManModel", "valueOf", "(IIIII)I"⟩, 19), (⟨"OthersManModel", "looks", "(IIIII)I"⟩, 19), (⟨"OthersManModel", "after", "(IIIIII)I"⟩, 19), (⟨"OthersManModel", "told", "(IIII)I"⟩, 19), (⟨"OthersManModel", "bestOf", "([IIIZ)I"⟩, 19), (⟨"OthersManModel", "isLaw", "(I)Z"⟩, 19), (⟨"OthersManModel", "bagOf", "(III)I"⟩, 19), (⟨"OthersManModel", "walks", "()I"⟩, 19)]
theorem lw_r5 : ∀ q ∈ lw_privs_5, lw_okq q := List.forall_mem_cons.mpr ⟨lw_p64, List.forall_mem_cons.mpr ⟨lw_p65, List.forall_mem_cons.mpr ⟨lw_p66, List.forall_mem_cons.mpr ⟨lw_p67, List.forall_mem_cons.mpr ⟨lw_p68, List.forall_mem_cons.mpr ⟨lw_p69, List.forall_mem_cons.mpr ⟨lw_p70, List.forall_mem_cons.mpr ⟨lw_p71, List.forall_mem_cons.mpr ⟨lw_p72, fun _ h => absurd h List.not_mem_nil⟩⟩⟩⟩⟩⟩⟩⟩⟩
def lw_privs : List (MethodName × Nat) := lw_privs_1 ++ (lw_privs_2 ++ (lw_privs_3 ++ (lw_privs_4 ++ (lw_privs_5))))
def lw_tbl : List Cond := k2_sels lw_privs ++ tables_1
theorem lw_privs_ok : ∀ q ∈ lw_privs, lw_okq q := by
  show ∀ q ∈ lw_privs_1 ++ (lw_privs_2 ++ (lw_privs_3 ++ (lw_privs_4 ++ (lw_privs_5)))), lw_okq q
  exact List.forall_mem_append.mpr ⟨lw_r1, List.forall_mem_append.mpr ⟨lw_r2, List.forall_mem_append.mpr ⟨lw_r3, List.forall_mem_append.mpr ⟨lw_r4, lw_r5⟩⟩⟩⟩
def RX0 : String := "OthersMan$Plan"
def TX0 : u_T := fun k => match k with
  | 0 => ("OthersMan$Plan", "kinds", "[I", true)
  | 1 => ("OthersMan$Plan", "fars", "[I", true)
  | 2 => ("OthersMan$Plan", "ways", "[I", true)
  | 3 => ("OthersMan$Plan", "leads", "[I", true)
  | 4 => ("OthersMan$Plan", "starts", "[I", true)
  | 5 => ("OthersMan$Plan", "homes", "[I", true)
  | 6 => ("OthersMan$Plan", "uses", "[I", true)
  | 7 => ("OthersMan$Plan", "refusals", "[I", true)
  | 8 => ("OthersMan$Plan", "wide", "I", false)
  | 9 => ("OthersMan$Plan", "high", "I", false)
  | _ => ("OthersMan$Plan", "laws", "I", false)
def tyX0 : Nat → FieldType := fun k => match k with
  | 0 => .array .int
  | 1 => .array .int
  | 2 => .array .int
  | 3 => .array .int
  | 4 => .array .int
  | 5 => .array .int
  | 6 => .array .int
  | 7 => .array .int
  | 8 => .int
  | 9 => .int
  | _ => .int
abbrev wsX00 : List Cond := u_ws RX0 TX0 11
theorem nmX0 : ∀ a, a < 11 → ∀ b, b < 11 → a ≠ b → (TX0 a).2.1 ≠ (TX0 b).2.1 := by decide +kernel
theorem tyX0_ok : ∀ k, k < 11 → parseFieldDescriptor (TX0 k).2.2.1 = some (tyX0 k) := by decide +kernel
abbrev cX0_init : ByteArray := prog_2_method_1_code
def yX0_init : MethodName := ⟨RX0, "<init>", "()V"⟩
abbrev cX0_setAtFirst : ByteArray := prog_2_method_2_code
def yX0_setAtFirst : MethodName := ⟨RX0, "setAtFirst", "(II)V"⟩
abbrev cX0_numberOf : ByteArray := prog_2_method_3_code
def yX0_numberOf : MethodName := ⟨RX0, "numberOf", "(II)I"⟩
abbrev cX0_lawOf : ByteArray := prog_2_method_4_code
def yX0_lawOf : MethodName := ⟨RX0, "lawOf", "(I)I"⟩
abbrev cX0_cellsThatAre : ByteArray := prog_2_method_5_code
def yX0_cellsThatAre : MethodName := ⟨RX0, "cellsThatAre", "(I)I"⟩
abbrev cX0_mapSteps : ByteArray := prog_2_method_6_code
def yX0_mapSteps : MethodName := ⟨RX0, "mapSteps", "()V"⟩
abbrev cX0_mapStepsFrom : ByteArray := prog_2_method_7_code
def yX0_mapStepsFrom : MethodName := ⟨RX0, "mapStepsFrom", "(III)V"⟩
abbrev cX0_reach : ByteArray := prog_2_method_8_code
def yX0_reach : MethodName := ⟨RX0, "reach", "(IIII)I"⟩
abbrev cX0_leadsTo : ByteArray := prog_2_method_9_code
def yX0_leadsTo : MethodName := ⟨RX0, "leadsTo", "(III)I"⟩
abbrev cX0_mayBits : ByteArray := prog_2_method_10_code
def yX0_mayBits : MethodName := ⟨RX0, "mayBits", "(III)I"⟩
abbrev cX0_fateOn : ByteArray := prog_2_method_11_code
def yX0_fateOn : MethodName := ⟨RX0, "fateOn", "(II)I"⟩
abbrev cX0_solidCells : ByteArray := prog_2_method_12_code
def yX0_solidCells : MethodName := ⟨RX0, "solidCells", "()I"⟩
abbrev cX0_safeWithin : ByteArray := prog_2_method_13_code
def yX0_safeWithin : MethodName := ⟨RX0, "safeWithin", "(II)I"⟩
abbrev cX0_staysWithin : ByteArray := prog_2_method_14_code
def yX0_staysWithin : MethodName := ⟨RX0, "staysWithin", "(III)Z"⟩
def RX1 : String := "OthersMan$Reckoner"
def TX1 : u_T := fun k => match k with
  | 0 => ("OthersMan$Reckoner", "known", "[I", true)
  | 1 => ("OthersMan$Reckoner", "laws", "[I", true)
  | 2 => ("OthersMan$Reckoner", "homes", "[I", true)
  | 3 => ("OthersMan$Reckoner", "plan", "LOthersMan$Plan;", false)
  | _ => ("OthersMan$Reckoner", "reckoning", "I", false)
def tyX1 : Nat → FieldType := fun k => match k with
  | 0 => .array .int
  | 1 => .array .int
  | 2 => .array .int
  | 3 => .object "OthersMan$Plan"
  | _ => .int
abbrev wsX10 : List Cond := u_ws RX1 TX1 5
theorem nmX1 : ∀ a, a < 5 → ∀ b, b < 5 → a ≠ b → (TX1 a).2.1 ≠ (TX1 b).2.1 := by decide +kernel
theorem tyX1_ok : ∀ k, k < 5 → parseFieldDescriptor (TX1 k).2.2.1 = some (tyX1 k) := by decide +kernel
abbrev cX1_init : ByteArray := prog_3_method_1_code
def yX1_init : MethodName := ⟨RX1, "<init>", "()V"⟩
abbrev cX1_begin : ByteArray := prog_3_method_2_code
def yX1_begin : MethodName := ⟨RX1, "begin", "(LOthersMan$Plan;II)V"⟩
abbrev cX1_setHomes : ByteArray := prog_3_method_3_code
def yX1_setHomes : MethodName := ⟨RX1, "setHomes", "(II)V"⟩
abbrev cX1_cellIn : ByteArray := prog_3_method_4_code
def yX1_cellIn : MethodName := ⟨RX1, "cellIn", "(II)I"⟩
abbrev cX1_leftIn : ByteArray := prog_3_method_5_code
def yX1_leftIn : MethodName := ⟨RX1, "leftIn", "(II)I"⟩
abbrev cX1_tellerIn : ByteArray := prog_3_method_6_code
def yX1_tellerIn : MethodName := ⟨RX1, "tellerIn", "(I)I"⟩
abbrev cX1_withCell : ByteArray := prog_3_method_7_code
def yX1_withCell : MethodName := ⟨RX1, "withCell", "(III)I"⟩
abbrev cX1_withRefusals : ByteArray := prog_3_method_8_code
def yX1_withRefusals : MethodName := ⟨RX1, "withRefusals", "(III)I"⟩
abbrev cX1_changedMen : ByteArray := prog_3_method_9_code
def yX1_changedMen : MethodName := ⟨RX1, "changedMen", "(I)I"⟩
abbrev cX1_wants : ByteArray := prog_3_method_10_code
def yX1_wants : MethodName := ⟨RX1, "wants", "(I)I"⟩
abbrev cX1_valueIn : ByteArray := prog_3_method_11_code
def yX1_valueIn : MethodName := ⟨RX1, "valueIn", "(II)I"⟩
abbrev cX1_placeOf : ByteArray := prog_3_method_12_code
def yX1_placeOf : MethodName := ⟨RX1, "placeOf", "(II)I"⟩
abbrev cX1_mostFrom : ByteArray := prog_3_method_13_code
def yX1_mostFrom : MethodName := ⟨RX1, "mostFrom", "(III)I"⟩
abbrev cX1_afterTold : ByteArray := prog_3_method_14_code
def yX1_afterTold : MethodName := ⟨RX1, "afterTold", "(IIZI)I"⟩
abbrev cX1_isBetterRefused : ByteArray := prog_3_method_15_code
def yX1_isBetterRefused : MethodName := ⟨RX1, "isBetterRefused", "(III)Z"⟩
abbrev cX1_afterRefused : ByteArray := prog_3_method_16_code
def yX1_afterRefused : MethodName := ⟨RX1, "afterRefused", "(III)I"⟩
abbrev cX1_afterDone : ByteArray := prog_3_method_17_code
def yX1_afterDone : MethodName := ⟨RX1, "afterDone", "(III)I"⟩
def RX2 : String := "OthersMan$Script"
def TX2 : u_T := fun k => match k with
  | 0 => ("OthersMan$Script", "bytes", "[I", true)
  | 1 => ("OthersMan$Script", "numbers", "[I", true)
  | 2 => ("OthersMan$Script", "length", "I", false)
  | 3 => ("OthersMan$Script", "place", "I", false)
  | 4 => ("OthersMan$Script", "tokenPlace", "I", false)
  | 5 => ("OthersMan$Script", "tokenKind", "I", false)
  | 6 => ("OthersMan$Script", "tokenValue", "I", false)
  | 7 => ("OthersMan$Script", "item", "I", false)
  | 8 => ("OthersMan$Script", "items", "I", false)
  | _ => ("OthersMan$Script", "told", "I", false)
def tyX2 : Nat → FieldType := fun k => match k with
  | 0 => .array .int
  | 1 => .array .int
  | 2 => .int
  | 3 => .int
  | 4 => .int
  | 5 => .int
  | 6 => .int
  | 7 => .int
  | 8 => .int
  | _ => .int
abbrev wsX20 : List Cond := u_ws RX2 TX2 10
theorem nmX2 : ∀ a, a < 10 → ∀ b, b < 10 → a ≠ b → (TX2 a).2.1 ≠ (TX2 b).2.1 := by decide +kernel
theorem tyX2_ok : ∀ k, k < 10 → parseFieldDescriptor (TX2 k).2.2.1 = some (tyX2 k) := by decide +kernel
abbrev cX2_init : ByteArray := prog_4_method_1_code
def yX2_init : MethodName := ⟨RX2, "<init>", "()V"⟩
abbrev cX2_append : ByteArray := prog_4_method_2_code
def yX2_append : MethodName := ⟨RX2, "append", "(JI)I"⟩
abbrev cX2_drop : ByteArray := prog_4_method_3_code
def yX2_drop : MethodName := ⟨RX2, "drop", "()I"⟩
abbrev cX2_readInto : ByteArray := prog_4_method_4_code
def yX2_readInto : MethodName := ⟨RX2, "readInto", "(LOthersMan$Plan;)I"⟩
abbrev cX2_byteAt : ByteArray := prog_4_method_5_code
def yX2_byteAt : MethodName := ⟨RX2, "byteAt", "(I)I"⟩
abbrev cX2_isLetter : ByteArray := prog_4_method_6_code
def yX2_isLetter : MethodName := ⟨RX2, "isLetter", "(I)Z"⟩
abbrev cX2_isDigit : ByteArray := prog_4_method_7_code
def yX2_isDigit : MethodName := ⟨RX2, "isDigit", "(I)Z"⟩
abbrev cX2_nextToken : ByteArray := prog_4_method_8_code
def yX2_nextToken : MethodName := ⟨RX2, "nextToken", "()Z"⟩
abbrev cX2_takeWord : ByteArray := prog_4_method_9_code
def yX2_takeWord : MethodName := ⟨RX2, "takeWord", "()V"⟩
abbrev cX2_takeNumber : ByteArray := prog_4_method_10_code
def yX2_takeNumber : MethodName := ⟨RX2, "takeNumber", "()V"⟩
abbrev cX2_itemNamed : ByteArray := prog_4_method_11_code
def yX2_itemNamed : MethodName := ⟨RX2, "itemNamed", "()I"⟩
abbrev cX2_spells : ByteArray := prog_4_method_12_code
def yX2_spells : MethodName := ⟨RX2, "spells", "(Ljava/lang/String;)Z"⟩
abbrev cX2_isTaken : ByteArray := prog_4_method_13_code
def yX2_isTaken : MethodName := ⟨RX2, "isTaken", "(LOthersMan$Plan;)Z"⟩
abbrev cX2_isBegun : ByteArray := prog_4_method_14_code
def yX2_isBegun : MethodName := ⟨RX2, "isBegun", "(LOthersMan$Plan;)Z"⟩
abbrev cX2_isNumberTaken : ByteArray := prog_4_method_15_code
def yX2_isNumberTaken : MethodName := ⟨RX2, "isNumberTaken", "(LOthersMan$Plan;)Z"⟩
abbrev cX2_isAllowed : ByteArray := prog_4_method_16_code
def yX2_isAllowed : MethodName := ⟨RX2, "isAllowed", "(LOthersMan$Plan;I)Z"⟩
abbrev cX2_isDirectionTold : ByteArray := prog_4_method_17_code
def yX2_isDirectionTold : MethodName := ⟨RX2, "isDirectionTold", "(I)Z"⟩
abbrev cX2_isPlace : ByteArray := prog_4_method_18_code
def yX2_isPlace : MethodName := ⟨RX2, "isPlace", "(LOthersMan$Plan;I)Z"⟩
abbrev cX2_isGround : ByteArray := prog_4_method_19_code
def yX2_isGround : MethodName := ⟨RX2, "isGround", "(LOthersMan$Plan;II)Z"⟩
abbrev cX2_isEnded : ByteArray := prog_4_method_20_code
def yX2_isEnded : MethodName := ⟨RX2, "isEnded", "(LOthersMan$Plan;)Z"⟩
abbrev cX2_numbersOf : ByteArray := prog_4_method_21_code
def yX2_numbersOf : MethodName := ⟨RX2, "numbersOf", "(I)I"⟩
abbrev cX2_apply : ByteArray := prog_4_method_22_code
def yX2_apply : MethodName := ⟨RX2, "apply", "(LOthersMan$Plan;III)V"⟩
abbrev cX2_applyLaw : ByteArray := prog_4_method_23_code
def yX2_applyLaw : MethodName := ⟨RX2, "applyLaw", "(LOthersMan$Plan;I)V"⟩
def RX3 : String := "OthersMan$Walk"
def TX3 : u_T := fun k => match k with
  | 0 => ("OthersMan$Walk", "cells", "[I", true)
  | 1 => ("OthersMan$Walk", "left", "[I", true)
  | 2 => ("OthersMan$Walk", "teller", "I", false)
  | 3 => ("OthersMan$Walk", "barred", "I", false)
  | 4 => ("OthersMan$Walk", "steps", "I", false)
  | 5 => ("OthersMan$Walk", "outcome", "I", false)
  | _ => ("OthersMan$Walk", "chance", "I", false)
def tyX3 : Nat → FieldType := fun k => match k with
  | 0 => .array .int
  | 1 => .array .int
  | 2 => .int
  | 3 => .int
  | 4 => .int
  | 5 => .int
  | _ => .int
abbrev wsX30 : List Cond := u_ws RX3 TX3 7
theorem nmX3 : ∀ a, a < 7 → ∀ b, b < 7 → a ≠ b → (TX3 a).2.1 ≠ (TX3 b).2.1 := by decide +kernel
theorem tyX3_ok : ∀ k, k < 7 → parseFieldDescriptor (TX3 k).2.2.1 = some (tyX3 k) := by decide +kernel
abbrev cX3_init : ByteArray := prog_5_method_1_code
def yX3_init : MethodName := ⟨RX3, "<init>", "()V"⟩
abbrev cX3_start : ByteArray := prog_5_method_2_code
def yX3_start : MethodName := ⟨RX3, "start", "(LOthersMan$Plan;)V"⟩
abbrev cX3_copyFrom : ByteArray := prog_5_method_3_code
def yX3_copyFrom : MethodName := ⟨RX3, "copyFrom", "(LOthersMan$Walk;)V"⟩
abbrev cX3_toldMan : ByteArray := prog_5_method_4_code
def yX3_toldMan : MethodName := ⟨RX3, "toldMan", "()I"⟩
abbrev cX3_mayOf : ByteArray := prog_5_method_5_code
def yX3_mayOf : MethodName := ⟨RX3, "mayOf", "(LOthersMan$Plan;I)I"⟩
abbrev cX3_doStep : ByteArray := prog_5_method_6_code
def yX3_doStep : MethodName := ⟨RX3, "doStep", "(LOthersMan$Plan;I)V"⟩
abbrev cX3_doPass : ByteArray := prog_5_method_7_code
def yX3_doPass : MethodName := ⟨RX3, "doPass", "()V"⟩
abbrev cX3_goOn : ByteArray := prog_5_method_8_code
def yX3_goOn : MethodName := ⟨RX3, "goOn", "()V"⟩
abbrev cX3_doRefusal : ByteArray := prog_5_method_9_code
def yX3_doRefusal : MethodName := ⟨RX3, "doRefusal", "(I)I"⟩
abbrev cX3_won : ByteArray := prog_5_method_10_code
def yX3_won : MethodName := ⟨RX3, "won", "()I"⟩
abbrev cX3_draw : ByteArray := prog_5_method_11_code
def yX3_draw : MethodName := ⟨RX3, "draw", "(I)I"⟩
abbrev cX3_key : ByteArray := prog_5_method_12_code
def yX3_key : MethodName := ⟨RX3, "key", "()I"⟩
def RX4 : String := "OthersMan"
def TX4 : u_T := fun k => match k with
  | 0 => ("OthersMan", "script", "LOthersMan$Script;", true)
  | 1 => ("OthersMan", "walk", "LOthersMan$Walk;", true)
  | 2 => ("OthersMan", "roundWalk", "LOthersMan$Walk;", true)
  | 3 => ("OthersMan", "image0", "LOthersMan$Walk;", true)
  | 4 => ("OthersMan", "image1", "LOthersMan$Walk;", true)
  | 5 => ("OthersMan", "reckoner", "LOthersMan$Reckoner;", true)
  | 6 => ("OthersMan", "pairValues", "[I", true)
  | 7 => ("OthersMan", "plan", "LOthersMan$Plan;", false)
  | 8 => ("OthersMan", "draft", "LOthersMan$Plan;", false)
  | 9 => ("OthersMan", "keptImages", "I", false)
  | _ => ("OthersMan", "traced", "J", false)
def tyX4 : Nat → FieldType := fun k => match k with
  | 0 => .object "OthersMan$Script"
  | 1 => .object "OthersMan$Walk"
  | 2 => .object "OthersMan$Walk"
  | 3 => .object "OthersMan$Walk"
  | 4 => .object "OthersMan$Walk"
  | 5 => .object "OthersMan$Reckoner"
  | 6 => .array .int
  | 7 => .object "OthersMan$Plan"
  | 8 => .object "OthersMan$Plan"
  | 9 => .int
  | _ => .long
abbrev wsX40 : List Cond := u_ws RX4 TX4 11
theorem nmX4 : ∀ a, a < 11 → ∀ b, b < 11 → a ≠ b → (TX4 a).2.1 ≠ (TX4 b).2.1 := by decide +kernel
theorem tyX4_ok : ∀ k, k < 11 → parseFieldDescriptor (TX4 k).2.2.1 = some (tyX4 k) := by decide +kernel
abbrev cX4_init : ByteArray := prog_1_method_1_code
def yX4_init : MethodName := ⟨RX4, "<init>", "()V"⟩
abbrev cX4_type : ByteArray := prog_1_method_2_code
def yX4_type : MethodName := ⟨RX4, "type", "(JI)I"⟩
abbrev cX4_clear : ByteArray := prog_1_method_3_code
def yX4_clear : MethodName := ⟨RX4, "clear", "()I"⟩
abbrev cX4_board : ByteArray := prog_1_method_4_code
def yX4_board : MethodName := ⟨RX4, "board", "()I"⟩
abbrev cX4_cell : ByteArray := prog_1_method_5_code
def yX4_cell : MethodName := ⟨RX4, "cell", "(II)I"⟩
abbrev cX4_law : ByteArray := prog_1_method_6_code
def yX4_law : MethodName := ⟨RX4, "law", "(II)I"⟩
abbrev cX4_man : ByteArray := prog_1_method_7_code
def yX4_man : MethodName := ⟨RX4, "man", "(II)I"⟩
abbrev cX4_tell : ByteArray := prog_1_method_8_code
def yX4_tell : MethodName := ⟨RX4, "tell", "(I)I"⟩
abbrev cX4_refuse : ByteArray := prog_1_method_9_code
def yX4_refuse : MethodName := ⟨RX4, "refuse", "(I)I"⟩
abbrev cX4_pass : ByteArray := prog_1_method_10_code
def yX4_pass : MethodName := ⟨RX4, "pass", "()I"⟩
abbrev cX4_now : ByteArray := prog_1_method_11_code
def yX4_now : MethodName := ⟨RX4, "now", "(I)I"⟩
abbrev cX4_anew : ByteArray := prog_1_method_12_code
def yX4_anew : MethodName := ⟨RX4, "anew", "()I"⟩
abbrev cX4_safe : ByteArray := prog_1_method_13_code
def yX4_safe : MethodName := ⟨RX4, "safe", "(II)I"⟩
abbrev cX4_safest : ByteArray := prog_1_method_14_code
def yX4_safest : MethodName := ⟨RX4, "safest", "(I)I"⟩
abbrev cX4_value : ByteArray := prog_1_method_15_code
def yX4_value : MethodName := ⟨RX4, "value", "(I)I"⟩
abbrev cX4_best : ByteArray := prog_1_method_16_code
def yX4_best : MethodName := ⟨RX4, "best", "(I)I"⟩
abbrev cX4_refuses : ByteArray := prog_1_method_17_code
def yX4_refuses : MethodName := ⟨RX4, "refuses", "(II)I"⟩
abbrev cX4_worth : ByteArray := prog_1_method_18_code
def yX4_worth : MethodName := ⟨RX4, "worth", "(II)I"⟩
abbrev cX4_bag : ByteArray := prog_1_method_19_code
def yX4_bag : MethodName := ⟨RX4, "bag", "(III)I"⟩
abbrev cX4_fairest : ByteArray := prog_1_method_20_code
def yX4_fairest : MethodName := ⟨RX4, "fairest", "(I)I"⟩
abbrev cX4_even : ByteArray := prog_1_method_21_code
def yX4_even : MethodName := ⟨RX4, "even", "(I)I"⟩
abbrev cX4_rounds : ByteArray := prog_1_method_22_code
def yX4_rounds : MethodName := ⟨RX4, "rounds", "(I)I"⟩
abbrev cX4_lot : ByteArray := prog_1_method_23_code
def yX4_lot : MethodName := ⟨RX4, "lot", "(I)I"⟩
abbrev cX4_rate : ByteArray := prog_1_method_24_code
def yX4_rate : MethodName := ⟨RX4, "rate", "(II)I"⟩
abbrev cX4_keep : ByteArray := prog_1_method_25_code
def yX4_keep : MethodName := ⟨RX4, "keep", "(I)I"⟩
abbrev cX4_back : ByteArray := prog_1_method_26_code
def yX4_back : MethodName := ⟨RX4, "back", "(I)I"⟩
abbrev cX4_count : ByteArray := prog_1_method_27_code
def yX4_count : MethodName := ⟨RX4, "count", "(I)I"⟩
abbrev cX4_trace : ByteArray := prog_1_method_28_code
def yX4_trace : MethodName := ⟨RX4, "trace", "()J"⟩
abbrev cX4_whyNotTold : ByteArray := prog_1_method_29_code
def yX4_whyNotTold : MethodName := ⟨RX4, "whyNotTold", "(I)I"⟩
abbrev cX4_mayBeRefused : ByteArray := prog_1_method_30_code
def yX4_mayBeRefused : MethodName := ⟨RX4, "mayBeRefused", "(I)Z"⟩
abbrev cX4_ahead : ByteArray := prog_1_method_31_code
def yX4_ahead : MethodName := ⟨RX4, "ahead", "(I)I"⟩
abbrev cX4_reckonAsItIs : ByteArray := prog_1_method_32_code
def yX4_reckonAsItIs : MethodName := ⟨RX4, "reckonAsItIs", "()V"⟩
abbrev cX4_valueAsItIs : ByteArray := prog_1_method_33_code
def yX4_valueAsItIs : MethodName := ⟨RX4, "valueAsItIs", "(I)I"⟩
abbrev cX4_valueByLaws : ByteArray := prog_1_method_34_code
def yX4_valueByLaws : MethodName := ⟨RX4, "valueByLaws", "(III)I"⟩
abbrev cX4_valueFrom : ByteArray := prog_1_method_35_code
def yX4_valueFrom : MethodName := ⟨RX4, "valueFrom", "(II)I"⟩
abbrev cX4_isFair : ByteArray := prog_1_method_36_code
def yX4_isFair : MethodName := ⟨RX4, "isFair", "(II)Z"⟩
abbrev cX4_walkedByLot : ByteArray := prog_1_method_37_code
def yX4_walkedByLot : MethodName := ⟨RX4, "walkedByLot", "()I"⟩
abbrev cX4_rateStep : ByteArray := prog_1_method_38_code
def yX4_rateStep : MethodName := ⟨RX4, "rateStep", "(I)I"⟩
abbrev cX4_rateTold : ByteArray := prog_1_method_39_code
def yX4_rateTold : MethodName := ⟨RX4, "rateTold", "(I)I"⟩
abbrev cX4_rateRung : ByteArray := prog_1_method_40_code
def yX4_rateRung : MethodName := ⟨RX4, "rateRung", "(I)I"⟩
abbrev cX4_rateRefused : ByteArray := prog_1_method_41_code
def yX4_rateRefused : MethodName := ⟨RX4, "rateRefused", "(I)I"⟩
abbrev cX4_rateFatal : ByteArray := prog_1_method_42_code
def yX4_rateFatal : MethodName := ⟨RX4, "rateFatal", "(I)I"⟩
abbrev cX4_ratePassed : ByteArray := prog_1_method_43_code
def yX4_ratePassed : MethodName := ⟨RX4, "ratePassed", "(I)I"⟩
abbrev cX4_imageOf : ByteArray := prog_1_method_44_code
def yX4_imageOf : MethodName := ⟨RX4, "imageOf", "(I)LOthersMan$Walk;"⟩
abbrev cX4_isBelow : ByteArray := prog_1_method_45_code
def yX4_isBelow : MethodName := ⟨RX4, "isBelow", "(II)Z"⟩
abbrev cX4_at : ByteArray := prog_1_method_46_code
def yX4_at : MethodName := ⟨RX4, "at", "([II)I"⟩
abbrev cX4_put : ByteArray := prog_1_method_47_code
def yX4_put : MethodName := ⟨RX4, "put", "([III)V"⟩
abbrev cX4_hasBit : ByteArray := prog_1_method_48_code
def yX4_hasBit : MethodName := ⟨RX4, "hasBit", "(II)Z"⟩
abbrev cX4_withoutBit : ByteArray := prog_1_method_49_code
def yX4_withoutBit : MethodName := ⟨RX4, "withoutBit", "(II)I"⟩
abbrev cX4_bitOfRank : ByteArray := prog_1_method_50_code
def yX4_bitOfRank : MethodName := ⟨RX4, "bitOfRank", "(II)I"⟩
def RX5 : String := "OthersManModel"
def TX5 : u_T := fun k => match k with
  | 0 => ("OthersManModel", "thrown", "I", false)
  | 1 => ("OthersManModel", "trace", "J", false)
  | 2 => ("OthersManModel", "text", "[I", true)
  | 3 => ("OthersManModel", "typed", "I", false)
  | 4 => ("OthersManModel", "next", "I", false)
  | 5 => ("OthersManModel", "token", "I", false)
  | 6 => ("OthersManModel", "place", "I", false)
  | 7 => ("OthersManModel", "value", "I", false)
  | 8 => ("OthersManModel", "fault", "I", false)
  | 9 => ("OthersManModel", "told", "[I", true)
  | 10 => ("OthersManModel", "s", "[I", true)
  | 11 => ("OthersManModel", "kept", "[I", true)
  | 12 => ("OthersManModel", "isKept", "[Z", true)
  | 13 => ("OthersManModel", "values", "[I", true)
  | 14 => ("OthersManModel", "then", "[I", true)
  | 15 => ("OthersManModel", "home", "[I", true)
  | 16 => ("OthersManModel", "uses", "[I", true)
  | 17 => ("OthersManModel", "comes", "[I", true)
  | _ => ("OthersManModel", "less", "[I", true)
def tyX5 : Nat → FieldType := fun k => match k with
  | 0 => .int
  | 1 => .long
  | 2 => .array .int
  | 3 => .int
  | 4 => .int
  | 5 => .int
  | 6 => .int
  | 7 => .int
  | 8 => .int
  | 9 => .array .int
  | 10 => .array .int
  | 11 => .array .int
  | 12 => .array .boolean
  | 13 => .array .int
  | 14 => .array .int
  | 15 => .array .int
  | 16 => .array .int
  | 17 => .array .int
  | _ => .array .int
abbrev wsX50 : List Cond := u_ws RX5 TX5 19
theorem nmX5 : ∀ a, a < 19 → ∀ b, b < 19 → a ≠ b → (TX5 a).2.1 ≠ (TX5 b).2.1 := by decide +kernel
theorem tyX5_ok : ∀ k, k < 19 → parseFieldDescriptor (TX5 k).2.2.1 = some (tyX5 k) := by decide +kernel
abbrev cX5_init : ByteArray := prog_7_method_1_code
def yX5_init : MethodName := ⟨RX5, "<init>", "()V"⟩
abbrev cX5_in : ByteArray := prog_7_method_3_code
def yX5_in : MethodName := ⟨RX5, "in", "(III)Z"⟩
abbrev cX5_type : ByteArray := prog_7_method_4_code
def yX5_type : MethodName := ⟨RX5, "type", "(JI)I"⟩
abbrev cX5_clear : ByteArray := prog_7_method_5_code
def yX5_clear : MethodName := ⟨RX5, "clear", "()I"⟩
abbrev cX5_byteAt : ByteArray := prog_7_method_6_code
def yX5_byteAt : MethodName := ⟨RX5, "byteAt", "(I)I"⟩
abbrev cX5_add : ByteArray := prog_7_method_7_code
def yX5_add : MethodName := ⟨RX5, "add", "(JI)J"⟩
abbrev cX5_named : ByteArray := prog_7_method_8_code
def yX5_named : MethodName := ⟨RX5, "named", "(IIIII)J"⟩
abbrev cX5_wordOf : ByteArray := prog_7_method_9_code
def yX5_wordOf : MethodName := ⟨RX5, "wordOf", "(J)I"⟩
abbrev cX5_advances : ByteArray := prog_7_method_10_code
def yX5_advances : MethodName := ⟨RX5, "advances", "()V"⟩
abbrev cX5_isWell : ByteArray := prog_7_method_11_code
def yX5_isWell : MethodName := ⟨RX5, "isWell", "()Z"⟩
abbrev cX5_takes : ByteArray := prog_7_method_12_code
def yX5_takes : MethodName := ⟨RX5, "takes", "(Z)I"⟩
abbrev cX5_number : ByteArray := prog_7_method_13_code
def yX5_number : MethodName := ⟨RX5, "number", "(II)I"⟩
abbrev cX5_drafts : ByteArray := prog_7_method_14_code
def yX5_drafts : MethodName := ⟨RX5, "drafts", "(II)V"⟩
abbrev cX5_readsLaw : ByteArray := prog_7_method_15_code
def yX5_readsLaw : MethodName := ⟨RX5, "readsLaw", "()V"⟩
abbrev cX5_readsMan : ByteArray := prog_7_method_16_code
def yX5_readsMan : MethodName := ⟨RX5, "readsMan", "(I)V"⟩
abbrev cX5_readsItem : ByteArray := prog_7_method_17_code
def yX5_readsItem : MethodName := ⟨RX5, "readsItem", "(I)V"⟩
abbrev cX5_board : ByteArray := prog_7_method_18_code
def yX5_board : MethodName := ⟨RX5, "board", "()I"⟩
abbrev cX5_adopts : ByteArray := prog_7_method_19_code
def yX5_adopts : MethodName := ⟨RX5, "adopts", "()V"⟩
abbrev cX5_begins : ByteArray := prog_7_method_20_code
def yX5_begins : MethodName := ⟨RX5, "begins", "()V"⟩
abbrev cX5_cells : ByteArray := prog_7_method_21_code
def yX5_cells : MethodName := ⟨RX5, "cells", "()I"⟩
abbrev cX5_cell : ByteArray := prog_7_method_22_code
def yX5_cell : MethodName := ⟨RX5, "cell", "(II)I"⟩
abbrev cX5_law : ByteArray := prog_7_method_23_code
def yX5_law : MethodName := ⟨RX5, "law", "(II)I"⟩
abbrev cX5_asTold : ByteArray := prog_7_method_24_code
def yX5_asTold : MethodName := ⟨RX5, "asTold", "()V"⟩
abbrev cX5_aside : ByteArray := prog_7_method_25_code
def yX5_aside : MethodName := ⟨RX5, "aside", "(I)I"⟩
abbrev cX5_leads : ByteArray := prog_7_method_26_code
def yX5_leads : MethodName := ⟨RX5, "leads", "(III)I"⟩
abbrev cX5_mayBe : ByteArray := prog_7_method_27_code
def yX5_mayBe : MethodName := ⟨RX5, "mayBe", "(III)I"⟩
abbrev cX5_mayNow : ByteArray := prog_7_method_28_code
def yX5_mayNow : MethodName := ⟨RX5, "mayNow", "(I)I"⟩
abbrev cX5_man : ByteArray := prog_7_method_29_code
def yX5_man : MethodName := ⟨RX5, "man", "(II)I"⟩
abbrev cX5_mayTell : ByteArray := prog_7_method_30_code
def yX5_mayTell : MethodName := ⟨RX5, "mayTell", "(I)Z"⟩
abbrev cX5_refusal : ByteArray := prog_7_method_31_code
def yX5_refusal : MethodName := ⟨RX5, "refusal", "(I)I"⟩
abbrev cX5_counts : ByteArray := prog_7_method_32_code
def yX5_counts : MethodName := ⟨RX5, "counts", "()V"⟩
abbrev cX5_tell : ByteArray := prog_7_method_33_code
def yX5_tell : MethodName := ⟨RX5, "tell", "(I)I"⟩
abbrev cX5_ones : ByteArray := prog_7_method_34_code
def yX5_ones : MethodName := ⟨RX5, "ones", "(I)I"⟩
abbrev cX5_mayRefuse : ByteArray := prog_7_method_35_code
def yX5_mayRefuse : MethodName := ⟨RX5, "mayRefuse", "()Z"⟩
abbrev cX5_refuse : ByteArray := prog_7_method_36_code
def yX5_refuse : MethodName := ⟨RX5, "refuse", "(I)I"⟩
abbrev cX5_pass : ByteArray := prog_7_method_37_code
def yX5_pass : MethodName := ⟨RX5, "pass", "()I"⟩
abbrev cX5_now : ByteArray := prog_7_method_38_code
def yX5_now : MethodName := ⟨RX5, "now", "(I)I"⟩
abbrev cX5_anew : ByteArray := prog_7_method_39_code
def yX5_anew : MethodName := ⟨RX5, "anew", "()I"⟩
abbrev cX5_safeIn : ByteArray := prog_7_method_40_code
def yX5_safeIn : MethodName := ⟨RX5, "safeIn", "(II)I"⟩
abbrev cX5_safe : ByteArray := prog_7_method_41_code
def yX5_safe : MethodName := ⟨RX5, "safe", "(II)I"⟩
abbrev cX5_safest : ByteArray := prog_7_method_42_code
def yX5_safest : MethodName := ⟨RX5, "safest", "(I)I"⟩
abbrev cX5_positionOf : ByteArray := prog_7_method_43_code
def yX5_positionOf : MethodName := ⟨RX5, "positionOf", "(IIIII)I"⟩
abbrev cX5_after : ByteArray := prog_7_method_44_code
def yX5_after : MethodName := ⟨RX5, "after", "(IIIIII)I"⟩
abbrev cX5_better : ByteArray := prog_7_method_45_code
def yX5_better : MethodName := ⟨RX5, "better", "(IIZ)I"⟩
abbrev cX5_bestOf : ByteArray := prog_7_method_46_code
def yX5_bestOf : MethodName := ⟨RX5, "bestOf", "([IIIZ)I"⟩
abbrev cX5_looks : ByteArray := prog_7_method_47_code
def yX5_looks : MethodName := ⟨RX5, "looks", "(IIIII)I"⟩
abbrev cX5_told : ByteArray := prog_7_method_48_code
def yX5_told : MethodName := ⟨RX5, "told", "(IIII)I"⟩
abbrev cX5_valueOf : ByteArray := prog_7_method_49_code
def yX5_valueOf : MethodName := ⟨RX5, "valueOf", "(IIIII)I"⟩
abbrev cX5_reckons : ByteArray := prog_7_method_50_code
def yX5_reckons : MethodName := ⟨RX5, "reckons", "(I)V"⟩
abbrev cX5_stepsIn : ByteArray := prog_7_method_51_code
def yX5_stepsIn : MethodName := ⟨RX5, "stepsIn", "(I)I"⟩
abbrev cX5_valueIn : ByteArray := prog_7_method_52_code
def yX5_valueIn : MethodName := ⟨RX5, "valueIn", "(IIIIII)I"⟩
abbrev cX5_valueNow : ByteArray := prog_7_method_53_code
def yX5_valueNow : MethodName := ⟨RX5, "valueNow", "(I)I"⟩
abbrev cX5_value : ByteArray := prog_7_method_54_code
def yX5_value : MethodName := ⟨RX5, "value", "(I)I"⟩
abbrev cX5_best : ByteArray := prog_7_method_55_code
def yX5_best : MethodName := ⟨RX5, "best", "(I)I"⟩
abbrev cX5_refuses : ByteArray := prog_7_method_56_code
def yX5_refuses : MethodName := ⟨RX5, "refuses", "(II)I"⟩
abbrev cX5_worth : ByteArray := prog_7_method_57_code
def yX5_worth : MethodName := ⟨RX5, "worth", "(II)I"⟩
abbrev cX5_bagOf : ByteArray := prog_7_method_58_code
def yX5_bagOf : MethodName := ⟨RX5, "bagOf", "(III)I"⟩
abbrev cX5_isLaw : ByteArray := prog_7_method_59_code
def yX5_isLaw : MethodName := ⟨RX5, "isLaw", "(I)Z"⟩
abbrev cX5_bag : ByteArray := prog_7_method_60_code
def yX5_bag : MethodName := ⟨RX5, "bag", "(III)I"⟩
abbrev cX5_fairest : ByteArray := prog_7_method_61_code
def yX5_fairest : MethodName := ⟨RX5, "fairest", "(I)I"⟩
abbrev cX5_even : ByteArray := prog_7_method_62_code
def yX5_even : MethodName := ⟨RX5, "even", "(I)I"⟩
abbrev cX5_walks : ByteArray := prog_7_method_63_code
def yX5_walks : MethodName := ⟨RX5, "walks", "()I"⟩
abbrev cX5_rounds : ByteArray := prog_7_method_64_code
def yX5_rounds : MethodName := ⟨RX5, "rounds", "(I)I"⟩
abbrev cX5_lot : ByteArray := prog_7_method_65_code
def yX5_lot : MethodName := ⟨RX5, "lot", "(I)I"⟩
abbrev cX5_rate : ByteArray := prog_7_method_66_code
def yX5_rate : MethodName := ⟨RX5, "rate", "(II)I"⟩
abbrev cX5_keep : ByteArray := prog_7_method_67_code
def yX5_keep : MethodName := ⟨RX5, "keep", "(I)I"⟩
abbrev cX5_back : ByteArray := prog_7_method_68_code
def yX5_back : MethodName := ⟨RX5, "back", "(I)I"⟩
abbrev cX5_count : ByteArray := prog_7_method_69_code
def yX5_count : MethodName := ⟨RX5, "count", "(I)I"⟩
abbrev cX5_trace : ByteArray := prog_7_method_70_code
def yX5_trace : MethodName := ⟨RX5, "trace", "()J"⟩
def RJ6 : String := "java/lang/Integer"
def TJ6 : u_T := fun k => match k with
  | _ => ("", "", "", false)
def tyJ6 : Nat → FieldType := fun k => match k with
  | _ => .int
abbrev wsJ60 : List Cond := u_ws RJ6 TJ6 0
theorem nmJ6 : ∀ a, a < 0 → ∀ b, b < 0 → a ≠ b → (TJ6 a).2.1 ≠ (TJ6 b).2.1 := by decide +kernel
theorem tyJ6_ok : ∀ k, k < 0 → parseFieldDescriptor (TJ6 k).2.2.1 = some (tyJ6 k) := by decide +kernel
abbrev cJ6_bitCount_0f7a4 : ByteArray := prog_8_method_49_code
def yJ6_bitCount_0f7a4 : MethodName := ⟨RJ6, "bitCount", "(I)I"⟩
def RJ9 : String := "java/lang/Math"
def TJ9 : u_T := fun k => match k with
  | _ => ("", "", "", false)
def tyJ9 : Nat → FieldType := fun k => match k with
  | _ => .int
abbrev wsJ90 : List Cond := u_ws RJ9 TJ9 0
theorem nmJ9 : ∀ a, a < 0 → ∀ b, b < 0 → a ≠ b → (TJ9 a).2.1 ≠ (TJ9 b).2.1 := by decide +kernel
theorem tyJ9_ok : ∀ k, k < 0 → parseFieldDescriptor (TJ9 k).2.2.1 = some (tyJ9 k) := by decide +kernel
abbrev cJ9_max_7cf53 : ByteArray := prog_9_method_65_code
def yJ9_max_7cf53 : MethodName := ⟨RJ9, "max", "(II)I"⟩
abbrev cJ9_min_7cf53 : ByteArray := prog_9_method_69_code
def yJ9_min_7cf53 : MethodName := ⟨RJ9, "min", "(II)I"⟩
def RJ0 : String := "java/lang/String"
def TJ0 : u_T := fun k => match k with
  | _ => ("", "", "", false)
def tyJ0 : Nat → FieldType := fun k => match k with
  | _ => .int
abbrev wsJ00 : List Cond := u_ws RJ0 TJ0 0
theorem nmJ0 : ∀ a, a < 0 → ∀ b, b < 0 → a ≠ b → (TJ0 a).2.1 ≠ (TJ0 b).2.1 := by decide +kernel
theorem tyJ0_ok : ∀ k, k < 0 → parseFieldDescriptor (TJ0 k).2.2.1 = some (tyJ0 k) := by decide +kernel
abbrev cJ0_length_8abf5 : ByteArray := prog_10_method_54_code
def yJ0_length_8abf5 : MethodName := ⟨RJ0, "length", "()I"⟩
abbrev cJ0_charAt_5068e : ByteArray := prog_10_method_56_code
def yJ0_charAt_5068e : MethodName := ⟨RJ0, "charAt", "(I)C"⟩
abbrev cJ0_coder_7d493 : ByteArray := prog_10_method_152_code
def yJ0_coder_7d493 : MethodName := ⟨RJ0, "coder", "()B"⟩
abbrev cJ0_isLatin1_aae02 : ByteArray := prog_10_method_154_code
def yJ0_isLatin1_aae02 : MethodName := ⟨RJ0, "isLatin1", "()Z"⟩
abbrev cJ0_checkIndex_df160 : ByteArray := prog_10_method_155_code
def yJ0_checkIndex_df160 : MethodName := ⟨RJ0, "checkIndex", "(II)V"⟩
def RJ1 : String := "java/lang/StringLatin1"
def TJ1 : u_T := fun k => match k with
  | _ => ("", "", "", false)
def tyJ1 : Nat → FieldType := fun k => match k with
  | _ => .int
abbrev wsJ10 : List Cond := u_ws RJ1 TJ1 0
theorem nmJ1 : ∀ a, a < 0 → ∀ b, b < 0 → a ≠ b → (TJ1 a).2.1 ≠ (TJ1 b).2.1 := by decide +kernel
theorem tyJ1_ok : ∀ k, k < 0 → parseFieldDescriptor (TJ1 k).2.2.1 = some (tyJ1 k) := by decide +kernel
abbrev cJ1_charAt_3b067 : ByteArray := prog_11_method_2_code
def yJ1_charAt_3b067 : MethodName := ⟨RJ1, "charAt", "([BI)C"⟩
def RJ2 : String := "java/lang/StringUTF16"
def TJ2 : u_T := fun k => match k with
  | _ => ("", "", "", false)
def tyJ2 : Nat → FieldType := fun k => match k with
  | _ => .int
abbrev wsJ20 : List Cond := u_ws RJ2 TJ2 0
theorem nmJ2 : ∀ a, a < 0 → ∀ b, b < 0 → a ≠ b → (TJ2 a).2.1 ≠ (TJ2 b).2.1 := by decide +kernel
theorem tyJ2_ok : ∀ k, k < 0 → parseFieldDescriptor (TJ2 k).2.2.1 = some (tyJ2 k) := by decide +kernel
abbrev cJ2_getChar_3b067 : ByteArray := prog_12_method_5_code
def yJ2_getChar_3b067 : MethodName := ⟨RJ2, "getChar", "([BI)C"⟩
abbrev cJ2_length_9d52b : ByteArray := prog_12_method_6_code
def yJ2_length_9d52b : MethodName := ⟨RJ2, "length", "([B)I"⟩
abbrev cJ2_charAt_3b067 : ByteArray := prog_12_method_83_code
def yJ2_charAt_3b067 : MethodName := ⟨RJ2, "charAt", "([BI)C"⟩
abbrev cJ2_checkIndex_2214a : ByteArray := prog_12_method_91_code
def yJ2_checkIndex_2214a : MethodName := ⟨RJ2, "checkIndex", "(I[B)V"⟩
def RJ3 : String := "jdk/internal/util/Preconditions"
def TJ3 : u_T := fun k => match k with
  | _ => ("", "", "", false)
def tyJ3 : Nat → FieldType := fun k => match k with
  | _ => .int
abbrev wsJ30 : List Cond := u_ws RJ3 TJ3 0
theorem nmJ3 : ∀ a, a < 0 → ∀ b, b < 0 → a ≠ b → (TJ3 a).2.1 ≠ (TJ3 b).2.1 := by decide +kernel
theorem tyJ3_ok : ∀ k, k < 0 → parseFieldDescriptor (TJ3 k).2.2.1 = some (tyJ3 k) := by decide +kernel
abbrev cJ3_checkIndex_8e157 : ByteArray := prog_13_method_11_code
def yJ3_checkIndex_8e157 : MethodName := ⟨RJ3, "checkIndex", "(IILjava/util/function/BiFunction;)I"⟩
def RL : String := "OthersManLaw"
abbrev cL_law : ByteArray := code
def yL_law : MethodName := ⟨RL, "law", "([I)Z"⟩
abbrev vwCl : List vw_C := [(RX0, TX0, 11), (RX1, TX1, 5), (RX2, TX2, 10), (RX3, TX3, 7), (RX4, TX4, 11), (RX5, TX5, 19)]
