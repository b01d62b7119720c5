section
-- ===== PART A: goes FIRST, ahead of the names: the tables' words, and 'selects' of the private methods out of them =====
/-- a private method of a class that the tables say can be made, by its rows of tables_1 -/
def lw_okq (q : MethodName × Nat) : Prop := (q.1.cls ≠ "java/lang/invoke/MethodHandle" ∧ q.1.cls ≠ "java/lang/invoke/VarHandle") ∧ Cond.instantiable q.1.cls q.2 ∈ tables_1 ∧ Cond.privateMethod q.1 ∈ tables_1 ∧ Cond.instanceMethod q.1 ∈ tables_1
theorem lw_p0 : lw_okq (⟨"java/lang/Throwable", "fillInStackTrace", "(I)Ljava/lang/Throwable;"⟩, 6) := ⟨⟨by decide +kernel, by decide +kernel⟩, List.mem_of_getElem? (i := 283) (by decide +kernel), List.mem_of_getElem? (i := 281) (by decide +kernel), List.mem_of_getElem? (i := 282) (by decide +kernel)⟩
theorem lw_p1 : lw_okq (⟨"PrizeHouse", "isHouse", "(I)Z"⟩, 19) := ⟨⟨by decide +kernel, by decide +kernel⟩, List.mem_of_getElem? (i := 17) (by decide +kernel), List.mem_of_getElem? (i := 317) (by decide +kernel), List.mem_of_getElem? (i := 318) (by decide +kernel)⟩
theorem lw_p2 : lw_okq (⟨"PrizeHouse", "isJudge", "(I)Z"⟩, 19) := ⟨⟨by decide +kernel, by decide +kernel⟩, List.mem_of_getElem? (i := 17) (by decide +kernel), List.mem_of_getElem? (i := 378) (by decide +kernel), List.mem_of_getElem? (i := 379) (by decide +kernel)⟩
theorem lw_p3 : lw_okq (⟨"PrizeHouse", "isBook", "(I)Z"⟩, 19) := ⟨⟨by decide +kernel, by decide +kernel⟩, List.mem_of_getElem? (i := 17) (by decide +kernel), List.mem_of_getElem? (i := 406) (by decide +kernel), List.mem_of_getElem? (i := 407) (by decide +kernel)⟩
theorem lw_p4 : lw_okq (⟨"PrizeHouse", "isEntered", "(I)Z"⟩, 19) := ⟨⟨by decide +kernel, by decide +kernel⟩, List.mem_of_getElem? (i := 17) (by decide +kernel), List.mem_of_getElem? (i := 411) (by decide +kernel), List.mem_of_getElem? (i := 412) (by decide +kernel)⟩
theorem lw_p5 : lw_okq (⟨"PrizeHouse", "isEligible", "(I)Z"⟩, 19) := ⟨⟨by decide +kernel, by decide +kernel⟩, List.mem_of_getElem? (i := 17) (by decide +kernel), List.mem_of_getElem? (i := 416) (by decide +kernel), List.mem_of_getElem? (i := 417) (by decide +kernel)⟩
theorem lw_p6 : lw_okq (⟨"PrizeHouse", "quotaOf", "(I)I"⟩, 19) := ⟨⟨by decide +kernel, by decide +kernel⟩, List.mem_of_getElem? (i := 17) (by decide +kernel), List.mem_of_getElem? (i := 428) (by decide +kernel), List.mem_of_getElem? (i := 429) (by decide +kernel)⟩
theorem lw_p7 : lw_okq (⟨"PrizeHouse", "countOfHouse", "(II)I"⟩, 19) := ⟨⟨by decide +kernel, by decide +kernel⟩, List.mem_of_getElem? (i := 17) (by decide +kernel), List.mem_of_getElem? (i := 432) (by decide +kernel), List.mem_of_getElem? (i := 433) (by decide +kernel)⟩
theorem lw_p8 : lw_okq (⟨"PrizeHouse", "enterFor", "(II)I"⟩, 19) := ⟨⟨by decide +kernel, by decide +kernel⟩, List.mem_of_getElem? (i := 17) (by decide +kernel), List.mem_of_getElem? (i := 440) (by decide +kernel), List.mem_of_getElem? (i := 441) (by decide +kernel)⟩
theorem lw_p9 : lw_okq (⟨"PrizeHouse", "enteredCount", "()I"⟩, 19) := ⟨⟨by decide +kernel, by decide +kernel⟩, List.mem_of_getElem? (i := 17) (by decide +kernel), List.mem_of_getElem? (i := 444) (by decide +kernel), List.mem_of_getElem? (i := 445) (by decide +kernel)⟩
theorem lw_p10 : lw_okq (⟨"PrizeHouse", "handOut", "(I)I"⟩, 19) := ⟨⟨by decide +kernel, by decide +kernel⟩, List.mem_of_getElem? (i := 17) (by decide +kernel), List.mem_of_getElem? (i := 462) (by decide +kernel), List.mem_of_getElem? (i := 463) (by decide +kernel)⟩
theorem lw_p11 : lw_okq (⟨"PrizeHouse", "lightestWithout", "(II)I"⟩, 19) := ⟨⟨by decide +kernel, by decide +kernel⟩, List.mem_of_getElem? (i := 17) (by decide +kernel), List.mem_of_getElem? (i := 466) (by decide +kernel), List.mem_of_getElem? (i := 467) (by decide +kernel)⟩
theorem lw_p12 : lw_okq (⟨"PrizeHouse", "readForDay", "()I"⟩, 19) := ⟨⟨by decide +kernel, by decide +kernel⟩, List.mem_of_getElem? (i := 17) (by decide +kernel), List.mem_of_getElem? (i := 485) (by decide +kernel), List.mem_of_getElem? (i := 486) (by decide +kernel)⟩
theorem lw_p13 : lw_okq (⟨"PrizeHouse", "sellFor", "(I)V"⟩, 19) := ⟨⟨by decide +kernel, by decide +kernel⟩, List.mem_of_getElem? (i := 17) (by decide +kernel), List.mem_of_getElem? (i := 512) (by decide +kernel), List.mem_of_getElem? (i := 513) (by decide +kernel)⟩
theorem lw_p14 : lw_okq (⟨"PrizeHouse", "askedInDay", "(I)I"⟩, 19) := ⟨⟨by decide +kernel, by decide +kernel⟩, List.mem_of_getElem? (i := 17) (by decide +kernel), List.mem_of_getElem? (i := 516) (by decide +kernel), List.mem_of_getElem? (i := 517) (by decide +kernel)⟩
theorem lw_p15 : lw_okq (⟨"PrizeHouse", "areCratesRead", "()Z"⟩, 19) := ⟨⟨by decide +kernel, by decide +kernel⟩, List.mem_of_getElem? (i := 17) (by decide +kernel), List.mem_of_getElem? (i := 530) (by decide +kernel), List.mem_of_getElem? (i := 531) (by decide +kernel)⟩
def lw_privs_1 : List (MethodName × Nat) := [(⟨"java/lang/Throwable", "fillInStackTrace", "(I)Ljava/lang/Throwable;"⟩, 6), (⟨"PrizeHouse", "isHouse", "(I)Z"⟩, 19), (⟨"PrizeHouse", "isJudge", "(I)Z"⟩, 19), (⟨"PrizeHouse", "isBook", "(I)Z"⟩, 19), (⟨"PrizeHouse", "isEntered", "(I)Z"⟩, 19), (⟨"PrizeHouse", "isEligible", "(I)Z"⟩, 19), (⟨"PrizeHouse", "quotaOf", "(I)I"⟩, 19), (⟨"PrizeHouse", "countOfHouse", "(II)I"⟩, 19), (⟨"PrizeHouse", "enterFor", "(II)I"⟩, 19), (⟨"PrizeHouse", "enteredCount", "()I"⟩, 19), (⟨"PrizeHouse", "handOut", "(I)I"⟩, 19), (⟨"PrizeHouse", "lightestWithout", "(II)I"⟩, 19), (⟨"PrizeHouse", "readForDay", "()I"⟩, 19), (⟨"PrizeHouse", "sellFor", "(I)V"⟩, 19), (⟨"PrizeHouse", "askedInDay", "(I)I"⟩, 19), (⟨"PrizeHouse", "areCratesRead", "()Z"⟩, 19)]
theorem lw_r1 : ∀ q ∈ lw_privs_1, lw_okq q := List.forall_mem_cons.mpr ⟨lw_p0, List.forall_mem_cons.mpr ⟨lw_p1, List.forall_mem_cons.mpr ⟨lw_p2, List.forall_mem_cons.mpr ⟨lw_p3, List.forall_mem_cons.mpr ⟨lw_p4, List.forall_mem_cons.mpr ⟨lw_p5, List.forall_mem_cons.mpr ⟨lw_p6, List.forall_mem_cons.mpr ⟨lw_p7, List.forall_mem_cons.mpr ⟨lw_p8, List.forall_mem_cons.mpr ⟨lw_p9, List.forall_mem_cons.mpr ⟨lw_p10, List.forall_mem_cons.mpr ⟨lw_p11, List.forall_mem_cons.mpr ⟨lw_p12, List.forall_mem_cons.mpr ⟨lw_p13, List.forall_mem_cons.mpr ⟨lw_p14, List.forall_mem_cons.mpr ⟨lw_p15, fun _ h => absurd h List.not_mem_nil⟩⟩⟩⟩⟩⟩⟩⟩⟩⟩⟩⟩⟩⟩⟩⟩
theorem lw_p16 : lw_okq (⟨"PrizeHouse", "fillLongList", "(I)V"⟩, 19) := ⟨⟨by decide +kernel, by decide +kernel⟩, List.mem_of_getElem? (i := 17) (by decide +kernel), List.mem_of_getElem? (i := 536) (by decide +kernel), List.mem_of_getElem? (i := 537) (by decide +kernel)⟩
theorem lw_p17 : lw_okq (⟨"PrizeHouse", "longListable", "()I"⟩, 19) := ⟨⟨by decide +kernel, by decide +kernel⟩, List.mem_of_getElem? (i := 17) (by decide +kernel), List.mem_of_getElem? (i := 540) (by decide +kernel), List.mem_of_getElem? (i := 541) (by decide +kernel)⟩
theorem lw_p18 : lw_okq (⟨"PrizeHouse", "hasMarksEnough", "(I)Z"⟩, 19) := ⟨⟨by decide +kernel, by decide +kernel⟩, List.mem_of_getElem? (i := 17) (by decide +kernel), List.mem_of_getElem? (i := 544) (by decide +kernel), List.mem_of_getElem? (i := 545) (by decide +kernel)⟩
theorem lw_p19 : lw_okq (⟨"PrizeHouse", "fairMarksOf", "(I)I"⟩, 19) := ⟨⟨by decide +kernel, by decide +kernel⟩, List.mem_of_getElem? (i := 17) (by decide +kernel), List.mem_of_getElem? (i := 548) (by decide +kernel), List.mem_of_getElem? (i := 549) (by decide +kernel)⟩
theorem lw_p20 : lw_okq (⟨"PrizeHouse", "isFairMark", "(II)Z"⟩, 19) := ⟨⟨by decide +kernel, by decide +kernel⟩, List.mem_of_getElem? (i := 17) (by decide +kernel), List.mem_of_getElem? (i := 552) (by decide +kernel), List.mem_of_getElem? (i := 553) (by decide +kernel)⟩
theorem lw_p21 : lw_okq (⟨"PrizeHouse", "fairJudgesOf", "(I)I"⟩, 19) := ⟨⟨by decide +kernel, by decide +kernel⟩, List.mem_of_getElem? (i := 17) (by decide +kernel), List.mem_of_getElem? (i := 556) (by decide +kernel), List.mem_of_getElem? (i := 557) (by decide +kernel)⟩
theorem lw_p22 : lw_okq (⟨"PrizeHouse", "bestOf", "(I)I"⟩, 19) := ⟨⟨by decide +kernel, by decide +kernel⟩, List.mem_of_getElem? (i := 17) (by decide +kernel), List.mem_of_getElem? (i := 560) (by decide +kernel), List.mem_of_getElem? (i := 561) (by decide +kernel)⟩
theorem lw_p23 : lw_okq (⟨"PrizeHouse", "isBetter", "(II)Z"⟩, 19) := ⟨⟨by decide +kernel, by decide +kernel⟩, List.mem_of_getElem? (i := 17) (by decide +kernel), List.mem_of_getElem? (i := 564) (by decide +kernel), List.mem_of_getElem? (i := 565) (by decide +kernel)⟩
theorem lw_p24 : lw_okq (⟨"PrizeHouse", "pointsOf", "(I)I"⟩, 19) := ⟨⟨by decide +kernel, by decide +kernel⟩, List.mem_of_getElem? (i := 17) (by decide +kernel), List.mem_of_getElem? (i := 568) (by decide +kernel), List.mem_of_getElem? (i := 569) (by decide +kernel)⟩
theorem lw_p25 : lw_okq (⟨"PrizeHouse", "giversTo", "(I)I"⟩, 19) := ⟨⟨by decide +kernel, by decide +kernel⟩, List.mem_of_getElem? (i := 17) (by decide +kernel), List.mem_of_getElem? (i := 575) (by decide +kernel), List.mem_of_getElem? (i := 576) (by decide +kernel)⟩
theorem lw_p26 : lw_okq (⟨"PrizeHouse", "scoreOf", "(I)I"⟩, 19) := ⟨⟨by decide +kernel, by decide +kernel⟩, List.mem_of_getElem? (i := 17) (by decide +kernel), List.mem_of_getElem? (i := 579) (by decide +kernel), List.mem_of_getElem? (i := 580) (by decide +kernel)⟩
theorem lw_p27 : lw_okq (⟨"PrizeHouse", "fillShortList", "(I)V"⟩, 19) := ⟨⟨by decide +kernel, by decide +kernel⟩, List.mem_of_getElem? (i := 17) (by decide +kernel), List.mem_of_getElem? (i := 607) (by decide +kernel), List.mem_of_getElem? (i := 608) (by decide +kernel)⟩
theorem lw_p28 : lw_okq (⟨"PrizeHouse", "isOrder", "(I)Z"⟩, 19) := ⟨⟨by decide +kernel, by decide +kernel⟩, List.mem_of_getElem? (i := 17) (by decide +kernel), List.mem_of_getElem? (i := 615) (by decide +kernel), List.mem_of_getElem? (i := 616) (by decide +kernel)⟩
theorem lw_p29 : lw_okq (⟨"PrizeHouse", "takeOrder", "(LPrizeHouse$Judge;I)V"⟩, 19) := ⟨⟨by decide +kernel, by decide +kernel⟩, List.mem_of_getElem? (i := 17) (by decide +kernel), List.mem_of_getElem? (i := 621) (by decide +kernel), List.mem_of_getElem? (i := 622) (by decide +kernel)⟩
theorem lw_p30 : lw_okq (⟨"PrizeHouse", "bookAtPlace", "(I)I"⟩, 19) := ⟨⟨by decide +kernel, by decide +kernel⟩, List.mem_of_getElem? (i := 17) (by decide +kernel), List.mem_of_getElem? (i := 625) (by decide +kernel), List.mem_of_getElem? (i := 626) (by decide +kernel)⟩
theorem lw_p31 : lw_okq (⟨"PrizeHouse", "orderCount", "()I"⟩, 19) := ⟨⟨by decide +kernel, by decide +kernel⟩, List.mem_of_getElem? (i := 17) (by decide +kernel), List.mem_of_getElem? (i := 629) (by decide +kernel), List.mem_of_getElem? (i := 630) (by decide +kernel)⟩
def lw_privs_2 : List (MethodName × Nat) := [(⟨"PrizeHouse", "fillLongList", "(I)V"⟩, 19), (⟨"PrizeHouse", "longListable", "()I"⟩, 19), (⟨"PrizeHouse", "hasMarksEnough", "(I)Z"⟩, 19), (⟨"PrizeHouse", "fairMarksOf", "(I)I"⟩, 19), (⟨"PrizeHouse", "isFairMark", "(II)Z"⟩, 19), (⟨"PrizeHouse", "fairJudgesOf", "(I)I"⟩, 19), (⟨"PrizeHouse", "bestOf", "(I)I"⟩, 19), (⟨"PrizeHouse", "isBetter", "(II)Z"⟩, 19), (⟨"PrizeHouse", "pointsOf", "(I)I"⟩, 19), (⟨"PrizeHouse", "giversTo", "(I)I"⟩, 19), (⟨"PrizeHouse", "scoreOf", "(I)I"⟩, 19), (⟨"PrizeHouse", "fillShortList", "(I)V"⟩, 19), (⟨"PrizeHouse", "isOrder", "(I)Z"⟩, 19), (⟨"PrizeHouse", "takeOrder", "(LPrizeHouse$Judge;I)V"⟩, 19), (⟨"PrizeHouse", "bookAtPlace", "(I)I"⟩, 19), (⟨"PrizeHouse", "orderCount", "()I"⟩, 19)]
theorem lw_r2 : ∀ q ∈ lw_privs_2, lw_okq q := List.forall_mem_cons.mpr ⟨lw_p16, List.forall_mem_cons.mpr ⟨lw_p17, List.forall_mem_cons.mpr ⟨lw_p18, List.forall_mem_cons.mpr ⟨lw_p19, List.forall_mem_cons.mpr ⟨lw_p20, List.forall_mem_cons.mpr ⟨lw_p21, List.forall_mem_cons.mpr ⟨lw_p22, List.forall_mem_cons.mpr ⟨lw_p23, List.forall_mem_cons.mpr ⟨lw_p24, List.forall_mem_cons.mpr ⟨lw_p25, List.forall_mem_cons.mpr ⟨lw_p26, List.forall_mem_cons.mpr ⟨lw_p27, List.forall_mem_cons.mpr ⟨lw_p28, List.forall_mem_cons.mpr ⟨lw_p29, List.forall_mem_cons.mpr ⟨lw_p30, List.forall_mem_cons.mpr ⟨lw_p31, fun _ h => absurd h List.not_mem_nil⟩⟩⟩⟩⟩⟩⟩⟩⟩⟩⟩⟩⟩⟩⟩⟩
theorem lw_p32 : lw_okq (⟨"PrizeHouse", "winnerWithout", "(II)I"⟩, 19) := ⟨⟨by decide +kernel, by decide +kernel⟩, List.mem_of_getElem? (i := 17) (by decide +kernel), List.mem_of_getElem? (i := 642) (by decide +kernel), List.mem_of_getElem? (i := 643) (by decide +kernel)⟩
theorem lw_p33 : lw_okq (⟨"PrizeHouse", "countVotes", "(II)I"⟩, 19) := ⟨⟨by decide +kernel, by decide +kernel⟩, List.mem_of_getElem? (i := 17) (by decide +kernel), List.mem_of_getElem? (i := 646) (by decide +kernel), List.mem_of_getElem? (i := 647) (by decide +kernel)⟩
theorem lw_p34 : lw_okq (⟨"PrizeHouse", "openTo", "(LPrizeHouse$Judge;)I"⟩, 19) := ⟨⟨by decide +kernel, by decide +kernel⟩, List.mem_of_getElem? (i := 17) (by decide +kernel), List.mem_of_getElem? (i := 650) (by decide +kernel), List.mem_of_getElem? (i := 651) (by decide +kernel)⟩
theorem lw_p35 : lw_okq (⟨"PrizeHouse", "aboveHalf", "(II)I"⟩, 19) := ⟨⟨by decide +kernel, by decide +kernel⟩, List.mem_of_getElem? (i := 17) (by decide +kernel), List.mem_of_getElem? (i := 659) (by decide +kernel), List.mem_of_getElem? (i := 660) (by decide +kernel)⟩
theorem lw_p36 : lw_okq (⟨"PrizeHouse", "weakestOf", "(I)I"⟩, 19) := ⟨⟨by decide +kernel, by decide +kernel⟩, List.mem_of_getElem? (i := 17) (by decide +kernel), List.mem_of_getElem? (i := 663) (by decide +kernel), List.mem_of_getElem? (i := 664) (by decide +kernel)⟩
theorem lw_p37 : lw_okq (⟨"PrizeHouse", "crown", "(I)V"⟩, 19) := ⟨⟨by decide +kernel, by decide +kernel⟩, List.mem_of_getElem? (i := 17) (by decide +kernel), List.mem_of_getElem? (i := 667) (by decide +kernel), List.mem_of_getElem? (i := 668) (by decide +kernel)⟩
theorem lw_p38 : lw_okq (⟨"PrizeHouse", "allBooks", "()I"⟩, 19) := ⟨⟨by decide +kernel, by decide +kernel⟩, List.mem_of_getElem? (i := 17) (by decide +kernel), List.mem_of_getElem? (i := 689) (by decide +kernel), List.mem_of_getElem? (i := 690) (by decide +kernel)⟩
theorem lw_p39 : lw_okq (⟨"PrizeHouse", "standingOf", "(I)I"⟩, 19) := ⟨⟨by decide +kernel, by decide +kernel⟩, List.mem_of_getElem? (i := 17) (by decide +kernel), List.mem_of_getElem? (i := 698) (by decide +kernel), List.mem_of_getElem? (i := 699) (by decide +kernel)⟩
theorem lw_p40 : lw_okq (⟨"PrizeHouse", "soldEver", "()I"⟩, 19) := ⟨⟨by decide +kernel, by decide +kernel⟩, List.mem_of_getElem? (i := 17) (by decide +kernel), List.mem_of_getElem? (i := 716) (by decide +kernel), List.mem_of_getElem? (i := 717) (by decide +kernel)⟩
theorem lw_p41 : lw_okq (⟨"PrizeHouse", "missedEver", "()I"⟩, 19) := ⟨⟨by decide +kernel, by decide +kernel⟩, List.mem_of_getElem? (i := 17) (by decide +kernel), List.mem_of_getElem? (i := 720) (by decide +kernel), List.mem_of_getElem? (i := 721) (by decide +kernel)⟩
theorem lw_p42 : lw_okq (⟨"PrizeHouse", "isAheadOfRest", "(I)Z"⟩, 19) := ⟨⟨by decide +kernel, by decide +kernel⟩, List.mem_of_getElem? (i := 17) (by decide +kernel), List.mem_of_getElem? (i := 764) (by decide +kernel), List.mem_of_getElem? (i := 765) (by decide +kernel)⟩
theorem lw_p43 : lw_okq (⟨"PrizeHouse", "leadOver", "(II)I"⟩, 19) := ⟨⟨by decide +kernel, by decide +kernel⟩, List.mem_of_getElem? (i := 17) (by decide +kernel), List.mem_of_getElem? (i := 768) (by decide +kernel), List.mem_of_getElem? (i := 769) (by decide +kernel)⟩
def lw_privs_3 : List (MethodName × Nat) := [(⟨"PrizeHouse", "winnerWithout", "(II)I"⟩, 19), (⟨"PrizeHouse", "countVotes", "(II)I"⟩, 19), (⟨"PrizeHouse", "openTo", "(LPrizeHouse$Judge;)I"⟩, 19), (⟨"PrizeHouse", "aboveHalf", "(II)I"⟩, 19), (⟨"PrizeHouse", "weakestOf", "(I)I"⟩, 19), (⟨"PrizeHouse", "crown", "(I)V"⟩, 19), (⟨"PrizeHouse", "allBooks", "()I"⟩, 19), (⟨"PrizeHouse", "standingOf", "(I)I"⟩, 19), (⟨"PrizeHouse", "soldEver", "()I"⟩, 19), (⟨"PrizeHouse", "missedEver", "()I"⟩, 19), (⟨"PrizeHouse", "isAheadOfRest", "(I)Z"⟩, 19), (⟨"PrizeHouse", "leadOver", "(II)I"⟩, 19)]
theorem lw_r3 : ∀ q ∈ lw_privs_3, lw_okq q := List.forall_mem_cons.mpr ⟨lw_p32, List.forall_mem_cons.mpr ⟨lw_p33, List.forall_mem_cons.mpr ⟨lw_p34, List.forall_mem_cons.mpr ⟨lw_p35, List.forall_mem_cons.mpr ⟨lw_p36, List.forall_mem_cons.mpr ⟨lw_p37, List.forall_mem_cons.mpr ⟨lw_p38, List.forall_mem_cons.mpr ⟨lw_p39, List.forall_mem_cons.mpr ⟨lw_p40, List.forall_mem_cons.mpr ⟨lw_p41, List.forall_mem_cons.mpr ⟨lw_p42, List.forall_mem_cons.mpr ⟨lw_p43, fun _ h => absurd h List.not_mem_nil⟩⟩⟩⟩⟩⟩⟩⟩⟩⟩⟩⟩
def lw_privs : List (MethodName × Nat) := lw_privs_1 ++ (lw_privs_2 ++ (lw_privs_3))
def lw_tbl : List Cond := k2_sels lw_privs ++ tables_1
theorem lw_privs_ok : ∀ q ∈ lw_privs, lw_okq q := by
  show ∀ q ∈ lw_privs_1 ++ (lw_privs_2 ++ (lw_privs_3)), lw_okq q
  exact List.forall_mem_append.mpr ⟨lw_r1, List.forall_mem_append.mpr ⟨lw_r2, lw_r3⟩⟩
/-- the streams that the claim lets the run draw from -/
abbrev lw_cs : List Choice := [Jvm.Choice.named "NaN.bits", Jvm.Choice.named "NaN.copy"]
theorem lw_bits : nanBits ∈ lw_cs := by first | decide | exact List.mem_cons_self | simp [lw_cs, nanBits]
/-! ===== BEGIN words of one list among another's, by their places ===== -/
theorem goodIn_r {big : List Cond} (ws : List Cond) (ps : List Nat) (hp : ws = ps.filterMap (fun i => big[i]?)) (h : ws.all goodWord = true) : GoodIn big ws := by
  intro w hw
  have h1 := List.all_eq_true.mp h w hw
  rw [hp] at hw
  obtain ⟨i, -, hi⟩ := List.mem_filterMap.mp hw
  have hm : w ∈ big := by first | exact List.mem_of_getElem? hi | exact List.getElem?_mem hi
  exact ⟨hm, good_of_word h1⟩
theorem goodIn_app {big a b : List Cond} (ha : GoodIn big a) (hb : GoodIn big b) : GoodIn big (a ++ b) := fun w h => (List.mem_append.mp h).elim (ha w) (hb w)
theorem goodIn_ca {big a b : List Cond} {c : Cond} (ha : GoodIn big (c :: a)) (hb : GoodIn big b) : GoodIn big (c :: (a ++ b)) := fun w h => (List.mem_cons.mp h).elim (fun e => ha w (List.mem_cons.mpr (Or.inl e))) (fun h => (List.mem_append.mp h).elim (fun h => ha w (List.mem_cons.mpr (Or.inr h))) (hb w))
theorem goodIn_sub {big ws : List Cond} (hm : ∀ w ∈ ws, w ∈ big) (h : ws.all goodWord = true) : GoodIn big ws := fun w hw => ⟨hm w hw, good_of_word (List.all_eq_true.mp h w hw)⟩
/-! ===== END ===== -/
end
section
section PM
/-! The class as functions of whole numbers. g c k i: c = 0: the object's own numbers (i: the field's slot); 1: house k, 2: m_book k, 3: m_judge k (i: the slot); 4 .. 8: m_judge k's rows crate, crateEnds, marks, m_points, ranked at i; 9: the rules now (k = 0), m_next (k = 1). The votes stand apart: no method reads what an earlier one left there. -/
abbrev m_St : Type := Nat → Int → Int → Int
def m_up (g : m_St) (c : Nat) (k i x : Int) : m_St := fun c' k' i' => if c' = c ∧ k' = k ∧ i' = i then x else g c' k' i'
/-- a loop from 0 m_up -/
def m_fo {α : Type} (f : Int → α → α) (a : α) : Nat → α
  | 0 => a
  | n + 1 => f n (m_fo f a n)
def m_sm (h : Int → Int) : Nat → Int
  | 0 => 0
  | n + 1 => m_sm h n + h n
def m_ib (c : Bool) : Int := bif c then 1 else 0
abbrev m_cnt (p : Int → Bool) (n : Nat) : Int := m_sm (fun i => m_ib (p i)) n
/-- the first from i m_up, of n -/
def m_fs (p : Int → Bool) : Nat → Int → Int
  | 0, _ => -1
  | n + 1, i => bif p i then i else m_fs p n (i + 1)
def m_al (p : Int → Bool) : Nat → Int → Bool
  | 0, _ => true
  | n + 1, i => p i && m_al p n (i + 1)
/-! sets -/
def m_has (S n : Int) : Bool := decide (0 ≤ n) && S.toNat.testBit n.toNat
def m_bt (n : Int) : Int := ((2 ^ n.toNat : Nat) : Int)
def m_bo (S T : Int) : Int := ((S.toNat ||| T.toNat : Nat) : Int)
def m_ba (S T : Int) : Int := ((S.toNat &&& T.toNat : Nat) : Int)
def m_bd (S T : Int) : Int := ((S.toNat ^^^ (S.toNat &&& T.toNat) : Nat) : Int)
def m_pcn (S : Int) : Int := m_cnt (fun i => m_has S i) 16
/-! books -/
def m_ent (g : m_St) (b : Int) : Bool := g 2 b 7 == g 0 0 8
def m_adm (g : m_St) (f p : Int) : Bool := m_has (g 9 0 0) f && (decide (g 9 0 1 ≤ p) && decide (p ≤ g 9 0 2))
def m_elig (g : m_St) (b : Int) : Bool := (g 2 b 7 == -1 || g 2 b 7 == g 0 0 8) && (decide (g 0 0 8 - g 2 b 6 ≤ 1) && m_adm g (g 2 b 2) (g 2 b 3))
def m_entCount (g : m_St) : Int := m_cnt (m_ent g) (g 0 0 4).toNat
def m_coh (g : m_St) (h S : Int) : Int := m_cnt (fun b => m_has S b && g 2 b 0 == h) (g 0 0 4).toNat
def m_quota (g : m_St) (h : Int) : Int := min 4 (2 + m_coh g h (g 0 0 12))
/-! marks -/
def m_agn (g : m_St) (j a : Int) : Bool := m_has (g 3 j 3) a
def m_fair (g : m_St) (j b : Int) : Bool := g 6 j b != -1 && !m_agn g j (g 2 b 1)
def m_fairCount (g : m_St) (b : Int) : Int := m_cnt (fun j => m_fair g j b) (g 0 0 5).toNat
def m_mean10 (g : m_St) (j : Int) : Int := if g 3 j 9 = 0 then 0 else (10 * g 3 j 12).tdiv (g 3 j 9)
def m_fdv (x y : Int) : Int := if x < 0 ∧ x.tdiv y * y ≠ x then x.tdiv y - 1 else x.tdiv y
def m_scoreSum (g : m_St) (b : Int) : Int := m_sm (fun j => bif m_fair g j b then 10 * g 6 j b - m_mean10 g j else 0) (g 0 0 5).toNat
def m_score (g : m_St) (b : Int) : Int := if m_fairCount g b = 0 then 0 else m_fdv (m_scoreSum g b) (m_fairCount g b) + 500
def m_pts (g : m_St) (b : Int) : Int := m_sm (fun j => bif m_agn g j (g 2 b 1) then 0 else g 7 j b) (g 0 0 5).toNat
def m_giv (g : m_St) (b : Int) : Int := m_cnt (fun j => decide (0 < g 7 j b) && !m_agn g j (g 2 b 1)) (g 0 0 5).toNat
def m_standing (g : m_St) (b : Int) : Int := if b = g 0 0 14 then 3 else bif m_has (g 0 0 13) b then 2 else bif m_has (g 0 0 11) b then 1 else 0
def m_fairJudges (g : m_St) (a : Int) : Int := m_cnt (fun j => !m_agn g j a) (g 0 0 5).toNat
def m_marksEnough (g : m_St) (b : Int) : Bool := decide (2 ≤ m_fairCount g b) || (m_fairCount g b == 1 && m_fairJudges g (g 2 b 1) == 1)
/-! lists -/
def m_listable (g : m_St) : Int := m_fo (fun b S => bif m_ent g b && m_marksEnough g b then m_bo S (m_bt b) else S) 0 (g 0 0 4).toNat
def m_better (g : m_St) (b o : Int) : Bool := if m_pts g b ≠ m_pts g o then decide (m_pts g o < m_pts g b) else if m_giv g b ≠ m_giv g o then decide (m_giv g o < m_giv g b) else decide (m_score g o < m_score g b)
def m_best (g : m_St) (S : Int) : Int := m_fo (fun b r => bif m_has S b && (r == -1 || m_better g b r) then b else r) (-1) (g 0 0 4).toNat
def m_fillLong (g : m_St) (many : Int) : Nat → Int → Int → Int
  | 0, _, L => L
  | n + 1, left, L => if m_pcn L < many then (if m_best g left = -1 then L else m_fillLong g many n (m_bd left (m_bt (m_best g left))) (if m_coh g (g 2 (m_best g left) 0) L < 2 then m_bo L (m_bt (m_best g left)) else L)) else L
def m_fillShort (g : m_St) : Nat → Int → Int
  | 0, S => S
  | n + 1, S => if m_best g (m_bd (g 0 0 11) S) = -1 then S else m_fillShort g n (m_bo S (m_bt (m_best g (m_bd (g 0 0 11) S))))
/-! orders -/
def m_orderOk (size : Int) : Nat → Int → Int → Bool
  | 0, _, rest => rest == 0
  | n + 1, seen, rest => if (1 ≤ rest.tmod 10 ∧ rest.tmod 10 ≤ size) ∧ m_has seen (rest.tmod 10) = false then m_orderOk size n (m_bo seen (m_bt (rest.tmod 10))) (rest.tdiv 10) else false
def m_isOrder (g : m_St) (o : Int) : Bool := m_orderOk (m_pcn (g 0 0 13)) (m_pcn (g 0 0 13)).toNat 0 o && decide (0 < m_pcn (g 0 0 13))
def m_bookAt (g : m_St) (place : Int) : Nat → Int → Int → Int
  | 0, _, _ => -1
  | n + 1, i, p => bif m_has (g 0 0 13) i then (if p + 1 = place then i else m_bookAt g place n (i + 1) (p + 1)) else m_bookAt g place n (i + 1) p
def m_rankLoop (j : Int) : Nat → m_St → Int → m_St
  | 0, g, _ => g
  | k + 1, g, rest => m_rankLoop j k (m_up g 8 j k (m_bookAt g (rest.tmod 10) (g 0 0 4).toNat 0 0)) (rest.tdiv 10)
def m_takeOrder (g : m_St) (j o : Int) : m_St := m_up (m_rankLoop j (min 5 (m_pcn (g 0 0 13))).toNat g o) 3 j 15 (min 5 (m_pcn (g 0 0 13)))
def m_orderCount (g : m_St) : Int := m_cnt (fun j => decide (0 < g 3 j 15)) (g 0 0 5).toNat
def m_openTo (g : m_St) (j : Int) : Int := m_fo (fun b S => bif m_agn g j (g 2 b 1) then S else m_bo S (m_bt b)) 0 (g 0 0 4).toNat
def m_firstLoop (g : m_St) (j S : Int) : Nat → Int → Int
  | 0, _ => -1
  | n + 1, k => bif m_has S (g 8 j k) then g 8 j k else m_firstLoop g j S n (k + 1)
def m_firstIn (g : m_St) (j S : Int) : Int := m_firstLoop g j S (g 3 j 15).toNat 0
/-! counting -/
def m_chosen (g : m_St) (left out j : Int) : Int := bif m_has out j then -1 else m_firstIn g j (m_ba left (m_openTo g j))
def m_counted (g : m_St) (left out : Int) : Int := m_cnt (fun j => m_chosen g left out j != -1) (g 0 0 5).toNat
def m_votesFor (g : m_St) (left out b : Int) : Int := m_cnt (fun j => m_chosen g left out j == b) (g 0 0 5).toNat
def m_aboveHalf (g : m_St) (left out : Int) : Int := m_fs (fun b => m_has left b && decide (m_counted g left out < 2 * m_votesFor g left out b)) (g 0 0 4).toNat 0
def m_weaker (g : m_St) (left out b w : Int) : Bool := decide (m_votesFor g left out b < m_votesFor g left out w) || (m_votesFor g left out b == m_votesFor g left out w && decide (m_score g b ≤ m_score g w))
def m_weakest (g : m_St) (left out : Int) : Int := m_fo (fun b w => bif m_has left b && (w == -1 || m_weaker g left out b w) then b else w) (-1) (g 0 0 4).toNat
def m_winLoop (g : m_St) (out : Int) : Nat → Int → Int → Int
  | 0, _, last => last
  | n + 1, left, last => if left = 0 then last else if m_aboveHalf g left out = -1 then m_winLoop g out n (m_bd left (m_bt (m_weakest g left out))) (m_weakest g left out) else m_aboveHalf g left out
def m_winner (g : m_St) (bs out : Int) : Int := m_winLoop g out 16 (m_bd (m_bd (g 0 0 13) (g 0 0 17)) bs) (-1)
def m_lead (g : m_St) (b o : Int) : Int := m_sm (fun j => bif decide (0 < g 3 j 15) && m_ba (m_openTo g j) (m_bo (m_bt b) (m_bt o)) == m_bo (m_bt b) (m_bt o) then (bif m_firstIn g j (m_bo (m_bt b) (m_bt o)) == b then 1 else -1) else 0) (g 0 0 5).toNat
def m_ahead (g : m_St) (b : Int) : Bool := m_al (fun o => !(o != b && m_has (g 0 0 13) o && decide (m_lead g b o ≤ 0))) (g 0 0 4).toNat 0
def m_beatsAll (g : m_St) : Int := m_fs (fun b => m_has (g 0 0 13) b && m_ahead g b) (g 0 0 4).toNat 0
def m_spoiled (g : m_St) (b : Int) : Int := bif m_has (g 0 0 13) b then m_winner g (m_bt b) 0 else -1
/-! sales -/
def m_asked (g : m_St) (b : Int) : Int := if b = g 0 0 14 ∨ b = g 0 0 15 then 90 else bif m_has (g 0 0 13) b then 20 else bif m_has (g 0 0 11) b then 5 else 1
def m_soldEver (g : m_St) : Int := m_sm (fun b => g 2 b 9) (g 0 0 4).toNat
def m_missedEver (g : m_St) : Int := m_sm (fun b => g 2 b 10) (g 0 0 4).toNat
def m_wouldMiss (g : m_St) (n : Int) : Int := m_sm (fun b => max 0 (m_asked g b * n - g 2 b 8)) (g 0 0 4).toNat
def m_sellB (g : m_St) (b a : Int) : m_St := m_up (m_up (m_up g 2 b 8 (g 2 b 8 - min a (g 2 b 8))) 2 b 9 (g 2 b 9 + min a (g 2 b 8))) 2 b 10 (g 2 b 10 + (a - min a (g 2 b 8)))
def m_sellStep (days b : Int) (g : m_St) : m_St := m_up (m_sellB g b (m_asked g b * days)) 1 (g 2 b 0) 0 (g 1 (g 2 b 0) 0 + min (m_asked g b * days) (g 2 b 8))
def m_sellFor (g : m_St) (days : Int) : m_St := m_fo (m_sellStep days) g (g 0 0 4).toNat
/-! reading -/
def m_pagesLeft (g : m_St) (j : Int) : Int := g 3 j 8 - g 3 j 10
def m_pace (sp p : Int) : Int := max 10 (sp - 5 * p.tdiv 500)
def m_dayLoop (sp cp : Int) : Nat → Int → Int → Int
  | 0, _, d => d
  | n + 1, p, d => if p < cp then m_dayLoop sp cp n (p + m_pace sp p) (d + 1) else d
def m_daysLeft (g : m_St) (j : Int) : Int := m_dayLoop (g 3 j 0) (g 3 j 8) 10000 (g 3 j 10) 0
def m_readIn (g : m_St) : Int := if g 0 0 9 = 1 then m_fo (fun j d => max d (m_daysLeft g j)) 0 (g 0 0 5).toNat else -1
def m_cratesRead (g : m_St) : Bool := m_al (fun j => !decide (0 < m_pagesLeft g j)) (g 0 0 5).toNat 0
def m_ptsLeft (g : m_St) (j : Int) : Int := 12 - m_sm (fun b => g 7 j b) 16
def m_markFor (g : m_St) (j b : Int) : Int := max 0 (min 99 (g 2 b 4 + g 3 j 2 + 10 - 2 * ((g 3 j 1 - g 2 b 5).natAbs : Int)))
def m_markStep (j : Int) (g : m_St) : m_St := m_up (m_up (m_up g 6 j (g 4 j (g 3 j 9)) (m_markFor g j (g 4 j (g 3 j 9)))) 3 j 12 (g 3 j 12 + m_markFor g j (g 4 j (g 3 j 9)))) 3 j 9 (g 3 j 9 + 1)
def m_markLoop (j : Int) : Nat → m_St → m_St
  | 0, g => g
  | n + 1, g => if g 3 j 9 < g 3 j 7 ∧ g 5 j (g 3 j 9) ≤ g 3 j 10 then m_markLoop j n (m_markStep j g) else g
def m_readJ (g : m_St) (j : Int) : m_St := m_markLoop j 16 (m_up g 3 j 10 (g 3 j 10 + min (m_pace (g 3 j 0) (g 3 j 10)) (m_pagesLeft g j)))
def m_readDay (g : m_St) : m_St := if g 0 0 9 = 1 then m_fo (fun j u => m_readJ u j) g (g 0 0 5).toNat else g
def m_passDays (g : m_St) (n : Int) : m_St := m_fo (fun _ u => m_readDay u) g n.toNat
def m_pass (g : m_St) (n : Int) : m_St := m_up (m_sellFor (m_passDays g n) n) 0 0 10 (g 0 0 10 + n)
/-! crates -/
def m_lightest (g : m_St) (taken a : Int) : Int := m_fo (fun j l => bif !m_has taken j && (!m_agn g j a && (l == -1 || decide (g 3 j 8 < g 3 l 8))) then j else l) (-1) (g 0 0 5).toNat
def m_takeIn (g : m_St) (j b p : Int) : m_St := m_up (m_up (m_up (m_up g 3 j 8 (g 3 j 8 + p)) 4 j (g 3 j 7) b) 5 j (g 3 j 7) (g 3 j 8 + p)) 3 j 7 (g 3 j 7 + 1)
def m_handStep (b : Int) (_ : Int) (u : m_St × Int) : m_St × Int := if m_lightest u.1 u.2 (u.1 2 b 1) = -1 then u else (m_takeIn u.1 (m_lightest u.1 u.2 (u.1 2 b 1)) b (u.1 2 b 3), m_bo u.2 (m_bt (m_lightest u.1 u.2 (u.1 2 b 1))))
def m_handOut (g : m_St) (b : Int) : m_St × Int := m_fo (m_handStep b) (g, 0) 3
def m_readStep (b : Int) (u : m_St × Int) : m_St × Int := bif m_ent u.1 b then ((m_handOut u.1 b).1, u.2 + m_pcn (m_handOut u.1 b).2) else u
def m_readAll (g : m_St) : m_St × Int := m_fo m_readStep (g, 0) (g 0 0 4).toNat
def m_read (g : m_St) : m_St := m_up (m_readAll g).1 0 0 9 1
/-! what is told -/
def m_describeB (g : m_St) (b h a f p m l : Int) : m_St := m_up (m_up (m_up (m_up (m_up (m_up g 2 b 0 h) 2 b 1 a) 2 b 2 f) 2 b 3 p) 2 b 4 m) 2 b 5 l
def m_book (g : m_St) (h a f p m l : Int) : m_St := m_up (m_up (m_describeB g (g 0 0 4) h a f p m l) 2 (g 0 0 4) 6 (g 0 0 8)) 0 0 4 (g 0 0 4 + 1)
def m_judge (g : m_St) (sp ta le : Int) : m_St := m_up (m_up (m_up (m_up g 3 (g 0 0 5) 0 sp) 3 (g 0 0 5) 1 ta) 3 (g 0 0 5) 2 le) 0 0 5 (g 0 0 5 + 1)
def m_conflict (g : m_St) (j a : Int) : m_St := m_up g 3 j 3 (m_bo (g 3 j 3) (m_bt a))
def m_setRules (g : m_St) (k f l m e : Int) : m_St := m_up (m_up (m_up (m_up g 9 k 0 f) 9 k 1 l) 9 k 2 m) 9 k 3 e
def m_enterFor (g : m_St) (b cost : Int) : m_St := m_up (m_up g 2 b 7 (g 0 0 8)) 1 (g 2 b 0) 0 (g 1 (g 2 b 0) 0 - cost)
def m_enter (g : m_St) (b : Int) : m_St := bif m_elig g b then (if m_quota g (g 2 b 0) ≤ g 1 (g 2 b 0) 1 then g else m_enterFor (m_up g 1 (g 2 b 0) 1 (g 1 (g 2 b 0) 1 + 1)) b (g 9 0 3)) else g
def m_callIn (g : m_St) (j b : Int) : m_St := bif m_elig g b then (if g 3 j 4 ≠ 0 ∨ m_agn g j (g 2 b 1) = true then g else m_enterFor (m_up g 3 j 4 1) b ((g 9 0 3).tdiv 2)) else g
def m_print (g : m_St) (b n : Int) : m_St := m_up g 2 b 8 (min 9999 (g 2 b 8 + n))
def m_longList (g : m_St) (many : Int) : m_St := m_up (m_up g 0 0 11 (m_fillLong g many 16 (m_listable g) (g 0 0 11))) 0 0 9 2
def m_points (g : m_St) (j b n : Int) : m_St := m_up g 7 j b n
def m_shortList (g : m_St) (many : Int) : m_St := m_up (m_up g 0 0 13 (m_fillShort g many.toNat (g 0 0 13))) 0 0 9 3
def m_crown (g : m_St) (b : Int) : m_St := if b = -1 then m_up g 0 0 14 b else m_up (m_up g 0 0 14 b) 0 0 16 (m_bo (g 0 0 16) (m_bt b))
def m_endIt (g : m_St) : m_St := m_up (m_crown g (m_winner g 0 0)) 0 0 9 4
def m_strip (g : m_St) : m_St := m_crown (m_up g 0 0 17 (m_bo (g 0 0 17) (m_bt (g 0 0 14)))) (m_winner (m_up g 0 0 17 (m_bo (g 0 0 17) (m_bt (g 0 0 14)))) 0 0)
def m_clearRows (j : Int) (g : m_St) : m_St := m_fo (fun b u => m_up (m_up u 6 j b (-1)) 7 j b 0) g 16
def m_clearYear (j : Int) (g : m_St) : m_St := m_clearRows j (m_up (m_up (m_up (m_up (m_up (m_up (m_up g 3 j 4 0) 3 j 7 0) 3 j 8 0) 3 j 9 0) 3 j 10 0) 3 j 12 0) 3 j 15 0)
def m_next1 (g : m_St) : m_St := m_up (m_up (m_setRules (m_up (m_up g 0 0 8 (g 0 0 8 + 1)) 0 0 9 0) 0 (g 9 1 0) (g 9 1 1) (g 9 1 2) (g 9 1 3)) 0 0 15 (g 0 0 14)) 0 0 14 (-1)
def m_next2 (g : m_St) : m_St := m_up (m_up (m_up g 0 0 12 (g 0 0 11)) 0 0 11 0) 0 0 13 0
def m_next (g : m_St) : m_St := m_fo (fun j u => m_clearYear j u) (m_fo (fun h u => m_up u 1 h 1 0) (m_next2 (m_next1 g)) 5) 5
end PM
section PS
/-! sums and sets -/
theorem sm_congr {h h' : Int → Int} : ∀ {n : Nat}, (∀ i : Int, 0 ≤ i → i < n → h i = h' i) → m_sm h n = m_sm h' n
  | 0, _ => rfl
  | n + 1, e => by
    have e1 := sm_congr (n := n) (fun i a b => e i a (by omega))
    have e2 := e n (by omega) (by omega)
    simp only [m_sm, e1, e2]
/-- one place differs -/
theorem sm_one {h h' : Int → Int} {k : Int} : ∀ {n : Nat}, 0 ≤ k → k < n → (∀ i : Int, 0 ≤ i → i < n → i ≠ k → h' i = h i) → m_sm h' n = m_sm h n + (h' k - h k)
  | 0, a, b, _ => absurd b (by omega)
  | n + 1, a, b, e => by
    simp only [m_sm]
    by_cases q : k = n
    · have e1 := sm_congr (n := n) (h := h') (h' := h) (fun i a b => e i a (by omega) (by omega))
      subst q
      rw [e1]; omega
    · have e1 := sm_one (n := n) a (by omega) (fun i a b c => e i a (by omega) c)
      have e2 := e n (by omega) (by omega) (fun x => q x.symm)
      rw [e1, e2]; omega
theorem sm_le {h h' : Int → Int} : ∀ {n : Nat}, (∀ i : Int, 0 ≤ i → i < n → h i ≤ h' i) → m_sm h n ≤ m_sm h' n
  | 0, _ => Int.le_refl _
  | n + 1, e => by
    have e1 := sm_le (n := n) (fun i a b => e i a (by omega))
    have e2 := e n (by omega) (by omega)
    simp only [m_sm]; omega
theorem sm_nn {h : Int → Int} : ∀ {n : Nat}, (∀ i : Int, 0 ≤ i → i < n → 0 ≤ h i) → 0 ≤ m_sm h n
  | 0, _ => Int.le_refl _
  | n + 1, e => by
    have e1 := sm_nn (n := n) (fun i a b => e i a (by omega))
    have e2 := e n (by omega) (by omega)
    simp only [m_sm]; omega
theorem sm_bd {h : Int → Int} {B : Int} : ∀ {n : Nat}, (∀ i : Int, 0 ≤ i → i < n → h i ≤ B) → m_sm h n ≤ B * n
  | 0, _ => by simp [m_sm]
  | n + 1, e => by
    have e1 := sm_bd (n := n) (fun i a b => e i a (by omega))
    have e2 := e n (by omega) (by omega)
    have e3 : B * ((n + 1 : Nat) : Int) = B * n + B := by rw [Int.natCast_add, Int.mul_add]; simp
    simp only [m_sm]; omega
theorem sm_lo {h : Int → Int} {B : Int} : ∀ {n : Nat}, (∀ i : Int, 0 ≤ i → i < n → B ≤ h i) → B * n ≤ m_sm h n
  | 0, _ => by simp [m_sm]
  | n + 1, e => by
    have e1 := sm_lo (n := n) (fun i a b => e i a (by omega))
    have e2 := e n (by omega) (by omega)
    have e3 : B * ((n + 1 : Nat) : Int) = B * n + B := by rw [Int.natCast_add, Int.mul_add]; simp
    simp only [m_sm]; omega
theorem sm_add {h h' : Int → Int} : ∀ {n : Nat}, m_sm (fun i => h i + h' i) n = m_sm h n + m_sm h' n
  | 0 => rfl
  | n + 1 => by simp only [m_sm, sm_add (n := n)]; omega
/-- a term is no more than the sum -/
theorem sm_ge {h : Int → Int} {k : Int} : ∀ {n : Nat}, (∀ i : Int, 0 ≤ i → i < n → 0 ≤ h i) → 0 ≤ k → k < n → h k ≤ m_sm h n
  | 0, _, a, b => absurd b (by omega)
  | n + 1, e, a, b => by
    simp only [m_sm]
    have e1 := sm_nn (n := n) (fun i a b => e i a (by omega))
    have e2 := e n (by omega) (by omega)
    by_cases q : k = n
    · subst q; omega
    · have e3 := sm_ge (n := n) (fun i a b => e i a (by omega)) a (by omega); omega
theorem ib_t : m_ib true = 1 := rfl
theorem ib_f : m_ib false = 0 := rfl
theorem ib_nn (c : Bool) : 0 ≤ m_ib c := by cases c <;> decide
theorem ib_le (c : Bool) : m_ib c ≤ 1 := by cases c <;> decide
theorem cnt_nn (p : Int → Bool) (n : Nat) : 0 ≤ m_cnt p n := sm_nn (fun i _ _ => ib_nn _)
theorem cnt_le (p : Int → Bool) (n : Nat) : m_cnt p n ≤ n := by
  have := sm_bd (n := n) (h := fun i => m_ib (p i)) (B := 1) (fun i _ _ => ib_le _)
  show m_sm (fun i => m_ib (p i)) n ≤ n
  omega
theorem cnt_0 {p : Int → Bool} {n : Nat} (h : m_cnt p n = 0) {k : Int} (a : 0 ≤ k) (b : k < n) : p k = false := by
  have := sm_ge (h := fun i => m_ib (p i)) (fun i _ _ => ib_nn _) a b
  have h' : m_sm (fun i => m_ib (p i)) n = 0 := h
  cases hp : p k with
  | false => rfl
  | true => rw [h', hp] at this; exact absurd this (by decide)
theorem cnt_pos {p : Int → Bool} {n : Nat} {k : Int} (a : 0 ≤ k) (b : k < n) (hp : p k = true) : 0 < m_cnt p n := by
  have := sm_ge (h := fun i => m_ib (p i)) (fun i _ _ => ib_nn _) a b
  rw [hp] at this
  exact Int.lt_of_lt_of_le (by decide) this
theorem has_n {S n : Int} (h : n < 0) : m_has S n = false := by
  unfold m_has; rw [decide_eq_false (by omega)]; rfl
theorem has_nn {S n : Int} (h : m_has S n = true) : 0 ≤ n := by
  cases Int.lt_or_le n 0 with
  | inl q => rw [has_n q] at h; cases h
  | inr q => exact q
theorem has_z (n : Int) : m_has 0 n = false := by unfold m_has; simp
theorem has_bo (S T n : Int) : m_has (m_bo S T) n = (m_has S n || m_has T n) := by
  unfold m_has m_bo
  rw [Int.toNat_natCast, Nat.testBit_or]
  cases decide (0 ≤ n) <;> simp
theorem has_ba (S T n : Int) : m_has (m_ba S T) n = (m_has S n && m_has T n) := by
  unfold m_has m_ba
  rw [Int.toNat_natCast, Nat.testBit_and]
  cases decide (0 ≤ n) <;> simp
theorem has_bd (S T n : Int) : m_has (m_bd S T) n = (m_has S n && !m_has T n) := by
  unfold m_has m_bd
  rw [Int.toNat_natCast, Nat.testBit_xor, Nat.testBit_and]
  cases decide (0 ≤ n) <;> cases S.toNat.testBit n.toNat <;> cases T.toNat.testBit n.toNat <;> rfl
theorem has_bt {k n : Int} (h : 0 ≤ k) : m_has (m_bt k) n = decide (n = k) := by
  unfold m_has m_bt
  rw [Int.toNat_natCast, Nat.testBit_two_pow]
  by_cases q : 0 ≤ n
  · rw [decide_eq_true q, Bool.true_and]
    exact decide_eq_decide.mpr (by omega)
  · rw [decide_eq_false q, decide_eq_false (show ¬ n = k from fun x => q (by omega))]; rfl
theorem bo_nn (S T : Int) : 0 ≤ m_bo S T := Int.natCast_nonneg _
theorem ba_nn (S T : Int) : 0 ≤ m_ba S T := Int.natCast_nonneg _
theorem bd_nn (S T : Int) : 0 ≤ m_bd S T := Int.natCast_nonneg _
theorem bt_nn (n : Int) : 0 ≤ m_bt n := Int.natCast_nonneg _
theorem set_z {S : Int} (h : 0 ≤ S) (e : ∀ n, m_has S n = false) : S = 0 := by
  have : S.toNat = 0 := Nat.eq_of_testBit_eq (fun i => by
    have := e i
    unfold m_has at this
    rw [decide_eq_true (Int.natCast_nonneg i), Int.toNat_natCast] at this
    simpa using this)
  omega
theorem set_ne {S : Int} (h : 0 ≤ S) (e : S ≠ 0) : ∃ n, m_has S n = true := by
  refine Classical.byContradiction (fun q => e (set_z h (fun n => ?_)))
  cases hn : m_has S n with
  | false => rfl
  | true => exact absurd ⟨n, hn⟩ q
theorem set_eq {S T : Int} (h : 0 ≤ S) (h' : 0 ≤ T) (e : ∀ n, m_has S n = m_has T n) : S = T := by
  have : S.toNat = T.toNat := Nat.eq_of_testBit_eq (fun i => by
    have := e i
    unfold m_has at this
    rw [decide_eq_true (Int.natCast_nonneg i), Int.toNat_natCast] at this
    simpa using this)
  omega
/-- members below k: the number is below 2^k -/
theorem set_lt {S : Int} {k : Nat} (h : 0 ≤ S) (e : ∀ n, m_has S n = true → n < k) : S < ((2 ^ k : Nat) : Int) := by
  have : S.toNat < 2 ^ k := Nat.lt_pow_two_of_testBit _ (fun i hi => by
    cases q : S.toNat.testBit i with
    | false => rfl
    | true =>
      have := e i (by unfold m_has; rw [decide_eq_true (Int.natCast_nonneg i), Int.toNat_natCast, q]; rfl)
      omega)
  omega
theorem has_lt {S n : Int} {k : Nat} (h : S < ((2 ^ k : Nat) : Int)) (e : m_has S n = true) : n < k := by
  have h0 := has_nn e
  unfold m_has at e
  rw [decide_eq_true h0, Bool.true_and] at e
  have h1 : 2 ^ n.toNat ≤ S.toNat := Nat.ge_two_pow_of_testBit e
  have h9 : 0 < 2 ^ n.toNat := Nat.two_pow_pos _
  have h2 : S.toNat < 2 ^ k := by omega
  have h3 : 2 ^ n.toNat < 2 ^ k := Nat.lt_of_le_of_lt h1 h2
  have h4 := (Nat.pow_lt_pow_iff_right (by decide : 1 < 2)).mp h3
  omega
theorem pcn_add {S k : Int} (a : 0 ≤ k) (b : k < 16) (h : m_has S k = false) : m_pcn (m_bo S (m_bt k)) = m_pcn S + 1 := by
  have := sm_one (h := fun i => m_ib (m_has S i)) (h' := fun i => m_ib (m_has (m_bo S (m_bt k)) i)) (n := 16) a b (fun i _ _ q => by
    simp only [has_bo, has_bt a, decide_eq_false q, Bool.or_false])
  simp only [has_bo, has_bt a, decide_eq_true, Bool.or_true, h, ib_t, ib_f] at this
  unfold m_pcn m_cnt
  simp only [has_bo, has_bt a]
  omega
theorem pcn_same {S k : Int} (h : m_has S k = true) : m_bo S (m_bt k) = m_bo S S := by
  refine set_eq (bo_nn _ _) (bo_nn _ _) (fun n => ?_)
  rw [has_bo, has_bo, has_bt (has_nn h)]
  by_cases q : n = k
  · rw [q, h]; rfl
  · rw [decide_eq_false q, Bool.or_false, Bool.or_self]
theorem bo_self {S : Int} (h : 0 ≤ S) : m_bo S S = S := set_eq (bo_nn _ _) h (fun n => by rw [has_bo, Bool.or_self])
theorem pcn_le {S k : Int} (a : 0 ≤ k) (b : k < 16) (h : 0 ≤ S) : m_pcn (m_bo S (m_bt k)) ≤ m_pcn S + 1 := by
  cases q : m_has S k with
  | false => rw [pcn_add a b q]; exact Int.le_refl _
  | true => rw [pcn_same q, bo_self h]; omega
end PS
section PW
/-! what holds of the class's numbers whatever is called: no index and no comparison leaves its span -/
def Wn (g : m_St) : Prop := (0 ≤ g 0 0 3 ∧ g 0 0 3 ≤ 5) ∧ (0 ≤ g 0 0 4 ∧ g 0 0 4 ≤ 16) ∧ (0 ≤ g 0 0 5 ∧ g 0 0 5 ≤ 5) ∧ (0 ≤ g 0 0 8 ∧ g 0 0 8 ≤ 20) ∧ (0 ≤ g 0 0 9 ∧ g 0 0 9 ≤ 4) ∧ (0 ≤ g 0 0 10 ∧ g 0 0 10 ≤ 9999) ∧ (-1 ≤ g 0 0 14 ∧ g 0 0 14 ≤ 15) ∧ (-1 ≤ g 0 0 15 ∧ g 0 0 15 ≤ 15)
def Ws (g : m_St) : Prop := (0 ≤ g 0 0 11 ∧ g 0 0 11 < 65536) ∧ (0 ≤ g 0 0 12 ∧ g 0 0 12 < 65536) ∧ (0 ≤ g 0 0 13 ∧ g 0 0 13 < 65536) ∧ (0 ≤ g 0 0 16 ∧ g 0 0 16 < 65536) ∧ (0 ≤ g 0 0 17 ∧ g 0 0 17 < 65536)
def Wh (g : m_St) : Prop := ∀ h, 0 ≤ h → h < 5 → 0 ≤ g 1 h 1 ∧ g 1 h 1 ≤ 16
def Wb (g : m_St) : Prop := ∀ b, 0 ≤ b → b < 16 → (0 ≤ g 2 b 0 ∧ g 2 b 0 ≤ 4) ∧ (0 ≤ g 2 b 1 ∧ g 2 b 1 ≤ 9) ∧ (0 ≤ g 2 b 2 ∧ g 2 b 2 ≤ 2) ∧ (0 ≤ g 2 b 3 ∧ g 2 b 3 ≤ 900) ∧ (0 ≤ g 2 b 4 ∧ g 2 b 4 ≤ 60) ∧ (0 ≤ g 2 b 5 ∧ g 2 b 5 ≤ 9) ∧ (0 ≤ g 2 b 6 ∧ g 2 b 6 ≤ 20) ∧ (-1 ≤ g 2 b 7 ∧ g 2 b 7 ≤ 20) ∧ (0 ≤ g 2 b 8 ∧ g 2 b 8 ≤ 9999)
def Wj (g : m_St) : Prop := ∀ j, 0 ≤ j → j < 5 → (0 ≤ g 3 j 0 ∧ g 3 j 0 ≤ 200) ∧ (0 ≤ g 3 j 1 ∧ g 3 j 1 ≤ 9) ∧ (-10 ≤ g 3 j 2 ∧ g 3 j 2 ≤ 10) ∧ (0 ≤ g 3 j 3 ∧ g 3 j 3 < 1024) ∧ (0 ≤ g 3 j 4 ∧ g 3 j 4 ≤ 1) ∧ (0 ≤ g 3 j 7 ∧ g 3 j 7 ≤ 16) ∧ (0 ≤ g 3 j 8 ∧ g 3 j 8 ≤ 900 * g 3 j 7) ∧ (0 ≤ g 3 j 9 ∧ g 3 j 9 ≤ g 3 j 7) ∧ (0 ≤ g 3 j 10 ∧ g 3 j 10 ≤ g 3 j 8) ∧ (0 ≤ g 3 j 12 ∧ g 3 j 12 ≤ 99 * g 3 j 9) ∧ (0 ≤ g 3 j 15 ∧ g 3 j 15 ≤ 5)
def Wa (g : m_St) : Prop := ∀ j k, 0 ≤ j → j < 5 → 0 ≤ k → k < 16 → (0 ≤ g 4 j k ∧ g 4 j k ≤ 15) ∧ (0 ≤ g 5 j k ∧ g 5 j k ≤ 14400) ∧ (-1 ≤ g 6 j k ∧ g 6 j k ≤ 99) ∧ (0 ≤ g 7 j k ∧ g 7 j k ≤ 12) ∧ (-1 ≤ g 8 j k ∧ g 8 j k ≤ 15)
def Wu (g : m_St) : Prop := ∀ k, 0 ≤ k → k < 2 → (0 ≤ g 9 k 0 ∧ g 9 k 0 ≤ 7) ∧ (0 ≤ g 9 k 1 ∧ g 9 k 1 ≤ 900) ∧ (0 ≤ g 9 k 2 ∧ g 9 k 2 ≤ 900) ∧ (0 ≤ g 9 k 3 ∧ g 9 k 3 ≤ 50)
def Wf (g : m_St) : Prop := Wn g ∧ Ws g ∧ Wh g ∧ Wb g ∧ Wj g ∧ Wa g ∧ Wu g
theorem up_s (g : m_St) (c : Nat) (k i x : Int) : m_up g c k i x c k i = x := by simp [m_up]
theorem up_i (g : m_St) (c : Nat) (k i x k' i' : Int) (h : i' ≠ i) : m_up g c k i x c k' i' = g c k' i' := by simp [m_up, h]
theorem up_k (g : m_St) (c : Nat) (k i x k' i' : Int) (h : k' ≠ k) : m_up g c k i x c k' i' = g c k' i' := by simp [m_up, h]
theorem up_c (g : m_St) (c c' : Nat) (k i x k' i' : Int) (h : c' ≠ c) : m_up g c k i x c' k' i' = g c' k' i' := by simp [m_up, h]
/-- what is written in a book, a judge, .. keeps what holds of it -/
theorem Wb.up {g : m_St} {b i x : Int} (h : Wb g) (hx : ∀ b', b' = b → 0 ≤ b → b < 16 → (i = 0 → 0 ≤ x ∧ x ≤ 4) ∧ (i = 1 → 0 ≤ x ∧ x ≤ 9) ∧ (i = 2 → 0 ≤ x ∧ x ≤ 2) ∧ (i = 3 → 0 ≤ x ∧ x ≤ 900) ∧ (i = 4 → 0 ≤ x ∧ x ≤ 60) ∧ (i = 5 → 0 ≤ x ∧ x ≤ 9) ∧ (i = 6 → 0 ≤ x ∧ x ≤ 20) ∧ (i = 7 → -1 ≤ x ∧ x ≤ 20) ∧ (i = 8 → 0 ≤ x ∧ x ≤ 9999)) : Wb (m_up g 2 b i x) := by
  intro b' h0 h1
  have H := h b' h0 h1
  by_cases q : b' = b
  · subst q
    have X := hx b' rfl h0 h1
    simp only [m_up, true_and]
    refine ⟨?_, ?_, ?_, ?_, ?_, ?_, ?_, ?_, ?_⟩ <;> split <;> rename_i e
    · exact X.1 e.symm
    · exact H.1
    · exact X.2.1 e.symm
    · exact H.2.1
    · exact X.2.2.1 e.symm
    · exact H.2.2.1
    · exact X.2.2.2.1 e.symm
    · exact H.2.2.2.1
    · exact X.2.2.2.2.1 e.symm
    · exact H.2.2.2.2.1
    · exact X.2.2.2.2.2.1 e.symm
    · exact H.2.2.2.2.2.1
    · exact X.2.2.2.2.2.2.1 e.symm
    · exact H.2.2.2.2.2.2.1
    · exact X.2.2.2.2.2.2.2.1 e.symm
    · exact H.2.2.2.2.2.2.2.1
    · exact X.2.2.2.2.2.2.2.2 e.symm
    · exact H.2.2.2.2.2.2.2.2
  · simp only [m_up, q, false_and, and_false, if_false]
    exact H
theorem Wj.take {g : m_St} {j b p : Int} (h : Wj g) (hp : 0 ≤ p ∧ p ≤ 900) (hc : g 3 j 7 < 16) : Wj (m_takeIn g j b p) := by
  intro j' h0 h1
  have H := h j' h0 h1
  by_cases q : j' = j
  · subst q
    simp [m_takeIn, m_up]
    omega
  · simp [m_takeIn, m_up, q]
    omega
theorem Wa.take {g : m_St} {j b p : Int} (h : Wa g) (hj : Wj g) (hb : 0 ≤ b ∧ b < 16) (hp : 0 ≤ p ∧ p ≤ 900) (hc : 0 ≤ j → j < 5 → g 3 j 7 < 16) : Wa (m_takeIn g j b p) := by
  intro j' k h0 h1 h2 h3
  have H := h j' k h0 h1 h2 h3
  have C := hj j' h0 h1
  by_cases q : j' = j
  · subst q
    have hc := hc h0 h1
    simp [m_takeIn, m_up]
    refine ⟨?_, ?_, H.2.2⟩ <;> split <;> omega
  · simp [m_takeIn, m_up, q]
    exact H
theorem Wf.take {g : m_St} {j b : Int} (h : Wf g) (hb : 0 ≤ b ∧ b < 16) (hc : 0 ≤ j → j < 5 → g 3 j 7 < 16) (hj : 0 ≤ j ∧ j < 5) : Wf (m_takeIn g j b (g 2 b 3)) := by
  obtain ⟨h1, h2, h3, h4, h5, h6, h7⟩ := h
  have B := (h4 b hb.1 hb.2).2.2.2.1
  exact ⟨h1, h2, h3, h4, h5.take B (hc hj.1 hj.2), h6.take h5 hb B hc, h7⟩
end PW
section PWO
theorem fo_ind {α : Type} {f : Int → α → α} {a : α} (P : Nat → α → Prop) : ∀ {N : Nat}, P 0 a → (∀ n x, n < N → P n x → P (n + 1) (f n x)) → P N (m_fo f a N)
  | 0, h, _ => h
  | n + 1, h, s => s n _ (by omega) (fo_ind P h (fun k x q => s k x (by omega)))
theorem Wf.mark {g : m_St} {j : Int} (h : Wf g) (hj : 0 ≤ j ∧ j < 5) (hb : g 3 j 9 < g 3 j 7) : Wf (m_markStep j g) := by
  obtain ⟨h1, h2, h3, h4, h5, h6, h7⟩ := h
  have B : 0 ≤ m_markFor g j (g 4 j (g 3 j 9)) ∧ m_markFor g j (g 4 j (g 3 j 9)) ≤ 99 := by unfold m_markFor; omega
  unfold m_markStep
  generalize m_markFor g j (g 4 j (g 3 j 9)) = x at B ⊢
  generalize hy : g 4 j (g 3 j 9) = y
  refine ⟨h1, h2, h3, h4, ?_, ?_, h7⟩
  · intro j' h0 h1
    have H := h5 j' h0 h1
    by_cases q : j' = j
    · subst q
      simp [m_up]
      omega
    · simp [m_up, q]
      omega
  · intro j' k h0 h1 h2 h3
    have H := h6 j' k h0 h1 h2 h3
    by_cases q : j' = j
    · subst q
      simp [m_up]
      refine ⟨H.1, H.2.1, ?_, H.2.2.2⟩
      split <;> omega
    · simp [m_up, q]
      exact H
theorem Wf.marks {j : Int} (hj : 0 ≤ j ∧ j < 5) : ∀ (n : Nat) {g : m_St}, Wf g → Wf (m_markLoop j n g)
  | 0, _, h => h
  | n + 1, g, h => by
    unfold m_markLoop
    split
    · rename_i q; exact Wf.marks hj n (h.mark hj q.1)
    · exact h
theorem pace_b {sp p : Int} (h : sp ≤ 200) (hp : 0 ≤ p) : 10 ≤ m_pace sp p ∧ m_pace sp p ≤ 200 := by
  unfold m_pace
  have : 0 ≤ p.tdiv 500 := Int.tdiv_nonneg hp (by decide)
  omega
theorem Wf.pages {g : m_St} {j : Int} (h : Wf g) (hj : 0 ≤ j ∧ j < 5) : Wf (m_up g 3 j 10 (g 3 j 10 + min (m_pace (g 3 j 0) (g 3 j 10)) (m_pagesLeft g j))) := by
  obtain ⟨h1, h2, h3, h4, h5, h6, h7⟩ := h
  have H := h5 j hj.1 hj.2
  have B := pace_b H.1.2 H.2.2.2.2.2.2.2.2.1.1
  refine ⟨h1, h2, h3, h4, ?_, h6, h7⟩
  intro j' h0 h1
  have H' := h5 j' h0 h1
  by_cases q : j' = j
  · subst q
    simp [m_up, m_pagesLeft]
    omega
  · simp [m_up, q]
    omega
theorem Wf.readJ {g : m_St} {j : Int} (h : Wf g) (hj : 0 ≤ j ∧ j < 5) : Wf (m_readJ g j) := Wf.marks hj 16 (h.pages hj)
/-- the numbers of the class itself: written, they stay in their span -/
theorem Wf.num {g : m_St} {i x : Int} (h : Wf g) (h1 : Wn (m_up g 0 0 i x)) (h2 : Ws (m_up g 0 0 i x)) : Wf (m_up g 0 0 i x) :=
  ⟨h1, h2, h.2.2.1, h.2.2.2.1, h.2.2.2.2.1, h.2.2.2.2.2.1, h.2.2.2.2.2.2⟩
theorem Wf.jc {g : m_St} (h : Wf g) : 0 ≤ g 0 0 5 ∧ g 0 0 5 ≤ 5 := h.1.2.2.1
theorem Wf.bc {g : m_St} (h : Wf g) : 0 ≤ g 0 0 4 ∧ g 0 0 4 ≤ 16 := h.1.2.1
theorem Wf.hc {g : m_St} (h : Wf g) : 0 ≤ g 0 0 3 ∧ g 0 0 3 ≤ 5 := h.1.1
theorem readJ_c {c : Nat} {k i : Int} (j : Int) (hc : c ≠ 3) (hc' : c ≠ 6) : ∀ (g : m_St), m_readJ g j c k i = g c k i := by
  have L : ∀ (n : Nat) (g : m_St), m_markLoop j n g c k i = g c k i := by
    intro n
    induction n with
    | zero => intro g; rfl
    | succ n ih =>
      intro g
      unfold m_markLoop
      split
      · rw [ih]; simp [m_markStep, m_up, hc, hc']
      · rfl
  intro g
  unfold m_readJ
  rw [L]
  simp [m_up, hc]
theorem Wf.readDays {g : m_St} (h : Wf g) : ∀ (n : Nat), (n : Int) ≤ g 0 0 5 → Wf (m_fo (fun j u => m_readJ u j) g n) ∧ ∀ (c : Nat) (k i : Int), c ≠ 3 → c ≠ 6 → m_fo (fun j u => m_readJ u j) g n c k i = g c k i
  | 0, _ => ⟨h, fun _ _ _ _ _ => rfl⟩
  | n + 1, q => by
    have ih := Wf.readDays h n (by omega)
    have J := h.jc
    exact ⟨ih.1.readJ ⟨by omega, by omega⟩, fun c k i a b => (readJ_c _ a b _).trans (ih.2 c k i a b)⟩
theorem Wf.readDay {g : m_St} (h : Wf g) : Wf (m_readDay g) ∧ ∀ (c : Nat) (k i : Int), c ≠ 3 → c ≠ 6 → m_readDay g c k i = g c k i := by
  unfold m_readDay
  split
  · exact Wf.readDays h _ (by have := h.jc; omega)
  · exact ⟨h, fun _ _ _ _ _ => rfl⟩
theorem Wf.passDays {g : m_St} (h : Wf g) : ∀ (n : Nat), Wf (m_fo (fun _ u => m_readDay u) g n) ∧ ∀ (c : Nat) (k i : Int), c ≠ 3 → c ≠ 6 → m_fo (fun _ u => m_readDay u) g n c k i = g c k i
  | 0 => ⟨h, fun _ _ _ _ _ => rfl⟩
  | n + 1 => by
    have ih := Wf.passDays h n
    exact ⟨ih.1.readDay.1, fun c k i a b => (ih.1.readDay.2 c k i a b).trans (ih.2 c k i a b)⟩
/-! sales -/
theorem asked_b (g : m_St) (b : Int) : 1 ≤ m_asked g b ∧ m_asked g b ≤ 90 := by
  unfold m_asked
  split
  · omega
  · cases m_has (g 0 0 13) b <;> cases m_has (g 0 0 11) b <;> simp
theorem Wf.sell {g : m_St} {b d : Int} (h : Wf g) (hb : 0 ≤ b ∧ b < 16) (hd : 0 ≤ d) : Wf (m_sellStep d b g) := by
  obtain ⟨h1, h2, h3, h4, h5, h6, h7⟩ := h
  have A := asked_b g b
  have M : 0 ≤ m_asked g b * d := Int.mul_nonneg (by omega) hd
  unfold m_sellStep m_sellB
  generalize m_asked g b * d = a at M ⊢
  refine ⟨h1, h2, ?_, ?_, h5, h6, h7⟩
  · intro h h0 h1
    have H := h3 h h0 h1
    simp [m_up]
    exact H
  · intro b' h0 h1
    have H := h4 b' h0 h1
    by_cases q : b' = b
    · subst q
      simp [m_up]
      omega
    · simp [m_up, q]
      omega
theorem sell_c {g : m_St} {b d : Int} {c : Nat} {k i : Int} (h1 : c ≠ 1) (h2 : c ≠ 2) : m_sellStep d b g c k i = g c k i := by
  simp [m_sellStep, m_sellB, m_up, h1, h2]
theorem sell_2 {g : m_St} {b d k i : Int} (h : i < 8 ∨ 10 < i) : m_sellStep d b g 2 k i = g 2 k i := by
  have e1 : i ≠ 8 := by omega
  have e2 : i ≠ 9 := by omega
  have e3 : i ≠ 10 := by omega
  simp [m_sellStep, m_sellB, m_up, e1, e2, e3]
theorem Wf.sells {g : m_St} {d : Int} (h : Wf g) (hd : 0 ≤ d) : ∀ (n : Nat), n ≤ 16 → Wf (m_fo (m_sellStep d) g n) ∧ (∀ (c : Nat) (k i : Int), c ≠ 1 → c ≠ 2 → m_fo (m_sellStep d) g n c k i = g c k i) ∧ ∀ (k i : Int), i < 8 ∨ 10 < i → m_fo (m_sellStep d) g n 2 k i = g 2 k i
  | 0, _ => ⟨h, fun _ _ _ _ _ => rfl, fun _ _ _ => rfl⟩
  | n + 1, q => by
    have ih := Wf.sells h hd n (by omega)
    exact ⟨ih.1.sell ⟨by omega, by omega⟩ hd, fun c k i a b => (sell_c a b).trans (ih.2.1 c k i a b), fun k i a => (sell_2 a).trans (ih.2.2 k i a)⟩
theorem Wf.pass {g : m_St} {n : Int} (h : Wf g) (hn : 0 ≤ n) (hd : g 0 0 10 + n ≤ 9999) : Wf (m_pass g n) := by
  have a := Wf.passDays h n.toNat
  have J := a.1.bc
  have b := Wf.sells (d := n) a.1 hn (m_passDays g n 0 0 4).toNat (by unfold m_passDays; omega)
  unfold m_pass m_sellFor
  refine b.1.num ?_ ?_
  · have := b.1.1
    have e := h.1
    simp only [Wn, m_up] at this e ⊢
    simp
    omega
  · exact b.1.2.1
end PWO
section PWO2
theorem wf_set {S : Int} (h : 0 ≤ S) (e : ∀ n, m_has S n = true → n < 16) : 0 ≤ S ∧ S < 65536 := ⟨h, set_lt (k := 16) h e⟩
theorem set_16 {S n : Int} (h : S < 65536) (e : m_has S n = true) : n < 16 := has_lt (k := 16) h e
theorem bo_16 {S k : Int} (h : 0 ≤ S ∧ S < 65536) (hk : k < 16) (hk0 : 0 ≤ k) : 0 ≤ m_bo S (m_bt k) ∧ m_bo S (m_bt k) < 65536 := by
  refine wf_set (bo_nn _ _) (fun n hn => ?_)
  rw [has_bo, has_bt hk0] at hn
  cases q : m_has S n with
  | true => exact set_16 h.2 q
  | false => rw [q] at hn; have := of_decide_eq_true hn; omega
/-- the best of a set is one of it -/
theorem best_in (g : m_St) (S : Int) : m_best g S = -1 ∨ (0 ≤ m_best g S ∧ m_best g S < g 0 0 4 ∧ m_has S (m_best g S) = true) := by
  have h := fo_ind (f := fun b r => bif m_has S b && (r == -1 || m_better g b r) then b else r) (a := (-1 : Int)) (N := (g 0 0 4).toNat) (fun n r => r = -1 ∨ (0 ≤ r ∧ r < (n : Int) ∧ m_has S r = true)) (Or.inl rfl) (fun n x hn hx => by
    cases q : m_has S n && (x == -1 || m_better g n x) with
    | true =>
      have q1 := (Bool.and_eq_true _ _ ▸ q).1
      simp only [q, cond_true]
      exact Or.inr ⟨Int.natCast_nonneg n, by omega, q1⟩
    | false =>
      simp only [q, cond_false]
      rcases hx with h | ⟨h1, h2, h3⟩
      · exact Or.inl h
      · exact Or.inr ⟨h1, by omega, h3⟩)
  rcases h with h | ⟨h1, h2, h3⟩
  · exact Or.inl h
  · exact Or.inr ⟨h1, by unfold m_best; omega, h3⟩
theorem long_in (g : m_St) (many : Int) (P : Int → Prop) (hs : ∀ L b, P L → 0 ≤ b → b < g 0 0 4 → m_coh g (g 2 b 0) L < 2 → P (m_bo L (m_bt b))) : ∀ (n : Nat) (left L : Int), P L → P (m_fillLong g many n left L)
  | 0, _, _, h => h
  | n + 1, left, L, h => by
    unfold m_fillLong
    split
    · split
      · exact h
      · rename_i q
        rcases best_in g left with e | ⟨e1, e2, e3⟩
        · exact absurd e q
        · refine long_in g many P hs n _ _ ?_
          split
          · rename_i q; exact hs _ _ h e1 e2 q
          · exact h
    · exact h
/-- with the set that is left known: what comes onto the list was there -/
theorem long_of (g : m_St) (many : Int) (P : Int → Prop) (Q : Int → Prop) (hs : ∀ L b, P L → 0 ≤ b → b < g 0 0 4 → Q b → m_coh g (g 2 b 0) L < 2 → P (m_bo L (m_bt b))) : ∀ (n : Nat) (left L : Int), (∀ b, m_has left b = true → Q b) → P L → P (m_fillLong g many n left L)
  | 0, _, _, _, h => h
  | n + 1, left, L, hq, h => by
    unfold m_fillLong
    split
    · split
      · exact h
      · rename_i q
        rcases best_in g left with e | ⟨e1, e2, e3⟩
        · exact absurd e q
        · refine long_of g many P Q hs n _ _ (fun b hb => hq b ?_) ?_
          · rw [has_bd, Bool.and_eq_true] at hb; exact hb.1
          · split
            · rename_i q; exact hs _ _ h e1 e2 (hq _ e3) q
            · exact h
    · exact h
theorem short_of (g : m_St) (P : Int → Prop) (hs : ∀ S b, P S → 0 ≤ b → b < g 0 0 4 → m_has (g 0 0 11) b = true → m_has S b = false → P (m_bo S (m_bt b))) : ∀ (n : Nat) (S : Int), P S → P (m_fillShort g n S)
  | 0, _, h => h
  | n + 1, S, h => by
    unfold m_fillShort
    split
    · exact h
    · rename_i q
      rcases best_in g (m_bd (g 0 0 11) S) with e | ⟨e1, e2, e3⟩
      · exact absurd e q
      · rw [has_bd, Bool.and_eq_true] at e3
        exact short_of g P hs n _ (hs _ _ h e1 e2 e3.1 (by simpa using e3.2))
theorem short_pc (g : m_St) (hb : g 0 0 4 ≤ 16) : ∀ (n : Nat) (S : Int), 0 ≤ S → m_pcn (m_fillShort g n S) ≤ m_pcn S + n
  | 0, S, _ => by show m_pcn S ≤ m_pcn S + 0; omega
  | n + 1, S, h => by
    unfold m_fillShort
    split
    · omega
    · rename_i q
      rcases best_in g (m_bd (g 0 0 11) S) with e | ⟨e1, e2, e3⟩
      · exact absurd e q
      · have a := short_pc g hb n (m_bo S (m_bt (m_best g (m_bd (g 0 0 11) S)))) (bo_nn _ _)
        have b := pcn_le e1 (by omega) h
        omega
theorem Wf.longList {g : m_St} {many : Int} (h : Wf g) : Wf (m_longList g many) := by
  have N := h.1
  have S := h.2.1
  have L := long_in g many (fun L => 0 ≤ L ∧ L < 65536) (fun L b hl h0 h1 _ => bo_16 hl (by have := h.bc; omega) h0) 16 (m_listable g) (g 0 0 11) S.1
  unfold m_longList
  generalize m_fillLong g many 16 (m_listable g) (g 0 0 11) = x at L ⊢
  refine Wf.num (Wf.num h ?_ ?_) ?_ ?_
  · exact N
  · exact ⟨L, S.2⟩
  · exact ⟨N.1, N.2.1, N.2.2.1, N.2.2.2.1, by simp [m_up], N.2.2.2.2.2⟩
  · exact ⟨L, S.2⟩
theorem Wf.shortList {g : m_St} {many : Int} (h : Wf g) : Wf (m_shortList g many) := by
  have N := h.1
  have S := h.2.1
  have L := short_of g (fun L => 0 ≤ L ∧ L < 65536) (fun L b hl h0 h1 _ _ => bo_16 hl (by have := h.bc; omega) h0) many.toNat (g 0 0 13) S.2.2.1
  unfold m_shortList
  generalize m_fillShort g many.toNat (g 0 0 13) = x at L ⊢
  refine Wf.num (Wf.num h ?_ ?_) ?_ ?_
  · exact N
  · exact ⟨S.1, S.2.1, L, S.2.2.2⟩
  · exact ⟨N.1, N.2.1, N.2.2.1, N.2.2.2.1, by simp [m_up], N.2.2.2.2.2⟩
  · exact ⟨S.1, S.2.1, L, S.2.2.2⟩
end PWO2
end
section
section PWI
/-- the first of those that are so -/
theorem fs_in (p : Int → Bool) : ∀ (n : Nat) (i : Int), m_fs p n i = -1 ∨ (i ≤ m_fs p n i ∧ m_fs p n i < i + n ∧ p (m_fs p n i) = true)
  | 0, _ => Or.inl rfl
  | n + 1, i => by
    unfold m_fs
    cases q : p i with
    | true => exact Or.inr ⟨by simp, by simp only [cond_true]; omega, q⟩
    | false =>
      simp only [cond_false]
      rcases fs_in p n (i + 1) with h | ⟨h1, h2, h3⟩
      · exact Or.inl h
      · exact Or.inr ⟨by omega, by omega, h3⟩
/-- the last that a loop kept: none, or one that it might keep; and none only where there was none -/
theorem keep_in {c : Int → Int → Bool} {S : Int} (N : Nat) : (m_fo (fun b w => bif m_has S b && (w == -1 || c b w) then b else w) (-1) N = -1 ∧ ∀ b : Int, 0 ≤ b → b < N → m_has S b = false) ∨ (0 ≤ m_fo (fun b w => bif m_has S b && (w == -1 || c b w) then b else w) (-1) N ∧ m_fo (fun b w => bif m_has S b && (w == -1 || c b w) then b else w) (-1) N < N ∧ m_has S (m_fo (fun b w => bif m_has S b && (w == -1 || c b w) then b else w) (-1) N) = true) := by
  refine fo_ind (f := fun b w => bif m_has S b && (w == -1 || c b w) then b else w) (a := (-1 : Int)) (N := N) (fun n r => (r = -1 ∧ ∀ b : Int, 0 ≤ b → b < n → m_has S b = false) ∨ (0 ≤ r ∧ r < (n : Int) ∧ m_has S r = true)) (Or.inl ⟨rfl, fun b h0 h1 => by omega⟩) (fun n x hn hx => ?_)
  cases q : m_has S n && (x == -1 || c n x) with
  | true =>
    have q1 := (Bool.and_eq_true _ _ ▸ q).1
    exact Or.inr ⟨Int.natCast_nonneg n, by simp only [cond_true]; omega, q1⟩
  | false =>
    simp only [cond_false]
    rcases hx with ⟨h, h0⟩ | ⟨h1, h2, h3⟩
    · refine Or.inl ⟨h, fun b b0 b1 => ?_⟩
      by_cases e : b = n
      · subst e; subst h
        simpa using q
      · exact h0 b b0 (by omega)
    · exact Or.inr ⟨h1, by omega, h3⟩
theorem weakest_in (g : m_St) (left out : Int) (hb : 0 ≤ g 0 0 4) : (m_weakest g left out = -1 ∧ ∀ b : Int, 0 ≤ b → b < g 0 0 4 → m_has left b = false) ∨ (0 ≤ m_weakest g left out ∧ m_weakest g left out < g 0 0 4 ∧ m_has left (m_weakest g left out) = true) := by
  have h := keep_in (c := m_weaker g left out) (S := left) (g 0 0 4).toNat
  unfold m_weakest
  rw [Int.toNat_of_nonneg hb] at h
  exact h
theorem above_in (g : m_St) (left out : Int) : m_aboveHalf g left out = -1 ∨ (0 ≤ m_aboveHalf g left out ∧ m_aboveHalf g left out < g 0 0 4 ∧ m_has left (m_aboveHalf g left out) = true) := by
  unfold m_aboveHalf
  rcases fs_in (fun b => m_has left b && decide (m_counted g left out < 2 * m_votesFor g left out b)) (g 0 0 4).toNat 0 with h | ⟨h1, h2, h3⟩
  · exact Or.inl h
  · exact Or.inr ⟨h1, by omega, (Bool.and_eq_true _ _ ▸ h3).1⟩
/-- who wins is of what is left -/
theorem win_in (g : m_St) (out : Int) (hb : 0 ≤ g 0 0 4) (left0 : Int) : ∀ (n : Nat) (left last : Int), (∀ b, m_has left b = true → m_has left0 b = true) → (last = -1 ∨ (0 ≤ last ∧ last < g 0 0 4 ∧ m_has left0 last = true)) → (m_winLoop g out n left last = -1 ∨ (0 ≤ m_winLoop g out n left last ∧ m_winLoop g out n left last < g 0 0 4 ∧ m_has left0 (m_winLoop g out n left last) = true))
  | 0, _, _, _, h => h
  | n + 1, left, last, hl, h => by
    unfold m_winLoop
    split
    · exact h
    · split
      · refine win_in g out hb left0 n _ _ (fun b e => hl b ?_) ?_
        · rw [has_bd, Bool.and_eq_true] at e; exact e.1
        · rcases weakest_in g left out hb with ⟨e, -⟩ | ⟨h1, h2, h3⟩
          · exact Or.inl e
          · exact Or.inr ⟨h1, h2, hl _ h3⟩
      · rcases above_in g left out with e | ⟨h1, h2, h3⟩
        · exact Or.inl e
        · exact Or.inr ⟨h1, h2, hl _ h3⟩
theorem winner_in (g : m_St) (bs out : Int) (hb : 0 ≤ g 0 0 4) : m_winner g bs out = -1 ∨ (0 ≤ m_winner g bs out ∧ m_winner g bs out < g 0 0 4 ∧ m_has (g 0 0 13) (m_winner g bs out) = true ∧ m_has (g 0 0 17) (m_winner g bs out) = false ∧ m_has bs (m_winner g bs out) = false) := by
  rcases win_in g out hb (m_bd (m_bd (g 0 0 13) (g 0 0 17)) bs) 16 (m_bd (m_bd (g 0 0 13) (g 0 0 17)) bs) (-1) (fun _ h => h) (Or.inl rfl) with h | ⟨h1, h2, h3⟩
  · exact Or.inl h
  · rw [has_bd, has_bd, Bool.and_eq_true, Bool.and_eq_true] at h3
    refine Or.inr ⟨h1, h2, h3.1.1, ?_, ?_⟩
    · exact (Bool.not_eq_true' _).mp h3.1.2
    · exact (Bool.not_eq_true' _).mp h3.2
/-- with a book left, one wins -/
theorem winLoop_some (g : m_St) (out : Int) (hb : 0 ≤ g 0 0 4) : ∀ (n : Nat) (left last : Int), (∀ b, m_has left b = true → b < g 0 0 4) → 0 ≤ left → (0 ≤ last ∨ (left ≠ 0 ∧ n ≠ 0)) → 0 ≤ m_winLoop g out n left last
  | 0, _, _, _, _, h => by
    rcases h with h | ⟨_, h⟩
    · exact h
    · exact absurd rfl h
  | n + 1, left, last, hl, h0, h => by
    unfold m_winLoop
    split
    · rename_i q
      rcases h with h | ⟨h, _⟩
      · exact h
      · exact absurd q h
    · rename_i q
      split
      · refine winLoop_some g out hb n _ _ (fun b e => hl b ?_) (bd_nn _ _) (Or.inl ?_)
        · rw [has_bd, Bool.and_eq_true] at e; exact e.1
        · rcases weakest_in g left out hb with ⟨_, e⟩ | ⟨h1, _, _⟩
          · obtain ⟨b, hb⟩ := set_ne h0 q
            have := e b (has_nn hb) (hl b hb)
            rw [hb] at this; cases this
          · exact h1
      · rename_i q
        rcases above_in g left out with e | ⟨h1, h2, h3⟩
        · exact absurd e q
        · exact h1
theorem winner_some (g : m_St) (bs out : Int) (hb : 0 ≤ g 0 0 4) (hs : ∀ b, m_has (g 0 0 13) b = true → b < g 0 0 4) {b : Int} (h1 : m_has (g 0 0 13) b = true) (h2 : m_has (g 0 0 17) b = false) (h3 : m_has bs b = false) : 0 ≤ m_winner g bs out := by
  refine winLoop_some g out hb 16 _ _ (fun b e => hs b ?_) (bd_nn _ _) (Or.inr ⟨fun e => ?_, by decide⟩)
  · rw [has_bd, has_bd, Bool.and_eq_true, Bool.and_eq_true] at e; exact e.1.1
  · have := has_bd (m_bd (g 0 0 13) (g 0 0 17)) bs b
    rw [e, has_z, has_bd, h1, h2, h3] at this
    cases this
theorem Wf.crown {g : m_St} {b : Int} (h : Wf g) (hb : b = -1 ∨ (0 ≤ b ∧ b < 16)) : Wf (m_crown g b) := by
  have N := h.1
  have S := h.2.1
  unfold m_crown
  split
  · rename_i q
    refine h.num ?_ S
    exact ⟨N.1, N.2.1, N.2.2.1, N.2.2.2.1, N.2.2.2.2.1, N.2.2.2.2.2.1, by simp [m_up]; omega, N.2.2.2.2.2.2.2⟩
  · refine Wf.num (h.num ?_ S) ?_ ?_
    · exact ⟨N.1, N.2.1, N.2.2.1, N.2.2.2.1, N.2.2.2.2.1, N.2.2.2.2.2.1, by simp [m_up]; omega, N.2.2.2.2.2.2.2⟩
    · exact ⟨N.1, N.2.1, N.2.2.1, N.2.2.2.1, N.2.2.2.2.1, N.2.2.2.2.2.1, by simp [m_up]; omega, N.2.2.2.2.2.2.2⟩
    · exact ⟨S.1, S.2.1, S.2.2.1, bo_16 S.2.2.2.1 (by omega) (by omega), S.2.2.2.2⟩
theorem win_b {g : m_St} (h : Wf g) (bs out : Int) : m_winner g bs out = -1 ∨ (0 ≤ m_winner g bs out ∧ m_winner g bs out < 16) := by
  have := h.bc
  rcases winner_in g bs out this.1 with e | ⟨h1, h2, _⟩
  · exact Or.inl e
  · exact Or.inr ⟨h1, by omega⟩
theorem crown_c (g : m_St) (b : Int) (c : Nat) (k i : Int) (h : c ≠ 0 ∨ (i ≠ 14 ∧ i ≠ 16)) : m_crown g b c k i = g c k i := by
  unfold m_crown
  rcases h with h | ⟨h1, h2⟩ <;> split <;> simp [m_up, *]
theorem Wf.endIt {g : m_St} (h : Wf g) : Wf (m_endIt g) := by
  have C := h.crown (win_b h 0 0)
  have N := C.1
  exact C.num ⟨N.1, N.2.1, N.2.2.1, N.2.2.2.1, by simp [m_up], N.2.2.2.2.2⟩ C.2.1
theorem Wf.strip {g : m_St} (h : Wf g) (hw : 0 ≤ g 0 0 14) : Wf (m_strip g) := by
  have S := h.2.1
  have N := h.1
  have C : Wf (m_up g 0 0 17 (m_bo (g 0 0 17) (m_bt (g 0 0 14)))) := h.num N ⟨S.1, S.2.1, S.2.2.1, S.2.2.2.1, bo_16 S.2.2.2.2 (by have := N.2.2.2.2.2.2.1; omega) hw⟩
  exact C.crown (win_b C 0 0)
end PWI
section PWP
theorem Wf.house {g : m_St} (h : Wf g) (hc : g 0 0 3 < 5) : Wf (m_up g 0 0 3 (g 0 0 3 + 1)) := by
  have N := h.1
  exact h.num ⟨by have := N.1; simp [m_up]; omega, N.2⟩ h.2.1
theorem Wf.book {g : m_St} {hs a f p m l : Int} (h : Wf g) (hc : g 0 0 4 < 16) (h0 : 0 ≤ hs ∧ hs ≤ 4) (h1 : 0 ≤ a ∧ a ≤ 9) (h2 : 0 ≤ f ∧ f ≤ 2) (h3 : 0 ≤ p ∧ p ≤ 900) (h4 : 0 ≤ m ∧ m ≤ 60) (h5 : 0 ≤ l ∧ l ≤ 9) : Wf (m_book g hs a f p m l) := by
  obtain ⟨N, S, H, B, J, A, U⟩ := h
  refine ⟨?_, S, H, ?_, J, A, U⟩
  · exact ⟨N.1, by simp [m_book, m_describeB, m_up]; have := N.2.1; omega, N.2.2⟩
  · intro b b0 b1
    have X := B b b0 b1
    have Y := N.2.2.2.1
    by_cases q : b = g 0 0 4
    · subst q
      simp [m_book, m_describeB, m_up]
      omega
    · simp [m_book, m_describeB, m_up, q]
      omega
theorem Wf.judge {g : m_St} {s t l : Int} (h : Wf g) (hc : g 0 0 5 < 5) (h0 : 0 ≤ s ∧ s ≤ 200) (h1 : 0 ≤ t ∧ t ≤ 9) (h2 : -10 ≤ l ∧ l ≤ 10) : Wf (m_judge g s t l) := by
  obtain ⟨N, S, H, B, J, A, U⟩ := h
  refine ⟨?_, S, H, B, ?_, A, U⟩
  · exact ⟨N.1, N.2.1, by simp [m_judge, m_up]; have := N.2.2.1; omega, N.2.2.2⟩
  · intro b b0 b1
    have X := J b b0 b1
    by_cases q : b = g 0 0 5
    · subst q
      simp [m_judge, m_up]
      omega
    · simp [m_judge, m_up, q]
      omega
theorem bo_10 {S k : Int} (h : 0 ≤ S ∧ S < 1024) (hk : k < 10) (hk0 : 0 ≤ k) : 0 ≤ m_bo S (m_bt k) ∧ m_bo S (m_bt k) < 1024 := by
  refine ⟨bo_nn _ _, set_lt (k := 10) (bo_nn _ _) (fun n hn => ?_)⟩
  rw [has_bo, has_bt hk0] at hn
  cases q : m_has S n with
  | true => exact has_lt (k := 10) h.2 q
  | false => rw [q] at hn; have := of_decide_eq_true hn; omega
theorem Wf.conflict {g : m_St} {j a : Int} (h : Wf g) (h0 : 0 ≤ a ∧ a ≤ 9) : Wf (m_conflict g j a) := by
  obtain ⟨N, S, H, B, J, A, U⟩ := h
  refine ⟨N, S, H, B, ?_, A, U⟩
  intro b b0 b1
  have X := J b b0 b1
  by_cases q : b = j
  · subst q
    have Y := bo_10 (k := a) X.2.2.2.1 (by omega) h0.1
    simp [m_conflict, m_up]
    omega
  · simp [m_conflict, m_up, q]
    omega
theorem Wf.rules {g : m_St} {k f l m e : Int} (h : Wf g) (h0 : 0 ≤ f ∧ f ≤ 7) (h1 : 0 ≤ l ∧ l ≤ 900) (h2 : 0 ≤ m ∧ m ≤ 900) (h3 : 0 ≤ e ∧ e ≤ 50) : Wf (m_setRules g k f l m e) := by
  obtain ⟨N, S, H, B, J, A, U⟩ := h
  refine ⟨N, S, H, B, J, A, ?_⟩
  intro b b0 b1
  have X := U b b0 b1
  by_cases q : b = k
  · subst q
    simp [m_setRules, m_up]
    omega
  · simp [m_setRules, m_up, q]
    omega
theorem Wf.enterFor {g : m_St} {b c : Int} (h : Wf g) : Wf (m_enterFor g b c) := by
  obtain ⟨N, S, H, B, J, A, U⟩ := h
  refine ⟨N, S, ?_, ?_, J, A, U⟩
  · intro h h0 h1
    have X := H h h0 h1
    simp [m_enterFor, m_up]
    exact X
  · intro b' b0 b1
    have X := B b' b0 b1
    have Y := N.2.2.2.1
    by_cases q : b' = b
    · subst q
      simp [m_enterFor, m_up]
      omega
    · simp [m_enterFor, m_up, q]
      omega
theorem coh_b (g : m_St) (h S : Int) (hb : 0 ≤ g 0 0 4) : 0 ≤ m_coh g h S ∧ m_coh g h S ≤ g 0 0 4 := by
  have a := cnt_nn (fun b => m_has S b && g 2 b 0 == h) (g 0 0 4).toNat
  have b := cnt_le (fun b => m_has S b && g 2 b 0 == h) (g 0 0 4).toNat
  rw [Int.toNat_of_nonneg hb] at b
  exact ⟨a, b⟩
theorem quota_b (g : m_St) (h : Int) (hb : 0 ≤ g 0 0 4) : 2 ≤ m_quota g h ∧ m_quota g h ≤ 4 := by
  have := coh_b g h (g 0 0 12) hb
  unfold m_quota
  omega
theorem Wf.enter {g : m_St} {b : Int} (h : Wf g) : Wf (m_enter g b) := by
  unfold m_enter
  cases m_elig g b with
  | false => exact h
  | true =>
    simp only [cond_true]
    split
    · exact h
    · rename_i q
      have Q := quota_b g (g 2 b 0) h.bc.1
      refine Wf.enterFor ?_
      obtain ⟨N, S, H, B, J, A, U⟩ := h
      refine ⟨N, S, ?_, B, J, A, U⟩
      intro k k0 k1
      have X := H k k0 k1
      by_cases q : k = g 2 b 0
      · subst q
        simp [m_up]
        omega
      · simp [m_up, q]
        exact X
theorem Wf.callIn {g : m_St} {j b : Int} (h : Wf g) : Wf (m_callIn g j b) := by
  unfold m_callIn
  cases m_elig g b with
  | false => exact h
  | true =>
    simp only [cond_true]
    split
    · exact h
    · refine Wf.enterFor ?_
      obtain ⟨N, S, H, B, J, A, U⟩ := h
      refine ⟨N, S, H, B, ?_, A, U⟩
      intro k k0 k1
      have X := J k k0 k1
      by_cases q : k = j
      · subst q
        simp [m_up]
        omega
      · simp [m_up, q]
        omega
theorem Wf.print {g : m_St} {b n : Int} (h : Wf g) (hn : 0 ≤ n) : Wf (m_print g b n) := by
  obtain ⟨N, S, H, B, J, A, U⟩ := h
  refine ⟨N, S, H, ?_, J, A, U⟩
  intro k k0 k1
  have X := B k k0 k1
  by_cases q : k = b
  · subst q
    simp [m_print, m_up]
    omega
  · simp [m_print, m_up, q]
    omega
theorem Wf.points {g : m_St} {j b n : Int} (h : Wf g) (hn : 0 ≤ n ∧ n ≤ 12) : Wf (m_points g j b n) := by
  obtain ⟨N, S, H, B, J, A, U⟩ := h
  refine ⟨N, S, H, B, J, ?_, U⟩
  intro i k i0 i1 k0 k1
  have X := A i k i0 i1 k0 k1
  refine ⟨X.1, X.2.1, X.2.2.1, ?_, X.2.2.2.2⟩
  have Y := X.2.2.2.1
  simp only [m_points, m_up]
  split <;> omega
theorem bookAt_b (g : m_St) (place : Int) : ∀ (n : Nat) (i p : Int), 0 ≤ i → m_bookAt g place n i p = -1 ∨ (0 ≤ m_bookAt g place n i p ∧ m_bookAt g place n i p < i + n)
  | 0, _, _, _ => Or.inl rfl
  | n + 1, i, p, h => by
    unfold m_bookAt
    cases m_has (g 0 0 13) i with
    | true =>
      simp only [cond_true]
      split
      · exact Or.inr ⟨h, by omega⟩
      · rcases bookAt_b g place n (i + 1) (p + 1) (by omega) with e | e
        · exact Or.inl e
        · exact Or.inr ⟨e.1, by omega⟩
    | false =>
      simp only [cond_false]
      rcases bookAt_b g place n (i + 1) p (by omega) with e | e
      · exact Or.inl e
      · exact Or.inr ⟨e.1, by omega⟩
theorem Wf.rank {j : Int} : ∀ (n : Nat) {g : m_St} (rest : Int), Wf g → Wf (m_rankLoop j n g rest)
  | 0, _, _, h => h
  | n + 1, g, rest, h => by
    unfold m_rankLoop
    refine Wf.rank n _ ?_
    have R := bookAt_b g (rest.tmod 10) (g 0 0 4).toNat 0 0 (by decide)
    have bc := h.bc
    generalize m_bookAt g (rest.tmod 10) (g 0 0 4).toNat 0 0 = x at R ⊢
    obtain ⟨N, S, H, B, J, A, U⟩ := h
    refine ⟨N, S, H, B, J, ?_, U⟩
    intro i k i0 i1 k0 k1
    have X := A i k i0 i1 k0 k1
    refine ⟨X.1, X.2.1, X.2.2.1, X.2.2.2.1, ?_⟩
    have Y := X.2.2.2.2
    simp only [m_up]
    split <;> omega
theorem pcn_b (S : Int) : 0 ≤ m_pcn S ∧ m_pcn S ≤ 16 := ⟨cnt_nn _ _, cnt_le _ _⟩
theorem Wf.order {g : m_St} {j o : Int} (h : Wf g) : Wf (m_takeOrder g j o) := by
  have R := Wf.rank (j := j) (min 5 (m_pcn (g 0 0 13))).toNat o h
  have P := pcn_b (g 0 0 13)
  unfold m_takeOrder
  generalize m_rankLoop j (min 5 (m_pcn (g 0 0 13))).toNat g o = u at R ⊢
  obtain ⟨N, S, H, B, J, A, U⟩ := R
  refine ⟨N, S, H, B, ?_, A, U⟩
  intro k k0 k1
  have X := J k k0 k1
  by_cases q : k = j
  · subst q
    simp [m_up]
    omega
  · simp [m_up, q]
    omega
/-! a year ends -/
theorem Wf.clear {g : m_St} {j : Int} (h : Wf g) : Wf (m_clearYear j g) := by
  unfold m_clearYear m_clearRows
  have Y : Wf (m_up (m_up (m_up (m_up (m_up (m_up (m_up g 3 j 4 0) 3 j 7 0) 3 j 8 0) 3 j 9 0) 3 j 10 0) 3 j 12 0) 3 j 15 0) := by
    obtain ⟨N, S, H, B, J, A, U⟩ := h
    refine ⟨N, S, H, B, ?_, A, U⟩
    intro k k0 k1
    have X := J k k0 k1
    by_cases q : k = j
    · subst q
      simp [m_up]
      omega
    · simp [m_up, q]
      omega
  refine fo_ind (fun _ u => Wf u) Y (fun n u _ hu => ?_)
  obtain ⟨N, S, H, B, J, A, U⟩ := hu
  refine ⟨N, S, H, B, J, ?_, U⟩
  intro i k i0 i1 k0 k1
  have X := A i k i0 i1 k0 k1
  refine ⟨X.1, X.2.1, ?_, ?_, X.2.2.2.2⟩
  · simp [m_up]; split <;> omega
  · simp [m_up]; split <;> omega
theorem Wf.next {g : m_St} (h : Wf g) (hy : g 0 0 8 < 20) : Wf (m_next g) := by
  have W1 : Wf (m_next2 (m_next1 g)) := by
    obtain ⟨N, S, H, B, J, A, U⟩ := h
    have V := U 1 (by decide) (by decide)
    refine ⟨?_, ?_, H, B, J, A, ?_⟩
    · have e := N
      simp only [Wn] at e
      simp [m_next2, m_next1, m_setRules, m_up, Wn]
      omega
    · have e := S
      simp only [Ws] at e
      simp [m_next2, m_next1, m_setRules, m_up, Ws]
      omega
    · intro k k0 k1
      have X := U k k0 k1
      by_cases q : k = 0
      · subst q
        simp [m_next2, m_next1, m_setRules, m_up]
        omega
      · simp [m_next2, m_next1, m_setRules, m_up, q]
        omega
  unfold m_next
  refine fo_ind (fun _ u => Wf u) ?_ (fun n u _ hu => hu.clear)
  refine fo_ind (fun _ u => Wf u) W1 (fun n u _ hu => ?_)
  obtain ⟨N, S, H, B, J, A, U⟩ := hu
  refine ⟨N, S, ?_, B, J, A, U⟩
  intro k k0 k1
  have X := H k k0 k1
  simp [m_up]
  split <;> omega
end PWP
section PWC
/-- what a crate holds: books below B that are entered, each once; where each ends -/
def Cj (g : m_St) (j B : Int) : Prop := (∀ k, 0 ≤ k → k < g 3 j 7 → 0 ≤ g 4 j k ∧ g 4 j k < B ∧ m_ent g (g 4 j k) = true) ∧ (∀ k, 0 ≤ k → k + 1 < g 3 j 7 → g 4 j k < g 4 j (k + 1)) ∧ (∀ k, 0 ≤ k → k < g 3 j 7 → 0 < g 5 j k ∧ g 5 j k ≤ g 3 j 8) ∧ (∀ k, 0 ≤ k → k + 1 < g 3 j 7 → g 5 j k ≤ g 5 j (k + 1)) ∧ (0 < g 3 j 7 → g 5 j (g 3 j 7 - 1) = g 3 j 8) ∧ (g 3 j 7 = 0 → g 3 j 8 = 0)
/-- each book is in three crates at most -/
def C3 (g : m_St) (b : Int) : Prop := ∃ T : Int, 0 ≤ T ∧ m_pcn T ≤ 3 ∧ ∀ j k, 0 ≤ j → j < 5 → 0 ≤ k → k < g 3 j 7 → g 4 j k = b → m_has T j = true
theorem Cj.mono {g : m_St} {j B B' : Int} (h : Cj g j B) (hb : B ≤ B') : Cj g j B' :=
  ⟨fun k a b => ⟨(h.1 k a b).1, Int.lt_of_lt_of_le (h.1 k a b).2.1 hb, (h.1 k a b).2.2⟩, h.2⟩
theorem Cj.take {g : m_St} {j b p : Int} (h : Cj g j b) (hb : 0 ≤ b) (hc : 0 ≤ g 3 j 7) (he : m_ent g b = true) (hp : 0 < p) (h8 : 0 ≤ g 3 j 8) : Cj (m_takeIn g j b p) j (b + 1) := by
  obtain ⟨h1, h2, h3, h4, h5, h6⟩ := h
  have e7 : m_takeIn g j b p 3 j 7 = g 3 j 7 + 1 := by simp [m_takeIn, m_up]
  have e8 : m_takeIn g j b p 3 j 8 = g 3 j 8 + p := by simp [m_takeIn, m_up]
  have e4 : ∀ k, m_takeIn g j b p 4 j k = if k = g 3 j 7 then b else g 4 j k := fun k => by simp [m_takeIn, m_up]
  have e5 : ∀ k, m_takeIn g j b p 5 j k = if k = g 3 j 7 then g 3 j 8 + p else g 5 j k := fun k => by simp [m_takeIn, m_up]
  have ee : ∀ x, m_ent (m_takeIn g j b p) x = m_ent g x := fun x => by simp [m_ent, m_takeIn, m_up]
  simp only [Cj, e7, e8, e4, e5, ee]
  refine ⟨fun k a c => ?_, fun k a c => ?_, fun k a c => ?_, fun k a c => ?_, fun _ => ?_, fun q => ?_⟩
  · split
    · exact ⟨hb, by omega, he⟩
    · have := h1 k a (by omega); exact ⟨this.1, by omega, this.2.2⟩
  · rw [if_neg (by omega)]
    split
    · exact (h1 k a (by omega)).2.1
    · exact h2 k a (by omega)
  · split
    · omega
    · have := h3 k a (by omega); omega
  · rw [if_neg (by omega)]
    split
    · have := h3 k a (by omega); omega
    · exact h4 k a (by omega)
  · rw [if_pos (by omega)]
  · omega
theorem Cj.same {g g' : m_St} {j B : Int} (h : Cj g j B) (h3 : ∀ i, g' 3 j i = g 3 j i) (h4 : ∀ i, g' 4 j i = g 4 j i) (h5 : ∀ i, g' 5 j i = g 5 j i) (he : ∀ b, m_ent g' b = m_ent g b) : Cj g' j B := by
  simp only [Cj, h3, h4, h5, he]
  exact h
theorem light_in (g : m_St) (taken a : Int) (hj : 0 ≤ g 0 0 5) : m_lightest g taken a = -1 ∨ (0 ≤ m_lightest g taken a ∧ m_lightest g taken a < g 0 0 5 ∧ m_has taken (m_lightest g taken a) = false) := by
  have h := fo_ind (f := fun j l => bif !m_has taken j && (!m_agn g j a && (l == -1 || decide (g 3 j 8 < g 3 l 8))) then j else l) (a := (-1 : Int)) (N := (g 0 0 5).toNat) (fun n r => r = -1 ∨ (0 ≤ r ∧ r < (n : Int) ∧ m_has taken r = false)) (Or.inl rfl) (fun n x hn hx => by
    cases q : !m_has taken n && (!m_agn g n a && (x == -1 || decide (g 3 n 8 < g 3 x 8))) with
    | true =>
      have q1 := (Bool.and_eq_true _ _ ▸ q).1
      exact Or.inr ⟨Int.natCast_nonneg n, by simp only [cond_true]; omega, (Bool.not_eq_true' _).mp q1⟩
    | false =>
      simp only [cond_false]
      rcases hx with h | ⟨h1, h2, h3⟩
      · exact Or.inl h
      · exact Or.inr ⟨h1, by omega, h3⟩)
  rw [Int.toNat_of_nonneg hj] at h
  exact h
/-- as a book is handed out -/
def HO (g : m_St) (b : Int) (n : Nat) (u : m_St × Int) : Prop := Wf u.1 ∧ 0 ≤ u.2 ∧ m_pcn u.2 ≤ n ∧ (∀ j, m_has u.2 j = true → j < 5) ∧ (∀ (c : Nat) (k i : Int), c ≠ 3 → c ≠ 4 → c ≠ 5 → u.1 c k i = g c k i) ∧ (∀ j i, i ≠ 7 → i ≠ 8 → u.1 3 j i = g 3 j i) ∧ ∀ j, 0 ≤ j → j < 5 → Cj u.1 j (b + 1) ∧ (m_has u.2 j = false → (∀ c i, u.1 c j i = g c j i) ∧ Cj u.1 j b) ∧ u.1 3 j 7 ≤ b + 1 ∧ (∀ k, 0 ≤ k → k < g 3 j 7 → u.1 4 j k = g 4 j k) ∧ u.1 3 j 7 = g 3 j 7 + m_ib (m_has u.2 j) ∧ (m_has u.2 j = true → u.1 4 j (g 3 j 7) = b)
theorem take_k (g : m_St) (j b p : Int) (c : Nat) (k i : Int) (h : k ≠ j) : m_takeIn g j b p c k i = g c k i := by simp [m_takeIn, m_up, h]
theorem HO.step {g : m_St} {b : Int} (hb : 0 ≤ b ∧ b < 16) (he : m_ent g b = true) (hp : 0 < g 2 b 3) (hcc : ∀ j, 0 ≤ j → j < 5 → g 3 j 7 ≤ b) {n : Nat} {u : m_St × Int} {x : Int} (h : HO g b n u) : HO g b (n + 1) (m_handStep b x u) := by
  obtain ⟨hW, h0, h1, h2, h3, h8, h4⟩ := h
  unfold m_handStep
  split
  · exact ⟨hW, h0, by omega, h2, h3, h8, h4⟩
  · rename_i q
    have J := hW.jc
    rcases light_in u.1 u.2 (u.1 2 b 1) J.1 with e | ⟨e1, e2, e3⟩
    · exact absurd e q
    · generalize m_lightest u.1 u.2 (u.1 2 b 1) = l at e1 e2 e3 q ⊢
      have L := h4 l e1 (by omega)
      have LS := L.2.1 e3
      have l7 : u.1 3 l 7 = g 3 l 7 := LS.1 3 7
      have lc := hcc l e1 (by omega)
      have u2 : u.1 2 b 3 = g 2 b 3 := h3 2 b 3 (by decide) (by decide) (by decide)
      have eu : ∀ y, m_ent u.1 y = m_ent g y := fun y => by
        unfold m_ent
        rw [h3 2 y 7 (by decide) (by decide) (by decide), h3 0 0 8 (by decide) (by decide) (by decide)]
      have jn := (hW.2.2.2.2.1 l e1 (by omega))
      refine ⟨hW.take hb (fun _ _ => by omega) ⟨e1, by omega⟩, bo_nn _ _, ?_, fun j hj => ?_, fun c k i a b c' => ?_, fun j i a b => ?_, fun j a c => ?_⟩
      · have := pcn_le (k := l) e1 (by omega) h0
        simp only
        omega
      · rw [has_bo, has_bt e1] at hj
        cases q : m_has u.2 j with
        | true => exact h2 j q
        | false => rw [q] at hj; have := of_decide_eq_true hj; omega
      · simp only [m_takeIn, m_up, a, b, c', false_and, if_false]
        exact h3 c k i a b c'
      · have := h8 j i a b
        simp [m_takeIn, m_up, a, b]
        exact this
      · by_cases q : j = l
        · subst q
          refine ⟨Cj.take LS.2 hb.1 (by omega) ((eu b).trans he) (by omega) (by omega), fun z => ?_, ?_, fun k k0 k1 => ?_, ?_, fun _ => ?_⟩
          · rw [has_bo, has_bt e1, decide_eq_true rfl, Bool.or_true] at z; cases z
          · simp [m_takeIn, m_up]; omega
          · have : k ≠ u.1 3 j 7 := by omega
            simp [m_takeIn, m_up, this]
            exact LS.1 4 k
          · rw [has_bo, has_bt e1, decide_eq_true rfl, Bool.or_true]
            simp [m_takeIn, m_up, m_ib]
            omega
          · simp [m_takeIn, m_up, l7]
        · have X := h4 j a c
          have hs : ∀ (c : Nat) (i : Int), m_takeIn u.1 l b (u.1 2 b 3) c j i = u.1 c j i := fun c i => take_k _ _ _ _ c j i q
          have et : ∀ y, m_ent (m_takeIn u.1 l b (u.1 2 b 3)) y = m_ent u.1 y := fun y => by simp [m_ent, m_takeIn, m_up]
          have hh : m_has (m_bo u.2 (m_bt l)) j = m_has u.2 j := by rw [has_bo, has_bt e1, decide_eq_false q, Bool.or_false]
          simp only [hh]
          refine ⟨X.1.same (hs 3) (hs 4) (hs 5) et, fun z => ?_, ?_, fun k k0 k1 => ?_, ?_, fun z => ?_⟩
          · have Y := X.2.1 z
            exact ⟨fun c i => (hs c i).trans (Y.1 c i), Y.2.same (hs 3) (hs 4) (hs 5) et⟩
          · rw [hs]; exact X.2.2.1
          · rw [hs]; exact X.2.2.2.1 k k0 k1
          · rw [hs]; exact X.2.2.2.2.1
          · rw [hs]; exact X.2.2.2.2.2 z
theorem HO.all {g : m_St} {b : Int} (hW : Wf g) (hb : 0 ≤ b ∧ b < 16) (he : m_ent g b = true) (hp : 0 < g 2 b 3) (hC : ∀ j, 0 ≤ j → j < 5 → Cj g j b ∧ g 3 j 7 ≤ b) : HO g b 3 (m_handOut g b) := by
  refine fo_ind (f := m_handStep b) (a := (g, (0 : Int))) (N := 3) (HO g b) ?_ (fun n x _ h => h.step hb he hp (fun j a c => (hC j a c).2))
  refine ⟨hW, Int.le_refl _, (show m_pcn 0 ≤ 0 by decide), fun j h => ?_, fun _ _ _ _ _ _ => rfl, fun _ _ _ _ => rfl, fun j a c => ⟨(hC j a c).1.mono (by omega), fun _ => ⟨fun _ _ => rfl, (hC j a c).1⟩, ?_, fun _ _ _ => rfl, ?_, fun h => ?_⟩⟩
  · rw [has_z] at h; cases h
  · have := (hC j a c).2
    show g 3 j 7 ≤ b + 1
    omega
  · show g 3 j 7 = g 3 j 7 + m_ib (m_has 0 j)
    rw [has_z]; simp [m_ib]
  · rw [has_z] at h; cases h
/-- as the books are handed out one after another, those below n done -/
def RD (g : m_St) (n : Nat) (u : m_St × Int) : Prop := Wf u.1 ∧ (∀ (c : Nat) (k i : Int), c ≠ 3 → c ≠ 4 → c ≠ 5 → u.1 c k i = g c k i) ∧ (∀ j i, i ≠ 7 → i ≠ 8 → u.1 3 j i = g 3 j i) ∧ (∀ j, 0 ≤ j → j < 5 → Cj u.1 j n ∧ u.1 3 j 7 ≤ n) ∧ (∀ b, C3 u.1 b) ∧ 0 ≤ u.2 ∧ u.2 ≤ 3 * m_cnt (m_ent g) n
theorem RD.step {g : m_St} {n : Nat} {u : m_St × Int} (hn : (n : Int) < 16) (hp : 0 < g 2 n 3) (h : RD g n u) : RD g (n + 1) (m_readStep n u) := by
  obtain ⟨hW, h3, h8, hC, hT, g0, g1⟩ := h
  have en : m_ent u.1 n = m_ent g n := by
    unfold m_ent
    rw [h3 2 n 7 (by decide) (by decide) (by decide), h3 0 0 8 (by decide) (by decide) (by decide)]
  have ec : m_cnt (m_ent g) (n + 1) = m_cnt (m_ent g) n + m_ib (m_ent g n) := rfl
  unfold m_readStep
  rw [en, RD, ec]
  cases e : m_ent g n with
  | false =>
    simp only [cond_false, ib_f]
    exact ⟨hW, h3, h8, fun j a b => ⟨(hC j a b).1.mono (by omega), by have := (hC j a b).2; omega⟩, hT, g0, by omega⟩
  | true =>
    simp only [cond_true, ib_t]
    have u2 : u.1 2 n 3 = g 2 n 3 := h3 2 n 3 (by decide) (by decide) (by decide)
    have O := HO.all hW ⟨Int.natCast_nonneg n, hn⟩ (en.trans e) (by omega) hC
    obtain ⟨k1, k2, k3, k4, k5, k6, k7⟩ := O
    generalize m_handOut u.1 n = v at k1 k2 k3 k4 k5 k6 k7 ⊢
    have P := pcn_b v.2
    refine ⟨k1, fun c k i a b d => (k5 c k i a b d).trans (h3 c k i a b d), fun j i a b => (k6 j i a b).trans (h8 j i a b), fun j a b => ⟨by have := (k7 j a b).1; rwa [show ((n + 1 : Nat) : Int) = (n : Int) + 1 from by omega], by have := (k7 j a b).2.2.1; omega⟩, fun b => ?_, by omega, by omega⟩
    by_cases q : b = n
    · refine ⟨v.2, k2, by omega, fun j k a0 a1 b0 b1 e => ?_⟩
      cases t : m_has v.2 j with
      | true => rfl
      | false =>
        have X := ((k7 j a0 a1).2.1 t).2.1 k b0 b1
        omega
    · obtain ⟨T, t0, t1, t2⟩ := hT b
      refine ⟨T, t0, t1, fun j k a0 a1 b0 b1 e => ?_⟩
      have X := k7 j a0 a1
      by_cases z : k < u.1 3 j 7
      · exact t2 j k a0 a1 b0 z ((X.2.2.2.1 k b0 z).symm.trans e)
      · cases t : m_has v.2 j with
        | true =>
          rw [t, ib_t] at X
          have : k = u.1 3 j 7 := by omega
          rw [this, X.2.2.2.2.2 rfl] at e
          exact absurd e.symm q
        | false =>
          rw [t, ib_f] at X
          omega
theorem RD.all {g : m_St} (hW : Wf g) (h0 : ∀ j, 0 ≤ j → j < 5 → g 3 j 7 = 0) (hp : ∀ b, 0 ≤ b → b < g 0 0 4 → 0 < g 2 b 3) : ∀ n : Nat, (n : Int) ≤ g 0 0 4 → RD g n (m_fo m_readStep (g, 0) n)
  | 0, _ => ⟨hW, fun _ _ _ _ _ _ => rfl, fun _ _ _ _ => rfl, fun j a b => by
      have z := h0 j a b
      have w := (hW.2.2.2.2.1 j a b).2.2.2.2.2.2.1
      have e8 : g 3 j 8 = 0 := by omega
      refine ⟨⟨fun k a b => ?_, fun k a b => ?_, fun k a b => ?_, fun k a b => ?_, fun b => ?_, fun _ => e8⟩, ?_⟩
      all_goals (try dsimp only [m_fo] at *) <;> omega, fun b => ⟨0, Int.le_refl _, by decide, fun j k a0 a1 b0 b1 e => by
      have z := h0 j a0 a1
      dsimp only [m_fo] at *
      omega⟩, Int.le_refl _, Int.le_refl _⟩
  | n + 1, q => (RD.all hW h0 hp n (by omega)).step (by have := hW.bc; omega) (hp n (by omega) (by omega))
end PWC
section PMK
theorem Cj.lt {g : m_St} {j B : Int} (h : Cj g j B) : ∀ (d : Nat) (k : Int), 0 ≤ k → k + 1 + d < g 3 j 7 → g 4 j k < g 4 j (k + 1 + d)
  | 0, k, a, b => by
    have := h.2.1 k a (by omega)
    rwa [show k + 1 + ((0 : Nat) : Int) = k + 1 from by omega]
  | d + 1, k, a, b => by
    have e := Cj.lt h d k a (by omega)
    have e2 := h.2.1 (k + 1 + d) (by omega) (by omega)
    rw [show k + 1 + ((d + 1 : Nat) : Int) = k + 1 + d + 1 from by omega]
    omega
theorem Cj.inj {g : m_St} {j B k l : Int} (h : Cj g j B) (a : 0 ≤ k) (b : k < l) (c : l < g 3 j 7) : g 4 j k < g 4 j l := by
  have := h.lt (l - k - 1).toNat k a (by omega)
  rwa [show k + 1 + ((l - k - 1).toNat : Int) = l from by omega] at this
/-- what a judge has read: the books that ended, and their marks -/
def Mj0 (g : m_St) (j : Int) : Prop := (∀ k, 0 ≤ k → k < g 3 j 9 → g 5 j k ≤ g 3 j 10) ∧ (∀ b, 0 ≤ b → b < 16 → g 6 j b = -1 ∨ ∃ k, 0 ≤ k ∧ k < g 3 j 9 ∧ g 4 j k = b) ∧ (∀ k, 0 ≤ k → k < g 3 j 9 → 0 ≤ g 6 j (g 4 j k)) ∧ g 3 j 9 = m_cnt (fun b => g 6 j b != -1) 16 ∧ g 3 j 12 = m_sm (fun b => max 0 (g 6 j b)) 16
def Mj (g : m_St) (j : Int) : Prop := Mj0 g j ∧ (g 3 j 9 < g 3 j 7 → g 3 j 10 < g 5 j (g 3 j 9))
theorem markStep_3 (g : m_St) (j j' i : Int) (h : i ≠ 9 ∧ i ≠ 12) : m_markStep j g 3 j' i = g 3 j' i := by simp [m_markStep, m_up, h.1, h.2]
theorem markStep_c (g : m_St) (j : Int) (c : Nat) (k i : Int) (h : c ≠ 3) (h' : c ≠ 6) : m_markStep j g c k i = g c k i := by simp [m_markStep, m_up, h, h']
theorem markStep_k (g : m_St) (j : Int) (c : Nat) (k i : Int) (h : k ≠ j) : m_markStep j g c k i = g c k i := by simp [m_markStep, m_up, h]
theorem markLoop_3 {j j' i : Int} (h : i ≠ 9 ∧ i ≠ 12) : ∀ (n : Nat) (g : m_St), m_markLoop j n g 3 j' i = g 3 j' i
  | 0, _ => rfl
  | n + 1, g => by unfold m_markLoop; split; exact (markLoop_3 h n _).trans (markStep_3 g j j' i h); rfl
theorem markLoop_c {j : Int} {c : Nat} {k i : Int} (h : c ≠ 3) (h' : c ≠ 6) : ∀ (n : Nat) (g : m_St), m_markLoop j n g c k i = g c k i
  | 0, _ => rfl
  | n + 1, g => by unfold m_markLoop; split; exact (markLoop_c h h' n _).trans (markStep_c g j c k i h h'); rfl
theorem markLoop_k {j : Int} {c : Nat} {k i : Int} (h : k ≠ j) : ∀ (n : Nat) (g : m_St), m_markLoop j n g c k i = g c k i
  | 0, _ => rfl
  | n + 1, g => by unfold m_markLoop; split; exact (markLoop_k h n _).trans (markStep_k g j c k i h); rfl
theorem Mj0.step {g : m_St} {j B : Int} (hC : Cj g j B) (hB : B ≤ 16) (h : Mj0 g j) (hq : g 3 j 9 < g 3 j 7) (he : g 5 j (g 3 j 9) ≤ g 3 j 10) : Mj0 (m_markStep j g) j := by
  obtain ⟨h1, h3, h4, h5, h6⟩ := h
  have hb := cnt_nn (fun b => g 6 j b != -1) 16
  have h9 : 0 ≤ g 3 j 9 := by omega
  have X := hC.1 _ h9 hq
  have M : 0 ≤ m_markFor g j (g 4 j (g 3 j 9)) := by unfold m_markFor; omega
  have e9 : m_markStep j g 3 j 9 = g 3 j 9 + 1 := by simp [m_markStep, m_up]
  have e10 : m_markStep j g 3 j 10 = g 3 j 10 := by simp [m_markStep, m_up]
  have e12 : m_markStep j g 3 j 12 = g 3 j 12 + m_markFor g j (g 4 j (g 3 j 9)) := by simp [m_markStep, m_up]
  have e4 : ∀ k, m_markStep j g 4 j k = g 4 j k := fun k => by simp [m_markStep, m_up]
  have e5 : ∀ k, m_markStep j g 5 j k = g 5 j k := fun k => by simp [m_markStep, m_up]
  have e6 : ∀ k, m_markStep j g 6 j k = if k = g 4 j (g 3 j 9) then m_markFor g j (g 4 j (g 3 j 9)) else g 6 j k := fun k => by simp [m_markStep, m_up]
  have old : g 6 j (g 4 j (g 3 j 9)) = -1 := by
    rcases h3 _ X.1 (by omega) with e | ⟨k, k0, k1, k2⟩
    · exact e
    · have := hC.inj k0 k1 hq
      omega
  simp only [Mj0, e9, e10, e12, e4, e5, e6]
  generalize hb0 : g 4 j (g 3 j 9) = b0 at *
  generalize m_markFor g j b0 = m at M ⊢
  refine ⟨fun k a b => ?_, fun b a c => ?_, fun k a b => ?_, ?_, ?_⟩
  · by_cases q : k = g 3 j 9
    · rw [q]; exact he
    · exact h1 k a (by omega)
  · by_cases q : b = b0
    · exact Or.inr ⟨g 3 j 9, h9, by omega, by omega⟩
    · rw [if_neg q]
      rcases h3 b a c with e | ⟨k, k0, k1, k2⟩
      · exact Or.inl e
      · exact Or.inr ⟨k, k0, by omega, k2⟩
  · by_cases q : k = g 3 j 9
    · rw [q, hb0, if_pos rfl]; exact M
    · have Y := h4 k a (by omega)
      split
      · exact M
      · exact Y
  · have := sm_one (h := fun b => m_ib (g 6 j b != -1)) (h' := fun b => m_ib ((if b = b0 then m else g 6 j b) != -1)) (k := b0) (n := 16) X.1 (by omega) (fun i _ _ q => by simp [q])
    simp only [if_true, old] at this
    have q : (m != -1) = true := by simp; omega
    rw [q] at this
    show g 3 j 9 + 1 = m_sm (fun b => m_ib ((if b = b0 then m else g 6 j b) != -1)) 16
    have h5' : g 3 j 9 = m_sm (fun b => m_ib (g 6 j b != -1)) 16 := h5
    rw [this, ← h5']
    simp [m_ib]
  · have := sm_one (h := fun b => max 0 (g 6 j b)) (h' := fun b => max 0 (if b = b0 then m else g 6 j b)) (k := b0) (n := 16) X.1 (by omega) (fun i _ _ q => by simp [q])
    simp only [if_true, old] at this
    rw [this, h6]
    omega
theorem Mj.loop {j B : Int} (hB : B ≤ 16) : ∀ (n : Nat) {g : m_St}, Cj g j B → Mj0 g j → g 3 j 7 ≤ g 3 j 9 + n → Mj (m_markLoop j n g) j
  | 0, g, _, h, q => ⟨h, fun z => by simp only [m_markLoop] at z; omega⟩
  | n + 1, g, hC, h, q => by
    unfold m_markLoop
    split
    · rename_i z
      have hC' : Cj (m_markStep j g) j B := ⟨fun k a b => by
          rw [markStep_3 g j j 7 (by decide)] at b
          have e4 : ∀ k, m_markStep j g 4 j k = g 4 j k := fun k => by simp [m_markStep, m_up]
          have ee : ∀ x, m_ent (m_markStep j g) x = m_ent g x := fun x => by simp [m_ent, m_markStep, m_up]
          rw [e4, ee]; exact hC.1 k a b, by
          have e4 : ∀ k, m_markStep j g 4 j k = g 4 j k := fun k => by simp [m_markStep, m_up]
          have e5 : ∀ k, m_markStep j g 5 j k = g 5 j k := fun k => by simp [m_markStep, m_up]
          simp only [markStep_3 g j j 7 (by decide), markStep_3 g j j 8 (by decide), e4, e5]
          exact hC.2⟩
      refine Mj.loop hB n hC' (h.step hC hB z.1 z.2) ?_
      rw [markStep_3 g j j 7 (by decide), show m_markStep j g 3 j 9 = g 3 j 9 + 1 from by simp [m_markStep, m_up]]
      omega
    · rename_i z
      refine ⟨h, fun a => ?_⟩
      by_cases y : g 5 j (g 3 j 9) ≤ g 3 j 10
      · exact absurd ⟨a, y⟩ z
      · omega
end PMK
end
section
section PDY
theorem readJ_3 (g : m_St) (j j' i : Int) (h : i ≠ 9 ∧ i ≠ 12 ∧ i ≠ 10) : m_readJ g j 3 j' i = g 3 j' i := by
  unfold m_readJ
  rw [markLoop_3 ⟨h.1, h.2.1⟩]
  simp [m_up, h.2.2]
theorem readJ_k (g : m_St) (j : Int) (c : Nat) (k i : Int) (h : k ≠ j) : m_readJ g j c k i = g c k i := by
  unfold m_readJ
  rw [markLoop_k h]
  simp [m_up, h]
theorem readJ_10 (g : m_St) (j : Int) : m_readJ g j 3 j 10 = g 3 j 10 + min (m_pace (g 3 j 0) (g 3 j 10)) (m_pagesLeft g j) := by
  unfold m_readJ
  rw [markLoop_3 (by decide)]
  exact up_s _ _ _ _ _
theorem readJ_ent (g : m_St) (j b : Int) : m_ent (m_readJ g j) b = m_ent g b := by
  unfold m_ent
  rw [readJ_c j (by decide) (by decide), readJ_c j (by decide) (by decide)]
theorem Cj.readJ {g : m_St} {j j' B : Int} (h : Cj g j' B) : Cj (m_readJ g j) j' B := by
  have e7 := readJ_3 g j j' 7 (by decide)
  have e8 := readJ_3 g j j' 8 (by decide)
  have e4 : ∀ i, m_readJ g j 4 j' i = g 4 j' i := fun i => readJ_c j (by decide) (by decide) g
  have e5 : ∀ i, m_readJ g j 5 j' i = g 5 j' i := fun i => readJ_c j (by decide) (by decide) g
  simp only [Cj, e7, e8, e4, e5, readJ_ent]
  exact h
theorem Mj.readJ {g : m_St} {j B : Int} (hW : Wf g) (hj : 0 ≤ j ∧ j < 5) (hB : B ≤ 16) (hC : Cj g j B) (h : Mj g j) : Mj (m_readJ g j) j := by
  have J := hW.2.2.2.2.1 j hj.1 hj.2
  have P := pace_b J.1.2 J.2.2.2.2.2.2.2.2.1.1
  unfold m_readJ
  have e3 : ∀ (x i : Int), i ≠ 10 → m_up g 3 j 10 x 3 j i = g 3 j i := fun x i h => up_i _ _ _ _ _ _ _ h
  have ec : ∀ (x k i : Int) (c : Nat), c ≠ 3 → m_up g 3 j 10 x c k i = g c k i := fun x k i c h => up_c _ _ _ _ _ _ _ _ h
  refine Mj.loop (B := B) hB 16 ?_ ?_ ?_
  · simp only [Cj, m_ent, e3 _ 7 (by decide), e3 _ 8 (by decide), ec _ _ _ 4 (by decide), ec _ _ _ 5 (by decide), ec _ _ _ 2 (by decide), ec _ _ _ 0 (by decide)]
    exact hC
  · obtain ⟨h1, h3, h4, h5, h6⟩ := h.1
    simp only [Mj0, e3 _ 9 (by decide), e3 _ 12 (by decide), ec _ _ _ 4 (by decide), ec _ _ _ 5 (by decide), ec _ _ _ 6 (by decide), up_s]
    refine ⟨fun k a b => ?_, h3, h4, h5, h6⟩
    have := h1 k a b
    unfold m_pagesLeft
    omega
  · rw [e3 _ 7 (by decide), e3 _ 9 (by decide)]
    omega
theorem Mj.other {g : m_St} {j j' : Int} (hq : j' ≠ j) (h : Mj g j') : Mj (m_readJ g j) j' := by
  have e : ∀ c i, m_readJ g j c j' i = g c j' i := fun c i => readJ_k g j c j' i hq
  simp only [Mj, Mj0, e]
  exact h
/-! how many days until a crate is read -/
theorem dayLoop_d (sp cp : Int) : ∀ (n : Nat) (p d : Int), m_dayLoop sp cp n p d = d + m_dayLoop sp cp n p 0
  | 0, _, d => by unfold m_dayLoop; omega
  | n + 1, p, d => by
    unfold m_dayLoop
    split
    · rw [dayLoop_d sp cp n _ (d + 1), dayLoop_d sp cp n _ (0 + 1)]; omega
    · omega
theorem dayLoop_nn (sp cp : Int) : ∀ (n : Nat) (p : Int), 0 ≤ m_dayLoop sp cp n p 0
  | 0, _ => Int.le_refl _
  | n + 1, p => by
    unfold m_dayLoop
    split
    · rw [dayLoop_d]; have := dayLoop_nn sp cp n (p + m_pace sp p); omega
    · omega
theorem dayLoop_done (sp cp : Int) {p : Int} (h : cp ≤ p) (d : Int) : ∀ n : Nat, m_dayLoop sp cp n p d = d
  | 0 => rfl
  | n + 1 => by unfold m_dayLoop; rw [if_neg (by omega)]
theorem pace_10 (sp p : Int) : 10 ≤ m_pace sp p := by unfold m_pace; omega
theorem dayLoop_more (sp cp : Int) : ∀ (n m : Nat) (p : Int), cp - p ≤ 10 * n → n ≤ m → m_dayLoop sp cp m p 0 = m_dayLoop sp cp n p 0
  | 0, m, p, h, _ => by rw [dayLoop_done sp cp (by omega), dayLoop_done sp cp (by omega)]
  | n + 1, 0, p, h, q => absurd q (by omega)
  | n + 1, m + 1, p, h, q => by
    have P := pace_10 sp p
    unfold m_dayLoop
    split
    · rw [dayLoop_d sp cp m, dayLoop_d sp cp n, dayLoop_more sp cp n m _ (by omega) (by omega)]
    · rfl
theorem dayLoop_step (sp cp p : Int) (h : p ≤ cp) (h0 : cp - p ≤ 90000) : m_dayLoop sp cp 10000 (p + min (m_pace sp p) (cp - p)) 0 = max 0 (m_dayLoop sp cp 10000 p 0 - 1) := by
  have P := pace_10 sp p
  by_cases q : p < cp
  · have e : m_dayLoop sp cp 10000 p 0 = 1 + m_dayLoop sp cp 9999 (p + m_pace sp p) 0 := by
      rw [show (10000 : Nat) = 9999 + 1 from rfl, m_dayLoop, if_pos q, dayLoop_d]; rfl
    have N := dayLoop_nn sp cp 9999 (p + m_pace sp p)
    rw [e]
    by_cases z : p + m_pace sp p ≤ cp
    · rw [show min (m_pace sp p) (cp - p) = m_pace sp p from by omega, dayLoop_more sp cp 9999 10000 _ (by omega) (by omega)]
      omega
    · rw [show p + min (m_pace sp p) (cp - p) = cp from by omega, dayLoop_done sp cp (Int.le_refl _), dayLoop_done sp cp (by omega)]
      rfl
  · rw [dayLoop_done sp cp (by omega), dayLoop_done sp cp (by omega)]
    rfl
theorem dayLoop_0 (sp cp p : Int) (h : p < cp) : 0 < m_dayLoop sp cp 10000 p 0 := by
  rw [show (10000 : Nat) = 9999 + 1 from rfl, m_dayLoop, if_pos h, dayLoop_d]
  have := dayLoop_nn sp cp 9999 (p + m_pace sp p)
  omega
theorem days_step {g : m_St} {j : Int} (h : g 3 j 10 ≤ g 3 j 8) (h0 : g 3 j 8 - g 3 j 10 ≤ 90000) : m_daysLeft (m_readJ g j) j = max 0 (m_daysLeft g j - 1) := by
  unfold m_daysLeft
  rw [readJ_3 g j j 0 (by decide), readJ_3 g j j 8 (by decide), readJ_10]
  exact dayLoop_step _ _ _ h h0
theorem days_other {g : m_St} {j j' : Int} (h : j' ≠ j) : m_daysLeft (m_readJ g j) j' = m_daysLeft g j' := by
  unfold m_daysLeft
  simp only [readJ_k g j 3 j' _ h]
theorem days_nn (g : m_St) (j : Int) : 0 ≤ m_daysLeft g j := dayLoop_nn _ _ _ _
/-! the greatest of some numbers -/
def mxs (f : Int → Int) (n : Nat) : Int := m_fo (fun j d => max d (f j)) 0 n
theorem mxs_pred {f f' : Int → Int} : ∀ {n : Nat}, (∀ j : Int, 0 ≤ j → j < n → f' j = max 0 (f j - 1)) → mxs f' n = max 0 (mxs f n - 1)
  | 0, _ => rfl
  | n + 1, h => by
    have a := mxs_pred (n := n) (fun j a b => h j a (by omega))
    have b := h n (by omega) (by omega)
    show max (mxs f' n) (f' n) = max 0 (max (mxs f n) (f n) - 1)
    rw [a, b]; omega
theorem mxs_nn (f : Int → Int) : ∀ n : Nat, 0 ≤ mxs f n
  | 0 => Int.le_refl _
  | n + 1 => by have := mxs_nn f n; show 0 ≤ max (mxs f n) (f n); omega
theorem mxs_0 {f : Int → Int} : ∀ {n : Nat}, mxs f n ≤ 0 → ∀ j : Int, 0 ≤ j → j < n → f j ≤ 0
  | 0, _, j, a, b => by omega
  | n + 1, h, j, a, b => by
    have h' : max (mxs f n) (f n) ≤ 0 := h
    by_cases q : j = n
    · rw [q]; omega
    · exact mxs_0 (n := n) (by omega) j a (by omega)
/-! a day -/
theorem readDays_k {g : m_St} : ∀ (n : Nat) (c : Nat) (k i : Int), (n : Int) ≤ k ∨ k < 0 → m_fo (fun j u => m_readJ u j) g n c k i = g c k i
  | 0, _, _, _, _ => rfl
  | n + 1, c, k, i, h => (readJ_k _ _ c k i (by omega)).trans (readDays_k n c k i (by omega))
theorem readDays_at {g : m_St} : ∀ (n : Nat) (j : Int), 0 ≤ j → j < n → ∃ u : m_St, (∀ c i, u c j i = g c j i) ∧ (∀ (c : Nat) (k i : Int), c ≠ 3 → c ≠ 6 → u c k i = g c k i) ∧ ∀ c i, m_fo (fun j u => m_readJ u j) g n c j i = m_readJ u j c j i
  | 0, j, a, b => by omega
  | n + 1, j, a, b => by
    by_cases q : j = n
    · subst q
      refine ⟨m_fo (fun j u => m_readJ u j) g n, fun c i => readDays_k n c n i (Or.inl (Int.le_refl _)), fun c k i h h' => ?_, fun c i => rfl⟩
      have : ∀ m : Nat, m_fo (fun j u => m_readJ u j) g m c k i = g c k i := fun m => by
        induction m with
        | zero => rfl
        | succ m ih => exact (readJ_c _ h h' _).trans ih
      exact this n
    · obtain ⟨u, u1, u2, u3⟩ := readDays_at (g := g) n j a (by omega)
      exact ⟨u, u1, u2, fun c i => (readJ_k _ _ c j i q).trans (u3 c i)⟩
end PDY
section PRD
def Rj (g : m_St) : Prop := ∀ j, 0 ≤ j → j < 5 → Cj g j (g 0 0 4) ∧ Mj g j
theorem Rj.readJ {g : m_St} {j : Int} (hW : Wf g) (hj : 0 ≤ j ∧ j < 5) (h : Rj g) : Rj (m_readJ g j) := by
  intro j' a b
  have H := h j' a b
  have bc : m_readJ g j 0 0 4 = g 0 0 4 := readJ_c j (by decide) (by decide) g
  rw [bc]
  refine ⟨H.1.readJ, ?_⟩
  by_cases q : j' = j
  · subst q; exact H.2.readJ hW hj hW.bc.2 H.1
  · exact H.2.other q
theorem Rj.days {g : m_St} (hW : Wf g) (h : Rj g) : ∀ n : Nat, (n : Int) ≤ g 0 0 5 → Rj (m_fo (fun j u => m_readJ u j) g n)
  | 0, _ => h
  | n + 1, q => (Rj.days hW h n (by omega)).readJ (hW.readDays n (by omega)).1 ⟨by omega, by have := hW.jc; omega⟩
theorem Rj.day {g : m_St} (hW : Wf g) (h : Rj g) : Rj (m_readDay g) := by
  unfold m_readDay
  split
  · exact h.days hW _ (by have := hW.jc; omega)
  · exact h
/-- what a day does to each judge that there is -/
def Day (g u : m_St) : Prop := (∀ (c : Nat) (k i : Int), c ≠ 3 → c ≠ 6 → u c k i = g c k i) ∧ (∀ j i, i ≠ 9 → i ≠ 12 → i ≠ 10 → u 3 j i = g 3 j i) ∧ ∀ j, 0 ≤ j → j < g 0 0 5 → m_daysLeft u j = (if g 0 0 9 = 1 then max 0 (m_daysLeft g j - 1) else m_daysLeft g j) ∧ g 3 j 10 ≤ u 3 j 10 ∧ u 3 j 10 ≤ g 3 j 10 + max 10 (g 3 j 0)
theorem day_of {g : m_St} (hW : Wf g) : Day g (m_readDay g) := by
  have D := hW.readDay
  refine ⟨D.2, fun j i a b c => ?_, fun j a b => ?_⟩
  · unfold m_readDay
    split
    · have : ∀ m : Nat, m_fo (fun j u => m_readJ u j) g m 3 j i = g 3 j i := fun m => by
        induction m with
        | zero => rfl
        | succ m ih => exact (readJ_3 _ _ _ _ ⟨a, b, c⟩).trans ih
      exact this _
    · rfl
  · have J := hW.jc
    have X := hW.2.2.2.2.1 j a (by omega)
    unfold m_readDay
    split
    · obtain ⟨u, u1, u2, u3⟩ := readDays_at (g := g) (g 0 0 5).toNat j a (by omega)
      have ed : m_daysLeft (m_fo (fun j u => m_readJ u j) g (g 0 0 5).toNat) j = m_daysLeft (m_readJ u j) j := by unfold m_daysLeft; rw [u3 3 0, u3 3 8, u3 3 10]
      have ed' : m_daysLeft u j = m_daysLeft g j := by unfold m_daysLeft; rw [u1, u1, u1]
      have S := days_step (g := u) (j := j) (by rw [u1, u1]; omega) (by rw [u1, u1]; omega)
      have P : 0 ≤ m_pace (u 3 j 0) (u 3 j 10) ∧ m_pace (u 3 j 0) (u 3 j 10) ≤ max 10 (g 3 j 0) := by
        rw [u1, u1]
        unfold m_pace
        have : 0 ≤ (g 3 j 10).tdiv 500 := Int.tdiv_nonneg (by omega) (by decide)
        omega
      rw [ed, S, ed', u3, readJ_10]
      refine ⟨rfl, ?_, ?_⟩
      · have e := u1 3 10
        unfold m_pagesLeft
        have e8 := u1 3 8
        omega
      · have e := u1 3 10
        omega
    · exact ⟨rfl, by omega, by omega⟩
theorem days_of {g : m_St} (hW : Wf g) (hR : Rj g) : ∀ n : Nat, Wf (m_fo (fun _ u => m_readDay u) g n) ∧ Rj (m_fo (fun _ u => m_readDay u) g n) ∧ (∀ (c : Nat) (k i : Int), c ≠ 3 → c ≠ 6 → m_fo (fun _ u => m_readDay u) g n c k i = g c k i) ∧ (∀ j i, i ≠ 9 → i ≠ 12 → i ≠ 10 → m_fo (fun _ u => m_readDay u) g n 3 j i = g 3 j i) ∧ ∀ j, 0 ≤ j → j < g 0 0 5 → m_daysLeft (m_fo (fun _ u => m_readDay u) g n) j = (if g 0 0 9 = 1 then max 0 (m_daysLeft g j - n) else m_daysLeft g j) ∧ g 3 j 10 ≤ m_fo (fun _ u => m_readDay u) g n 3 j 10 ∧ m_fo (fun _ u => m_readDay u) g n 3 j 10 ≤ g 3 j 10 + n * max 10 (g 3 j 0)
  | 0 => ⟨hW, hR, fun _ _ _ _ _ => rfl, fun _ _ _ _ _ => rfl, fun j a b => ⟨by
      have := days_nn g j
      show m_daysLeft g j = _
      split
      · rw [show ((0 : Nat) : Int) = 0 from rfl]; omega
      · rfl, Int.le_refl _, by show g 3 j 10 ≤ _; simp⟩⟩
  | n + 1 => by
    obtain ⟨h1, h2, h3, h4, h5⟩ := days_of hW hR n
    generalize hv : m_fo (fun _ u => m_readDay u) g n = v at h1 h2 h3 h4 h5
    have e : m_fo (fun _ u => m_readDay u) g (n + 1) = m_readDay v := by rw [← hv]; rfl
    rw [e]
    obtain ⟨d1, d2, d3⟩ := day_of h1
    have ej := h3 0 0 5 (by decide) (by decide)
    have ep := h3 0 0 9 (by decide) (by decide)
    refine ⟨h1.readDay.1, h2.day h1, fun c k i a b => (d1 c k i a b).trans (h3 c k i a b), fun j i a b c => (d2 j i a b c).trans (h4 j i a b c), fun j a b => ?_⟩
    have X := d3 j a (by omega)
    have Y := h5 j a b
    have e0 := h4 j 0 (by decide) (by decide) (by decide)
    rw [ep] at X
    rw [X.1, Y.1]
    refine ⟨?_, by omega, ?_⟩
    · split
      · rw [show ((n + 1 : Nat) : Int) = (n : Int) + 1 from by omega]; omega
      · rfl
    · have : ((n + 1 : Nat) : Int) * max 10 (g 3 j 0) = n * max 10 (g 3 j 0) + max 10 (g 3 j 0) := by rw [show ((n + 1 : Nat) : Int) = (n : Int) + 1 from by omega, Int.add_mul, Int.one_mul]
      rw [this]
      have Z := X.2.2
      rw [e0] at Z
      omega
theorem readIn_mxs (g : m_St) : m_readIn g = if g 0 0 9 = 1 then mxs (m_daysLeft g) (g 0 0 5).toNat else -1 := rfl
theorem mxs_sub {f f' : Int → Int} {d : Int} (hd : 0 ≤ d) : ∀ {n : Nat}, (∀ j : Int, 0 ≤ j → j < n → f' j = max 0 (f j - d)) → mxs f' n = max 0 (mxs f n - d)
  | 0, _ => by show (0 : Int) = max 0 (0 - d); omega
  | n + 1, h => by
    have a := mxs_sub hd (n := n) (fun j a b => h j a (by omega))
    have b := h n (by omega) (by omega)
    show max (mxs f' n) (f' n) = max 0 (max (mxs f n) (f n) - d)
    rw [a, b]; omega
theorem mxs_congr {f f' : Int → Int} : ∀ {n : Nat}, (∀ j : Int, 0 ≤ j → j < n → f' j = f j) → mxs f' n = mxs f n
  | 0, _ => rfl
  | n + 1, h => by
    have a := mxs_congr (n := n) (fun j a b => h j a (by omega))
    have b := h n (by omega) (by omega)
    show max (mxs f' n) (f' n) = max (mxs f n) (f n)
    rw [a, b]
/-- days until all is read go down by days -/
theorem readIn_pass {g : m_St} {n : Int} (hW : Wf g) (hR : Rj g) (hn : 0 ≤ n) : m_readIn (m_pass g n) = if g 0 0 9 = 1 then max 0 (m_readIn g - n) else -1 := by
  obtain ⟨h1, h2, h3, h4, h5⟩ := days_of hW hR n.toNat
  have bc := h1.bc
  have S := Wf.sells (d := n) h1 hn (m_passDays g n 0 0 4).toNat (by unfold m_passDays; omega)
  have e9 : m_pass g n 0 0 9 = g 0 0 9 := by
    show m_up _ 0 0 10 _ 0 0 9 = _
    rw [up_i _ _ _ _ _ _ _ (by decide)]
    exact (S.2.1 0 0 9 (by decide) (by decide)).trans (h3 0 0 9 (by decide) (by decide))
  have e5 : m_pass g n 0 0 5 = g 0 0 5 := by
    show m_up _ 0 0 10 _ 0 0 5 = _
    rw [up_i _ _ _ _ _ _ _ (by decide)]
    exact (S.2.1 0 0 5 (by decide) (by decide)).trans (h3 0 0 5 (by decide) (by decide))
  have e3 : ∀ j i, m_pass g n 3 j i = m_fo (fun _ u => m_readDay u) g n.toNat 3 j i := fun j i => by
    show m_up _ 0 0 10 _ 3 j i = _
    rw [up_c _ _ _ _ _ _ _ _ (by decide)]
    exact S.2.1 3 j i (by decide) (by decide)
  have ed : ∀ j, m_daysLeft (m_pass g n) j = m_daysLeft (m_fo (fun _ u => m_readDay u) g n.toNat) j := fun j => by unfold m_daysLeft; simp only [e3]
  rw [readIn_mxs, readIn_mxs, e9, e5]
  split
  · rename_i q
    have J := hW.jc
    refine mxs_sub hn (fun j a b => ?_)
    rw [ed, (h5 j a (by omega)).1, if_pos q, Int.toNat_of_nonneg hn]
  · rfl
end PRD
section PIN
/-! what holds at the end of every turn -/
def InvN (H J t : Int) (g : m_St) : Prop := g 0 0 3 = H ∧ g 0 0 5 = J ∧ 5 * g 0 0 8 + g 0 0 9 ≤ t ∧ g 0 0 10 ≤ 6 * t
def InvS (g : m_St) : Prop := (∀ b, m_has (g 0 0 11) b = true → b < g 0 0 4 ∧ m_ent g b = true) ∧ (∀ b, m_has (g 0 0 13) b = true → m_has (g 0 0 11) b = true) ∧ (g 0 0 14 = -1 ∨ (m_has (g 0 0 13) (g 0 0 14) = true ∧ m_has (g 0 0 17) (g 0 0 14) = false)) ∧ (g 0 0 9 < 2 → g 0 0 11 = 0) ∧ (g 0 0 9 < 3 → g 0 0 13 = 0) ∧ (g 0 0 9 < 4 → g 0 0 14 = -1) ∧ m_pcn (g 0 0 13) ≤ 5 ∧ (∀ h, m_coh g h (g 0 0 11) ≤ 2) ∧ (∀ b, m_has (g 0 0 12) b = true → b < g 0 0 4) ∧ (∀ b, m_has (g 0 0 17) b = true → b < g 0 0 4 ∧ 0 ≤ g 2 b 7 ∧ (g 2 b 7 = g 0 0 8 → g 0 0 9 = 4))
def InvB (H t : Int) (g : m_St) : Prop := (∀ b, 0 ≤ b → b < g 0 0 4 → g 2 b 0 < H ∧ 60 ≤ g 2 b 3 ∧ g 2 b 7 ≤ g 0 0 8 ∧ g 2 b 8 ≤ 90 * t) ∧ ∀ b, g 0 0 4 ≤ b → b < 16 → g 2 b 7 = -1 ∧ g 2 b 8 = 0 ∧ g 2 b 9 = 0 ∧ g 2 b 10 = 0
def InvJ (J : Int) (g : m_St) : Prop := (∀ j, 0 ≤ j → j < J → 40 ≤ g 3 j 0) ∧ (∀ j, 0 ≤ j → j < 5 → (g 0 0 9 = 0 → g 3 j 7 = 0) ∧ (g 0 0 9 < 3 → g 3 j 15 = 0) ∧ m_sm (fun b => g 7 j b) 16 ≤ 12)
def used (g : m_St) (H : Int) : Int := m_sm (fun h => g 1 h 1) H.toNat
def coins (g : m_St) (H : Int) : Int := m_sm (fun h => g 1 h 0) H.toNat
def stockAll (g : m_St) : Int := m_sm (fun b => g 2 b 8) (g 0 0 4).toNat
def InvQ (H paid printed called : Int) (g : m_St) : Prop := coins g H = 100 * H - paid + m_soldEver g ∧ printed = stockAll g + m_soldEver g ∧ m_entCount g = used g H + called ∧ ∀ h, 0 ≤ h → h < H → g 1 h 1 ≤ m_quota g h
def Iv (H J t paid printed called : Int) (g : m_St) : Prop := Wf g ∧ Rj g ∧ (∀ b, C3 g b) ∧ InvN H J t g ∧ InvS g ∧ InvB H t g ∧ InvJ J g ∧ InvQ H paid printed called g
/-! a conflict, rules: nothing that is looked at changes -/
theorem C3.same {g g' : m_St} (h7 : ∀ j, g' 3 j 7 = g 3 j 7) (h4 : ∀ j k, g' 4 j k = g 4 j k) {b : Int} (h : C3 g b) : C3 g' b := by
  obtain ⟨T, t0, t1, t2⟩ := h
  exact ⟨T, t0, t1, fun j k a0 a1 b0 b1 e => t2 j k a0 a1 b0 (by rw [← h7]; exact b1) (by rw [← h4]; exact e)⟩
theorem Rj.same {g g' : m_St} (h : Rj g) (h3 : ∀ j i, i = 7 ∨ i = 8 ∨ i = 9 ∨ i = 10 ∨ i = 12 → g' 3 j i = g 3 j i) (h4 : ∀ j i, g' 4 j i = g 4 j i) (h5 : ∀ j i, g' 5 j i = g 5 j i) (h6 : ∀ j i, g' 6 j i = g 6 j i) (he : ∀ b, 0 ≤ b → b < g 0 0 4 → m_ent g b = true → m_ent g' b = true) (hb : g 0 0 4 ≤ g' 0 0 4) : Rj g' := by
  intro j a b
  obtain ⟨C, M⟩ := h j a b
  have e7 := h3 j 7 (by simp)
  have e8 := h3 j 8 (by simp)
  have e9 := h3 j 9 (by simp)
  have e10 := h3 j 10 (by simp)
  have e12 := h3 j 12 (by simp)
  refine ⟨?_, ?_⟩
  · simp only [Cj, e7, e8, h4, h5]
    exact ⟨fun k k0 k1 => by have X := C.1 k k0 k1; exact ⟨X.1, by omega, he _ X.1 X.2.1 X.2.2⟩, C.2⟩
  · simp only [Mj, Mj0, e7, e9, e10, e12, h4, h5, h6]
    exact M
theorem inv_conflict {H J t p q c j a : Int} {g : m_St} (h : Iv H J t p q c g) (ha : 0 ≤ a ∧ a ≤ 9) : Iv H J t p q c (m_conflict g j a) := by
  obtain ⟨W, R, C, N, S, B, K, Q⟩ := h
  have e3 : ∀ j' i, i ≠ 3 → m_conflict g j a 3 j' i = g 3 j' i := fun j' i h => up_i _ _ _ _ _ _ _ h
  refine ⟨W.conflict ha, R.same (fun j' i h => e3 j' i (by omega)) (fun _ _ => rfl) (fun _ _ => rfl) (fun _ _ => rfl) (fun _ _ _ h => h) (Int.le_refl _), fun b => (C b).same (fun j' => e3 j' 7 (by decide)) (fun _ _ => rfl), N, S, B, ?_, Q⟩
  refine ⟨fun j' x y => ?_, fun j' x y => ?_⟩
  · rw [e3 _ _ (by decide)]; exact K.1 j' x y
  · rw [e3 _ 7 (by decide), e3 _ 15 (by decide)]; exact K.2 j' x y
theorem inv_rules {H J t p q c f l m e : Int} {g : m_St} (h : Iv H J t p q c g) (h0 : 0 ≤ f ∧ f ≤ 7) (h1 : 0 ≤ l ∧ l ≤ 900) (h2 : 0 ≤ m ∧ m ≤ 900) (h3 : 0 ≤ e ∧ e ≤ 50) : Iv H J t p q c (m_setRules g 1 f l m e) := by
  obtain ⟨W, R, C, N, S, B, K, Q⟩ := h
  exact ⟨W.rules h0 h1 h2 h3, R, C, N, S, B, K, Q⟩
theorem inv_later {H J t p q c : Int} {g : m_St} (h : Iv H J t p q c g) : Iv H J (t + 1) p q c g := by
  obtain ⟨W, R, C, N, S, B, K, Q⟩ := h
  obtain ⟨n1, n2, n3, n4⟩ := N
  exact ⟨W, R, C, ⟨n1, n2, by omega, by omega⟩, S, ⟨fun b x y => by have := B.1 b x y; exact ⟨this.1, this.2.1, this.2.2.1, by omega⟩, B.2⟩, K, Q⟩
/-! copies are printed -/
theorem inv_print {H J t p q c b' n : Int} {g : m_St} (h : Iv H J t p q c g) (hb : 0 ≤ b' ∧ b' < g 0 0 4) (hn : 0 ≤ n ∧ n ≤ 90) (ht : t < 90) : Iv H J (t + 1) p (q + n) c (m_print g b' n) ∧ m_print g b' n 2 b' 8 = g 2 b' 8 + n := by
  obtain ⟨W, R, C, N, S, B, K, Q⟩ := h
  have X := B.1 b' hb.1 hb.2
  have e8 : m_print g b' n = m_up g 2 b' 8 (g 2 b' 8 + n) := by unfold m_print; rw [show min 9999 (g 2 b' 8 + n) = g 2 b' 8 + n from by omega]
  have ei : ∀ k i, i ≠ 8 → m_print g b' n 2 k i = g 2 k i := fun k i h => up_i _ _ _ _ _ _ _ h
  have ee : ∀ x, m_ent (m_print g b' n) x = m_ent g x := fun x => by unfold m_ent; rw [ei _ _ (by decide)]; rfl
  have ec : ∀ h S, m_coh (m_print g b' n) h S = m_coh g h S := fun h S => by unfold m_coh; simp only [ei _ 0 (by decide)]; rfl
  obtain ⟨n1, n2, n3, n4⟩ := N
  have es : m_soldEver (m_print g b' n) = m_soldEver g := by unfold m_soldEver; simp only [ei _ 9 (by decide)]; rfl
  refine ⟨⟨W.print hn.1, R.same (fun _ _ _ => rfl) (fun _ _ => rfl) (fun _ _ => rfl) (fun _ _ => rfl) (fun x _ _ h => (ee x).trans h) (Int.le_refl _), fun b => (C b).same (fun _ => rfl) (fun _ _ => rfl), ⟨n1, n2, by show 5 * g 0 0 8 + g 0 0 9 ≤ t + 1; omega, by show g 0 0 10 ≤ 6 * (t + 1); omega⟩, ?_, ⟨fun b x y => ?_, fun b x y => ?_⟩, K, ?_⟩, ?_⟩
  · obtain ⟨s1, s2, s3, s4, s5, s6, s7, s8, s9, s10⟩ := S
    exact ⟨fun b h => by rw [ee]; exact s1 b h, s2, s3, s4, s5, s6, s7, fun h => by rw [ec]; exact s8 h, s9, fun b h => by rw [ei _ 7 (by decide)]; exact s10 b h⟩
  · have Y := B.1 b x y
    rw [ei _ 0 (by decide), ei _ 3 (by decide), ei _ 7 (by decide)]
    refine ⟨Y.1, Y.2.1, Y.2.2.1, ?_⟩
    rw [e8]
    simp only [m_up]
    split <;> omega
  · have Y := B.2 b x y
    have q' : b ≠ b' := by have : m_print g b' n 0 0 4 = g 0 0 4 := rfl; omega
    rw [ei _ 7 (by decide), ei _ 9 (by decide), ei _ 10 (by decide), e8, up_k _ _ _ _ _ _ _ q']
    exact Y
  · obtain ⟨q1, q2, q3, q4⟩ := Q
    refine ⟨by rw [es]; exact q1, ?_, ?_, fun h x y => ?_⟩
    · have Z := sm_one (h := fun b => g 2 b 8) (h' := fun b => m_print g b' n 2 b 8) (n := (g 0 0 4).toNat) (k := b') hb.1 (by omega) (fun i _ _ z => by rw [e8, up_k _ _ _ _ _ _ _ z])
      have e0 : stockAll (m_print g b' n) = m_sm (fun b => m_print g b' n 2 b 8) (g 0 0 4).toNat := rfl
      have e1 : stockAll g = m_sm (fun b => g 2 b 8) (g 0 0 4).toNat := rfl
      have e2 : m_print g b' n 2 b' 8 = g 2 b' 8 + n := by rw [e8, up_s]
      rw [es]; omega
    · rw [show m_entCount (m_print g b' n) = m_entCount g from by unfold m_entCount; simp only [funext ee]; rfl]; exact q3
    · rw [show m_quota (m_print g b' n) h = m_quota g h from by unfold m_quota; rw [ec]; rfl]; exact q4 h x y
  · rw [e8, up_s]
end PIN
section PTO
theorem book_c (g : m_St) (h a f p m l : Int) (c : Nat) (k i : Int) (hc : c ≠ 0) (h2 : c ≠ 2) : m_book g h a f p m l c k i = g c k i := by simp [m_book, m_describeB, m_up, hc, h2]
theorem book_0 (g : m_St) (h a f p m l : Int) (i : Int) (hi : i ≠ 4) : m_book g h a f p m l 0 0 i = g 0 0 i := by simp [m_book, m_describeB, m_up, hi]
theorem book_4 (g : m_St) (h a f p m l : Int) : m_book g h a f p m l 0 0 4 = g 0 0 4 + 1 := by simp [m_book, m_up]
theorem book_k (g : m_St) (h a f p m l : Int) (k i : Int) (hk : k ≠ g 0 0 4) : m_book g h a f p m l 2 k i = g 2 k i := by simp [m_book, m_describeB, m_up, hk]
theorem book_i (g : m_St) (h a f p m l : Int) (k i : Int) (hi : 7 ≤ i) : m_book g h a f p m l 2 k i = g 2 k i := by
  have e0 : i ≠ 0 := by omega
  have e1 : i ≠ 1 := by omega
  have e2 : i ≠ 2 := by omega
  have e3 : i ≠ 3 := by omega
  have e4 : i ≠ 4 := by omega
  have e5 : i ≠ 5 := by omega
  have e6 : i ≠ 6 := by omega
  simp [m_book, m_describeB, m_up, e0, e1, e2, e3, e4, e5, e6]
theorem tn1 {b : Int} (h : 0 ≤ b) : (b + 1).toNat = b.toNat + 1 := by omega
theorem ent_old {g : m_St} (W : Wf g) {b : Int} (h : g 2 b 7 = -1) : m_ent g b = false := by
  have := W.1.2.2.2.1
  unfold m_ent
  rw [h]
  simp
  omega
theorem inv_book {H J t p q c hs a f pg m l : Int} {g : m_St} (h : Iv H J t p q c g) (hH : H ≤ 5) (hc : g 0 0 4 < 16) (h0 : 0 ≤ hs ∧ hs < H) (h1 : 0 ≤ a ∧ a ≤ 9) (h2 : 0 ≤ f ∧ f ≤ 2) (h3 : 60 ≤ pg ∧ pg ≤ 259) (h4 : 0 ≤ m ∧ m ≤ 60) (h5 : 0 ≤ l ∧ l ≤ 9) : Iv H J t p q c (m_book g hs a f pg m l) ∧ ∀ j, 0 ≤ j → j < 5 → m_book g hs a f pg m l 6 j (g 0 0 4) = -1 := by
  obtain ⟨W, R, C, N, S, B, K, Q⟩ := h
  have bc := W.bc
  have New := B.2 (g 0 0 4) (Int.le_refl _) hc
  have ee : ∀ x, m_ent (m_book g hs a f pg m l) x = m_ent g x := fun x => by unfold m_ent; rw [book_i _ _ _ _ _ _ _ _ _ (by decide), book_0 _ _ _ _ _ _ _ _ (by decide)]
  have ec : ∀ h S, (∀ b, m_has S b = true → b < g 0 0 4) → m_coh (m_book g hs a f pg m l) h S = m_coh g h S := fun h S hS => by
    unfold m_coh
    rw [book_4, tn1 bc.1]
    show m_sm _ _ + m_ib (m_has S ((g 0 0 4).toNat : Int) && m_book g hs a f pg m l 2 ((g 0 0 4).toNat : Int) 0 == h) = _
    have z : m_has S ((g 0 0 4).toNat : Int) = false := by
      cases z : m_has S ((g 0 0 4).toNat : Int) with
      | false => rfl
      | true => have := hS _ z; omega
    rw [z]
    simp only [Bool.false_and, ib_f, Int.add_zero]
    exact sm_congr (fun i a b => by rw [book_k _ _ _ _ _ _ _ _ _ (by omega)])
  have sum : ∀ i, 7 ≤ i → g 2 (g 0 0 4) i = 0 → m_sm (fun b => m_book g hs a f pg m l 2 b i) (m_book g hs a f pg m l 0 0 4).toNat = m_sm (fun b => g 2 b i) (g 0 0 4).toNat := fun i hi z => by
    rw [book_4, tn1 bc.1]
    show m_sm _ _ + m_book g hs a f pg m l 2 ((g 0 0 4).toNat : Int) i = _
    rw [Int.toNat_of_nonneg bc.1, book_i _ _ _ _ _ _ _ _ _ hi, z, Int.add_zero]
    exact sm_congr (fun i' a b => by rw [book_i _ _ _ _ _ _ _ _ _ hi])
  have es : m_soldEver (m_book g hs a f pg m l) = m_soldEver g := sum 9 (by decide) New.2.2.1
  have et : stockAll (m_book g hs a f pg m l) = stockAll g := sum 8 (by decide) New.2.1
  have en : m_entCount (m_book g hs a f pg m l) = m_entCount g := by
    unfold m_entCount
    rw [book_4, tn1 bc.1, funext ee]
    show m_sm _ _ + m_ib _ = _
    rw [Int.toNat_of_nonneg bc.1, ent_old W New.1, ib_f, Int.add_zero]
  refine ⟨⟨W.book hc ⟨h0.1, by omega⟩ h1 h2 ⟨by omega, by omega⟩ h4 h5, R.same (fun _ _ _ => book_c _ _ _ _ _ _ _ _ _ _ (by decide) (by decide)) (fun _ _ => book_c _ _ _ _ _ _ _ _ _ _ (by decide) (by decide)) (fun _ _ => book_c _ _ _ _ _ _ _ _ _ _ (by decide) (by decide)) (fun _ _ => book_c _ _ _ _ _ _ _ _ _ _ (by decide) (by decide)) (fun x _ _ h => (ee x).trans h) (by rw [book_4]; omega), fun b => (C b).same (fun _ => book_c _ _ _ _ _ _ _ _ _ _ (by decide) (by decide)) (fun _ _ => book_c _ _ _ _ _ _ _ _ _ _ (by decide) (by decide)), ?_, ?_, ?_, ?_, ?_⟩, ?_⟩
  · unfold InvN
    simp only [book_0 _ _ _ _ _ _ _ 3 (by decide), book_0 _ _ _ _ _ _ _ 5 (by decide), book_0 _ _ _ _ _ _ _ 8 (by decide), book_0 _ _ _ _ _ _ _ 9 (by decide), book_0 _ _ _ _ _ _ _ 10 (by decide)]
    exact N
  · obtain ⟨s1, s2, s3, s4, s5, s6, s7, s8, s9, s10⟩ := S
    unfold InvS
    simp only [book_4, book_0 _ _ _ _ _ _ _ 11 (by decide), book_0 _ _ _ _ _ _ _ 12 (by decide), book_0 _ _ _ _ _ _ _ 13 (by decide), book_0 _ _ _ _ _ _ _ 14 (by decide), book_0 _ _ _ _ _ _ _ 17 (by decide), book_0 _ _ _ _ _ _ _ 8 (by decide), book_0 _ _ _ _ _ _ _ 9 (by decide), book_i _ _ _ _ _ _ _ _ 7 (by decide), ee]
    refine ⟨fun b h => ?_, s2, s3, s4, s5, s6, s7, fun h => ?_, fun b h => ?_, fun b h => ?_⟩
    · have := s1 b h; exact ⟨by omega, this.2⟩
    · rw [ec _ _ (fun b h => (s1 b h).1)]; exact s8 h
    · have := s9 b h; omega
    · have := s10 b h; exact ⟨by omega, this.2⟩
  · refine ⟨fun b x y => ?_, fun b x y => ?_⟩
    · rw [book_4] at y
      rw [book_i _ _ _ _ _ _ _ _ 7 (by decide), book_i _ _ _ _ _ _ _ _ 8 (by decide), book_0 _ _ _ _ _ _ _ 8 (by decide)]
      by_cases z : b = g 0 0 4
      · subst z
        have e0 : m_book g hs a f pg m l 2 (g 0 0 4) 0 = hs := by simp [m_book, m_describeB, m_up]
        have e3 : m_book g hs a f pg m l 2 (g 0 0 4) 3 = pg := by simp [m_book, m_describeB, m_up]
        have yr := W.1.2.2.2.1
        have ph := W.1.2.2.2.2.1
        have := N.2.2.1
        rw [e0, e3, New.1, New.2.1]
        omega
      · have Y := B.1 b x (by omega)
        rw [book_k _ _ _ _ _ _ _ _ 0 z, book_k _ _ _ _ _ _ _ _ 3 z]
        exact Y
    · rw [book_4] at x
      rw [book_i _ _ _ _ _ _ _ _ 7 (by decide), book_i _ _ _ _ _ _ _ _ 8 (by decide), book_i _ _ _ _ _ _ _ _ 9 (by decide), book_i _ _ _ _ _ _ _ _ 10 (by decide)]
      exact B.2 b (by omega) y
  · unfold InvJ
    simp only [book_0 _ _ _ _ _ _ _ 9 (by decide), book_c _ _ _ _ _ _ _ 3 _ _ (by decide) (by decide), book_c _ _ _ _ _ _ _ 7 _ _ (by decide) (by decide)]
    exact K
  · obtain ⟨q1, q2, q3, q4⟩ := Q
    refine ⟨?_, by rw [et, es]; exact q2, ?_, fun h x y => ?_⟩
    · rw [es]
      unfold coins
      simp only [book_c _ _ _ _ _ _ _ 1 _ _ (by decide) (by decide)]
      exact q1
    · rw [en]
      unfold used
      simp only [book_c _ _ _ _ _ _ _ 1 _ _ (by decide) (by decide)]
      exact q3
    · rw [book_c _ _ _ _ _ _ _ 1 _ _ (by decide) (by decide)]
      unfold m_quota
      rw [book_0 _ _ _ _ _ _ _ 12 (by decide), ec _ _ S.2.2.2.2.2.2.2.2.1]
      exact q4 h x y
  · intro j x y
    rw [book_c _ _ _ _ _ _ _ 6 _ _ (by decide) (by decide)]
    obtain ⟨RC, RM⟩ := R j x y
    rcases RM.1.2.1 (g 0 0 4) bc.1 hc with e | ⟨k, k0, k1, k2⟩
    · exact e
    · have := W.2.2.2.2.1 j x y
      have := RC.1 k k0 (by omega)
      omega
end PTO
end
section
section PEN
/-- a book is entered: what it costs its house -/
theorem inv_enterFor {H J t p q c b cost : Int} {g g1 : m_St} (h : Iv H J t p q c g) (hH : H ≤ 5) (hb : 0 ≤ b ∧ b < g 0 0 4) (hp : g 0 0 9 = 0) (he : g 2 b 7 = -1)
    (hW : Wf g1) (k0 : ∀ (cc : Nat) (k i : Int), cc ≠ 1 → cc ≠ 3 → g1 cc k i = g cc k i) (k3 : ∀ j i, i ≠ 4 → g1 3 j i = g 3 j i) (k1 : ∀ k i, i ≠ 1 → g1 1 k i = g 1 k i) (c' : Int)
    (hu : used g1 H + c' = used g H + c + 1) (hq : ∀ x, 0 ≤ x → x < H → g1 1 x 1 ≤ m_quota g x) :
    Iv H J t (p + cost) q c' (m_enterFor g1 b cost) ∧ m_entCount (m_enterFor g1 b cost) = m_entCount g + 1 ∧ m_ent (m_enterFor g1 b cost) b = true := by
  obtain ⟨W, R, C, N, S, B, K, Q⟩ := h
  have bc := W.bc
  have yr := W.1.2.2.2.1
  have X := B.1 b hb.1 hb.2
  have e2 : ∀ k i, i ≠ 7 → m_enterFor g1 b cost 2 k i = g 2 k i := fun k i h => by
    show m_up (m_up g1 2 b 7 _) 1 _ 0 _ 2 k i = _
    rw [up_c _ _ _ _ _ _ _ _ (by decide), up_i _ _ _ _ _ _ _ h, k0 2 k i (by decide) (by decide)]
  have e27 : ∀ k, k ≠ b → m_enterFor g1 b cost 2 k 7 = g 2 k 7 := fun k h => by
    show m_up (m_up g1 2 b 7 _) 1 _ 0 _ 2 k 7 = _
    rw [up_c _ _ _ _ _ _ _ _ (by decide), up_k _ _ _ _ _ _ _ h, k0 2 k 7 (by decide) (by decide)]
  have e2b : m_enterFor g1 b cost 2 b 7 = g 0 0 8 := by
    show m_up (m_up g1 2 b 7 _) 1 _ 0 _ 2 b 7 = _
    rw [up_c _ _ _ _ _ _ _ _ (by decide), up_s, k0 0 0 8 (by decide) (by decide)]
  have e0 : ∀ (cc : Nat) k i, cc ≠ 1 → cc ≠ 2 → cc ≠ 3 → m_enterFor g1 b cost cc k i = g cc k i := fun cc k i h h' h3 => by
    show m_up (m_up g1 2 b 7 _) 1 _ 0 _ cc k i = _
    rw [up_c _ _ _ _ _ _ _ _ h, up_c _ _ _ _ _ _ _ _ h', k0 cc k i h h3]
  have e3 : ∀ k i, i ≠ 4 → m_enterFor g1 b cost 3 k i = g 3 k i := fun k i h => by
    show m_up (m_up g1 2 b 7 _) 1 _ 0 _ 3 k i = _
    rw [up_c _ _ _ _ _ _ _ _ (by decide), up_c _ _ _ _ _ _ _ _ (by decide), k3 k i h]
  have e11 : ∀ k, m_enterFor g1 b cost 1 k 1 = g1 1 k 1 := fun k => by
    show m_up (m_up g1 2 b 7 _) 1 _ 0 _ 1 k 1 = _
    rw [up_i _ _ _ _ _ _ _ (by decide), up_c _ _ _ _ _ _ _ _ (by decide)]
  have g120 : g1 2 b 0 = g 2 b 0 := k0 2 b 0 (by decide) (by decide)
  have e10 : ∀ k, m_enterFor g1 b cost 1 k 0 = if k = g 2 b 0 then g 1 k 0 - cost else g 1 k 0 := fun k => by
    show m_up (m_up g1 2 b 7 _) 1 _ 0 _ 1 k 0 = _
    have a1 : m_up g1 2 b 7 (g1 0 0 8) 2 b 0 = g 2 b 0 := by rw [up_i _ _ _ _ _ _ _ (by decide), g120]
    have a2 : ∀ x, m_up g1 2 b 7 (g1 0 0 8) 1 x 0 = g 1 x 0 := fun x => by rw [up_c _ _ _ _ _ _ _ _ (by decide), k1 x 0 (by decide)]
    rw [g120, k1 _ 0 (by decide)]
    split
    · rename_i z; rw [z, up_s]
    · rename_i z; rw [up_k _ _ _ _ _ _ _ z, a2]
  have ee : ∀ x, m_ent (m_enterFor g1 b cost) x = if x = b then true else m_ent g x := fun x => by
    unfold m_ent
    rw [e0 0 0 8 (by decide) (by decide) (by decide)]
    split
    · rename_i z; rw [z, e2b]; simp
    · rename_i z; rw [e27 x z]
  have eb : m_ent g b = false := ent_old W he
  have em : ∀ x, m_ent g x = true → m_ent (m_enterFor g1 b cost) x = true := fun x h => by rw [ee]; split <;> simp [h]
  have ec : ∀ h S, m_coh (m_enterFor g1 b cost) h S = m_coh g h S := fun h S => by
    unfold m_coh
    rw [e0 0 0 4 (by decide) (by decide) (by decide)]
    simp only [e2 _ 0 (by decide)]
  have en : m_entCount (m_enterFor g1 b cost) = m_entCount g + 1 := by
    have Z := sm_one (h := fun x => m_ib (m_ent g x)) (h' := fun x => m_ib (m_ent (m_enterFor g1 b cost) x)) (n := (g 0 0 4).toNat) (k := b) hb.1 (by omega) (fun i _ _ z => by rw [ee, if_neg z])
    simp only [ee, if_true, eb, ib_t, ib_f] at Z
    unfold m_entCount
    rw [e0 0 0 4 (by decide) (by decide) (by decide)]
    show m_sm (fun x => m_ib (m_ent (m_enterFor g1 b cost) x)) _ = m_sm (fun x => m_ib (m_ent g x)) _ + 1
    simp only [ee]
    omega
  have es : m_soldEver (m_enterFor g1 b cost) = m_soldEver g := by
    unfold m_soldEver
    rw [e0 0 0 4 (by decide) (by decide) (by decide)]
    simp only [e2 _ 9 (by decide)]
  have et : stockAll (m_enterFor g1 b cost) = stockAll g := by
    unfold stockAll
    rw [e0 0 0 4 (by decide) (by decide) (by decide)]
    simp only [e2 _ 8 (by decide)]
  have eu : used (m_enterFor g1 b cost) H = used g1 H := by unfold used; simp only [e11]
  have eo : coins (m_enterFor g1 b cost) H = coins g H - cost := by
    have bh := (W.2.2.2.1 b hb.1 (by omega)).1
    have Z := sm_one (h := fun x => g 1 x 0) (h' := fun x => m_enterFor g1 b cost 1 x 0) (n := H.toNat) (k := g 2 b 0) bh.1 (by omega) (fun i _ _ z => by rw [e10, if_neg z])
    have z := e10 (g 2 b 0)
    rw [if_pos rfl] at z
    unfold coins
    omega
  have e5 := e0 5
  refine ⟨⟨hW.enterFor, R.same (fun j i h => e3 j i (by omega)) (fun _ _ => e0 4 _ _ (by decide) (by decide) (by decide)) (fun _ _ => e0 5 _ _ (by decide) (by decide) (by decide)) (fun _ _ => e0 6 _ _ (by decide) (by decide) (by decide)) (fun x _ _ h => em x h) (by rw [e0 0 0 4 (by decide) (by decide) (by decide)]; omega), fun b => (C b).same (fun _ => e3 _ _ (by decide)) (fun _ _ => e0 4 _ _ (by decide) (by decide) (by decide)), ?_, ?_, ?_, ?_, ?_⟩, en, by rw [ee, if_pos rfl]⟩
  · unfold InvN
    simp only [e0 0 _ _ (by decide) (by decide) (by decide)]
    exact N
  · obtain ⟨s1, s2, s3, s4, s5, s6, s7, s8, s9, s10⟩ := S
    unfold InvS
    simp only [e0 0 _ _ (by decide) (by decide) (by decide), ec]
    refine ⟨fun x h => ⟨(s1 x h).1, em x (s1 x h).2⟩, s2, s3, s4, s5, s6, s7, s8, s9, fun x h => ?_⟩
    have Y := s10 x h
    rw [e27 x (fun z => by rw [z, he] at Y; omega)]
    exact Y
  · refine ⟨fun x a d => ?_, fun x a d => ?_⟩
    · rw [e0 0 _ _ (by decide) (by decide) (by decide)] at d
      have Y := B.1 x a d
      rw [e2 _ 0 (by decide), e2 _ 3 (by decide), e2 _ 8 (by decide), e0 0 _ _ (by decide) (by decide) (by decide)]
      by_cases z : x = b
      · subst z; rw [e2b]; exact ⟨Y.1, Y.2.1, Int.le_refl _, Y.2.2.2⟩
      · rw [e27 x z]; exact Y
    · rw [e0 0 _ _ (by decide) (by decide) (by decide)] at a
      rw [e2 _ 8 (by decide), e2 _ 9 (by decide), e2 _ 10 (by decide), e27 x (by omega)]
      exact B.2 x a d
  · unfold InvJ
    simp only [e0 0 _ _ (by decide) (by decide) (by decide), e0 7 _ _ (by decide) (by decide) (by decide), e3 _ 0 (by decide), e3 _ 7 (by decide), e3 _ 15 (by decide)]
    exact K
  · obtain ⟨q1, q2, q3, q4⟩ := Q
    refine ⟨by rw [eo, es]; omega, by rw [et, es]; exact q2, by rw [en, eu]; omega, fun x a d => ?_⟩
    rw [e11]
    unfold m_quota
    rw [ec, e0 0 _ _ (by decide) (by decide) (by decide)]
    exact hq x a d
theorem elig_old {g : m_St} {b : Int} (h : m_elig g b = true) (he : m_ent g b = false) : g 2 b 7 = -1 := by
  unfold m_elig at h
  unfold m_ent at he
  rw [Bool.and_eq_true, Bool.or_eq_true] at h
  rcases h.1 with e | e
  · exact eq_of_beq e
  · rw [he] at e; cases e
theorem inv_enter {H J t p q c b : Int} {g : m_St} (h : Iv H J t p q c g) (hH : H ≤ 5) (hb : 0 ≤ b ∧ b < g 0 0 4) (hp : g 0 0 9 = 0) (he : m_ent g b = false) :
    (m_elig g b = false → m_enter g b = g) ∧ (m_elig g b = true → m_quota g (g 2 b 0) ≤ g 1 (g 2 b 0) 1 → m_enter g b = g) ∧
    (m_elig g b = true → g 1 (g 2 b 0) 1 < m_quota g (g 2 b 0) → Iv H J t (p + g 9 0 3) q c (m_enter g b) ∧ m_entCount (m_enter g b) = m_entCount g + 1 ∧ m_ent (m_enter g b) b = true) := by
  refine ⟨fun e => by unfold m_enter; rw [e]; rfl, fun e z => by unfold m_enter; rw [e, cond_true, if_pos z], fun e z => ?_⟩
  have W := h.1
  have bc := W.bc
  have X := h.2.2.2.2.2.1.1 b hb.1 hb.2
  have Y := (W.2.2.2.1 b hb.1 (by omega)).1
  have U := W.2.2.1 (g 2 b 0) Y.1 (by omega)
  have Qb := quota_b g (g 2 b 0) bc.1
  have hE : m_enter g b = m_enterFor (m_up g 1 (g 2 b 0) 1 (g 1 (g 2 b 0) 1 + 1)) b (g 9 0 3) := by unfold m_enter; rw [e, cond_true, if_neg (by omega)]
  rw [hE]
  have q4 := h.2.2.2.2.2.2.2.2.2.2
  refine inv_enterFor (g1 := m_up g 1 (g 2 b 0) 1 (g 1 (g 2 b 0) 1 + 1)) (cost := g 9 0 3) h hH hb hp (elig_old e he) ?_ (fun cc k i a _ => up_c _ _ _ _ _ _ _ _ a) (fun _ _ _ => rfl) (fun k i a => up_i _ _ _ _ _ _ _ a) c ?_ (fun x a d => ?_)
  · obtain ⟨N, S, HH, B, JJ, A, UU⟩ := W
    refine ⟨N, S, ?_, B, JJ, A, UU⟩
    intro k k0 k1
    have Z := HH k k0 k1
    by_cases q : k = g 2 b 0
    · subst q; simp [m_up]; omega
    · simp [m_up, q]; exact Z
  · have Z := sm_one (h := fun x => g 1 x 1) (h' := fun x => m_up g 1 (g 2 b 0) 1 (g 1 (g 2 b 0) 1 + 1) 1 x 1) (n := H.toNat) (k := g 2 b 0) Y.1 (by omega) (fun i _ _ z => up_k _ _ _ _ _ _ _ z)
    simp only [up_s] at Z
    unfold used
    omega
  · by_cases q : x = g 2 b 0
    · rw [q, up_s]; omega
    · rw [up_k _ _ _ _ _ _ _ q]; exact q4 x a d
theorem inv_callIn {H J t p q c j b : Int} {g : m_St} (h : Iv H J t p q c g) (hH : H ≤ 5) (hb : 0 ≤ b ∧ b < g 0 0 4) (hp : g 0 0 9 = 0) (he : m_ent g b = false) :
    (m_elig g b = false → m_callIn g j b = g) ∧ (m_elig g b = true → (g 3 j 4 ≠ 0 ∨ m_agn g j (g 2 b 1) = true) → m_callIn g j b = g) ∧
    (m_elig g b = true → ¬ (g 3 j 4 ≠ 0 ∨ m_agn g j (g 2 b 1) = true) → Iv H J t (p + (g 9 0 3).tdiv 2) q (c + 1) (m_callIn g j b) ∧ m_entCount (m_callIn g j b) = m_entCount g + 1) := by
  refine ⟨fun e => by unfold m_callIn; rw [e]; rfl, fun e z => by unfold m_callIn; rw [e, cond_true, if_pos z], fun e z => ?_⟩
  have W := h.1
  have hE : m_callIn g j b = m_enterFor (m_up g 3 j 4 1) b ((g 9 0 3).tdiv 2) := by unfold m_callIn; rw [e, cond_true, if_neg z]
  rw [hE]
  have q4 := h.2.2.2.2.2.2.2.2.2.2
  have F := inv_enterFor (g1 := m_up g 3 j 4 1) (cost := (g 9 0 3).tdiv 2) h hH hb hp (elig_old e he) (by
      obtain ⟨N, S, HH, B, JJ, A, UU⟩ := W
      refine ⟨N, S, HH, B, ?_, A, UU⟩
      intro k k0 k1
      have Z := JJ k k0 k1
      by_cases q : k = j
      · subst q; simp [m_up]; omega
      · simp [m_up, q]; omega) (fun cc k i _ a => up_c _ _ _ _ _ _ _ _ a) (fun j' i a => up_i _ _ _ _ _ _ _ a) (fun _ _ _ => rfl) (c + 1) (by show used g H + (c + 1) = _; omega) (fun x a d => q4 x a d)
  exact ⟨F.1, F.2.1⟩
end PEN
section PLI
/-- only the object's own numbers change -/
theorem iv_num {H J t t' p q c : Int} {g g' : m_St} (h : Iv H J t p q c g) (hW : Wf g') (hc : ∀ (cc : Nat) (k i : Int), cc ≠ 0 → g' cc k i = g cc k i) (h0 : ∀ i, i ≠ 9 → i ≠ 11 → i ≠ 13 → i ≠ 14 → i ≠ 16 → i ≠ 17 → g' 0 0 i = g 0 0 i)
    (ht : 5 * g 0 0 8 + g' 0 0 9 ≤ t') (htt : t ≤ t') (hS : InvS g') (h9 : g' 0 0 9 ≠ 0) (h3 : g' 0 0 9 < 3 → g 0 0 9 < 3) : Iv H J t' p q c g' := by
  obtain ⟨W, R, C, N, S, B, K, Q⟩ := h
  have ee : ∀ x, m_ent g' x = m_ent g x := fun x => by unfold m_ent; rw [hc 2 _ _ (by decide), h0 8 (by decide) (by decide) (by decide) (by decide) (by decide) (by decide)]
  have e4 : g' 0 0 4 = g 0 0 4 := h0 4 (by decide) (by decide) (by decide) (by decide) (by decide) (by decide)
  have e8 : g' 0 0 8 = g 0 0 8 := h0 8 (by decide) (by decide) (by decide) (by decide) (by decide) (by decide)
  obtain ⟨n1, n2, n3, n4⟩ := N
  refine ⟨hW, R.same (fun _ _ _ => hc 3 _ _ (by decide)) (fun _ _ => hc 4 _ _ (by decide)) (fun _ _ => hc 5 _ _ (by decide)) (fun _ _ => hc 6 _ _ (by decide)) (fun x _ _ h => (ee x).trans h) (by rw [e4]; exact Int.le_refl _), fun b => (C b).same (fun _ => hc 3 _ _ (by decide)) (fun _ _ => hc 4 _ _ (by decide)), ⟨?_, ?_, ?_, ?_⟩, hS, ⟨fun b a d => ?_, fun b a d => ?_⟩, ⟨fun j a d => ?_, fun j a d => ?_⟩, ?_⟩
  · rw [h0 3 (by decide) (by decide) (by decide) (by decide) (by decide) (by decide)]; exact n1
  · rw [h0 5 (by decide) (by decide) (by decide) (by decide) (by decide) (by decide)]; exact n2
  · rw [e8]; exact ht
  · rw [h0 10 (by decide) (by decide) (by decide) (by decide) (by decide) (by decide)]; omega
  · rw [e4] at d
    have Y := B.1 b a d
    simp only [hc 2 _ _ (by decide), e8]
    exact ⟨Y.1, Y.2.1, Y.2.2.1, by omega⟩
  · rw [e4] at a
    simp only [hc 2 _ _ (by decide)]
    exact B.2 b a d
  · rw [hc 3 _ _ (by decide)]; exact K.1 j a d
  · have Y := K.2 j a d
    simp only [hc 3 _ _ (by decide), hc 7 _ _ (by decide)]
    exact ⟨fun z => absurd z h9, fun z => Y.2.1 (h3 z), Y.2.2⟩
  · obtain ⟨q1, q2, q3, q4⟩ := Q
    have ec : ∀ h S, m_coh g' h S = m_coh g h S := fun h S => by unfold m_coh; rw [e4]; simp only [hc 2 _ _ (by decide)]
    have es : m_soldEver g' = m_soldEver g := by unfold m_soldEver; rw [e4]; simp only [hc 2 _ _ (by decide)]
    have et : stockAll g' = stockAll g := by unfold stockAll; rw [e4]; simp only [hc 2 _ _ (by decide)]
    have en : m_entCount g' = m_entCount g := by unfold m_entCount; rw [e4, funext ee]
    refine ⟨?_, by rw [et, es]; exact q2, ?_, fun h a d => ?_⟩
    · rw [es]; unfold coins; simp only [hc 1 _ _ (by decide)]; exact q1
    · rw [en]; unfold used; simp only [hc 1 _ _ (by decide)]; exact q3
    · rw [hc 1 _ _ (by decide)]
      unfold m_quota
      rw [ec, h0 12 (by decide) (by decide) (by decide) (by decide) (by decide) (by decide)]
      exact q4 h a d
end PLI
section PLJ
theorem listable_in (g : m_St) (b : Int) (h : m_has (m_listable g) b = true) : b < g 0 0 4 ∧ m_ent g b = true := by
  have F := fo_ind (f := fun b S => bif m_ent g b && m_marksEnough g b then m_bo S (m_bt b) else S) (a := (0 : Int)) (N := (g 0 0 4).toNat) (fun n S => ∀ b, m_has S b = true → b < (n : Int) ∧ m_ent g b = true) (fun b h => by rw [has_z] at h; cases h) (fun n S hn hS b hb => by
    cases q : m_ent g n && m_marksEnough g n with
    | true =>
      rw [Bool.and_eq_true] at q
      simp only [q.1, q.2, Bool.and_self, cond_true] at hb
      rw [has_bo, has_bt (Int.natCast_nonneg n), Bool.or_eq_true] at hb
      rcases hb with e | e
      · have := hS b e; exact ⟨by omega, this.2⟩
      · have e := of_decide_eq_true e
        exact ⟨by omega, by rw [e]; exact q.1⟩
    | false =>
      simp only [q, cond_false] at hb
      have := hS b hb; exact ⟨by omega, this.2⟩)
  have := F b h
  have z := has_nn h
  exact ⟨by omega, this.2⟩
theorem coh_add {g : m_St} {S b : Int} (hb : 0 ≤ b ∧ b < g 0 0 4) (h : Int) : m_coh g h (m_bo S (m_bt b)) ≤ m_coh g h S + m_ib (g 2 b 0 == h) := by
  have Z := sm_one (h := fun x => m_ib (m_has S x && g 2 x 0 == h)) (h' := fun x => m_ib (m_has (m_bo S (m_bt b)) x && g 2 x 0 == h)) (n := (g 0 0 4).toNat) (k := b) hb.1 (by omega) (fun i _ _ z => by rw [has_bo, has_bt hb.1, decide_eq_false z, Bool.or_false])
  simp only [has_bo, has_bt hb.1, decide_true, Bool.or_true, Bool.true_and] at Z
  have e1 : m_coh g h (m_bo S (m_bt b)) = m_sm (fun x => m_ib ((m_has S x || decide (x = b)) && g 2 x 0 == h)) (g 0 0 4).toNat := by
    unfold m_coh m_cnt
    simp only [has_bo, has_bt hb.1]
  have e2 : m_coh g h S = m_sm (fun x => m_ib (m_has S x && g 2 x 0 == h)) (g 0 0 4).toNat := rfl
  have := ib_nn (m_has S b && g 2 b 0 == h)
  omega
theorem inv_longList {H J t p q c many : Int} {g : m_St} (h : Iv H J t p q c g) (hp : g 0 0 9 = 1) : Iv H J (t + 1) p q c (m_longList g many) := by
  have W := h.1
  have N := h.2.2.2.1
  have S := h.2.2.2.2.1
  obtain ⟨s1, s2, s3, s4, s5, s6, s7, s8, s9, s10⟩ := S
  have z11 := s4 (by omega)
  have z13 := s5 (by omega)
  have z14 := s6 (by omega)
  have F := long_of g many (fun L => (∀ b, m_has L b = true → b < g 0 0 4 ∧ m_ent g b = true) ∧ ∀ h, m_coh g h L ≤ 2) (fun b => m_ent g b = true) (fun L b hl b0 b1 hq hc => ⟨fun x hx => by
      rw [has_bo, has_bt b0, Bool.or_eq_true] at hx
      rcases hx with e | e
      · exact hl.1 x e
      · have e := of_decide_eq_true e
        rw [e]; exact ⟨b1, hq⟩, fun h => by
      have Y := coh_add (S := L) (g := g) ⟨b0, b1⟩ h
      by_cases e : g 2 b 0 = h
      · subst e
        have := ib_le (g 2 b 0 == g 2 b 0)
        omega
      · have z : (g 2 b 0 == h) = false := by simpa using e
        rw [z, ib_f] at Y
        have := hl.2 h
        omega⟩) 16 (m_listable g) (g 0 0 11) (fun b hb => (listable_in g b hb).2) ⟨s1, s8⟩
  have e0 : ∀ i, i ≠ 9 → i ≠ 11 → m_longList g many 0 0 i = g 0 0 i := fun i h h' => by
    show m_up (m_up g 0 0 11 _) 0 0 9 2 0 0 i = _
    rw [up_i _ _ _ _ _ _ _ h, up_i _ _ _ _ _ _ _ h']
  have e9 : m_longList g many 0 0 9 = 2 := up_s _ _ _ _ _
  refine iv_num h W.longList (fun cc k i a => ?_) (fun i a b _ _ _ _ => e0 i a b) ?_ (by omega) ?_ (by rw [e9]; decide) (fun _ => by omega)
  · show m_up (m_up g 0 0 11 _) 0 0 9 2 cc k i = _
    rw [up_c _ _ _ _ _ _ _ _ a, up_c _ _ _ _ _ _ _ _ a]
  · rw [e9]; have := N.2.2.1; omega
  · unfold InvS
    simp only [e9, e0 4 (by decide) (by decide), e0 8 (by decide) (by decide), e0 12 (by decide) (by decide), e0 13 (by decide) (by decide), e0 14 (by decide) (by decide), e0 17 (by decide) (by decide), z13, z14]
    refine ⟨F.1, fun b h => ?_, Or.inl trivial, fun z => absurd z (by decide), fun _ => trivial, fun _ => trivial, by decide, F.2, s9, fun b h => ?_⟩
    · rw [has_z] at h; cases h
    · have Y := s10 b h
      exact ⟨Y.1, Y.2.1, fun z => by have := Y.2.2 z; omega⟩
theorem inv_shortList {H J t p q c many : Int} {g : m_St} (h : Iv H J t p q c g) (hp : g 0 0 9 = 2) (hm : 0 ≤ many ∧ many ≤ 5) : Iv H J (t + 1) p q c (m_shortList g many) := by
  have W := h.1
  have N := h.2.2.2.1
  obtain ⟨s1, s2, s3, s4, s5, s6, s7, s8, s9, s10⟩ := h.2.2.2.2.1
  have z13 := s5 (by omega)
  have z14 := s6 (by omega)
  have F := short_of g (fun S => ∀ b, m_has S b = true → m_has (g 0 0 11) b = true) (fun S b hS b0 b1 hl hs x hx => by
      rw [has_bo, has_bt b0, Bool.or_eq_true] at hx
      rcases hx with e | e
      · exact hS x e
      · have e := of_decide_eq_true e
        rw [e]; exact hl) many.toNat (g 0 0 13) s2
  have P := short_pc g W.bc.2 many.toNat (g 0 0 13) W.2.1.2.2.1.1
  have e0 : ∀ i, i ≠ 9 → i ≠ 13 → m_shortList g many 0 0 i = g 0 0 i := fun i h h' => by
    show m_up (m_up g 0 0 13 _) 0 0 9 3 0 0 i = _
    rw [up_i _ _ _ _ _ _ _ h, up_i _ _ _ _ _ _ _ h']
  have e9 : m_shortList g many 0 0 9 = 3 := up_s _ _ _ _ _
  have e13 : m_shortList g many 0 0 13 = m_fillShort g many.toNat (g 0 0 13) := by
    show m_up (m_up g 0 0 13 _) 0 0 9 3 0 0 13 = _
    rw [up_i _ _ _ _ _ _ _ (by decide), up_s]
  have hc : ∀ (cc : Nat) (k i : Int), cc ≠ 0 → m_shortList g many cc k i = g cc k i := fun cc k i a => by
    show m_up (m_up g 0 0 13 _) 0 0 9 3 cc k i = _
    rw [up_c _ _ _ _ _ _ _ _ a, up_c _ _ _ _ _ _ _ _ a]
  refine iv_num h W.shortList hc (fun i a _ b _ _ _ => e0 i a b) ?_ (by omega) ?_ (by rw [e9]; decide) (fun z => by rw [e9] at z; exact absurd z (by decide))
  · rw [e9]; have := N.2.2.1; omega
  · have ee : ∀ x, m_ent (m_shortList g many) x = m_ent g x := fun x => by unfold m_ent; rw [hc 2 _ _ (by decide), e0 8 (by decide) (by decide)]
    have ec : ∀ h S, m_coh (m_shortList g many) h S = m_coh g h S := fun h S => by unfold m_coh; rw [e0 4 (by decide) (by decide)]; simp only [hc 2 _ _ (by decide)]
    unfold InvS
    simp only [e9, e13, e0 4 (by decide) (by decide), e0 8 (by decide) (by decide), e0 11 (by decide) (by decide), e0 12 (by decide) (by decide), e0 14 (by decide) (by decide), e0 17 (by decide) (by decide), z14, ee, ec, hc 2 _ _ (by decide)]
    rw [z13] at P
    have p0 : m_pcn 0 = 0 := by decide
    rw [z13] at F
    rw [z13]
    refine ⟨s1, F, Or.inl trivial, fun z => absurd z (by decide), fun z => absurd z (by decide), fun _ => trivial, by omega, s8, s9, fun b h => ?_⟩
    have Y := s10 b h
    exact ⟨Y.1, Y.2.1, fun z => by have := Y.2.2 z; omega⟩
theorem crown_14 (g : m_St) (b : Int) : m_crown g b 0 0 14 = b := by
  unfold m_crown
  split
  · exact up_s _ _ _ _ _
  · rw [up_i _ _ _ _ _ _ _ (by decide), up_s]
theorem inv_end {H J t p q c : Int} {g : m_St} (h : Iv H J t p q c g) (hp : g 0 0 9 = 3) : Iv H J (t + 1) p q c (m_endIt g) := by
  have W := h.1
  have N := h.2.2.2.1
  obtain ⟨s1, s2, s3, s4, s5, s6, s7, s8, s9, s10⟩ := h.2.2.2.2.1
  have V := winner_in g 0 0 W.bc.1
  have e0 : ∀ i, i ≠ 9 → i ≠ 14 → i ≠ 16 → m_endIt g 0 0 i = g 0 0 i := fun i a b d => by
    show m_up (m_crown g _) 0 0 9 4 0 0 i = _
    rw [up_i _ _ _ _ _ _ _ a, crown_c _ _ _ _ _ (Or.inr ⟨b, d⟩)]
  have e9 : m_endIt g 0 0 9 = 4 := up_s _ _ _ _ _
  have e14 : m_endIt g 0 0 14 = m_winner g 0 0 := by
    show m_up (m_crown g _) 0 0 9 4 0 0 14 = _
    rw [up_i _ _ _ _ _ _ _ (by decide), crown_14]
  have hc : ∀ (cc : Nat) (k i : Int), cc ≠ 0 → m_endIt g cc k i = g cc k i := fun cc k i a => by
    show m_up (m_crown g _) 0 0 9 4 cc k i = _
    rw [up_c _ _ _ _ _ _ _ _ a, crown_c _ _ _ _ _ (Or.inl a)]
  refine iv_num h W.endIt hc (fun i a _ _ b d _ => e0 i a b d) ?_ (by omega) ?_ (by rw [e9]; decide) (fun z => by rw [e9] at z; exact absurd z (by decide))
  · rw [e9]; have := N.2.2.1; omega
  · have ee : ∀ x, m_ent (m_endIt g) x = m_ent g x := fun x => by unfold m_ent; rw [hc 2 _ _ (by decide), e0 8 (by decide) (by decide) (by decide)]
    have ec : ∀ h S, m_coh (m_endIt g) h S = m_coh g h S := fun h S => by unfold m_coh; rw [e0 4 (by decide) (by decide) (by decide)]; simp only [hc 2 _ _ (by decide)]
    unfold InvS
    simp only [e9, e14, e0 4 (by decide) (by decide) (by decide), e0 8 (by decide) (by decide) (by decide), e0 11 (by decide) (by decide) (by decide), e0 12 (by decide) (by decide) (by decide), e0 13 (by decide) (by decide) (by decide), e0 17 (by decide) (by decide) (by decide), ee, ec, hc 2 _ _ (by decide)]
    refine ⟨s1, s2, ?_, fun z => absurd z (by decide), fun z => absurd z (by decide), fun z => absurd z (by decide), s7, s8, s9, fun b h => ⟨(s10 b h).1, (s10 b h).2.1, fun _ => trivial⟩⟩
    rcases V with e | ⟨_, _, e, e', _⟩
    · exact Or.inl e
    · exact Or.inr ⟨e, e'⟩
/-- counting reads nothing of what was stripped -/
theorem open_17 (g : m_St) (x j : Int) : m_openTo (m_up g 0 0 17 x) j = m_openTo g j := rfl
theorem firstL_17 (g : m_St) (x j S : Int) : ∀ (n : Nat) (k : Int), m_firstLoop (m_up g 0 0 17 x) j S n k = m_firstLoop g j S n k
  | 0, _ => rfl
  | n + 1, k => by
    unfold m_firstLoop
    rw [firstL_17 g x j S n]
    rfl
theorem chosen_17 (g : m_St) (x left out j : Int) : m_chosen (m_up g 0 0 17 x) left out j = m_chosen g left out j := by
  unfold m_chosen m_firstIn
  rw [firstL_17, open_17]
  rfl
theorem counted_17 (g : m_St) (x left out : Int) : m_counted (m_up g 0 0 17 x) left out = m_counted g left out := by
  unfold m_counted
  simp only [chosen_17]
  rfl
theorem votes_17 (g : m_St) (x left out b : Int) : m_votesFor (m_up g 0 0 17 x) left out b = m_votesFor g left out b := by
  unfold m_votesFor
  simp only [chosen_17]
  rfl
theorem score_17 (g : m_St) (x b : Int) : m_score (m_up g 0 0 17 x) b = m_score g b := rfl
theorem above_17 (g : m_St) (x left out : Int) : m_aboveHalf (m_up g 0 0 17 x) left out = m_aboveHalf g left out := by
  unfold m_aboveHalf
  simp only [counted_17, votes_17]
  rfl
theorem weakest_17 (g : m_St) (x left out : Int) : m_weakest (m_up g 0 0 17 x) left out = m_weakest g left out := by
  unfold m_weakest m_weaker
  simp only [votes_17, score_17]
  rfl
theorem winLoop_17 (g : m_St) (x out : Int) : ∀ (n : Nat) (left last : Int), m_winLoop (m_up g 0 0 17 x) out n left last = m_winLoop g out n left last
  | 0, _, _ => rfl
  | n + 1, left, last => by
    unfold m_winLoop
    rw [above_17, weakest_17, winLoop_17 g x out n]
theorem inv_strip {H J t p q c : Int} {g : m_St} (h : Iv H J t p q c g) (hp : g 0 0 9 = 4) (hw : g 0 0 14 ≠ -1) : Iv H J (t + 1) p q c (m_strip g) ∧ m_strip g 0 0 14 = m_spoiled g (g 0 0 14) ∧ m_strip g 0 0 14 ≠ g 0 0 14 ∧ m_pcn (m_strip g 0 0 17) = m_pcn (g 0 0 17) + 1 := by
  have W := h.1
  have N := h.2.2.2.1
  obtain ⟨s1, s2, s3, s4, s5, s6, s7, s8, s9, s10⟩ := h.2.2.2.2.1
  rcases s3 with e | ⟨w1, w2⟩
  · exact absurd e hw
  have w0 := has_nn w1
  have wl := s1 _ (s2 _ w1)
  have bc := W.bc
  generalize hg1 : m_up g 0 0 17 (m_bo (g 0 0 17) (m_bt (g 0 0 14))) = g1
  have hs : m_strip g = m_crown g1 (m_winner g1 0 0) := by rw [← hg1]; rfl
  have f17 : g1 0 0 17 = m_bo (g 0 0 17) (m_bt (g 0 0 14)) := by rw [← hg1]; exact up_s _ _ _ _ _
  have f0 : ∀ i, i ≠ 17 → g1 0 0 i = g 0 0 i := fun i a => by rw [← hg1]; exact up_i _ _ _ _ _ _ _ a
  have fc : ∀ (cc : Nat) (k i : Int), cc ≠ 0 → g1 cc k i = g cc k i := fun cc k i a => by rw [← hg1]; exact up_c _ _ _ _ _ _ _ _ a
  have e0 : ∀ i, i ≠ 14 → i ≠ 16 → i ≠ 17 → m_strip g 0 0 i = g 0 0 i := fun i a b d => by rw [hs, crown_c _ _ _ _ _ (Or.inr ⟨a, b⟩), f0 i d]
  have e17 : m_strip g 0 0 17 = m_bo (g 0 0 17) (m_bt (g 0 0 14)) := by rw [hs, crown_c _ _ _ _ _ (Or.inr ⟨by decide, by decide⟩), f17]
  have e14 : m_strip g 0 0 14 = m_winner g1 0 0 := by rw [hs, crown_14]
  have hc : ∀ (cc : Nat) (k i : Int), cc ≠ 0 → m_strip g cc k i = g cc k i := fun cc k i a => by rw [hs, crown_c _ _ _ _ _ (Or.inl a), fc cc k i a]
  have V := winner_in g1 0 0 (by rw [f0 4 (by decide)]; exact bc.1)
  rw [f0 4 (by decide), f0 13 (by decide), f17] at V
  refine ⟨?_, ?_, ?_, ?_⟩
  · refine iv_num h (W.strip w0) hc (fun i _ _ _ a b d => e0 i a b d) ?_ (by omega) ?_ (by rw [e0 9 (by decide) (by decide) (by decide)]; omega) (fun z => by rw [e0 9 (by decide) (by decide) (by decide)] at z; exact z)
    · rw [e0 9 (by decide) (by decide) (by decide)]; have := N.2.2.1; omega
    · have ee : ∀ x, m_ent (m_strip g) x = m_ent g x := fun x => by unfold m_ent; rw [hc 2 _ _ (by decide), e0 8 (by decide) (by decide) (by decide)]
      have ec : ∀ h S, m_coh (m_strip g) h S = m_coh g h S := fun h S => by unfold m_coh; rw [e0 4 (by decide) (by decide) (by decide)]; simp only [hc 2 _ _ (by decide)]
      unfold InvS
      simp only [e14, e17, e0 9 (by decide) (by decide) (by decide), e0 4 (by decide) (by decide) (by decide), e0 8 (by decide) (by decide) (by decide), e0 11 (by decide) (by decide) (by decide), e0 12 (by decide) (by decide) (by decide), e0 13 (by decide) (by decide) (by decide), ee, ec, hc 2 _ _ (by decide)]
      refine ⟨s1, s2, ?_, fun z => by omega, fun z => by omega, fun z => by omega, s7, s8, s9, fun b h => ?_⟩
      · rcases V with e | ⟨_, _, e, e', _⟩
        · exact Or.inl e
        · exact Or.inr ⟨e, e'⟩
      · rw [has_bo, has_bt w0, Bool.or_eq_true] at h
        rcases h with e | e
        · have Y := s10 b e; exact ⟨Y.1, Y.2.1, fun _ => hp⟩
        · have e := of_decide_eq_true e
          rw [e]
          have y := W.1.2.2.2.1
          have z : g 2 (g 0 0 14) 7 = g 0 0 8 := eq_of_beq wl.2
          exact ⟨wl.1, by omega, fun _ => hp⟩
  · rw [e14]
    unfold m_spoiled
    rw [w1, cond_true]
    unfold m_winner
    rw [← hg1, winLoop_17]
    have L : m_bd (m_bd (m_up g 0 0 17 (m_bo (g 0 0 17) (m_bt (g 0 0 14))) 0 0 13) (m_up g 0 0 17 (m_bo (g 0 0 17) (m_bt (g 0 0 14))) 0 0 17)) 0 = m_bd (m_bd (g 0 0 13) (g 0 0 17)) (m_bt (g 0 0 14)) := by
      refine set_eq (bd_nn _ _) (bd_nn _ _) (fun n => ?_)
      rw [up_s, up_i _ _ _ _ _ _ _ (by decide)]
      simp only [has_bd, has_bo, has_z]
      cases m_has (g 0 0 13) n <;> cases m_has (g 0 0 17) n <;> cases m_has (m_bt (g 0 0 14)) n <;> rfl
    rw [L]
  · rw [e14]
    intro z
    rcases V with e | ⟨_, _, _, e', _⟩
    · exact hw (by rw [← z]; exact e)
    · rw [z, has_bo, has_bt w0, decide_eq_true rfl, Bool.or_true] at e'; cases e'
  · rw [e17, pcn_add w0 (by omega) w2]
end PLJ
section PRE
/-- rows that nothing else looks at change: points, orders -/
theorem iv_rows {H J t p q c : Int} {g g' : m_St} (h : Iv H J t p q c g) (hW : Wf g') (hc : ∀ (cc : Nat) (k i : Int), cc ≠ 3 → cc ≠ 7 → cc ≠ 8 → g' cc k i = g cc k i) (h3 : ∀ k i, i ≠ 15 → g' 3 k i = g 3 k i) (hp : g 0 0 9 = 3 ∨ ∀ k, g' 3 k 15 = g 3 k 15) (h7 : ∀ j, 0 ≤ j → j < 5 → m_sm (fun b => g' 7 j b) 16 ≤ 12) : Iv H J t p q c g' := by
  obtain ⟨W, R, C, N, S, B, K, Q⟩ := h
  have ee : ∀ x, m_ent g' x = m_ent g x := fun x => by unfold m_ent; rw [hc 2 _ _ (by decide) (by decide) (by decide), hc 0 _ _ (by decide) (by decide) (by decide)]
  have ec : ∀ h S, m_coh g' h S = m_coh g h S := fun h S => by unfold m_coh; rw [hc 0 _ _ (by decide) (by decide) (by decide)]; simp only [hc 2 _ _ (by decide) (by decide) (by decide)]
  refine ⟨hW, R.same (fun _ i h => h3 _ _ (by omega)) (fun _ _ => hc 4 _ _ (by decide) (by decide) (by decide)) (fun _ _ => hc 5 _ _ (by decide) (by decide) (by decide)) (fun _ _ => hc 6 _ _ (by decide) (by decide) (by decide)) (fun x _ _ h => (ee x).trans h) (by rw [hc 0 _ _ (by decide) (by decide) (by decide)]; exact Int.le_refl _), fun b => (C b).same (fun _ => h3 _ _ (by decide)) (fun _ _ => hc 4 _ _ (by decide) (by decide) (by decide)), ?_, ?_, ?_, ?_, ?_⟩
  · unfold InvN
    simp only [hc 0 _ _ (by decide) (by decide) (by decide)]
    exact N
  · unfold InvS
    simp only [hc 0 _ _ (by decide) (by decide) (by decide), hc 2 _ _ (by decide) (by decide) (by decide), ee, ec]
    exact S
  · unfold InvB
    simp only [hc 0 _ _ (by decide) (by decide) (by decide), hc 2 _ _ (by decide) (by decide) (by decide)]
    exact B
  · unfold InvJ
    simp only [hc 0 _ _ (by decide) (by decide) (by decide), h3 _ 0 (by decide), h3 _ 7 (by decide)]
    refine ⟨K.1, fun j a b => ⟨(K.2 j a b).1, fun z => ?_, h7 j a b⟩⟩
    rcases hp with e | e
    · omega
    · rw [e]; exact (K.2 j a b).2.1 z
  · unfold InvQ coins used stockAll m_soldEver m_entCount m_quota
    simp only [hc 0 _ _ (by decide) (by decide) (by decide), hc 1 _ _ (by decide) (by decide) (by decide), hc 2 _ _ (by decide) (by decide) (by decide), ec, funext ee]
    exact Q
theorem inv_points {H J t p q c j b n : Int} {g : m_St} (h : Iv H J t p q c g) (hj : 0 ≤ j ∧ j < 5) (hb : 0 ≤ b ∧ b < 16) (hn : 0 ≤ n ∧ n ≤ m_ptsLeft g j) : Iv H J t p q c (m_points g j b n) ∧ m_ptsLeft (m_points g j b n) j = m_ptsLeft g j + g 7 j b - n ∧ n ≤ 12 := by
  have K := h.2.2.2.2.2.2.1
  have W := h.1
  have A := (W.2.2.2.2.2.1 j b hj.1 hj.2 hb.1 hb.2).2.2.2.1
  have Z := sm_one (h := fun x => g 7 j x) (h' := fun x => m_points g j b n 7 j x) (n := 16) (k := b) hb.1 hb.2 (fun i _ _ z => up_i _ _ _ _ _ _ _ z)
  have nn : 0 ≤ m_sm (fun x => g 7 j x) 16 := sm_nn (fun i a d => (W.2.2.2.2.2.1 j i hj.1 hj.2 a d).2.2.2.1.1)
  have eb : m_points g j b n 7 j b = n := up_s _ _ _ _ _
  unfold m_ptsLeft at hn ⊢
  simp only [eb] at Z
  refine ⟨iv_rows h (W.points ⟨hn.1, by omega⟩) (fun cc k i _ a _ => up_c _ _ _ _ _ _ _ _ a) (fun _ _ _ => rfl) (Or.inr fun _ => rfl) (fun j' a d => ?_), by omega, by omega⟩
  by_cases z : j' = j
  · subst z; omega
  · have e : ∀ x, m_points g j b n 7 j' x = g 7 j' x := fun x => up_k _ _ _ _ _ _ _ z
    simp only [e]
    exact (K.2 j' a d).2.2
theorem rank_c {j : Int} {cc : Nat} {k i : Int} (hc : cc ≠ 8) : ∀ (n : Nat) (g : m_St) (rest : Int), m_rankLoop j n g rest cc k i = g cc k i
  | 0, _, _ => rfl
  | n + 1, g, rest => (rank_c hc n _ _).trans (up_c _ _ _ _ _ _ _ _ hc)
theorem order_c (g : m_St) (j o : Int) (cc : Nat) (k i : Int) (h3 : cc ≠ 3) (h8 : cc ≠ 8) : m_takeOrder g j o cc k i = g cc k i := (up_c _ _ _ _ _ _ _ _ h3).trans (rank_c h8 _ _ _)
theorem inv_vote {H J t p q c j o : Int} {g : m_St} (h : Iv H J t p q c g) (hp : g 0 0 9 = 3) : Iv H J t p q c (m_takeOrder g j o) ∧ m_takeOrder g j o 3 j 15 = m_pcn (g 0 0 13) := by
  have K := h.2.2.2.2.2.2.1
  have s7 := h.2.2.2.2.1.2.2.2.2.2.2.1
  refine ⟨iv_rows h h.1.order (fun cc k i a _ d => order_c g j o cc k i a d) (fun k i a => ?_) (Or.inl hp) (fun j' a d => ?_), ?_⟩
  · exact (up_i _ _ _ _ _ _ _ a).trans (rank_c (by decide) _ _ _)
  · simp only [order_c g j o 7 _ _ (by decide) (by decide)]
    exact (K.2 j' a d).2.2
  · have e : m_takeOrder g j o 3 j 15 = min 5 (m_pcn (g 0 0 13)) := up_s _ _ _ _ _
    rw [e]; omega
/-! the books are handed out -/
theorem inv_read {H J t p q c : Int} {g : m_St} (h : Iv H J t p q c g) (hp : g 0 0 9 = 0) : Iv H J (t + 1) p q c (m_read g) ∧ 0 ≤ (m_readAll g).2 ∧ (m_readAll g).2 ≤ 3 * m_entCount g := by
  obtain ⟨W, R, C, N, S, B, K, Q⟩ := h
  have bc := W.bc
  have D := RD.all W (fun j a b => (K.2 j a b).1 hp) (fun b a d => by have := B.1 b a d; omega) (g 0 0 4).toNat (by omega)
  have eA : m_fo m_readStep (g, 0) (g 0 0 4).toNat = m_readAll g := rfl
  rw [eA] at D
  obtain ⟨V, k1, k2, k3, k4, k5, k6⟩ := D
  have er : m_read g = m_up (m_readAll g).1 0 0 9 1 := rfl
  generalize (m_readAll g).1 = v at V k1 k2 k3 k4 er
  have e0 : ∀ i, i ≠ 9 → m_read g 0 0 i = g 0 0 i := fun i a => by rw [er, up_i _ _ _ _ _ _ _ a]; exact k1 0 0 i (by decide) (by decide) (by decide)
  have e9 : m_read g 0 0 9 = 1 := by rw [er]; exact up_s _ _ _ _ _
  have ev : ∀ (cc : Nat) (k i : Int), cc ≠ 0 → m_read g cc k i = v cc k i := fun cc k i a => by rw [er, up_c _ _ _ _ _ _ _ _ a]
  have ec : ∀ (cc : Nat) (k i : Int), cc ≠ 0 → cc ≠ 3 → cc ≠ 4 → cc ≠ 5 → m_read g cc k i = g cc k i := fun cc k i a b d e => (ev cc k i a).trans (k1 cc k i b d e)
  have e3 : ∀ j i, i ≠ 7 → i ≠ 8 → m_read g 3 j i = g 3 j i := fun j i a b => (ev 3 j i (by decide)).trans (k2 j i a b)
  have ee : ∀ x, m_ent (m_read g) x = m_ent g x := fun x => by unfold m_ent; rw [ec 2 _ _ (by decide) (by decide) (by decide) (by decide), e0 8 (by decide)]
  have ve : ∀ x, m_ent v x = m_ent g x := fun x => by unfold m_ent; rw [k1 2 _ _ (by decide) (by decide) (by decide), k1 0 _ _ (by decide) (by decide) (by decide)]
  have eh : ∀ h S, m_coh (m_read g) h S = m_coh g h S := fun h S => by unfold m_coh; rw [e0 4 (by decide)]; simp only [ec 2 _ _ (by decide) (by decide) (by decide) (by decide)]
  have hW : Wf (m_read g) := by
    have V1 := V.1
    rw [er]
    refine V.num ⟨V1.1, V1.2.1, V1.2.2.1, V1.2.2.2.1, by simp [m_up], V1.2.2.2.2.2⟩ V.2.1
  have e4' : ((g 0 0 4).toNat : Int) = g 0 0 4 := Int.toNat_of_nonneg bc.1
  obtain ⟨n1, n2, n3, n4⟩ := N
  have yr := W.1.2.2.2.1
  refine ⟨⟨hW, fun j a b => ?_, fun b => (k4 b).same (fun _ => ev 3 _ _ (by decide)) (fun _ _ => ev 4 _ _ (by decide)), ?_, ?_, ?_, ?_, ?_⟩, k5, k6⟩
  · have X := k3 j a b
    have M := (R j a b).2
    have z7 := (K.2 j a b).1 hp
    have w := W.2.2.2.2.1 j a b
    have z9 : g 3 j 9 = 0 := by omega
    have z10 : g 3 j 10 = 0 := by omega
    rw [e4'] at X
    refine ⟨X.1.same (fun i => ev 3 j i (by decide)) (fun i => ev 4 j i (by decide)) (fun i => ev 5 j i (by decide)) (fun x => (ee x).trans (ve x).symm) |> fun h => by rw [e0 4 (by decide)]; exact h, ?_⟩
    obtain ⟨⟨m1, m2, m3, m4, m5⟩, m6⟩ := M
    simp only [Mj, Mj0, e3 j 9 (by decide) (by decide), e3 j 10 (by decide) (by decide), e3 j 12 (by decide) (by decide), ec 6 _ _ (by decide) (by decide) (by decide) (by decide), z9, z10]
    refine ⟨⟨fun k k0 k1 => by omega, fun b b0 b1 => ?_, fun k k0 k1 => by omega, ?_, m5⟩, fun z => ?_⟩
    · rcases m2 b b0 b1 with e | ⟨k, x, y, _⟩
      · exact Or.inl e
      · omega
    · rw [← z9]; exact m4
    · rw [ev 3 j 7 (by decide)] at z
      rw [ev 5 j 0 (by decide)]
      have := X.1.2.2.1 0 (Int.le_refl _) z
      exact this.1
  · refine ⟨by rw [e0 3 (by decide)]; exact n1, by rw [e0 5 (by decide)]; exact n2, ?_, ?_⟩
    · rw [e0 8 (by decide), e9]; omega
    · rw [e0 10 (by decide)]; omega
  · obtain ⟨s1, s2, s3, s4, s5, s6, s7, s8, s9, s10⟩ := S
    have z11 := s4 (by omega)
    have z13 := s5 (by omega)
    have z14 := s6 (by omega)
    unfold InvS
    simp only [e9, e0 4 (by decide), e0 8 (by decide), e0 11 (by decide), e0 12 (by decide), e0 13 (by decide), e0 14 (by decide), e0 17 (by decide), ee, eh, ec 2 _ _ (by decide) (by decide) (by decide) (by decide)]
    refine ⟨s1, s2, s3, fun _ => z11, fun _ => z13, fun _ => z14, s7, s8, s9, fun b h => ?_⟩
    have Y := s10 b h
    exact ⟨Y.1, Y.2.1, fun z => by have := Y.2.2 z; omega⟩
  · unfold InvB
    simp only [e0 4 (by decide), e0 8 (by decide), ec 2 _ _ (by decide) (by decide) (by decide) (by decide)]
    exact ⟨fun b a d => by have := B.1 b a d; exact ⟨this.1, this.2.1, this.2.2.1, by omega⟩, B.2⟩
  · unfold InvJ
    simp only [e9, e3 _ 0 (by decide) (by decide), e3 _ 15 (by decide) (by decide), ec 7 _ _ (by decide) (by decide) (by decide) (by decide)]
    exact ⟨K.1, fun j a b => ⟨fun z => absurd z (by decide), fun _ => (K.2 j a b).2.1 (by omega), (K.2 j a b).2.2⟩⟩
  · unfold InvQ coins used stockAll m_soldEver m_entCount m_quota
    simp only [e0 4 (by decide), e0 12 (by decide), ec 1 _ _ (by decide) (by decide) (by decide) (by decide), ec 2 _ _ (by decide) (by decide) (by decide) (by decide), eh, funext ee]
    exact Q
end PRE
end
section
section PNX
/-! a new year -/
theorem clear_at (j : Int) (g : m_St) (cc : Nat) (k i : Int) : m_clearYear j g cc k i = if k = j ∧ cc = 3 ∧ (i = 4 ∨ i = 7 ∨ i = 8 ∨ i = 9 ∨ i = 10 ∨ i = 12 ∨ i = 15) then 0 else if k = j ∧ cc = 6 ∧ 0 ≤ i ∧ i < 16 then -1 else if k = j ∧ cc = 7 ∧ 0 ≤ i ∧ i < 16 then 0 else g cc k i := by
  have L : ∀ (n : Nat) (u : m_St), m_fo (fun b u => m_up (m_up u 6 j b (-1)) 7 j b 0) u n cc k i = if k = j ∧ cc = 6 ∧ 0 ≤ i ∧ i < n then -1 else if k = j ∧ cc = 7 ∧ 0 ≤ i ∧ i < n then 0 else u cc k i := by
    intro n u
    induction n with
    | zero =>
      show u cc k i = _
      rw [if_neg (by omega), if_neg (by omega)]
    | succ n ih =>
      show m_up (m_up (m_fo _ u n) 6 j n (-1)) 7 j n 0 cc k i = _
      simp only [m_up, ih]
      repeat' split
      all_goals first | rfl | (exfalso; omega)
  unfold m_clearYear m_clearRows
  rw [L]
  by_cases a : k = j
  · by_cases b : cc = 3
    · rw [if_neg (by omega), if_neg (by omega)]
      subst a; subst b
      by_cases d : i = 4 ∨ i = 7 ∨ i = 8 ∨ i = 9 ∨ i = 10 ∨ i = 12 ∨ i = 15
      · rw [if_pos ⟨rfl, rfl, d⟩]
        rcases d with d | d | d | d | d | d | d <;> subst d <;> simp [m_up]
      · rw [if_neg (fun x => d x.2.2), if_neg (by omega), if_neg (by omega)]
        have e4 : i ≠ 4 := by omega
        have e7 : i ≠ 7 := by omega
        have e8 : i ≠ 8 := by omega
        have e9 : i ≠ 9 := by omega
        have e10 : i ≠ 10 := by omega
        have e12 : i ≠ 12 := by omega
        have e15 : i ≠ 15 := by omega
        simp [m_up, e4, e7, e8, e9, e10, e12, e15]
    · rw [if_neg (show ¬ (k = j ∧ cc = 3 ∧ _) from fun x => b x.2.1)]
      simp [m_up, b]
  · simp [m_up, a]
theorem next_at (g : m_St) (cc : Nat) (k i : Int) (h0 : cc ≠ 0) (h9 : cc ≠ 9) : m_next g cc k i = if 0 ≤ k ∧ k < 5 ∧ cc = 3 ∧ (i = 4 ∨ i = 7 ∨ i = 8 ∨ i = 9 ∨ i = 10 ∨ i = 12 ∨ i = 15) then 0 else if 0 ≤ k ∧ k < 5 ∧ cc = 6 ∧ 0 ≤ i ∧ i < 16 then -1 else if 0 ≤ k ∧ k < 5 ∧ cc = 7 ∧ 0 ≤ i ∧ i < 16 then 0 else if 0 ≤ k ∧ k < 5 ∧ cc = 1 ∧ i = 1 then 0 else g cc k i := by
  have base : ∀ n : Nat, m_fo (fun h u => m_up u 1 h 1 0) (m_next2 (m_next1 g)) n cc k i = if 0 ≤ k ∧ k < n ∧ cc = 1 ∧ i = 1 then 0 else g cc k i := by
    intro n
    induction n with
    | zero =>
      rw [if_neg (by omega)]
      show m_next2 (m_next1 g) cc k i = _
      simp [m_next2, m_next1, m_setRules, m_up, h0, h9]
    | succ n ih =>
      show m_up (m_fo _ _ n) 1 n 1 0 cc k i = _
      simp only [m_up, ih]
      by_cases a : cc = 1 ∧ k = n ∧ i = 1
      · rw [if_pos a, if_pos (by omega)]
      · rw [if_neg a]
        by_cases b : 0 ≤ k ∧ k < n ∧ cc = 1 ∧ i = 1
        · rw [if_pos b, if_pos (by omega)]
        · rw [if_neg b, if_neg (by omega)]
  have L : ∀ n : Nat, m_fo (fun j u => m_clearYear j u) (m_fo (fun h u => m_up u 1 h 1 0) (m_next2 (m_next1 g)) 5) n cc k i = if 0 ≤ k ∧ k < n ∧ cc = 3 ∧ (i = 4 ∨ i = 7 ∨ i = 8 ∨ i = 9 ∨ i = 10 ∨ i = 12 ∨ i = 15) then 0 else if 0 ≤ k ∧ k < n ∧ cc = 6 ∧ 0 ≤ i ∧ i < 16 then -1 else if 0 ≤ k ∧ k < n ∧ cc = 7 ∧ 0 ≤ i ∧ i < 16 then 0 else if 0 ≤ k ∧ k < 5 ∧ cc = 1 ∧ i = 1 then 0 else g cc k i := by
    intro n
    induction n with
    | zero =>
      rw [if_neg (by omega), if_neg (by omega), if_neg (by omega)]
      exact base 5
    | succ n ih =>
      show m_clearYear n (m_fo _ _ n) cc k i = _
      rw [clear_at, ih]
      repeat' split
      all_goals first | rfl | (exfalso; omega)
  exact L 5
theorem next_0 (g : m_St) (i : Int) : m_next g 0 0 i = m_next2 (m_next1 g) 0 0 i := by
  have A : ∀ (n : Nat) (u : m_St), m_fo (fun h u => m_up u 1 h 1 0) u n 0 0 i = u 0 0 i := fun n u => by
    induction n with
    | zero => rfl
    | succ n ih => exact (up_c _ _ _ _ _ _ _ _ (by decide)).trans ih
  have B : ∀ (n : Nat) (u : m_St), m_fo (fun j u => m_clearYear j u) u n 0 0 i = u 0 0 i := fun n u => by
    induction n with
    | zero => rfl
    | succ n ih =>
      refine Eq.trans ?_ ih
      show m_clearYear n _ 0 0 i = _
      rw [clear_at, if_neg (by omega), if_neg (by omega), if_neg (by omega)]
  exact (B 5 _).trans (A 5 _)
theorem inv_next {H J t p q c : Int} {g : m_St} (h : Iv H J t p q c g) (hH : H ≤ 5) (hp : g 0 0 9 = 4) (hy : g 0 0 8 < 20) : Iv H J (t + 1) p q 0 (m_next g) := by
  obtain ⟨W, R, C, N, S, B, K, Q⟩ := h
  have bc := W.bc
  have n2 : ∀ i, m_next g 0 0 i = if i = 8 then g 0 0 8 + 1 else if i = 9 then 0 else if i = 15 then g 0 0 14 else if i = 14 then -1 else if i = 12 then g 0 0 11 else if i = 11 then 0 else if i = 13 then 0 else g 0 0 i := fun i => by
    rw [next_0]
    by_cases a8 : i = 8
    · subst a8; simp [m_next2, m_next1, m_setRules, m_up]
    by_cases a9 : i = 9
    · subst a9; simp [m_next2, m_next1, m_setRules, m_up]
    by_cases a15 : i = 15
    · subst a15; simp [m_next2, m_next1, m_setRules, m_up]
    by_cases a14 : i = 14
    · subst a14; simp [m_next2, m_next1, m_setRules, m_up]
    by_cases a12 : i = 12
    · subst a12; simp [m_next2, m_next1, m_setRules, m_up]
    by_cases a11 : i = 11
    · subst a11; simp [m_next2, m_next1, m_setRules, m_up]
    by_cases a13 : i = 13
    · subst a13; simp [m_next2, m_next1, m_setRules, m_up]
    simp [m_next2, m_next1, m_setRules, m_up, a8, a9, a15, a14, a12, a11, a13]
  have e3 : m_next g 0 0 3 = g 0 0 3 := n2 3
  have e4 : m_next g 0 0 4 = g 0 0 4 := n2 4
  have e5 : m_next g 0 0 5 = g 0 0 5 := n2 5
  have e8 : m_next g 0 0 8 = g 0 0 8 + 1 := n2 8
  have e9 : m_next g 0 0 9 = 0 := n2 9
  have e10 : m_next g 0 0 10 = g 0 0 10 := n2 10
  have e11 : m_next g 0 0 11 = 0 := n2 11
  have e12 : m_next g 0 0 12 = g 0 0 11 := n2 12
  have e13 : m_next g 0 0 13 = 0 := n2 13
  have e14 : m_next g 0 0 14 = -1 := n2 14
  have e17 : m_next g 0 0 17 = g 0 0 17 := n2 17
  have c2 : ∀ k i, m_next g 2 k i = g 2 k i := fun k i => by rw [next_at _ _ _ _ (by decide) (by decide), if_neg (by omega), if_neg (by omega), if_neg (by omega), if_neg (by omega)]
  have c10 : ∀ k, m_next g 1 k 0 = g 1 k 0 := fun k => by rw [next_at _ _ _ _ (by decide) (by decide), if_neg (by omega), if_neg (by omega), if_neg (by omega), if_neg (by omega)]
  have c11 : ∀ k, 0 ≤ k → k < 5 → m_next g 1 k 1 = 0 := fun k a b => by rw [next_at _ _ _ _ (by decide) (by decide), if_neg (by omega), if_neg (by omega), if_neg (by omega), if_pos ⟨a, b, rfl, rfl⟩]
  have c30 : ∀ k, m_next g 3 k 0 = g 3 k 0 := fun k => by rw [next_at _ _ _ _ (by decide) (by decide), if_neg (by omega), if_neg (by omega), if_neg (by omega), if_neg (by omega)]
  have c3 : ∀ k i, 0 ≤ k → k < 5 → (i = 4 ∨ i = 7 ∨ i = 8 ∨ i = 9 ∨ i = 10 ∨ i = 12 ∨ i = 15) → m_next g 3 k i = 0 := fun k i a b d => by rw [next_at _ _ _ _ (by decide) (by decide), if_pos ⟨a, b, rfl, d⟩]
  have c6 : ∀ k i, 0 ≤ k → k < 5 → 0 ≤ i → i < 16 → m_next g 6 k i = -1 := fun k i a b d e => by rw [next_at _ _ _ _ (by decide) (by decide), if_neg (by omega), if_pos ⟨a, b, rfl, d, e⟩]
  have c7 : ∀ k i, 0 ≤ k → k < 5 → 0 ≤ i → i < 16 → m_next g 7 k i = 0 := fun k i a b d e => by rw [next_at _ _ _ _ (by decide) (by decide), if_neg (by omega), if_neg (by omega), if_pos ⟨a, b, rfl, d, e⟩]
  have ne : ∀ x, 0 ≤ x → x < g 0 0 4 → m_ent (m_next g) x = false := fun x a b => by
    have := (B.1 x a b).2.2.1
    unfold m_ent
    rw [c2, e8]
    simp; omega
  obtain ⟨n1, n2', n3, n4⟩ := N
  obtain ⟨s1, s2, s3, s4, s5, s6, s7, s8, s9, s10⟩ := S
  have eh : ∀ h S, m_coh (m_next g) h S = m_coh g h S := fun h S => by unfold m_coh; rw [e4]; simp only [c2]
  refine ⟨W.next hy, fun j a b => ⟨?_, ?_⟩, fun b => ⟨0, Int.le_refl _, by decide, fun j k a0 a1 b0 b1 _ => by rw [c3 j 7 a0 a1 (by simp)] at b1; omega⟩, ⟨by rw [e3]; exact n1, by rw [e5]; exact n2', by rw [e8, e9]; omega, by rw [e10]; omega⟩, ?_, ?_, ?_, ?_⟩
  · have z7 := c3 j 7 a b (by simp)
    have z8 := c3 j 8 a b (by simp)
    refine ⟨fun k x y => by omega, fun k x y => by omega, fun k x y => by omega, fun k x y => by omega, fun x => by omega, fun _ => z8⟩
  · have z7 := c3 j 7 a b (by simp)
    have z9 := c3 j 9 a b (by simp)
    have z12 := c3 j 12 a b (by simp)
    refine ⟨⟨fun k x y => by omega, fun x x0 x1 => Or.inl (c6 j x a b x0 x1), fun k x y => by omega, ?_, ?_⟩, fun x => by omega⟩
    · rw [z9]
      have := sm_congr (h := fun x => m_ib (m_next g 6 j x != -1)) (h' := fun _ => 0) (n := 16) (fun i i0 i1 => by rw [c6 j i a b i0 i1]; rfl)
      exact this.symm
    · rw [z12]
      have := sm_congr (h := fun x => max 0 (m_next g 6 j x)) (h' := fun _ => 0) (n := 16) (fun i i0 i1 => by rw [c6 j i a b i0 i1]; rfl)
      exact this.symm
  · refine ⟨fun b h => ?_, fun b h => ?_, Or.inl e14, fun _ => e11, fun _ => e13, fun _ => e14, ?_, fun h => ?_, fun b h => ?_, fun b h => ?_⟩
    · rw [e11, has_z] at h; cases h
    · rw [e13, has_z] at h; cases h
    · rw [e13]; decide
    · have : m_coh g h 0 = 0 := by
        have := sm_congr (h := fun x => m_ib (m_has 0 x && g 2 x 0 == h)) (h' := fun _ => 0) (n := (g 0 0 4).toNat) (fun i i0 i1 => by rw [has_z]; rfl)
        have z : ∀ n : Nat, m_sm (fun _ => (0 : Int)) n = 0 := fun n => by induction n with
          | zero => rfl
          | succ n ih => show m_sm _ n + 0 = 0; omega
        exact this.trans (z _)
      rw [e11, eh]
      omega
    · rw [e12] at h
      rw [e4]
      exact (s1 b h).1
    · rw [e17] at h
      have Y := s10 b h
      have X := B.1 b (has_nn h) Y.1
      rw [e4, c2, e8, e9]
      exact ⟨Y.1, Y.2.1, fun z => by omega⟩
  · unfold InvB
    simp only [e4, e8, c2]
    exact ⟨fun b a d => by have := B.1 b a d; exact ⟨this.1, this.2.1, by omega, by omega⟩, B.2⟩
  · unfold InvJ
    simp only [e9, c30]
    refine ⟨K.1, fun j a b => ⟨fun _ => c3 j 7 a b (by simp), fun _ => c3 j 15 a b (by simp), ?_⟩⟩
    have := sm_congr (h := fun x => m_next g 7 j x) (h' := fun _ => 0) (n := 16) (fun i i0 i1 => c7 j i a b i0 i1)
    rw [this]; decide
  · obtain ⟨q1, q2, q3, q4⟩ := Q
    have es : m_soldEver (m_next g) = m_soldEver g := by unfold m_soldEver; rw [e4]; simp only [c2]
    have et : stockAll (m_next g) = stockAll g := by unfold stockAll; rw [e4]; simp only [c2]
    have zz : ∀ n : Nat, m_sm (fun _ => (0 : Int)) n = 0 := fun n => by induction n with
      | zero => rfl
      | succ n ih => show m_sm _ n + 0 = 0; omega
    refine ⟨by rw [es]; unfold coins; simp only [c10]; exact q1, by rw [et, es]; exact q2, ?_, fun h a d => ?_⟩
    · have a1 : m_entCount (m_next g) = 0 := by
        unfold m_entCount
        rw [e4]
        exact (sm_congr (h := fun x => m_ib (m_ent (m_next g) x)) (h' := fun _ => 0) (fun i i0 i1 => by rw [ne i i0 (by omega)]; rfl)).trans (zz _)
      have a2 : used (m_next g) H = 0 := by
        unfold used
        exact (sm_congr (h := fun x => m_next g 1 x 1) (h' := fun _ => 0) (fun i i0 i1 => c11 i i0 (by omega))).trans (zz _)
      omega
    · rw [c11 h a (by omega)]
      have := quota_b (m_next g) h (by rw [e4]; exact bc.1)
      omega
end PNX
section PPA
/-- what a book sells in d days -/
def given (g : m_St) (d b : Int) : Int := min (m_asked g b * d) (g 2 b 8)
theorem asked_0 {g u : m_St} (h : ∀ i, u 0 0 i = g 0 0 i) (b : Int) : m_asked u b = m_asked g b := by
  unfold m_asked
  rw [h, h, h, h]
theorem sell_8 (g : m_St) (d b k : Int) : m_sellStep d b g 2 k 8 = if k = b then g 2 k 8 - given g d b else g 2 k 8 := by
  unfold m_sellStep m_sellB given
  by_cases q : k = b
  · subst q; simp [m_up]
  · simp [m_up, q]
theorem sell_9 (g : m_St) (d b k : Int) : m_sellStep d b g 2 k 9 = if k = b then g 2 k 9 + given g d b else g 2 k 9 := by
  unfold m_sellStep m_sellB given
  by_cases q : k = b
  · subst q; simp [m_up]
  · simp [m_up, q]
theorem sell_10 (g : m_St) (d b k : Int) : m_sellStep d b g 2 k 10 = if k = b then g 2 k 10 + (m_asked g b * d - given g d b) else g 2 k 10 := by
  unfold m_sellStep m_sellB given
  by_cases q : k = b
  · subst q; simp [m_up]
  · simp [m_up, q]
theorem sell_1 (g : m_St) (d b k i : Int) : m_sellStep d b g 1 k i = if k = g 2 b 0 ∧ i = 0 then g 1 k 0 + given g d b else g 1 k i := by
  unfold m_sellStep m_sellB given
  by_cases q : k = g 2 b 0 ∧ i = 0
  · rw [if_pos q, q.1, q.2]; simp [m_up]
  · rw [if_neg q]
    by_cases a : k = g 2 b 0
    · have e : i ≠ 0 := fun z => q ⟨a, z⟩
      simp [m_up, e]
    · simp [m_up, a]
/-- the books sell one after another, those below n done -/
theorem sells_at {g : m_St} {d H : Int} (hH : ∀ b, 0 ≤ b → b < g 0 0 4 → 0 ≤ g 2 b 0 ∧ g 2 b 0 < H) : ∀ n : Nat, (n : Int) ≤ g 0 0 4 → (∀ i, m_fo (m_sellStep d) g n 0 0 i = g 0 0 i) ∧ (∀ b, m_fo (m_sellStep d) g n 2 b 8 = if 0 ≤ b ∧ b < n then g 2 b 8 - given g d b else g 2 b 8) ∧ (∀ b, m_fo (m_sellStep d) g n 2 b 9 = if 0 ≤ b ∧ b < n then g 2 b 9 + given g d b else g 2 b 9) ∧ (∀ b, m_fo (m_sellStep d) g n 2 b 10 = if 0 ≤ b ∧ b < n then g 2 b 10 + (m_asked g b * d - given g d b) else g 2 b 10) ∧ (∀ k, m_fo (m_sellStep d) g n 1 k 1 = g 1 k 1) ∧ (∀ k, m_fo (m_sellStep d) g n 2 k 0 = g 2 k 0) ∧ m_sm (fun k => m_fo (m_sellStep d) g n 1 k 0) H.toNat = m_sm (fun k => g 1 k 0) H.toNat + m_sm (given g d) n
  | 0, _ => ⟨fun _ => rfl, fun b => by rw [if_neg (by omega)]; rfl, fun b => by rw [if_neg (by omega)]; rfl, fun b => by rw [if_neg (by omega)]; rfl, fun _ => rfl, fun _ => rfl, by show _ = _ + 0; rw [Int.add_zero]; rfl⟩
  | n + 1, q => by
    obtain ⟨h0, h8, h9, h10, h11, h20, h1⟩ := sells_at hH n (by omega)
    generalize hu : m_fo (m_sellStep d) g n = u at h0 h8 h9 h10 h11 h20 h1
    have e : m_fo (m_sellStep d) g (n + 1) = m_sellStep d n u := by rw [← hu]; rfl
    rw [e]
    have gi : given u d n = given g d n := by unfold given; rw [asked_0 h0, h8, if_neg (by omega)]
    have hn := hH n (by omega) (by omega)
    refine ⟨fun i => (sell_c (by decide) (by decide)).trans (h0 i), fun b => ?_, fun b => ?_, fun b => ?_, fun k => ?_, fun k => (sell_2 (by decide)).trans (h20 k), ?_⟩
    · rw [sell_8, h8, gi]
      repeat' split
      all_goals first | rfl | (exfalso; omega) | (subst_vars; rfl)
    · rw [sell_9, h9, gi]
      repeat' split
      all_goals first | rfl | (exfalso; omega) | (subst_vars; rfl)
    · rw [sell_10, h10, gi, asked_0 h0]
      repeat' split
      all_goals first | rfl | (exfalso; omega) | (subst_vars; rfl)
    · rw [sell_1, if_neg (by omega)]; exact h11 k
    · have Z := sm_one (h := fun k => u 1 k 0) (h' := fun k => m_sellStep d n u 1 k 0) (n := H.toNat) (k := g 2 n 0) hn.1 (by omega) (fun i _ _ z => by rw [sell_1, h20, if_neg (fun x => z x.1)])
      have z : m_sellStep d n u 1 (g 2 n 0) 0 = u 1 (g 2 n 0) 0 + given g d n := by rw [sell_1, h20, if_pos ⟨rfl, rfl⟩, gi]
      have s : m_sm (given g d) (n + 1) = m_sm (given g d) n + given g d n := rfl
      rw [s]
      omega
theorem inv_pass {H J t p q c n : Int} {g : m_St} (h : Iv H J t p q c g) (hH : H ≤ 5) (hn : 1 ≤ n ∧ n ≤ 6) (ht : t < 90) : Iv H J (t + 1) p q c (m_pass g n) ∧ m_missedEver (m_pass g n) = m_missedEver g + m_wouldMiss g n ∧ (∀ j, 0 ≤ j → j < J → g 3 j 10 ≤ m_pass g n 3 j 10 ∧ m_pass g n 3 j 10 ≤ g 3 j 10 + n * g 3 j 0) ∧ m_pass g n 0 0 9 = g 0 0 9 ∧ ∀ j, m_pass g n 3 j 0 = g 3 j 0 := by
  obtain ⟨W, R, C, N, S, B, K, Q⟩ := h
  have bc := W.bc
  obtain ⟨n1, n2, n3, n4⟩ := N
  have yr := W.1.2.2.2.1
  have ph := W.1.2.2.2.2.1
  have hW : Wf (m_pass g n) := W.pass (by omega) (by omega)
  obtain ⟨w1, w2, w3, w4, w5⟩ := days_of W R n.toNat
  have ev : m_passDays g n = m_fo (fun _ u => m_readDay u) g n.toNat := rfl
  have ep : m_pass g n = m_up (m_sellFor (m_passDays g n) n) 0 0 10 (g 0 0 10 + n) := rfl
  rw [ev] at ep
  generalize hv : m_fo (fun _ u => m_readDay u) g n.toNat = v at w1 w2 w3 w4 w5 ep
  have v0 : ∀ i, v 0 0 i = g 0 0 i := fun i => w3 0 0 i (by decide) (by decide)
  have v2 : ∀ k i, v 2 k i = g 2 k i := fun k i => w3 2 k i (by decide) (by decide)
  have hHv : ∀ b, 0 ≤ b → b < v 0 0 4 → 0 ≤ v 2 b 0 ∧ v 2 b 0 < H := fun b a d => by
    rw [v0] at d
    rw [v2]
    exact ⟨(W.2.2.2.1 b a (by omega)).1.1, (B.1 b a d).1⟩
  have bcv : ((v 0 0 4).toNat : Int) = g 0 0 4 := by rw [v0]; exact Int.toNat_of_nonneg bc.1
  obtain ⟨x0, x8, x9, x10, x11, x20, x1⟩ := sells_at (d := n) hHv (v 0 0 4).toNat (by rw [bcv, v0]; exact Int.le_refl _)
  have S2 := Wf.sells (d := n) w1 (by omega) (v 0 0 4).toNat (by have := bcv; omega)
  have es : m_sellFor v n = m_fo (m_sellStep n) v (v 0 0 4).toNat := rfl
  rw [es] at ep
  generalize m_fo (m_sellStep n) v (v 0 0 4).toNat = u at ep x0 x8 x9 x10 x11 x20 x1 S2
  have gv : ∀ b, given v n b = given g n b := fun b => by unfold given; rw [asked_0 v0, v2]
  have av : ∀ b, m_asked v b = m_asked g b := asked_0 v0
  have e0 : ∀ i, i ≠ 10 → m_pass g n 0 0 i = g 0 0 i := fun i a => by rw [ep, up_i _ _ _ _ _ _ _ a, x0, v0]
  have e10 : m_pass g n 0 0 10 = g 0 0 10 + n := by rw [ep]; exact up_s _ _ _ _ _
  have ec : ∀ (cc : Nat) (k i : Int), cc ≠ 0 → m_pass g n cc k i = u cc k i := fun cc k i a => by rw [ep, up_c _ _ _ _ _ _ _ _ a]
  have e2 : ∀ k i, i < 8 ∨ 10 < i → m_pass g n 2 k i = g 2 k i := fun k i a => by rw [ec 2 k i (by decide), S2.2.2 k i a, v2]
  have er : ∀ (cc : Nat) (k i : Int), cc ≠ 0 → cc ≠ 1 → cc ≠ 2 → m_pass g n cc k i = v cc k i := fun cc k i a b d => (ec cc k i a).trans (S2.2.1 cc k i b d)
  have e8 : ∀ b, m_pass g n 2 b 8 = if 0 ≤ b ∧ b < g 0 0 4 then g 2 b 8 - given g n b else g 2 b 8 := fun b => by rw [ec 2 b 8 (by decide), x8, bcv, v2, gv]
  have e9 : ∀ b, m_pass g n 2 b 9 = if 0 ≤ b ∧ b < g 0 0 4 then g 2 b 9 + given g n b else g 2 b 9 := fun b => by rw [ec 2 b 9 (by decide), x9, bcv, v2, gv]
  have em : ∀ b, m_pass g n 2 b 10 = if 0 ≤ b ∧ b < g 0 0 4 then g 2 b 10 + (m_asked g b * n - given g n b) else g 2 b 10 := fun b => by rw [ec 2 b 10 (by decide), x10, bcv, v2, gv, av]
  have ee : ∀ x, m_ent (m_pass g n) x = m_ent g x := fun x => by unfold m_ent; rw [e2 _ 7 (by decide), e0 8 (by decide)]
  have eh : ∀ h S, m_coh (m_pass g n) h S = m_coh g h S := fun h S => by unfold m_coh; rw [e0 4 (by decide)]; simp only [e2 _ 0 (by decide)]
  have sm3 : ∀ i f, (∀ b, m_pass g n 2 b i = if 0 ≤ b ∧ b < g 0 0 4 then g 2 b i + f b else g 2 b i) → m_sm (fun b => m_pass g n 2 b i) (m_pass g n 0 0 4).toNat = m_sm (fun b => g 2 b i) (g 0 0 4).toNat + m_sm f (g 0 0 4).toNat := fun i f h => by
    rw [e0 4 (by decide), ← sm_add]
    exact sm_congr (fun b a d => by rw [h, if_pos ⟨a, by omega⟩])
  have f8 := sm3 8 (fun b => - given g n b) (fun b => by rw [e8]; split <;> omega)
  have f9 := sm3 9 (given g n) e9
  have f10 := sm3 10 (fun b => m_asked g b * n - given g n b) em
  have neg : ∀ m : Nat, m_sm (fun b => - given g n b) m = - m_sm (given g n) m := fun m => by induction m with
    | zero => rfl
    | succ m ih => show m_sm _ m + - given g n m = - (m_sm _ m + given g n m); rw [ih]; omega
  rw [neg] at f8
  have gx : ∀ m : Nat, m_sm (given v n) m = m_sm (given g n) m := fun m => sm_congr (fun b _ _ => gv b)
  rw [gx] at x1
  have ej : ∀ j i, i ≠ 9 → i ≠ 12 → i ≠ 10 → m_pass g n 3 j i = g 3 j i := fun j i a b d => (er 3 j i (by decide) (by decide) (by decide)).trans (w4 j i a b d)
  refine ⟨⟨hW, ?_, fun b => (C b).same (fun j => ej j 7 (by decide) (by decide) (by decide)) (fun _ _ => (er 4 _ _ (by decide) (by decide) (by decide)).trans (w3 4 _ _ (by decide) (by decide))), ?_, ?_, ?_, ?_, ?_⟩, ?_, fun j a b => ?_, e0 9 (by decide), fun j => ej j 0 (by decide) (by decide) (by decide)⟩
  · refine w2.same (fun j i _ => er 3 j i (by decide) (by decide) (by decide)) (fun _ _ => er 4 _ _ (by decide) (by decide) (by decide)) (fun _ _ => er 5 _ _ (by decide) (by decide) (by decide)) (fun _ _ => er 6 _ _ (by decide) (by decide) (by decide)) (fun x _ _ h => ?_) (by rw [e0 4 (by decide), v0]; exact Int.le_refl _)
    rw [ee]
    unfold m_ent at h ⊢
    rw [v0, v2] at h
    exact h
  · refine ⟨by rw [e0 3 (by decide)]; exact n1, by rw [e0 5 (by decide)]; exact n2, by rw [e0 8 (by decide), e0 9 (by decide)]; omega, by rw [e10]; omega⟩
  · unfold InvS
    simp only [e0 4 (by decide), e0 8 (by decide), e0 9 (by decide), e0 11 (by decide), e0 12 (by decide), e0 13 (by decide), e0 14 (by decide), e0 17 (by decide), ee, eh, e2 _ 7 (by decide)]
    exact S
  · refine ⟨fun b a d => ?_, fun b a d => ?_⟩
    · rw [e0 4 (by decide)] at d
      have Y := B.1 b a d
      have ak := asked_b g b
      have mk : 0 ≤ m_asked g b * n := Int.mul_nonneg (by omega) (by omega)
      have st := (W.2.2.2.1 b a (by omega)).2.2.2.2.2.2.2.2
      rw [e2 _ 0 (by decide), e2 _ 3 (by decide), e2 _ 7 (by decide), e8, e0 8 (by decide), if_pos ⟨a, d⟩]
      unfold given
      exact ⟨Y.1, Y.2.1, Y.2.2.1, by omega⟩
    · rw [e0 4 (by decide)] at a
      have Y := B.2 b a d
      rw [e2 _ 7 (by decide), e8, e9, em, if_neg (by omega), if_neg (by omega), if_neg (by omega)]
      exact Y
  · unfold InvJ
    simp only [e0 9 (by decide), ej _ 0 (by decide) (by decide) (by decide), ej _ 7 (by decide) (by decide) (by decide), ej _ 15 (by decide) (by decide) (by decide), er 7 _ _ (by decide) (by decide) (by decide), w3 7 _ _ (by decide) (by decide)]
    exact K
  · obtain ⟨q1, q2, q3, q4⟩ := Q
    have a1 : coins (m_pass g n) H = coins g H + m_sm (given g n) (g 0 0 4).toNat := by
      unfold coins
      simp only [ec 1 _ _ (by decide)]
      rw [x1, v0]
      simp only [w3 1 _ _ (by decide) (by decide)]
    have a2 : m_soldEver (m_pass g n) = m_soldEver g + m_sm (given g n) (g 0 0 4).toNat := f9
    have a3 : stockAll (m_pass g n) = stockAll g + - m_sm (given g n) (g 0 0 4).toNat := f8
    have a4 : used (m_pass g n) H = used g H := by
      unfold used
      simp only [ec 1 _ _ (by decide), x11, w3 1 _ _ (by decide) (by decide)]
    have a5 : m_entCount (m_pass g n) = m_entCount g := by unfold m_entCount; rw [e0 4 (by decide), funext ee]
    refine ⟨by omega, by omega, by omega, fun h a d => ?_⟩
    rw [ec 1 _ _ (by decide), x11, w3 1 _ _ (by decide) (by decide)]
    unfold m_quota
    rw [eh, e0 12 (by decide)]
    exact q4 h a d
  · have b1 : m_missedEver (m_pass g n) = m_missedEver g + m_sm (fun b => m_asked g b * n - given g n b) (g 0 0 4).toNat := f10
    rw [b1]
    have : m_wouldMiss g n = m_sm (fun b => m_asked g b * n - given g n b) (g 0 0 4).toNat := sm_congr (fun b _ _ => by unfold given; omega)
    omega
  · have X := w5 j a (by omega)
    have Y := K.1 j a b
    rw [er 3 j 10 (by decide) (by decide) (by decide)]
    refine ⟨X.2.1, ?_⟩
    have e : max 10 (g 3 j 0) = g 3 j 0 := by omega
    have e' : (n.toNat : Int) = n := by omega
    rw [e, e'] at X
    exact X.2.2
end PPA
section PSO
/-! what isSo looks at -/
variable {H J t p q c : Int} {g : m_St}
theorem so_mark (h : Iv H J t p q c g) {j b : Int} (hj : 0 ≤ j ∧ j < 5) (hb : 0 ≤ b ∧ b < 16) : -1 ≤ g 6 j b ∧ g 6 j b ≤ 99 ∧ (0 ≤ g 6 j b → b < g 0 0 4 ∧ m_ent g b = true ∧ ∃ k, 0 ≤ k ∧ k < g 3 j 7 ∧ g 4 j k = b) := by
  obtain ⟨W, R, C, N, S, B, K, Q⟩ := h
  have A := (W.2.2.2.2.2.1 j b hj.1 hj.2 hb.1 hb.2).2.2.1
  have X := W.2.2.2.2.1 j hj.1 hj.2
  obtain ⟨RC, RM⟩ := R j hj.1 hj.2
  refine ⟨A.1, A.2, fun z => ?_⟩
  rcases RM.1.2.1 b hb.1 hb.2 with e | ⟨k, k0, k1, k2⟩
  · omega
  · have Y := RC.1 k k0 (by omega)
    rw [k2] at Y
    exact ⟨Y.2.1, Y.2.2, k, k0, by omega, k2⟩
/-- three judges at most have marked a book -/
theorem so_three (h : Iv H J t p q c g) {b : Int} (hb : 0 ≤ b ∧ b < 16) {n : Nat} (hn : n ≤ 5) : m_sm (fun j => m_ib (decide (0 ≤ g 6 j b))) n ≤ 3 := by
  obtain ⟨T, t0, t1, t2⟩ := h.2.2.1 b
  have a : m_sm (fun j => m_ib (decide (0 ≤ g 6 j b))) n ≤ m_sm (fun j => m_ib (m_has T j)) n := sm_le (fun i i0 i1 => by
    by_cases z : 0 ≤ g 6 i b
    · obtain ⟨_, _, k, k0, k1, k2⟩ := (so_mark h (j := i) ⟨i0, by omega⟩ hb).2.2 z
      rw [t2 i k i0 (by omega) k0 k1 k2, decide_eq_true z]
      exact Int.le_refl _
    · rw [decide_eq_false z]; exact ib_nn _)
  have mono : ∀ m : Nat, m_sm (fun j => m_ib (m_has T j)) n ≤ m_sm (fun j => m_ib (m_has T j)) (n + m) := fun m => by
    induction m with
    | zero => exact Int.le_refl _
    | succ m ih =>
      have := ib_nn (m_has T ((n + m : Nat) : Int))
      show _ ≤ m_sm _ (n + m) + m_ib (m_has T ((n + m : Nat) : Int))
      omega
  have e := mono (16 - n)
  rw [show n + (16 - n) = 16 from by omega] at e
  have t1' : m_sm (fun j => m_ib (m_has T j)) 16 ≤ 3 := t1
  omega
theorem so_long (h : Iv H J t p q c g) {b : Int} (hb : 0 ≤ b) : (0 < m_standing g b ↔ m_has (g 0 0 11) b = true) ∧ (1 < m_standing g b ↔ m_has (g 0 0 13) b = true) ∧ (m_standing g b = 3 ↔ g 0 0 14 = b) ∧ 0 ≤ m_standing g b ∧ m_standing g b ≤ 3 := by
  obtain ⟨s1, s2, s3, s4, s5, s6, s7, s8, s9, s10⟩ := h.2.2.2.2.1
  unfold m_standing
  by_cases z : b = g 0 0 14
  · rw [if_pos z]
    rcases s3 with e | ⟨e, _⟩
    · omega
    · rw [← z] at e
      exact ⟨⟨fun _ => s2 b e, fun _ => by decide⟩, ⟨fun _ => e, fun _ => by decide⟩, ⟨fun _ => z.symm, fun _ => rfl⟩, by decide, by decide⟩
  · rw [if_neg z]
    have z' : ¬ g 0 0 14 = b := fun x => z x.symm
    cases x : m_has (g 0 0 13) b with
    | true =>
      have y := s2 b x
      rw [cond_true]
      exact ⟨⟨fun _ => y, fun _ => by decide⟩, ⟨fun _ => rfl, fun _ => by decide⟩, ⟨fun w => absurd w (by decide), fun w => absurd w z'⟩, by decide, by decide⟩
    | false =>
      cases y : m_has (g 0 0 11) b with
      | true => exact ⟨⟨fun _ => rfl, fun _ => by decide⟩, ⟨fun w => absurd w (by decide), fun w => nomatch w⟩, ⟨fun w => absurd w (by decide), fun w => absurd w z'⟩, by decide, by decide⟩
      | false => exact ⟨⟨fun w => absurd w (by decide), fun w => nomatch w⟩, ⟨fun w => absurd w (by decide), fun w => nomatch w⟩, ⟨fun w => absurd w (by decide), fun w => absurd w z'⟩, by decide, by decide⟩
theorem so_spoiled (h : Iv H J t p q c g) {b : Int} (hb : 0 ≤ b) : m_spoiled g b ≠ b ∧ (m_standing g b < 2 → m_spoiled g b = -1) := by
  have L := (so_long h hb).2.1
  unfold m_spoiled
  refine ⟨fun e => ?_, fun e => ?_⟩
  · cases x : m_has (g 0 0 13) b with
    | false => rw [x] at e; simp only [cond_false] at e; omega
    | true =>
      rw [x] at e
      simp only [cond_true] at e
      rcases winner_in g (m_bt b) 0 h.1.bc.1 with z | ⟨_, _, _, _, z⟩
      · omega
      · rw [e, has_bt hb, decide_eq_true rfl] at z; cases z
  · cases x : m_has (g 0 0 13) b with
    | false => rfl
    | true => have := L.mpr x; omega
theorem so_judge (h : Iv H J t p q c g) {j : Int} (hj : 0 ≤ j ∧ j < 5) : g 3 j 9 ≤ g 3 j 7 ∧ 0 ≤ m_pagesLeft g j ∧ 0 ≤ m_ptsLeft g j ∧ m_ptsLeft g j ≤ 12 ∧ (m_pagesLeft g j = 0 ↔ g 3 j 9 = g 3 j 7) := by
  obtain ⟨W, R, C, N, S, B, K, Q⟩ := h
  have X := W.2.2.2.2.1 j hj.1 hj.2
  obtain ⟨RC, RM⟩ := R j hj.1 hj.2
  have nn : 0 ≤ m_sm (fun x => g 7 j x) 16 := sm_nn (fun i a d => (W.2.2.2.2.2.1 j i hj.1 hj.2 a d).2.2.2.1.1)
  have P := (K.2 j hj.1 hj.2).2.2
  unfold m_pagesLeft m_ptsLeft
  refine ⟨by omega, by omega, by omega, by omega, fun z => ?_, fun z => ?_⟩
  · by_cases y : g 3 j 9 < g 3 j 7
    · have a := RM.2 y
      have b := (RC.2.2.1 (g 3 j 9) (by omega) y).2
      omega
    · omega
  · by_cases y : 0 < g 3 j 7
    · have a := RM.1.1 (g 3 j 7 - 1) (by omega) (by omega)
      have b := RC.2.2.2.2.1 y
      omega
    · have := RC.2.2.2.2.2 (by omega)
      omega
/-- who would win -/
theorem so_wins (h : Iv H J t p q c g) : (0 ≤ m_winner g 0 0 → m_has (g 0 0 13) (m_winner g 0 0) = true) ∧ (0 ≤ m_beatsAll g → m_has (g 0 0 13) (m_beatsAll g) = true) ∧ (g 0 0 9 < 3 → m_winner g 0 0 = -1 ∧ m_beatsAll g = -1) ∧ (g 0 0 9 = 3 → g 0 0 13 ≠ 0 → 0 ≤ m_winner g 0 0) := by
  obtain ⟨W, R, C, N, S, B, K, Q⟩ := h
  obtain ⟨s1, s2, s3, s4, s5, s6, s7, s8, s9, s10⟩ := S
  have V := winner_in g 0 0 W.bc.1
  have A := fs_in (fun b => m_has (g 0 0 13) b && m_ahead g b) (g 0 0 4).toNat 0
  refine ⟨fun z => ?_, fun z => ?_, fun z => ⟨?_, ?_⟩, fun z y => ?_⟩
  · rcases V with e | e
    · omega
    · exact e.2.2.1
  · rcases A with e | e
    · unfold m_beatsAll at z; omega
    · exact (Bool.and_eq_true _ _ ▸ e.2.2).1
  · rcases V with e | e
    · exact e
    · have := e.2.2.1; rw [s5 z, has_z] at this; cases this
  · rcases A with e | e
    · exact e
    · have := (Bool.and_eq_true _ _ ▸ e.2.2).1; rw [s5 z, has_z] at this; cases this
  · obtain ⟨b, hb⟩ := set_ne W.2.1.2.2.1.1 y
    refine winner_some g 0 0 W.bc.1 (fun b hb => (s1 b (s2 b hb)).1) hb ?_ (has_z b)
    cases x : m_has (g 0 0 17) b with
    | false => rfl
    | true =>
      have e : g 2 b 7 = g 0 0 8 := eq_of_beq (s1 b (s2 b hb)).2
      have := (s10 b x).2.2 e
      omega
theorem so_readIn (g : m_St) : m_readIn g < 0 ↔ g 0 0 9 ≠ 1 := by
  rw [readIn_mxs]
  split
  · rename_i z
    have := mxs_nn (m_daysLeft g) (g 0 0 5).toNat
    omega
  · rename_i z
    exact ⟨fun _ => z, fun _ => by decide⟩
theorem so_miss (g : m_St) : m_wouldMiss g 1 ≤ m_wouldMiss g 2 := sm_le (fun b _ _ => by have := asked_b g b; omega)
/-- a set below n, put together of its members -/
theorem set_of {S : Int} (h0 : 0 ≤ S) : ∀ n : Nat, (∀ b, m_has (m_fo (fun b L => bif m_has S b then m_bo L (m_bt b) else L) 0 n) b = (m_has S b && decide (b < n))) ∧ 0 ≤ m_fo (fun b L => bif m_has S b then m_bo L (m_bt b) else L) (0 : Int) n
  | 0 => ⟨fun b => by
      show m_has 0 b = _
      rw [has_z]
      by_cases z : b < 0
      · rw [has_n z]; rfl
      · rw [decide_eq_false (by omega), Bool.and_false], Int.le_refl _⟩
  | n + 1 => by
    obtain ⟨ih, i0⟩ := set_of h0 n
    generalize hu : m_fo (fun b L => bif m_has S b then m_bo L (m_bt b) else L) (0 : Int) n = u at ih i0
    have e : m_fo (fun b L => bif m_has S b then m_bo L (m_bt b) else L) (0 : Int) (n + 1) = bif m_has S n then m_bo u (m_bt n) else u := by rw [← hu]; rfl
    rw [e]
    cases x : m_has S n with
    | true =>
      simp only [cond_true]
      refine ⟨fun b => ?_, bo_nn _ _⟩
      rw [has_bo, has_bt (Int.natCast_nonneg n), ih]
      by_cases z : b = n
      · rw [z, x]; simp; omega
      · rw [decide_eq_false z, Bool.or_false]
        congr 1
        exact decide_eq_decide.mpr (by omega)
    | false =>
      simp only [cond_false]
      refine ⟨fun b => ?_, i0⟩
      rw [ih]
      by_cases z : b = n
      · rw [z, x]; rfl
      · congr 1
        exact decide_eq_decide.mpr (by omega)
theorem set_all {S : Int} {n : Nat} (h0 : 0 ≤ S) (h : ∀ b, m_has S b = true → b < n) : m_fo (fun b L => bif m_has S b then m_bo L (m_bt b) else L) (0 : Int) n = S := by
  obtain ⟨a, b⟩ := set_of h0 n
  refine set_eq b h0 (fun x => ?_)
  rw [a]
  cases y : m_has S x with
  | false => rfl
  | true => rw [decide_eq_true (h x y)]; rfl
/-- sums in the other order -/
theorem sm_swap (f : Int → Int → Int) (m : Nat) : ∀ n : Nat, m_sm (fun i => m_sm (fun j => f i j) m) n = m_sm (fun j => m_sm (fun i => f i j) n) m
  | 0 => by
    have z : ∀ n : Nat, m_sm (fun _ => (0 : Int)) n = 0 := fun n => by induction n with
      | zero => rfl
      | succ n ih => show m_sm _ n + 0 = 0; omega
    exact (z m).symm
  | n + 1 => by
    show m_sm _ n + m_sm (fun j => f n j) m = m_sm (fun j => m_sm (fun i => f i j) n + f n j) m
    rw [sm_add, sm_swap f m n]
theorem sm_tail {h : Int → Int} {n : Nat} : ∀ m : Nat, (∀ i : Int, n ≤ i → i < (n + m : Nat) → h i = 0) → m_sm h (n + m) = m_sm h n
  | 0, _ => rfl
  | m + 1, e => by
    have a := sm_tail (h := h) (n := n) m (fun i a b => e i a (by omega))
    have b := e ((n + m : Nat) : Int) (by omega) (by omega)
    show m_sm h (n + m) + h ((n + m : Nat) : Int) = _
    rw [a, b, Int.add_zero]
/-- as many marks stand as books were read; and their sum -/
theorem so_marks (h : Iv H J t p q c g) (hJ : 0 ≤ J ∧ J ≤ 5) : m_sm (fun b => m_sm (fun j => m_ib (decide (0 ≤ g 6 j b))) J.toNat) (g 0 0 4).toNat = m_sm (fun j => g 3 j 9) J.toNat ∧ m_sm (fun b => m_sm (fun j => max 0 (g 6 j b)) J.toNat) (g 0 0 4).toNat = m_sm (fun j => g 3 j 12) J.toNat := by
  have W := h.1
  have R := h.2.1
  have bc := W.bc
  have e16 : (16 : Nat) = (g 0 0 4).toNat + (16 - (g 0 0 4).toNat) := by omega
  constructor
  · rw [sm_swap (fun b j => m_ib (decide (0 ≤ g 6 j b)))]
    refine sm_congr (fun j a b => ?_)
    have M := (R j a (by omega)).2.1.2.2.2.1
    rw [M, m_cnt, e16]
    refine Eq.symm ((sm_tail _ (fun i i0 i1 => ?_)).trans (sm_congr (fun i i0 i1 => ?_)))
    · have := so_mark h (j := j) (b := i) ⟨a, by omega⟩ ⟨by omega, by omega⟩
      have e : g 6 j i = -1 := by
        by_cases z : 0 ≤ g 6 j i
        · have := (this.2.2 z).1; omega
        · omega
      rw [e]; rfl
    · have := so_mark h (j := j) (b := i) ⟨a, by omega⟩ ⟨i0, by omega⟩
      congr 1
      by_cases z : 0 ≤ g 6 j i
      · rw [decide_eq_true z]; simp; omega
      · rw [decide_eq_false z]; simp; omega
  · rw [sm_swap (fun b j => max 0 (g 6 j b))]
    refine sm_congr (fun j a b => ?_)
    have M := (R j a (by omega)).2.1.2.2.2.2
    rw [M, e16]
    refine Eq.symm (sm_tail _ (fun i i0 i1 => ?_))
    have := so_mark h (j := j) (b := i) ⟨a, by omega⟩ ⟨by omega, by omega⟩
    have e : g 6 j i = -1 := by
      by_cases z : 0 ≤ g 6 j i
      · have := (this.2.2 z).1; omega
      · omega
    rw [e]; rfl
end PSO
end
section
section PST0
/-! the fresh object -/
def m_g0 : m_St := fun c _ i => if c = 0 then (if i = 14 ∨ i = 15 then -1 else 0) else if c = 1 then (if i = 0 then 100 else 0) else if c = 2 then (if i = 7 then -1 else 0) else if c = 6 then -1 else if c = 9 then (if i = 0 then 7 else if i = 1 then 100 else if i = 2 then 800 else if i = 3 then 10 else 0) else 0
def Fresh (g : m_St) : Prop := g 0 0 4 = 0 ∧ g 0 0 8 = 0 ∧ g 0 0 9 = 0 ∧ g 0 0 10 = 0 ∧ g 0 0 12 = 0 ∧ ∀ h, g 1 h 0 = 100 ∧ g 1 h 1 = 0
theorem zero_sum : ∀ n : Nat, m_sm (fun _ => (0 : Int)) n = 0
  | 0 => rfl
  | n + 1 => by show m_sm _ n + 0 = 0; rw [zero_sum n]; rfl
theorem iv_start : Iv 0 0 0 0 0 0 m_g0 ∧ Fresh m_g0 := by
  refine ⟨⟨⟨?_, ?_, ?_, ?_, ?_, ?_, ?_⟩, ?_, ?_, ?_, ?_, ?_, ?_, ?_⟩, ?_⟩
  · simp [Wn, m_g0]
  · simp [Ws, m_g0]
  · intro h _ _; simp [m_g0]
  · intro b _ _; simp [m_g0]
  · intro j _ _; simp [m_g0]
  · intro j k _ _ _ _; simp [m_g0]
  · intro k _ _; simp [m_g0]
  · intro j a b
    have z7 : m_g0 3 j 7 = 0 := rfl
    have z9 : m_g0 3 j 9 = 0 := rfl
    refine ⟨⟨fun k x y => by omega, fun k x y => by omega, fun k x y => by omega, fun k x y => by omega, fun x => by omega, fun _ => rfl⟩, ⟨⟨fun k x y => by omega, fun x _ _ => Or.inl rfl, fun k x y => by omega, (show (0 : Int) = m_cnt (fun _ => (-1 : Int) != -1) 16 by decide), (show (0 : Int) = m_sm (fun _ => max 0 (-1)) 16 by decide)⟩, fun x => by omega⟩⟩
  · intro b
    refine ⟨0, Int.le_refl _, by decide, fun j k _ _ b0 b1 _ => ?_⟩
    have z7 : m_g0 3 j 7 = 0 := rfl
    omega
  · simp [InvN, m_g0]
  · refine ⟨fun b h => ?_, fun b h => h, Or.inl rfl, fun _ => rfl, fun _ => rfl, fun _ => rfl, by decide, fun h => by show (0 : Int) ≤ 2; decide, fun b h => ?_, fun b h => ?_⟩
    · have : m_has 0 b = true := h
      rw [has_z] at this; cases this
    · have : m_has 0 b = true := h
      rw [has_z] at this; cases this
    · have : m_has 0 b = true := h
      rw [has_z] at this; cases this
  · refine ⟨fun b a d => ?_, fun b _ _ => ⟨rfl, rfl, rfl, rfl⟩⟩
    have : b < 0 := d
    omega
  · exact ⟨fun j a b => by omega, fun j a b => ⟨fun _ => rfl, fun _ => rfl, (show m_sm (fun _ => (0 : Int)) 16 ≤ 12 by decide)⟩⟩
  · exact ⟨rfl, rfl, rfl, fun h a b => by omega⟩
  · exact ⟨rfl, rfl, rfl, rfl, rfl, fun h => ⟨rfl, rfl⟩⟩
theorem inv_house {H J : Int} {g : m_St} (h : Iv H J 0 0 0 0 g) (f : Fresh g) (hH : 0 ≤ H ∧ H < 5) : Iv (H + 1) J 0 0 0 0 (m_up g 0 0 3 (g 0 0 3 + 1)) ∧ Fresh (m_up g 0 0 3 (g 0 0 3 + 1)) := by
  obtain ⟨W, R, C, N, S, B, K, Q⟩ := h
  obtain ⟨f1, f2, f3, f4, f6, f5⟩ := f
  obtain ⟨n1, n2, n3, n4⟩ := N
  refine ⟨⟨W.house (by omega), R, C, ⟨?_, n2, n3, n4⟩, S, ⟨fun b a d => ?_, B.2⟩, K, ?_⟩, ⟨f1, f2, f3, f4, f6, f5⟩⟩
  · rw [up_s, n1]
  · have : b < g 0 0 4 := d
    omega
  · obtain ⟨q1, q2, q3, q4⟩ := Q
    have e : (H + 1).toNat = H.toNat + 1 := by omega
    refine ⟨?_, q2, ?_, fun x a d => ?_⟩
    · show m_sm (fun h => g 1 h 0) (H + 1).toNat = 100 * (H + 1) - 0 + m_soldEver g
      rw [e]
      show m_sm (fun h => g 1 h 0) H.toNat + g 1 (H.toNat : Int) 0 = _
      rw [(f5 _).1]
      have q1' : m_sm (fun h => g 1 h 0) H.toNat = 100 * H - 0 + m_soldEver g := q1
      omega
    · show m_entCount g = m_sm (fun h => g 1 h 1) (H + 1).toNat + 0
      rw [e]
      show m_entCount g = m_sm (fun h => g 1 h 1) H.toNat + g 1 (H.toNat : Int) 1 + 0
      rw [(f5 _).2]
      have q3' : m_entCount g = m_sm (fun h => g 1 h 1) H.toNat + 0 := q3
      omega
    · show g 1 x 1 ≤ m_quota g x
      rw [(f5 x).2]
      have := quota_b g x W.bc.1
      omega
theorem judge_c (g : m_St) (s t l : Int) (c : Nat) (k i : Int) (h0 : c ≠ 0) (h3 : c ≠ 3) : m_judge g s t l c k i = g c k i := by simp [m_judge, m_up, h0, h3]
theorem judge_0 (g : m_St) (s t l : Int) (i : Int) (h : i ≠ 5) : m_judge g s t l 0 0 i = g 0 0 i := by simp [m_judge, m_up, h]
theorem judge_3 (g : m_St) (s t l : Int) (k i : Int) (h : 3 ≤ i) : m_judge g s t l 3 k i = g 3 k i := by
  have e0 : i ≠ 0 := by omega
  have e1 : i ≠ 1 := by omega
  have e2 : i ≠ 2 := by omega
  simp [m_judge, m_up, e0, e1, e2]
theorem inv_judge {H J s t l : Int} {g : m_St} (h : Iv H J 0 0 0 0 g) (f : Fresh g) (hJ : 0 ≤ J ∧ J < 5) (h0 : 40 ≤ s ∧ s ≤ 200) (h1 : 0 ≤ t ∧ t ≤ 9) (h2 : -10 ≤ l ∧ l ≤ 10) : Iv H (J + 1) 0 0 0 0 (m_judge g s t l) ∧ Fresh (m_judge g s t l) := by
  obtain ⟨W, R, C, N, S, B, K, Q⟩ := h
  obtain ⟨f1, f2, f3, f4, f6, f5⟩ := f
  obtain ⟨n1, n2, n3, n4⟩ := N
  have ee : ∀ x, m_ent (m_judge g s t l) x = m_ent g x := fun x => by unfold m_ent; rw [judge_c _ _ _ _ 2 _ _ (by decide) (by decide), judge_0 _ _ _ _ 8 (by decide)]
  have eh : ∀ h S, m_coh (m_judge g s t l) h S = m_coh g h S := fun h S => by unfold m_coh; rw [judge_0 _ _ _ _ 4 (by decide)]; simp only [judge_c _ _ _ _ 2 _ _ (by decide) (by decide)]
  refine ⟨⟨W.judge (by omega) ⟨by omega, h0.2⟩ h1 h2, R.same (fun j i a => judge_3 _ _ _ _ _ _ (by omega)) (fun _ _ => judge_c _ _ _ _ _ _ _ (by decide) (by decide)) (fun _ _ => judge_c _ _ _ _ _ _ _ (by decide) (by decide)) (fun _ _ => judge_c _ _ _ _ _ _ _ (by decide) (by decide)) (fun x _ _ a => (ee x).trans a) (by rw [judge_0 _ _ _ _ 4 (by decide)]; exact Int.le_refl _), fun b => (C b).same (fun j => judge_3 _ _ _ _ _ _ (by decide)) (fun _ _ => judge_c _ _ _ _ _ _ _ (by decide) (by decide)), ⟨?_, ?_, ?_, ?_⟩, ?_, ?_, ?_, ?_⟩, ?_⟩
  · rw [judge_0 _ _ _ _ 3 (by decide)]; exact n1
  · have : m_judge g s t l 0 0 5 = g 0 0 5 + 1 := up_s _ _ _ _ _
    rw [this, n2]
  · rw [judge_0 _ _ _ _ 8 (by decide), judge_0 _ _ _ _ 9 (by decide)]; exact n3
  · rw [judge_0 _ _ _ _ 10 (by decide)]; exact n4
  · unfold InvS
    simp only [judge_0 _ _ _ _ 4 (by decide), judge_0 _ _ _ _ 8 (by decide), judge_0 _ _ _ _ 9 (by decide), judge_0 _ _ _ _ 11 (by decide), judge_0 _ _ _ _ 12 (by decide), judge_0 _ _ _ _ 13 (by decide), judge_0 _ _ _ _ 14 (by decide), judge_0 _ _ _ _ 17 (by decide), judge_c _ _ _ _ 2 _ _ (by decide) (by decide), ee, eh]
    exact S
  · unfold InvB
    simp only [judge_0 _ _ _ _ 4 (by decide), judge_0 _ _ _ _ 8 (by decide), judge_c _ _ _ _ 2 _ _ (by decide) (by decide)]
    exact B
  · unfold InvJ
    simp only [judge_0 _ _ _ _ 9 (by decide), judge_3 _ _ _ _ _ 7 (by decide), judge_3 _ _ _ _ _ 15 (by decide), judge_c _ _ _ _ 7 _ _ (by decide) (by decide)]
    refine ⟨fun j a b => ?_, K.2⟩
    by_cases z : j = J
    · have : m_judge g s t l 3 j 0 = s := by simp [m_judge, m_up, z, n2]
      rw [this]; exact h0.1
    · have : m_judge g s t l 3 j 0 = g 3 j 0 := by simp [m_judge, m_up, show j ≠ g 0 0 5 by omega]
      rw [this]; exact K.1 j a (by omega)
  · unfold InvQ coins used stockAll m_soldEver m_entCount m_quota
    simp only [judge_0 _ _ _ _ 4 (by decide), judge_0 _ _ _ _ 12 (by decide), judge_c _ _ _ _ 1 _ _ (by decide) (by decide), judge_c _ _ _ _ 2 _ _ (by decide) (by decide), eh, funext ee]
    exact Q
  · unfold Fresh
    simp only [judge_0 _ _ _ _ 4 (by decide), judge_0 _ _ _ _ 8 (by decide), judge_0 _ _ _ _ 9 (by decide), judge_0 _ _ _ _ 10 (by decide), judge_0 _ _ _ _ 12 (by decide), judge_c _ _ _ _ 1 _ _ (by decide) (by decide)]
    exact ⟨f1, f2, f3, f4, f6, f5⟩
end PST0
section PNU
/-! the class's ints as whole numbers -/
def iI (z : Int) : Int32 := Int32.ofInt z
def RI (z : Int) : Prop := -2147483648 ≤ z ∧ z ≤ 2147483647
theorem iI_add (a b : Int) : iI a + iI b = iI (a + b) := (Int32.ofInt_add a b).symm
theorem iI_sub (a b : Int) : iI a - iI b = iI (a - b) := (Int32.ofInt_sub a b).symm
theorem iI_mul (a b : Int) : iI a * iI b = iI (a * b) := (Int32.ofInt_mul a b).symm
theorem iI_int {a : Int} (h : RI a) : (iI a).toInt = a := by
  unfold RI at h
  unfold iI
  exact Int32.toInt_ofInt_of_le (by omega) (by omega)
theorem iI_nat {a : Int} (h : RI a) : (iI a).toNatClampNeg = a.toNat := by
  unfold Int32.toNatClampNeg
  rw [iI_int h]
theorem iI_le {a b : Int} (ha : RI a) (hb : RI b) : iI a ≤ iI b ↔ a ≤ b := by
  rw [Int32.le_iff_toInt_le, iI_int ha, iI_int hb]
theorem iI_lt {a b : Int} (ha : RI a) (hb : RI b) : iI a < iI b ↔ a < b := by
  rw [Int32.lt_iff_toInt_lt, iI_int ha, iI_int hb]
theorem iI_eq {a b : Int} (ha : RI a) (hb : RI b) : iI a = iI b ↔ a = b := by
  constructor
  · intro h
    have := congrArg Int32.toInt h
    rwa [iI_int ha, iI_int hb] at this
  · intro h; rw [h]
theorem iI_of (x : Int32) : iI x.toInt = x := Int32.ofInt_toInt x
theorem iI_div {a b : Int} (ha : RI a) (hb : RI b) : iI a / iI b = iI (a.tdiv b) := (Int32.ofInt_tdiv ha.1 ha.2 hb.1 hb.2).symm
theorem iI_mod {a b : Int} (ha : RI a) (hb : RI b) : iI a % iI b = iI (a.tmod b) := (Int32.ofInt_tmod ha.1 ha.2 hb.1 hb.2).symm
theorem iI_bv (a : Nat) : (iI a).toBitVec = BitVec.ofNat 32 a := by
  unfold iI
  rw [Int32.toBitVec_ofInt]
  exact BitVec.ofInt_natCast 32 a
theorem iI_and (a b : Nat) : iI a &&& iI b = iI ((a &&& b : Nat) : Int) := by
  apply Int32.toBitVec_inj.mp
  rw [Int32.toBitVec_and, iI_bv, iI_bv, iI_bv]
  apply BitVec.eq_of_toNat_eq
  simp
theorem iI_or (a b : Nat) : iI a ||| iI b = iI ((a ||| b : Nat) : Int) := by
  apply Int32.toBitVec_inj.mp
  rw [Int32.toBitVec_or, iI_bv, iI_bv, iI_bv]
  apply BitVec.eq_of_toNat_eq
  simp
theorem iI_xor (a b : Nat) : iI a ^^^ iI b = iI ((a ^^^ b : Nat) : Int) := by
  apply Int32.toBitVec_inj.mp
  rw [Int32.toBitVec_xor, iI_bv, iI_bv, iI_bv]
  apply BitVec.eq_of_toNat_eq
  simp
theorem iI_bt0 : ∀ n : Nat, n < 32 → iI 1 <<< iI n = iI ((2 ^ n : Nat) : Int) := by decide +kernel
theorem iI_bt {n : Int} (h0 : 0 ≤ n) (h1 : n < 32) : iI 1 <<< iI n = iI (m_bt n) := by
  have := iI_bt0 n.toNat (by omega)
  rw [Int.toNat_of_nonneg h0] at this
  exact this
theorem iI_ba {S T : Int} (h : 0 ≤ S) (h' : 0 ≤ T) : iI S &&& iI T = iI (m_ba S T) := by
  have := iI_and S.toNat T.toNat
  rw [Int.toNat_of_nonneg h, Int.toNat_of_nonneg h'] at this
  exact this
theorem iI_bo {S T : Int} (h : 0 ≤ S) (h' : 0 ≤ T) : iI S ||| iI T = iI (m_bo S T) := by
  have := iI_or S.toNat T.toNat
  rw [Int.toNat_of_nonneg h, Int.toNat_of_nonneg h'] at this
  exact this
theorem iI_bd {S T : Int} (h : 0 ≤ S ∧ S < 2147483648) (h' : 0 ≤ T ∧ T < 2147483648) : iI S &&& (iI T ^^^ iI (-1)) = iI (m_bd S T) := by
  have e1 : iI (-1) = iI ((4294967295 : Nat) : Int) := by decide
  have e2 := iI_xor T.toNat 4294967295
  have e3 := iI_and S.toNat (T.toNat ^^^ 4294967295)
  rw [Int.toNat_of_nonneg h'.1] at e2
  rw [Int.toNat_of_nonneg h.1] at e3
  rw [e1, e2, e3]
  unfold m_bd
  congr 2
  apply Nat.eq_of_testBit_eq
  intro i
  rw [Nat.testBit_and, Nat.testBit_xor, Nat.testBit_xor, Nat.testBit_and, show (4294967295 : Nat) = 2 ^ 32 - 1 from rfl, Nat.testBit_two_pow_sub_one]
  by_cases z : i < 32
  · rw [decide_eq_true z]
    cases S.toNat.testBit i <;> cases T.toNat.testBit i <;> rfl
  · have : S.toNat.testBit i = false := Nat.testBit_lt_two_pow (Nat.lt_of_lt_of_le (show S.toNat < 2 ^ 32 by omega) (Nat.pow_le_pow_right (by decide) (by omega)))
    rw [this]; simp
theorem ba_z (S n : Int) (h : 0 ≤ n) : m_ba S (m_bt n) = 0 ↔ m_has S n = false := by
  constructor
  · intro e
    have := has_ba S (m_bt n) n
    rw [e, has_z, has_bt h, decide_eq_true rfl, Bool.and_true] at this
    exact this.symm
  · intro e
    refine set_z (ba_nn _ _) (fun k => ?_)
    rw [has_ba, has_bt h]
    by_cases z : k = n
    · rw [z, e]; rfl
    · rw [decide_eq_false z, Bool.and_false]
theorem bt_lt {n : Int} (h0 : 0 ≤ n) (h1 : n < 31) : m_bt n < 2147483648 := by
  have := set_lt (S := m_bt n) (k := 31) (bt_nn n) (fun k hk => by rw [has_bt h0] at hk; have := of_decide_eq_true hk; omega)
  exact this
theorem ba_le {S T : Int} (h : 0 ≤ S) : m_ba S T ≤ S := by
  have := @Nat.and_le_left S.toNat T.toNat
  unfold m_ba
  omega
/-- the test of a member, as the class makes it -/
theorem iI_has {S n : Int} (hS : 0 ≤ S ∧ S < 2147483648) (h0 : 0 ≤ n) (h1 : n < 31) : iI S &&& (iI 1 <<< iI n) = iI (m_ba S (m_bt n)) ∧ (iI (m_ba S (m_bt n)) = 0 ↔ m_has S n = false) := by
  rw [iI_bt h0 (by omega), iI_ba hS.1 (bt_nn n)]
  refine ⟨rfl, ?_⟩
  have a := ba_nn S (m_bt n)
  have b := ba_le (T := m_bt n) hS.1
  rw [← ba_z S n h0, show (0 : Int32) = iI 0 from rfl, iI_eq ⟨by omega, by omega⟩ ⟨by decide, by decide⟩]
def bi (c : Bool) : Int32 := bif c then 1 else 0
theorem bi_z (c : Bool) : bi c = 0 ↔ c = false := by cases c <;> decide
theorem bi_i (c : Bool) : bi c = iI (m_ib c) := by cases c <;> decide
end PNU
section POR
/-- the order that the law tells: the places from f on, around -/
def lawOrder (n f : Int) : Nat → Int
  | 0 => 0
  | k + 1 => 10 * lawOrder n f k + 1 + (f + k).tmod n
theorem lawOrder_ok : ∀ n : Nat, n < 6 → ∀ f : Nat, f < n → m_orderOk n n 0 (lawOrder n f n) = true ∧ 0 ≤ lawOrder n f n ∧ lawOrder n f n ≤ 99999 := by decide +kernel
theorem isOrder_law {H J t p q c f : Int} {g : m_St} (h : Iv H J t p q c g) (h0 : 0 < m_pcn (g 0 0 13)) (hf : 0 ≤ f ∧ f < m_pcn (g 0 0 13)) : m_isOrder g (lawOrder (m_pcn (g 0 0 13)) f (m_pcn (g 0 0 13)).toNat) = true ∧ 0 ≤ lawOrder (m_pcn (g 0 0 13)) f (m_pcn (g 0 0 13)).toNat ∧ lawOrder (m_pcn (g 0 0 13)) f (m_pcn (g 0 0 13)).toNat ≤ 99999 := by
  have s7 := h.2.2.2.2.1.2.2.2.2.2.2.1
  have L := lawOrder_ok (m_pcn (g 0 0 13)).toNat (by omega) f.toNat (by omega)
  rw [Int.toNat_of_nonneg (Int.le_of_lt h0), Int.toNat_of_nonneg hf.1] at L
  refine ⟨?_, L.2⟩
  unfold m_isOrder
  rw [L.1, decide_eq_true h0]
  rfl
/-- a set with a member has a count -/
theorem pcn_pos {S : Int} (h0 : 0 ≤ S ∧ S < 65536) (h : S ≠ 0) : 0 < m_pcn S := by
  obtain ⟨b, hb⟩ := set_ne h0.1 h
  exact cnt_pos (p := fun i => m_has S i) (has_nn hb) (set_16 h0.2 hb) hb
theorem pcn_zero : m_pcn 0 = 0 := by decide
end POR
end
section
def RX0 : String := "PrizeHouse$Book"
def TX0 : u_T := fun k => match k with
  | 0 => ("PrizeHouse$Book", "house", "I", false)
  | 1 => ("PrizeHouse$Book", "author", "I", false)
  | 2 => ("PrizeHouse$Book", "form", "I", false)
  | 3 => ("PrizeHouse$Book", "pages", "I", false)
  | 4 => ("PrizeHouse$Book", "merit", "I", false)
  | 5 => ("PrizeHouse$Book", "flavour", "I", false)
  | 6 => ("PrizeHouse$Book", "toldYear", "I", false)
  | 7 => ("PrizeHouse$Book", "enteredYear", "I", false)
  | 8 => ("PrizeHouse$Book", "stock", "I", false)
  | 9 => ("PrizeHouse$Book", "sold", "I", false)
  | _ => ("PrizeHouse$Book", "missed", "I", false)
def tyX0 : Nat → FieldType := fun k => match k with
  | 0 => .int
  | 1 => .int
  | 2 => .int
  | 3 => .int
  | 4 => .int
  | 5 => .int
  | 6 => .int
  | 7 => .int
  | 8 => .int
  | 9 => .int
  | _ => .int
abbrev wsX00 : List Cond := u_ws RX0 TX0 11
theorem nmX0 : ∀ a, a < 11 → ∀ b, b < 11 → a ≠ b → (TX0 a).2.1 ≠ (TX0 b).2.1 := by decide +kernel
theorem tyX0_ok : ∀ k, k < 11 → parseFieldDescriptor (TX0 k).2.2.1 = some (tyX0 k) := by decide +kernel
abbrev cX0_init : ByteArray := prog_2_method_1_code
def yX0_init : MethodName := ⟨RX0, "<init>", "()V"⟩
abbrev cX0_describe : ByteArray := prog_2_method_2_code
def yX0_describe : MethodName := ⟨RX0, "describe", "(IIIIII)V"⟩
abbrev cX0_sell : ByteArray := prog_2_method_3_code
def yX0_sell : MethodName := ⟨RX0, "sell", "(I)I"⟩
def RX1 : String := "PrizeHouse$House"
def TX1 : u_T := fun k => match k with
  | 0 => ("PrizeHouse$House", "coins", "I", false)
  | _ => ("PrizeHouse$House", "quotaUsed", "I", false)
def tyX1 : Nat → FieldType := fun k => match k with
  | 0 => .int
  | _ => .int
abbrev wsX10 : List Cond := u_ws RX1 TX1 2
theorem nmX1 : ∀ a, a < 2 → ∀ b, b < 2 → a ≠ b → (TX1 a).2.1 ≠ (TX1 b).2.1 := by decide +kernel
theorem tyX1_ok : ∀ k, k < 2 → parseFieldDescriptor (TX1 k).2.2.1 = some (tyX1 k) := by decide +kernel
abbrev cX1_init : ByteArray := prog_3_method_1_code
def yX1_init : MethodName := ⟨RX1, "<init>", "()V"⟩
def RX2 : String := "PrizeHouse$Judge"
def TX2 : u_T := fun k => match k with
  | 0 => ("PrizeHouse$Judge", "speed", "I", false)
  | 1 => ("PrizeHouse$Judge", "taste", "I", false)
  | 2 => ("PrizeHouse$Judge", "lean", "I", false)
  | 3 => ("PrizeHouse$Judge", "conflicts", "I", false)
  | 4 => ("PrizeHouse$Judge", "hasCalledIn", "Z", false)
  | 5 => ("PrizeHouse$Judge", "crate", "[I", true)
  | 6 => ("PrizeHouse$Judge", "crateEnds", "[I", true)
  | 7 => ("PrizeHouse$Judge", "crateCount", "I", false)
  | 8 => ("PrizeHouse$Judge", "cratePages", "I", false)
  | 9 => ("PrizeHouse$Judge", "booksRead", "I", false)
  | 10 => ("PrizeHouse$Judge", "pagesRead", "I", false)
  | 11 => ("PrizeHouse$Judge", "marks", "[I", true)
  | 12 => ("PrizeHouse$Judge", "markSum", "I", false)
  | 13 => ("PrizeHouse$Judge", "points", "[I", true)
  | 14 => ("PrizeHouse$Judge", "ranked", "[I", true)
  | _ => ("PrizeHouse$Judge", "rankedCount", "I", false)
def tyX2 : Nat → FieldType := fun k => match k with
  | 0 => .int
  | 1 => .int
  | 2 => .int
  | 3 => .int
  | 4 => .boolean
  | 5 => .array .int
  | 6 => .array .int
  | 7 => .int
  | 8 => .int
  | 9 => .int
  | 10 => .int
  | 11 => .array .int
  | 12 => .int
  | 13 => .array .int
  | 14 => .array .int
  | _ => .int
abbrev wsX20 : List Cond := u_ws RX2 TX2 16
theorem nmX2 : ∀ a, a < 16 → ∀ b, b < 16 → a ≠ b → (TX2 a).2.1 ≠ (TX2 b).2.1 := by decide +kernel
theorem tyX2_ok : ∀ k, k < 16 → parseFieldDescriptor (TX2 k).2.2.1 = some (tyX2 k) := by decide +kernel
abbrev cX2_init : ByteArray := prog_4_method_1_code
def yX2_init : MethodName := ⟨RX2, "<init>", "()V"⟩
abbrev cX2_describe : ByteArray := prog_4_method_2_code
def yX2_describe : MethodName := ⟨RX2, "describe", "(III)V"⟩
abbrev cX2_clearYear : ByteArray := prog_4_method_3_code
def yX2_clearYear : MethodName := ⟨RX2, "clearYear", "()V"⟩
abbrev cX2_isAgainst : ByteArray := prog_4_method_4_code
def yX2_isAgainst : MethodName := ⟨RX2, "isAgainst", "(I)Z"⟩
abbrev cX2_takeIn : ByteArray := prog_4_method_5_code
def yX2_takeIn : MethodName := ⟨RX2, "takeIn", "(II)V"⟩
abbrev cX2_pagesLeft : ByteArray := prog_4_method_6_code
def yX2_pagesLeft : MethodName := ⟨RX2, "pagesLeft", "()I"⟩
abbrev cX2_paceAfter : ByteArray := prog_4_method_7_code
def yX2_paceAfter : MethodName := ⟨RX2, "paceAfter", "(I)I"⟩
abbrev cX2_readForDay : ByteArray := prog_4_method_8_code
def yX2_readForDay : MethodName := ⟨RX2, "readForDay", "([LPrizeHouse$Book;)I"⟩
abbrev cX2_daysLeft : ByteArray := prog_4_method_9_code
def yX2_daysLeft : MethodName := ⟨RX2, "daysLeft", "()I"⟩
abbrev cX2_markFor : ByteArray := prog_4_method_10_code
def yX2_markFor : MethodName := ⟨RX2, "markFor", "(LPrizeHouse$Book;)I"⟩
abbrev cX2_meanOfTenfoldMarks : ByteArray := prog_4_method_11_code
def yX2_meanOfTenfoldMarks : MethodName := ⟨RX2, "meanOfTenfoldMarks", "()I"⟩
abbrev cX2_pointsLeft : ByteArray := prog_4_method_12_code
def yX2_pointsLeft : MethodName := ⟨RX2, "pointsLeft", "()I"⟩
abbrev cX2_hasOrder : ByteArray := prog_4_method_13_code
def yX2_hasOrder : MethodName := ⟨RX2, "hasOrder", "()Z"⟩
abbrev cX2_firstIn : ByteArray := prog_4_method_14_code
def yX2_firstIn : MethodName := ⟨RX2, "firstIn", "(I)I"⟩
def RX3 : String := "PrizeHouse$Rules"
def TX3 : u_T := fun k => match k with
  | 0 => ("PrizeHouse$Rules", "forms", "I", false)
  | 1 => ("PrizeHouse$Rules", "least", "I", false)
  | 2 => ("PrizeHouse$Rules", "most", "I", false)
  | _ => ("PrizeHouse$Rules", "fee", "I", false)
def tyX3 : Nat → FieldType := fun k => match k with
  | 0 => .int
  | 1 => .int
  | 2 => .int
  | _ => .int
abbrev wsX30 : List Cond := u_ws RX3 TX3 4
theorem nmX3 : ∀ a, a < 4 → ∀ b, b < 4 → a ≠ b → (TX3 a).2.1 ≠ (TX3 b).2.1 := by decide +kernel
theorem tyX3_ok : ∀ k, k < 4 → parseFieldDescriptor (TX3 k).2.2.1 = some (tyX3 k) := by decide +kernel
abbrev cX3_init : ByteArray := prog_5_method_1_code
def yX3_init : MethodName := ⟨RX3, "<init>", "()V"⟩
abbrev cX3_set : ByteArray := prog_5_method_2_code
def yX3_set : MethodName := ⟨RX3, "set", "(IIII)V"⟩
abbrev cX3_admit : ByteArray := prog_5_method_3_code
/-- the name of the test of class Rules, as the tables have it -/
def yX3_admit : MethodName := match (tables_1_2[180]? : Option Cond) with | some (Cond.instanceMethod y) => y | _ => ⟨RX3, "", "(II)Z"⟩
def RX4 : String := "PrizeHouse"
def TX4 : u_T := fun k => match k with
  | 0 => ("PrizeHouse", "houses", "[LPrizeHouse$House;", true)
  | 1 => ("PrizeHouse", "books", "[LPrizeHouse$Book;", true)
  | 2 => ("PrizeHouse", "judges", "[LPrizeHouse$Judge;", true)
  | 3 => ("PrizeHouse", "houseCount", "I", false)
  | 4 => ("PrizeHouse", "bookCount", "I", false)
  | 5 => ("PrizeHouse", "judgeCount", "I", false)
  | 6 => ("PrizeHouse", "rulesNow", "LPrizeHouse$Rules;", true)
  | 7 => ("PrizeHouse", "rulesNext", "LPrizeHouse$Rules;", true)
  | 8 => ("PrizeHouse", "year", "I", false)
  | 9 => ("PrizeHouse", "phase", "I", false)
  | 10 => ("PrizeHouse", "day", "I", false)
  | 11 => ("PrizeHouse", "longSet", "I", false)
  | 12 => ("PrizeHouse", "formerLongSet", "I", false)
  | 13 => ("PrizeHouse", "shortSet", "I", false)
  | 14 => ("PrizeHouse", "winner", "I", false)
  | 15 => ("PrizeHouse", "formerWinner", "I", false)
  | 16 => ("PrizeHouse", "wonSet", "I", false)
  | 17 => ("PrizeHouse", "strippedSet", "I", false)
  | _ => ("PrizeHouse", "votes", "[I", true)
def tyX4 : Nat → FieldType := fun k => match k with
  | 0 => .array (.object "PrizeHouse$House")
  | 1 => .array (.object "PrizeHouse$Book")
  | 2 => .array (.object "PrizeHouse$Judge")
  | 3 => .int
  | 4 => .int
  | 5 => .int
  | 6 => .object "PrizeHouse$Rules"
  | 7 => .object "PrizeHouse$Rules"
  | 8 => .int
  | 9 => .int
  | 10 => .int
  | 11 => .int
  | 12 => .int
  | 13 => .int
  | 14 => .int
  | 15 => .int
  | 16 => .int
  | 17 => .int
  | _ => .array .int
abbrev wsX40 : List Cond := u_ws RX4 TX4 19
theorem nmX4 : ∀ a, a < 19 → ∀ b, b < 19 → a ≠ b → (TX4 a).2.1 ≠ (TX4 b).2.1 := by decide +kernel
theorem tyX4_ok : ∀ k, k < 19 → parseFieldDescriptor (TX4 k).2.2.1 = some (tyX4 k) := by decide +kernel
abbrev cX4_init : ByteArray := prog_1_method_1_code
def yX4_init : MethodName := ⟨RX4, "<init>", "()V"⟩
abbrev cX4_house : ByteArray := prog_1_method_2_code
def yX4_house : MethodName := ⟨RX4, "house", "()I"⟩
abbrev cX4_book : ByteArray := prog_1_method_3_code
def yX4_book : MethodName := ⟨RX4, "book", "(IIIIII)I"⟩
abbrev cX4_judge : ByteArray := prog_1_method_4_code
def yX4_judge : MethodName := ⟨RX4, "judge", "(III)I"⟩
abbrev cX4_conflict : ByteArray := prog_1_method_5_code
def yX4_conflict : MethodName := ⟨RX4, "conflict", "(II)I"⟩
abbrev cX4_rules : ByteArray := prog_1_method_6_code
def yX4_rules : MethodName := ⟨RX4, "rules", "(IIII)I"⟩
abbrev cX4_enter : ByteArray := prog_1_method_7_code
def yX4_enter : MethodName := ⟨RX4, "enter", "(I)I"⟩
abbrev cX4_callIn : ByteArray := prog_1_method_8_code
def yX4_callIn : MethodName := ⟨RX4, "callIn", "(II)I"⟩
abbrev cX4_read : ByteArray := prog_1_method_9_code
def yX4_read : MethodName := ⟨RX4, "read", "()I"⟩
abbrev cX4_print : ByteArray := prog_1_method_10_code
def yX4_print : MethodName := ⟨RX4, "print", "(II)I"⟩
abbrev cX4_pass : ByteArray := prog_1_method_11_code
def yX4_pass : MethodName := ⟨RX4, "pass", "(I)I"⟩
abbrev cX4_longList : ByteArray := prog_1_method_12_code
def yX4_longList : MethodName := ⟨RX4, "longList", "(I)I"⟩
abbrev cX4_points : ByteArray := prog_1_method_13_code
def yX4_points : MethodName := ⟨RX4, "points", "(III)I"⟩
abbrev cX4_shortList : ByteArray := prog_1_method_14_code
def yX4_shortList : MethodName := ⟨RX4, "shortList", "(I)I"⟩
abbrev cX4_vote : ByteArray := prog_1_method_15_code
def yX4_vote : MethodName := ⟨RX4, "vote", "(II)I"⟩
abbrev cX4_end : ByteArray := prog_1_method_16_code
def yX4_end : MethodName := ⟨RX4, "end", "()I"⟩
abbrev cX4_strip : ByteArray := prog_1_method_17_code
def yX4_strip : MethodName := ⟨RX4, "strip", "()I"⟩
abbrev cX4_next : ByteArray := prog_1_method_18_code
def yX4_next : MethodName := ⟨RX4, "next", "()I"⟩
abbrev cX4_ofHouse : ByteArray := prog_1_method_19_code
def yX4_ofHouse : MethodName := ⟨RX4, "ofHouse", "(II)I"⟩
abbrev cX4_ofBook : ByteArray := prog_1_method_20_code
def yX4_ofBook : MethodName := ⟨RX4, "ofBook", "(II)I"⟩
abbrev cX4_ofJudge : ByteArray := prog_1_method_21_code
def yX4_ofJudge : MethodName := ⟨RX4, "ofJudge", "(II)I"⟩
abbrev cX4_mark : ByteArray := prog_1_method_22_code
def yX4_mark : MethodName := ⟨RX4, "mark", "(II)I"⟩
abbrev cX4_many : ByteArray := prog_1_method_23_code
def yX4_many : MethodName := ⟨RX4, "many", "(I)I"⟩
abbrev cX4_meanMark : ByteArray := prog_1_method_24_code
def yX4_meanMark : MethodName := ⟨RX4, "meanMark", "()D"⟩
abbrev cX4_wins : ByteArray := prog_1_method_25_code
def yX4_wins : MethodName := ⟨RX4, "wins", "(I)I"⟩
abbrev cX4_beatsAll : ByteArray := prog_1_method_26_code
def yX4_beatsAll : MethodName := ⟨RX4, "beatsAll", "()I"⟩
abbrev cX4_spoiled : ByteArray := prog_1_method_27_code
def yX4_spoiled : MethodName := ⟨RX4, "spoiled", "(I)I"⟩
abbrev cX4_readIn : ByteArray := prog_1_method_28_code
def yX4_readIn : MethodName := ⟨RX4, "readIn", "()I"⟩
abbrev cX4_wouldMiss : ByteArray := prog_1_method_29_code
def yX4_wouldMiss : MethodName := ⟨RX4, "wouldMiss", "(I)I"⟩
abbrev cX4_digest : ByteArray := prog_1_method_30_code
def yX4_digest : MethodName := ⟨RX4, "digest", "()J"⟩
abbrev cX4_isWithin : ByteArray := prog_1_method_31_code
def yX4_isWithin : MethodName := ⟨RX4, "isWithin", "(III)Z"⟩
abbrev cX4_isAuthor : ByteArray := prog_1_method_32_code
def yX4_isAuthor : MethodName := ⟨RX4, "isAuthor", "(I)Z"⟩
abbrev cX4_isHouse : ByteArray := prog_1_method_33_code
def yX4_isHouse : MethodName := ⟨RX4, "isHouse", "(I)Z"⟩
abbrev cX4_isBook : ByteArray := prog_1_method_34_code
def yX4_isBook : MethodName := ⟨RX4, "isBook", "(I)Z"⟩
abbrev cX4_isJudge : ByteArray := prog_1_method_35_code
def yX4_isJudge : MethodName := ⟨RX4, "isJudge", "(I)Z"⟩
abbrev cX4_bit : ByteArray := prog_1_method_36_code
def yX4_bit : MethodName := ⟨RX4, "bit", "(I)I"⟩
abbrev cX4_has : ByteArray := prog_1_method_37_code
def yX4_has : MethodName := ⟨RX4, "has", "(II)Z"⟩
abbrev cX4_allBooks : ByteArray := prog_1_method_38_code
def yX4_allBooks : MethodName := ⟨RX4, "allBooks", "()I"⟩
abbrev cX4_countOfHouse : ByteArray := prog_1_method_39_code
def yX4_countOfHouse : MethodName := ⟨RX4, "countOfHouse", "(II)I"⟩
abbrev cX4_quotaOf : ByteArray := prog_1_method_40_code
def yX4_quotaOf : MethodName := ⟨RX4, "quotaOf", "(I)I"⟩
abbrev cX4_isEntered : ByteArray := prog_1_method_41_code
def yX4_isEntered : MethodName := ⟨RX4, "isEntered", "(I)Z"⟩
abbrev cX4_isEligible : ByteArray := prog_1_method_42_code
def yX4_isEligible : MethodName := ⟨RX4, "isEligible", "(I)Z"⟩
abbrev cX4_enteredCount : ByteArray := prog_1_method_43_code
def yX4_enteredCount : MethodName := ⟨RX4, "enteredCount", "()I"⟩
abbrev cX4_enterFor : ByteArray := prog_1_method_44_code
def yX4_enterFor : MethodName := ⟨RX4, "enterFor", "(II)I"⟩
abbrev cX4_handOut : ByteArray := prog_1_method_45_code
def yX4_handOut : MethodName := ⟨RX4, "handOut", "(I)I"⟩
abbrev cX4_lightestWithout : ByteArray := prog_1_method_46_code
def yX4_lightestWithout : MethodName := ⟨RX4, "lightestWithout", "(II)I"⟩
abbrev cX4_readForDay : ByteArray := prog_1_method_47_code
def yX4_readForDay : MethodName := ⟨RX4, "readForDay", "()I"⟩
abbrev cX4_areCratesRead : ByteArray := prog_1_method_48_code
def yX4_areCratesRead : MethodName := ⟨RX4, "areCratesRead", "()Z"⟩
abbrev cX4_askedInDay : ByteArray := prog_1_method_49_code
def yX4_askedInDay : MethodName := ⟨RX4, "askedInDay", "(I)I"⟩
abbrev cX4_sellFor : ByteArray := prog_1_method_50_code
def yX4_sellFor : MethodName := ⟨RX4, "sellFor", "(I)V"⟩
abbrev cX4_soldEver : ByteArray := prog_1_method_51_code
def yX4_soldEver : MethodName := ⟨RX4, "soldEver", "()I"⟩
abbrev cX4_missedEver : ByteArray := prog_1_method_52_code
def yX4_missedEver : MethodName := ⟨RX4, "missedEver", "()I"⟩
abbrev cX4_isFairMark : ByteArray := prog_1_method_53_code
def yX4_isFairMark : MethodName := ⟨RX4, "isFairMark", "(II)Z"⟩
abbrev cX4_fairMarksOf : ByteArray := prog_1_method_54_code
def yX4_fairMarksOf : MethodName := ⟨RX4, "fairMarksOf", "(I)I"⟩
abbrev cX4_scoreOf : ByteArray := prog_1_method_55_code
def yX4_scoreOf : MethodName := ⟨RX4, "scoreOf", "(I)I"⟩
abbrev cX4_pointsOf : ByteArray := prog_1_method_56_code
def yX4_pointsOf : MethodName := ⟨RX4, "pointsOf", "(I)I"⟩
abbrev cX4_giversTo : ByteArray := prog_1_method_57_code
def yX4_giversTo : MethodName := ⟨RX4, "giversTo", "(I)I"⟩
abbrev cX4_standingOf : ByteArray := prog_1_method_58_code
def yX4_standingOf : MethodName := ⟨RX4, "standingOf", "(I)I"⟩
abbrev cX4_fairJudgesOf : ByteArray := prog_1_method_59_code
def yX4_fairJudgesOf : MethodName := ⟨RX4, "fairJudgesOf", "(I)I"⟩
abbrev cX4_hasMarksEnough : ByteArray := prog_1_method_60_code
def yX4_hasMarksEnough : MethodName := ⟨RX4, "hasMarksEnough", "(I)Z"⟩
abbrev cX4_fillLongList : ByteArray := prog_1_method_61_code
def yX4_fillLongList : MethodName := ⟨RX4, "fillLongList", "(I)V"⟩
abbrev cX4_longListable : ByteArray := prog_1_method_62_code
def yX4_longListable : MethodName := ⟨RX4, "longListable", "()I"⟩
abbrev cX4_fillShortList : ByteArray := prog_1_method_63_code
def yX4_fillShortList : MethodName := ⟨RX4, "fillShortList", "(I)V"⟩
abbrev cX4_bestOf : ByteArray := prog_1_method_64_code
def yX4_bestOf : MethodName := ⟨RX4, "bestOf", "(I)I"⟩
abbrev cX4_isBetter : ByteArray := prog_1_method_65_code
def yX4_isBetter : MethodName := ⟨RX4, "isBetter", "(II)Z"⟩
abbrev cX4_isOrder : ByteArray := prog_1_method_66_code
def yX4_isOrder : MethodName := ⟨RX4, "isOrder", "(I)Z"⟩
abbrev cX4_takeOrder : ByteArray := prog_1_method_67_code
def yX4_takeOrder : MethodName := ⟨RX4, "takeOrder", "(LPrizeHouse$Judge;I)V"⟩
abbrev cX4_bookAtPlace : ByteArray := prog_1_method_68_code
def yX4_bookAtPlace : MethodName := ⟨RX4, "bookAtPlace", "(I)I"⟩
abbrev cX4_orderCount : ByteArray := prog_1_method_69_code
def yX4_orderCount : MethodName := ⟨RX4, "orderCount", "()I"⟩
abbrev cX4_openTo : ByteArray := prog_1_method_70_code
def yX4_openTo : MethodName := ⟨RX4, "openTo", "(LPrizeHouse$Judge;)I"⟩
abbrev cX4_crown : ByteArray := prog_1_method_71_code
def yX4_crown : MethodName := ⟨RX4, "crown", "(I)V"⟩
abbrev cX4_winnerWithout : ByteArray := prog_1_method_72_code
def yX4_winnerWithout : MethodName := ⟨RX4, "winnerWithout", "(II)I"⟩
abbrev cX4_countVotes : ByteArray := prog_1_method_73_code
def yX4_countVotes : MethodName := ⟨RX4, "countVotes", "(II)I"⟩
abbrev cX4_aboveHalf : ByteArray := prog_1_method_74_code
def yX4_aboveHalf : MethodName := ⟨RX4, "aboveHalf", "(II)I"⟩
abbrev cX4_weakestOf : ByteArray := prog_1_method_75_code
def yX4_weakestOf : MethodName := ⟨RX4, "weakestOf", "(I)I"⟩
abbrev cX4_isAheadOfRest : ByteArray := prog_1_method_76_code
def yX4_isAheadOfRest : MethodName := ⟨RX4, "isAheadOfRest", "(I)Z"⟩
abbrev cX4_leadOver : ByteArray := prog_1_method_77_code
def yX4_leadOver : MethodName := ⟨RX4, "leadOver", "(II)I"⟩
def RJ6 : String := "java/lang/Integer"
def TJ6 : u_T := fun k => match k with
  | _ => ("", "", "", false)
def tyJ6 : Nat → FieldType := fun k => match k with
  | _ => .int
theorem nmJ6 : ∀ a, a < 0 → ∀ b, b < 0 → a ≠ b → (TJ6 a).2.1 ≠ (TJ6 b).2.1 := by decide +kernel
theorem tyJ6_ok : ∀ k, k < 0 → parseFieldDescriptor (TJ6 k).2.2.1 = some (tyJ6 k) := by decide +kernel
abbrev cJ6_compare_7cf53 : ByteArray := prog_13_method_40_code
def yJ6_compare_7cf53 : MethodName := ⟨RJ6, "compare", "(II)I"⟩
abbrev cJ6_bitCount_0f7a4 : ByteArray := prog_13_method_49_code
def yJ6_bitCount_0f7a4 : MethodName := ⟨RJ6, "bitCount", "(I)I"⟩
def RJ9 : String := "java/lang/Math"
def TJ9 : u_T := fun k => match k with
  | _ => ("", "", "", false)
def tyJ9 : Nat → FieldType := fun k => match k with
  | _ => .int
theorem nmJ9 : ∀ a, a < 0 → ∀ b, b < 0 → a ≠ b → (TJ9 a).2.1 ≠ (TJ9 b).2.1 := by decide +kernel
theorem tyJ9_ok : ∀ k, k < 0 → parseFieldDescriptor (TJ9 k).2.2.1 = some (tyJ9 k) := by decide +kernel
abbrev cJ9_floorDiv_7cf53 : ByteArray := prog_14_method_47_code
def yJ9_floorDiv_7cf53 : MethodName := ⟨RJ9, "floorDiv", "(II)I"⟩
abbrev cJ9_abs_0f7a4 : ByteArray := prog_14_method_59_code
def yJ9_abs_0f7a4 : MethodName := ⟨RJ9, "abs", "(I)I"⟩
abbrev cJ9_abs_294c1 : ByteArray := prog_14_method_64_code
def yJ9_abs_294c1 : MethodName := ⟨RJ9, "abs", "(D)D"⟩
abbrev cJ9_max_7cf53 : ByteArray := prog_14_method_65_code
def yJ9_max_7cf53 : MethodName := ⟨RJ9, "max", "(II)I"⟩
abbrev cJ9_min_7cf53 : ByteArray := prog_14_method_69_code
def yJ9_min_7cf53 : MethodName := ⟨RJ9, "min", "(II)I"⟩
def RJ0 : String := "java/lang/String"
def TJ0 : u_T := fun k => match k with
  | _ => ("", "", "", false)
def tyJ0 : Nat → FieldType := fun k => match k with
  | _ => .int
theorem nmJ0 : ∀ a, a < 0 → ∀ b, b < 0 → a ≠ b → (TJ0 a).2.1 ≠ (TJ0 b).2.1 := by decide +kernel
theorem tyJ0_ok : ∀ k, k < 0 → parseFieldDescriptor (TJ0 k).2.2.1 = some (tyJ0 k) := by decide +kernel
def RL : String := "PrizeHouseLaw"
abbrev cL_below : ByteArray := method_2_code
def yL_below : MethodName := ⟨RL, "below", "(II)I"⟩
abbrev cL_cell : ByteArray := method_3_code
def yL_cell : MethodName := ⟨RL, "cell", "([II)I"⟩
abbrev cL_law : ByteArray := code
def yL_law : MethodName := ⟨RL, "law", "([I)Z"⟩
abbrev cL_isSo : ByteArray := method_5_code
def yL_isSo : MethodName := ⟨RL, "isSo", "(LPrizeHouse;II)Z"⟩
abbrev vwCl : List vw_C := [(RX0, TX0, 11), (RX1, TX1, 2), (RX2, TX2, 16), (RX3, TX3, 4), (RX4, TX4, 19)]
end
section
theorem dX0_init_0 : decode cX0_init 0 = .ok (.aload_n 0, 1) := by decide +kernel
theorem dX0_init_1 : decode cX0_init 1 = .ok (.invokespecial 3, 3) := by decide +kernel
theorem dX0_init_4 : decode cX0_init 4 = .ok (.aload_n 0, 1) := by decide +kernel
theorem dX0_init_5 : decode cX0_init 5 = .ok (.iconst (-1), 1) := by decide +kernel
theorem dX0_init_6 : decode cX0_init 6 = .ok (.putfield 9, 3) := by decide +kernel
theorem dX0_init_9 : decode cX0_init 9 = .ok (.return_, 1) := by decide +kernel
theorem dX0_describe_0 : decode cX0_describe 0 = .ok (.aload_n 0, 1) := by decide +kernel
theorem dX0_describe_1 : decode cX0_describe 1 = .ok (.iload_n 1, 1) := by decide +kernel
theorem dX0_describe_2 : decode cX0_describe 2 = .ok (.putfield 15, 3) := by decide +kernel
theorem dX0_describe_5 : decode cX0_describe 5 = .ok (.aload_n 0, 1) := by decide +kernel
theorem dX0_describe_6 : decode cX0_describe 6 = .ok (.iload_n 2, 1) := by decide +kernel
theorem dX0_describe_7 : decode cX0_describe 7 = .ok (.putfield 18, 3) := by decide +kernel
theorem dX0_describe_10 : decode cX0_describe 10 = .ok (.aload_n 0, 1) := by decide +kernel
theorem dX0_describe_11 : decode cX0_describe 11 = .ok (.iload_n 3, 1) := by decide +kernel
theorem dX0_describe_12 : decode cX0_describe 12 = .ok (.putfield 21, 3) := by decide +kernel
theorem dX0_describe_15 : decode cX0_describe 15 = .ok (.aload_n 0, 1) := by decide +kernel
theorem dX0_describe_16 : decode cX0_describe 16 = .ok (.iload 4, 2) := by decide +kernel
theorem dX0_describe_18 : decode cX0_describe 18 = .ok (.putfield 24, 3) := by decide +kernel
theorem dX0_describe_21 : decode cX0_describe 21 = .ok (.aload_n 0, 1) := by decide +kernel
theorem dX0_describe_22 : decode cX0_describe 22 = .ok (.iload 5, 2) := by decide +kernel
theorem dX0_describe_24 : decode cX0_describe 24 = .ok (.putfield 27, 3) := by decide +kernel
theorem dX0_describe_27 : decode cX0_describe 27 = .ok (.aload_n 0, 1) := by decide +kernel
theorem dX0_describe_28 : decode cX0_describe 28 = .ok (.iload 6, 2) := by decide +kernel
theorem dX0_describe_30 : decode cX0_describe 30 = .ok (.putfield 30, 3) := by decide +kernel
theorem dX0_describe_33 : decode cX0_describe 33 = .ok (.return_, 1) := by decide +kernel
theorem dX0_sell_0 : decode cX0_sell 0 = .ok (.iload_n 1, 1) := by decide +kernel
theorem dX0_sell_1 : decode cX0_sell 1 = .ok (.aload_n 0, 1) := by decide +kernel
theorem dX0_sell_2 : decode cX0_sell 2 = .ok (.getfield 33, 3) := by decide +kernel
theorem dX0_sell_5 : decode cX0_sell 5 = .ok (.invokestatic 36, 3) := by decide +kernel
theorem dX0_sell_8 : decode cX0_sell 8 = .ok (.istore_n 2, 1) := by decide +kernel
theorem dX0_sell_9 : decode cX0_sell 9 = .ok (.aload_n 0, 1) := by decide +kernel
theorem dX0_sell_10 : decode cX0_sell 10 = .ok (.dup, 1) := by decide +kernel
theorem dX0_sell_11 : decode cX0_sell 11 = .ok (.getfield 33, 3) := by decide +kernel
theorem dX0_sell_14 : decode cX0_sell 14 = .ok (.iload_n 2, 1) := by decide +kernel
theorem dX0_sell_15 : decode cX0_sell 15 = .ok (.isub, 1) := by decide +kernel
theorem dX0_sell_16 : decode cX0_sell 16 = .ok (.putfield 33, 3) := by decide +kernel
theorem dX0_sell_19 : decode cX0_sell 19 = .ok (.aload_n 0, 1) := by decide +kernel
theorem dX0_sell_20 : decode cX0_sell 20 = .ok (.dup, 1) := by decide +kernel
theorem dX0_sell_21 : decode cX0_sell 21 = .ok (.getfield 42, 3) := by decide +kernel
theorem dX0_sell_24 : decode cX0_sell 24 = .ok (.iload_n 2, 1) := by decide +kernel
theorem dX0_sell_25 : decode cX0_sell 25 = .ok (.iadd, 1) := by decide +kernel
theorem dX0_sell_26 : decode cX0_sell 26 = .ok (.putfield 42, 3) := by decide +kernel
theorem dX0_sell_29 : decode cX0_sell 29 = .ok (.aload_n 0, 1) := by decide +kernel
theorem dX0_sell_30 : decode cX0_sell 30 = .ok (.dup, 1) := by decide +kernel
theorem dX0_sell_31 : decode cX0_sell 31 = .ok (.getfield 45, 3) := by decide +kernel
theorem dX0_sell_34 : decode cX0_sell 34 = .ok (.iload_n 1, 1) := by decide +kernel
theorem dX0_sell_35 : decode cX0_sell 35 = .ok (.iload_n 2, 1) := by decide +kernel
theorem dX0_sell_36 : decode cX0_sell 36 = .ok (.isub, 1) := by decide +kernel
theorem dX0_sell_37 : decode cX0_sell 37 = .ok (.iadd, 1) := by decide +kernel
theorem dX0_sell_38 : decode cX0_sell 38 = .ok (.putfield 45, 3) := by decide +kernel
theorem dX0_sell_41 : decode cX0_sell 41 = .ok (.iload_n 2, 1) := by decide +kernel
theorem dX0_sell_42 : decode cX0_sell 42 = .ok (.ireturn, 1) := by decide +kernel
theorem dX1_init_0 : decode cX1_init 0 = .ok (.aload_n 0, 1) := by decide +kernel
theorem dX1_init_1 : decode cX1_init 1 = .ok (.invokespecial 1, 3) := by decide +kernel
theorem dX1_init_4 : decode cX1_init 4 = .ok (.aload_n 0, 1) := by decide +kernel
theorem dX1_init_5 : decode cX1_init 5 = .ok (.bipush 100, 2) := by decide +kernel
theorem dX1_init_7 : decode cX1_init 7 = .ok (.putfield 7, 3) := by decide +kernel
theorem dX1_init_10 : decode cX1_init 10 = .ok (.return_, 1) := by decide +kernel
theorem dX2_init_0 : decode cX2_init 0 = .ok (.aload_n 0, 1) := by decide +kernel
theorem dX2_init_1 : decode cX2_init 1 = .ok (.invokespecial 3, 3) := by decide +kernel
theorem dX2_init_4 : decode cX2_init 4 = .ok (.aload_n 0, 1) := by decide +kernel
theorem dX2_init_5 : decode cX2_init 5 = .ok (.bipush 16, 2) := by decide +kernel
theorem dX2_init_7 : decode cX2_init 7 = .ok (.newarray .int, 2) := by decide +kernel
theorem dX2_init_9 : decode cX2_init 9 = .ok (.putfield 9, 3) := by decide +kernel
theorem dX2_init_12 : decode cX2_init 12 = .ok (.aload_n 0, 1) := by decide +kernel
theorem dX2_init_13 : decode cX2_init 13 = .ok (.bipush 16, 2) := by decide +kernel
theorem dX2_init_15 : decode cX2_init 15 = .ok (.newarray .int, 2) := by decide +kernel
theorem dX2_init_17 : decode cX2_init 17 = .ok (.putfield 15, 3) := by decide +kernel
theorem dX2_init_20 : decode cX2_init 20 = .ok (.aload_n 0, 1) := by decide +kernel
theorem dX2_init_21 : decode cX2_init 21 = .ok (.bipush 16, 2) := by decide +kernel
theorem dX2_init_23 : decode cX2_init 23 = .ok (.newarray .int, 2) := by decide +kernel
theorem dX2_init_25 : decode cX2_init 25 = .ok (.putfield 18, 3) := by decide +kernel
theorem dX2_init_28 : decode cX2_init 28 = .ok (.aload_n 0, 1) := by decide +kernel
theorem dX2_init_29 : decode cX2_init 29 = .ok (.bipush 16, 2) := by decide +kernel
theorem dX2_init_31 : decode cX2_init 31 = .ok (.newarray .int, 2) := by decide +kernel
theorem dX2_init_33 : decode cX2_init 33 = .ok (.putfield 21, 3) := by decide +kernel
theorem dX2_init_36 : decode cX2_init 36 = .ok (.aload_n 0, 1) := by decide +kernel
theorem dX2_init_37 : decode cX2_init 37 = .ok (.iconst 5, 1) := by decide +kernel
theorem dX2_init_38 : decode cX2_init 38 = .ok (.newarray .int, 2) := by decide +kernel
theorem dX2_init_40 : decode cX2_init 40 = .ok (.putfield 24, 3) := by decide +kernel
theorem dX2_init_43 : decode cX2_init 43 = .ok (.iconst 0, 1) := by decide +kernel
theorem dX2_init_44 : decode cX2_init 44 = .ok (.istore_n 1, 1) := by decide +kernel
theorem dX2_init_45 : decode cX2_init 45 = .ok (.iload_n 1, 1) := by decide +kernel
theorem dX2_init_46 : decode cX2_init 46 = .ok (.bipush 16, 2) := by decide +kernel
theorem dX2_init_48 : decode cX2_init 48 = .ok (.if_icmp .ge 16, 3) := by decide +kernel
theorem dX2_init_51 : decode cX2_init 51 = .ok (.aload_n 0, 1) := by decide +kernel
theorem dX2_init_52 : decode cX2_init 52 = .ok (.getfield 18, 3) := by decide +kernel
theorem dX2_init_55 : decode cX2_init 55 = .ok (.iload_n 1, 1) := by decide +kernel
theorem dX2_init_56 : decode cX2_init 56 = .ok (.iconst (-1), 1) := by decide +kernel
theorem dX2_init_57 : decode cX2_init 57 = .ok (.iastore, 1) := by decide +kernel
theorem dX2_init_58 : decode cX2_init 58 = .ok (.iinc 1 1, 3) := by decide +kernel
theorem dX2_init_61 : decode cX2_init 61 = .ok (.goto (-16), 3) := by decide +kernel
theorem dX2_init_64 : decode cX2_init 64 = .ok (.return_, 1) := by decide +kernel
theorem dX2_describe_0 : decode cX2_describe 0 = .ok (.aload_n 0, 1) := by decide +kernel
theorem dX2_describe_1 : decode cX2_describe 1 = .ok (.iload_n 1, 1) := by decide +kernel
theorem dX2_describe_2 : decode cX2_describe 2 = .ok (.putfield 27, 3) := by decide +kernel
theorem dX2_describe_5 : decode cX2_describe 5 = .ok (.aload_n 0, 1) := by decide +kernel
theorem dX2_describe_6 : decode cX2_describe 6 = .ok (.iload_n 2, 1) := by decide +kernel
theorem dX2_describe_7 : decode cX2_describe 7 = .ok (.putfield 31, 3) := by decide +kernel
theorem dX2_describe_10 : decode cX2_describe 10 = .ok (.aload_n 0, 1) := by decide +kernel
theorem dX2_describe_11 : decode cX2_describe 11 = .ok (.iload_n 3, 1) := by decide +kernel
theorem dX2_describe_12 : decode cX2_describe 12 = .ok (.putfield 34, 3) := by decide +kernel
theorem dX2_describe_15 : decode cX2_describe 15 = .ok (.return_, 1) := by decide +kernel
theorem dX2_clearYear_0 : decode cX2_clearYear 0 = .ok (.aload_n 0, 1) := by decide +kernel
theorem dX2_clearYear_1 : decode cX2_clearYear 1 = .ok (.iconst 0, 1) := by decide +kernel
theorem dX2_clearYear_2 : decode cX2_clearYear 2 = .ok (.putfield 37, 3) := by decide +kernel
theorem dX2_clearYear_5 : decode cX2_clearYear 5 = .ok (.aload_n 0, 1) := by decide +kernel
theorem dX2_clearYear_6 : decode cX2_clearYear 6 = .ok (.iconst 0, 1) := by decide +kernel
theorem dX2_clearYear_7 : decode cX2_clearYear 7 = .ok (.putfield 41, 3) := by decide +kernel
theorem dX2_clearYear_10 : decode cX2_clearYear 10 = .ok (.aload_n 0, 1) := by decide +kernel
theorem dX2_clearYear_11 : decode cX2_clearYear 11 = .ok (.iconst 0, 1) := by decide +kernel
theorem dX2_clearYear_12 : decode cX2_clearYear 12 = .ok (.putfield 44, 3) := by decide +kernel
theorem dX2_clearYear_15 : decode cX2_clearYear 15 = .ok (.aload_n 0, 1) := by decide +kernel
theorem dX2_clearYear_16 : decode cX2_clearYear 16 = .ok (.iconst 0, 1) := by decide +kernel
theorem dX2_clearYear_17 : decode cX2_clearYear 17 = .ok (.putfield 47, 3) := by decide +kernel
theorem dX2_clearYear_20 : decode cX2_clearYear 20 = .ok (.aload_n 0, 1) := by decide +kernel
theorem dX2_clearYear_21 : decode cX2_clearYear 21 = .ok (.iconst 0, 1) := by decide +kernel
theorem dX2_clearYear_22 : decode cX2_clearYear 22 = .ok (.putfield 50, 3) := by decide +kernel
theorem dX2_clearYear_25 : decode cX2_clearYear 25 = .ok (.aload_n 0, 1) := by decide +kernel
theorem dX2_clearYear_26 : decode cX2_clearYear 26 = .ok (.iconst 0, 1) := by decide +kernel
theorem dX2_clearYear_27 : decode cX2_clearYear 27 = .ok (.putfield 53, 3) := by decide +kernel
theorem dX2_clearYear_30 : decode cX2_clearYear 30 = .ok (.aload_n 0, 1) := by decide +kernel
theorem dX2_clearYear_31 : decode cX2_clearYear 31 = .ok (.iconst 0, 1) := by decide +kernel
theorem dX2_clearYear_32 : decode cX2_clearYear 32 = .ok (.putfield 56, 3) := by decide +kernel
theorem dX2_clearYear_35 : decode cX2_clearYear 35 = .ok (.iconst 0, 1) := by decide +kernel
theorem dX2_clearYear_36 : decode cX2_clearYear 36 = .ok (.istore_n 1, 1) := by decide +kernel
theorem dX2_clearYear_37 : decode cX2_clearYear 37 = .ok (.iload_n 1, 1) := by decide +kernel
theorem dX2_clearYear_38 : decode cX2_clearYear 38 = .ok (.bipush 16, 2) := by decide +kernel
theorem dX2_clearYear_40 : decode cX2_clearYear 40 = .ok (.if_icmp .ge 23, 3) := by decide +kernel
theorem dX2_clearYear_43 : decode cX2_clearYear 43 = .ok (.aload_n 0, 1) := by decide +kernel
theorem dX2_clearYear_44 : decode cX2_clearYear 44 = .ok (.getfield 18, 3) := by decide +kernel
theorem dX2_clearYear_47 : decode cX2_clearYear 47 = .ok (.iload_n 1, 1) := by decide +kernel
theorem dX2_clearYear_48 : decode cX2_clearYear 48 = .ok (.iconst (-1), 1) := by decide +kernel
theorem dX2_clearYear_49 : decode cX2_clearYear 49 = .ok (.iastore, 1) := by decide +kernel
theorem dX2_clearYear_50 : decode cX2_clearYear 50 = .ok (.aload_n 0, 1) := by decide +kernel
theorem dX2_clearYear_51 : decode cX2_clearYear 51 = .ok (.getfield 21, 3) := by decide +kernel
theorem dX2_clearYear_54 : decode cX2_clearYear 54 = .ok (.iload_n 1, 1) := by decide +kernel
theorem dX2_clearYear_55 : decode cX2_clearYear 55 = .ok (.iconst 0, 1) := by decide +kernel
theorem dX2_clearYear_56 : decode cX2_clearYear 56 = .ok (.iastore, 1) := by decide +kernel
theorem dX2_clearYear_57 : decode cX2_clearYear 57 = .ok (.iinc 1 1, 3) := by decide +kernel
theorem dX2_clearYear_60 : decode cX2_clearYear 60 = .ok (.goto (-23), 3) := by decide +kernel
theorem dX2_clearYear_63 : decode cX2_clearYear 63 = .ok (.return_, 1) := by decide +kernel
theorem dX2_isAgainst_0 : decode cX2_isAgainst 0 = .ok (.aload_n 0, 1) := by decide +kernel
theorem dX2_isAgainst_1 : decode cX2_isAgainst 1 = .ok (.getfield 59, 3) := by decide +kernel
theorem dX2_isAgainst_4 : decode cX2_isAgainst 4 = .ok (.iconst 1, 1) := by decide +kernel
theorem dX2_isAgainst_5 : decode cX2_isAgainst 5 = .ok (.iload_n 1, 1) := by decide +kernel
theorem dX2_isAgainst_6 : decode cX2_isAgainst 6 = .ok (.ishl, 1) := by decide +kernel
theorem dX2_isAgainst_7 : decode cX2_isAgainst 7 = .ok (.iand, 1) := by decide +kernel
theorem dX2_isAgainst_8 : decode cX2_isAgainst 8 = .ok (.ifCond .eq 7, 3) := by decide +kernel
theorem dX2_isAgainst_11 : decode cX2_isAgainst 11 = .ok (.iconst 1, 1) := by decide +kernel
theorem dX2_isAgainst_12 : decode cX2_isAgainst 12 = .ok (.goto 4, 3) := by decide +kernel
theorem dX2_isAgainst_15 : decode cX2_isAgainst 15 = .ok (.iconst 0, 1) := by decide +kernel
theorem dX2_isAgainst_16 : decode cX2_isAgainst 16 = .ok (.ireturn, 1) := by decide +kernel
theorem dX2_takeIn_0 : decode cX2_takeIn 0 = .ok (.aload_n 0, 1) := by decide +kernel
theorem dX2_takeIn_1 : decode cX2_takeIn 1 = .ok (.getfield 41, 3) := by decide +kernel
theorem dX2_takeIn_4 : decode cX2_takeIn 4 = .ok (.bipush 16, 2) := by decide +kernel
theorem dX2_takeIn_6 : decode cX2_takeIn 6 = .ok (.if_icmp .ge 46, 3) := by decide +kernel
theorem dX2_takeIn_9 : decode cX2_takeIn 9 = .ok (.aload_n 0, 1) := by decide +kernel
theorem dX2_takeIn_10 : decode cX2_takeIn 10 = .ok (.dup, 1) := by decide +kernel
theorem dX2_takeIn_11 : decode cX2_takeIn 11 = .ok (.getfield 44, 3) := by decide +kernel
theorem dX2_takeIn_14 : decode cX2_takeIn 14 = .ok (.iload_n 2, 1) := by decide +kernel
theorem dX2_takeIn_15 : decode cX2_takeIn 15 = .ok (.iadd, 1) := by decide +kernel
theorem dX2_takeIn_16 : decode cX2_takeIn 16 = .ok (.putfield 44, 3) := by decide +kernel
theorem dX2_takeIn_19 : decode cX2_takeIn 19 = .ok (.aload_n 0, 1) := by decide +kernel
theorem dX2_takeIn_20 : decode cX2_takeIn 20 = .ok (.getfield 9, 3) := by decide +kernel
theorem dX2_takeIn_23 : decode cX2_takeIn 23 = .ok (.aload_n 0, 1) := by decide +kernel
theorem dX2_takeIn_24 : decode cX2_takeIn 24 = .ok (.getfield 41, 3) := by decide +kernel
theorem dX2_takeIn_27 : decode cX2_takeIn 27 = .ok (.iload_n 1, 1) := by decide +kernel
theorem dX2_takeIn_28 : decode cX2_takeIn 28 = .ok (.iastore, 1) := by decide +kernel
theorem dX2_takeIn_29 : decode cX2_takeIn 29 = .ok (.aload_n 0, 1) := by decide +kernel
theorem dX2_takeIn_30 : decode cX2_takeIn 30 = .ok (.getfield 15, 3) := by decide +kernel
theorem dX2_takeIn_33 : decode cX2_takeIn 33 = .ok (.aload_n 0, 1) := by decide +kernel
theorem dX2_takeIn_34 : decode cX2_takeIn 34 = .ok (.getfield 41, 3) := by decide +kernel
theorem dX2_takeIn_37 : decode cX2_takeIn 37 = .ok (.aload_n 0, 1) := by decide +kernel
theorem dX2_takeIn_38 : decode cX2_takeIn 38 = .ok (.getfield 44, 3) := by decide +kernel
theorem dX2_takeIn_41 : decode cX2_takeIn 41 = .ok (.iastore, 1) := by decide +kernel
theorem dX2_takeIn_42 : decode cX2_takeIn 42 = .ok (.aload_n 0, 1) := by decide +kernel
theorem dX2_takeIn_43 : decode cX2_takeIn 43 = .ok (.dup, 1) := by decide +kernel
theorem dX2_takeIn_44 : decode cX2_takeIn 44 = .ok (.getfield 41, 3) := by decide +kernel
theorem dX2_takeIn_47 : decode cX2_takeIn 47 = .ok (.iconst 1, 1) := by decide +kernel
theorem dX2_takeIn_48 : decode cX2_takeIn 48 = .ok (.iadd, 1) := by decide +kernel
theorem dX2_takeIn_49 : decode cX2_takeIn 49 = .ok (.putfield 41, 3) := by decide +kernel
theorem dX2_takeIn_52 : decode cX2_takeIn 52 = .ok (.return_, 1) := by decide +kernel
theorem dX2_pagesLeft_0 : decode cX2_pagesLeft 0 = .ok (.aload_n 0, 1) := by decide +kernel
theorem dX2_pagesLeft_1 : decode cX2_pagesLeft 1 = .ok (.getfield 44, 3) := by decide +kernel
theorem dX2_pagesLeft_4 : decode cX2_pagesLeft 4 = .ok (.aload_n 0, 1) := by decide +kernel
theorem dX2_pagesLeft_5 : decode cX2_pagesLeft 5 = .ok (.getfield 50, 3) := by decide +kernel
theorem dX2_pagesLeft_8 : decode cX2_pagesLeft 8 = .ok (.isub, 1) := by decide +kernel
theorem dX2_pagesLeft_9 : decode cX2_pagesLeft 9 = .ok (.ireturn, 1) := by decide +kernel
theorem dX2_paceAfter_0 : decode cX2_paceAfter 0 = .ok (.bipush 10, 2) := by decide +kernel
theorem dX2_paceAfter_2 : decode cX2_paceAfter 2 = .ok (.aload_n 0, 1) := by decide +kernel
theorem dX2_paceAfter_3 : decode cX2_paceAfter 3 = .ok (.getfield 27, 3) := by decide +kernel
theorem dX2_paceAfter_6 : decode cX2_paceAfter 6 = .ok (.iconst 5, 1) := by decide +kernel
theorem dX2_paceAfter_7 : decode cX2_paceAfter 7 = .ok (.iload_n 1, 1) := by decide +kernel
theorem dX2_paceAfter_8 : decode cX2_paceAfter 8 = .ok (.sipush 500, 3) := by decide +kernel
theorem dX2_paceAfter_11 : decode cX2_paceAfter 11 = .ok (.idiv, 1) := by decide +kernel
theorem dX2_paceAfter_12 : decode cX2_paceAfter 12 = .ok (.imul, 1) := by decide +kernel
theorem dX2_paceAfter_13 : decode cX2_paceAfter 13 = .ok (.isub, 1) := by decide +kernel
theorem dX2_paceAfter_14 : decode cX2_paceAfter 14 = .ok (.invokestatic 62, 3) := by decide +kernel
theorem dX2_paceAfter_17 : decode cX2_paceAfter 17 = .ok (.ireturn, 1) := by decide +kernel
theorem dX2_readForDay_0 : decode cX2_readForDay 0 = .ok (.aload_n 0, 1) := by decide +kernel
theorem dX2_readForDay_1 : decode cX2_readForDay 1 = .ok (.dup, 1) := by decide +kernel
theorem dX2_readForDay_2 : decode cX2_readForDay 2 = .ok (.getfield 50, 3) := by decide +kernel
theorem dX2_readForDay_5 : decode cX2_readForDay 5 = .ok (.aload_n 0, 1) := by decide +kernel
theorem dX2_readForDay_6 : decode cX2_readForDay 6 = .ok (.aload_n 0, 1) := by decide +kernel
theorem dX2_readForDay_7 : decode cX2_readForDay 7 = .ok (.getfield 50, 3) := by decide +kernel
theorem dX2_readForDay_10 : decode cX2_readForDay 10 = .ok (.invokevirtual 68, 3) := by decide +kernel
theorem dX2_readForDay_13 : decode cX2_readForDay 13 = .ok (.aload_n 0, 1) := by decide +kernel
theorem dX2_readForDay_14 : decode cX2_readForDay 14 = .ok (.invokevirtual 72, 3) := by decide +kernel
theorem dX2_readForDay_17 : decode cX2_readForDay 17 = .ok (.invokestatic 76, 3) := by decide +kernel
theorem dX2_readForDay_20 : decode cX2_readForDay 20 = .ok (.iadd, 1) := by decide +kernel
theorem dX2_readForDay_21 : decode cX2_readForDay 21 = .ok (.putfield 50, 3) := by decide +kernel
theorem dX2_readForDay_24 : decode cX2_readForDay 24 = .ok (.aload_n 0, 1) := by decide +kernel
theorem dX2_readForDay_25 : decode cX2_readForDay 25 = .ok (.getfield 47, 3) := by decide +kernel
theorem dX2_readForDay_28 : decode cX2_readForDay 28 = .ok (.istore_n 2, 1) := by decide +kernel
theorem dX2_readForDay_29 : decode cX2_readForDay 29 = .ok (.aload_n 0, 1) := by decide +kernel
theorem dX2_readForDay_30 : decode cX2_readForDay 30 = .ok (.getfield 47, 3) := by decide +kernel
theorem dX2_readForDay_33 : decode cX2_readForDay 33 = .ok (.aload_n 0, 1) := by decide +kernel
theorem dX2_readForDay_34 : decode cX2_readForDay 34 = .ok (.getfield 41, 3) := by decide +kernel
theorem dX2_readForDay_37 : decode cX2_readForDay 37 = .ok (.if_icmp .ge 70, 3) := by decide +kernel
theorem dX2_readForDay_40 : decode cX2_readForDay 40 = .ok (.aload_n 0, 1) := by decide +kernel
theorem dX2_readForDay_41 : decode cX2_readForDay 41 = .ok (.getfield 15, 3) := by decide +kernel
theorem dX2_readForDay_44 : decode cX2_readForDay 44 = .ok (.aload_n 0, 1) := by decide +kernel
theorem dX2_readForDay_45 : decode cX2_readForDay 45 = .ok (.getfield 47, 3) := by decide +kernel
theorem dX2_readForDay_48 : decode cX2_readForDay 48 = .ok (.iaload, 1) := by decide +kernel
theorem dX2_readForDay_49 : decode cX2_readForDay 49 = .ok (.aload_n 0, 1) := by decide +kernel
theorem dX2_readForDay_50 : decode cX2_readForDay 50 = .ok (.getfield 50, 3) := by decide +kernel
theorem dX2_readForDay_53 : decode cX2_readForDay 53 = .ok (.if_icmp .gt 54, 3) := by decide +kernel
theorem dX2_readForDay_56 : decode cX2_readForDay 56 = .ok (.aload_n 0, 1) := by decide +kernel
theorem dX2_readForDay_57 : decode cX2_readForDay 57 = .ok (.getfield 9, 3) := by decide +kernel
theorem dX2_readForDay_60 : decode cX2_readForDay 60 = .ok (.aload_n 0, 1) := by decide +kernel
theorem dX2_readForDay_61 : decode cX2_readForDay 61 = .ok (.getfield 47, 3) := by decide +kernel
theorem dX2_readForDay_64 : decode cX2_readForDay 64 = .ok (.iaload, 1) := by decide +kernel
theorem dX2_readForDay_65 : decode cX2_readForDay 65 = .ok (.istore_n 3, 1) := by decide +kernel
theorem dX2_readForDay_66 : decode cX2_readForDay 66 = .ok (.aload_n 0, 1) := by decide +kernel
theorem dX2_readForDay_67 : decode cX2_readForDay 67 = .ok (.getfield 18, 3) := by decide +kernel
theorem dX2_readForDay_70 : decode cX2_readForDay 70 = .ok (.iload_n 3, 1) := by decide +kernel
theorem dX2_readForDay_71 : decode cX2_readForDay 71 = .ok (.aload_n 0, 1) := by decide +kernel
theorem dX2_readForDay_72 : decode cX2_readForDay 72 = .ok (.aload_n 1, 1) := by decide +kernel
theorem dX2_readForDay_73 : decode cX2_readForDay 73 = .ok (.iload_n 3, 1) := by decide +kernel
theorem dX2_readForDay_74 : decode cX2_readForDay 74 = .ok (.aaload, 1) := by decide +kernel
theorem dX2_readForDay_75 : decode cX2_readForDay 75 = .ok (.invokevirtual 79, 3) := by decide +kernel
theorem dX2_readForDay_78 : decode cX2_readForDay 78 = .ok (.iastore, 1) := by decide +kernel
theorem dX2_readForDay_79 : decode cX2_readForDay 79 = .ok (.aload_n 0, 1) := by decide +kernel
theorem dX2_readForDay_80 : decode cX2_readForDay 80 = .ok (.dup, 1) := by decide +kernel
theorem dX2_readForDay_81 : decode cX2_readForDay 81 = .ok (.getfield 53, 3) := by decide +kernel
theorem dX2_readForDay_84 : decode cX2_readForDay 84 = .ok (.aload_n 0, 1) := by decide +kernel
theorem dX2_readForDay_85 : decode cX2_readForDay 85 = .ok (.getfield 18, 3) := by decide +kernel
theorem dX2_readForDay_88 : decode cX2_readForDay 88 = .ok (.iload_n 3, 1) := by decide +kernel
theorem dX2_readForDay_89 : decode cX2_readForDay 89 = .ok (.iaload, 1) := by decide +kernel
theorem dX2_readForDay_90 : decode cX2_readForDay 90 = .ok (.iadd, 1) := by decide +kernel
theorem dX2_readForDay_91 : decode cX2_readForDay 91 = .ok (.putfield 53, 3) := by decide +kernel
theorem dX2_readForDay_94 : decode cX2_readForDay 94 = .ok (.aload_n 0, 1) := by decide +kernel
theorem dX2_readForDay_95 : decode cX2_readForDay 95 = .ok (.dup, 1) := by decide +kernel
theorem dX2_readForDay_96 : decode cX2_readForDay 96 = .ok (.getfield 47, 3) := by decide +kernel
theorem dX2_readForDay_99 : decode cX2_readForDay 99 = .ok (.iconst 1, 1) := by decide +kernel
theorem dX2_readForDay_100 : decode cX2_readForDay 100 = .ok (.iadd, 1) := by decide +kernel
theorem dX2_readForDay_101 : decode cX2_readForDay 101 = .ok (.putfield 47, 3) := by decide +kernel
theorem dX2_readForDay_104 : decode cX2_readForDay 104 = .ok (.goto (-75), 3) := by decide +kernel
theorem dX2_readForDay_107 : decode cX2_readForDay 107 = .ok (.aload_n 0, 1) := by decide +kernel
theorem dX2_readForDay_108 : decode cX2_readForDay 108 = .ok (.getfield 47, 3) := by decide +kernel
theorem dX2_readForDay_111 : decode cX2_readForDay 111 = .ok (.iload_n 2, 1) := by decide +kernel
theorem dX2_readForDay_112 : decode cX2_readForDay 112 = .ok (.isub, 1) := by decide +kernel
theorem dX2_readForDay_113 : decode cX2_readForDay 113 = .ok (.ireturn, 1) := by decide +kernel
theorem dX2_daysLeft_0 : decode cX2_daysLeft 0 = .ok (.iconst 0, 1) := by decide +kernel
theorem dX2_daysLeft_1 : decode cX2_daysLeft 1 = .ok (.istore_n 1, 1) := by decide +kernel
theorem dX2_daysLeft_2 : decode cX2_daysLeft 2 = .ok (.aload_n 0, 1) := by decide +kernel
theorem dX2_daysLeft_3 : decode cX2_daysLeft 3 = .ok (.getfield 50, 3) := by decide +kernel
theorem dX2_daysLeft_6 : decode cX2_daysLeft 6 = .ok (.istore_n 2, 1) := by decide +kernel
theorem dX2_daysLeft_7 : decode cX2_daysLeft 7 = .ok (.iload_n 2, 1) := by decide +kernel
theorem dX2_daysLeft_8 : decode cX2_daysLeft 8 = .ok (.aload_n 0, 1) := by decide +kernel
theorem dX2_daysLeft_9 : decode cX2_daysLeft 9 = .ok (.getfield 44, 3) := by decide +kernel
theorem dX2_daysLeft_12 : decode cX2_daysLeft 12 = .ok (.if_icmp .ge 24, 3) := by decide +kernel
theorem dX2_daysLeft_15 : decode cX2_daysLeft 15 = .ok (.iload_n 1, 1) := by decide +kernel
theorem dX2_daysLeft_16 : decode cX2_daysLeft 16 = .ok (.sipush 10000, 3) := by decide +kernel
theorem dX2_daysLeft_19 : decode cX2_daysLeft 19 = .ok (.if_icmp .ge 17, 3) := by decide +kernel
theorem dX2_daysLeft_22 : decode cX2_daysLeft 22 = .ok (.iload_n 2, 1) := by decide +kernel
theorem dX2_daysLeft_23 : decode cX2_daysLeft 23 = .ok (.aload_n 0, 1) := by decide +kernel
theorem dX2_daysLeft_24 : decode cX2_daysLeft 24 = .ok (.iload_n 2, 1) := by decide +kernel
theorem dX2_daysLeft_25 : decode cX2_daysLeft 25 = .ok (.invokevirtual 68, 3) := by decide +kernel
theorem dX2_daysLeft_28 : decode cX2_daysLeft 28 = .ok (.iadd, 1) := by decide +kernel
theorem dX2_daysLeft_29 : decode cX2_daysLeft 29 = .ok (.istore_n 2, 1) := by decide +kernel
theorem dX2_daysLeft_30 : decode cX2_daysLeft 30 = .ok (.iinc 1 1, 3) := by decide +kernel
theorem dX2_daysLeft_33 : decode cX2_daysLeft 33 = .ok (.goto (-26), 3) := by decide +kernel
theorem dX2_daysLeft_36 : decode cX2_daysLeft 36 = .ok (.iload_n 1, 1) := by decide +kernel
theorem dX2_daysLeft_37 : decode cX2_daysLeft 37 = .ok (.ireturn, 1) := by decide +kernel
theorem dX2_markFor_0 : decode cX2_markFor 0 = .ok (.aload_n 1, 1) := by decide +kernel
theorem dX2_markFor_1 : decode cX2_markFor 1 = .ok (.getfield 83, 3) := by decide +kernel
theorem dX2_markFor_4 : decode cX2_markFor 4 = .ok (.aload_n 0, 1) := by decide +kernel
theorem dX2_markFor_5 : decode cX2_markFor 5 = .ok (.getfield 34, 3) := by decide +kernel
theorem dX2_markFor_8 : decode cX2_markFor 8 = .ok (.iadd, 1) := by decide +kernel
theorem dX2_markFor_9 : decode cX2_markFor 9 = .ok (.bipush 10, 2) := by decide +kernel
theorem dX2_markFor_11 : decode cX2_markFor 11 = .ok (.iadd, 1) := by decide +kernel
theorem dX2_markFor_12 : decode cX2_markFor 12 = .ok (.iconst 2, 1) := by decide +kernel
theorem dX2_markFor_13 : decode cX2_markFor 13 = .ok (.aload_n 0, 1) := by decide +kernel
theorem dX2_markFor_14 : decode cX2_markFor 14 = .ok (.getfield 31, 3) := by decide +kernel
theorem dX2_markFor_17 : decode cX2_markFor 17 = .ok (.aload_n 1, 1) := by decide +kernel
theorem dX2_markFor_18 : decode cX2_markFor 18 = .ok (.getfield 88, 3) := by decide +kernel
theorem dX2_markFor_21 : decode cX2_markFor 21 = .ok (.isub, 1) := by decide +kernel
theorem dX2_markFor_22 : decode cX2_markFor 22 = .ok (.invokestatic 91, 3) := by decide +kernel
theorem dX2_markFor_25 : decode cX2_markFor 25 = .ok (.imul, 1) := by decide +kernel
theorem dX2_markFor_26 : decode cX2_markFor 26 = .ok (.isub, 1) := by decide +kernel
theorem dX2_markFor_27 : decode cX2_markFor 27 = .ok (.istore_n 2, 1) := by decide +kernel
theorem dX2_markFor_28 : decode cX2_markFor 28 = .ok (.iconst 0, 1) := by decide +kernel
theorem dX2_markFor_29 : decode cX2_markFor 29 = .ok (.bipush 99, 2) := by decide +kernel
theorem dX2_markFor_31 : decode cX2_markFor 31 = .ok (.iload_n 2, 1) := by decide +kernel
theorem dX2_markFor_32 : decode cX2_markFor 32 = .ok (.invokestatic 76, 3) := by decide +kernel
theorem dX2_markFor_35 : decode cX2_markFor 35 = .ok (.invokestatic 62, 3) := by decide +kernel
theorem dX2_markFor_38 : decode cX2_markFor 38 = .ok (.ireturn, 1) := by decide +kernel
theorem dX2_meanOfTenfoldMarks_0 : decode cX2_meanOfTenfoldMarks 0 = .ok (.aload_n 0, 1) := by decide +kernel
theorem dX2_meanOfTenfoldMarks_1 : decode cX2_meanOfTenfoldMarks 1 = .ok (.getfield 47, 3) := by decide +kernel
theorem dX2_meanOfTenfoldMarks_4 : decode cX2_meanOfTenfoldMarks 4 = .ok (.ifCond .ne 7, 3) := by decide +kernel
theorem dX2_meanOfTenfoldMarks_7 : decode cX2_meanOfTenfoldMarks 7 = .ok (.iconst 0, 1) := by decide +kernel
theorem dX2_meanOfTenfoldMarks_8 : decode cX2_meanOfTenfoldMarks 8 = .ok (.goto 15, 3) := by decide +kernel
theorem dX2_meanOfTenfoldMarks_11 : decode cX2_meanOfTenfoldMarks 11 = .ok (.bipush 10, 2) := by decide +kernel
theorem dX2_meanOfTenfoldMarks_13 : decode cX2_meanOfTenfoldMarks 13 = .ok (.aload_n 0, 1) := by decide +kernel
theorem dX2_meanOfTenfoldMarks_14 : decode cX2_meanOfTenfoldMarks 14 = .ok (.getfield 53, 3) := by decide +kernel
theorem dX2_meanOfTenfoldMarks_17 : decode cX2_meanOfTenfoldMarks 17 = .ok (.imul, 1) := by decide +kernel
theorem dX2_meanOfTenfoldMarks_18 : decode cX2_meanOfTenfoldMarks 18 = .ok (.aload_n 0, 1) := by decide +kernel
theorem dX2_meanOfTenfoldMarks_19 : decode cX2_meanOfTenfoldMarks 19 = .ok (.getfield 47, 3) := by decide +kernel
theorem dX2_meanOfTenfoldMarks_22 : decode cX2_meanOfTenfoldMarks 22 = .ok (.idiv, 1) := by decide +kernel
theorem dX2_meanOfTenfoldMarks_23 : decode cX2_meanOfTenfoldMarks 23 = .ok (.ireturn, 1) := by decide +kernel
theorem dX2_pointsLeft_0 : decode cX2_pointsLeft 0 = .ok (.bipush 12, 2) := by decide +kernel
theorem dX2_pointsLeft_2 : decode cX2_pointsLeft 2 = .ok (.istore_n 1, 1) := by decide +kernel
theorem dX2_pointsLeft_3 : decode cX2_pointsLeft 3 = .ok (.iconst 0, 1) := by decide +kernel
theorem dX2_pointsLeft_4 : decode cX2_pointsLeft 4 = .ok (.istore_n 2, 1) := by decide +kernel
theorem dX2_pointsLeft_5 : decode cX2_pointsLeft 5 = .ok (.iload_n 2, 1) := by decide +kernel
theorem dX2_pointsLeft_6 : decode cX2_pointsLeft 6 = .ok (.bipush 16, 2) := by decide +kernel
theorem dX2_pointsLeft_8 : decode cX2_pointsLeft 8 = .ok (.if_icmp .ge 18, 3) := by decide +kernel
theorem dX2_pointsLeft_11 : decode cX2_pointsLeft 11 = .ok (.iload_n 1, 1) := by decide +kernel
theorem dX2_pointsLeft_12 : decode cX2_pointsLeft 12 = .ok (.aload_n 0, 1) := by decide +kernel
theorem dX2_pointsLeft_13 : decode cX2_pointsLeft 13 = .ok (.getfield 21, 3) := by decide +kernel
theorem dX2_pointsLeft_16 : decode cX2_pointsLeft 16 = .ok (.iload_n 2, 1) := by decide +kernel
theorem dX2_pointsLeft_17 : decode cX2_pointsLeft 17 = .ok (.iaload, 1) := by decide +kernel
theorem dX2_pointsLeft_18 : decode cX2_pointsLeft 18 = .ok (.isub, 1) := by decide +kernel
theorem dX2_pointsLeft_19 : decode cX2_pointsLeft 19 = .ok (.istore_n 1, 1) := by decide +kernel
theorem dX2_pointsLeft_20 : decode cX2_pointsLeft 20 = .ok (.iinc 2 1, 3) := by decide +kernel
theorem dX2_pointsLeft_23 : decode cX2_pointsLeft 23 = .ok (.goto (-18), 3) := by decide +kernel
theorem dX2_pointsLeft_26 : decode cX2_pointsLeft 26 = .ok (.iload_n 1, 1) := by decide +kernel
theorem dX2_pointsLeft_27 : decode cX2_pointsLeft 27 = .ok (.ireturn, 1) := by decide +kernel
theorem dX2_hasOrder_0 : decode cX2_hasOrder 0 = .ok (.aload_n 0, 1) := by decide +kernel
theorem dX2_hasOrder_1 : decode cX2_hasOrder 1 = .ok (.getfield 56, 3) := by decide +kernel
theorem dX2_hasOrder_4 : decode cX2_hasOrder 4 = .ok (.ifCond .le 7, 3) := by decide +kernel
theorem dX2_hasOrder_7 : decode cX2_hasOrder 7 = .ok (.iconst 1, 1) := by decide +kernel
theorem dX2_hasOrder_8 : decode cX2_hasOrder 8 = .ok (.goto 4, 3) := by decide +kernel
theorem dX2_hasOrder_11 : decode cX2_hasOrder 11 = .ok (.iconst 0, 1) := by decide +kernel
theorem dX2_hasOrder_12 : decode cX2_hasOrder 12 = .ok (.ireturn, 1) := by decide +kernel
theorem dX2_firstIn_0 : decode cX2_firstIn 0 = .ok (.iconst 0, 1) := by decide +kernel
theorem dX2_firstIn_1 : decode cX2_firstIn 1 = .ok (.istore_n 2, 1) := by decide +kernel
theorem dX2_firstIn_2 : decode cX2_firstIn 2 = .ok (.iload_n 2, 1) := by decide +kernel
theorem dX2_firstIn_3 : decode cX2_firstIn 3 = .ok (.aload_n 0, 1) := by decide +kernel
theorem dX2_firstIn_4 : decode cX2_firstIn 4 = .ok (.getfield 56, 3) := by decide +kernel
theorem dX2_firstIn_7 : decode cX2_firstIn 7 = .ok (.if_icmp .ge 29, 3) := by decide +kernel
theorem dX2_firstIn_10 : decode cX2_firstIn 10 = .ok (.iload_n 1, 1) := by decide +kernel
theorem dX2_firstIn_11 : decode cX2_firstIn 11 = .ok (.aload_n 0, 1) := by decide +kernel
theorem dX2_firstIn_12 : decode cX2_firstIn 12 = .ok (.getfield 24, 3) := by decide +kernel
theorem dX2_firstIn_15 : decode cX2_firstIn 15 = .ok (.iload_n 2, 1) := by decide +kernel
theorem dX2_firstIn_16 : decode cX2_firstIn 16 = .ok (.iaload, 1) := by decide +kernel
theorem dX2_firstIn_17 : decode cX2_firstIn 17 = .ok (.invokestatic 94, 3) := by decide +kernel
theorem dX2_firstIn_20 : decode cX2_firstIn 20 = .ok (.ifCond .eq 10, 3) := by decide +kernel
theorem dX2_firstIn_23 : decode cX2_firstIn 23 = .ok (.aload_n 0, 1) := by decide +kernel
theorem dX2_firstIn_24 : decode cX2_firstIn 24 = .ok (.getfield 24, 3) := by decide +kernel
theorem dX2_firstIn_27 : decode cX2_firstIn 27 = .ok (.iload_n 2, 1) := by decide +kernel
theorem dX2_firstIn_28 : decode cX2_firstIn 28 = .ok (.iaload, 1) := by decide +kernel
theorem dX2_firstIn_29 : decode cX2_firstIn 29 = .ok (.ireturn, 1) := by decide +kernel
theorem dX2_firstIn_30 : decode cX2_firstIn 30 = .ok (.iinc 2 1, 3) := by decide +kernel
theorem dX2_firstIn_33 : decode cX2_firstIn 33 = .ok (.goto (-31), 3) := by decide +kernel
theorem dX2_firstIn_36 : decode cX2_firstIn 36 = .ok (.iconst (-1), 1) := by decide +kernel
theorem dX2_firstIn_37 : decode cX2_firstIn 37 = .ok (.ireturn, 1) := by decide +kernel
theorem dX3_init_0 : decode cX3_init 0 = .ok (.aload_n 0, 1) := by decide +kernel
theorem dX3_init_1 : decode cX3_init 1 = .ok (.invokespecial 1, 3) := by decide +kernel
theorem dX3_init_4 : decode cX3_init 4 = .ok (.aload_n 0, 1) := by decide +kernel
theorem dX3_init_5 : decode cX3_init 5 = .ok (.bipush 7, 2) := by decide +kernel
theorem dX3_init_7 : decode cX3_init 7 = .ok (.putfield 7, 3) := by decide +kernel
theorem dX3_init_10 : decode cX3_init 10 = .ok (.aload_n 0, 1) := by decide +kernel
theorem dX3_init_11 : decode cX3_init 11 = .ok (.bipush 100, 2) := by decide +kernel
theorem dX3_init_13 : decode cX3_init 13 = .ok (.putfield 13, 3) := by decide +kernel
theorem dX3_init_16 : decode cX3_init 16 = .ok (.aload_n 0, 1) := by decide +kernel
theorem dX3_init_17 : decode cX3_init 17 = .ok (.sipush 800, 3) := by decide +kernel
theorem dX3_init_20 : decode cX3_init 20 = .ok (.putfield 16, 3) := by decide +kernel
theorem dX3_init_23 : decode cX3_init 23 = .ok (.aload_n 0, 1) := by decide +kernel
theorem dX3_init_24 : decode cX3_init 24 = .ok (.bipush 10, 2) := by decide +kernel
theorem dX3_init_26 : decode cX3_init 26 = .ok (.putfield 19, 3) := by decide +kernel
theorem dX3_init_29 : decode cX3_init 29 = .ok (.return_, 1) := by decide +kernel
theorem dX3_set_0 : decode cX3_set 0 = .ok (.aload_n 0, 1) := by decide +kernel
theorem dX3_set_1 : decode cX3_set 1 = .ok (.iload_n 1, 1) := by decide +kernel
theorem dX3_set_2 : decode cX3_set 2 = .ok (.putfield 7, 3) := by decide +kernel
theorem dX3_set_5 : decode cX3_set 5 = .ok (.aload_n 0, 1) := by decide +kernel
theorem dX3_set_6 : decode cX3_set 6 = .ok (.iload_n 2, 1) := by decide +kernel
theorem dX3_set_7 : decode cX3_set 7 = .ok (.putfield 13, 3) := by decide +kernel
theorem dX3_set_10 : decode cX3_set 10 = .ok (.aload_n 0, 1) := by decide +kernel
theorem dX3_set_11 : decode cX3_set 11 = .ok (.iload_n 3, 1) := by decide +kernel
theorem dX3_set_12 : decode cX3_set 12 = .ok (.putfield 16, 3) := by decide +kernel
theorem dX3_set_15 : decode cX3_set 15 = .ok (.aload_n 0, 1) := by decide +kernel
theorem dX3_set_16 : decode cX3_set 16 = .ok (.iload 4, 2) := by decide +kernel
theorem dX3_set_18 : decode cX3_set 18 = .ok (.putfield 19, 3) := by decide +kernel
theorem dX3_set_21 : decode cX3_set 21 = .ok (.return_, 1) := by decide +kernel
theorem dX3_admit_0 : decode cX3_admit 0 = .ok (.aload_n 0, 1) := by decide +kernel
theorem dX3_admit_1 : decode cX3_admit 1 = .ok (.getfield 7, 3) := by decide +kernel
theorem dX3_admit_4 : decode cX3_admit 4 = .ok (.iload_n 1, 1) := by decide +kernel
theorem dX3_admit_5 : decode cX3_admit 5 = .ok (.invokestatic 22, 3) := by decide +kernel
theorem dX3_admit_8 : decode cX3_admit 8 = .ok (.ifCond .eq 22, 3) := by decide +kernel
theorem dX3_admit_11 : decode cX3_admit 11 = .ok (.iload_n 2, 1) := by decide +kernel
theorem dX3_admit_12 : decode cX3_admit 12 = .ok (.aload_n 0, 1) := by decide +kernel
theorem dX3_admit_13 : decode cX3_admit 13 = .ok (.getfield 13, 3) := by decide +kernel
theorem dX3_admit_16 : decode cX3_admit 16 = .ok (.aload_n 0, 1) := by decide +kernel
theorem dX3_admit_17 : decode cX3_admit 17 = .ok (.getfield 16, 3) := by decide +kernel
theorem dX3_admit_20 : decode cX3_admit 20 = .ok (.invokestatic 28, 3) := by decide +kernel
theorem dX3_admit_23 : decode cX3_admit 23 = .ok (.ifCond .eq 7, 3) := by decide +kernel
theorem dX3_admit_26 : decode cX3_admit 26 = .ok (.iconst 1, 1) := by decide +kernel
theorem dX3_admit_27 : decode cX3_admit 27 = .ok (.goto 4, 3) := by decide +kernel
theorem dX3_admit_30 : decode cX3_admit 30 = .ok (.iconst 0, 1) := by decide +kernel
theorem dX3_admit_31 : decode cX3_admit 31 = .ok (.ireturn, 1) := by decide +kernel
theorem dX4_init_0 : decode cX4_init 0 = .ok (.aload_n 0, 1) := by decide +kernel
theorem dX4_init_1 : decode cX4_init 1 = .ok (.invokespecial 1, 3) := by decide +kernel
theorem dX4_init_4 : decode cX4_init 4 = .ok (.aload_n 0, 1) := by decide +kernel
theorem dX4_init_5 : decode cX4_init 5 = .ok (.iconst 5, 1) := by decide +kernel
theorem dX4_init_6 : decode cX4_init 6 = .ok (.anewarray 9, 3) := by decide +kernel
theorem dX4_init_9 : decode cX4_init 9 = .ok (.putfield 11, 3) := by decide +kernel
theorem dX4_init_12 : decode cX4_init 12 = .ok (.aload_n 0, 1) := by decide +kernel
theorem dX4_init_13 : decode cX4_init 13 = .ok (.bipush 16, 2) := by decide +kernel
theorem dX4_init_15 : decode cX4_init 15 = .ok (.anewarray 15, 3) := by decide +kernel
theorem dX4_init_18 : decode cX4_init 18 = .ok (.putfield 17, 3) := by decide +kernel
theorem dX4_init_21 : decode cX4_init 21 = .ok (.aload_n 0, 1) := by decide +kernel
theorem dX4_init_22 : decode cX4_init 22 = .ok (.iconst 5, 1) := by decide +kernel
theorem dX4_init_23 : decode cX4_init 23 = .ok (.anewarray 21, 3) := by decide +kernel
theorem dX4_init_26 : decode cX4_init 26 = .ok (.putfield 23, 3) := by decide +kernel
theorem dX4_init_29 : decode cX4_init 29 = .ok (.aload_n 0, 1) := by decide +kernel
theorem dX4_init_30 : decode cX4_init 30 = .ok (.new 27, 3) := by decide +kernel
theorem dX4_init_33 : decode cX4_init 33 = .ok (.dup, 1) := by decide +kernel
end
section
theorem dX4_init_34 : decode cX4_init 34 = .ok (.invokespecial 29, 3) := by decide +kernel
theorem dX4_init_37 : decode cX4_init 37 = .ok (.putfield 30, 3) := by decide +kernel
theorem dX4_init_40 : decode cX4_init 40 = .ok (.aload_n 0, 1) := by decide +kernel
theorem dX4_init_41 : decode cX4_init 41 = .ok (.new 27, 3) := by decide +kernel
theorem dX4_init_44 : decode cX4_init 44 = .ok (.dup, 1) := by decide +kernel
theorem dX4_init_45 : decode cX4_init 45 = .ok (.invokespecial 29, 3) := by decide +kernel
theorem dX4_init_48 : decode cX4_init 48 = .ok (.putfield 34, 3) := by decide +kernel
theorem dX4_init_51 : decode cX4_init 51 = .ok (.aload_n 0, 1) := by decide +kernel
theorem dX4_init_52 : decode cX4_init 52 = .ok (.iconst 0, 1) := by decide +kernel
theorem dX4_init_53 : decode cX4_init 53 = .ok (.putfield 37, 3) := by decide +kernel
theorem dX4_init_56 : decode cX4_init 56 = .ok (.aload_n 0, 1) := by decide +kernel
theorem dX4_init_57 : decode cX4_init 57 = .ok (.iconst (-1), 1) := by decide +kernel
theorem dX4_init_58 : decode cX4_init 58 = .ok (.putfield 41, 3) := by decide +kernel
theorem dX4_init_61 : decode cX4_init 61 = .ok (.aload_n 0, 1) := by decide +kernel
theorem dX4_init_62 : decode cX4_init 62 = .ok (.iconst (-1), 1) := by decide +kernel
theorem dX4_init_63 : decode cX4_init 63 = .ok (.putfield 44, 3) := by decide +kernel
theorem dX4_init_66 : decode cX4_init 66 = .ok (.aload_n 0, 1) := by decide +kernel
theorem dX4_init_67 : decode cX4_init 67 = .ok (.bipush 16, 2) := by decide +kernel
theorem dX4_init_69 : decode cX4_init 69 = .ok (.newarray .int, 2) := by decide +kernel
theorem dX4_init_71 : decode cX4_init 71 = .ok (.putfield 47, 3) := by decide +kernel
theorem dX4_init_74 : decode cX4_init 74 = .ok (.iconst 0, 1) := by decide +kernel
theorem dX4_init_75 : decode cX4_init 75 = .ok (.istore_n 1, 1) := by decide +kernel
theorem dX4_init_76 : decode cX4_init 76 = .ok (.iload_n 1, 1) := by decide +kernel
theorem dX4_init_77 : decode cX4_init 77 = .ok (.iconst 5, 1) := by decide +kernel
theorem dX4_init_78 : decode cX4_init 78 = .ok (.if_icmp .ge 22, 3) := by decide +kernel
theorem dX4_init_81 : decode cX4_init 81 = .ok (.aload_n 0, 1) := by decide +kernel
theorem dX4_init_82 : decode cX4_init 82 = .ok (.getfield 11, 3) := by decide +kernel
theorem dX4_init_85 : decode cX4_init 85 = .ok (.iload_n 1, 1) := by decide +kernel
theorem dX4_init_86 : decode cX4_init 86 = .ok (.new 9, 3) := by decide +kernel
theorem dX4_init_89 : decode cX4_init 89 = .ok (.dup, 1) := by decide +kernel
theorem dX4_init_90 : decode cX4_init 90 = .ok (.invokespecial 51, 3) := by decide +kernel
theorem dX4_init_93 : decode cX4_init 93 = .ok (.aastore, 1) := by decide +kernel
theorem dX4_init_94 : decode cX4_init 94 = .ok (.iinc 1 1, 3) := by decide +kernel
theorem dX4_init_97 : decode cX4_init 97 = .ok (.goto (-21), 3) := by decide +kernel
theorem dX4_init_100 : decode cX4_init 100 = .ok (.iconst 0, 1) := by decide +kernel
theorem dX4_init_101 : decode cX4_init 101 = .ok (.istore_n 1, 1) := by decide +kernel
theorem dX4_init_102 : decode cX4_init 102 = .ok (.iload_n 1, 1) := by decide +kernel
theorem dX4_init_103 : decode cX4_init 103 = .ok (.bipush 16, 2) := by decide +kernel
theorem dX4_init_105 : decode cX4_init 105 = .ok (.if_icmp .ge 22, 3) := by decide +kernel
theorem dX4_init_108 : decode cX4_init 108 = .ok (.aload_n 0, 1) := by decide +kernel
theorem dX4_init_109 : decode cX4_init 109 = .ok (.getfield 17, 3) := by decide +kernel
theorem dX4_init_112 : decode cX4_init 112 = .ok (.iload_n 1, 1) := by decide +kernel
theorem dX4_init_113 : decode cX4_init 113 = .ok (.new 15, 3) := by decide +kernel
theorem dX4_init_116 : decode cX4_init 116 = .ok (.dup, 1) := by decide +kernel
theorem dX4_init_117 : decode cX4_init 117 = .ok (.invokespecial 52, 3) := by decide +kernel
theorem dX4_init_120 : decode cX4_init 120 = .ok (.aastore, 1) := by decide +kernel
theorem dX4_init_121 : decode cX4_init 121 = .ok (.iinc 1 1, 3) := by decide +kernel
theorem dX4_init_124 : decode cX4_init 124 = .ok (.goto (-22), 3) := by decide +kernel
theorem dX4_init_127 : decode cX4_init 127 = .ok (.iconst 0, 1) := by decide +kernel
theorem dX4_init_128 : decode cX4_init 128 = .ok (.istore_n 1, 1) := by decide +kernel
theorem dX4_init_129 : decode cX4_init 129 = .ok (.iload_n 1, 1) := by decide +kernel
theorem dX4_init_130 : decode cX4_init 130 = .ok (.iconst 5, 1) := by decide +kernel
theorem dX4_init_131 : decode cX4_init 131 = .ok (.if_icmp .ge 22, 3) := by decide +kernel
theorem dX4_init_134 : decode cX4_init 134 = .ok (.aload_n 0, 1) := by decide +kernel
theorem dX4_init_135 : decode cX4_init 135 = .ok (.getfield 23, 3) := by decide +kernel
theorem dX4_init_138 : decode cX4_init 138 = .ok (.iload_n 1, 1) := by decide +kernel
theorem dX4_init_139 : decode cX4_init 139 = .ok (.new 21, 3) := by decide +kernel
theorem dX4_init_142 : decode cX4_init 142 = .ok (.dup, 1) := by decide +kernel
theorem dX4_init_143 : decode cX4_init 143 = .ok (.invokespecial 53, 3) := by decide +kernel
theorem dX4_init_146 : decode cX4_init 146 = .ok (.aastore, 1) := by decide +kernel
theorem dX4_init_147 : decode cX4_init 147 = .ok (.iinc 1 1, 3) := by decide +kernel
theorem dX4_init_150 : decode cX4_init 150 = .ok (.goto (-21), 3) := by decide +kernel
theorem dX4_init_153 : decode cX4_init 153 = .ok (.return_, 1) := by decide +kernel
theorem dX4_house_0 : decode cX4_house 0 = .ok (.aload_n 0, 1) := by decide +kernel
theorem dX4_house_1 : decode cX4_house 1 = .ok (.getfield 54, 3) := by decide +kernel
theorem dX4_house_4 : decode cX4_house 4 = .ok (.iconst 5, 1) := by decide +kernel
theorem dX4_house_5 : decode cX4_house 5 = .ok (.if_icmp .lt 13, 3) := by decide +kernel
theorem dX4_house_8 : decode cX4_house 8 = .ok (.new 57, 3) := by decide +kernel
theorem dX4_house_11 : decode cX4_house 11 = .ok (.dup, 1) := by decide +kernel
theorem dX4_house_12 : decode cX4_house 12 = .ok (.ldc 59, 2) := by decide +kernel
theorem dX4_house_14 : decode cX4_house 14 = .ok (.invokespecial 61, 3) := by decide +kernel
theorem dX4_house_17 : decode cX4_house 17 = .ok (.athrow, 1) := by decide +kernel
theorem dX4_house_18 : decode cX4_house 18 = .ok (.aload_n 0, 1) := by decide +kernel
theorem dX4_house_19 : decode cX4_house 19 = .ok (.dup, 1) := by decide +kernel
theorem dX4_house_20 : decode cX4_house 20 = .ok (.getfield 54, 3) := by decide +kernel
theorem dX4_house_23 : decode cX4_house 23 = .ok (.iconst 1, 1) := by decide +kernel
theorem dX4_house_24 : decode cX4_house 24 = .ok (.iadd, 1) := by decide +kernel
theorem dX4_house_25 : decode cX4_house 25 = .ok (.putfield 54, 3) := by decide +kernel
theorem dX4_house_28 : decode cX4_house 28 = .ok (.aload_n 0, 1) := by decide +kernel
theorem dX4_house_29 : decode cX4_house 29 = .ok (.getfield 54, 3) := by decide +kernel
theorem dX4_house_32 : decode cX4_house 32 = .ok (.iconst 1, 1) := by decide +kernel
theorem dX4_house_33 : decode cX4_house 33 = .ok (.isub, 1) := by decide +kernel
theorem dX4_house_34 : decode cX4_house 34 = .ok (.ireturn, 1) := by decide +kernel
theorem dX4_book_0 : decode cX4_book 0 = .ok (.aload_n 0, 1) := by decide +kernel
theorem dX4_book_1 : decode cX4_book 1 = .ok (.iload_n 1, 1) := by decide +kernel
theorem dX4_book_2 : decode cX4_book 2 = .ok (.invokevirtual 64, 3) := by decide +kernel
theorem dX4_book_5 : decode cX4_book 5 = .ok (.ifCond .ne 13, 3) := by decide +kernel
theorem dX4_book_8 : decode cX4_book 8 = .ok (.new 68, 3) := by decide +kernel
theorem dX4_book_11 : decode cX4_book 11 = .ok (.dup, 1) := by decide +kernel
theorem dX4_book_12 : decode cX4_book 12 = .ok (.ldc 70, 2) := by decide +kernel
theorem dX4_book_14 : decode cX4_book 14 = .ok (.invokespecial 72, 3) := by decide +kernel
theorem dX4_book_17 : decode cX4_book 17 = .ok (.athrow, 1) := by decide +kernel
theorem dX4_book_18 : decode cX4_book 18 = .ok (.iload_n 2, 1) := by decide +kernel
theorem dX4_book_19 : decode cX4_book 19 = .ok (.invokestatic 73, 3) := by decide +kernel
theorem dX4_book_22 : decode cX4_book 22 = .ok (.ifCond .eq 47, 3) := by decide +kernel
theorem dX4_book_25 : decode cX4_book 25 = .ok (.iload_n 3, 1) := by decide +kernel
theorem dX4_book_26 : decode cX4_book 26 = .ok (.iconst 0, 1) := by decide +kernel
theorem dX4_book_27 : decode cX4_book 27 = .ok (.iconst 2, 1) := by decide +kernel
theorem dX4_book_28 : decode cX4_book 28 = .ok (.invokestatic 76, 3) := by decide +kernel
theorem dX4_book_31 : decode cX4_book 31 = .ok (.ifCond .eq 38, 3) := by decide +kernel
theorem dX4_book_34 : decode cX4_book 34 = .ok (.iload 4, 2) := by decide +kernel
theorem dX4_book_36 : decode cX4_book 36 = .ok (.bipush 50, 2) := by decide +kernel
theorem dX4_book_38 : decode cX4_book 38 = .ok (.sipush 900, 3) := by decide +kernel
theorem dX4_book_41 : decode cX4_book 41 = .ok (.invokestatic 76, 3) := by decide +kernel
theorem dX4_book_44 : decode cX4_book 44 = .ok (.ifCond .eq 25, 3) := by decide +kernel
theorem dX4_book_47 : decode cX4_book 47 = .ok (.iload 5, 2) := by decide +kernel
theorem dX4_book_49 : decode cX4_book 49 = .ok (.iconst 0, 1) := by decide +kernel
theorem dX4_book_50 : decode cX4_book 50 = .ok (.bipush 60, 2) := by decide +kernel
theorem dX4_book_52 : decode cX4_book 52 = .ok (.invokestatic 76, 3) := by decide +kernel
theorem dX4_book_55 : decode cX4_book 55 = .ok (.ifCond .eq 14, 3) := by decide +kernel
theorem dX4_book_58 : decode cX4_book 58 = .ok (.iload 6, 2) := by decide +kernel
theorem dX4_book_60 : decode cX4_book 60 = .ok (.iconst 0, 1) := by decide +kernel
theorem dX4_book_61 : decode cX4_book 61 = .ok (.bipush 9, 2) := by decide +kernel
theorem dX4_book_63 : decode cX4_book 63 = .ok (.invokestatic 76, 3) := by decide +kernel
theorem dX4_book_66 : decode cX4_book 66 = .ok (.ifCond .ne 13, 3) := by decide +kernel
theorem dX4_book_69 : decode cX4_book 69 = .ok (.new 80, 3) := by decide +kernel
theorem dX4_book_72 : decode cX4_book 72 = .ok (.dup, 1) := by decide +kernel
theorem dX4_book_73 : decode cX4_book 73 = .ok (.ldc 82, 2) := by decide +kernel
theorem dX4_book_75 : decode cX4_book 75 = .ok (.invokespecial 84, 3) := by decide +kernel
theorem dX4_book_78 : decode cX4_book 78 = .ok (.athrow, 1) := by decide +kernel
theorem dX4_book_79 : decode cX4_book 79 = .ok (.aload_n 0, 1) := by decide +kernel
theorem dX4_book_80 : decode cX4_book 80 = .ok (.getfield 85, 3) := by decide +kernel
theorem dX4_book_83 : decode cX4_book 83 = .ok (.bipush 16, 2) := by decide +kernel
theorem dX4_book_85 : decode cX4_book 85 = .ok (.if_icmp .lt 13, 3) := by decide +kernel
theorem dX4_book_88 : decode cX4_book 88 = .ok (.new 57, 3) := by decide +kernel
theorem dX4_book_91 : decode cX4_book 91 = .ok (.dup, 1) := by decide +kernel
theorem dX4_book_92 : decode cX4_book 92 = .ok (.ldc 88, 2) := by decide +kernel
theorem dX4_book_94 : decode cX4_book 94 = .ok (.invokespecial 61, 3) := by decide +kernel
theorem dX4_book_97 : decode cX4_book 97 = .ok (.athrow, 1) := by decide +kernel
theorem dX4_book_98 : decode cX4_book 98 = .ok (.aload_n 0, 1) := by decide +kernel
theorem dX4_book_99 : decode cX4_book 99 = .ok (.getfield 17, 3) := by decide +kernel
theorem dX4_book_102 : decode cX4_book 102 = .ok (.aload_n 0, 1) := by decide +kernel
theorem dX4_book_103 : decode cX4_book 103 = .ok (.getfield 85, 3) := by decide +kernel
theorem dX4_book_106 : decode cX4_book 106 = .ok (.aaload, 1) := by decide +kernel
theorem dX4_book_107 : decode cX4_book 107 = .ok (.iload_n 1, 1) := by decide +kernel
theorem dX4_book_108 : decode cX4_book 108 = .ok (.iload_n 2, 1) := by decide +kernel
theorem dX4_book_109 : decode cX4_book 109 = .ok (.iload_n 3, 1) := by decide +kernel
theorem dX4_book_110 : decode cX4_book 110 = .ok (.iload 4, 2) := by decide +kernel
theorem dX4_book_112 : decode cX4_book 112 = .ok (.iload 5, 2) := by decide +kernel
theorem dX4_book_114 : decode cX4_book 114 = .ok (.iload 6, 2) := by decide +kernel
theorem dX4_book_116 : decode cX4_book 116 = .ok (.invokevirtual 90, 3) := by decide +kernel
theorem dX4_book_119 : decode cX4_book 119 = .ok (.aload_n 0, 1) := by decide +kernel
theorem dX4_book_120 : decode cX4_book 120 = .ok (.getfield 17, 3) := by decide +kernel
theorem dX4_book_123 : decode cX4_book 123 = .ok (.aload_n 0, 1) := by decide +kernel
theorem dX4_book_124 : decode cX4_book 124 = .ok (.getfield 85, 3) := by decide +kernel
theorem dX4_book_127 : decode cX4_book 127 = .ok (.aaload, 1) := by decide +kernel
theorem dX4_book_128 : decode cX4_book 128 = .ok (.aload_n 0, 1) := by decide +kernel
theorem dX4_book_129 : decode cX4_book 129 = .ok (.getfield 94, 3) := by decide +kernel
theorem dX4_book_132 : decode cX4_book 132 = .ok (.putfield 97, 3) := by decide +kernel
theorem dX4_book_135 : decode cX4_book 135 = .ok (.aload_n 0, 1) := by decide +kernel
theorem dX4_book_136 : decode cX4_book 136 = .ok (.dup, 1) := by decide +kernel
theorem dX4_book_137 : decode cX4_book 137 = .ok (.getfield 85, 3) := by decide +kernel
theorem dX4_book_140 : decode cX4_book 140 = .ok (.iconst 1, 1) := by decide +kernel
theorem dX4_book_141 : decode cX4_book 141 = .ok (.iadd, 1) := by decide +kernel
theorem dX4_book_142 : decode cX4_book 142 = .ok (.putfield 85, 3) := by decide +kernel
theorem dX4_book_145 : decode cX4_book 145 = .ok (.aload_n 0, 1) := by decide +kernel
theorem dX4_book_146 : decode cX4_book 146 = .ok (.getfield 85, 3) := by decide +kernel
theorem dX4_book_149 : decode cX4_book 149 = .ok (.iconst 1, 1) := by decide +kernel
theorem dX4_book_150 : decode cX4_book 150 = .ok (.isub, 1) := by decide +kernel
theorem dX4_book_151 : decode cX4_book 151 = .ok (.ireturn, 1) := by decide +kernel
theorem dX4_judge_0 : decode cX4_judge 0 = .ok (.iload_n 1, 1) := by decide +kernel
theorem dX4_judge_1 : decode cX4_judge 1 = .ok (.bipush 20, 2) := by decide +kernel
theorem dX4_judge_3 : decode cX4_judge 3 = .ok (.sipush 200, 3) := by decide +kernel
theorem dX4_judge_6 : decode cX4_judge 6 = .ok (.invokestatic 76, 3) := by decide +kernel
theorem dX4_judge_9 : decode cX4_judge 9 = .ok (.ifCond .eq 24, 3) := by decide +kernel
theorem dX4_judge_12 : decode cX4_judge 12 = .ok (.iload_n 2, 1) := by decide +kernel
theorem dX4_judge_13 : decode cX4_judge 13 = .ok (.iconst 0, 1) := by decide +kernel
theorem dX4_judge_14 : decode cX4_judge 14 = .ok (.bipush 9, 2) := by decide +kernel
theorem dX4_judge_16 : decode cX4_judge 16 = .ok (.invokestatic 76, 3) := by decide +kernel
theorem dX4_judge_19 : decode cX4_judge 19 = .ok (.ifCond .eq 14, 3) := by decide +kernel
theorem dX4_judge_22 : decode cX4_judge 22 = .ok (.iload_n 3, 1) := by decide +kernel
theorem dX4_judge_23 : decode cX4_judge 23 = .ok (.bipush (-10), 2) := by decide +kernel
theorem dX4_judge_25 : decode cX4_judge 25 = .ok (.bipush 10, 2) := by decide +kernel
theorem dX4_judge_27 : decode cX4_judge 27 = .ok (.invokestatic 76, 3) := by decide +kernel
theorem dX4_judge_30 : decode cX4_judge 30 = .ok (.ifCond .ne 13, 3) := by decide +kernel
theorem dX4_judge_33 : decode cX4_judge 33 = .ok (.new 80, 3) := by decide +kernel
theorem dX4_judge_36 : decode cX4_judge 36 = .ok (.dup, 1) := by decide +kernel
theorem dX4_judge_37 : decode cX4_judge 37 = .ok (.ldc 100, 2) := by decide +kernel
theorem dX4_judge_39 : decode cX4_judge 39 = .ok (.invokespecial 84, 3) := by decide +kernel
theorem dX4_judge_42 : decode cX4_judge 42 = .ok (.athrow, 1) := by decide +kernel
theorem dX4_judge_43 : decode cX4_judge 43 = .ok (.aload_n 0, 1) := by decide +kernel
theorem dX4_judge_44 : decode cX4_judge 44 = .ok (.getfield 102, 3) := by decide +kernel
theorem dX4_judge_47 : decode cX4_judge 47 = .ok (.iconst 5, 1) := by decide +kernel
theorem dX4_judge_48 : decode cX4_judge 48 = .ok (.if_icmp .ge 10, 3) := by decide +kernel
theorem dX4_judge_51 : decode cX4_judge 51 = .ok (.aload_n 0, 1) := by decide +kernel
theorem dX4_judge_52 : decode cX4_judge 52 = .ok (.getfield 37, 3) := by decide +kernel
theorem dX4_judge_55 : decode cX4_judge 55 = .ok (.ifCond .eq 13, 3) := by decide +kernel
theorem dX4_judge_58 : decode cX4_judge 58 = .ok (.new 57, 3) := by decide +kernel
theorem dX4_judge_61 : decode cX4_judge 61 = .ok (.dup, 1) := by decide +kernel
theorem dX4_judge_62 : decode cX4_judge 62 = .ok (.ldc 105, 2) := by decide +kernel
theorem dX4_judge_64 : decode cX4_judge 64 = .ok (.invokespecial 61, 3) := by decide +kernel
theorem dX4_judge_67 : decode cX4_judge 67 = .ok (.athrow, 1) := by decide +kernel
theorem dX4_judge_68 : decode cX4_judge 68 = .ok (.aload_n 0, 1) := by decide +kernel
theorem dX4_judge_69 : decode cX4_judge 69 = .ok (.getfield 23, 3) := by decide +kernel
theorem dX4_judge_72 : decode cX4_judge 72 = .ok (.aload_n 0, 1) := by decide +kernel
theorem dX4_judge_73 : decode cX4_judge 73 = .ok (.getfield 102, 3) := by decide +kernel
theorem dX4_judge_76 : decode cX4_judge 76 = .ok (.aaload, 1) := by decide +kernel
theorem dX4_judge_77 : decode cX4_judge 77 = .ok (.iload_n 1, 1) := by decide +kernel
theorem dX4_judge_78 : decode cX4_judge 78 = .ok (.iload_n 2, 1) := by decide +kernel
theorem dX4_judge_79 : decode cX4_judge 79 = .ok (.iload_n 3, 1) := by decide +kernel
theorem dX4_judge_80 : decode cX4_judge 80 = .ok (.invokevirtual 107, 3) := by decide +kernel
theorem dX4_judge_83 : decode cX4_judge 83 = .ok (.aload_n 0, 1) := by decide +kernel
theorem dX4_judge_84 : decode cX4_judge 84 = .ok (.dup, 1) := by decide +kernel
theorem dX4_judge_85 : decode cX4_judge 85 = .ok (.getfield 102, 3) := by decide +kernel
theorem dX4_judge_88 : decode cX4_judge 88 = .ok (.iconst 1, 1) := by decide +kernel
theorem dX4_judge_89 : decode cX4_judge 89 = .ok (.iadd, 1) := by decide +kernel
theorem dX4_judge_90 : decode cX4_judge 90 = .ok (.putfield 102, 3) := by decide +kernel
theorem dX4_judge_93 : decode cX4_judge 93 = .ok (.aload_n 0, 1) := by decide +kernel
theorem dX4_judge_94 : decode cX4_judge 94 = .ok (.getfield 102, 3) := by decide +kernel
theorem dX4_judge_97 : decode cX4_judge 97 = .ok (.iconst 1, 1) := by decide +kernel
theorem dX4_judge_98 : decode cX4_judge 98 = .ok (.isub, 1) := by decide +kernel
theorem dX4_judge_99 : decode cX4_judge 99 = .ok (.ireturn, 1) := by decide +kernel
theorem dX4_conflict_0 : decode cX4_conflict 0 = .ok (.aload_n 0, 1) := by decide +kernel
theorem dX4_conflict_1 : decode cX4_conflict 1 = .ok (.iload_n 1, 1) := by decide +kernel
theorem dX4_conflict_2 : decode cX4_conflict 2 = .ok (.invokevirtual 110, 3) := by decide +kernel
theorem dX4_conflict_5 : decode cX4_conflict 5 = .ok (.ifCond .ne 13, 3) := by decide +kernel
theorem dX4_conflict_8 : decode cX4_conflict 8 = .ok (.new 68, 3) := by decide +kernel
theorem dX4_conflict_11 : decode cX4_conflict 11 = .ok (.dup, 1) := by decide +kernel
theorem dX4_conflict_12 : decode cX4_conflict 12 = .ok (.ldc 113, 2) := by decide +kernel
theorem dX4_conflict_14 : decode cX4_conflict 14 = .ok (.invokespecial 72, 3) := by decide +kernel
theorem dX4_conflict_17 : decode cX4_conflict 17 = .ok (.athrow, 1) := by decide +kernel
theorem dX4_conflict_18 : decode cX4_conflict 18 = .ok (.iload_n 2, 1) := by decide +kernel
theorem dX4_conflict_19 : decode cX4_conflict 19 = .ok (.invokestatic 73, 3) := by decide +kernel
theorem dX4_conflict_22 : decode cX4_conflict 22 = .ok (.ifCond .ne 13, 3) := by decide +kernel
theorem dX4_conflict_25 : decode cX4_conflict 25 = .ok (.new 80, 3) := by decide +kernel
theorem dX4_conflict_28 : decode cX4_conflict 28 = .ok (.dup, 1) := by decide +kernel
theorem dX4_conflict_29 : decode cX4_conflict 29 = .ok (.ldc 115, 2) := by decide +kernel
theorem dX4_conflict_31 : decode cX4_conflict 31 = .ok (.invokespecial 84, 3) := by decide +kernel
theorem dX4_conflict_34 : decode cX4_conflict 34 = .ok (.athrow, 1) := by decide +kernel
theorem dX4_conflict_35 : decode cX4_conflict 35 = .ok (.aload_n 0, 1) := by decide +kernel
theorem dX4_conflict_36 : decode cX4_conflict 36 = .ok (.getfield 23, 3) := by decide +kernel
theorem dX4_conflict_39 : decode cX4_conflict 39 = .ok (.iload_n 1, 1) := by decide +kernel
theorem dX4_conflict_40 : decode cX4_conflict 40 = .ok (.aaload, 1) := by decide +kernel
theorem dX4_conflict_41 : decode cX4_conflict 41 = .ok (.dup, 1) := by decide +kernel
theorem dX4_conflict_42 : decode cX4_conflict 42 = .ok (.getfield 117, 3) := by decide +kernel
theorem dX4_conflict_45 : decode cX4_conflict 45 = .ok (.iload_n 2, 1) := by decide +kernel
theorem dX4_conflict_46 : decode cX4_conflict 46 = .ok (.invokestatic 120, 3) := by decide +kernel
theorem dX4_conflict_49 : decode cX4_conflict 49 = .ok (.ior, 1) := by decide +kernel
theorem dX4_conflict_50 : decode cX4_conflict 50 = .ok (.putfield 117, 3) := by decide +kernel
theorem dX4_conflict_53 : decode cX4_conflict 53 = .ok (.aload_n 0, 1) := by decide +kernel
theorem dX4_conflict_54 : decode cX4_conflict 54 = .ok (.getfield 23, 3) := by decide +kernel
theorem dX4_conflict_57 : decode cX4_conflict 57 = .ok (.iload_n 1, 1) := by decide +kernel
theorem dX4_conflict_58 : decode cX4_conflict 58 = .ok (.aaload, 1) := by decide +kernel
theorem dX4_conflict_59 : decode cX4_conflict 59 = .ok (.getfield 117, 3) := by decide +kernel
theorem dX4_conflict_62 : decode cX4_conflict 62 = .ok (.invokestatic 124, 3) := by decide +kernel
theorem dX4_conflict_65 : decode cX4_conflict 65 = .ok (.ireturn, 1) := by decide +kernel
theorem dX4_rules_0 : decode cX4_rules 0 = .ok (.iload_n 1, 1) := by decide +kernel
theorem dX4_rules_1 : decode cX4_rules 1 = .ok (.iconst 1, 1) := by decide +kernel
theorem dX4_rules_2 : decode cX4_rules 2 = .ok (.bipush 7, 2) := by decide +kernel
theorem dX4_rules_4 : decode cX4_rules 4 = .ok (.invokestatic 76, 3) := by decide +kernel
theorem dX4_rules_7 : decode cX4_rules 7 = .ok (.ifCond .eq 31, 3) := by decide +kernel
theorem dX4_rules_10 : decode cX4_rules 10 = .ok (.iload_n 2, 1) := by decide +kernel
theorem dX4_rules_11 : decode cX4_rules 11 = .ok (.bipush 50, 2) := by decide +kernel
theorem dX4_rules_13 : decode cX4_rules 13 = .ok (.iload_n 3, 1) := by decide +kernel
theorem dX4_rules_14 : decode cX4_rules 14 = .ok (.invokestatic 76, 3) := by decide +kernel
theorem dX4_rules_17 : decode cX4_rules 17 = .ok (.ifCond .eq 21, 3) := by decide +kernel
theorem dX4_rules_20 : decode cX4_rules 20 = .ok (.iload_n 3, 1) := by decide +kernel
theorem dX4_rules_21 : decode cX4_rules 21 = .ok (.sipush 900, 3) := by decide +kernel
theorem dX4_rules_24 : decode cX4_rules 24 = .ok (.if_icmp .gt 14, 3) := by decide +kernel
theorem dX4_rules_27 : decode cX4_rules 27 = .ok (.iload 4, 2) := by decide +kernel
theorem dX4_rules_29 : decode cX4_rules 29 = .ok (.iconst 0, 1) := by decide +kernel
theorem dX4_rules_30 : decode cX4_rules 30 = .ok (.bipush 50, 2) := by decide +kernel
theorem dX4_rules_32 : decode cX4_rules 32 = .ok (.invokestatic 76, 3) := by decide +kernel
theorem dX4_rules_35 : decode cX4_rules 35 = .ok (.ifCond .ne 13, 3) := by decide +kernel
theorem dX4_rules_38 : decode cX4_rules 38 = .ok (.new 80, 3) := by decide +kernel
theorem dX4_rules_41 : decode cX4_rules 41 = .ok (.dup, 1) := by decide +kernel
theorem dX4_rules_42 : decode cX4_rules 42 = .ok (.ldc 129, 2) := by decide +kernel
theorem dX4_rules_44 : decode cX4_rules 44 = .ok (.invokespecial 84, 3) := by decide +kernel
theorem dX4_rules_47 : decode cX4_rules 47 = .ok (.athrow, 1) := by decide +kernel
theorem dX4_rules_48 : decode cX4_rules 48 = .ok (.aload_n 0, 1) := by decide +kernel
theorem dX4_rules_49 : decode cX4_rules 49 = .ok (.getfield 34, 3) := by decide +kernel
theorem dX4_rules_52 : decode cX4_rules 52 = .ok (.iload_n 1, 1) := by decide +kernel
theorem dX4_rules_53 : decode cX4_rules 53 = .ok (.iload_n 2, 1) := by decide +kernel
theorem dX4_rules_54 : decode cX4_rules 54 = .ok (.iload_n 3, 1) := by decide +kernel
theorem dX4_rules_55 : decode cX4_rules 55 = .ok (.iload 4, 2) := by decide +kernel
theorem dX4_rules_57 : decode cX4_rules 57 = .ok (.invokevirtual 131, 3) := by decide +kernel
theorem dX4_rules_60 : decode cX4_rules 60 = .ok (.aload_n 0, 1) := by decide +kernel
theorem dX4_rules_61 : decode cX4_rules 61 = .ok (.getfield 30, 3) := by decide +kernel
theorem dX4_rules_64 : decode cX4_rules 64 = .ok (.getfield 135, 3) := by decide +kernel
theorem dX4_rules_67 : decode cX4_rules 67 = .ok (.ireturn, 1) := by decide +kernel
theorem dX4_enter_0 : decode cX4_enter 0 = .ok (.aload_n 0, 1) := by decide +kernel
theorem dX4_enter_1 : decode cX4_enter 1 = .ok (.iload_n 1, 1) := by decide +kernel
theorem dX4_enter_2 : decode cX4_enter 2 = .ok (.invokevirtual 138, 3) := by decide +kernel
theorem dX4_enter_5 : decode cX4_enter 5 = .ok (.ifCond .ne 13, 3) := by decide +kernel
theorem dX4_enter_8 : decode cX4_enter 8 = .ok (.new 68, 3) := by decide +kernel
theorem dX4_enter_11 : decode cX4_enter 11 = .ok (.dup, 1) := by decide +kernel
theorem dX4_enter_12 : decode cX4_enter 12 = .ok (.ldc 141, 2) := by decide +kernel
theorem dX4_enter_14 : decode cX4_enter 14 = .ok (.invokespecial 72, 3) := by decide +kernel
theorem dX4_enter_17 : decode cX4_enter 17 = .ok (.athrow, 1) := by decide +kernel
theorem dX4_enter_18 : decode cX4_enter 18 = .ok (.aload_n 0, 1) := by decide +kernel
theorem dX4_enter_19 : decode cX4_enter 19 = .ok (.getfield 37, 3) := by decide +kernel
theorem dX4_enter_22 : decode cX4_enter 22 = .ok (.ifCond .ne 11, 3) := by decide +kernel
theorem dX4_enter_25 : decode cX4_enter 25 = .ok (.aload_n 0, 1) := by decide +kernel
theorem dX4_enter_26 : decode cX4_enter 26 = .ok (.iload_n 1, 1) := by decide +kernel
theorem dX4_enter_27 : decode cX4_enter 27 = .ok (.invokevirtual 143, 3) := by decide +kernel
theorem dX4_enter_30 : decode cX4_enter 30 = .ok (.ifCond .eq 13, 3) := by decide +kernel
theorem dX4_enter_33 : decode cX4_enter 33 = .ok (.new 57, 3) := by decide +kernel
theorem dX4_enter_36 : decode cX4_enter 36 = .ok (.dup, 1) := by decide +kernel
theorem dX4_enter_37 : decode cX4_enter 37 = .ok (.ldc 146, 2) := by decide +kernel
theorem dX4_enter_39 : decode cX4_enter 39 = .ok (.invokespecial 61, 3) := by decide +kernel
theorem dX4_enter_42 : decode cX4_enter 42 = .ok (.athrow, 1) := by decide +kernel
theorem dX4_enter_43 : decode cX4_enter 43 = .ok (.aload_n 0, 1) := by decide +kernel
theorem dX4_enter_44 : decode cX4_enter 44 = .ok (.iload_n 1, 1) := by decide +kernel
theorem dX4_enter_45 : decode cX4_enter 45 = .ok (.invokevirtual 148, 3) := by decide +kernel
theorem dX4_enter_48 : decode cX4_enter 48 = .ok (.ifCond .ne 6, 3) := by decide +kernel
theorem dX4_enter_51 : decode cX4_enter 51 = .ok (.bipush (-2), 2) := by decide +kernel
theorem dX4_enter_53 : decode cX4_enter 53 = .ok (.ireturn, 1) := by decide +kernel
theorem dX4_enter_54 : decode cX4_enter 54 = .ok (.aload_n 0, 1) := by decide +kernel
theorem dX4_enter_55 : decode cX4_enter 55 = .ok (.getfield 17, 3) := by decide +kernel
theorem dX4_enter_58 : decode cX4_enter 58 = .ok (.iload_n 1, 1) := by decide +kernel
theorem dX4_enter_59 : decode cX4_enter 59 = .ok (.aaload, 1) := by decide +kernel
theorem dX4_enter_60 : decode cX4_enter 60 = .ok (.getfield 151, 3) := by decide +kernel
theorem dX4_enter_63 : decode cX4_enter 63 = .ok (.istore_n 2, 1) := by decide +kernel
theorem dX4_enter_64 : decode cX4_enter 64 = .ok (.aload_n 0, 1) := by decide +kernel
theorem dX4_enter_65 : decode cX4_enter 65 = .ok (.getfield 11, 3) := by decide +kernel
theorem dX4_enter_68 : decode cX4_enter 68 = .ok (.iload_n 2, 1) := by decide +kernel
theorem dX4_enter_69 : decode cX4_enter 69 = .ok (.aaload, 1) := by decide +kernel
theorem dX4_enter_70 : decode cX4_enter 70 = .ok (.getfield 154, 3) := by decide +kernel
theorem dX4_enter_73 : decode cX4_enter 73 = .ok (.aload_n 0, 1) := by decide +kernel
theorem dX4_enter_74 : decode cX4_enter 74 = .ok (.iload_n 2, 1) := by decide +kernel
theorem dX4_enter_75 : decode cX4_enter 75 = .ok (.invokevirtual 157, 3) := by decide +kernel
theorem dX4_enter_78 : decode cX4_enter 78 = .ok (.if_icmp .lt 6, 3) := by decide +kernel
theorem dX4_enter_81 : decode cX4_enter 81 = .ok (.bipush (-3), 2) := by decide +kernel
theorem dX4_enter_83 : decode cX4_enter 83 = .ok (.ireturn, 1) := by decide +kernel
theorem dX4_enter_84 : decode cX4_enter 84 = .ok (.aload_n 0, 1) := by decide +kernel
theorem dX4_enter_85 : decode cX4_enter 85 = .ok (.getfield 11, 3) := by decide +kernel
theorem dX4_enter_88 : decode cX4_enter 88 = .ok (.iload_n 2, 1) := by decide +kernel
theorem dX4_enter_89 : decode cX4_enter 89 = .ok (.aaload, 1) := by decide +kernel
theorem dX4_enter_90 : decode cX4_enter 90 = .ok (.dup, 1) := by decide +kernel
theorem dX4_enter_91 : decode cX4_enter 91 = .ok (.getfield 154, 3) := by decide +kernel
theorem dX4_enter_94 : decode cX4_enter 94 = .ok (.iconst 1, 1) := by decide +kernel
theorem dX4_enter_95 : decode cX4_enter 95 = .ok (.iadd, 1) := by decide +kernel
theorem dX4_enter_96 : decode cX4_enter 96 = .ok (.putfield 154, 3) := by decide +kernel
theorem dX4_enter_99 : decode cX4_enter 99 = .ok (.aload_n 0, 1) := by decide +kernel
theorem dX4_enter_100 : decode cX4_enter 100 = .ok (.iload_n 1, 1) := by decide +kernel
theorem dX4_enter_101 : decode cX4_enter 101 = .ok (.aload_n 0, 1) := by decide +kernel
theorem dX4_enter_102 : decode cX4_enter 102 = .ok (.getfield 30, 3) := by decide +kernel
theorem dX4_enter_105 : decode cX4_enter 105 = .ok (.getfield 135, 3) := by decide +kernel
theorem dX4_enter_108 : decode cX4_enter 108 = .ok (.invokevirtual 160, 3) := by decide +kernel
theorem dX4_enter_111 : decode cX4_enter 111 = .ok (.ireturn, 1) := by decide +kernel
theorem dX4_callIn_0 : decode cX4_callIn 0 = .ok (.aload_n 0, 1) := by decide +kernel
theorem dX4_callIn_1 : decode cX4_callIn 1 = .ok (.iload_n 1, 1) := by decide +kernel
theorem dX4_callIn_2 : decode cX4_callIn 2 = .ok (.invokevirtual 110, 3) := by decide +kernel
theorem dX4_callIn_5 : decode cX4_callIn 5 = .ok (.ifCond .eq 11, 3) := by decide +kernel
theorem dX4_callIn_8 : decode cX4_callIn 8 = .ok (.aload_n 0, 1) := by decide +kernel
theorem dX4_callIn_9 : decode cX4_callIn 9 = .ok (.iload_n 2, 1) := by decide +kernel
theorem dX4_callIn_10 : decode cX4_callIn 10 = .ok (.invokevirtual 138, 3) := by decide +kernel
theorem dX4_callIn_13 : decode cX4_callIn 13 = .ok (.ifCond .ne 13, 3) := by decide +kernel
theorem dX4_callIn_16 : decode cX4_callIn 16 = .ok (.new 68, 3) := by decide +kernel
theorem dX4_callIn_19 : decode cX4_callIn 19 = .ok (.dup, 1) := by decide +kernel
theorem dX4_callIn_20 : decode cX4_callIn 20 = .ok (.ldc 164, 2) := by decide +kernel
theorem dX4_callIn_22 : decode cX4_callIn 22 = .ok (.invokespecial 72, 3) := by decide +kernel
theorem dX4_callIn_25 : decode cX4_callIn 25 = .ok (.athrow, 1) := by decide +kernel
theorem dX4_callIn_26 : decode cX4_callIn 26 = .ok (.aload_n 0, 1) := by decide +kernel
theorem dX4_callIn_27 : decode cX4_callIn 27 = .ok (.getfield 37, 3) := by decide +kernel
theorem dX4_callIn_30 : decode cX4_callIn 30 = .ok (.ifCond .ne 11, 3) := by decide +kernel
theorem dX4_callIn_33 : decode cX4_callIn 33 = .ok (.aload_n 0, 1) := by decide +kernel
theorem dX4_callIn_34 : decode cX4_callIn 34 = .ok (.iload_n 2, 1) := by decide +kernel
theorem dX4_callIn_35 : decode cX4_callIn 35 = .ok (.invokevirtual 143, 3) := by decide +kernel
theorem dX4_callIn_38 : decode cX4_callIn 38 = .ok (.ifCond .eq 13, 3) := by decide +kernel
theorem dX4_callIn_41 : decode cX4_callIn 41 = .ok (.new 57, 3) := by decide +kernel
theorem dX4_callIn_44 : decode cX4_callIn 44 = .ok (.dup, 1) := by decide +kernel
theorem dX4_callIn_45 : decode cX4_callIn 45 = .ok (.ldc 146, 2) := by decide +kernel
theorem dX4_callIn_47 : decode cX4_callIn 47 = .ok (.invokespecial 61, 3) := by decide +kernel
theorem dX4_callIn_50 : decode cX4_callIn 50 = .ok (.athrow, 1) := by decide +kernel
theorem dX4_callIn_51 : decode cX4_callIn 51 = .ok (.aload_n 0, 1) := by decide +kernel
theorem dX4_callIn_52 : decode cX4_callIn 52 = .ok (.iload_n 2, 1) := by decide +kernel
theorem dX4_callIn_53 : decode cX4_callIn 53 = .ok (.invokevirtual 148, 3) := by decide +kernel
theorem dX4_callIn_56 : decode cX4_callIn 56 = .ok (.ifCond .ne 6, 3) := by decide +kernel
theorem dX4_callIn_59 : decode cX4_callIn 59 = .ok (.bipush (-2), 2) := by decide +kernel
theorem dX4_callIn_61 : decode cX4_callIn 61 = .ok (.ireturn, 1) := by decide +kernel
theorem dX4_callIn_62 : decode cX4_callIn 62 = .ok (.aload_n 0, 1) := by decide +kernel
theorem dX4_callIn_63 : decode cX4_callIn 63 = .ok (.getfield 23, 3) := by decide +kernel
theorem dX4_callIn_66 : decode cX4_callIn 66 = .ok (.iload_n 1, 1) := by decide +kernel
theorem dX4_callIn_67 : decode cX4_callIn 67 = .ok (.aaload, 1) := by decide +kernel
theorem dX4_callIn_68 : decode cX4_callIn 68 = .ok (.getfield 166, 3) := by decide +kernel
theorem dX4_callIn_71 : decode cX4_callIn 71 = .ok (.ifCond .ne 24, 3) := by decide +kernel
theorem dX4_callIn_74 : decode cX4_callIn 74 = .ok (.aload_n 0, 1) := by decide +kernel
theorem dX4_callIn_75 : decode cX4_callIn 75 = .ok (.getfield 23, 3) := by decide +kernel
theorem dX4_callIn_78 : decode cX4_callIn 78 = .ok (.iload_n 1, 1) := by decide +kernel
theorem dX4_callIn_79 : decode cX4_callIn 79 = .ok (.aaload, 1) := by decide +kernel
theorem dX4_callIn_80 : decode cX4_callIn 80 = .ok (.aload_n 0, 1) := by decide +kernel
theorem dX4_callIn_81 : decode cX4_callIn 81 = .ok (.getfield 17, 3) := by decide +kernel
theorem dX4_callIn_84 : decode cX4_callIn 84 = .ok (.iload_n 2, 1) := by decide +kernel
theorem dX4_callIn_85 : decode cX4_callIn 85 = .ok (.aaload, 1) := by decide +kernel
theorem dX4_callIn_86 : decode cX4_callIn 86 = .ok (.getfield 170, 3) := by decide +kernel
theorem dX4_callIn_89 : decode cX4_callIn 89 = .ok (.invokevirtual 173, 3) := by decide +kernel
theorem dX4_callIn_92 : decode cX4_callIn 92 = .ok (.ifCond .eq 6, 3) := by decide +kernel
theorem dX4_callIn_95 : decode cX4_callIn 95 = .ok (.bipush (-3), 2) := by decide +kernel
theorem dX4_callIn_97 : decode cX4_callIn 97 = .ok (.ireturn, 1) := by decide +kernel
theorem dX4_callIn_98 : decode cX4_callIn 98 = .ok (.aload_n 0, 1) := by decide +kernel
theorem dX4_callIn_99 : decode cX4_callIn 99 = .ok (.getfield 23, 3) := by decide +kernel
theorem dX4_callIn_102 : decode cX4_callIn 102 = .ok (.iload_n 1, 1) := by decide +kernel
theorem dX4_callIn_103 : decode cX4_callIn 103 = .ok (.aaload, 1) := by decide +kernel
theorem dX4_callIn_104 : decode cX4_callIn 104 = .ok (.iconst 1, 1) := by decide +kernel
theorem dX4_callIn_105 : decode cX4_callIn 105 = .ok (.putfield 166, 3) := by decide +kernel
theorem dX4_callIn_108 : decode cX4_callIn 108 = .ok (.aload_n 0, 1) := by decide +kernel
theorem dX4_callIn_109 : decode cX4_callIn 109 = .ok (.iload_n 2, 1) := by decide +kernel
theorem dX4_callIn_110 : decode cX4_callIn 110 = .ok (.aload_n 0, 1) := by decide +kernel
theorem dX4_callIn_111 : decode cX4_callIn 111 = .ok (.getfield 30, 3) := by decide +kernel
theorem dX4_callIn_114 : decode cX4_callIn 114 = .ok (.getfield 135, 3) := by decide +kernel
theorem dX4_callIn_117 : decode cX4_callIn 117 = .ok (.iconst 2, 1) := by decide +kernel
theorem dX4_callIn_118 : decode cX4_callIn 118 = .ok (.idiv, 1) := by decide +kernel
theorem dX4_callIn_119 : decode cX4_callIn 119 = .ok (.invokevirtual 160, 3) := by decide +kernel
theorem dX4_callIn_122 : decode cX4_callIn 122 = .ok (.ireturn, 1) := by decide +kernel
theorem dX4_read_0 : decode cX4_read 0 = .ok (.aload_n 0, 1) := by decide +kernel
theorem dX4_read_1 : decode cX4_read 1 = .ok (.getfield 37, 3) := by decide +kernel
theorem dX4_read_4 : decode cX4_read 4 = .ok (.ifCond .ne 19, 3) := by decide +kernel
theorem dX4_read_7 : decode cX4_read 7 = .ok (.aload_n 0, 1) := by decide +kernel
theorem dX4_read_8 : decode cX4_read 8 = .ok (.getfield 102, 3) := by decide +kernel
theorem dX4_read_11 : decode cX4_read 11 = .ok (.iconst 3, 1) := by decide +kernel
theorem dX4_read_12 : decode cX4_read 12 = .ok (.if_icmp .lt 11, 3) := by decide +kernel
theorem dX4_read_15 : decode cX4_read 15 = .ok (.aload_n 0, 1) := by decide +kernel
theorem dX4_read_16 : decode cX4_read 16 = .ok (.invokevirtual 176, 3) := by decide +kernel
theorem dX4_read_19 : decode cX4_read 19 = .ok (.iconst 3, 1) := by decide +kernel
theorem dX4_read_20 : decode cX4_read 20 = .ok (.if_icmp .ge 13, 3) := by decide +kernel
theorem dX4_read_23 : decode cX4_read 23 = .ok (.new 57, 3) := by decide +kernel
theorem dX4_read_26 : decode cX4_read 26 = .ok (.dup, 1) := by decide +kernel
theorem dX4_read_27 : decode cX4_read 27 = .ok (.ldc 180, 2) := by decide +kernel
theorem dX4_read_29 : decode cX4_read 29 = .ok (.invokespecial 61, 3) := by decide +kernel
theorem dX4_read_32 : decode cX4_read 32 = .ok (.athrow, 1) := by decide +kernel
theorem dX4_read_33 : decode cX4_read 33 = .ok (.iconst 0, 1) := by decide +kernel
theorem dX4_read_34 : decode cX4_read 34 = .ok (.istore_n 1, 1) := by decide +kernel
theorem dX4_read_35 : decode cX4_read 35 = .ok (.iconst 0, 1) := by decide +kernel
theorem dX4_read_36 : decode cX4_read 36 = .ok (.istore_n 2, 1) := by decide +kernel
theorem dX4_read_37 : decode cX4_read 37 = .ok (.iload_n 2, 1) := by decide +kernel
theorem dX4_read_38 : decode cX4_read 38 = .ok (.aload_n 0, 1) := by decide +kernel
theorem dX4_read_39 : decode cX4_read 39 = .ok (.getfield 85, 3) := by decide +kernel
theorem dX4_read_42 : decode cX4_read 42 = .ok (.if_icmp .ge 25, 3) := by decide +kernel
theorem dX4_read_45 : decode cX4_read 45 = .ok (.aload_n 0, 1) := by decide +kernel
end
section
theorem dX4_read_46 : decode cX4_read 46 = .ok (.iload_n 2, 1) := by decide +kernel
theorem dX4_read_47 : decode cX4_read 47 = .ok (.invokevirtual 143, 3) := by decide +kernel
theorem dX4_read_50 : decode cX4_read 50 = .ok (.ifCond .eq 11, 3) := by decide +kernel
theorem dX4_read_53 : decode cX4_read 53 = .ok (.iload_n 1, 1) := by decide +kernel
theorem dX4_read_54 : decode cX4_read 54 = .ok (.aload_n 0, 1) := by decide +kernel
theorem dX4_read_55 : decode cX4_read 55 = .ok (.iload_n 2, 1) := by decide +kernel
theorem dX4_read_56 : decode cX4_read 56 = .ok (.invokevirtual 182, 3) := by decide +kernel
theorem dX4_read_59 : decode cX4_read 59 = .ok (.iadd, 1) := by decide +kernel
theorem dX4_read_60 : decode cX4_read 60 = .ok (.istore_n 1, 1) := by decide +kernel
theorem dX4_read_61 : decode cX4_read 61 = .ok (.iinc 2 1, 3) := by decide +kernel
theorem dX4_read_64 : decode cX4_read 64 = .ok (.goto (-27), 3) := by decide +kernel
theorem dX4_read_67 : decode cX4_read 67 = .ok (.aload_n 0, 1) := by decide +kernel
theorem dX4_read_68 : decode cX4_read 68 = .ok (.iconst 1, 1) := by decide +kernel
theorem dX4_read_69 : decode cX4_read 69 = .ok (.putfield 37, 3) := by decide +kernel
theorem dX4_read_72 : decode cX4_read 72 = .ok (.iload_n 1, 1) := by decide +kernel
theorem dX4_read_73 : decode cX4_read 73 = .ok (.ireturn, 1) := by decide +kernel
theorem dX4_print_0 : decode cX4_print 0 = .ok (.aload_n 0, 1) := by decide +kernel
theorem dX4_print_1 : decode cX4_print 1 = .ok (.iload_n 1, 1) := by decide +kernel
theorem dX4_print_2 : decode cX4_print 2 = .ok (.invokevirtual 138, 3) := by decide +kernel
theorem dX4_print_5 : decode cX4_print 5 = .ok (.ifCond .ne 13, 3) := by decide +kernel
theorem dX4_print_8 : decode cX4_print 8 = .ok (.new 68, 3) := by decide +kernel
theorem dX4_print_11 : decode cX4_print 11 = .ok (.dup, 1) := by decide +kernel
theorem dX4_print_12 : decode cX4_print 12 = .ok (.ldc 141, 2) := by decide +kernel
theorem dX4_print_14 : decode cX4_print 14 = .ok (.invokespecial 72, 3) := by decide +kernel
theorem dX4_print_17 : decode cX4_print 17 = .ok (.athrow, 1) := by decide +kernel
theorem dX4_print_18 : decode cX4_print 18 = .ok (.iload_n 2, 1) := by decide +kernel
theorem dX4_print_19 : decode cX4_print 19 = .ok (.iconst 1, 1) := by decide +kernel
theorem dX4_print_20 : decode cX4_print 20 = .ok (.sipush 5000, 3) := by decide +kernel
theorem dX4_print_23 : decode cX4_print 23 = .ok (.invokestatic 76, 3) := by decide +kernel
theorem dX4_print_26 : decode cX4_print 26 = .ok (.ifCond .ne 13, 3) := by decide +kernel
theorem dX4_print_29 : decode cX4_print 29 = .ok (.new 80, 3) := by decide +kernel
theorem dX4_print_32 : decode cX4_print 32 = .ok (.dup, 1) := by decide +kernel
theorem dX4_print_33 : decode cX4_print 33 = .ok (.ldc 185, 2) := by decide +kernel
theorem dX4_print_35 : decode cX4_print 35 = .ok (.invokespecial 84, 3) := by decide +kernel
theorem dX4_print_38 : decode cX4_print 38 = .ok (.athrow, 1) := by decide +kernel
theorem dX4_print_39 : decode cX4_print 39 = .ok (.aload_n 0, 1) := by decide +kernel
theorem dX4_print_40 : decode cX4_print 40 = .ok (.getfield 17, 3) := by decide +kernel
theorem dX4_print_43 : decode cX4_print 43 = .ok (.iload_n 1, 1) := by decide +kernel
theorem dX4_print_44 : decode cX4_print 44 = .ok (.aaload, 1) := by decide +kernel
theorem dX4_print_45 : decode cX4_print 45 = .ok (.sipush 9999, 3) := by decide +kernel
theorem dX4_print_48 : decode cX4_print 48 = .ok (.aload_n 0, 1) := by decide +kernel
theorem dX4_print_49 : decode cX4_print 49 = .ok (.getfield 17, 3) := by decide +kernel
theorem dX4_print_52 : decode cX4_print 52 = .ok (.iload_n 1, 1) := by decide +kernel
theorem dX4_print_53 : decode cX4_print 53 = .ok (.aaload, 1) := by decide +kernel
theorem dX4_print_54 : decode cX4_print 54 = .ok (.getfield 187, 3) := by decide +kernel
theorem dX4_print_57 : decode cX4_print 57 = .ok (.iload_n 2, 1) := by decide +kernel
theorem dX4_print_58 : decode cX4_print 58 = .ok (.iadd, 1) := by decide +kernel
theorem dX4_print_59 : decode cX4_print 59 = .ok (.invokestatic 190, 3) := by decide +kernel
theorem dX4_print_62 : decode cX4_print 62 = .ok (.putfield 187, 3) := by decide +kernel
theorem dX4_print_65 : decode cX4_print 65 = .ok (.aload_n 0, 1) := by decide +kernel
theorem dX4_print_66 : decode cX4_print 66 = .ok (.getfield 17, 3) := by decide +kernel
theorem dX4_print_69 : decode cX4_print 69 = .ok (.iload_n 1, 1) := by decide +kernel
theorem dX4_print_70 : decode cX4_print 70 = .ok (.aaload, 1) := by decide +kernel
theorem dX4_print_71 : decode cX4_print 71 = .ok (.getfield 187, 3) := by decide +kernel
theorem dX4_print_74 : decode cX4_print 74 = .ok (.ireturn, 1) := by decide +kernel
theorem dX4_pass_0 : decode cX4_pass 0 = .ok (.iload_n 1, 1) := by decide +kernel
theorem dX4_pass_1 : decode cX4_pass 1 = .ok (.iconst 1, 1) := by decide +kernel
theorem dX4_pass_2 : decode cX4_pass 2 = .ok (.bipush 60, 2) := by decide +kernel
theorem dX4_pass_4 : decode cX4_pass 4 = .ok (.invokestatic 76, 3) := by decide +kernel
theorem dX4_pass_7 : decode cX4_pass 7 = .ok (.ifCond .ne 13, 3) := by decide +kernel
theorem dX4_pass_10 : decode cX4_pass 10 = .ok (.new 80, 3) := by decide +kernel
theorem dX4_pass_13 : decode cX4_pass 13 = .ok (.dup, 1) := by decide +kernel
theorem dX4_pass_14 : decode cX4_pass 14 = .ok (.ldc 195, 2) := by decide +kernel
theorem dX4_pass_16 : decode cX4_pass 16 = .ok (.invokespecial 84, 3) := by decide +kernel
theorem dX4_pass_19 : decode cX4_pass 19 = .ok (.athrow, 1) := by decide +kernel
theorem dX4_pass_20 : decode cX4_pass 20 = .ok (.aload_n 0, 1) := by decide +kernel
theorem dX4_pass_21 : decode cX4_pass 21 = .ok (.getfield 197, 3) := by decide +kernel
theorem dX4_pass_24 : decode cX4_pass 24 = .ok (.iload_n 1, 1) := by decide +kernel
theorem dX4_pass_25 : decode cX4_pass 25 = .ok (.iadd, 1) := by decide +kernel
theorem dX4_pass_26 : decode cX4_pass 26 = .ok (.sipush 9999, 3) := by decide +kernel
theorem dX4_pass_29 : decode cX4_pass 29 = .ok (.if_icmp .le 13, 3) := by decide +kernel
theorem dX4_pass_32 : decode cX4_pass 32 = .ok (.new 57, 3) := by decide +kernel
theorem dX4_pass_35 : decode cX4_pass 35 = .ok (.dup, 1) := by decide +kernel
theorem dX4_pass_36 : decode cX4_pass 36 = .ok (.ldc 200, 2) := by decide +kernel
theorem dX4_pass_38 : decode cX4_pass 38 = .ok (.invokespecial 61, 3) := by decide +kernel
theorem dX4_pass_41 : decode cX4_pass 41 = .ok (.athrow, 1) := by decide +kernel
theorem dX4_pass_42 : decode cX4_pass 42 = .ok (.iconst 0, 1) := by decide +kernel
theorem dX4_pass_43 : decode cX4_pass 43 = .ok (.istore_n 2, 1) := by decide +kernel
theorem dX4_pass_44 : decode cX4_pass 44 = .ok (.iconst 0, 1) := by decide +kernel
theorem dX4_pass_45 : decode cX4_pass 45 = .ok (.istore_n 3, 1) := by decide +kernel
theorem dX4_pass_46 : decode cX4_pass 46 = .ok (.iload_n 3, 1) := by decide +kernel
theorem dX4_pass_47 : decode cX4_pass 47 = .ok (.iload_n 1, 1) := by decide +kernel
theorem dX4_pass_48 : decode cX4_pass 48 = .ok (.if_icmp .ge 16, 3) := by decide +kernel
theorem dX4_pass_51 : decode cX4_pass 51 = .ok (.iload_n 2, 1) := by decide +kernel
theorem dX4_pass_52 : decode cX4_pass 52 = .ok (.aload_n 0, 1) := by decide +kernel
theorem dX4_pass_53 : decode cX4_pass 53 = .ok (.invokevirtual 202, 3) := by decide +kernel
theorem dX4_pass_56 : decode cX4_pass 56 = .ok (.iadd, 1) := by decide +kernel
theorem dX4_pass_57 : decode cX4_pass 57 = .ok (.istore_n 2, 1) := by decide +kernel
theorem dX4_pass_58 : decode cX4_pass 58 = .ok (.iinc 3 1, 3) := by decide +kernel
theorem dX4_pass_61 : decode cX4_pass 61 = .ok (.goto (-15), 3) := by decide +kernel
theorem dX4_pass_64 : decode cX4_pass 64 = .ok (.aload_n 0, 1) := by decide +kernel
theorem dX4_pass_65 : decode cX4_pass 65 = .ok (.iload_n 1, 1) := by decide +kernel
theorem dX4_pass_66 : decode cX4_pass 66 = .ok (.invokevirtual 205, 3) := by decide +kernel
theorem dX4_pass_69 : decode cX4_pass 69 = .ok (.aload_n 0, 1) := by decide +kernel
theorem dX4_pass_70 : decode cX4_pass 70 = .ok (.dup, 1) := by decide +kernel
theorem dX4_pass_71 : decode cX4_pass 71 = .ok (.getfield 197, 3) := by decide +kernel
theorem dX4_pass_74 : decode cX4_pass 74 = .ok (.iload_n 1, 1) := by decide +kernel
theorem dX4_pass_75 : decode cX4_pass 75 = .ok (.iadd, 1) := by decide +kernel
theorem dX4_pass_76 : decode cX4_pass 76 = .ok (.putfield 197, 3) := by decide +kernel
theorem dX4_pass_79 : decode cX4_pass 79 = .ok (.iload_n 2, 1) := by decide +kernel
theorem dX4_pass_80 : decode cX4_pass 80 = .ok (.ireturn, 1) := by decide +kernel
theorem dX4_longList_0 : decode cX4_longList 0 = .ok (.iload_n 1, 1) := by decide +kernel
theorem dX4_longList_1 : decode cX4_longList 1 = .ok (.iconst 3, 1) := by decide +kernel
theorem dX4_longList_2 : decode cX4_longList 2 = .ok (.bipush 8, 2) := by decide +kernel
theorem dX4_longList_4 : decode cX4_longList 4 = .ok (.invokestatic 76, 3) := by decide +kernel
theorem dX4_longList_7 : decode cX4_longList 7 = .ok (.ifCond .ne 13, 3) := by decide +kernel
theorem dX4_longList_10 : decode cX4_longList 10 = .ok (.new 80, 3) := by decide +kernel
theorem dX4_longList_13 : decode cX4_longList 13 = .ok (.dup, 1) := by decide +kernel
theorem dX4_longList_14 : decode cX4_longList 14 = .ok (.ldc 209, 2) := by decide +kernel
theorem dX4_longList_16 : decode cX4_longList 16 = .ok (.invokespecial 84, 3) := by decide +kernel
theorem dX4_longList_19 : decode cX4_longList 19 = .ok (.athrow, 1) := by decide +kernel
theorem dX4_longList_20 : decode cX4_longList 20 = .ok (.aload_n 0, 1) := by decide +kernel
theorem dX4_longList_21 : decode cX4_longList 21 = .ok (.getfield 37, 3) := by decide +kernel
theorem dX4_longList_24 : decode cX4_longList 24 = .ok (.iconst 1, 1) := by decide +kernel
theorem dX4_longList_25 : decode cX4_longList 25 = .ok (.if_icmp .ne 10, 3) := by decide +kernel
theorem dX4_longList_28 : decode cX4_longList 28 = .ok (.aload_n 0, 1) := by decide +kernel
theorem dX4_longList_29 : decode cX4_longList 29 = .ok (.invokevirtual 211, 3) := by decide +kernel
theorem dX4_longList_32 : decode cX4_longList 32 = .ok (.ifCond .ne 13, 3) := by decide +kernel
theorem dX4_longList_35 : decode cX4_longList 35 = .ok (.new 57, 3) := by decide +kernel
theorem dX4_longList_38 : decode cX4_longList 38 = .ok (.dup, 1) := by decide +kernel
theorem dX4_longList_39 : decode cX4_longList 39 = .ok (.ldc 215, 2) := by decide +kernel
theorem dX4_longList_41 : decode cX4_longList 41 = .ok (.invokespecial 61, 3) := by decide +kernel
theorem dX4_longList_44 : decode cX4_longList 44 = .ok (.athrow, 1) := by decide +kernel
theorem dX4_longList_45 : decode cX4_longList 45 = .ok (.aload_n 0, 1) := by decide +kernel
theorem dX4_longList_46 : decode cX4_longList 46 = .ok (.iload_n 1, 1) := by decide +kernel
theorem dX4_longList_47 : decode cX4_longList 47 = .ok (.invokevirtual 217, 3) := by decide +kernel
theorem dX4_longList_50 : decode cX4_longList 50 = .ok (.aload_n 0, 1) := by decide +kernel
theorem dX4_longList_51 : decode cX4_longList 51 = .ok (.iconst 2, 1) := by decide +kernel
theorem dX4_longList_52 : decode cX4_longList 52 = .ok (.putfield 37, 3) := by decide +kernel
theorem dX4_longList_55 : decode cX4_longList 55 = .ok (.aload_n 0, 1) := by decide +kernel
theorem dX4_longList_56 : decode cX4_longList 56 = .ok (.getfield 220, 3) := by decide +kernel
theorem dX4_longList_59 : decode cX4_longList 59 = .ok (.invokestatic 124, 3) := by decide +kernel
theorem dX4_longList_62 : decode cX4_longList 62 = .ok (.ireturn, 1) := by decide +kernel
theorem dX4_points_0 : decode cX4_points 0 = .ok (.aload_n 0, 1) := by decide +kernel
theorem dX4_points_1 : decode cX4_points 1 = .ok (.iload_n 1, 1) := by decide +kernel
theorem dX4_points_2 : decode cX4_points 2 = .ok (.invokevirtual 110, 3) := by decide +kernel
theorem dX4_points_5 : decode cX4_points 5 = .ok (.ifCond .eq 30, 3) := by decide +kernel
theorem dX4_points_8 : decode cX4_points 8 = .ok (.aload_n 0, 1) := by decide +kernel
theorem dX4_points_9 : decode cX4_points 9 = .ok (.iload_n 2, 1) := by decide +kernel
theorem dX4_points_10 : decode cX4_points 10 = .ok (.invokevirtual 138, 3) := by decide +kernel
theorem dX4_points_13 : decode cX4_points 13 = .ok (.ifCond .eq 22, 3) := by decide +kernel
theorem dX4_points_16 : decode cX4_points 16 = .ok (.aload_n 0, 1) := by decide +kernel
theorem dX4_points_17 : decode cX4_points 17 = .ok (.getfield 37, 3) := by decide +kernel
theorem dX4_points_20 : decode cX4_points 20 = .ok (.iconst 2, 1) := by decide +kernel
theorem dX4_points_21 : decode cX4_points 21 = .ok (.if_icmp .ne 14, 3) := by decide +kernel
theorem dX4_points_24 : decode cX4_points 24 = .ok (.aload_n 0, 1) := by decide +kernel
theorem dX4_points_25 : decode cX4_points 25 = .ok (.getfield 220, 3) := by decide +kernel
theorem dX4_points_28 : decode cX4_points 28 = .ok (.iload_n 2, 1) := by decide +kernel
theorem dX4_points_29 : decode cX4_points 29 = .ok (.invokestatic 223, 3) := by decide +kernel
theorem dX4_points_32 : decode cX4_points 32 = .ok (.ifCond .ne 13, 3) := by decide +kernel
theorem dX4_points_35 : decode cX4_points 35 = .ok (.new 68, 3) := by decide +kernel
theorem dX4_points_38 : decode cX4_points 38 = .ok (.dup, 1) := by decide +kernel
theorem dX4_points_39 : decode cX4_points 39 = .ok (.ldc 227, 2) := by decide +kernel
theorem dX4_points_41 : decode cX4_points 41 = .ok (.invokespecial 72, 3) := by decide +kernel
theorem dX4_points_44 : decode cX4_points 44 = .ok (.athrow, 1) := by decide +kernel
theorem dX4_points_45 : decode cX4_points 45 = .ok (.iload_n 3, 1) := by decide +kernel
theorem dX4_points_46 : decode cX4_points 46 = .ok (.iconst 0, 1) := by decide +kernel
theorem dX4_points_47 : decode cX4_points 47 = .ok (.bipush 12, 2) := by decide +kernel
theorem dX4_points_49 : decode cX4_points 49 = .ok (.invokestatic 76, 3) := by decide +kernel
theorem dX4_points_52 : decode cX4_points 52 = .ok (.ifCond .ne 13, 3) := by decide +kernel
theorem dX4_points_55 : decode cX4_points 55 = .ok (.new 80, 3) := by decide +kernel
theorem dX4_points_58 : decode cX4_points 58 = .ok (.dup, 1) := by decide +kernel
theorem dX4_points_59 : decode cX4_points 59 = .ok (.ldc 229, 2) := by decide +kernel
theorem dX4_points_61 : decode cX4_points 61 = .ok (.invokespecial 84, 3) := by decide +kernel
theorem dX4_points_64 : decode cX4_points 64 = .ok (.athrow, 1) := by decide +kernel
theorem dX4_points_65 : decode cX4_points 65 = .ok (.aload_n 0, 1) := by decide +kernel
theorem dX4_points_66 : decode cX4_points 66 = .ok (.getfield 23, 3) := by decide +kernel
theorem dX4_points_69 : decode cX4_points 69 = .ok (.iload_n 1, 1) := by decide +kernel
theorem dX4_points_70 : decode cX4_points 70 = .ok (.aaload, 1) := by decide +kernel
theorem dX4_points_71 : decode cX4_points 71 = .ok (.invokevirtual 231, 3) := by decide +kernel
theorem dX4_points_74 : decode cX4_points 74 = .ok (.aload_n 0, 1) := by decide +kernel
theorem dX4_points_75 : decode cX4_points 75 = .ok (.getfield 23, 3) := by decide +kernel
theorem dX4_points_78 : decode cX4_points 78 = .ok (.iload_n 1, 1) := by decide +kernel
theorem dX4_points_79 : decode cX4_points 79 = .ok (.aaload, 1) := by decide +kernel
theorem dX4_points_80 : decode cX4_points 80 = .ok (.getfield 234, 3) := by decide +kernel
theorem dX4_points_83 : decode cX4_points 83 = .ok (.iload_n 2, 1) := by decide +kernel
theorem dX4_points_84 : decode cX4_points 84 = .ok (.iaload, 1) := by decide +kernel
theorem dX4_points_85 : decode cX4_points 85 = .ok (.iadd, 1) := by decide +kernel
theorem dX4_points_86 : decode cX4_points 86 = .ok (.iload_n 3, 1) := by decide +kernel
theorem dX4_points_87 : decode cX4_points 87 = .ok (.isub, 1) := by decide +kernel
theorem dX4_points_88 : decode cX4_points 88 = .ok (.istore 4, 2) := by decide +kernel
theorem dX4_points_90 : decode cX4_points 90 = .ok (.aload_n 0, 1) := by decide +kernel
theorem dX4_points_91 : decode cX4_points 91 = .ok (.getfield 23, 3) := by decide +kernel
theorem dX4_points_94 : decode cX4_points 94 = .ok (.iload_n 1, 1) := by decide +kernel
theorem dX4_points_95 : decode cX4_points 95 = .ok (.aaload, 1) := by decide +kernel
theorem dX4_points_96 : decode cX4_points 96 = .ok (.aload_n 0, 1) := by decide +kernel
theorem dX4_points_97 : decode cX4_points 97 = .ok (.getfield 17, 3) := by decide +kernel
theorem dX4_points_100 : decode cX4_points 100 = .ok (.iload_n 2, 1) := by decide +kernel
theorem dX4_points_101 : decode cX4_points 101 = .ok (.aaload, 1) := by decide +kernel
theorem dX4_points_102 : decode cX4_points 102 = .ok (.getfield 170, 3) := by decide +kernel
theorem dX4_points_105 : decode cX4_points 105 = .ok (.invokevirtual 173, 3) := by decide +kernel
theorem dX4_points_108 : decode cX4_points 108 = .ok (.ifCond .ne 8, 3) := by decide +kernel
theorem dX4_points_111 : decode cX4_points 111 = .ok (.iload 4, 2) := by decide +kernel
theorem dX4_points_113 : decode cX4_points 113 = .ok (.ifCond .ge 13, 3) := by decide +kernel
theorem dX4_points_116 : decode cX4_points 116 = .ok (.new 57, 3) := by decide +kernel
theorem dX4_points_119 : decode cX4_points 119 = .ok (.dup, 1) := by decide +kernel
theorem dX4_points_120 : decode cX4_points 120 = .ok (.ldc 237, 2) := by decide +kernel
theorem dX4_points_122 : decode cX4_points 122 = .ok (.invokespecial 61, 3) := by decide +kernel
theorem dX4_points_125 : decode cX4_points 125 = .ok (.athrow, 1) := by decide +kernel
theorem dX4_points_126 : decode cX4_points 126 = .ok (.aload_n 0, 1) := by decide +kernel
theorem dX4_points_127 : decode cX4_points 127 = .ok (.getfield 23, 3) := by decide +kernel
theorem dX4_points_130 : decode cX4_points 130 = .ok (.iload_n 1, 1) := by decide +kernel
theorem dX4_points_131 : decode cX4_points 131 = .ok (.aaload, 1) := by decide +kernel
theorem dX4_points_132 : decode cX4_points 132 = .ok (.getfield 234, 3) := by decide +kernel
theorem dX4_points_135 : decode cX4_points 135 = .ok (.iload_n 2, 1) := by decide +kernel
theorem dX4_points_136 : decode cX4_points 136 = .ok (.iload_n 3, 1) := by decide +kernel
theorem dX4_points_137 : decode cX4_points 137 = .ok (.iastore, 1) := by decide +kernel
theorem dX4_points_138 : decode cX4_points 138 = .ok (.iload 4, 2) := by decide +kernel
theorem dX4_points_140 : decode cX4_points 140 = .ok (.ireturn, 1) := by decide +kernel
theorem dX4_shortList_0 : decode cX4_shortList 0 = .ok (.iload_n 1, 1) := by decide +kernel
theorem dX4_shortList_1 : decode cX4_shortList 1 = .ok (.iconst 2, 1) := by decide +kernel
theorem dX4_shortList_2 : decode cX4_shortList 2 = .ok (.iconst 5, 1) := by decide +kernel
theorem dX4_shortList_3 : decode cX4_shortList 3 = .ok (.invokestatic 76, 3) := by decide +kernel
theorem dX4_shortList_6 : decode cX4_shortList 6 = .ok (.ifCond .ne 13, 3) := by decide +kernel
theorem dX4_shortList_9 : decode cX4_shortList 9 = .ok (.new 80, 3) := by decide +kernel
theorem dX4_shortList_12 : decode cX4_shortList 12 = .ok (.dup, 1) := by decide +kernel
theorem dX4_shortList_13 : decode cX4_shortList 13 = .ok (.ldc 239, 2) := by decide +kernel
theorem dX4_shortList_15 : decode cX4_shortList 15 = .ok (.invokespecial 84, 3) := by decide +kernel
theorem dX4_shortList_18 : decode cX4_shortList 18 = .ok (.athrow, 1) := by decide +kernel
theorem dX4_shortList_19 : decode cX4_shortList 19 = .ok (.aload_n 0, 1) := by decide +kernel
theorem dX4_shortList_20 : decode cX4_shortList 20 = .ok (.getfield 37, 3) := by decide +kernel
theorem dX4_shortList_23 : decode cX4_shortList 23 = .ok (.iconst 2, 1) := by decide +kernel
theorem dX4_shortList_24 : decode cX4_shortList 24 = .ok (.if_icmp .eq 13, 3) := by decide +kernel
theorem dX4_shortList_27 : decode cX4_shortList 27 = .ok (.new 57, 3) := by decide +kernel
theorem dX4_shortList_30 : decode cX4_shortList 30 = .ok (.dup, 1) := by decide +kernel
theorem dX4_shortList_31 : decode cX4_shortList 31 = .ok (.ldc 241, 2) := by decide +kernel
theorem dX4_shortList_33 : decode cX4_shortList 33 = .ok (.invokespecial 61, 3) := by decide +kernel
theorem dX4_shortList_36 : decode cX4_shortList 36 = .ok (.athrow, 1) := by decide +kernel
theorem dX4_shortList_37 : decode cX4_shortList 37 = .ok (.aload_n 0, 1) := by decide +kernel
theorem dX4_shortList_38 : decode cX4_shortList 38 = .ok (.iload_n 1, 1) := by decide +kernel
theorem dX4_shortList_39 : decode cX4_shortList 39 = .ok (.invokevirtual 243, 3) := by decide +kernel
theorem dX4_shortList_42 : decode cX4_shortList 42 = .ok (.aload_n 0, 1) := by decide +kernel
theorem dX4_shortList_43 : decode cX4_shortList 43 = .ok (.iconst 3, 1) := by decide +kernel
theorem dX4_shortList_44 : decode cX4_shortList 44 = .ok (.putfield 37, 3) := by decide +kernel
theorem dX4_shortList_47 : decode cX4_shortList 47 = .ok (.aload_n 0, 1) := by decide +kernel
theorem dX4_shortList_48 : decode cX4_shortList 48 = .ok (.getfield 246, 3) := by decide +kernel
theorem dX4_shortList_51 : decode cX4_shortList 51 = .ok (.invokestatic 124, 3) := by decide +kernel
theorem dX4_shortList_54 : decode cX4_shortList 54 = .ok (.ireturn, 1) := by decide +kernel
theorem dX4_vote_0 : decode cX4_vote 0 = .ok (.aload_n 0, 1) := by decide +kernel
theorem dX4_vote_1 : decode cX4_vote 1 = .ok (.iload_n 1, 1) := by decide +kernel
theorem dX4_vote_2 : decode cX4_vote 2 = .ok (.invokevirtual 110, 3) := by decide +kernel
theorem dX4_vote_5 : decode cX4_vote 5 = .ok (.ifCond .ne 13, 3) := by decide +kernel
theorem dX4_vote_8 : decode cX4_vote 8 = .ok (.new 68, 3) := by decide +kernel
theorem dX4_vote_11 : decode cX4_vote 11 = .ok (.dup, 1) := by decide +kernel
theorem dX4_vote_12 : decode cX4_vote 12 = .ok (.ldc 113, 2) := by decide +kernel
theorem dX4_vote_14 : decode cX4_vote 14 = .ok (.invokespecial 72, 3) := by decide +kernel
theorem dX4_vote_17 : decode cX4_vote 17 = .ok (.athrow, 1) := by decide +kernel
theorem dX4_vote_18 : decode cX4_vote 18 = .ok (.aload_n 0, 1) := by decide +kernel
theorem dX4_vote_19 : decode cX4_vote 19 = .ok (.iload_n 2, 1) := by decide +kernel
theorem dX4_vote_20 : decode cX4_vote 20 = .ok (.invokevirtual 249, 3) := by decide +kernel
theorem dX4_vote_23 : decode cX4_vote 23 = .ok (.ifCond .ne 13, 3) := by decide +kernel
theorem dX4_vote_26 : decode cX4_vote 26 = .ok (.new 80, 3) := by decide +kernel
theorem dX4_vote_29 : decode cX4_vote 29 = .ok (.dup, 1) := by decide +kernel
theorem dX4_vote_30 : decode cX4_vote 30 = .ok (.ldc 252, 2) := by decide +kernel
theorem dX4_vote_32 : decode cX4_vote 32 = .ok (.invokespecial 84, 3) := by decide +kernel
theorem dX4_vote_35 : decode cX4_vote 35 = .ok (.athrow, 1) := by decide +kernel
theorem dX4_vote_36 : decode cX4_vote 36 = .ok (.aload_n 0, 1) := by decide +kernel
theorem dX4_vote_37 : decode cX4_vote 37 = .ok (.getfield 37, 3) := by decide +kernel
theorem dX4_vote_40 : decode cX4_vote 40 = .ok (.iconst 3, 1) := by decide +kernel
theorem dX4_vote_41 : decode cX4_vote 41 = .ok (.if_icmp .eq 13, 3) := by decide +kernel
theorem dX4_vote_44 : decode cX4_vote 44 = .ok (.new 57, 3) := by decide +kernel
theorem dX4_vote_47 : decode cX4_vote 47 = .ok (.dup, 1) := by decide +kernel
theorem dX4_vote_48 : decode cX4_vote 48 = .ok (.ldc 254, 2) := by decide +kernel
theorem dX4_vote_50 : decode cX4_vote 50 = .ok (.invokespecial 61, 3) := by decide +kernel
theorem dX4_vote_53 : decode cX4_vote 53 = .ok (.athrow, 1) := by decide +kernel
theorem dX4_vote_54 : decode cX4_vote 54 = .ok (.aload_n 0, 1) := by decide +kernel
theorem dX4_vote_55 : decode cX4_vote 55 = .ok (.aload_n 0, 1) := by decide +kernel
theorem dX4_vote_56 : decode cX4_vote 56 = .ok (.getfield 23, 3) := by decide +kernel
theorem dX4_vote_59 : decode cX4_vote 59 = .ok (.iload_n 1, 1) := by decide +kernel
theorem dX4_vote_60 : decode cX4_vote 60 = .ok (.aaload, 1) := by decide +kernel
theorem dX4_vote_61 : decode cX4_vote 61 = .ok (.iload_n 2, 1) := by decide +kernel
theorem dX4_vote_62 : decode cX4_vote 62 = .ok (.invokevirtual 256, 3) := by decide +kernel
theorem dX4_vote_65 : decode cX4_vote 65 = .ok (.aload_n 0, 1) := by decide +kernel
theorem dX4_vote_66 : decode cX4_vote 66 = .ok (.invokevirtual 260, 3) := by decide +kernel
theorem dX4_vote_69 : decode cX4_vote 69 = .ok (.ireturn, 1) := by decide +kernel
theorem dX4_end_0 : decode cX4_end 0 = .ok (.aload_n 0, 1) := by decide +kernel
theorem dX4_end_1 : decode cX4_end 1 = .ok (.getfield 37, 3) := by decide +kernel
theorem dX4_end_4 : decode cX4_end 4 = .ok (.iconst 3, 1) := by decide +kernel
theorem dX4_end_5 : decode cX4_end 5 = .ok (.if_icmp .eq 14, 3) := by decide +kernel
theorem dX4_end_8 : decode cX4_end 8 = .ok (.new 57, 3) := by decide +kernel
theorem dX4_end_11 : decode cX4_end 11 = .ok (.dup, 1) := by decide +kernel
theorem dX4_end_12 : decode cX4_end 12 = .ok (.ldc_w 263, 3) := by decide +kernel
theorem dX4_end_15 : decode cX4_end 15 = .ok (.invokespecial 61, 3) := by decide +kernel
theorem dX4_end_18 : decode cX4_end 18 = .ok (.athrow, 1) := by decide +kernel
theorem dX4_end_19 : decode cX4_end 19 = .ok (.aload_n 0, 1) := by decide +kernel
theorem dX4_end_20 : decode cX4_end 20 = .ok (.aload_n 0, 1) := by decide +kernel
theorem dX4_end_21 : decode cX4_end 21 = .ok (.iconst 0, 1) := by decide +kernel
theorem dX4_end_22 : decode cX4_end 22 = .ok (.iconst 0, 1) := by decide +kernel
theorem dX4_end_23 : decode cX4_end 23 = .ok (.invokevirtual 265, 3) := by decide +kernel
theorem dX4_end_26 : decode cX4_end 26 = .ok (.invokevirtual 268, 3) := by decide +kernel
theorem dX4_end_29 : decode cX4_end 29 = .ok (.aload_n 0, 1) := by decide +kernel
theorem dX4_end_30 : decode cX4_end 30 = .ok (.iconst 4, 1) := by decide +kernel
theorem dX4_end_31 : decode cX4_end 31 = .ok (.putfield 37, 3) := by decide +kernel
theorem dX4_end_34 : decode cX4_end 34 = .ok (.aload_n 0, 1) := by decide +kernel
theorem dX4_end_35 : decode cX4_end 35 = .ok (.getfield 41, 3) := by decide +kernel
theorem dX4_end_38 : decode cX4_end 38 = .ok (.ireturn, 1) := by decide +kernel
theorem dX4_strip_0 : decode cX4_strip 0 = .ok (.aload_n 0, 1) := by decide +kernel
theorem dX4_strip_1 : decode cX4_strip 1 = .ok (.getfield 37, 3) := by decide +kernel
theorem dX4_strip_4 : decode cX4_strip 4 = .ok (.iconst 4, 1) := by decide +kernel
theorem dX4_strip_5 : decode cX4_strip 5 = .ok (.if_icmp .ne 11, 3) := by decide +kernel
theorem dX4_strip_8 : decode cX4_strip 8 = .ok (.aload_n 0, 1) := by decide +kernel
theorem dX4_strip_9 : decode cX4_strip 9 = .ok (.getfield 41, 3) := by decide +kernel
theorem dX4_strip_12 : decode cX4_strip 12 = .ok (.iconst (-1), 1) := by decide +kernel
theorem dX4_strip_13 : decode cX4_strip 13 = .ok (.if_icmp .ne 14, 3) := by decide +kernel
theorem dX4_strip_16 : decode cX4_strip 16 = .ok (.new 57, 3) := by decide +kernel
theorem dX4_strip_19 : decode cX4_strip 19 = .ok (.dup, 1) := by decide +kernel
theorem dX4_strip_20 : decode cX4_strip 20 = .ok (.ldc_w 271, 3) := by decide +kernel
theorem dX4_strip_23 : decode cX4_strip 23 = .ok (.invokespecial 61, 3) := by decide +kernel
theorem dX4_strip_26 : decode cX4_strip 26 = .ok (.athrow, 1) := by decide +kernel
theorem dX4_strip_27 : decode cX4_strip 27 = .ok (.aload_n 0, 1) := by decide +kernel
theorem dX4_strip_28 : decode cX4_strip 28 = .ok (.dup, 1) := by decide +kernel
theorem dX4_strip_29 : decode cX4_strip 29 = .ok (.getfield 273, 3) := by decide +kernel
theorem dX4_strip_32 : decode cX4_strip 32 = .ok (.aload_n 0, 1) := by decide +kernel
theorem dX4_strip_33 : decode cX4_strip 33 = .ok (.getfield 41, 3) := by decide +kernel
theorem dX4_strip_36 : decode cX4_strip 36 = .ok (.invokestatic 120, 3) := by decide +kernel
theorem dX4_strip_39 : decode cX4_strip 39 = .ok (.ior, 1) := by decide +kernel
theorem dX4_strip_40 : decode cX4_strip 40 = .ok (.putfield 273, 3) := by decide +kernel
theorem dX4_strip_43 : decode cX4_strip 43 = .ok (.aload_n 0, 1) := by decide +kernel
theorem dX4_strip_44 : decode cX4_strip 44 = .ok (.aload_n 0, 1) := by decide +kernel
theorem dX4_strip_45 : decode cX4_strip 45 = .ok (.iconst 0, 1) := by decide +kernel
theorem dX4_strip_46 : decode cX4_strip 46 = .ok (.iconst 0, 1) := by decide +kernel
theorem dX4_strip_47 : decode cX4_strip 47 = .ok (.invokevirtual 265, 3) := by decide +kernel
theorem dX4_strip_50 : decode cX4_strip 50 = .ok (.invokevirtual 268, 3) := by decide +kernel
theorem dX4_strip_53 : decode cX4_strip 53 = .ok (.aload_n 0, 1) := by decide +kernel
theorem dX4_strip_54 : decode cX4_strip 54 = .ok (.getfield 41, 3) := by decide +kernel
theorem dX4_strip_57 : decode cX4_strip 57 = .ok (.ireturn, 1) := by decide +kernel
theorem dX4_next_0 : decode cX4_next 0 = .ok (.aload_n 0, 1) := by decide +kernel
theorem dX4_next_1 : decode cX4_next 1 = .ok (.getfield 37, 3) := by decide +kernel
theorem dX4_next_4 : decode cX4_next 4 = .ok (.iconst 4, 1) := by decide +kernel
theorem dX4_next_5 : decode cX4_next 5 = .ok (.if_icmp .ne 12, 3) := by decide +kernel
theorem dX4_next_8 : decode cX4_next 8 = .ok (.aload_n 0, 1) := by decide +kernel
theorem dX4_next_9 : decode cX4_next 9 = .ok (.getfield 94, 3) := by decide +kernel
theorem dX4_next_12 : decode cX4_next 12 = .ok (.bipush 20, 2) := by decide +kernel
theorem dX4_next_14 : decode cX4_next 14 = .ok (.if_icmp .lt 14, 3) := by decide +kernel
theorem dX4_next_17 : decode cX4_next 17 = .ok (.new 57, 3) := by decide +kernel
theorem dX4_next_20 : decode cX4_next 20 = .ok (.dup, 1) := by decide +kernel
theorem dX4_next_21 : decode cX4_next 21 = .ok (.ldc_w 276, 3) := by decide +kernel
theorem dX4_next_24 : decode cX4_next 24 = .ok (.invokespecial 61, 3) := by decide +kernel
theorem dX4_next_27 : decode cX4_next 27 = .ok (.athrow, 1) := by decide +kernel
theorem dX4_next_28 : decode cX4_next 28 = .ok (.aload_n 0, 1) := by decide +kernel
theorem dX4_next_29 : decode cX4_next 29 = .ok (.dup, 1) := by decide +kernel
theorem dX4_next_30 : decode cX4_next 30 = .ok (.getfield 94, 3) := by decide +kernel
theorem dX4_next_33 : decode cX4_next 33 = .ok (.iconst 1, 1) := by decide +kernel
theorem dX4_next_34 : decode cX4_next 34 = .ok (.iadd, 1) := by decide +kernel
theorem dX4_next_35 : decode cX4_next 35 = .ok (.putfield 94, 3) := by decide +kernel
theorem dX4_next_38 : decode cX4_next 38 = .ok (.aload_n 0, 1) := by decide +kernel
theorem dX4_next_39 : decode cX4_next 39 = .ok (.iconst 0, 1) := by decide +kernel
theorem dX4_next_40 : decode cX4_next 40 = .ok (.putfield 37, 3) := by decide +kernel
theorem dX4_next_43 : decode cX4_next 43 = .ok (.aload_n 0, 1) := by decide +kernel
theorem dX4_next_44 : decode cX4_next 44 = .ok (.getfield 30, 3) := by decide +kernel
theorem dX4_next_47 : decode cX4_next 47 = .ok (.aload_n 0, 1) := by decide +kernel
theorem dX4_next_48 : decode cX4_next 48 = .ok (.getfield 34, 3) := by decide +kernel
theorem dX4_next_51 : decode cX4_next 51 = .ok (.getfield 278, 3) := by decide +kernel
theorem dX4_next_54 : decode cX4_next 54 = .ok (.aload_n 0, 1) := by decide +kernel
theorem dX4_next_55 : decode cX4_next 55 = .ok (.getfield 34, 3) := by decide +kernel
theorem dX4_next_58 : decode cX4_next 58 = .ok (.getfield 281, 3) := by decide +kernel
theorem dX4_next_61 : decode cX4_next 61 = .ok (.aload_n 0, 1) := by decide +kernel
theorem dX4_next_62 : decode cX4_next 62 = .ok (.getfield 34, 3) := by decide +kernel
theorem dX4_next_65 : decode cX4_next 65 = .ok (.getfield 284, 3) := by decide +kernel
theorem dX4_next_68 : decode cX4_next 68 = .ok (.aload_n 0, 1) := by decide +kernel
theorem dX4_next_69 : decode cX4_next 69 = .ok (.getfield 34, 3) := by decide +kernel
theorem dX4_next_72 : decode cX4_next 72 = .ok (.getfield 135, 3) := by decide +kernel
theorem dX4_next_75 : decode cX4_next 75 = .ok (.invokevirtual 131, 3) := by decide +kernel
theorem dX4_next_78 : decode cX4_next 78 = .ok (.aload_n 0, 1) := by decide +kernel
theorem dX4_next_79 : decode cX4_next 79 = .ok (.aload_n 0, 1) := by decide +kernel
theorem dX4_next_80 : decode cX4_next 80 = .ok (.getfield 41, 3) := by decide +kernel
theorem dX4_next_83 : decode cX4_next 83 = .ok (.putfield 44, 3) := by decide +kernel
theorem dX4_next_86 : decode cX4_next 86 = .ok (.aload_n 0, 1) := by decide +kernel
theorem dX4_next_87 : decode cX4_next 87 = .ok (.iconst (-1), 1) := by decide +kernel
theorem dX4_next_88 : decode cX4_next 88 = .ok (.putfield 41, 3) := by decide +kernel
theorem dX4_next_91 : decode cX4_next 91 = .ok (.aload_n 0, 1) := by decide +kernel
theorem dX4_next_92 : decode cX4_next 92 = .ok (.aload_n 0, 1) := by decide +kernel
theorem dX4_next_93 : decode cX4_next 93 = .ok (.getfield 220, 3) := by decide +kernel
theorem dX4_next_96 : decode cX4_next 96 = .ok (.putfield 287, 3) := by decide +kernel
theorem dX4_next_99 : decode cX4_next 99 = .ok (.aload_n 0, 1) := by decide +kernel
theorem dX4_next_100 : decode cX4_next 100 = .ok (.iconst 0, 1) := by decide +kernel
theorem dX4_next_101 : decode cX4_next 101 = .ok (.putfield 220, 3) := by decide +kernel
theorem dX4_next_104 : decode cX4_next 104 = .ok (.aload_n 0, 1) := by decide +kernel
theorem dX4_next_105 : decode cX4_next 105 = .ok (.iconst 0, 1) := by decide +kernel
theorem dX4_next_106 : decode cX4_next 106 = .ok (.putfield 246, 3) := by decide +kernel
theorem dX4_next_109 : decode cX4_next 109 = .ok (.iconst 0, 1) := by decide +kernel
theorem dX4_next_110 : decode cX4_next 110 = .ok (.istore_n 1, 1) := by decide +kernel
theorem dX4_next_111 : decode cX4_next 111 = .ok (.iload_n 1, 1) := by decide +kernel
theorem dX4_next_112 : decode cX4_next 112 = .ok (.iconst 5, 1) := by decide +kernel
theorem dX4_next_113 : decode cX4_next 113 = .ok (.if_icmp .ge 19, 3) := by decide +kernel
theorem dX4_next_116 : decode cX4_next 116 = .ok (.aload_n 0, 1) := by decide +kernel
theorem dX4_next_117 : decode cX4_next 117 = .ok (.getfield 11, 3) := by decide +kernel
theorem dX4_next_120 : decode cX4_next 120 = .ok (.iload_n 1, 1) := by decide +kernel
theorem dX4_next_121 : decode cX4_next 121 = .ok (.aaload, 1) := by decide +kernel
theorem dX4_next_122 : decode cX4_next 122 = .ok (.iconst 0, 1) := by decide +kernel
theorem dX4_next_123 : decode cX4_next 123 = .ok (.putfield 154, 3) := by decide +kernel
theorem dX4_next_126 : decode cX4_next 126 = .ok (.iinc 1 1, 3) := by decide +kernel
theorem dX4_next_129 : decode cX4_next 129 = .ok (.goto (-18), 3) := by decide +kernel
theorem dX4_next_132 : decode cX4_next 132 = .ok (.iconst 0, 1) := by decide +kernel
theorem dX4_next_133 : decode cX4_next 133 = .ok (.istore_n 1, 1) := by decide +kernel
theorem dX4_next_134 : decode cX4_next 134 = .ok (.iload_n 1, 1) := by decide +kernel
theorem dX4_next_135 : decode cX4_next 135 = .ok (.iconst 5, 1) := by decide +kernel
theorem dX4_next_136 : decode cX4_next 136 = .ok (.if_icmp .ge 18, 3) := by decide +kernel
theorem dX4_next_139 : decode cX4_next 139 = .ok (.aload_n 0, 1) := by decide +kernel
theorem dX4_next_140 : decode cX4_next 140 = .ok (.getfield 23, 3) := by decide +kernel
theorem dX4_next_143 : decode cX4_next 143 = .ok (.iload_n 1, 1) := by decide +kernel
theorem dX4_next_144 : decode cX4_next 144 = .ok (.aaload, 1) := by decide +kernel
theorem dX4_next_145 : decode cX4_next 145 = .ok (.invokevirtual 290, 3) := by decide +kernel
theorem dX4_next_148 : decode cX4_next 148 = .ok (.iinc 1 1, 3) := by decide +kernel
theorem dX4_next_151 : decode cX4_next 151 = .ok (.goto (-17), 3) := by decide +kernel
theorem dX4_next_154 : decode cX4_next 154 = .ok (.aload_n 0, 1) := by decide +kernel
theorem dX4_next_155 : decode cX4_next 155 = .ok (.getfield 94, 3) := by decide +kernel
theorem dX4_next_158 : decode cX4_next 158 = .ok (.ireturn, 1) := by decide +kernel
theorem dX4_ofHouse_0 : decode cX4_ofHouse 0 = .ok (.aload_n 0, 1) := by decide +kernel
theorem dX4_ofHouse_1 : decode cX4_ofHouse 1 = .ok (.iload_n 1, 1) := by decide +kernel
theorem dX4_ofHouse_2 : decode cX4_ofHouse 2 = .ok (.invokevirtual 64, 3) := by decide +kernel
theorem dX4_ofHouse_5 : decode cX4_ofHouse 5 = .ok (.ifCond .ne 13, 3) := by decide +kernel
theorem dX4_ofHouse_8 : decode cX4_ofHouse 8 = .ok (.new 68, 3) := by decide +kernel
theorem dX4_ofHouse_11 : decode cX4_ofHouse 11 = .ok (.dup, 1) := by decide +kernel
theorem dX4_ofHouse_12 : decode cX4_ofHouse 12 = .ok (.ldc 70, 2) := by decide +kernel
theorem dX4_ofHouse_14 : decode cX4_ofHouse 14 = .ok (.invokespecial 72, 3) := by decide +kernel
theorem dX4_ofHouse_17 : decode cX4_ofHouse 17 = .ok (.athrow, 1) := by decide +kernel
theorem dX4_ofHouse_18 : decode cX4_ofHouse 18 = .ok (.iload_n 2, 1) := by decide +kernel
theorem dX4_ofHouse_19 : decode cX4_ofHouse 19 = .ok (.tableswitch 86 0 4 #[33, 43, 49, 59, 69], 33) := by decide +kernel
theorem dX4_ofHouse_52 : decode cX4_ofHouse 52 = .ok (.aload_n 0, 1) := by decide +kernel
theorem dX4_ofHouse_53 : decode cX4_ofHouse 53 = .ok (.getfield 11, 3) := by decide +kernel
theorem dX4_ofHouse_56 : decode cX4_ofHouse 56 = .ok (.iload_n 1, 1) := by decide +kernel
theorem dX4_ofHouse_57 : decode cX4_ofHouse 57 = .ok (.aaload, 1) := by decide +kernel
theorem dX4_ofHouse_58 : decode cX4_ofHouse 58 = .ok (.getfield 293, 3) := by decide +kernel
theorem dX4_ofHouse_61 : decode cX4_ofHouse 61 = .ok (.ireturn, 1) := by decide +kernel
theorem dX4_ofHouse_62 : decode cX4_ofHouse 62 = .ok (.aload_n 0, 1) := by decide +kernel
theorem dX4_ofHouse_63 : decode cX4_ofHouse 63 = .ok (.iload_n 1, 1) := by decide +kernel
theorem dX4_ofHouse_64 : decode cX4_ofHouse 64 = .ok (.invokevirtual 157, 3) := by decide +kernel
theorem dX4_ofHouse_67 : decode cX4_ofHouse 67 = .ok (.ireturn, 1) := by decide +kernel
theorem dX4_ofHouse_68 : decode cX4_ofHouse 68 = .ok (.aload_n 0, 1) := by decide +kernel
end
section
theorem dX4_ofHouse_69 : decode cX4_ofHouse 69 = .ok (.getfield 11, 3) := by decide +kernel
theorem dX4_ofHouse_72 : decode cX4_ofHouse 72 = .ok (.iload_n 1, 1) := by decide +kernel
theorem dX4_ofHouse_73 : decode cX4_ofHouse 73 = .ok (.aaload, 1) := by decide +kernel
theorem dX4_ofHouse_74 : decode cX4_ofHouse 74 = .ok (.getfield 154, 3) := by decide +kernel
theorem dX4_ofHouse_77 : decode cX4_ofHouse 77 = .ok (.ireturn, 1) := by decide +kernel
theorem dX4_ofHouse_78 : decode cX4_ofHouse 78 = .ok (.aload_n 0, 1) := by decide +kernel
theorem dX4_ofHouse_79 : decode cX4_ofHouse 79 = .ok (.iload_n 1, 1) := by decide +kernel
theorem dX4_ofHouse_80 : decode cX4_ofHouse 80 = .ok (.aload_n 0, 1) := by decide +kernel
theorem dX4_ofHouse_81 : decode cX4_ofHouse 81 = .ok (.invokevirtual 296, 3) := by decide +kernel
theorem dX4_ofHouse_84 : decode cX4_ofHouse 84 = .ok (.invokevirtual 299, 3) := by decide +kernel
theorem dX4_ofHouse_87 : decode cX4_ofHouse 87 = .ok (.ireturn, 1) := by decide +kernel
theorem dX4_ofHouse_88 : decode cX4_ofHouse 88 = .ok (.aload_n 0, 1) := by decide +kernel
theorem dX4_ofHouse_89 : decode cX4_ofHouse 89 = .ok (.iload_n 1, 1) := by decide +kernel
theorem dX4_ofHouse_90 : decode cX4_ofHouse 90 = .ok (.aload_n 0, 1) := by decide +kernel
theorem dX4_ofHouse_91 : decode cX4_ofHouse 91 = .ok (.getfield 302, 3) := by decide +kernel
theorem dX4_ofHouse_94 : decode cX4_ofHouse 94 = .ok (.aload_n 0, 1) := by decide +kernel
theorem dX4_ofHouse_95 : decode cX4_ofHouse 95 = .ok (.getfield 273, 3) := by decide +kernel
theorem dX4_ofHouse_98 : decode cX4_ofHouse 98 = .ok (.iconst (-1), 1) := by decide +kernel
theorem dX4_ofHouse_99 : decode cX4_ofHouse 99 = .ok (.ixor, 1) := by decide +kernel
theorem dX4_ofHouse_100 : decode cX4_ofHouse 100 = .ok (.iand, 1) := by decide +kernel
theorem dX4_ofHouse_101 : decode cX4_ofHouse 101 = .ok (.invokevirtual 299, 3) := by decide +kernel
theorem dX4_ofHouse_104 : decode cX4_ofHouse 104 = .ok (.ireturn, 1) := by decide +kernel
theorem dX4_ofHouse_105 : decode cX4_ofHouse 105 = .ok (.new 80, 3) := by decide +kernel
theorem dX4_ofHouse_108 : decode cX4_ofHouse 108 = .ok (.dup, 1) := by decide +kernel
theorem dX4_ofHouse_109 : decode cX4_ofHouse 109 = .ok (.ldc_w 305, 3) := by decide +kernel
theorem dX4_ofHouse_112 : decode cX4_ofHouse 112 = .ok (.invokespecial 84, 3) := by decide +kernel
theorem dX4_ofHouse_115 : decode cX4_ofHouse 115 = .ok (.athrow, 1) := by decide +kernel
theorem dX4_ofBook_0 : decode cX4_ofBook 0 = .ok (.aload_n 0, 1) := by decide +kernel
theorem dX4_ofBook_1 : decode cX4_ofBook 1 = .ok (.iload_n 1, 1) := by decide +kernel
theorem dX4_ofBook_2 : decode cX4_ofBook 2 = .ok (.invokevirtual 138, 3) := by decide +kernel
theorem dX4_ofBook_5 : decode cX4_ofBook 5 = .ok (.ifCond .ne 13, 3) := by decide +kernel
theorem dX4_ofBook_8 : decode cX4_ofBook 8 = .ok (.new 68, 3) := by decide +kernel
theorem dX4_ofBook_11 : decode cX4_ofBook 11 = .ok (.dup, 1) := by decide +kernel
theorem dX4_ofBook_12 : decode cX4_ofBook 12 = .ok (.ldc 141, 2) := by decide +kernel
theorem dX4_ofBook_14 : decode cX4_ofBook 14 = .ok (.invokespecial 72, 3) := by decide +kernel
theorem dX4_ofBook_17 : decode cX4_ofBook 17 = .ok (.athrow, 1) := by decide +kernel
theorem dX4_ofBook_18 : decode cX4_ofBook 18 = .ok (.iload_n 2, 1) := by decide +kernel
theorem dX4_ofBook_19 : decode cX4_ofBook 19 = .ok (.tableswitch 159 0 10 #[57, 67, 77, 87, 97, 107, 121, 135, 141, 147, 153], 57) := by decide +kernel
theorem dX4_ofBook_76 : decode cX4_ofBook 76 = .ok (.aload_n 0, 1) := by decide +kernel
theorem dX4_ofBook_77 : decode cX4_ofBook 77 = .ok (.getfield 17, 3) := by decide +kernel
theorem dX4_ofBook_80 : decode cX4_ofBook 80 = .ok (.iload_n 1, 1) := by decide +kernel
theorem dX4_ofBook_81 : decode cX4_ofBook 81 = .ok (.aaload, 1) := by decide +kernel
theorem dX4_ofBook_82 : decode cX4_ofBook 82 = .ok (.getfield 151, 3) := by decide +kernel
theorem dX4_ofBook_85 : decode cX4_ofBook 85 = .ok (.ireturn, 1) := by decide +kernel
theorem dX4_ofBook_86 : decode cX4_ofBook 86 = .ok (.aload_n 0, 1) := by decide +kernel
theorem dX4_ofBook_87 : decode cX4_ofBook 87 = .ok (.getfield 17, 3) := by decide +kernel
theorem dX4_ofBook_90 : decode cX4_ofBook 90 = .ok (.iload_n 1, 1) := by decide +kernel
theorem dX4_ofBook_91 : decode cX4_ofBook 91 = .ok (.aaload, 1) := by decide +kernel
theorem dX4_ofBook_92 : decode cX4_ofBook 92 = .ok (.getfield 170, 3) := by decide +kernel
theorem dX4_ofBook_95 : decode cX4_ofBook 95 = .ok (.ireturn, 1) := by decide +kernel
theorem dX4_ofBook_96 : decode cX4_ofBook 96 = .ok (.aload_n 0, 1) := by decide +kernel
theorem dX4_ofBook_97 : decode cX4_ofBook 97 = .ok (.getfield 17, 3) := by decide +kernel
theorem dX4_ofBook_100 : decode cX4_ofBook 100 = .ok (.iload_n 1, 1) := by decide +kernel
theorem dX4_ofBook_101 : decode cX4_ofBook 101 = .ok (.aaload, 1) := by decide +kernel
theorem dX4_ofBook_102 : decode cX4_ofBook 102 = .ok (.getfield 187, 3) := by decide +kernel
theorem dX4_ofBook_105 : decode cX4_ofBook 105 = .ok (.ireturn, 1) := by decide +kernel
theorem dX4_ofBook_106 : decode cX4_ofBook 106 = .ok (.aload_n 0, 1) := by decide +kernel
theorem dX4_ofBook_107 : decode cX4_ofBook 107 = .ok (.getfield 17, 3) := by decide +kernel
theorem dX4_ofBook_110 : decode cX4_ofBook 110 = .ok (.iload_n 1, 1) := by decide +kernel
theorem dX4_ofBook_111 : decode cX4_ofBook 111 = .ok (.aaload, 1) := by decide +kernel
theorem dX4_ofBook_112 : decode cX4_ofBook 112 = .ok (.getfield 307, 3) := by decide +kernel
theorem dX4_ofBook_115 : decode cX4_ofBook 115 = .ok (.ireturn, 1) := by decide +kernel
theorem dX4_ofBook_116 : decode cX4_ofBook 116 = .ok (.aload_n 0, 1) := by decide +kernel
theorem dX4_ofBook_117 : decode cX4_ofBook 117 = .ok (.getfield 17, 3) := by decide +kernel
theorem dX4_ofBook_120 : decode cX4_ofBook 120 = .ok (.iload_n 1, 1) := by decide +kernel
theorem dX4_ofBook_121 : decode cX4_ofBook 121 = .ok (.aaload, 1) := by decide +kernel
theorem dX4_ofBook_122 : decode cX4_ofBook 122 = .ok (.getfield 310, 3) := by decide +kernel
theorem dX4_ofBook_125 : decode cX4_ofBook 125 = .ok (.ireturn, 1) := by decide +kernel
theorem dX4_ofBook_126 : decode cX4_ofBook 126 = .ok (.aload_n 0, 1) := by decide +kernel
theorem dX4_ofBook_127 : decode cX4_ofBook 127 = .ok (.iload_n 1, 1) := by decide +kernel
theorem dX4_ofBook_128 : decode cX4_ofBook 128 = .ok (.invokevirtual 148, 3) := by decide +kernel
theorem dX4_ofBook_131 : decode cX4_ofBook 131 = .ok (.ifCond .eq 7, 3) := by decide +kernel
theorem dX4_ofBook_134 : decode cX4_ofBook 134 = .ok (.iconst 1, 1) := by decide +kernel
theorem dX4_ofBook_135 : decode cX4_ofBook 135 = .ok (.goto 4, 3) := by decide +kernel
theorem dX4_ofBook_138 : decode cX4_ofBook 138 = .ok (.iconst 0, 1) := by decide +kernel
theorem dX4_ofBook_139 : decode cX4_ofBook 139 = .ok (.ireturn, 1) := by decide +kernel
theorem dX4_ofBook_140 : decode cX4_ofBook 140 = .ok (.aload_n 0, 1) := by decide +kernel
theorem dX4_ofBook_141 : decode cX4_ofBook 141 = .ok (.iload_n 1, 1) := by decide +kernel
theorem dX4_ofBook_142 : decode cX4_ofBook 142 = .ok (.invokevirtual 143, 3) := by decide +kernel
theorem dX4_ofBook_145 : decode cX4_ofBook 145 = .ok (.ifCond .eq 7, 3) := by decide +kernel
theorem dX4_ofBook_148 : decode cX4_ofBook 148 = .ok (.iconst 1, 1) := by decide +kernel
theorem dX4_ofBook_149 : decode cX4_ofBook 149 = .ok (.goto 4, 3) := by decide +kernel
theorem dX4_ofBook_152 : decode cX4_ofBook 152 = .ok (.iconst 0, 1) := by decide +kernel
theorem dX4_ofBook_153 : decode cX4_ofBook 153 = .ok (.ireturn, 1) := by decide +kernel
theorem dX4_ofBook_154 : decode cX4_ofBook 154 = .ok (.aload_n 0, 1) := by decide +kernel
theorem dX4_ofBook_155 : decode cX4_ofBook 155 = .ok (.iload_n 1, 1) := by decide +kernel
theorem dX4_ofBook_156 : decode cX4_ofBook 156 = .ok (.invokevirtual 313, 3) := by decide +kernel
theorem dX4_ofBook_159 : decode cX4_ofBook 159 = .ok (.ireturn, 1) := by decide +kernel
theorem dX4_ofBook_160 : decode cX4_ofBook 160 = .ok (.aload_n 0, 1) := by decide +kernel
theorem dX4_ofBook_161 : decode cX4_ofBook 161 = .ok (.iload_n 1, 1) := by decide +kernel
theorem dX4_ofBook_162 : decode cX4_ofBook 162 = .ok (.invokevirtual 316, 3) := by decide +kernel
theorem dX4_ofBook_165 : decode cX4_ofBook 165 = .ok (.ireturn, 1) := by decide +kernel
theorem dX4_ofBook_166 : decode cX4_ofBook 166 = .ok (.aload_n 0, 1) := by decide +kernel
theorem dX4_ofBook_167 : decode cX4_ofBook 167 = .ok (.iload_n 1, 1) := by decide +kernel
theorem dX4_ofBook_168 : decode cX4_ofBook 168 = .ok (.invokevirtual 319, 3) := by decide +kernel
theorem dX4_ofBook_171 : decode cX4_ofBook 171 = .ok (.ireturn, 1) := by decide +kernel
theorem dX4_ofBook_172 : decode cX4_ofBook 172 = .ok (.aload_n 0, 1) := by decide +kernel
theorem dX4_ofBook_173 : decode cX4_ofBook 173 = .ok (.iload_n 1, 1) := by decide +kernel
theorem dX4_ofBook_174 : decode cX4_ofBook 174 = .ok (.invokevirtual 322, 3) := by decide +kernel
theorem dX4_ofBook_177 : decode cX4_ofBook 177 = .ok (.ireturn, 1) := by decide +kernel
theorem dX4_ofBook_178 : decode cX4_ofBook 178 = .ok (.new 80, 3) := by decide +kernel
theorem dX4_ofBook_181 : decode cX4_ofBook 181 = .ok (.dup, 1) := by decide +kernel
theorem dX4_ofBook_182 : decode cX4_ofBook 182 = .ok (.ldc_w 325, 3) := by decide +kernel
theorem dX4_ofBook_185 : decode cX4_ofBook 185 = .ok (.invokespecial 84, 3) := by decide +kernel
theorem dX4_ofBook_188 : decode cX4_ofBook 188 = .ok (.athrow, 1) := by decide +kernel
theorem dX4_ofJudge_0 : decode cX4_ofJudge 0 = .ok (.aload_n 0, 1) := by decide +kernel
theorem dX4_ofJudge_1 : decode cX4_ofJudge 1 = .ok (.iload_n 1, 1) := by decide +kernel
theorem dX4_ofJudge_2 : decode cX4_ofJudge 2 = .ok (.invokevirtual 110, 3) := by decide +kernel
theorem dX4_ofJudge_5 : decode cX4_ofJudge 5 = .ok (.ifCond .ne 13, 3) := by decide +kernel
theorem dX4_ofJudge_8 : decode cX4_ofJudge 8 = .ok (.new 68, 3) := by decide +kernel
theorem dX4_ofJudge_11 : decode cX4_ofJudge 11 = .ok (.dup, 1) := by decide +kernel
theorem dX4_ofJudge_12 : decode cX4_ofJudge 12 = .ok (.ldc 113, 2) := by decide +kernel
theorem dX4_ofJudge_14 : decode cX4_ofJudge 14 = .ok (.invokespecial 72, 3) := by decide +kernel
theorem dX4_ofJudge_17 : decode cX4_ofJudge 17 = .ok (.athrow, 1) := by decide +kernel
theorem dX4_ofJudge_18 : decode cX4_ofJudge 18 = .ok (.iload_n 2, 1) := by decide +kernel
theorem dX4_ofJudge_19 : decode cX4_ofJudge 19 = .ok (.tableswitch 133 0 7 #[45, 55, 65, 75, 85, 95, 105, 123], 45) := by decide +kernel
theorem dX4_ofJudge_64 : decode cX4_ofJudge 64 = .ok (.aload_n 0, 1) := by decide +kernel
theorem dX4_ofJudge_65 : decode cX4_ofJudge 65 = .ok (.getfield 23, 3) := by decide +kernel
theorem dX4_ofJudge_68 : decode cX4_ofJudge 68 = .ok (.iload_n 1, 1) := by decide +kernel
theorem dX4_ofJudge_69 : decode cX4_ofJudge 69 = .ok (.aaload, 1) := by decide +kernel
theorem dX4_ofJudge_70 : decode cX4_ofJudge 70 = .ok (.getfield 327, 3) := by decide +kernel
theorem dX4_ofJudge_73 : decode cX4_ofJudge 73 = .ok (.ireturn, 1) := by decide +kernel
theorem dX4_ofJudge_74 : decode cX4_ofJudge 74 = .ok (.aload_n 0, 1) := by decide +kernel
theorem dX4_ofJudge_75 : decode cX4_ofJudge 75 = .ok (.getfield 23, 3) := by decide +kernel
theorem dX4_ofJudge_78 : decode cX4_ofJudge 78 = .ok (.iload_n 1, 1) := by decide +kernel
theorem dX4_ofJudge_79 : decode cX4_ofJudge 79 = .ok (.aaload, 1) := by decide +kernel
theorem dX4_ofJudge_80 : decode cX4_ofJudge 80 = .ok (.getfield 117, 3) := by decide +kernel
theorem dX4_ofJudge_83 : decode cX4_ofJudge 83 = .ok (.ireturn, 1) := by decide +kernel
theorem dX4_ofJudge_84 : decode cX4_ofJudge 84 = .ok (.aload_n 0, 1) := by decide +kernel
theorem dX4_ofJudge_85 : decode cX4_ofJudge 85 = .ok (.getfield 23, 3) := by decide +kernel
theorem dX4_ofJudge_88 : decode cX4_ofJudge 88 = .ok (.iload_n 1, 1) := by decide +kernel
theorem dX4_ofJudge_89 : decode cX4_ofJudge 89 = .ok (.aaload, 1) := by decide +kernel
theorem dX4_ofJudge_90 : decode cX4_ofJudge 90 = .ok (.getfield 330, 3) := by decide +kernel
theorem dX4_ofJudge_93 : decode cX4_ofJudge 93 = .ok (.ireturn, 1) := by decide +kernel
theorem dX4_ofJudge_94 : decode cX4_ofJudge 94 = .ok (.aload_n 0, 1) := by decide +kernel
theorem dX4_ofJudge_95 : decode cX4_ofJudge 95 = .ok (.getfield 23, 3) := by decide +kernel
theorem dX4_ofJudge_98 : decode cX4_ofJudge 98 = .ok (.iload_n 1, 1) := by decide +kernel
theorem dX4_ofJudge_99 : decode cX4_ofJudge 99 = .ok (.aaload, 1) := by decide +kernel
theorem dX4_ofJudge_100 : decode cX4_ofJudge 100 = .ok (.invokevirtual 333, 3) := by decide +kernel
theorem dX4_ofJudge_103 : decode cX4_ofJudge 103 = .ok (.ireturn, 1) := by decide +kernel
theorem dX4_ofJudge_104 : decode cX4_ofJudge 104 = .ok (.aload_n 0, 1) := by decide +kernel
theorem dX4_ofJudge_105 : decode cX4_ofJudge 105 = .ok (.getfield 23, 3) := by decide +kernel
theorem dX4_ofJudge_108 : decode cX4_ofJudge 108 = .ok (.iload_n 1, 1) := by decide +kernel
theorem dX4_ofJudge_109 : decode cX4_ofJudge 109 = .ok (.aaload, 1) := by decide +kernel
theorem dX4_ofJudge_110 : decode cX4_ofJudge 110 = .ok (.getfield 336, 3) := by decide +kernel
theorem dX4_ofJudge_113 : decode cX4_ofJudge 113 = .ok (.ireturn, 1) := by decide +kernel
theorem dX4_ofJudge_114 : decode cX4_ofJudge 114 = .ok (.aload_n 0, 1) := by decide +kernel
theorem dX4_ofJudge_115 : decode cX4_ofJudge 115 = .ok (.getfield 23, 3) := by decide +kernel
theorem dX4_ofJudge_118 : decode cX4_ofJudge 118 = .ok (.iload_n 1, 1) := by decide +kernel
theorem dX4_ofJudge_119 : decode cX4_ofJudge 119 = .ok (.aaload, 1) := by decide +kernel
theorem dX4_ofJudge_120 : decode cX4_ofJudge 120 = .ok (.getfield 339, 3) := by decide +kernel
theorem dX4_ofJudge_123 : decode cX4_ofJudge 123 = .ok (.ireturn, 1) := by decide +kernel
theorem dX4_ofJudge_124 : decode cX4_ofJudge 124 = .ok (.aload_n 0, 1) := by decide +kernel
theorem dX4_ofJudge_125 : decode cX4_ofJudge 125 = .ok (.getfield 23, 3) := by decide +kernel
theorem dX4_ofJudge_128 : decode cX4_ofJudge 128 = .ok (.iload_n 1, 1) := by decide +kernel
theorem dX4_ofJudge_129 : decode cX4_ofJudge 129 = .ok (.aaload, 1) := by decide +kernel
theorem dX4_ofJudge_130 : decode cX4_ofJudge 130 = .ok (.invokevirtual 342, 3) := by decide +kernel
theorem dX4_ofJudge_133 : decode cX4_ofJudge 133 = .ok (.ifCond .eq 7, 3) := by decide +kernel
theorem dX4_ofJudge_136 : decode cX4_ofJudge 136 = .ok (.iconst 1, 1) := by decide +kernel
theorem dX4_ofJudge_137 : decode cX4_ofJudge 137 = .ok (.goto 4, 3) := by decide +kernel
theorem dX4_ofJudge_140 : decode cX4_ofJudge 140 = .ok (.iconst 0, 1) := by decide +kernel
theorem dX4_ofJudge_141 : decode cX4_ofJudge 141 = .ok (.ireturn, 1) := by decide +kernel
theorem dX4_ofJudge_142 : decode cX4_ofJudge 142 = .ok (.aload_n 0, 1) := by decide +kernel
theorem dX4_ofJudge_143 : decode cX4_ofJudge 143 = .ok (.getfield 23, 3) := by decide +kernel
theorem dX4_ofJudge_146 : decode cX4_ofJudge 146 = .ok (.iload_n 1, 1) := by decide +kernel
theorem dX4_ofJudge_147 : decode cX4_ofJudge 147 = .ok (.aaload, 1) := by decide +kernel
theorem dX4_ofJudge_148 : decode cX4_ofJudge 148 = .ok (.invokevirtual 231, 3) := by decide +kernel
theorem dX4_ofJudge_151 : decode cX4_ofJudge 151 = .ok (.ireturn, 1) := by decide +kernel
theorem dX4_ofJudge_152 : decode cX4_ofJudge 152 = .ok (.new 80, 3) := by decide +kernel
theorem dX4_ofJudge_155 : decode cX4_ofJudge 155 = .ok (.dup, 1) := by decide +kernel
theorem dX4_ofJudge_156 : decode cX4_ofJudge 156 = .ok (.ldc_w 345, 3) := by decide +kernel
theorem dX4_ofJudge_159 : decode cX4_ofJudge 159 = .ok (.invokespecial 84, 3) := by decide +kernel
theorem dX4_ofJudge_162 : decode cX4_ofJudge 162 = .ok (.athrow, 1) := by decide +kernel
theorem dX4_mark_0 : decode cX4_mark 0 = .ok (.aload_n 0, 1) := by decide +kernel
theorem dX4_mark_1 : decode cX4_mark 1 = .ok (.iload_n 1, 1) := by decide +kernel
theorem dX4_mark_2 : decode cX4_mark 2 = .ok (.invokevirtual 110, 3) := by decide +kernel
theorem dX4_mark_5 : decode cX4_mark 5 = .ok (.ifCond .eq 11, 3) := by decide +kernel
theorem dX4_mark_8 : decode cX4_mark 8 = .ok (.aload_n 0, 1) := by decide +kernel
theorem dX4_mark_9 : decode cX4_mark 9 = .ok (.iload_n 2, 1) := by decide +kernel
theorem dX4_mark_10 : decode cX4_mark 10 = .ok (.invokevirtual 138, 3) := by decide +kernel
theorem dX4_mark_13 : decode cX4_mark 13 = .ok (.ifCond .ne 13, 3) := by decide +kernel
theorem dX4_mark_16 : decode cX4_mark 16 = .ok (.new 68, 3) := by decide +kernel
theorem dX4_mark_19 : decode cX4_mark 19 = .ok (.dup, 1) := by decide +kernel
theorem dX4_mark_20 : decode cX4_mark 20 = .ok (.ldc 164, 2) := by decide +kernel
theorem dX4_mark_22 : decode cX4_mark 22 = .ok (.invokespecial 72, 3) := by decide +kernel
theorem dX4_mark_25 : decode cX4_mark 25 = .ok (.athrow, 1) := by decide +kernel
theorem dX4_mark_26 : decode cX4_mark 26 = .ok (.aload_n 0, 1) := by decide +kernel
theorem dX4_mark_27 : decode cX4_mark 27 = .ok (.getfield 23, 3) := by decide +kernel
theorem dX4_mark_30 : decode cX4_mark 30 = .ok (.iload_n 1, 1) := by decide +kernel
theorem dX4_mark_31 : decode cX4_mark 31 = .ok (.aaload, 1) := by decide +kernel
theorem dX4_mark_32 : decode cX4_mark 32 = .ok (.getfield 347, 3) := by decide +kernel
theorem dX4_mark_35 : decode cX4_mark 35 = .ok (.iload_n 2, 1) := by decide +kernel
theorem dX4_mark_36 : decode cX4_mark 36 = .ok (.iaload, 1) := by decide +kernel
theorem dX4_mark_37 : decode cX4_mark 37 = .ok (.ireturn, 1) := by decide +kernel
theorem dX4_many_0 : decode cX4_many 0 = .ok (.iload_n 1, 1) := by decide +kernel
theorem dX4_many_1 : decode cX4_many 1 = .ok (.tableswitch 156 0 14 #[75, 80, 85, 90, 95, 100, 105, 110, 115, 120, 125, 130, 138, 143, 148], 75) := by decide +kernel
theorem dX4_many_76 : decode cX4_many 76 = .ok (.aload_n 0, 1) := by decide +kernel
theorem dX4_many_77 : decode cX4_many 77 = .ok (.getfield 94, 3) := by decide +kernel
theorem dX4_many_80 : decode cX4_many 80 = .ok (.ireturn, 1) := by decide +kernel
theorem dX4_many_81 : decode cX4_many 81 = .ok (.aload_n 0, 1) := by decide +kernel
theorem dX4_many_82 : decode cX4_many 82 = .ok (.getfield 37, 3) := by decide +kernel
theorem dX4_many_85 : decode cX4_many 85 = .ok (.ireturn, 1) := by decide +kernel
theorem dX4_many_86 : decode cX4_many 86 = .ok (.aload_n 0, 1) := by decide +kernel
theorem dX4_many_87 : decode cX4_many 87 = .ok (.getfield 197, 3) := by decide +kernel
theorem dX4_many_90 : decode cX4_many 90 = .ok (.ireturn, 1) := by decide +kernel
theorem dX4_many_91 : decode cX4_many 91 = .ok (.aload_n 0, 1) := by decide +kernel
theorem dX4_many_92 : decode cX4_many 92 = .ok (.getfield 54, 3) := by decide +kernel
theorem dX4_many_95 : decode cX4_many 95 = .ok (.ireturn, 1) := by decide +kernel
theorem dX4_many_96 : decode cX4_many 96 = .ok (.aload_n 0, 1) := by decide +kernel
theorem dX4_many_97 : decode cX4_many 97 = .ok (.getfield 85, 3) := by decide +kernel
theorem dX4_many_100 : decode cX4_many 100 = .ok (.ireturn, 1) := by decide +kernel
theorem dX4_many_101 : decode cX4_many 101 = .ok (.aload_n 0, 1) := by decide +kernel
theorem dX4_many_102 : decode cX4_many 102 = .ok (.getfield 102, 3) := by decide +kernel
theorem dX4_many_105 : decode cX4_many 105 = .ok (.ireturn, 1) := by decide +kernel
theorem dX4_many_106 : decode cX4_many 106 = .ok (.aload_n 0, 1) := by decide +kernel
theorem dX4_many_107 : decode cX4_many 107 = .ok (.invokevirtual 176, 3) := by decide +kernel
theorem dX4_many_110 : decode cX4_many 110 = .ok (.ireturn, 1) := by decide +kernel
theorem dX4_many_111 : decode cX4_many 111 = .ok (.aload_n 0, 1) := by decide +kernel
theorem dX4_many_112 : decode cX4_many 112 = .ok (.getfield 220, 3) := by decide +kernel
theorem dX4_many_115 : decode cX4_many 115 = .ok (.ireturn, 1) := by decide +kernel
theorem dX4_many_116 : decode cX4_many 116 = .ok (.aload_n 0, 1) := by decide +kernel
theorem dX4_many_117 : decode cX4_many 117 = .ok (.getfield 246, 3) := by decide +kernel
theorem dX4_many_120 : decode cX4_many 120 = .ok (.ireturn, 1) := by decide +kernel
theorem dX4_many_121 : decode cX4_many 121 = .ok (.aload_n 0, 1) := by decide +kernel
theorem dX4_many_122 : decode cX4_many 122 = .ok (.getfield 41, 3) := by decide +kernel
theorem dX4_many_125 : decode cX4_many 125 = .ok (.ireturn, 1) := by decide +kernel
theorem dX4_many_126 : decode cX4_many 126 = .ok (.aload_n 0, 1) := by decide +kernel
theorem dX4_many_127 : decode cX4_many 127 = .ok (.getfield 44, 3) := by decide +kernel
theorem dX4_many_130 : decode cX4_many 130 = .ok (.ireturn, 1) := by decide +kernel
theorem dX4_many_131 : decode cX4_many 131 = .ok (.aload_n 0, 1) := by decide +kernel
theorem dX4_many_132 : decode cX4_many 132 = .ok (.getfield 273, 3) := by decide +kernel
theorem dX4_many_135 : decode cX4_many 135 = .ok (.invokestatic 124, 3) := by decide +kernel
theorem dX4_many_138 : decode cX4_many 138 = .ok (.ireturn, 1) := by decide +kernel
theorem dX4_many_139 : decode cX4_many 139 = .ok (.aload_n 0, 1) := by decide +kernel
theorem dX4_many_140 : decode cX4_many 140 = .ok (.invokevirtual 350, 3) := by decide +kernel
theorem dX4_many_143 : decode cX4_many 143 = .ok (.ireturn, 1) := by decide +kernel
theorem dX4_many_144 : decode cX4_many 144 = .ok (.aload_n 0, 1) := by decide +kernel
theorem dX4_many_145 : decode cX4_many 145 = .ok (.invokevirtual 353, 3) := by decide +kernel
theorem dX4_many_148 : decode cX4_many 148 = .ok (.ireturn, 1) := by decide +kernel
theorem dX4_many_149 : decode cX4_many 149 = .ok (.aload_n 0, 1) := by decide +kernel
theorem dX4_many_150 : decode cX4_many 150 = .ok (.getfield 30, 3) := by decide +kernel
theorem dX4_many_153 : decode cX4_many 153 = .ok (.getfield 135, 3) := by decide +kernel
theorem dX4_many_156 : decode cX4_many 156 = .ok (.ireturn, 1) := by decide +kernel
theorem dX4_many_157 : decode cX4_many 157 = .ok (.new 80, 3) := by decide +kernel
theorem dX4_many_160 : decode cX4_many 160 = .ok (.dup, 1) := by decide +kernel
theorem dX4_many_161 : decode cX4_many 161 = .ok (.ldc_w 356, 3) := by decide +kernel
theorem dX4_many_164 : decode cX4_many 164 = .ok (.invokespecial 84, 3) := by decide +kernel
theorem dX4_many_167 : decode cX4_many 167 = .ok (.athrow, 1) := by decide +kernel
theorem dX4_meanMark_0 : decode cX4_meanMark 0 = .ok (.iconst 0, 1) := by decide +kernel
theorem dX4_meanMark_1 : decode cX4_meanMark 1 = .ok (.istore_n 1, 1) := by decide +kernel
theorem dX4_meanMark_2 : decode cX4_meanMark 2 = .ok (.iconst 0, 1) := by decide +kernel
theorem dX4_meanMark_3 : decode cX4_meanMark 3 = .ok (.istore_n 2, 1) := by decide +kernel
theorem dX4_meanMark_4 : decode cX4_meanMark 4 = .ok (.iconst 0, 1) := by decide +kernel
theorem dX4_meanMark_5 : decode cX4_meanMark 5 = .ok (.istore_n 3, 1) := by decide +kernel
theorem dX4_meanMark_6 : decode cX4_meanMark 6 = .ok (.iload_n 3, 1) := by decide +kernel
theorem dX4_meanMark_7 : decode cX4_meanMark 7 = .ok (.aload_n 0, 1) := by decide +kernel
theorem dX4_meanMark_8 : decode cX4_meanMark 8 = .ok (.getfield 102, 3) := by decide +kernel
theorem dX4_meanMark_11 : decode cX4_meanMark 11 = .ok (.if_icmp .ge 33, 3) := by decide +kernel
theorem dX4_meanMark_14 : decode cX4_meanMark 14 = .ok (.iload_n 1, 1) := by decide +kernel
theorem dX4_meanMark_15 : decode cX4_meanMark 15 = .ok (.aload_n 0, 1) := by decide +kernel
theorem dX4_meanMark_16 : decode cX4_meanMark 16 = .ok (.getfield 23, 3) := by decide +kernel
theorem dX4_meanMark_19 : decode cX4_meanMark 19 = .ok (.iload_n 3, 1) := by decide +kernel
theorem dX4_meanMark_20 : decode cX4_meanMark 20 = .ok (.aaload, 1) := by decide +kernel
theorem dX4_meanMark_21 : decode cX4_meanMark 21 = .ok (.getfield 358, 3) := by decide +kernel
theorem dX4_meanMark_24 : decode cX4_meanMark 24 = .ok (.iadd, 1) := by decide +kernel
theorem dX4_meanMark_25 : decode cX4_meanMark 25 = .ok (.istore_n 1, 1) := by decide +kernel
theorem dX4_meanMark_26 : decode cX4_meanMark 26 = .ok (.iload_n 2, 1) := by decide +kernel
theorem dX4_meanMark_27 : decode cX4_meanMark 27 = .ok (.aload_n 0, 1) := by decide +kernel
theorem dX4_meanMark_28 : decode cX4_meanMark 28 = .ok (.getfield 23, 3) := by decide +kernel
theorem dX4_meanMark_31 : decode cX4_meanMark 31 = .ok (.iload_n 3, 1) := by decide +kernel
theorem dX4_meanMark_32 : decode cX4_meanMark 32 = .ok (.aaload, 1) := by decide +kernel
theorem dX4_meanMark_33 : decode cX4_meanMark 33 = .ok (.getfield 336, 3) := by decide +kernel
theorem dX4_meanMark_36 : decode cX4_meanMark 36 = .ok (.iadd, 1) := by decide +kernel
theorem dX4_meanMark_37 : decode cX4_meanMark 37 = .ok (.istore_n 2, 1) := by decide +kernel
theorem dX4_meanMark_38 : decode cX4_meanMark 38 = .ok (.iinc 3 1, 3) := by decide +kernel
theorem dX4_meanMark_41 : decode cX4_meanMark 41 = .ok (.goto (-35), 3) := by decide +kernel
theorem dX4_meanMark_44 : decode cX4_meanMark 44 = .ok (.iload_n 2, 1) := by decide +kernel
theorem dX4_meanMark_45 : decode cX4_meanMark 45 = .ok (.ifCond .ne 7, 3) := by decide +kernel
theorem dX4_meanMark_48 : decode cX4_meanMark 48 = .ok (.dconst 0, 1) := by decide +kernel
theorem dX4_meanMark_49 : decode cX4_meanMark 49 = .ok (.goto 8, 3) := by decide +kernel
theorem dX4_meanMark_52 : decode cX4_meanMark 52 = .ok (.iload_n 1, 1) := by decide +kernel
theorem dX4_meanMark_53 : decode cX4_meanMark 53 = .ok (.i2d, 1) := by decide +kernel
theorem dX4_meanMark_54 : decode cX4_meanMark 54 = .ok (.iload_n 2, 1) := by decide +kernel
theorem dX4_meanMark_55 : decode cX4_meanMark 55 = .ok (.i2d, 1) := by decide +kernel
theorem dX4_meanMark_56 : decode cX4_meanMark 56 = .ok (.ddiv, 1) := by decide +kernel
theorem dX4_meanMark_57 : decode cX4_meanMark 57 = .ok (.dreturn, 1) := by decide +kernel
theorem dX4_wins_0 : decode cX4_wins 0 = .ok (.iload_n 1, 1) := by decide +kernel
theorem dX4_wins_1 : decode cX4_wins 1 = .ok (.iconst 0, 1) := by decide +kernel
theorem dX4_wins_2 : decode cX4_wins 2 = .ok (.bipush 31, 2) := by decide +kernel
theorem dX4_wins_4 : decode cX4_wins 4 = .ok (.invokestatic 76, 3) := by decide +kernel
theorem dX4_wins_7 : decode cX4_wins 7 = .ok (.ifCond .ne 14, 3) := by decide +kernel
theorem dX4_wins_10 : decode cX4_wins 10 = .ok (.new 80, 3) := by decide +kernel
theorem dX4_wins_13 : decode cX4_wins 13 = .ok (.dup, 1) := by decide +kernel
theorem dX4_wins_14 : decode cX4_wins 14 = .ok (.ldc_w 361, 3) := by decide +kernel
theorem dX4_wins_17 : decode cX4_wins 17 = .ok (.invokespecial 84, 3) := by decide +kernel
theorem dX4_wins_20 : decode cX4_wins 20 = .ok (.athrow, 1) := by decide +kernel
theorem dX4_wins_21 : decode cX4_wins 21 = .ok (.aload_n 0, 1) := by decide +kernel
theorem dX4_wins_22 : decode cX4_wins 22 = .ok (.iconst 0, 1) := by decide +kernel
theorem dX4_wins_23 : decode cX4_wins 23 = .ok (.iload_n 1, 1) := by decide +kernel
theorem dX4_wins_24 : decode cX4_wins 24 = .ok (.invokevirtual 265, 3) := by decide +kernel
theorem dX4_wins_27 : decode cX4_wins 27 = .ok (.ireturn, 1) := by decide +kernel
theorem dX4_beatsAll_0 : decode cX4_beatsAll 0 = .ok (.iconst 0, 1) := by decide +kernel
theorem dX4_beatsAll_1 : decode cX4_beatsAll 1 = .ok (.istore_n 1, 1) := by decide +kernel
theorem dX4_beatsAll_2 : decode cX4_beatsAll 2 = .ok (.iload_n 1, 1) := by decide +kernel
theorem dX4_beatsAll_3 : decode cX4_beatsAll 3 = .ok (.aload_n 0, 1) := by decide +kernel
theorem dX4_beatsAll_4 : decode cX4_beatsAll 4 = .ok (.getfield 85, 3) := by decide +kernel
theorem dX4_beatsAll_7 : decode cX4_beatsAll 7 = .ok (.if_icmp .ge 30, 3) := by decide +kernel
theorem dX4_beatsAll_10 : decode cX4_beatsAll 10 = .ok (.aload_n 0, 1) := by decide +kernel
theorem dX4_beatsAll_11 : decode cX4_beatsAll 11 = .ok (.getfield 246, 3) := by decide +kernel
theorem dX4_beatsAll_14 : decode cX4_beatsAll 14 = .ok (.iload_n 1, 1) := by decide +kernel
theorem dX4_beatsAll_15 : decode cX4_beatsAll 15 = .ok (.invokestatic 223, 3) := by decide +kernel
theorem dX4_beatsAll_18 : decode cX4_beatsAll 18 = .ok (.ifCond .eq 13, 3) := by decide +kernel
theorem dX4_beatsAll_21 : decode cX4_beatsAll 21 = .ok (.aload_n 0, 1) := by decide +kernel
theorem dX4_beatsAll_22 : decode cX4_beatsAll 22 = .ok (.iload_n 1, 1) := by decide +kernel
theorem dX4_beatsAll_23 : decode cX4_beatsAll 23 = .ok (.invokevirtual 363, 3) := by decide +kernel
theorem dX4_beatsAll_26 : decode cX4_beatsAll 26 = .ok (.ifCond .eq 5, 3) := by decide +kernel
theorem dX4_beatsAll_29 : decode cX4_beatsAll 29 = .ok (.iload_n 1, 1) := by decide +kernel
theorem dX4_beatsAll_30 : decode cX4_beatsAll 30 = .ok (.ireturn, 1) := by decide +kernel
theorem dX4_beatsAll_31 : decode cX4_beatsAll 31 = .ok (.iinc 1 1, 3) := by decide +kernel
theorem dX4_beatsAll_34 : decode cX4_beatsAll 34 = .ok (.goto (-32), 3) := by decide +kernel
theorem dX4_beatsAll_37 : decode cX4_beatsAll 37 = .ok (.iconst (-1), 1) := by decide +kernel
theorem dX4_beatsAll_38 : decode cX4_beatsAll 38 = .ok (.ireturn, 1) := by decide +kernel
theorem dX4_spoiled_0 : decode cX4_spoiled 0 = .ok (.aload_n 0, 1) := by decide +kernel
theorem dX4_spoiled_1 : decode cX4_spoiled 1 = .ok (.iload_n 1, 1) := by decide +kernel
theorem dX4_spoiled_2 : decode cX4_spoiled 2 = .ok (.invokevirtual 138, 3) := by decide +kernel
theorem dX4_spoiled_5 : decode cX4_spoiled 5 = .ok (.ifCond .ne 13, 3) := by decide +kernel
theorem dX4_spoiled_8 : decode cX4_spoiled 8 = .ok (.new 68, 3) := by decide +kernel
theorem dX4_spoiled_11 : decode cX4_spoiled 11 = .ok (.dup, 1) := by decide +kernel
theorem dX4_spoiled_12 : decode cX4_spoiled 12 = .ok (.ldc 141, 2) := by decide +kernel
theorem dX4_spoiled_14 : decode cX4_spoiled 14 = .ok (.invokespecial 72, 3) := by decide +kernel
theorem dX4_spoiled_17 : decode cX4_spoiled 17 = .ok (.athrow, 1) := by decide +kernel
theorem dX4_spoiled_18 : decode cX4_spoiled 18 = .ok (.aload_n 0, 1) := by decide +kernel
theorem dX4_spoiled_19 : decode cX4_spoiled 19 = .ok (.getfield 246, 3) := by decide +kernel
theorem dX4_spoiled_22 : decode cX4_spoiled 22 = .ok (.iload_n 1, 1) := by decide +kernel
theorem dX4_spoiled_23 : decode cX4_spoiled 23 = .ok (.invokestatic 223, 3) := by decide +kernel
theorem dX4_spoiled_26 : decode cX4_spoiled 26 = .ok (.ifCond .eq 15, 3) := by decide +kernel
theorem dX4_spoiled_29 : decode cX4_spoiled 29 = .ok (.aload_n 0, 1) := by decide +kernel
theorem dX4_spoiled_30 : decode cX4_spoiled 30 = .ok (.iload_n 1, 1) := by decide +kernel
theorem dX4_spoiled_31 : decode cX4_spoiled 31 = .ok (.invokestatic 120, 3) := by decide +kernel
theorem dX4_spoiled_34 : decode cX4_spoiled 34 = .ok (.iconst 0, 1) := by decide +kernel
theorem dX4_spoiled_35 : decode cX4_spoiled 35 = .ok (.invokevirtual 265, 3) := by decide +kernel
theorem dX4_spoiled_38 : decode cX4_spoiled 38 = .ok (.goto 4, 3) := by decide +kernel
theorem dX4_spoiled_41 : decode cX4_spoiled 41 = .ok (.iconst (-1), 1) := by decide +kernel
theorem dX4_spoiled_42 : decode cX4_spoiled 42 = .ok (.ireturn, 1) := by decide +kernel
theorem dX4_readIn_0 : decode cX4_readIn 0 = .ok (.aload_n 0, 1) := by decide +kernel
theorem dX4_readIn_1 : decode cX4_readIn 1 = .ok (.getfield 37, 3) := by decide +kernel
theorem dX4_readIn_4 : decode cX4_readIn 4 = .ok (.iconst 1, 1) := by decide +kernel
theorem dX4_readIn_5 : decode cX4_readIn 5 = .ok (.if_icmp .eq 5, 3) := by decide +kernel
theorem dX4_readIn_8 : decode cX4_readIn 8 = .ok (.iconst (-1), 1) := by decide +kernel
theorem dX4_readIn_9 : decode cX4_readIn 9 = .ok (.ireturn, 1) := by decide +kernel
theorem dX4_readIn_10 : decode cX4_readIn 10 = .ok (.iconst 0, 1) := by decide +kernel
theorem dX4_readIn_11 : decode cX4_readIn 11 = .ok (.istore_n 1, 1) := by decide +kernel
theorem dX4_readIn_12 : decode cX4_readIn 12 = .ok (.iconst 0, 1) := by decide +kernel
theorem dX4_readIn_13 : decode cX4_readIn 13 = .ok (.istore_n 2, 1) := by decide +kernel
theorem dX4_readIn_14 : decode cX4_readIn 14 = .ok (.iload_n 2, 1) := by decide +kernel
theorem dX4_readIn_15 : decode cX4_readIn 15 = .ok (.aload_n 0, 1) := by decide +kernel
theorem dX4_readIn_16 : decode cX4_readIn 16 = .ok (.getfield 102, 3) := by decide +kernel
theorem dX4_readIn_19 : decode cX4_readIn 19 = .ok (.if_icmp .ge 23, 3) := by decide +kernel
theorem dX4_readIn_22 : decode cX4_readIn 22 = .ok (.iload_n 1, 1) := by decide +kernel
theorem dX4_readIn_23 : decode cX4_readIn 23 = .ok (.aload_n 0, 1) := by decide +kernel
theorem dX4_readIn_24 : decode cX4_readIn 24 = .ok (.getfield 23, 3) := by decide +kernel
theorem dX4_readIn_27 : decode cX4_readIn 27 = .ok (.iload_n 2, 1) := by decide +kernel
theorem dX4_readIn_28 : decode cX4_readIn 28 = .ok (.aaload, 1) := by decide +kernel
theorem dX4_readIn_29 : decode cX4_readIn 29 = .ok (.invokevirtual 366, 3) := by decide +kernel
theorem dX4_readIn_32 : decode cX4_readIn 32 = .ok (.invokestatic 369, 3) := by decide +kernel
theorem dX4_readIn_35 : decode cX4_readIn 35 = .ok (.istore_n 1, 1) := by decide +kernel
theorem dX4_readIn_36 : decode cX4_readIn 36 = .ok (.iinc 2 1, 3) := by decide +kernel
theorem dX4_readIn_39 : decode cX4_readIn 39 = .ok (.goto (-25), 3) := by decide +kernel
theorem dX4_readIn_42 : decode cX4_readIn 42 = .ok (.iload_n 1, 1) := by decide +kernel
theorem dX4_readIn_43 : decode cX4_readIn 43 = .ok (.ireturn, 1) := by decide +kernel
theorem dX4_wouldMiss_0 : decode cX4_wouldMiss 0 = .ok (.iload_n 1, 1) := by decide +kernel
theorem dX4_wouldMiss_1 : decode cX4_wouldMiss 1 = .ok (.iconst 1, 1) := by decide +kernel
theorem dX4_wouldMiss_2 : decode cX4_wouldMiss 2 = .ok (.bipush 60, 2) := by decide +kernel
theorem dX4_wouldMiss_4 : decode cX4_wouldMiss 4 = .ok (.invokestatic 76, 3) := by decide +kernel
theorem dX4_wouldMiss_7 : decode cX4_wouldMiss 7 = .ok (.ifCond .ne 13, 3) := by decide +kernel
theorem dX4_wouldMiss_10 : decode cX4_wouldMiss 10 = .ok (.new 80, 3) := by decide +kernel
theorem dX4_wouldMiss_13 : decode cX4_wouldMiss 13 = .ok (.dup, 1) := by decide +kernel
theorem dX4_wouldMiss_14 : decode cX4_wouldMiss 14 = .ok (.ldc 195, 2) := by decide +kernel
theorem dX4_wouldMiss_16 : decode cX4_wouldMiss 16 = .ok (.invokespecial 84, 3) := by decide +kernel
theorem dX4_wouldMiss_19 : decode cX4_wouldMiss 19 = .ok (.athrow, 1) := by decide +kernel
theorem dX4_wouldMiss_20 : decode cX4_wouldMiss 20 = .ok (.iconst 0, 1) := by decide +kernel
theorem dX4_wouldMiss_21 : decode cX4_wouldMiss 21 = .ok (.istore_n 2, 1) := by decide +kernel
theorem dX4_wouldMiss_22 : decode cX4_wouldMiss 22 = .ok (.iconst 0, 1) := by decide +kernel
theorem dX4_wouldMiss_23 : decode cX4_wouldMiss 23 = .ok (.istore_n 3, 1) := by decide +kernel
theorem dX4_wouldMiss_24 : decode cX4_wouldMiss 24 = .ok (.iload_n 3, 1) := by decide +kernel
theorem dX4_wouldMiss_25 : decode cX4_wouldMiss 25 = .ok (.aload_n 0, 1) := by decide +kernel
theorem dX4_wouldMiss_26 : decode cX4_wouldMiss 26 = .ok (.getfield 85, 3) := by decide +kernel
theorem dX4_wouldMiss_29 : decode cX4_wouldMiss 29 = .ok (.if_icmp .ge 33, 3) := by decide +kernel
theorem dX4_wouldMiss_32 : decode cX4_wouldMiss 32 = .ok (.iload_n 2, 1) := by decide +kernel
theorem dX4_wouldMiss_33 : decode cX4_wouldMiss 33 = .ok (.iconst 0, 1) := by decide +kernel
theorem dX4_wouldMiss_34 : decode cX4_wouldMiss 34 = .ok (.aload_n 0, 1) := by decide +kernel
theorem dX4_wouldMiss_35 : decode cX4_wouldMiss 35 = .ok (.iload_n 3, 1) := by decide +kernel
theorem dX4_wouldMiss_36 : decode cX4_wouldMiss 36 = .ok (.invokevirtual 372, 3) := by decide +kernel
theorem dX4_wouldMiss_39 : decode cX4_wouldMiss 39 = .ok (.iload_n 1, 1) := by decide +kernel
theorem dX4_wouldMiss_40 : decode cX4_wouldMiss 40 = .ok (.imul, 1) := by decide +kernel
theorem dX4_wouldMiss_41 : decode cX4_wouldMiss 41 = .ok (.aload_n 0, 1) := by decide +kernel
theorem dX4_wouldMiss_42 : decode cX4_wouldMiss 42 = .ok (.getfield 17, 3) := by decide +kernel
theorem dX4_wouldMiss_45 : decode cX4_wouldMiss 45 = .ok (.iload_n 3, 1) := by decide +kernel
theorem dX4_wouldMiss_46 : decode cX4_wouldMiss 46 = .ok (.aaload, 1) := by decide +kernel
theorem dX4_wouldMiss_47 : decode cX4_wouldMiss 47 = .ok (.getfield 187, 3) := by decide +kernel
theorem dX4_wouldMiss_50 : decode cX4_wouldMiss 50 = .ok (.isub, 1) := by decide +kernel
theorem dX4_wouldMiss_51 : decode cX4_wouldMiss 51 = .ok (.invokestatic 369, 3) := by decide +kernel
theorem dX4_wouldMiss_54 : decode cX4_wouldMiss 54 = .ok (.iadd, 1) := by decide +kernel
theorem dX4_wouldMiss_55 : decode cX4_wouldMiss 55 = .ok (.istore_n 2, 1) := by decide +kernel
theorem dX4_wouldMiss_56 : decode cX4_wouldMiss 56 = .ok (.iinc 3 1, 3) := by decide +kernel
theorem dX4_wouldMiss_59 : decode cX4_wouldMiss 59 = .ok (.goto (-35), 3) := by decide +kernel
theorem dX4_wouldMiss_62 : decode cX4_wouldMiss 62 = .ok (.iload_n 2, 1) := by decide +kernel
theorem dX4_wouldMiss_63 : decode cX4_wouldMiss 63 = .ok (.ireturn, 1) := by decide +kernel
theorem dX4_digest_0 : decode cX4_digest 0 = .ok (.ldc2_w 375, 3) := by decide +kernel
theorem dX4_digest_3 : decode cX4_digest 3 = .ok (.lstore_n 1, 1) := by decide +kernel
theorem dX4_digest_4 : decode cX4_digest 4 = .ok (.iconst 0, 1) := by decide +kernel
theorem dX4_digest_5 : decode cX4_digest 5 = .ok (.istore_n 3, 1) := by decide +kernel
theorem dX4_digest_6 : decode cX4_digest 6 = .ok (.iload_n 3, 1) := by decide +kernel
theorem dX4_digest_7 : decode cX4_digest 7 = .ok (.bipush 14, 2) := by decide +kernel
theorem dX4_digest_9 : decode cX4_digest 9 = .ok (.if_icmp .gt 22, 3) := by decide +kernel
theorem dX4_digest_12 : decode cX4_digest 12 = .ok (.lload_n 1, 1) := by decide +kernel
theorem dX4_digest_13 : decode cX4_digest 13 = .ok (.ldc2_w 377, 3) := by decide +kernel
theorem dX4_digest_16 : decode cX4_digest 16 = .ok (.lmul, 1) := by decide +kernel
theorem dX4_digest_17 : decode cX4_digest 17 = .ok (.aload_n 0, 1) := by decide +kernel
theorem dX4_digest_18 : decode cX4_digest 18 = .ok (.iload_n 3, 1) := by decide +kernel
theorem dX4_digest_19 : decode cX4_digest 19 = .ok (.invokevirtual 379, 3) := by decide +kernel
theorem dX4_digest_22 : decode cX4_digest 22 = .ok (.i2l, 1) := by decide +kernel
theorem dX4_digest_23 : decode cX4_digest 23 = .ok (.ladd, 1) := by decide +kernel
theorem dX4_digest_24 : decode cX4_digest 24 = .ok (.lstore_n 1, 1) := by decide +kernel
theorem dX4_digest_25 : decode cX4_digest 25 = .ok (.iinc 3 1, 3) := by decide +kernel
theorem dX4_digest_28 : decode cX4_digest 28 = .ok (.goto (-22), 3) := by decide +kernel
theorem dX4_digest_31 : decode cX4_digest 31 = .ok (.iconst 0, 1) := by decide +kernel
theorem dX4_digest_32 : decode cX4_digest 32 = .ok (.istore_n 3, 1) := by decide +kernel
theorem dX4_digest_33 : decode cX4_digest 33 = .ok (.iload_n 3, 1) := by decide +kernel
theorem dX4_digest_34 : decode cX4_digest 34 = .ok (.aload_n 0, 1) := by decide +kernel
end
section
theorem dX4_digest_35 : decode cX4_digest 35 = .ok (.getfield 54, 3) := by decide +kernel
theorem dX4_digest_38 : decode cX4_digest 38 = .ok (.if_icmp .ge 39, 3) := by decide +kernel
theorem dX4_digest_41 : decode cX4_digest 41 = .ok (.iconst 0, 1) := by decide +kernel
theorem dX4_digest_42 : decode cX4_digest 42 = .ok (.istore 4, 2) := by decide +kernel
theorem dX4_digest_44 : decode cX4_digest 44 = .ok (.iload 4, 2) := by decide +kernel
theorem dX4_digest_46 : decode cX4_digest 46 = .ok (.iconst 4, 1) := by decide +kernel
theorem dX4_digest_47 : decode cX4_digest 47 = .ok (.if_icmp .gt 24, 3) := by decide +kernel
theorem dX4_digest_50 : decode cX4_digest 50 = .ok (.lload_n 1, 1) := by decide +kernel
theorem dX4_digest_51 : decode cX4_digest 51 = .ok (.ldc2_w 377, 3) := by decide +kernel
theorem dX4_digest_54 : decode cX4_digest 54 = .ok (.lmul, 1) := by decide +kernel
theorem dX4_digest_55 : decode cX4_digest 55 = .ok (.aload_n 0, 1) := by decide +kernel
theorem dX4_digest_56 : decode cX4_digest 56 = .ok (.iload_n 3, 1) := by decide +kernel
theorem dX4_digest_57 : decode cX4_digest 57 = .ok (.iload 4, 2) := by decide +kernel
theorem dX4_digest_59 : decode cX4_digest 59 = .ok (.invokevirtual 382, 3) := by decide +kernel
theorem dX4_digest_62 : decode cX4_digest 62 = .ok (.i2l, 1) := by decide +kernel
theorem dX4_digest_63 : decode cX4_digest 63 = .ok (.ladd, 1) := by decide +kernel
theorem dX4_digest_64 : decode cX4_digest 64 = .ok (.lstore_n 1, 1) := by decide +kernel
theorem dX4_digest_65 : decode cX4_digest 65 = .ok (.iinc 4 1, 3) := by decide +kernel
theorem dX4_digest_68 : decode cX4_digest 68 = .ok (.goto (-24), 3) := by decide +kernel
theorem dX4_digest_71 : decode cX4_digest 71 = .ok (.iinc 3 1, 3) := by decide +kernel
theorem dX4_digest_74 : decode cX4_digest 74 = .ok (.goto (-41), 3) := by decide +kernel
theorem dX4_digest_77 : decode cX4_digest 77 = .ok (.iconst 0, 1) := by decide +kernel
theorem dX4_digest_78 : decode cX4_digest 78 = .ok (.istore_n 3, 1) := by decide +kernel
theorem dX4_digest_79 : decode cX4_digest 79 = .ok (.iload_n 3, 1) := by decide +kernel
theorem dX4_digest_80 : decode cX4_digest 80 = .ok (.aload_n 0, 1) := by decide +kernel
theorem dX4_digest_81 : decode cX4_digest 81 = .ok (.getfield 85, 3) := by decide +kernel
theorem dX4_digest_84 : decode cX4_digest 84 = .ok (.if_icmp .ge 53, 3) := by decide +kernel
theorem dX4_digest_87 : decode cX4_digest 87 = .ok (.iconst 0, 1) := by decide +kernel
theorem dX4_digest_88 : decode cX4_digest 88 = .ok (.istore 4, 2) := by decide +kernel
theorem dX4_digest_90 : decode cX4_digest 90 = .ok (.iload 4, 2) := by decide +kernel
theorem dX4_digest_92 : decode cX4_digest 92 = .ok (.bipush 10, 2) := by decide +kernel
theorem dX4_digest_94 : decode cX4_digest 94 = .ok (.if_icmp .gt 24, 3) := by decide +kernel
theorem dX4_digest_97 : decode cX4_digest 97 = .ok (.lload_n 1, 1) := by decide +kernel
theorem dX4_digest_98 : decode cX4_digest 98 = .ok (.ldc2_w 377, 3) := by decide +kernel
theorem dX4_digest_101 : decode cX4_digest 101 = .ok (.lmul, 1) := by decide +kernel
theorem dX4_digest_102 : decode cX4_digest 102 = .ok (.aload_n 0, 1) := by decide +kernel
theorem dX4_digest_103 : decode cX4_digest 103 = .ok (.iload_n 3, 1) := by decide +kernel
theorem dX4_digest_104 : decode cX4_digest 104 = .ok (.iload 4, 2) := by decide +kernel
theorem dX4_digest_106 : decode cX4_digest 106 = .ok (.invokevirtual 385, 3) := by decide +kernel
theorem dX4_digest_109 : decode cX4_digest 109 = .ok (.i2l, 1) := by decide +kernel
theorem dX4_digest_110 : decode cX4_digest 110 = .ok (.ladd, 1) := by decide +kernel
theorem dX4_digest_111 : decode cX4_digest 111 = .ok (.lstore_n 1, 1) := by decide +kernel
theorem dX4_digest_112 : decode cX4_digest 112 = .ok (.iinc 4 1, 3) := by decide +kernel
theorem dX4_digest_115 : decode cX4_digest 115 = .ok (.goto (-25), 3) := by decide +kernel
theorem dX4_digest_118 : decode cX4_digest 118 = .ok (.lload_n 1, 1) := by decide +kernel
theorem dX4_digest_119 : decode cX4_digest 119 = .ok (.ldc2_w 377, 3) := by decide +kernel
theorem dX4_digest_122 : decode cX4_digest 122 = .ok (.lmul, 1) := by decide +kernel
theorem dX4_digest_123 : decode cX4_digest 123 = .ok (.aload_n 0, 1) := by decide +kernel
theorem dX4_digest_124 : decode cX4_digest 124 = .ok (.iload_n 3, 1) := by decide +kernel
theorem dX4_digest_125 : decode cX4_digest 125 = .ok (.invokevirtual 388, 3) := by decide +kernel
theorem dX4_digest_128 : decode cX4_digest 128 = .ok (.i2l, 1) := by decide +kernel
theorem dX4_digest_129 : decode cX4_digest 129 = .ok (.ladd, 1) := by decide +kernel
theorem dX4_digest_130 : decode cX4_digest 130 = .ok (.lstore_n 1, 1) := by decide +kernel
theorem dX4_digest_131 : decode cX4_digest 131 = .ok (.iinc 3 1, 3) := by decide +kernel
theorem dX4_digest_134 : decode cX4_digest 134 = .ok (.goto (-55), 3) := by decide +kernel
theorem dX4_digest_137 : decode cX4_digest 137 = .ok (.iconst 0, 1) := by decide +kernel
theorem dX4_digest_138 : decode cX4_digest 138 = .ok (.istore_n 3, 1) := by decide +kernel
theorem dX4_digest_139 : decode cX4_digest 139 = .ok (.iload_n 3, 1) := by decide +kernel
theorem dX4_digest_140 : decode cX4_digest 140 = .ok (.aload_n 0, 1) := by decide +kernel
theorem dX4_digest_141 : decode cX4_digest 141 = .ok (.getfield 102, 3) := by decide +kernel
theorem dX4_digest_144 : decode cX4_digest 144 = .ok (.if_icmp .ge 73, 3) := by decide +kernel
theorem dX4_digest_147 : decode cX4_digest 147 = .ok (.iconst 0, 1) := by decide +kernel
theorem dX4_digest_148 : decode cX4_digest 148 = .ok (.istore 4, 2) := by decide +kernel
theorem dX4_digest_150 : decode cX4_digest 150 = .ok (.iload 4, 2) := by decide +kernel
theorem dX4_digest_152 : decode cX4_digest 152 = .ok (.bipush 7, 2) := by decide +kernel
theorem dX4_digest_154 : decode cX4_digest 154 = .ok (.if_icmp .gt 24, 3) := by decide +kernel
theorem dX4_digest_157 : decode cX4_digest 157 = .ok (.lload_n 1, 1) := by decide +kernel
theorem dX4_digest_158 : decode cX4_digest 158 = .ok (.ldc2_w 377, 3) := by decide +kernel
theorem dX4_digest_161 : decode cX4_digest 161 = .ok (.lmul, 1) := by decide +kernel
theorem dX4_digest_162 : decode cX4_digest 162 = .ok (.aload_n 0, 1) := by decide +kernel
theorem dX4_digest_163 : decode cX4_digest 163 = .ok (.iload_n 3, 1) := by decide +kernel
theorem dX4_digest_164 : decode cX4_digest 164 = .ok (.iload 4, 2) := by decide +kernel
theorem dX4_digest_166 : decode cX4_digest 166 = .ok (.invokevirtual 391, 3) := by decide +kernel
theorem dX4_digest_169 : decode cX4_digest 169 = .ok (.i2l, 1) := by decide +kernel
theorem dX4_digest_170 : decode cX4_digest 170 = .ok (.ladd, 1) := by decide +kernel
theorem dX4_digest_171 : decode cX4_digest 171 = .ok (.lstore_n 1, 1) := by decide +kernel
theorem dX4_digest_172 : decode cX4_digest 172 = .ok (.iinc 4 1, 3) := by decide +kernel
theorem dX4_digest_175 : decode cX4_digest 175 = .ok (.goto (-25), 3) := by decide +kernel
theorem dX4_digest_178 : decode cX4_digest 178 = .ok (.iconst 0, 1) := by decide +kernel
theorem dX4_digest_179 : decode cX4_digest 179 = .ok (.istore 4, 2) := by decide +kernel
theorem dX4_digest_181 : decode cX4_digest 181 = .ok (.iload 4, 2) := by decide +kernel
theorem dX4_digest_183 : decode cX4_digest 183 = .ok (.aload_n 0, 1) := by decide +kernel
theorem dX4_digest_184 : decode cX4_digest 184 = .ok (.getfield 85, 3) := by decide +kernel
theorem dX4_digest_187 : decode cX4_digest 187 = .ok (.if_icmp .ge 24, 3) := by decide +kernel
theorem dX4_digest_190 : decode cX4_digest 190 = .ok (.lload_n 1, 1) := by decide +kernel
theorem dX4_digest_191 : decode cX4_digest 191 = .ok (.ldc2_w 377, 3) := by decide +kernel
theorem dX4_digest_194 : decode cX4_digest 194 = .ok (.lmul, 1) := by decide +kernel
theorem dX4_digest_195 : decode cX4_digest 195 = .ok (.aload_n 0, 1) := by decide +kernel
theorem dX4_digest_196 : decode cX4_digest 196 = .ok (.iload_n 3, 1) := by decide +kernel
theorem dX4_digest_197 : decode cX4_digest 197 = .ok (.iload 4, 2) := by decide +kernel
theorem dX4_digest_199 : decode cX4_digest 199 = .ok (.invokevirtual 394, 3) := by decide +kernel
theorem dX4_digest_202 : decode cX4_digest 202 = .ok (.i2l, 1) := by decide +kernel
theorem dX4_digest_203 : decode cX4_digest 203 = .ok (.ladd, 1) := by decide +kernel
theorem dX4_digest_204 : decode cX4_digest 204 = .ok (.lstore_n 1, 1) := by decide +kernel
theorem dX4_digest_205 : decode cX4_digest 205 = .ok (.iinc 4 1, 3) := by decide +kernel
theorem dX4_digest_208 : decode cX4_digest 208 = .ok (.goto (-27), 3) := by decide +kernel
theorem dX4_digest_211 : decode cX4_digest 211 = .ok (.iinc 3 1, 3) := by decide +kernel
theorem dX4_digest_214 : decode cX4_digest 214 = .ok (.goto (-75), 3) := by decide +kernel
theorem dX4_digest_217 : decode cX4_digest 217 = .ok (.lload_n 1, 1) := by decide +kernel
theorem dX4_digest_218 : decode cX4_digest 218 = .ok (.ldc2_w 377, 3) := by decide +kernel
theorem dX4_digest_221 : decode cX4_digest 221 = .ok (.lmul, 1) := by decide +kernel
theorem dX4_digest_222 : decode cX4_digest 222 = .ok (.aload_n 0, 1) := by decide +kernel
theorem dX4_digest_223 : decode cX4_digest 223 = .ok (.iconst 0, 1) := by decide +kernel
theorem dX4_digest_224 : decode cX4_digest 224 = .ok (.invokevirtual 397, 3) := by decide +kernel
theorem dX4_digest_227 : decode cX4_digest 227 = .ok (.i2l, 1) := by decide +kernel
theorem dX4_digest_228 : decode cX4_digest 228 = .ok (.ladd, 1) := by decide +kernel
theorem dX4_digest_229 : decode cX4_digest 229 = .ok (.lstore_n 1, 1) := by decide +kernel
theorem dX4_digest_230 : decode cX4_digest 230 = .ok (.lload_n 1, 1) := by decide +kernel
theorem dX4_digest_231 : decode cX4_digest 231 = .ok (.ldc2_w 377, 3) := by decide +kernel
theorem dX4_digest_234 : decode cX4_digest 234 = .ok (.lmul, 1) := by decide +kernel
theorem dX4_digest_235 : decode cX4_digest 235 = .ok (.aload_n 0, 1) := by decide +kernel
theorem dX4_digest_236 : decode cX4_digest 236 = .ok (.iconst 1, 1) := by decide +kernel
theorem dX4_digest_237 : decode cX4_digest 237 = .ok (.invokevirtual 397, 3) := by decide +kernel
theorem dX4_digest_240 : decode cX4_digest 240 = .ok (.i2l, 1) := by decide +kernel
theorem dX4_digest_241 : decode cX4_digest 241 = .ok (.ladd, 1) := by decide +kernel
theorem dX4_digest_242 : decode cX4_digest 242 = .ok (.lstore_n 1, 1) := by decide +kernel
theorem dX4_digest_243 : decode cX4_digest 243 = .ok (.lload_n 1, 1) := by decide +kernel
theorem dX4_digest_244 : decode cX4_digest 244 = .ok (.ldc2_w 377, 3) := by decide +kernel
theorem dX4_digest_247 : decode cX4_digest 247 = .ok (.lmul, 1) := by decide +kernel
theorem dX4_digest_248 : decode cX4_digest 248 = .ok (.aload_n 0, 1) := by decide +kernel
theorem dX4_digest_249 : decode cX4_digest 249 = .ok (.invokevirtual 400, 3) := by decide +kernel
theorem dX4_digest_252 : decode cX4_digest 252 = .ok (.i2l, 1) := by decide +kernel
theorem dX4_digest_253 : decode cX4_digest 253 = .ok (.ladd, 1) := by decide +kernel
theorem dX4_digest_254 : decode cX4_digest 254 = .ok (.lstore_n 1, 1) := by decide +kernel
theorem dX4_digest_255 : decode cX4_digest 255 = .ok (.lload_n 1, 1) := by decide +kernel
theorem dX4_digest_256 : decode cX4_digest 256 = .ok (.ldc2_w 377, 3) := by decide +kernel
theorem dX4_digest_259 : decode cX4_digest 259 = .ok (.lmul, 1) := by decide +kernel
theorem dX4_digest_260 : decode cX4_digest 260 = .ok (.aload_n 0, 1) := by decide +kernel
theorem dX4_digest_261 : decode cX4_digest 261 = .ok (.invokevirtual 403, 3) := by decide +kernel
theorem dX4_digest_264 : decode cX4_digest 264 = .ok (.i2l, 1) := by decide +kernel
theorem dX4_digest_265 : decode cX4_digest 265 = .ok (.ladd, 1) := by decide +kernel
theorem dX4_digest_266 : decode cX4_digest 266 = .ok (.lstore_n 1, 1) := by decide +kernel
theorem dX4_digest_267 : decode cX4_digest 267 = .ok (.lload_n 1, 1) := by decide +kernel
theorem dX4_digest_268 : decode cX4_digest 268 = .ok (.ldc2_w 377, 3) := by decide +kernel
theorem dX4_digest_271 : decode cX4_digest 271 = .ok (.lmul, 1) := by decide +kernel
theorem dX4_digest_272 : decode cX4_digest 272 = .ok (.aload_n 0, 1) := by decide +kernel
theorem dX4_digest_273 : decode cX4_digest 273 = .ok (.bipush 7, 2) := by decide +kernel
theorem dX4_digest_275 : decode cX4_digest 275 = .ok (.invokevirtual 406, 3) := by decide +kernel
theorem dX4_digest_278 : decode cX4_digest 278 = .ok (.i2l, 1) := by decide +kernel
theorem dX4_digest_279 : decode cX4_digest 279 = .ok (.ladd, 1) := by decide +kernel
theorem dX4_digest_280 : decode cX4_digest 280 = .ok (.lreturn, 1) := by decide +kernel
theorem dX4_isWithin_0 : decode cX4_isWithin 0 = .ok (.iload_n 0, 1) := by decide +kernel
theorem dX4_isWithin_1 : decode cX4_isWithin 1 = .ok (.iload_n 1, 1) := by decide +kernel
theorem dX4_isWithin_2 : decode cX4_isWithin 2 = .ok (.if_icmp .lt 12, 3) := by decide +kernel
theorem dX4_isWithin_5 : decode cX4_isWithin 5 = .ok (.iload_n 0, 1) := by decide +kernel
theorem dX4_isWithin_6 : decode cX4_isWithin 6 = .ok (.iload_n 2, 1) := by decide +kernel
theorem dX4_isWithin_7 : decode cX4_isWithin 7 = .ok (.if_icmp .gt 7, 3) := by decide +kernel
theorem dX4_isWithin_10 : decode cX4_isWithin 10 = .ok (.iconst 1, 1) := by decide +kernel
theorem dX4_isWithin_11 : decode cX4_isWithin 11 = .ok (.goto 4, 3) := by decide +kernel
theorem dX4_isWithin_14 : decode cX4_isWithin 14 = .ok (.iconst 0, 1) := by decide +kernel
theorem dX4_isWithin_15 : decode cX4_isWithin 15 = .ok (.ireturn, 1) := by decide +kernel
theorem dX4_isAuthor_0 : decode cX4_isAuthor 0 = .ok (.iload_n 0, 1) := by decide +kernel
theorem dX4_isAuthor_1 : decode cX4_isAuthor 1 = .ok (.iconst 0, 1) := by decide +kernel
theorem dX4_isAuthor_2 : decode cX4_isAuthor 2 = .ok (.bipush 9, 2) := by decide +kernel
theorem dX4_isAuthor_4 : decode cX4_isAuthor 4 = .ok (.invokestatic 76, 3) := by decide +kernel
theorem dX4_isAuthor_7 : decode cX4_isAuthor 7 = .ok (.ireturn, 1) := by decide +kernel
theorem dX4_isHouse_0 : decode cX4_isHouse 0 = .ok (.iload_n 1, 1) := by decide +kernel
theorem dX4_isHouse_1 : decode cX4_isHouse 1 = .ok (.ifCond .lt 15, 3) := by decide +kernel
theorem dX4_isHouse_4 : decode cX4_isHouse 4 = .ok (.iload_n 1, 1) := by decide +kernel
theorem dX4_isHouse_5 : decode cX4_isHouse 5 = .ok (.aload_n 0, 1) := by decide +kernel
theorem dX4_isHouse_6 : decode cX4_isHouse 6 = .ok (.getfield 54, 3) := by decide +kernel
theorem dX4_isHouse_9 : decode cX4_isHouse 9 = .ok (.if_icmp .ge 7, 3) := by decide +kernel
theorem dX4_isHouse_12 : decode cX4_isHouse 12 = .ok (.iconst 1, 1) := by decide +kernel
theorem dX4_isHouse_13 : decode cX4_isHouse 13 = .ok (.goto 4, 3) := by decide +kernel
theorem dX4_isHouse_16 : decode cX4_isHouse 16 = .ok (.iconst 0, 1) := by decide +kernel
theorem dX4_isHouse_17 : decode cX4_isHouse 17 = .ok (.ireturn, 1) := by decide +kernel
theorem dX4_isBook_0 : decode cX4_isBook 0 = .ok (.iload_n 1, 1) := by decide +kernel
theorem dX4_isBook_1 : decode cX4_isBook 1 = .ok (.ifCond .lt 15, 3) := by decide +kernel
theorem dX4_isBook_4 : decode cX4_isBook 4 = .ok (.iload_n 1, 1) := by decide +kernel
theorem dX4_isBook_5 : decode cX4_isBook 5 = .ok (.aload_n 0, 1) := by decide +kernel
theorem dX4_isBook_6 : decode cX4_isBook 6 = .ok (.getfield 85, 3) := by decide +kernel
theorem dX4_isBook_9 : decode cX4_isBook 9 = .ok (.if_icmp .ge 7, 3) := by decide +kernel
theorem dX4_isBook_12 : decode cX4_isBook 12 = .ok (.iconst 1, 1) := by decide +kernel
theorem dX4_isBook_13 : decode cX4_isBook 13 = .ok (.goto 4, 3) := by decide +kernel
theorem dX4_isBook_16 : decode cX4_isBook 16 = .ok (.iconst 0, 1) := by decide +kernel
theorem dX4_isBook_17 : decode cX4_isBook 17 = .ok (.ireturn, 1) := by decide +kernel
theorem dX4_isJudge_0 : decode cX4_isJudge 0 = .ok (.iload_n 1, 1) := by decide +kernel
theorem dX4_isJudge_1 : decode cX4_isJudge 1 = .ok (.ifCond .lt 15, 3) := by decide +kernel
theorem dX4_isJudge_4 : decode cX4_isJudge 4 = .ok (.iload_n 1, 1) := by decide +kernel
theorem dX4_isJudge_5 : decode cX4_isJudge 5 = .ok (.aload_n 0, 1) := by decide +kernel
theorem dX4_isJudge_6 : decode cX4_isJudge 6 = .ok (.getfield 102, 3) := by decide +kernel
theorem dX4_isJudge_9 : decode cX4_isJudge 9 = .ok (.if_icmp .ge 7, 3) := by decide +kernel
theorem dX4_isJudge_12 : decode cX4_isJudge 12 = .ok (.iconst 1, 1) := by decide +kernel
theorem dX4_isJudge_13 : decode cX4_isJudge 13 = .ok (.goto 4, 3) := by decide +kernel
theorem dX4_isJudge_16 : decode cX4_isJudge 16 = .ok (.iconst 0, 1) := by decide +kernel
theorem dX4_isJudge_17 : decode cX4_isJudge 17 = .ok (.ireturn, 1) := by decide +kernel
theorem dX4_bit_0 : decode cX4_bit 0 = .ok (.iconst 1, 1) := by decide +kernel
theorem dX4_bit_1 : decode cX4_bit 1 = .ok (.iload_n 0, 1) := by decide +kernel
theorem dX4_bit_2 : decode cX4_bit 2 = .ok (.ishl, 1) := by decide +kernel
theorem dX4_bit_3 : decode cX4_bit 3 = .ok (.ireturn, 1) := by decide +kernel
theorem dX4_has_0 : decode cX4_has 0 = .ok (.iload_n 0, 1) := by decide +kernel
theorem dX4_has_1 : decode cX4_has 1 = .ok (.iconst 1, 1) := by decide +kernel
theorem dX4_has_2 : decode cX4_has 2 = .ok (.iload_n 1, 1) := by decide +kernel
theorem dX4_has_3 : decode cX4_has 3 = .ok (.ishl, 1) := by decide +kernel
theorem dX4_has_4 : decode cX4_has 4 = .ok (.iand, 1) := by decide +kernel
theorem dX4_has_5 : decode cX4_has 5 = .ok (.ifCond .eq 7, 3) := by decide +kernel
theorem dX4_has_8 : decode cX4_has 8 = .ok (.iconst 1, 1) := by decide +kernel
theorem dX4_has_9 : decode cX4_has 9 = .ok (.goto 4, 3) := by decide +kernel
theorem dX4_has_12 : decode cX4_has 12 = .ok (.iconst 0, 1) := by decide +kernel
theorem dX4_has_13 : decode cX4_has 13 = .ok (.ireturn, 1) := by decide +kernel
theorem dX4_allBooks_0 : decode cX4_allBooks 0 = .ok (.aload_n 0, 1) := by decide +kernel
theorem dX4_allBooks_1 : decode cX4_allBooks 1 = .ok (.getfield 85, 3) := by decide +kernel
theorem dX4_allBooks_4 : decode cX4_allBooks 4 = .ok (.invokestatic 120, 3) := by decide +kernel
theorem dX4_allBooks_7 : decode cX4_allBooks 7 = .ok (.iconst 1, 1) := by decide +kernel
theorem dX4_allBooks_8 : decode cX4_allBooks 8 = .ok (.isub, 1) := by decide +kernel
theorem dX4_allBooks_9 : decode cX4_allBooks 9 = .ok (.ireturn, 1) := by decide +kernel
theorem dX4_countOfHouse_0 : decode cX4_countOfHouse 0 = .ok (.iconst 0, 1) := by decide +kernel
theorem dX4_countOfHouse_1 : decode cX4_countOfHouse 1 = .ok (.istore_n 3, 1) := by decide +kernel
theorem dX4_countOfHouse_2 : decode cX4_countOfHouse 2 = .ok (.iconst 0, 1) := by decide +kernel
theorem dX4_countOfHouse_3 : decode cX4_countOfHouse 3 = .ok (.istore 4, 2) := by decide +kernel
theorem dX4_countOfHouse_5 : decode cX4_countOfHouse 5 = .ok (.iload 4, 2) := by decide +kernel
theorem dX4_countOfHouse_7 : decode cX4_countOfHouse 7 = .ok (.aload_n 0, 1) := by decide +kernel
theorem dX4_countOfHouse_8 : decode cX4_countOfHouse 8 = .ok (.getfield 85, 3) := by decide +kernel
theorem dX4_countOfHouse_11 : decode cX4_countOfHouse 11 = .ok (.if_icmp .ge 35, 3) := by decide +kernel
theorem dX4_countOfHouse_14 : decode cX4_countOfHouse 14 = .ok (.iload_n 2, 1) := by decide +kernel
theorem dX4_countOfHouse_15 : decode cX4_countOfHouse 15 = .ok (.iload 4, 2) := by decide +kernel
theorem dX4_countOfHouse_17 : decode cX4_countOfHouse 17 = .ok (.invokestatic 223, 3) := by decide +kernel
theorem dX4_countOfHouse_20 : decode cX4_countOfHouse 20 = .ok (.ifCond .eq 20, 3) := by decide +kernel
theorem dX4_countOfHouse_23 : decode cX4_countOfHouse 23 = .ok (.aload_n 0, 1) := by decide +kernel
theorem dX4_countOfHouse_24 : decode cX4_countOfHouse 24 = .ok (.getfield 17, 3) := by decide +kernel
theorem dX4_countOfHouse_27 : decode cX4_countOfHouse 27 = .ok (.iload 4, 2) := by decide +kernel
theorem dX4_countOfHouse_29 : decode cX4_countOfHouse 29 = .ok (.aaload, 1) := by decide +kernel
theorem dX4_countOfHouse_30 : decode cX4_countOfHouse 30 = .ok (.getfield 151, 3) := by decide +kernel
theorem dX4_countOfHouse_33 : decode cX4_countOfHouse 33 = .ok (.iload_n 1, 1) := by decide +kernel
theorem dX4_countOfHouse_34 : decode cX4_countOfHouse 34 = .ok (.if_icmp .ne 6, 3) := by decide +kernel
theorem dX4_countOfHouse_37 : decode cX4_countOfHouse 37 = .ok (.iinc 3 1, 3) := by decide +kernel
theorem dX4_countOfHouse_40 : decode cX4_countOfHouse 40 = .ok (.iinc 4 1, 3) := by decide +kernel
theorem dX4_countOfHouse_43 : decode cX4_countOfHouse 43 = .ok (.goto (-38), 3) := by decide +kernel
theorem dX4_countOfHouse_46 : decode cX4_countOfHouse 46 = .ok (.iload_n 3, 1) := by decide +kernel
theorem dX4_countOfHouse_47 : decode cX4_countOfHouse 47 = .ok (.ireturn, 1) := by decide +kernel
theorem dX4_quotaOf_0 : decode cX4_quotaOf 0 = .ok (.iconst 4, 1) := by decide +kernel
theorem dX4_quotaOf_1 : decode cX4_quotaOf 1 = .ok (.iconst 2, 1) := by decide +kernel
theorem dX4_quotaOf_2 : decode cX4_quotaOf 2 = .ok (.aload_n 0, 1) := by decide +kernel
theorem dX4_quotaOf_3 : decode cX4_quotaOf 3 = .ok (.iload_n 1, 1) := by decide +kernel
theorem dX4_quotaOf_4 : decode cX4_quotaOf 4 = .ok (.aload_n 0, 1) := by decide +kernel
theorem dX4_quotaOf_5 : decode cX4_quotaOf 5 = .ok (.getfield 287, 3) := by decide +kernel
theorem dX4_quotaOf_8 : decode cX4_quotaOf 8 = .ok (.invokevirtual 299, 3) := by decide +kernel
theorem dX4_quotaOf_11 : decode cX4_quotaOf 11 = .ok (.iadd, 1) := by decide +kernel
theorem dX4_quotaOf_12 : decode cX4_quotaOf 12 = .ok (.invokestatic 190, 3) := by decide +kernel
theorem dX4_quotaOf_15 : decode cX4_quotaOf 15 = .ok (.ireturn, 1) := by decide +kernel
theorem dX4_isEntered_0 : decode cX4_isEntered 0 = .ok (.aload_n 0, 1) := by decide +kernel
theorem dX4_isEntered_1 : decode cX4_isEntered 1 = .ok (.getfield 17, 3) := by decide +kernel
theorem dX4_isEntered_4 : decode cX4_isEntered 4 = .ok (.iload_n 1, 1) := by decide +kernel
theorem dX4_isEntered_5 : decode cX4_isEntered 5 = .ok (.aaload, 1) := by decide +kernel
theorem dX4_isEntered_6 : decode cX4_isEntered 6 = .ok (.getfield 409, 3) := by decide +kernel
theorem dX4_isEntered_9 : decode cX4_isEntered 9 = .ok (.aload_n 0, 1) := by decide +kernel
theorem dX4_isEntered_10 : decode cX4_isEntered 10 = .ok (.getfield 94, 3) := by decide +kernel
theorem dX4_isEntered_13 : decode cX4_isEntered 13 = .ok (.if_icmp .ne 7, 3) := by decide +kernel
theorem dX4_isEntered_16 : decode cX4_isEntered 16 = .ok (.iconst 1, 1) := by decide +kernel
theorem dX4_isEntered_17 : decode cX4_isEntered 17 = .ok (.goto 4, 3) := by decide +kernel
theorem dX4_isEntered_20 : decode cX4_isEntered 20 = .ok (.iconst 0, 1) := by decide +kernel
theorem dX4_isEntered_21 : decode cX4_isEntered 21 = .ok (.ireturn, 1) := by decide +kernel
theorem dX4_isEligible_0 : decode cX4_isEligible 0 = .ok (.aload_n 0, 1) := by decide +kernel
theorem dX4_isEligible_1 : decode cX4_isEligible 1 = .ok (.getfield 17, 3) := by decide +kernel
theorem dX4_isEligible_4 : decode cX4_isEligible 4 = .ok (.iload_n 1, 1) := by decide +kernel
theorem dX4_isEligible_5 : decode cX4_isEligible 5 = .ok (.aaload, 1) := by decide +kernel
theorem dX4_isEligible_6 : decode cX4_isEligible 6 = .ok (.astore_n 2, 1) := by decide +kernel
theorem dX4_isEligible_7 : decode cX4_isEligible 7 = .ok (.aload_n 2, 1) := by decide +kernel
theorem dX4_isEligible_8 : decode cX4_isEligible 8 = .ok (.getfield 409, 3) := by decide +kernel
theorem dX4_isEligible_11 : decode cX4_isEligible 11 = .ok (.iconst (-1), 1) := by decide +kernel
theorem dX4_isEligible_12 : decode cX4_isEligible 12 = .ok (.if_icmp .eq 14, 3) := by decide +kernel
theorem dX4_isEligible_15 : decode cX4_isEligible 15 = .ok (.aload_n 2, 1) := by decide +kernel
theorem dX4_isEligible_16 : decode cX4_isEligible 16 = .ok (.getfield 409, 3) := by decide +kernel
theorem dX4_isEligible_19 : decode cX4_isEligible 19 = .ok (.aload_n 0, 1) := by decide +kernel
theorem dX4_isEligible_20 : decode cX4_isEligible 20 = .ok (.getfield 94, 3) := by decide +kernel
theorem dX4_isEligible_23 : decode cX4_isEligible 23 = .ok (.if_icmp .ne 7, 3) := by decide +kernel
theorem dX4_isEligible_26 : decode cX4_isEligible 26 = .ok (.iconst 1, 1) := by decide +kernel
theorem dX4_isEligible_27 : decode cX4_isEligible 27 = .ok (.goto 4, 3) := by decide +kernel
theorem dX4_isEligible_30 : decode cX4_isEligible 30 = .ok (.iconst 0, 1) := by decide +kernel
theorem dX4_isEligible_31 : decode cX4_isEligible 31 = .ok (.istore_n 3, 1) := by decide +kernel
theorem dX4_isEligible_32 : decode cX4_isEligible 32 = .ok (.iload_n 3, 1) := by decide +kernel
theorem dX4_isEligible_33 : decode cX4_isEligible 33 = .ok (.ifCond .eq 38, 3) := by decide +kernel
theorem dX4_isEligible_36 : decode cX4_isEligible 36 = .ok (.aload_n 0, 1) := by decide +kernel
theorem dX4_isEligible_37 : decode cX4_isEligible 37 = .ok (.getfield 94, 3) := by decide +kernel
theorem dX4_isEligible_40 : decode cX4_isEligible 40 = .ok (.aload_n 2, 1) := by decide +kernel
theorem dX4_isEligible_41 : decode cX4_isEligible 41 = .ok (.getfield 97, 3) := by decide +kernel
theorem dX4_isEligible_44 : decode cX4_isEligible 44 = .ok (.isub, 1) := by decide +kernel
theorem dX4_isEligible_45 : decode cX4_isEligible 45 = .ok (.iconst 1, 1) := by decide +kernel
theorem dX4_isEligible_46 : decode cX4_isEligible 46 = .ok (.if_icmp .gt 25, 3) := by decide +kernel
theorem dX4_isEligible_49 : decode cX4_isEligible 49 = .ok (.aload_n 0, 1) := by decide +kernel
theorem dX4_isEligible_50 : decode cX4_isEligible 50 = .ok (.getfield 30, 3) := by decide +kernel
theorem dX4_isEligible_53 : decode cX4_isEligible 53 = .ok (.aload_n 2, 1) := by decide +kernel
theorem dX4_isEligible_54 : decode cX4_isEligible 54 = .ok (.getfield 412, 3) := by decide +kernel
theorem dX4_isEligible_57 : decode cX4_isEligible 57 = .ok (.aload_n 2, 1) := by decide +kernel
theorem dX4_isEligible_58 : decode cX4_isEligible 58 = .ok (.getfield 415, 3) := by decide +kernel
theorem dX4_isEligible_61 : decode cX4_isEligible 61 = .ok (.invokevirtual 418, 3) := by decide +kernel
theorem dX4_isEligible_64 : decode cX4_isEligible 64 = .ok (.ifCond .eq 7, 3) := by decide +kernel
theorem dX4_isEligible_67 : decode cX4_isEligible 67 = .ok (.iconst 1, 1) := by decide +kernel
theorem dX4_isEligible_68 : decode cX4_isEligible 68 = .ok (.goto 4, 3) := by decide +kernel
theorem dX4_isEligible_71 : decode cX4_isEligible 71 = .ok (.iconst 0, 1) := by decide +kernel
theorem dX4_isEligible_72 : decode cX4_isEligible 72 = .ok (.ireturn, 1) := by decide +kernel
theorem dX4_enteredCount_0 : decode cX4_enteredCount 0 = .ok (.iconst 0, 1) := by decide +kernel
theorem dX4_enteredCount_1 : decode cX4_enteredCount 1 = .ok (.istore_n 1, 1) := by decide +kernel
theorem dX4_enteredCount_2 : decode cX4_enteredCount 2 = .ok (.iconst 0, 1) := by decide +kernel
theorem dX4_enteredCount_3 : decode cX4_enteredCount 3 = .ok (.istore_n 2, 1) := by decide +kernel
theorem dX4_enteredCount_4 : decode cX4_enteredCount 4 = .ok (.iload_n 2, 1) := by decide +kernel
theorem dX4_enteredCount_5 : decode cX4_enteredCount 5 = .ok (.aload_n 0, 1) := by decide +kernel
theorem dX4_enteredCount_6 : decode cX4_enteredCount 6 = .ok (.getfield 85, 3) := by decide +kernel
theorem dX4_enteredCount_9 : decode cX4_enteredCount 9 = .ok (.if_icmp .ge 20, 3) := by decide +kernel
theorem dX4_enteredCount_12 : decode cX4_enteredCount 12 = .ok (.aload_n 0, 1) := by decide +kernel
theorem dX4_enteredCount_13 : decode cX4_enteredCount 13 = .ok (.iload_n 2, 1) := by decide +kernel
theorem dX4_enteredCount_14 : decode cX4_enteredCount 14 = .ok (.invokevirtual 143, 3) := by decide +kernel
theorem dX4_enteredCount_17 : decode cX4_enteredCount 17 = .ok (.ifCond .eq 6, 3) := by decide +kernel
theorem dX4_enteredCount_20 : decode cX4_enteredCount 20 = .ok (.iinc 1 1, 3) := by decide +kernel
theorem dX4_enteredCount_23 : decode cX4_enteredCount 23 = .ok (.iinc 2 1, 3) := by decide +kernel
theorem dX4_enteredCount_26 : decode cX4_enteredCount 26 = .ok (.goto (-22), 3) := by decide +kernel
theorem dX4_enteredCount_29 : decode cX4_enteredCount 29 = .ok (.iload_n 1, 1) := by decide +kernel
theorem dX4_enteredCount_30 : decode cX4_enteredCount 30 = .ok (.ireturn, 1) := by decide +kernel
theorem dX4_enterFor_0 : decode cX4_enterFor 0 = .ok (.aload_n 0, 1) := by decide +kernel
theorem dX4_enterFor_1 : decode cX4_enterFor 1 = .ok (.getfield 17, 3) := by decide +kernel
theorem dX4_enterFor_4 : decode cX4_enterFor 4 = .ok (.iload_n 1, 1) := by decide +kernel
theorem dX4_enterFor_5 : decode cX4_enterFor 5 = .ok (.aaload, 1) := by decide +kernel
theorem dX4_enterFor_6 : decode cX4_enterFor 6 = .ok (.aload_n 0, 1) := by decide +kernel
theorem dX4_enterFor_7 : decode cX4_enterFor 7 = .ok (.getfield 94, 3) := by decide +kernel
theorem dX4_enterFor_10 : decode cX4_enterFor 10 = .ok (.putfield 409, 3) := by decide +kernel
theorem dX4_enterFor_13 : decode cX4_enterFor 13 = .ok (.aload_n 0, 1) := by decide +kernel
theorem dX4_enterFor_14 : decode cX4_enterFor 14 = .ok (.getfield 11, 3) := by decide +kernel
theorem dX4_enterFor_17 : decode cX4_enterFor 17 = .ok (.aload_n 0, 1) := by decide +kernel
theorem dX4_enterFor_18 : decode cX4_enterFor 18 = .ok (.getfield 17, 3) := by decide +kernel
theorem dX4_enterFor_21 : decode cX4_enterFor 21 = .ok (.iload_n 1, 1) := by decide +kernel
theorem dX4_enterFor_22 : decode cX4_enterFor 22 = .ok (.aaload, 1) := by decide +kernel
theorem dX4_enterFor_23 : decode cX4_enterFor 23 = .ok (.getfield 151, 3) := by decide +kernel
theorem dX4_enterFor_26 : decode cX4_enterFor 26 = .ok (.aaload, 1) := by decide +kernel
theorem dX4_enterFor_27 : decode cX4_enterFor 27 = .ok (.dup, 1) := by decide +kernel
theorem dX4_enterFor_28 : decode cX4_enterFor 28 = .ok (.getfield 293, 3) := by decide +kernel
theorem dX4_enterFor_31 : decode cX4_enterFor 31 = .ok (.iload_n 2, 1) := by decide +kernel
theorem dX4_enterFor_32 : decode cX4_enterFor 32 = .ok (.isub, 1) := by decide +kernel
theorem dX4_enterFor_33 : decode cX4_enterFor 33 = .ok (.putfield 293, 3) := by decide +kernel
theorem dX4_enterFor_36 : decode cX4_enterFor 36 = .ok (.aload_n 0, 1) := by decide +kernel
theorem dX4_enterFor_37 : decode cX4_enterFor 37 = .ok (.invokevirtual 176, 3) := by decide +kernel
theorem dX4_enterFor_40 : decode cX4_enterFor 40 = .ok (.ireturn, 1) := by decide +kernel
theorem dX4_handOut_0 : decode cX4_handOut 0 = .ok (.iconst 0, 1) := by decide +kernel
theorem dX4_handOut_1 : decode cX4_handOut 1 = .ok (.istore_n 2, 1) := by decide +kernel
theorem dX4_handOut_2 : decode cX4_handOut 2 = .ok (.iconst 0, 1) := by decide +kernel
theorem dX4_handOut_3 : decode cX4_handOut 3 = .ok (.istore_n 3, 1) := by decide +kernel
theorem dX4_handOut_4 : decode cX4_handOut 4 = .ok (.iload_n 3, 1) := by decide +kernel
theorem dX4_handOut_5 : decode cX4_handOut 5 = .ok (.iconst 3, 1) := by decide +kernel
theorem dX4_handOut_6 : decode cX4_handOut 6 = .ok (.if_icmp .ge 59, 3) := by decide +kernel
theorem dX4_handOut_9 : decode cX4_handOut 9 = .ok (.aload_n 0, 1) := by decide +kernel
theorem dX4_handOut_10 : decode cX4_handOut 10 = .ok (.iload_n 2, 1) := by decide +kernel
theorem dX4_handOut_11 : decode cX4_handOut 11 = .ok (.aload_n 0, 1) := by decide +kernel
theorem dX4_handOut_12 : decode cX4_handOut 12 = .ok (.getfield 17, 3) := by decide +kernel
theorem dX4_handOut_15 : decode cX4_handOut 15 = .ok (.iload_n 1, 1) := by decide +kernel
theorem dX4_handOut_16 : decode cX4_handOut 16 = .ok (.aaload, 1) := by decide +kernel
theorem dX4_handOut_17 : decode cX4_handOut 17 = .ok (.getfield 170, 3) := by decide +kernel
theorem dX4_handOut_20 : decode cX4_handOut 20 = .ok (.invokevirtual 421, 3) := by decide +kernel
theorem dX4_handOut_23 : decode cX4_handOut 23 = .ok (.istore 4, 2) := by decide +kernel
theorem dX4_handOut_25 : decode cX4_handOut 25 = .ok (.iload 4, 2) := by decide +kernel
theorem dX4_handOut_27 : decode cX4_handOut 27 = .ok (.iconst (-1), 1) := by decide +kernel
theorem dX4_handOut_28 : decode cX4_handOut 28 = .ok (.if_icmp .eq 31, 3) := by decide +kernel
theorem dX4_handOut_31 : decode cX4_handOut 31 = .ok (.aload_n 0, 1) := by decide +kernel
theorem dX4_handOut_32 : decode cX4_handOut 32 = .ok (.getfield 23, 3) := by decide +kernel
theorem dX4_handOut_35 : decode cX4_handOut 35 = .ok (.iload 4, 2) := by decide +kernel
theorem dX4_handOut_37 : decode cX4_handOut 37 = .ok (.aaload, 1) := by decide +kernel
theorem dX4_handOut_38 : decode cX4_handOut 38 = .ok (.iload_n 1, 1) := by decide +kernel
theorem dX4_handOut_39 : decode cX4_handOut 39 = .ok (.aload_n 0, 1) := by decide +kernel
theorem dX4_handOut_40 : decode cX4_handOut 40 = .ok (.getfield 17, 3) := by decide +kernel
theorem dX4_handOut_43 : decode cX4_handOut 43 = .ok (.iload_n 1, 1) := by decide +kernel
theorem dX4_handOut_44 : decode cX4_handOut 44 = .ok (.aaload, 1) := by decide +kernel
theorem dX4_handOut_45 : decode cX4_handOut 45 = .ok (.getfield 415, 3) := by decide +kernel
theorem dX4_handOut_48 : decode cX4_handOut 48 = .ok (.invokevirtual 424, 3) := by decide +kernel
theorem dX4_handOut_51 : decode cX4_handOut 51 = .ok (.iload_n 2, 1) := by decide +kernel
theorem dX4_handOut_52 : decode cX4_handOut 52 = .ok (.iload 4, 2) := by decide +kernel
theorem dX4_handOut_54 : decode cX4_handOut 54 = .ok (.invokestatic 120, 3) := by decide +kernel
theorem dX4_handOut_57 : decode cX4_handOut 57 = .ok (.ior, 1) := by decide +kernel
theorem dX4_handOut_58 : decode cX4_handOut 58 = .ok (.istore_n 2, 1) := by decide +kernel
theorem dX4_handOut_59 : decode cX4_handOut 59 = .ok (.iinc 3 1, 3) := by decide +kernel
theorem dX4_handOut_62 : decode cX4_handOut 62 = .ok (.goto (-58), 3) := by decide +kernel
theorem dX4_handOut_65 : decode cX4_handOut 65 = .ok (.iload_n 2, 1) := by decide +kernel
theorem dX4_handOut_66 : decode cX4_handOut 66 = .ok (.invokestatic 124, 3) := by decide +kernel
theorem dX4_handOut_69 : decode cX4_handOut 69 = .ok (.ireturn, 1) := by decide +kernel
theorem dX4_lightestWithout_0 : decode cX4_lightestWithout 0 = .ok (.iconst (-1), 1) := by decide +kernel
theorem dX4_lightestWithout_1 : decode cX4_lightestWithout 1 = .ok (.istore_n 3, 1) := by decide +kernel
theorem dX4_lightestWithout_2 : decode cX4_lightestWithout 2 = .ok (.iconst 0, 1) := by decide +kernel
theorem dX4_lightestWithout_3 : decode cX4_lightestWithout 3 = .ok (.istore 4, 2) := by decide +kernel
theorem dX4_lightestWithout_5 : decode cX4_lightestWithout 5 = .ok (.iload 4, 2) := by decide +kernel
theorem dX4_lightestWithout_7 : decode cX4_lightestWithout 7 = .ok (.aload_n 0, 1) := by decide +kernel
theorem dX4_lightestWithout_8 : decode cX4_lightestWithout 8 = .ok (.getfield 102, 3) := by decide +kernel
theorem dX4_lightestWithout_11 : decode cX4_lightestWithout 11 = .ok (.if_icmp .ge 62, 3) := by decide +kernel
theorem dX4_lightestWithout_14 : decode cX4_lightestWithout 14 = .ok (.iload_n 1, 1) := by decide +kernel
theorem dX4_lightestWithout_15 : decode cX4_lightestWithout 15 = .ok (.iload 4, 2) := by decide +kernel
theorem dX4_lightestWithout_17 : decode cX4_lightestWithout 17 = .ok (.invokestatic 223, 3) := by decide +kernel
theorem dX4_lightestWithout_20 : decode cX4_lightestWithout 20 = .ok (.ifCond .ne 47, 3) := by decide +kernel
theorem dX4_lightestWithout_23 : decode cX4_lightestWithout 23 = .ok (.aload_n 0, 1) := by decide +kernel
theorem dX4_lightestWithout_24 : decode cX4_lightestWithout 24 = .ok (.getfield 23, 3) := by decide +kernel
theorem dX4_lightestWithout_27 : decode cX4_lightestWithout 27 = .ok (.iload 4, 2) := by decide +kernel
theorem dX4_lightestWithout_29 : decode cX4_lightestWithout 29 = .ok (.aaload, 1) := by decide +kernel
theorem dX4_lightestWithout_30 : decode cX4_lightestWithout 30 = .ok (.iload_n 2, 1) := by decide +kernel
theorem dX4_lightestWithout_31 : decode cX4_lightestWithout 31 = .ok (.invokevirtual 173, 3) := by decide +kernel
theorem dX4_lightestWithout_34 : decode cX4_lightestWithout 34 = .ok (.ifCond .ne 33, 3) := by decide +kernel
theorem dX4_lightestWithout_37 : decode cX4_lightestWithout 37 = .ok (.iload_n 3, 1) := by decide +kernel
theorem dX4_lightestWithout_38 : decode cX4_lightestWithout 38 = .ok (.iconst (-1), 1) := by decide +kernel
theorem dX4_lightestWithout_39 : decode cX4_lightestWithout 39 = .ok (.if_icmp .eq 25, 3) := by decide +kernel
theorem dX4_lightestWithout_42 : decode cX4_lightestWithout 42 = .ok (.aload_n 0, 1) := by decide +kernel
theorem dX4_lightestWithout_43 : decode cX4_lightestWithout 43 = .ok (.getfield 23, 3) := by decide +kernel
theorem dX4_lightestWithout_46 : decode cX4_lightestWithout 46 = .ok (.iload 4, 2) := by decide +kernel
theorem dX4_lightestWithout_48 : decode cX4_lightestWithout 48 = .ok (.aaload, 1) := by decide +kernel
theorem dX4_lightestWithout_49 : decode cX4_lightestWithout 49 = .ok (.getfield 428, 3) := by decide +kernel
theorem dX4_lightestWithout_52 : decode cX4_lightestWithout 52 = .ok (.aload_n 0, 1) := by decide +kernel
theorem dX4_lightestWithout_53 : decode cX4_lightestWithout 53 = .ok (.getfield 23, 3) := by decide +kernel
theorem dX4_lightestWithout_56 : decode cX4_lightestWithout 56 = .ok (.iload_n 3, 1) := by decide +kernel
theorem dX4_lightestWithout_57 : decode cX4_lightestWithout 57 = .ok (.aaload, 1) := by decide +kernel
theorem dX4_lightestWithout_58 : decode cX4_lightestWithout 58 = .ok (.getfield 428, 3) := by decide +kernel
theorem dX4_lightestWithout_61 : decode cX4_lightestWithout 61 = .ok (.if_icmp .ge 6, 3) := by decide +kernel
theorem dX4_lightestWithout_64 : decode cX4_lightestWithout 64 = .ok (.iload 4, 2) := by decide +kernel
theorem dX4_lightestWithout_66 : decode cX4_lightestWithout 66 = .ok (.istore_n 3, 1) := by decide +kernel
theorem dX4_lightestWithout_67 : decode cX4_lightestWithout 67 = .ok (.iinc 4 1, 3) := by decide +kernel
theorem dX4_lightestWithout_70 : decode cX4_lightestWithout 70 = .ok (.goto (-65), 3) := by decide +kernel
theorem dX4_lightestWithout_73 : decode cX4_lightestWithout 73 = .ok (.iload_n 3, 1) := by decide +kernel
theorem dX4_lightestWithout_74 : decode cX4_lightestWithout 74 = .ok (.ireturn, 1) := by decide +kernel
theorem dX4_readForDay_0 : decode cX4_readForDay 0 = .ok (.iconst 0, 1) := by decide +kernel
theorem dX4_readForDay_1 : decode cX4_readForDay 1 = .ok (.istore_n 1, 1) := by decide +kernel
theorem dX4_readForDay_2 : decode cX4_readForDay 2 = .ok (.aload_n 0, 1) := by decide +kernel
theorem dX4_readForDay_3 : decode cX4_readForDay 3 = .ok (.getfield 37, 3) := by decide +kernel
theorem dX4_readForDay_6 : decode cX4_readForDay 6 = .ok (.iconst 1, 1) := by decide +kernel
theorem dX4_readForDay_7 : decode cX4_readForDay 7 = .ok (.if_icmp .ne 35, 3) := by decide +kernel
theorem dX4_readForDay_10 : decode cX4_readForDay 10 = .ok (.iconst 0, 1) := by decide +kernel
theorem dX4_readForDay_11 : decode cX4_readForDay 11 = .ok (.istore_n 2, 1) := by decide +kernel
theorem dX4_readForDay_12 : decode cX4_readForDay 12 = .ok (.iload_n 2, 1) := by decide +kernel
theorem dX4_readForDay_13 : decode cX4_readForDay 13 = .ok (.aload_n 0, 1) := by decide +kernel
theorem dX4_readForDay_14 : decode cX4_readForDay 14 = .ok (.getfield 102, 3) := by decide +kernel
theorem dX4_readForDay_17 : decode cX4_readForDay 17 = .ok (.if_icmp .ge 25, 3) := by decide +kernel
theorem dX4_readForDay_20 : decode cX4_readForDay 20 = .ok (.iload_n 1, 1) := by decide +kernel
theorem dX4_readForDay_21 : decode cX4_readForDay 21 = .ok (.aload_n 0, 1) := by decide +kernel
theorem dX4_readForDay_22 : decode cX4_readForDay 22 = .ok (.getfield 23, 3) := by decide +kernel
theorem dX4_readForDay_25 : decode cX4_readForDay 25 = .ok (.iload_n 2, 1) := by decide +kernel
theorem dX4_readForDay_26 : decode cX4_readForDay 26 = .ok (.aaload, 1) := by decide +kernel
theorem dX4_readForDay_27 : decode cX4_readForDay 27 = .ok (.aload_n 0, 1) := by decide +kernel
theorem dX4_readForDay_28 : decode cX4_readForDay 28 = .ok (.getfield 17, 3) := by decide +kernel
theorem dX4_readForDay_31 : decode cX4_readForDay 31 = .ok (.invokevirtual 431, 3) := by decide +kernel
end
section
theorem dX4_readForDay_34 : decode cX4_readForDay 34 = .ok (.iadd, 1) := by decide +kernel
theorem dX4_readForDay_35 : decode cX4_readForDay 35 = .ok (.istore_n 1, 1) := by decide +kernel
theorem dX4_readForDay_36 : decode cX4_readForDay 36 = .ok (.iinc 2 1, 3) := by decide +kernel
theorem dX4_readForDay_39 : decode cX4_readForDay 39 = .ok (.goto (-27), 3) := by decide +kernel
theorem dX4_readForDay_42 : decode cX4_readForDay 42 = .ok (.iload_n 1, 1) := by decide +kernel
theorem dX4_readForDay_43 : decode cX4_readForDay 43 = .ok (.ireturn, 1) := by decide +kernel
theorem dX4_areCratesRead_0 : decode cX4_areCratesRead 0 = .ok (.iconst 0, 1) := by decide +kernel
theorem dX4_areCratesRead_1 : decode cX4_areCratesRead 1 = .ok (.istore_n 1, 1) := by decide +kernel
theorem dX4_areCratesRead_2 : decode cX4_areCratesRead 2 = .ok (.iload_n 1, 1) := by decide +kernel
theorem dX4_areCratesRead_3 : decode cX4_areCratesRead 3 = .ok (.aload_n 0, 1) := by decide +kernel
theorem dX4_areCratesRead_4 : decode cX4_areCratesRead 4 = .ok (.getfield 102, 3) := by decide +kernel
theorem dX4_areCratesRead_7 : decode cX4_areCratesRead 7 = .ok (.if_icmp .ge 23, 3) := by decide +kernel
theorem dX4_areCratesRead_10 : decode cX4_areCratesRead 10 = .ok (.aload_n 0, 1) := by decide +kernel
theorem dX4_areCratesRead_11 : decode cX4_areCratesRead 11 = .ok (.getfield 23, 3) := by decide +kernel
theorem dX4_areCratesRead_14 : decode cX4_areCratesRead 14 = .ok (.iload_n 1, 1) := by decide +kernel
theorem dX4_areCratesRead_15 : decode cX4_areCratesRead 15 = .ok (.aaload, 1) := by decide +kernel
theorem dX4_areCratesRead_16 : decode cX4_areCratesRead 16 = .ok (.invokevirtual 333, 3) := by decide +kernel
theorem dX4_areCratesRead_19 : decode cX4_areCratesRead 19 = .ok (.ifCond .le 5, 3) := by decide +kernel
theorem dX4_areCratesRead_22 : decode cX4_areCratesRead 22 = .ok (.iconst 0, 1) := by decide +kernel
theorem dX4_areCratesRead_23 : decode cX4_areCratesRead 23 = .ok (.ireturn, 1) := by decide +kernel
theorem dX4_areCratesRead_24 : decode cX4_areCratesRead 24 = .ok (.iinc 1 1, 3) := by decide +kernel
theorem dX4_areCratesRead_27 : decode cX4_areCratesRead 27 = .ok (.goto (-25), 3) := by decide +kernel
theorem dX4_areCratesRead_30 : decode cX4_areCratesRead 30 = .ok (.iconst 1, 1) := by decide +kernel
theorem dX4_areCratesRead_31 : decode cX4_areCratesRead 31 = .ok (.ireturn, 1) := by decide +kernel
theorem dX4_askedInDay_0 : decode cX4_askedInDay 0 = .ok (.iload_n 1, 1) := by decide +kernel
theorem dX4_askedInDay_1 : decode cX4_askedInDay 1 = .ok (.aload_n 0, 1) := by decide +kernel
theorem dX4_askedInDay_2 : decode cX4_askedInDay 2 = .ok (.getfield 41, 3) := by decide +kernel
theorem dX4_askedInDay_5 : decode cX4_askedInDay 5 = .ok (.if_icmp .eq 11, 3) := by decide +kernel
theorem dX4_askedInDay_8 : decode cX4_askedInDay 8 = .ok (.iload_n 1, 1) := by decide +kernel
theorem dX4_askedInDay_9 : decode cX4_askedInDay 9 = .ok (.aload_n 0, 1) := by decide +kernel
theorem dX4_askedInDay_10 : decode cX4_askedInDay 10 = .ok (.getfield 44, 3) := by decide +kernel
theorem dX4_askedInDay_13 : decode cX4_askedInDay 13 = .ok (.if_icmp .ne 6, 3) := by decide +kernel
theorem dX4_askedInDay_16 : decode cX4_askedInDay 16 = .ok (.bipush 90, 2) := by decide +kernel
theorem dX4_askedInDay_18 : decode cX4_askedInDay 18 = .ok (.ireturn, 1) := by decide +kernel
theorem dX4_askedInDay_19 : decode cX4_askedInDay 19 = .ok (.aload_n 0, 1) := by decide +kernel
theorem dX4_askedInDay_20 : decode cX4_askedInDay 20 = .ok (.getfield 246, 3) := by decide +kernel
theorem dX4_askedInDay_23 : decode cX4_askedInDay 23 = .ok (.iload_n 1, 1) := by decide +kernel
theorem dX4_askedInDay_24 : decode cX4_askedInDay 24 = .ok (.invokestatic 223, 3) := by decide +kernel
theorem dX4_askedInDay_27 : decode cX4_askedInDay 27 = .ok (.ifCond .eq 6, 3) := by decide +kernel
theorem dX4_askedInDay_30 : decode cX4_askedInDay 30 = .ok (.bipush 20, 2) := by decide +kernel
theorem dX4_askedInDay_32 : decode cX4_askedInDay 32 = .ok (.ireturn, 1) := by decide +kernel
theorem dX4_askedInDay_33 : decode cX4_askedInDay 33 = .ok (.aload_n 0, 1) := by decide +kernel
theorem dX4_askedInDay_34 : decode cX4_askedInDay 34 = .ok (.getfield 220, 3) := by decide +kernel
theorem dX4_askedInDay_37 : decode cX4_askedInDay 37 = .ok (.iload_n 1, 1) := by decide +kernel
theorem dX4_askedInDay_38 : decode cX4_askedInDay 38 = .ok (.invokestatic 223, 3) := by decide +kernel
theorem dX4_askedInDay_41 : decode cX4_askedInDay 41 = .ok (.ifCond .eq 7, 3) := by decide +kernel
theorem dX4_askedInDay_44 : decode cX4_askedInDay 44 = .ok (.iconst 5, 1) := by decide +kernel
theorem dX4_askedInDay_45 : decode cX4_askedInDay 45 = .ok (.goto 4, 3) := by decide +kernel
theorem dX4_askedInDay_48 : decode cX4_askedInDay 48 = .ok (.iconst 1, 1) := by decide +kernel
theorem dX4_askedInDay_49 : decode cX4_askedInDay 49 = .ok (.ireturn, 1) := by decide +kernel
theorem dX4_sellFor_0 : decode cX4_sellFor 0 = .ok (.iconst 0, 1) := by decide +kernel
theorem dX4_sellFor_1 : decode cX4_sellFor 1 = .ok (.istore_n 2, 1) := by decide +kernel
theorem dX4_sellFor_2 : decode cX4_sellFor 2 = .ok (.iload_n 2, 1) := by decide +kernel
theorem dX4_sellFor_3 : decode cX4_sellFor 3 = .ok (.aload_n 0, 1) := by decide +kernel
theorem dX4_sellFor_4 : decode cX4_sellFor 4 = .ok (.getfield 85, 3) := by decide +kernel
theorem dX4_sellFor_7 : decode cX4_sellFor 7 = .ok (.if_icmp .ge 49, 3) := by decide +kernel
theorem dX4_sellFor_10 : decode cX4_sellFor 10 = .ok (.aload_n 0, 1) := by decide +kernel
theorem dX4_sellFor_11 : decode cX4_sellFor 11 = .ok (.getfield 17, 3) := by decide +kernel
theorem dX4_sellFor_14 : decode cX4_sellFor 14 = .ok (.iload_n 2, 1) := by decide +kernel
theorem dX4_sellFor_15 : decode cX4_sellFor 15 = .ok (.aaload, 1) := by decide +kernel
theorem dX4_sellFor_16 : decode cX4_sellFor 16 = .ok (.aload_n 0, 1) := by decide +kernel
theorem dX4_sellFor_17 : decode cX4_sellFor 17 = .ok (.iload_n 2, 1) := by decide +kernel
theorem dX4_sellFor_18 : decode cX4_sellFor 18 = .ok (.invokevirtual 372, 3) := by decide +kernel
theorem dX4_sellFor_21 : decode cX4_sellFor 21 = .ok (.iload_n 1, 1) := by decide +kernel
theorem dX4_sellFor_22 : decode cX4_sellFor 22 = .ok (.imul, 1) := by decide +kernel
theorem dX4_sellFor_23 : decode cX4_sellFor 23 = .ok (.invokevirtual 434, 3) := by decide +kernel
theorem dX4_sellFor_26 : decode cX4_sellFor 26 = .ok (.istore_n 3, 1) := by decide +kernel
theorem dX4_sellFor_27 : decode cX4_sellFor 27 = .ok (.aload_n 0, 1) := by decide +kernel
theorem dX4_sellFor_28 : decode cX4_sellFor 28 = .ok (.getfield 11, 3) := by decide +kernel
theorem dX4_sellFor_31 : decode cX4_sellFor 31 = .ok (.aload_n 0, 1) := by decide +kernel
theorem dX4_sellFor_32 : decode cX4_sellFor 32 = .ok (.getfield 17, 3) := by decide +kernel
theorem dX4_sellFor_35 : decode cX4_sellFor 35 = .ok (.iload_n 2, 1) := by decide +kernel
theorem dX4_sellFor_36 : decode cX4_sellFor 36 = .ok (.aaload, 1) := by decide +kernel
theorem dX4_sellFor_37 : decode cX4_sellFor 37 = .ok (.getfield 151, 3) := by decide +kernel
theorem dX4_sellFor_40 : decode cX4_sellFor 40 = .ok (.aaload, 1) := by decide +kernel
theorem dX4_sellFor_41 : decode cX4_sellFor 41 = .ok (.dup, 1) := by decide +kernel
theorem dX4_sellFor_42 : decode cX4_sellFor 42 = .ok (.getfield 293, 3) := by decide +kernel
theorem dX4_sellFor_45 : decode cX4_sellFor 45 = .ok (.iload_n 3, 1) := by decide +kernel
theorem dX4_sellFor_46 : decode cX4_sellFor 46 = .ok (.iadd, 1) := by decide +kernel
theorem dX4_sellFor_47 : decode cX4_sellFor 47 = .ok (.putfield 293, 3) := by decide +kernel
theorem dX4_sellFor_50 : decode cX4_sellFor 50 = .ok (.iinc 2 1, 3) := by decide +kernel
theorem dX4_sellFor_53 : decode cX4_sellFor 53 = .ok (.goto (-51), 3) := by decide +kernel
theorem dX4_sellFor_56 : decode cX4_sellFor 56 = .ok (.return_, 1) := by decide +kernel
theorem dX4_soldEver_0 : decode cX4_soldEver 0 = .ok (.iconst 0, 1) := by decide +kernel
theorem dX4_soldEver_1 : decode cX4_soldEver 1 = .ok (.istore_n 1, 1) := by decide +kernel
theorem dX4_soldEver_2 : decode cX4_soldEver 2 = .ok (.iconst 0, 1) := by decide +kernel
theorem dX4_soldEver_3 : decode cX4_soldEver 3 = .ok (.istore_n 2, 1) := by decide +kernel
theorem dX4_soldEver_4 : decode cX4_soldEver 4 = .ok (.iload_n 2, 1) := by decide +kernel
theorem dX4_soldEver_5 : decode cX4_soldEver 5 = .ok (.aload_n 0, 1) := by decide +kernel
theorem dX4_soldEver_6 : decode cX4_soldEver 6 = .ok (.getfield 85, 3) := by decide +kernel
theorem dX4_soldEver_9 : decode cX4_soldEver 9 = .ok (.if_icmp .ge 21, 3) := by decide +kernel
theorem dX4_soldEver_12 : decode cX4_soldEver 12 = .ok (.iload_n 1, 1) := by decide +kernel
theorem dX4_soldEver_13 : decode cX4_soldEver 13 = .ok (.aload_n 0, 1) := by decide +kernel
theorem dX4_soldEver_14 : decode cX4_soldEver 14 = .ok (.getfield 17, 3) := by decide +kernel
theorem dX4_soldEver_17 : decode cX4_soldEver 17 = .ok (.iload_n 2, 1) := by decide +kernel
theorem dX4_soldEver_18 : decode cX4_soldEver 18 = .ok (.aaload, 1) := by decide +kernel
theorem dX4_soldEver_19 : decode cX4_soldEver 19 = .ok (.getfield 307, 3) := by decide +kernel
theorem dX4_soldEver_22 : decode cX4_soldEver 22 = .ok (.iadd, 1) := by decide +kernel
theorem dX4_soldEver_23 : decode cX4_soldEver 23 = .ok (.istore_n 1, 1) := by decide +kernel
theorem dX4_soldEver_24 : decode cX4_soldEver 24 = .ok (.iinc 2 1, 3) := by decide +kernel
theorem dX4_soldEver_27 : decode cX4_soldEver 27 = .ok (.goto (-23), 3) := by decide +kernel
theorem dX4_soldEver_30 : decode cX4_soldEver 30 = .ok (.iload_n 1, 1) := by decide +kernel
theorem dX4_soldEver_31 : decode cX4_soldEver 31 = .ok (.ireturn, 1) := by decide +kernel
theorem dX4_missedEver_0 : decode cX4_missedEver 0 = .ok (.iconst 0, 1) := by decide +kernel
theorem dX4_missedEver_1 : decode cX4_missedEver 1 = .ok (.istore_n 1, 1) := by decide +kernel
theorem dX4_missedEver_2 : decode cX4_missedEver 2 = .ok (.iconst 0, 1) := by decide +kernel
theorem dX4_missedEver_3 : decode cX4_missedEver 3 = .ok (.istore_n 2, 1) := by decide +kernel
theorem dX4_missedEver_4 : decode cX4_missedEver 4 = .ok (.iload_n 2, 1) := by decide +kernel
theorem dX4_missedEver_5 : decode cX4_missedEver 5 = .ok (.aload_n 0, 1) := by decide +kernel
theorem dX4_missedEver_6 : decode cX4_missedEver 6 = .ok (.getfield 85, 3) := by decide +kernel
theorem dX4_missedEver_9 : decode cX4_missedEver 9 = .ok (.if_icmp .ge 21, 3) := by decide +kernel
theorem dX4_missedEver_12 : decode cX4_missedEver 12 = .ok (.iload_n 1, 1) := by decide +kernel
theorem dX4_missedEver_13 : decode cX4_missedEver 13 = .ok (.aload_n 0, 1) := by decide +kernel
theorem dX4_missedEver_14 : decode cX4_missedEver 14 = .ok (.getfield 17, 3) := by decide +kernel
theorem dX4_missedEver_17 : decode cX4_missedEver 17 = .ok (.iload_n 2, 1) := by decide +kernel
theorem dX4_missedEver_18 : decode cX4_missedEver 18 = .ok (.aaload, 1) := by decide +kernel
theorem dX4_missedEver_19 : decode cX4_missedEver 19 = .ok (.getfield 310, 3) := by decide +kernel
theorem dX4_missedEver_22 : decode cX4_missedEver 22 = .ok (.iadd, 1) := by decide +kernel
theorem dX4_missedEver_23 : decode cX4_missedEver 23 = .ok (.istore_n 1, 1) := by decide +kernel
theorem dX4_missedEver_24 : decode cX4_missedEver 24 = .ok (.iinc 2 1, 3) := by decide +kernel
theorem dX4_missedEver_27 : decode cX4_missedEver 27 = .ok (.goto (-23), 3) := by decide +kernel
theorem dX4_missedEver_30 : decode cX4_missedEver 30 = .ok (.iload_n 1, 1) := by decide +kernel
theorem dX4_missedEver_31 : decode cX4_missedEver 31 = .ok (.ireturn, 1) := by decide +kernel
theorem dX4_isFairMark_0 : decode cX4_isFairMark 0 = .ok (.aload_n 0, 1) := by decide +kernel
theorem dX4_isFairMark_1 : decode cX4_isFairMark 1 = .ok (.getfield 23, 3) := by decide +kernel
theorem dX4_isFairMark_4 : decode cX4_isFairMark 4 = .ok (.iload_n 1, 1) := by decide +kernel
theorem dX4_isFairMark_5 : decode cX4_isFairMark 5 = .ok (.aaload, 1) := by decide +kernel
theorem dX4_isFairMark_6 : decode cX4_isFairMark 6 = .ok (.getfield 347, 3) := by decide +kernel
theorem dX4_isFairMark_9 : decode cX4_isFairMark 9 = .ok (.iload_n 2, 1) := by decide +kernel
theorem dX4_isFairMark_10 : decode cX4_isFairMark 10 = .ok (.iaload, 1) := by decide +kernel
theorem dX4_isFairMark_11 : decode cX4_isFairMark 11 = .ok (.iconst (-1), 1) := by decide +kernel
theorem dX4_isFairMark_12 : decode cX4_isFairMark 12 = .ok (.if_icmp .eq 28, 3) := by decide +kernel
theorem dX4_isFairMark_15 : decode cX4_isFairMark 15 = .ok (.aload_n 0, 1) := by decide +kernel
theorem dX4_isFairMark_16 : decode cX4_isFairMark 16 = .ok (.getfield 23, 3) := by decide +kernel
theorem dX4_isFairMark_19 : decode cX4_isFairMark 19 = .ok (.iload_n 1, 1) := by decide +kernel
theorem dX4_isFairMark_20 : decode cX4_isFairMark 20 = .ok (.aaload, 1) := by decide +kernel
theorem dX4_isFairMark_21 : decode cX4_isFairMark 21 = .ok (.aload_n 0, 1) := by decide +kernel
theorem dX4_isFairMark_22 : decode cX4_isFairMark 22 = .ok (.getfield 17, 3) := by decide +kernel
theorem dX4_isFairMark_25 : decode cX4_isFairMark 25 = .ok (.iload_n 2, 1) := by decide +kernel
theorem dX4_isFairMark_26 : decode cX4_isFairMark 26 = .ok (.aaload, 1) := by decide +kernel
theorem dX4_isFairMark_27 : decode cX4_isFairMark 27 = .ok (.getfield 170, 3) := by decide +kernel
theorem dX4_isFairMark_30 : decode cX4_isFairMark 30 = .ok (.invokevirtual 173, 3) := by decide +kernel
theorem dX4_isFairMark_33 : decode cX4_isFairMark 33 = .ok (.ifCond .ne 7, 3) := by decide +kernel
theorem dX4_isFairMark_36 : decode cX4_isFairMark 36 = .ok (.iconst 1, 1) := by decide +kernel
theorem dX4_isFairMark_37 : decode cX4_isFairMark 37 = .ok (.goto 4, 3) := by decide +kernel
theorem dX4_isFairMark_40 : decode cX4_isFairMark 40 = .ok (.iconst 0, 1) := by decide +kernel
theorem dX4_isFairMark_41 : decode cX4_isFairMark 41 = .ok (.ireturn, 1) := by decide +kernel
theorem dX4_fairMarksOf_0 : decode cX4_fairMarksOf 0 = .ok (.iconst 0, 1) := by decide +kernel
theorem dX4_fairMarksOf_1 : decode cX4_fairMarksOf 1 = .ok (.istore_n 2, 1) := by decide +kernel
theorem dX4_fairMarksOf_2 : decode cX4_fairMarksOf 2 = .ok (.iconst 0, 1) := by decide +kernel
theorem dX4_fairMarksOf_3 : decode cX4_fairMarksOf 3 = .ok (.istore_n 3, 1) := by decide +kernel
theorem dX4_fairMarksOf_4 : decode cX4_fairMarksOf 4 = .ok (.iload_n 3, 1) := by decide +kernel
theorem dX4_fairMarksOf_5 : decode cX4_fairMarksOf 5 = .ok (.aload_n 0, 1) := by decide +kernel
theorem dX4_fairMarksOf_6 : decode cX4_fairMarksOf 6 = .ok (.getfield 102, 3) := by decide +kernel
theorem dX4_fairMarksOf_9 : decode cX4_fairMarksOf 9 = .ok (.if_icmp .ge 21, 3) := by decide +kernel
theorem dX4_fairMarksOf_12 : decode cX4_fairMarksOf 12 = .ok (.aload_n 0, 1) := by decide +kernel
theorem dX4_fairMarksOf_13 : decode cX4_fairMarksOf 13 = .ok (.iload_n 3, 1) := by decide +kernel
theorem dX4_fairMarksOf_14 : decode cX4_fairMarksOf 14 = .ok (.iload_n 1, 1) := by decide +kernel
theorem dX4_fairMarksOf_15 : decode cX4_fairMarksOf 15 = .ok (.invokevirtual 437, 3) := by decide +kernel
theorem dX4_fairMarksOf_18 : decode cX4_fairMarksOf 18 = .ok (.ifCond .eq 6, 3) := by decide +kernel
theorem dX4_fairMarksOf_21 : decode cX4_fairMarksOf 21 = .ok (.iinc 2 1, 3) := by decide +kernel
theorem dX4_fairMarksOf_24 : decode cX4_fairMarksOf 24 = .ok (.iinc 3 1, 3) := by decide +kernel
theorem dX4_fairMarksOf_27 : decode cX4_fairMarksOf 27 = .ok (.goto (-23), 3) := by decide +kernel
theorem dX4_fairMarksOf_30 : decode cX4_fairMarksOf 30 = .ok (.iload_n 2, 1) := by decide +kernel
theorem dX4_fairMarksOf_31 : decode cX4_fairMarksOf 31 = .ok (.ireturn, 1) := by decide +kernel
theorem dX4_scoreOf_0 : decode cX4_scoreOf 0 = .ok (.iconst 0, 1) := by decide +kernel
theorem dX4_scoreOf_1 : decode cX4_scoreOf 1 = .ok (.istore_n 2, 1) := by decide +kernel
theorem dX4_scoreOf_2 : decode cX4_scoreOf 2 = .ok (.iconst 0, 1) := by decide +kernel
theorem dX4_scoreOf_3 : decode cX4_scoreOf 3 = .ok (.istore_n 3, 1) := by decide +kernel
theorem dX4_scoreOf_4 : decode cX4_scoreOf 4 = .ok (.iconst 0, 1) := by decide +kernel
theorem dX4_scoreOf_5 : decode cX4_scoreOf 5 = .ok (.istore 4, 2) := by decide +kernel
theorem dX4_scoreOf_7 : decode cX4_scoreOf 7 = .ok (.iload 4, 2) := by decide +kernel
theorem dX4_scoreOf_9 : decode cX4_scoreOf 9 = .ok (.aload_n 0, 1) := by decide +kernel
theorem dX4_scoreOf_10 : decode cX4_scoreOf 10 = .ok (.getfield 102, 3) := by decide +kernel
theorem dX4_scoreOf_13 : decode cX4_scoreOf 13 = .ok (.if_icmp .ge 51, 3) := by decide +kernel
theorem dX4_scoreOf_16 : decode cX4_scoreOf 16 = .ok (.aload_n 0, 1) := by decide +kernel
theorem dX4_scoreOf_17 : decode cX4_scoreOf 17 = .ok (.iload 4, 2) := by decide +kernel
theorem dX4_scoreOf_19 : decode cX4_scoreOf 19 = .ok (.iload_n 1, 1) := by decide +kernel
theorem dX4_scoreOf_20 : decode cX4_scoreOf 20 = .ok (.invokevirtual 437, 3) := by decide +kernel
theorem dX4_scoreOf_23 : decode cX4_scoreOf 23 = .ok (.ifCond .eq 35, 3) := by decide +kernel
theorem dX4_scoreOf_26 : decode cX4_scoreOf 26 = .ok (.iload_n 2, 1) := by decide +kernel
theorem dX4_scoreOf_27 : decode cX4_scoreOf 27 = .ok (.bipush 10, 2) := by decide +kernel
theorem dX4_scoreOf_29 : decode cX4_scoreOf 29 = .ok (.aload_n 0, 1) := by decide +kernel
theorem dX4_scoreOf_30 : decode cX4_scoreOf 30 = .ok (.getfield 23, 3) := by decide +kernel
theorem dX4_scoreOf_33 : decode cX4_scoreOf 33 = .ok (.iload 4, 2) := by decide +kernel
theorem dX4_scoreOf_35 : decode cX4_scoreOf 35 = .ok (.aaload, 1) := by decide +kernel
theorem dX4_scoreOf_36 : decode cX4_scoreOf 36 = .ok (.getfield 347, 3) := by decide +kernel
theorem dX4_scoreOf_39 : decode cX4_scoreOf 39 = .ok (.iload_n 1, 1) := by decide +kernel
theorem dX4_scoreOf_40 : decode cX4_scoreOf 40 = .ok (.iaload, 1) := by decide +kernel
theorem dX4_scoreOf_41 : decode cX4_scoreOf 41 = .ok (.imul, 1) := by decide +kernel
theorem dX4_scoreOf_42 : decode cX4_scoreOf 42 = .ok (.aload_n 0, 1) := by decide +kernel
theorem dX4_scoreOf_43 : decode cX4_scoreOf 43 = .ok (.getfield 23, 3) := by decide +kernel
theorem dX4_scoreOf_46 : decode cX4_scoreOf 46 = .ok (.iload 4, 2) := by decide +kernel
theorem dX4_scoreOf_48 : decode cX4_scoreOf 48 = .ok (.aaload, 1) := by decide +kernel
theorem dX4_scoreOf_49 : decode cX4_scoreOf 49 = .ok (.invokevirtual 440, 3) := by decide +kernel
theorem dX4_scoreOf_52 : decode cX4_scoreOf 52 = .ok (.isub, 1) := by decide +kernel
theorem dX4_scoreOf_53 : decode cX4_scoreOf 53 = .ok (.iadd, 1) := by decide +kernel
theorem dX4_scoreOf_54 : decode cX4_scoreOf 54 = .ok (.istore_n 2, 1) := by decide +kernel
theorem dX4_scoreOf_55 : decode cX4_scoreOf 55 = .ok (.iinc 3 1, 3) := by decide +kernel
theorem dX4_scoreOf_58 : decode cX4_scoreOf 58 = .ok (.iinc 4 1, 3) := by decide +kernel
theorem dX4_scoreOf_61 : decode cX4_scoreOf 61 = .ok (.goto (-54), 3) := by decide +kernel
theorem dX4_scoreOf_64 : decode cX4_scoreOf 64 = .ok (.iload_n 3, 1) := by decide +kernel
theorem dX4_scoreOf_65 : decode cX4_scoreOf 65 = .ok (.ifCond .ne 7, 3) := by decide +kernel
theorem dX4_scoreOf_68 : decode cX4_scoreOf 68 = .ok (.iconst 0, 1) := by decide +kernel
theorem dX4_scoreOf_69 : decode cX4_scoreOf 69 = .ok (.goto 12, 3) := by decide +kernel
theorem dX4_scoreOf_72 : decode cX4_scoreOf 72 = .ok (.iload_n 2, 1) := by decide +kernel
theorem dX4_scoreOf_73 : decode cX4_scoreOf 73 = .ok (.iload_n 3, 1) := by decide +kernel
theorem dX4_scoreOf_74 : decode cX4_scoreOf 74 = .ok (.invokestatic 443, 3) := by decide +kernel
theorem dX4_scoreOf_77 : decode cX4_scoreOf 77 = .ok (.sipush 500, 3) := by decide +kernel
theorem dX4_scoreOf_80 : decode cX4_scoreOf 80 = .ok (.iadd, 1) := by decide +kernel
theorem dX4_scoreOf_81 : decode cX4_scoreOf 81 = .ok (.ireturn, 1) := by decide +kernel
theorem dX4_pointsOf_0 : decode cX4_pointsOf 0 = .ok (.iconst 0, 1) := by decide +kernel
theorem dX4_pointsOf_1 : decode cX4_pointsOf 1 = .ok (.istore_n 2, 1) := by decide +kernel
theorem dX4_pointsOf_2 : decode cX4_pointsOf 2 = .ok (.iconst 0, 1) := by decide +kernel
theorem dX4_pointsOf_3 : decode cX4_pointsOf 3 = .ok (.istore_n 3, 1) := by decide +kernel
theorem dX4_pointsOf_4 : decode cX4_pointsOf 4 = .ok (.iload_n 3, 1) := by decide +kernel
theorem dX4_pointsOf_5 : decode cX4_pointsOf 5 = .ok (.aload_n 0, 1) := by decide +kernel
theorem dX4_pointsOf_6 : decode cX4_pointsOf 6 = .ok (.getfield 102, 3) := by decide +kernel
theorem dX4_pointsOf_9 : decode cX4_pointsOf 9 = .ok (.if_icmp .ge 44, 3) := by decide +kernel
theorem dX4_pointsOf_12 : decode cX4_pointsOf 12 = .ok (.aload_n 0, 1) := by decide +kernel
theorem dX4_pointsOf_13 : decode cX4_pointsOf 13 = .ok (.getfield 23, 3) := by decide +kernel
theorem dX4_pointsOf_16 : decode cX4_pointsOf 16 = .ok (.iload_n 3, 1) := by decide +kernel
theorem dX4_pointsOf_17 : decode cX4_pointsOf 17 = .ok (.aaload, 1) := by decide +kernel
theorem dX4_pointsOf_18 : decode cX4_pointsOf 18 = .ok (.aload_n 0, 1) := by decide +kernel
theorem dX4_pointsOf_19 : decode cX4_pointsOf 19 = .ok (.getfield 17, 3) := by decide +kernel
theorem dX4_pointsOf_22 : decode cX4_pointsOf 22 = .ok (.iload_n 1, 1) := by decide +kernel
theorem dX4_pointsOf_23 : decode cX4_pointsOf 23 = .ok (.aaload, 1) := by decide +kernel
theorem dX4_pointsOf_24 : decode cX4_pointsOf 24 = .ok (.getfield 170, 3) := by decide +kernel
theorem dX4_pointsOf_27 : decode cX4_pointsOf 27 = .ok (.invokevirtual 173, 3) := by decide +kernel
theorem dX4_pointsOf_30 : decode cX4_pointsOf 30 = .ok (.ifCond .ne 17, 3) := by decide +kernel
theorem dX4_pointsOf_33 : decode cX4_pointsOf 33 = .ok (.iload_n 2, 1) := by decide +kernel
theorem dX4_pointsOf_34 : decode cX4_pointsOf 34 = .ok (.aload_n 0, 1) := by decide +kernel
theorem dX4_pointsOf_35 : decode cX4_pointsOf 35 = .ok (.getfield 23, 3) := by decide +kernel
theorem dX4_pointsOf_38 : decode cX4_pointsOf 38 = .ok (.iload_n 3, 1) := by decide +kernel
theorem dX4_pointsOf_39 : decode cX4_pointsOf 39 = .ok (.aaload, 1) := by decide +kernel
theorem dX4_pointsOf_40 : decode cX4_pointsOf 40 = .ok (.getfield 234, 3) := by decide +kernel
theorem dX4_pointsOf_43 : decode cX4_pointsOf 43 = .ok (.iload_n 1, 1) := by decide +kernel
theorem dX4_pointsOf_44 : decode cX4_pointsOf 44 = .ok (.iaload, 1) := by decide +kernel
theorem dX4_pointsOf_45 : decode cX4_pointsOf 45 = .ok (.iadd, 1) := by decide +kernel
theorem dX4_pointsOf_46 : decode cX4_pointsOf 46 = .ok (.istore_n 2, 1) := by decide +kernel
theorem dX4_pointsOf_47 : decode cX4_pointsOf 47 = .ok (.iinc 3 1, 3) := by decide +kernel
theorem dX4_pointsOf_50 : decode cX4_pointsOf 50 = .ok (.goto (-46), 3) := by decide +kernel
theorem dX4_pointsOf_53 : decode cX4_pointsOf 53 = .ok (.iload_n 2, 1) := by decide +kernel
theorem dX4_pointsOf_54 : decode cX4_pointsOf 54 = .ok (.ireturn, 1) := by decide +kernel
theorem dX4_giversTo_0 : decode cX4_giversTo 0 = .ok (.iconst 0, 1) := by decide +kernel
theorem dX4_giversTo_1 : decode cX4_giversTo 1 = .ok (.istore_n 2, 1) := by decide +kernel
theorem dX4_giversTo_2 : decode cX4_giversTo 2 = .ok (.iconst 0, 1) := by decide +kernel
theorem dX4_giversTo_3 : decode cX4_giversTo 3 = .ok (.istore_n 3, 1) := by decide +kernel
theorem dX4_giversTo_4 : decode cX4_giversTo 4 = .ok (.iload_n 3, 1) := by decide +kernel
theorem dX4_giversTo_5 : decode cX4_giversTo 5 = .ok (.aload_n 0, 1) := by decide +kernel
theorem dX4_giversTo_6 : decode cX4_giversTo 6 = .ok (.getfield 102, 3) := by decide +kernel
theorem dX4_giversTo_9 : decode cX4_giversTo 9 = .ok (.if_icmp .ge 47, 3) := by decide +kernel
theorem dX4_giversTo_12 : decode cX4_giversTo 12 = .ok (.aload_n 0, 1) := by decide +kernel
theorem dX4_giversTo_13 : decode cX4_giversTo 13 = .ok (.getfield 23, 3) := by decide +kernel
theorem dX4_giversTo_16 : decode cX4_giversTo 16 = .ok (.iload_n 3, 1) := by decide +kernel
theorem dX4_giversTo_17 : decode cX4_giversTo 17 = .ok (.aaload, 1) := by decide +kernel
theorem dX4_giversTo_18 : decode cX4_giversTo 18 = .ok (.getfield 234, 3) := by decide +kernel
theorem dX4_giversTo_21 : decode cX4_giversTo 21 = .ok (.iload_n 1, 1) := by decide +kernel
theorem dX4_giversTo_22 : decode cX4_giversTo 22 = .ok (.iaload, 1) := by decide +kernel
theorem dX4_giversTo_23 : decode cX4_giversTo 23 = .ok (.ifCond .le 27, 3) := by decide +kernel
theorem dX4_giversTo_26 : decode cX4_giversTo 26 = .ok (.aload_n 0, 1) := by decide +kernel
theorem dX4_giversTo_27 : decode cX4_giversTo 27 = .ok (.getfield 23, 3) := by decide +kernel
theorem dX4_giversTo_30 : decode cX4_giversTo 30 = .ok (.iload_n 3, 1) := by decide +kernel
theorem dX4_giversTo_31 : decode cX4_giversTo 31 = .ok (.aaload, 1) := by decide +kernel
theorem dX4_giversTo_32 : decode cX4_giversTo 32 = .ok (.aload_n 0, 1) := by decide +kernel
theorem dX4_giversTo_33 : decode cX4_giversTo 33 = .ok (.getfield 17, 3) := by decide +kernel
theorem dX4_giversTo_36 : decode cX4_giversTo 36 = .ok (.iload_n 1, 1) := by decide +kernel
theorem dX4_giversTo_37 : decode cX4_giversTo 37 = .ok (.aaload, 1) := by decide +kernel
theorem dX4_giversTo_38 : decode cX4_giversTo 38 = .ok (.getfield 170, 3) := by decide +kernel
theorem dX4_giversTo_41 : decode cX4_giversTo 41 = .ok (.invokevirtual 173, 3) := by decide +kernel
theorem dX4_giversTo_44 : decode cX4_giversTo 44 = .ok (.ifCond .ne 6, 3) := by decide +kernel
theorem dX4_giversTo_47 : decode cX4_giversTo 47 = .ok (.iinc 2 1, 3) := by decide +kernel
theorem dX4_giversTo_50 : decode cX4_giversTo 50 = .ok (.iinc 3 1, 3) := by decide +kernel
theorem dX4_giversTo_53 : decode cX4_giversTo 53 = .ok (.goto (-49), 3) := by decide +kernel
theorem dX4_giversTo_56 : decode cX4_giversTo 56 = .ok (.iload_n 2, 1) := by decide +kernel
theorem dX4_giversTo_57 : decode cX4_giversTo 57 = .ok (.ireturn, 1) := by decide +kernel
theorem dX4_standingOf_0 : decode cX4_standingOf 0 = .ok (.iload_n 1, 1) := by decide +kernel
theorem dX4_standingOf_1 : decode cX4_standingOf 1 = .ok (.aload_n 0, 1) := by decide +kernel
theorem dX4_standingOf_2 : decode cX4_standingOf 2 = .ok (.getfield 41, 3) := by decide +kernel
theorem dX4_standingOf_5 : decode cX4_standingOf 5 = .ok (.if_icmp .ne 5, 3) := by decide +kernel
theorem dX4_standingOf_8 : decode cX4_standingOf 8 = .ok (.iconst 3, 1) := by decide +kernel
theorem dX4_standingOf_9 : decode cX4_standingOf 9 = .ok (.ireturn, 1) := by decide +kernel
theorem dX4_standingOf_10 : decode cX4_standingOf 10 = .ok (.aload_n 0, 1) := by decide +kernel
theorem dX4_standingOf_11 : decode cX4_standingOf 11 = .ok (.getfield 246, 3) := by decide +kernel
theorem dX4_standingOf_14 : decode cX4_standingOf 14 = .ok (.iload_n 1, 1) := by decide +kernel
theorem dX4_standingOf_15 : decode cX4_standingOf 15 = .ok (.invokestatic 223, 3) := by decide +kernel
theorem dX4_standingOf_18 : decode cX4_standingOf 18 = .ok (.ifCond .eq 5, 3) := by decide +kernel
theorem dX4_standingOf_21 : decode cX4_standingOf 21 = .ok (.iconst 2, 1) := by decide +kernel
theorem dX4_standingOf_22 : decode cX4_standingOf 22 = .ok (.ireturn, 1) := by decide +kernel
theorem dX4_standingOf_23 : decode cX4_standingOf 23 = .ok (.aload_n 0, 1) := by decide +kernel
theorem dX4_standingOf_24 : decode cX4_standingOf 24 = .ok (.getfield 220, 3) := by decide +kernel
theorem dX4_standingOf_27 : decode cX4_standingOf 27 = .ok (.iload_n 1, 1) := by decide +kernel
theorem dX4_standingOf_28 : decode cX4_standingOf 28 = .ok (.invokestatic 223, 3) := by decide +kernel
theorem dX4_standingOf_31 : decode cX4_standingOf 31 = .ok (.ifCond .eq 7, 3) := by decide +kernel
theorem dX4_standingOf_34 : decode cX4_standingOf 34 = .ok (.iconst 1, 1) := by decide +kernel
theorem dX4_standingOf_35 : decode cX4_standingOf 35 = .ok (.goto 4, 3) := by decide +kernel
theorem dX4_standingOf_38 : decode cX4_standingOf 38 = .ok (.iconst 0, 1) := by decide +kernel
theorem dX4_standingOf_39 : decode cX4_standingOf 39 = .ok (.ireturn, 1) := by decide +kernel
theorem dX4_fairJudgesOf_0 : decode cX4_fairJudgesOf 0 = .ok (.iconst 0, 1) := by decide +kernel
theorem dX4_fairJudgesOf_1 : decode cX4_fairJudgesOf 1 = .ok (.istore_n 2, 1) := by decide +kernel
theorem dX4_fairJudgesOf_2 : decode cX4_fairJudgesOf 2 = .ok (.iconst 0, 1) := by decide +kernel
theorem dX4_fairJudgesOf_3 : decode cX4_fairJudgesOf 3 = .ok (.istore_n 3, 1) := by decide +kernel
theorem dX4_fairJudgesOf_4 : decode cX4_fairJudgesOf 4 = .ok (.iload_n 3, 1) := by decide +kernel
theorem dX4_fairJudgesOf_5 : decode cX4_fairJudgesOf 5 = .ok (.aload_n 0, 1) := by decide +kernel
theorem dX4_fairJudgesOf_6 : decode cX4_fairJudgesOf 6 = .ok (.getfield 102, 3) := by decide +kernel
theorem dX4_fairJudgesOf_9 : decode cX4_fairJudgesOf 9 = .ok (.if_icmp .ge 25, 3) := by decide +kernel
theorem dX4_fairJudgesOf_12 : decode cX4_fairJudgesOf 12 = .ok (.aload_n 0, 1) := by decide +kernel
theorem dX4_fairJudgesOf_13 : decode cX4_fairJudgesOf 13 = .ok (.getfield 23, 3) := by decide +kernel
theorem dX4_fairJudgesOf_16 : decode cX4_fairJudgesOf 16 = .ok (.iload_n 3, 1) := by decide +kernel
theorem dX4_fairJudgesOf_17 : decode cX4_fairJudgesOf 17 = .ok (.aaload, 1) := by decide +kernel
theorem dX4_fairJudgesOf_18 : decode cX4_fairJudgesOf 18 = .ok (.iload_n 1, 1) := by decide +kernel
theorem dX4_fairJudgesOf_19 : decode cX4_fairJudgesOf 19 = .ok (.invokevirtual 173, 3) := by decide +kernel
theorem dX4_fairJudgesOf_22 : decode cX4_fairJudgesOf 22 = .ok (.ifCond .ne 6, 3) := by decide +kernel
theorem dX4_fairJudgesOf_25 : decode cX4_fairJudgesOf 25 = .ok (.iinc 2 1, 3) := by decide +kernel
theorem dX4_fairJudgesOf_28 : decode cX4_fairJudgesOf 28 = .ok (.iinc 3 1, 3) := by decide +kernel
theorem dX4_fairJudgesOf_31 : decode cX4_fairJudgesOf 31 = .ok (.goto (-27), 3) := by decide +kernel
theorem dX4_fairJudgesOf_34 : decode cX4_fairJudgesOf 34 = .ok (.iload_n 2, 1) := by decide +kernel
theorem dX4_fairJudgesOf_35 : decode cX4_fairJudgesOf 35 = .ok (.ireturn, 1) := by decide +kernel
theorem dX4_hasMarksEnough_0 : decode cX4_hasMarksEnough 0 = .ok (.aload_n 0, 1) := by decide +kernel
theorem dX4_hasMarksEnough_1 : decode cX4_hasMarksEnough 1 = .ok (.iload_n 1, 1) := by decide +kernel
theorem dX4_hasMarksEnough_2 : decode cX4_hasMarksEnough 2 = .ok (.invokevirtual 319, 3) := by decide +kernel
theorem dX4_hasMarksEnough_5 : decode cX4_hasMarksEnough 5 = .ok (.istore_n 2, 1) := by decide +kernel
theorem dX4_hasMarksEnough_6 : decode cX4_hasMarksEnough 6 = .ok (.iload_n 2, 1) := by decide +kernel
theorem dX4_hasMarksEnough_7 : decode cX4_hasMarksEnough 7 = .ok (.iconst 2, 1) := by decide +kernel
theorem dX4_hasMarksEnough_8 : decode cX4_hasMarksEnough 8 = .ok (.if_icmp .ge 25, 3) := by decide +kernel
theorem dX4_hasMarksEnough_11 : decode cX4_hasMarksEnough 11 = .ok (.iload_n 2, 1) := by decide +kernel
theorem dX4_hasMarksEnough_12 : decode cX4_hasMarksEnough 12 = .ok (.iconst 1, 1) := by decide +kernel
theorem dX4_hasMarksEnough_13 : decode cX4_hasMarksEnough 13 = .ok (.if_icmp .ne 24, 3) := by decide +kernel
theorem dX4_hasMarksEnough_16 : decode cX4_hasMarksEnough 16 = .ok (.aload_n 0, 1) := by decide +kernel
theorem dX4_hasMarksEnough_17 : decode cX4_hasMarksEnough 17 = .ok (.aload_n 0, 1) := by decide +kernel
theorem dX4_hasMarksEnough_18 : decode cX4_hasMarksEnough 18 = .ok (.getfield 17, 3) := by decide +kernel
theorem dX4_hasMarksEnough_21 : decode cX4_hasMarksEnough 21 = .ok (.iload_n 1, 1) := by decide +kernel
theorem dX4_hasMarksEnough_22 : decode cX4_hasMarksEnough 22 = .ok (.aaload, 1) := by decide +kernel
theorem dX4_hasMarksEnough_23 : decode cX4_hasMarksEnough 23 = .ok (.getfield 170, 3) := by decide +kernel
theorem dX4_hasMarksEnough_26 : decode cX4_hasMarksEnough 26 = .ok (.invokevirtual 446, 3) := by decide +kernel
theorem dX4_hasMarksEnough_29 : decode cX4_hasMarksEnough 29 = .ok (.iconst 1, 1) := by decide +kernel
theorem dX4_hasMarksEnough_30 : decode cX4_hasMarksEnough 30 = .ok (.if_icmp .ne 7, 3) := by decide +kernel
theorem dX4_hasMarksEnough_33 : decode cX4_hasMarksEnough 33 = .ok (.iconst 1, 1) := by decide +kernel
theorem dX4_hasMarksEnough_34 : decode cX4_hasMarksEnough 34 = .ok (.goto 4, 3) := by decide +kernel
theorem dX4_hasMarksEnough_37 : decode cX4_hasMarksEnough 37 = .ok (.iconst 0, 1) := by decide +kernel
theorem dX4_hasMarksEnough_38 : decode cX4_hasMarksEnough 38 = .ok (.ireturn, 1) := by decide +kernel
theorem dX4_fillLongList_0 : decode cX4_fillLongList 0 = .ok (.aload_n 0, 1) := by decide +kernel
theorem dX4_fillLongList_1 : decode cX4_fillLongList 1 = .ok (.invokevirtual 449, 3) := by decide +kernel
theorem dX4_fillLongList_4 : decode cX4_fillLongList 4 = .ok (.istore_n 2, 1) := by decide +kernel
theorem dX4_fillLongList_5 : decode cX4_fillLongList 5 = .ok (.iconst 0, 1) := by decide +kernel
theorem dX4_fillLongList_6 : decode cX4_fillLongList 6 = .ok (.istore_n 3, 1) := by decide +kernel
theorem dX4_fillLongList_7 : decode cX4_fillLongList 7 = .ok (.iload_n 3, 1) := by decide +kernel
theorem dX4_fillLongList_8 : decode cX4_fillLongList 8 = .ok (.bipush 16, 2) := by decide +kernel
theorem dX4_fillLongList_10 : decode cX4_fillLongList 10 = .ok (.if_icmp .ge 80, 3) := by decide +kernel
theorem dX4_fillLongList_13 : decode cX4_fillLongList 13 = .ok (.aload_n 0, 1) := by decide +kernel
theorem dX4_fillLongList_14 : decode cX4_fillLongList 14 = .ok (.getfield 220, 3) := by decide +kernel
theorem dX4_fillLongList_17 : decode cX4_fillLongList 17 = .ok (.invokestatic 124, 3) := by decide +kernel
theorem dX4_fillLongList_20 : decode cX4_fillLongList 20 = .ok (.iload_n 1, 1) := by decide +kernel
theorem dX4_fillLongList_21 : decode cX4_fillLongList 21 = .ok (.if_icmp .ge 69, 3) := by decide +kernel
theorem dX4_fillLongList_24 : decode cX4_fillLongList 24 = .ok (.aload_n 0, 1) := by decide +kernel
theorem dX4_fillLongList_25 : decode cX4_fillLongList 25 = .ok (.iload_n 2, 1) := by decide +kernel
theorem dX4_fillLongList_26 : decode cX4_fillLongList 26 = .ok (.invokevirtual 452, 3) := by decide +kernel
theorem dX4_fillLongList_29 : decode cX4_fillLongList 29 = .ok (.istore 4, 2) := by decide +kernel
theorem dX4_fillLongList_31 : decode cX4_fillLongList 31 = .ok (.iload 4, 2) := by decide +kernel
theorem dX4_fillLongList_33 : decode cX4_fillLongList 33 = .ok (.iconst (-1), 1) := by decide +kernel
theorem dX4_fillLongList_34 : decode cX4_fillLongList 34 = .ok (.if_icmp .ne 4, 3) := by decide +kernel
theorem dX4_fillLongList_37 : decode cX4_fillLongList 37 = .ok (.return_, 1) := by decide +kernel
theorem dX4_fillLongList_38 : decode cX4_fillLongList 38 = .ok (.iload_n 2, 1) := by decide +kernel
theorem dX4_fillLongList_39 : decode cX4_fillLongList 39 = .ok (.iload 4, 2) := by decide +kernel
theorem dX4_fillLongList_41 : decode cX4_fillLongList 41 = .ok (.invokestatic 120, 3) := by decide +kernel
theorem dX4_fillLongList_44 : decode cX4_fillLongList 44 = .ok (.iconst (-1), 1) := by decide +kernel
theorem dX4_fillLongList_45 : decode cX4_fillLongList 45 = .ok (.ixor, 1) := by decide +kernel
theorem dX4_fillLongList_46 : decode cX4_fillLongList 46 = .ok (.iand, 1) := by decide +kernel
theorem dX4_fillLongList_47 : decode cX4_fillLongList 47 = .ok (.istore_n 2, 1) := by decide +kernel
theorem dX4_fillLongList_48 : decode cX4_fillLongList 48 = .ok (.aload_n 0, 1) := by decide +kernel
theorem dX4_fillLongList_49 : decode cX4_fillLongList 49 = .ok (.aload_n 0, 1) := by decide +kernel
theorem dX4_fillLongList_50 : decode cX4_fillLongList 50 = .ok (.getfield 17, 3) := by decide +kernel
theorem dX4_fillLongList_53 : decode cX4_fillLongList 53 = .ok (.iload 4, 2) := by decide +kernel
theorem dX4_fillLongList_55 : decode cX4_fillLongList 55 = .ok (.aaload, 1) := by decide +kernel
theorem dX4_fillLongList_56 : decode cX4_fillLongList 56 = .ok (.getfield 151, 3) := by decide +kernel
theorem dX4_fillLongList_59 : decode cX4_fillLongList 59 = .ok (.aload_n 0, 1) := by decide +kernel
theorem dX4_fillLongList_60 : decode cX4_fillLongList 60 = .ok (.getfield 220, 3) := by decide +kernel
theorem dX4_fillLongList_63 : decode cX4_fillLongList 63 = .ok (.invokevirtual 299, 3) := by decide +kernel
theorem dX4_fillLongList_66 : decode cX4_fillLongList 66 = .ok (.iconst 2, 1) := by decide +kernel
theorem dX4_fillLongList_67 : decode cX4_fillLongList 67 = .ok (.if_icmp .ge 17, 3) := by decide +kernel
theorem dX4_fillLongList_70 : decode cX4_fillLongList 70 = .ok (.aload_n 0, 1) := by decide +kernel
theorem dX4_fillLongList_71 : decode cX4_fillLongList 71 = .ok (.dup, 1) := by decide +kernel
theorem dX4_fillLongList_72 : decode cX4_fillLongList 72 = .ok (.getfield 220, 3) := by decide +kernel
theorem dX4_fillLongList_75 : decode cX4_fillLongList 75 = .ok (.iload 4, 2) := by decide +kernel
theorem dX4_fillLongList_77 : decode cX4_fillLongList 77 = .ok (.invokestatic 120, 3) := by decide +kernel
theorem dX4_fillLongList_80 : decode cX4_fillLongList 80 = .ok (.ior, 1) := by decide +kernel
theorem dX4_fillLongList_81 : decode cX4_fillLongList 81 = .ok (.putfield 220, 3) := by decide +kernel
theorem dX4_fillLongList_84 : decode cX4_fillLongList 84 = .ok (.iinc 3 1, 3) := by decide +kernel
theorem dX4_fillLongList_87 : decode cX4_fillLongList 87 = .ok (.goto (-80), 3) := by decide +kernel
theorem dX4_fillLongList_90 : decode cX4_fillLongList 90 = .ok (.return_, 1) := by decide +kernel
theorem dX4_longListable_0 : decode cX4_longListable 0 = .ok (.iconst 0, 1) := by decide +kernel
theorem dX4_longListable_1 : decode cX4_longListable 1 = .ok (.istore_n 1, 1) := by decide +kernel
theorem dX4_longListable_2 : decode cX4_longListable 2 = .ok (.iconst 0, 1) := by decide +kernel
theorem dX4_longListable_3 : decode cX4_longListable 3 = .ok (.istore_n 2, 1) := by decide +kernel
theorem dX4_longListable_4 : decode cX4_longListable 4 = .ok (.iload_n 2, 1) := by decide +kernel
theorem dX4_longListable_5 : decode cX4_longListable 5 = .ok (.aload_n 0, 1) := by decide +kernel
theorem dX4_longListable_6 : decode cX4_longListable 6 = .ok (.getfield 85, 3) := by decide +kernel
theorem dX4_longListable_9 : decode cX4_longListable 9 = .ok (.if_icmp .ge 32, 3) := by decide +kernel
theorem dX4_longListable_12 : decode cX4_longListable 12 = .ok (.aload_n 0, 1) := by decide +kernel
theorem dX4_longListable_13 : decode cX4_longListable 13 = .ok (.iload_n 2, 1) := by decide +kernel
theorem dX4_longListable_14 : decode cX4_longListable 14 = .ok (.invokevirtual 143, 3) := by decide +kernel
theorem dX4_longListable_17 : decode cX4_longListable 17 = .ok (.ifCond .eq 18, 3) := by decide +kernel
theorem dX4_longListable_20 : decode cX4_longListable 20 = .ok (.aload_n 0, 1) := by decide +kernel
theorem dX4_longListable_21 : decode cX4_longListable 21 = .ok (.iload_n 2, 1) := by decide +kernel
theorem dX4_longListable_22 : decode cX4_longListable 22 = .ok (.invokevirtual 455, 3) := by decide +kernel
theorem dX4_longListable_25 : decode cX4_longListable 25 = .ok (.ifCond .eq 10, 3) := by decide +kernel
theorem dX4_longListable_28 : decode cX4_longListable 28 = .ok (.iload_n 1, 1) := by decide +kernel
theorem dX4_longListable_29 : decode cX4_longListable 29 = .ok (.iload_n 2, 1) := by decide +kernel
theorem dX4_longListable_30 : decode cX4_longListable 30 = .ok (.invokestatic 120, 3) := by decide +kernel
theorem dX4_longListable_33 : decode cX4_longListable 33 = .ok (.ior, 1) := by decide +kernel
theorem dX4_longListable_34 : decode cX4_longListable 34 = .ok (.istore_n 1, 1) := by decide +kernel
theorem dX4_longListable_35 : decode cX4_longListable 35 = .ok (.iinc 2 1, 3) := by decide +kernel
theorem dX4_longListable_38 : decode cX4_longListable 38 = .ok (.goto (-34), 3) := by decide +kernel
theorem dX4_longListable_41 : decode cX4_longListable 41 = .ok (.iload_n 1, 1) := by decide +kernel
theorem dX4_longListable_42 : decode cX4_longListable 42 = .ok (.ireturn, 1) := by decide +kernel
theorem dX4_fillShortList_0 : decode cX4_fillShortList 0 = .ok (.iconst 0, 1) := by decide +kernel
theorem dX4_fillShortList_1 : decode cX4_fillShortList 1 = .ok (.istore_n 2, 1) := by decide +kernel
theorem dX4_fillShortList_2 : decode cX4_fillShortList 2 = .ok (.iload_n 2, 1) := by decide +kernel
theorem dX4_fillShortList_3 : decode cX4_fillShortList 3 = .ok (.iload_n 1, 1) := by decide +kernel
theorem dX4_fillShortList_4 : decode cX4_fillShortList 4 = .ok (.if_icmp .ge 44, 3) := by decide +kernel
theorem dX4_fillShortList_7 : decode cX4_fillShortList 7 = .ok (.aload_n 0, 1) := by decide +kernel
theorem dX4_fillShortList_8 : decode cX4_fillShortList 8 = .ok (.aload_n 0, 1) := by decide +kernel
theorem dX4_fillShortList_9 : decode cX4_fillShortList 9 = .ok (.getfield 220, 3) := by decide +kernel
theorem dX4_fillShortList_12 : decode cX4_fillShortList 12 = .ok (.aload_n 0, 1) := by decide +kernel
theorem dX4_fillShortList_13 : decode cX4_fillShortList 13 = .ok (.getfield 246, 3) := by decide +kernel
theorem dX4_fillShortList_16 : decode cX4_fillShortList 16 = .ok (.iconst (-1), 1) := by decide +kernel
theorem dX4_fillShortList_17 : decode cX4_fillShortList 17 = .ok (.ixor, 1) := by decide +kernel
theorem dX4_fillShortList_18 : decode cX4_fillShortList 18 = .ok (.iand, 1) := by decide +kernel
theorem dX4_fillShortList_19 : decode cX4_fillShortList 19 = .ok (.invokevirtual 452, 3) := by decide +kernel
theorem dX4_fillShortList_22 : decode cX4_fillShortList 22 = .ok (.istore_n 3, 1) := by decide +kernel
end
section
theorem dX4_fillShortList_23 : decode cX4_fillShortList 23 = .ok (.iload_n 3, 1) := by decide +kernel
theorem dX4_fillShortList_24 : decode cX4_fillShortList 24 = .ok (.iconst (-1), 1) := by decide +kernel
theorem dX4_fillShortList_25 : decode cX4_fillShortList 25 = .ok (.if_icmp .ne 4, 3) := by decide +kernel
theorem dX4_fillShortList_28 : decode cX4_fillShortList 28 = .ok (.return_, 1) := by decide +kernel
theorem dX4_fillShortList_29 : decode cX4_fillShortList 29 = .ok (.aload_n 0, 1) := by decide +kernel
theorem dX4_fillShortList_30 : decode cX4_fillShortList 30 = .ok (.dup, 1) := by decide +kernel
theorem dX4_fillShortList_31 : decode cX4_fillShortList 31 = .ok (.getfield 246, 3) := by decide +kernel
theorem dX4_fillShortList_34 : decode cX4_fillShortList 34 = .ok (.iload_n 3, 1) := by decide +kernel
theorem dX4_fillShortList_35 : decode cX4_fillShortList 35 = .ok (.invokestatic 120, 3) := by decide +kernel
theorem dX4_fillShortList_38 : decode cX4_fillShortList 38 = .ok (.ior, 1) := by decide +kernel
theorem dX4_fillShortList_39 : decode cX4_fillShortList 39 = .ok (.putfield 246, 3) := by decide +kernel
theorem dX4_fillShortList_42 : decode cX4_fillShortList 42 = .ok (.iinc 2 1, 3) := by decide +kernel
theorem dX4_fillShortList_45 : decode cX4_fillShortList 45 = .ok (.goto (-43), 3) := by decide +kernel
theorem dX4_fillShortList_48 : decode cX4_fillShortList 48 = .ok (.return_, 1) := by decide +kernel
theorem dX4_bestOf_0 : decode cX4_bestOf 0 = .ok (.iconst (-1), 1) := by decide +kernel
theorem dX4_bestOf_1 : decode cX4_bestOf 1 = .ok (.istore_n 2, 1) := by decide +kernel
theorem dX4_bestOf_2 : decode cX4_bestOf 2 = .ok (.iconst 0, 1) := by decide +kernel
theorem dX4_bestOf_3 : decode cX4_bestOf 3 = .ok (.istore_n 3, 1) := by decide +kernel
theorem dX4_bestOf_4 : decode cX4_bestOf 4 = .ok (.iload_n 3, 1) := by decide +kernel
theorem dX4_bestOf_5 : decode cX4_bestOf 5 = .ok (.aload_n 0, 1) := by decide +kernel
theorem dX4_bestOf_6 : decode cX4_bestOf 6 = .ok (.getfield 85, 3) := by decide +kernel
theorem dX4_bestOf_9 : decode cX4_bestOf 9 = .ok (.if_icmp .ge 33, 3) := by decide +kernel
theorem dX4_bestOf_12 : decode cX4_bestOf 12 = .ok (.iload_n 1, 1) := by decide +kernel
theorem dX4_bestOf_13 : decode cX4_bestOf 13 = .ok (.iload_n 3, 1) := by decide +kernel
theorem dX4_bestOf_14 : decode cX4_bestOf 14 = .ok (.invokestatic 223, 3) := by decide +kernel
theorem dX4_bestOf_17 : decode cX4_bestOf 17 = .ok (.ifCond .eq 19, 3) := by decide +kernel
theorem dX4_bestOf_20 : decode cX4_bestOf 20 = .ok (.iload_n 2, 1) := by decide +kernel
theorem dX4_bestOf_21 : decode cX4_bestOf 21 = .ok (.iconst (-1), 1) := by decide +kernel
theorem dX4_bestOf_22 : decode cX4_bestOf 22 = .ok (.if_icmp .eq 12, 3) := by decide +kernel
theorem dX4_bestOf_25 : decode cX4_bestOf 25 = .ok (.aload_n 0, 1) := by decide +kernel
theorem dX4_bestOf_26 : decode cX4_bestOf 26 = .ok (.iload_n 3, 1) := by decide +kernel
theorem dX4_bestOf_27 : decode cX4_bestOf 27 = .ok (.iload_n 2, 1) := by decide +kernel
theorem dX4_bestOf_28 : decode cX4_bestOf 28 = .ok (.invokevirtual 458, 3) := by decide +kernel
theorem dX4_bestOf_31 : decode cX4_bestOf 31 = .ok (.ifCond .eq 5, 3) := by decide +kernel
theorem dX4_bestOf_34 : decode cX4_bestOf 34 = .ok (.iload_n 3, 1) := by decide +kernel
theorem dX4_bestOf_35 : decode cX4_bestOf 35 = .ok (.istore_n 2, 1) := by decide +kernel
theorem dX4_bestOf_36 : decode cX4_bestOf 36 = .ok (.iinc 3 1, 3) := by decide +kernel
theorem dX4_bestOf_39 : decode cX4_bestOf 39 = .ok (.goto (-35), 3) := by decide +kernel
theorem dX4_bestOf_42 : decode cX4_bestOf 42 = .ok (.iload_n 2, 1) := by decide +kernel
theorem dX4_bestOf_43 : decode cX4_bestOf 43 = .ok (.ireturn, 1) := by decide +kernel
theorem dX4_isBetter_0 : decode cX4_isBetter 0 = .ok (.aload_n 0, 1) := by decide +kernel
theorem dX4_isBetter_1 : decode cX4_isBetter 1 = .ok (.iload_n 1, 1) := by decide +kernel
theorem dX4_isBetter_2 : decode cX4_isBetter 2 = .ok (.invokevirtual 322, 3) := by decide +kernel
theorem dX4_isBetter_5 : decode cX4_isBetter 5 = .ok (.aload_n 0, 1) := by decide +kernel
theorem dX4_isBetter_6 : decode cX4_isBetter 6 = .ok (.iload_n 2, 1) := by decide +kernel
theorem dX4_isBetter_7 : decode cX4_isBetter 7 = .ok (.invokevirtual 322, 3) := by decide +kernel
theorem dX4_isBetter_10 : decode cX4_isBetter 10 = .ok (.invokestatic 461, 3) := by decide +kernel
theorem dX4_isBetter_13 : decode cX4_isBetter 13 = .ok (.istore_n 3, 1) := by decide +kernel
theorem dX4_isBetter_14 : decode cX4_isBetter 14 = .ok (.iload_n 3, 1) := by decide +kernel
theorem dX4_isBetter_15 : decode cX4_isBetter 15 = .ok (.ifCond .eq 13, 3) := by decide +kernel
theorem dX4_isBetter_18 : decode cX4_isBetter 18 = .ok (.iload_n 3, 1) := by decide +kernel
theorem dX4_isBetter_19 : decode cX4_isBetter 19 = .ok (.ifCond .le 7, 3) := by decide +kernel
theorem dX4_isBetter_22 : decode cX4_isBetter 22 = .ok (.iconst 1, 1) := by decide +kernel
theorem dX4_isBetter_23 : decode cX4_isBetter 23 = .ok (.goto 4, 3) := by decide +kernel
theorem dX4_isBetter_26 : decode cX4_isBetter 26 = .ok (.iconst 0, 1) := by decide +kernel
theorem dX4_isBetter_27 : decode cX4_isBetter 27 = .ok (.ireturn, 1) := by decide +kernel
theorem dX4_isBetter_28 : decode cX4_isBetter 28 = .ok (.aload_n 0, 1) := by decide +kernel
theorem dX4_isBetter_29 : decode cX4_isBetter 29 = .ok (.iload_n 1, 1) := by decide +kernel
theorem dX4_isBetter_30 : decode cX4_isBetter 30 = .ok (.invokevirtual 464, 3) := by decide +kernel
theorem dX4_isBetter_33 : decode cX4_isBetter 33 = .ok (.aload_n 0, 1) := by decide +kernel
theorem dX4_isBetter_34 : decode cX4_isBetter 34 = .ok (.iload_n 2, 1) := by decide +kernel
theorem dX4_isBetter_35 : decode cX4_isBetter 35 = .ok (.invokevirtual 464, 3) := by decide +kernel
theorem dX4_isBetter_38 : decode cX4_isBetter 38 = .ok (.invokestatic 461, 3) := by decide +kernel
theorem dX4_isBetter_41 : decode cX4_isBetter 41 = .ok (.istore 4, 2) := by decide +kernel
theorem dX4_isBetter_43 : decode cX4_isBetter 43 = .ok (.iload 4, 2) := by decide +kernel
theorem dX4_isBetter_45 : decode cX4_isBetter 45 = .ok (.ifCond .eq 14, 3) := by decide +kernel
theorem dX4_isBetter_48 : decode cX4_isBetter 48 = .ok (.iload 4, 2) := by decide +kernel
theorem dX4_isBetter_50 : decode cX4_isBetter 50 = .ok (.ifCond .le 7, 3) := by decide +kernel
theorem dX4_isBetter_53 : decode cX4_isBetter 53 = .ok (.iconst 1, 1) := by decide +kernel
theorem dX4_isBetter_54 : decode cX4_isBetter 54 = .ok (.goto 4, 3) := by decide +kernel
theorem dX4_isBetter_57 : decode cX4_isBetter 57 = .ok (.iconst 0, 1) := by decide +kernel
theorem dX4_isBetter_58 : decode cX4_isBetter 58 = .ok (.ireturn, 1) := by decide +kernel
theorem dX4_isBetter_59 : decode cX4_isBetter 59 = .ok (.aload_n 0, 1) := by decide +kernel
theorem dX4_isBetter_60 : decode cX4_isBetter 60 = .ok (.iload_n 1, 1) := by decide +kernel
theorem dX4_isBetter_61 : decode cX4_isBetter 61 = .ok (.invokevirtual 316, 3) := by decide +kernel
theorem dX4_isBetter_64 : decode cX4_isBetter 64 = .ok (.aload_n 0, 1) := by decide +kernel
theorem dX4_isBetter_65 : decode cX4_isBetter 65 = .ok (.iload_n 2, 1) := by decide +kernel
theorem dX4_isBetter_66 : decode cX4_isBetter 66 = .ok (.invokevirtual 316, 3) := by decide +kernel
theorem dX4_isBetter_69 : decode cX4_isBetter 69 = .ok (.if_icmp .le 7, 3) := by decide +kernel
theorem dX4_isBetter_72 : decode cX4_isBetter 72 = .ok (.iconst 1, 1) := by decide +kernel
theorem dX4_isBetter_73 : decode cX4_isBetter 73 = .ok (.goto 4, 3) := by decide +kernel
theorem dX4_isBetter_76 : decode cX4_isBetter 76 = .ok (.iconst 0, 1) := by decide +kernel
theorem dX4_isBetter_77 : decode cX4_isBetter 77 = .ok (.ireturn, 1) := by decide +kernel
theorem dX4_isOrder_0 : decode cX4_isOrder 0 = .ok (.aload_n 0, 1) := by decide +kernel
theorem dX4_isOrder_1 : decode cX4_isOrder 1 = .ok (.getfield 246, 3) := by decide +kernel
theorem dX4_isOrder_4 : decode cX4_isOrder 4 = .ok (.invokestatic 124, 3) := by decide +kernel
theorem dX4_isOrder_7 : decode cX4_isOrder 7 = .ok (.istore_n 2, 1) := by decide +kernel
theorem dX4_isOrder_8 : decode cX4_isOrder 8 = .ok (.iconst 0, 1) := by decide +kernel
theorem dX4_isOrder_9 : decode cX4_isOrder 9 = .ok (.istore_n 3, 1) := by decide +kernel
theorem dX4_isOrder_10 : decode cX4_isOrder 10 = .ok (.iload_n 1, 1) := by decide +kernel
theorem dX4_isOrder_11 : decode cX4_isOrder 11 = .ok (.istore 4, 2) := by decide +kernel
theorem dX4_isOrder_13 : decode cX4_isOrder 13 = .ok (.iconst 0, 1) := by decide +kernel
theorem dX4_isOrder_14 : decode cX4_isOrder 14 = .ok (.istore 5, 2) := by decide +kernel
theorem dX4_isOrder_16 : decode cX4_isOrder 16 = .ok (.iload 5, 2) := by decide +kernel
theorem dX4_isOrder_18 : decode cX4_isOrder 18 = .ok (.iload_n 2, 1) := by decide +kernel
theorem dX4_isOrder_19 : decode cX4_isOrder 19 = .ok (.if_icmp .ge 52, 3) := by decide +kernel
theorem dX4_isOrder_22 : decode cX4_isOrder 22 = .ok (.iload 4, 2) := by decide +kernel
theorem dX4_isOrder_24 : decode cX4_isOrder 24 = .ok (.bipush 10, 2) := by decide +kernel
theorem dX4_isOrder_26 : decode cX4_isOrder 26 = .ok (.irem, 1) := by decide +kernel
theorem dX4_isOrder_27 : decode cX4_isOrder 27 = .ok (.istore 6, 2) := by decide +kernel
theorem dX4_isOrder_29 : decode cX4_isOrder 29 = .ok (.iload 6, 2) := by decide +kernel
theorem dX4_isOrder_31 : decode cX4_isOrder 31 = .ok (.iconst 1, 1) := by decide +kernel
theorem dX4_isOrder_32 : decode cX4_isOrder 32 = .ok (.iload_n 2, 1) := by decide +kernel
theorem dX4_isOrder_33 : decode cX4_isOrder 33 = .ok (.invokestatic 76, 3) := by decide +kernel
theorem dX4_isOrder_36 : decode cX4_isOrder 36 = .ok (.ifCond .eq 12, 3) := by decide +kernel
theorem dX4_isOrder_39 : decode cX4_isOrder 39 = .ok (.iload_n 3, 1) := by decide +kernel
theorem dX4_isOrder_40 : decode cX4_isOrder 40 = .ok (.iload 6, 2) := by decide +kernel
theorem dX4_isOrder_42 : decode cX4_isOrder 42 = .ok (.invokestatic 223, 3) := by decide +kernel
theorem dX4_isOrder_45 : decode cX4_isOrder 45 = .ok (.ifCond .eq 5, 3) := by decide +kernel
theorem dX4_isOrder_48 : decode cX4_isOrder 48 = .ok (.iconst 0, 1) := by decide +kernel
theorem dX4_isOrder_49 : decode cX4_isOrder 49 = .ok (.ireturn, 1) := by decide +kernel
theorem dX4_isOrder_50 : decode cX4_isOrder 50 = .ok (.iload_n 3, 1) := by decide +kernel
theorem dX4_isOrder_51 : decode cX4_isOrder 51 = .ok (.iload 6, 2) := by decide +kernel
theorem dX4_isOrder_53 : decode cX4_isOrder 53 = .ok (.invokestatic 120, 3) := by decide +kernel
theorem dX4_isOrder_56 : decode cX4_isOrder 56 = .ok (.ior, 1) := by decide +kernel
theorem dX4_isOrder_57 : decode cX4_isOrder 57 = .ok (.istore_n 3, 1) := by decide +kernel
theorem dX4_isOrder_58 : decode cX4_isOrder 58 = .ok (.iload 4, 2) := by decide +kernel
theorem dX4_isOrder_60 : decode cX4_isOrder 60 = .ok (.bipush 10, 2) := by decide +kernel
theorem dX4_isOrder_62 : decode cX4_isOrder 62 = .ok (.idiv, 1) := by decide +kernel
theorem dX4_isOrder_63 : decode cX4_isOrder 63 = .ok (.istore 4, 2) := by decide +kernel
theorem dX4_isOrder_65 : decode cX4_isOrder 65 = .ok (.iinc 5 1, 3) := by decide +kernel
theorem dX4_isOrder_68 : decode cX4_isOrder 68 = .ok (.goto (-52), 3) := by decide +kernel
theorem dX4_isOrder_71 : decode cX4_isOrder 71 = .ok (.iload_n 2, 1) := by decide +kernel
theorem dX4_isOrder_72 : decode cX4_isOrder 72 = .ok (.ifCond .le 12, 3) := by decide +kernel
theorem dX4_isOrder_75 : decode cX4_isOrder 75 = .ok (.iload 4, 2) := by decide +kernel
theorem dX4_isOrder_77 : decode cX4_isOrder 77 = .ok (.ifCond .ne 7, 3) := by decide +kernel
theorem dX4_isOrder_80 : decode cX4_isOrder 80 = .ok (.iconst 1, 1) := by decide +kernel
theorem dX4_isOrder_81 : decode cX4_isOrder 81 = .ok (.goto 4, 3) := by decide +kernel
theorem dX4_isOrder_84 : decode cX4_isOrder 84 = .ok (.iconst 0, 1) := by decide +kernel
theorem dX4_isOrder_85 : decode cX4_isOrder 85 = .ok (.ireturn, 1) := by decide +kernel
theorem dX4_takeOrder_0 : decode cX4_takeOrder 0 = .ok (.iconst 5, 1) := by decide +kernel
theorem dX4_takeOrder_1 : decode cX4_takeOrder 1 = .ok (.aload_n 0, 1) := by decide +kernel
theorem dX4_takeOrder_2 : decode cX4_takeOrder 2 = .ok (.getfield 246, 3) := by decide +kernel
theorem dX4_takeOrder_5 : decode cX4_takeOrder 5 = .ok (.invokestatic 124, 3) := by decide +kernel
theorem dX4_takeOrder_8 : decode cX4_takeOrder 8 = .ok (.invokestatic 190, 3) := by decide +kernel
theorem dX4_takeOrder_11 : decode cX4_takeOrder 11 = .ok (.istore_n 3, 1) := by decide +kernel
theorem dX4_takeOrder_12 : decode cX4_takeOrder 12 = .ok (.iload_n 2, 1) := by decide +kernel
theorem dX4_takeOrder_13 : decode cX4_takeOrder 13 = .ok (.istore 4, 2) := by decide +kernel
theorem dX4_takeOrder_15 : decode cX4_takeOrder 15 = .ok (.iload_n 3, 1) := by decide +kernel
theorem dX4_takeOrder_16 : decode cX4_takeOrder 16 = .ok (.iconst 1, 1) := by decide +kernel
theorem dX4_takeOrder_17 : decode cX4_takeOrder 17 = .ok (.isub, 1) := by decide +kernel
theorem dX4_takeOrder_18 : decode cX4_takeOrder 18 = .ok (.istore 5, 2) := by decide +kernel
theorem dX4_takeOrder_20 : decode cX4_takeOrder 20 = .ok (.iload 5, 2) := by decide +kernel
theorem dX4_takeOrder_22 : decode cX4_takeOrder 22 = .ok (.ifCond .lt 32, 3) := by decide +kernel
theorem dX4_takeOrder_25 : decode cX4_takeOrder 25 = .ok (.aload_n 1, 1) := by decide +kernel
theorem dX4_takeOrder_26 : decode cX4_takeOrder 26 = .ok (.getfield 467, 3) := by decide +kernel
theorem dX4_takeOrder_29 : decode cX4_takeOrder 29 = .ok (.iload 5, 2) := by decide +kernel
theorem dX4_takeOrder_31 : decode cX4_takeOrder 31 = .ok (.aload_n 0, 1) := by decide +kernel
theorem dX4_takeOrder_32 : decode cX4_takeOrder 32 = .ok (.iload 4, 2) := by decide +kernel
theorem dX4_takeOrder_34 : decode cX4_takeOrder 34 = .ok (.bipush 10, 2) := by decide +kernel
theorem dX4_takeOrder_36 : decode cX4_takeOrder 36 = .ok (.irem, 1) := by decide +kernel
theorem dX4_takeOrder_37 : decode cX4_takeOrder 37 = .ok (.invokevirtual 470, 3) := by decide +kernel
theorem dX4_takeOrder_40 : decode cX4_takeOrder 40 = .ok (.iastore, 1) := by decide +kernel
theorem dX4_takeOrder_41 : decode cX4_takeOrder 41 = .ok (.iload 4, 2) := by decide +kernel
theorem dX4_takeOrder_43 : decode cX4_takeOrder 43 = .ok (.bipush 10, 2) := by decide +kernel
theorem dX4_takeOrder_45 : decode cX4_takeOrder 45 = .ok (.idiv, 1) := by decide +kernel
theorem dX4_takeOrder_46 : decode cX4_takeOrder 46 = .ok (.istore 4, 2) := by decide +kernel
theorem dX4_takeOrder_48 : decode cX4_takeOrder 48 = .ok (.iinc 5 (-1), 3) := by decide +kernel
theorem dX4_takeOrder_51 : decode cX4_takeOrder 51 = .ok (.goto (-31), 3) := by decide +kernel
theorem dX4_takeOrder_54 : decode cX4_takeOrder 54 = .ok (.aload_n 1, 1) := by decide +kernel
theorem dX4_takeOrder_55 : decode cX4_takeOrder 55 = .ok (.iload_n 3, 1) := by decide +kernel
theorem dX4_takeOrder_56 : decode cX4_takeOrder 56 = .ok (.putfield 473, 3) := by decide +kernel
theorem dX4_takeOrder_59 : decode cX4_takeOrder 59 = .ok (.return_, 1) := by decide +kernel
theorem dX4_bookAtPlace_0 : decode cX4_bookAtPlace 0 = .ok (.iconst 0, 1) := by decide +kernel
theorem dX4_bookAtPlace_1 : decode cX4_bookAtPlace 1 = .ok (.istore_n 2, 1) := by decide +kernel
theorem dX4_bookAtPlace_2 : decode cX4_bookAtPlace 2 = .ok (.iconst 0, 1) := by decide +kernel
theorem dX4_bookAtPlace_3 : decode cX4_bookAtPlace 3 = .ok (.istore_n 3, 1) := by decide +kernel
theorem dX4_bookAtPlace_4 : decode cX4_bookAtPlace 4 = .ok (.iload_n 3, 1) := by decide +kernel
theorem dX4_bookAtPlace_5 : decode cX4_bookAtPlace 5 = .ok (.aload_n 0, 1) := by decide +kernel
theorem dX4_bookAtPlace_6 : decode cX4_bookAtPlace 6 = .ok (.getfield 85, 3) := by decide +kernel
theorem dX4_bookAtPlace_9 : decode cX4_bookAtPlace 9 = .ok (.if_icmp .ge 30, 3) := by decide +kernel
theorem dX4_bookAtPlace_12 : decode cX4_bookAtPlace 12 = .ok (.aload_n 0, 1) := by decide +kernel
theorem dX4_bookAtPlace_13 : decode cX4_bookAtPlace 13 = .ok (.getfield 246, 3) := by decide +kernel
theorem dX4_bookAtPlace_16 : decode cX4_bookAtPlace 16 = .ok (.iload_n 3, 1) := by decide +kernel
theorem dX4_bookAtPlace_17 : decode cX4_bookAtPlace 17 = .ok (.invokestatic 223, 3) := by decide +kernel
theorem dX4_bookAtPlace_20 : decode cX4_bookAtPlace 20 = .ok (.ifCond .eq 13, 3) := by decide +kernel
theorem dX4_bookAtPlace_23 : decode cX4_bookAtPlace 23 = .ok (.iinc 2 1, 3) := by decide +kernel
theorem dX4_bookAtPlace_26 : decode cX4_bookAtPlace 26 = .ok (.iload_n 2, 1) := by decide +kernel
theorem dX4_bookAtPlace_27 : decode cX4_bookAtPlace 27 = .ok (.iload_n 1, 1) := by decide +kernel
theorem dX4_bookAtPlace_28 : decode cX4_bookAtPlace 28 = .ok (.if_icmp .ne 5, 3) := by decide +kernel
theorem dX4_bookAtPlace_31 : decode cX4_bookAtPlace 31 = .ok (.iload_n 3, 1) := by decide +kernel
theorem dX4_bookAtPlace_32 : decode cX4_bookAtPlace 32 = .ok (.ireturn, 1) := by decide +kernel
theorem dX4_bookAtPlace_33 : decode cX4_bookAtPlace 33 = .ok (.iinc 3 1, 3) := by decide +kernel
theorem dX4_bookAtPlace_36 : decode cX4_bookAtPlace 36 = .ok (.goto (-32), 3) := by decide +kernel
theorem dX4_bookAtPlace_39 : decode cX4_bookAtPlace 39 = .ok (.iconst (-1), 1) := by decide +kernel
theorem dX4_bookAtPlace_40 : decode cX4_bookAtPlace 40 = .ok (.ireturn, 1) := by decide +kernel
theorem dX4_orderCount_0 : decode cX4_orderCount 0 = .ok (.iconst 0, 1) := by decide +kernel
theorem dX4_orderCount_1 : decode cX4_orderCount 1 = .ok (.istore_n 1, 1) := by decide +kernel
theorem dX4_orderCount_2 : decode cX4_orderCount 2 = .ok (.iconst 0, 1) := by decide +kernel
theorem dX4_orderCount_3 : decode cX4_orderCount 3 = .ok (.istore_n 2, 1) := by decide +kernel
theorem dX4_orderCount_4 : decode cX4_orderCount 4 = .ok (.iload_n 2, 1) := by decide +kernel
theorem dX4_orderCount_5 : decode cX4_orderCount 5 = .ok (.aload_n 0, 1) := by decide +kernel
theorem dX4_orderCount_6 : decode cX4_orderCount 6 = .ok (.getfield 102, 3) := by decide +kernel
theorem dX4_orderCount_9 : decode cX4_orderCount 9 = .ok (.if_icmp .ge 24, 3) := by decide +kernel
theorem dX4_orderCount_12 : decode cX4_orderCount 12 = .ok (.aload_n 0, 1) := by decide +kernel
theorem dX4_orderCount_13 : decode cX4_orderCount 13 = .ok (.getfield 23, 3) := by decide +kernel
theorem dX4_orderCount_16 : decode cX4_orderCount 16 = .ok (.iload_n 2, 1) := by decide +kernel
theorem dX4_orderCount_17 : decode cX4_orderCount 17 = .ok (.aaload, 1) := by decide +kernel
theorem dX4_orderCount_18 : decode cX4_orderCount 18 = .ok (.invokevirtual 342, 3) := by decide +kernel
theorem dX4_orderCount_21 : decode cX4_orderCount 21 = .ok (.ifCond .eq 6, 3) := by decide +kernel
theorem dX4_orderCount_24 : decode cX4_orderCount 24 = .ok (.iinc 1 1, 3) := by decide +kernel
theorem dX4_orderCount_27 : decode cX4_orderCount 27 = .ok (.iinc 2 1, 3) := by decide +kernel
theorem dX4_orderCount_30 : decode cX4_orderCount 30 = .ok (.goto (-26), 3) := by decide +kernel
theorem dX4_orderCount_33 : decode cX4_orderCount 33 = .ok (.iload_n 1, 1) := by decide +kernel
theorem dX4_orderCount_34 : decode cX4_orderCount 34 = .ok (.ireturn, 1) := by decide +kernel
theorem dX4_openTo_0 : decode cX4_openTo 0 = .ok (.iconst 0, 1) := by decide +kernel
theorem dX4_openTo_1 : decode cX4_openTo 1 = .ok (.istore_n 2, 1) := by decide +kernel
theorem dX4_openTo_2 : decode cX4_openTo 2 = .ok (.iconst 0, 1) := by decide +kernel
theorem dX4_openTo_3 : decode cX4_openTo 3 = .ok (.istore_n 3, 1) := by decide +kernel
theorem dX4_openTo_4 : decode cX4_openTo 4 = .ok (.iload_n 3, 1) := by decide +kernel
theorem dX4_openTo_5 : decode cX4_openTo 5 = .ok (.aload_n 0, 1) := by decide +kernel
theorem dX4_openTo_6 : decode cX4_openTo 6 = .ok (.getfield 85, 3) := by decide +kernel
theorem dX4_openTo_9 : decode cX4_openTo 9 = .ok (.if_icmp .ge 32, 3) := by decide +kernel
theorem dX4_openTo_12 : decode cX4_openTo 12 = .ok (.aload_n 1, 1) := by decide +kernel
theorem dX4_openTo_13 : decode cX4_openTo 13 = .ok (.aload_n 0, 1) := by decide +kernel
theorem dX4_openTo_14 : decode cX4_openTo 14 = .ok (.getfield 17, 3) := by decide +kernel
theorem dX4_openTo_17 : decode cX4_openTo 17 = .ok (.iload_n 3, 1) := by decide +kernel
theorem dX4_openTo_18 : decode cX4_openTo 18 = .ok (.aaload, 1) := by decide +kernel
theorem dX4_openTo_19 : decode cX4_openTo 19 = .ok (.getfield 170, 3) := by decide +kernel
theorem dX4_openTo_22 : decode cX4_openTo 22 = .ok (.invokevirtual 173, 3) := by decide +kernel
theorem dX4_openTo_25 : decode cX4_openTo 25 = .ok (.ifCond .ne 10, 3) := by decide +kernel
theorem dX4_openTo_28 : decode cX4_openTo 28 = .ok (.iload_n 2, 1) := by decide +kernel
theorem dX4_openTo_29 : decode cX4_openTo 29 = .ok (.iload_n 3, 1) := by decide +kernel
theorem dX4_openTo_30 : decode cX4_openTo 30 = .ok (.invokestatic 120, 3) := by decide +kernel
theorem dX4_openTo_33 : decode cX4_openTo 33 = .ok (.ior, 1) := by decide +kernel
theorem dX4_openTo_34 : decode cX4_openTo 34 = .ok (.istore_n 2, 1) := by decide +kernel
theorem dX4_openTo_35 : decode cX4_openTo 35 = .ok (.iinc 3 1, 3) := by decide +kernel
theorem dX4_openTo_38 : decode cX4_openTo 38 = .ok (.goto (-34), 3) := by decide +kernel
theorem dX4_openTo_41 : decode cX4_openTo 41 = .ok (.iload_n 2, 1) := by decide +kernel
theorem dX4_openTo_42 : decode cX4_openTo 42 = .ok (.ireturn, 1) := by decide +kernel
theorem dX4_crown_0 : decode cX4_crown 0 = .ok (.aload_n 0, 1) := by decide +kernel
theorem dX4_crown_1 : decode cX4_crown 1 = .ok (.iload_n 1, 1) := by decide +kernel
theorem dX4_crown_2 : decode cX4_crown 2 = .ok (.putfield 41, 3) := by decide +kernel
theorem dX4_crown_5 : decode cX4_crown 5 = .ok (.iload_n 1, 1) := by decide +kernel
theorem dX4_crown_6 : decode cX4_crown 6 = .ok (.iconst (-1), 1) := by decide +kernel
theorem dX4_crown_7 : decode cX4_crown 7 = .ok (.if_icmp .eq 16, 3) := by decide +kernel
theorem dX4_crown_10 : decode cX4_crown 10 = .ok (.aload_n 0, 1) := by decide +kernel
theorem dX4_crown_11 : decode cX4_crown 11 = .ok (.dup, 1) := by decide +kernel
theorem dX4_crown_12 : decode cX4_crown 12 = .ok (.getfield 302, 3) := by decide +kernel
theorem dX4_crown_15 : decode cX4_crown 15 = .ok (.iload_n 1, 1) := by decide +kernel
theorem dX4_crown_16 : decode cX4_crown 16 = .ok (.invokestatic 120, 3) := by decide +kernel
theorem dX4_crown_19 : decode cX4_crown 19 = .ok (.ior, 1) := by decide +kernel
theorem dX4_crown_20 : decode cX4_crown 20 = .ok (.putfield 302, 3) := by decide +kernel
theorem dX4_crown_23 : decode cX4_crown 23 = .ok (.return_, 1) := by decide +kernel
theorem dX4_winnerWithout_0 : decode cX4_winnerWithout 0 = .ok (.aload_n 0, 1) := by decide +kernel
theorem dX4_winnerWithout_1 : decode cX4_winnerWithout 1 = .ok (.getfield 246, 3) := by decide +kernel
theorem dX4_winnerWithout_4 : decode cX4_winnerWithout 4 = .ok (.aload_n 0, 1) := by decide +kernel
theorem dX4_winnerWithout_5 : decode cX4_winnerWithout 5 = .ok (.getfield 273, 3) := by decide +kernel
theorem dX4_winnerWithout_8 : decode cX4_winnerWithout 8 = .ok (.iconst (-1), 1) := by decide +kernel
theorem dX4_winnerWithout_9 : decode cX4_winnerWithout 9 = .ok (.ixor, 1) := by decide +kernel
theorem dX4_winnerWithout_10 : decode cX4_winnerWithout 10 = .ok (.iand, 1) := by decide +kernel
theorem dX4_winnerWithout_11 : decode cX4_winnerWithout 11 = .ok (.iload_n 1, 1) := by decide +kernel
theorem dX4_winnerWithout_12 : decode cX4_winnerWithout 12 = .ok (.iconst (-1), 1) := by decide +kernel
theorem dX4_winnerWithout_13 : decode cX4_winnerWithout 13 = .ok (.ixor, 1) := by decide +kernel
theorem dX4_winnerWithout_14 : decode cX4_winnerWithout 14 = .ok (.iand, 1) := by decide +kernel
theorem dX4_winnerWithout_15 : decode cX4_winnerWithout 15 = .ok (.istore_n 3, 1) := by decide +kernel
theorem dX4_winnerWithout_16 : decode cX4_winnerWithout 16 = .ok (.iconst (-1), 1) := by decide +kernel
theorem dX4_winnerWithout_17 : decode cX4_winnerWithout 17 = .ok (.istore 4, 2) := by decide +kernel
theorem dX4_winnerWithout_19 : decode cX4_winnerWithout 19 = .ok (.iconst 0, 1) := by decide +kernel
theorem dX4_winnerWithout_20 : decode cX4_winnerWithout 20 = .ok (.istore 5, 2) := by decide +kernel
theorem dX4_winnerWithout_22 : decode cX4_winnerWithout 22 = .ok (.iload 5, 2) := by decide +kernel
theorem dX4_winnerWithout_24 : decode cX4_winnerWithout 24 = .ok (.bipush 16, 2) := by decide +kernel
theorem dX4_winnerWithout_26 : decode cX4_winnerWithout 26 = .ok (.if_icmp .ge 56, 3) := by decide +kernel
theorem dX4_winnerWithout_29 : decode cX4_winnerWithout 29 = .ok (.iload_n 3, 1) := by decide +kernel
theorem dX4_winnerWithout_30 : decode cX4_winnerWithout 30 = .ok (.ifCond .eq 52, 3) := by decide +kernel
theorem dX4_winnerWithout_33 : decode cX4_winnerWithout 33 = .ok (.aload_n 0, 1) := by decide +kernel
theorem dX4_winnerWithout_34 : decode cX4_winnerWithout 34 = .ok (.iload_n 3, 1) := by decide +kernel
theorem dX4_winnerWithout_35 : decode cX4_winnerWithout 35 = .ok (.iload_n 2, 1) := by decide +kernel
theorem dX4_winnerWithout_36 : decode cX4_winnerWithout 36 = .ok (.invokevirtual 476, 3) := by decide +kernel
theorem dX4_winnerWithout_39 : decode cX4_winnerWithout 39 = .ok (.istore 6, 2) := by decide +kernel
theorem dX4_winnerWithout_41 : decode cX4_winnerWithout 41 = .ok (.aload_n 0, 1) := by decide +kernel
theorem dX4_winnerWithout_42 : decode cX4_winnerWithout 42 = .ok (.iload_n 3, 1) := by decide +kernel
theorem dX4_winnerWithout_43 : decode cX4_winnerWithout 43 = .ok (.iload 6, 2) := by decide +kernel
theorem dX4_winnerWithout_45 : decode cX4_winnerWithout 45 = .ok (.invokevirtual 479, 3) := by decide +kernel
theorem dX4_winnerWithout_48 : decode cX4_winnerWithout 48 = .ok (.istore 7, 2) := by decide +kernel
theorem dX4_winnerWithout_50 : decode cX4_winnerWithout 50 = .ok (.iload 7, 2) := by decide +kernel
theorem dX4_winnerWithout_52 : decode cX4_winnerWithout 52 = .ok (.iconst (-1), 1) := by decide +kernel
theorem dX4_winnerWithout_53 : decode cX4_winnerWithout 53 = .ok (.if_icmp .eq 6, 3) := by decide +kernel
theorem dX4_winnerWithout_56 : decode cX4_winnerWithout 56 = .ok (.iload 7, 2) := by decide +kernel
theorem dX4_winnerWithout_58 : decode cX4_winnerWithout 58 = .ok (.ireturn, 1) := by decide +kernel
theorem dX4_winnerWithout_59 : decode cX4_winnerWithout 59 = .ok (.aload_n 0, 1) := by decide +kernel
theorem dX4_winnerWithout_60 : decode cX4_winnerWithout 60 = .ok (.iload_n 3, 1) := by decide +kernel
theorem dX4_winnerWithout_61 : decode cX4_winnerWithout 61 = .ok (.invokevirtual 482, 3) := by decide +kernel
theorem dX4_winnerWithout_64 : decode cX4_winnerWithout 64 = .ok (.istore 4, 2) := by decide +kernel
theorem dX4_winnerWithout_66 : decode cX4_winnerWithout 66 = .ok (.iload_n 3, 1) := by decide +kernel
theorem dX4_winnerWithout_67 : decode cX4_winnerWithout 67 = .ok (.iload 4, 2) := by decide +kernel
theorem dX4_winnerWithout_69 : decode cX4_winnerWithout 69 = .ok (.invokestatic 120, 3) := by decide +kernel
theorem dX4_winnerWithout_72 : decode cX4_winnerWithout 72 = .ok (.iconst (-1), 1) := by decide +kernel
theorem dX4_winnerWithout_73 : decode cX4_winnerWithout 73 = .ok (.ixor, 1) := by decide +kernel
theorem dX4_winnerWithout_74 : decode cX4_winnerWithout 74 = .ok (.iand, 1) := by decide +kernel
theorem dX4_winnerWithout_75 : decode cX4_winnerWithout 75 = .ok (.istore_n 3, 1) := by decide +kernel
theorem dX4_winnerWithout_76 : decode cX4_winnerWithout 76 = .ok (.iinc 5 1, 3) := by decide +kernel
theorem dX4_winnerWithout_79 : decode cX4_winnerWithout 79 = .ok (.goto (-57), 3) := by decide +kernel
theorem dX4_winnerWithout_82 : decode cX4_winnerWithout 82 = .ok (.iload 4, 2) := by decide +kernel
theorem dX4_winnerWithout_84 : decode cX4_winnerWithout 84 = .ok (.ireturn, 1) := by decide +kernel
theorem dX4_countVotes_0 : decode cX4_countVotes 0 = .ok (.iconst 0, 1) := by decide +kernel
theorem dX4_countVotes_1 : decode cX4_countVotes 1 = .ok (.istore_n 3, 1) := by decide +kernel
theorem dX4_countVotes_2 : decode cX4_countVotes 2 = .ok (.iload_n 3, 1) := by decide +kernel
theorem dX4_countVotes_3 : decode cX4_countVotes 3 = .ok (.bipush 16, 2) := by decide +kernel
theorem dX4_countVotes_5 : decode cX4_countVotes 5 = .ok (.if_icmp .ge 16, 3) := by decide +kernel
theorem dX4_countVotes_8 : decode cX4_countVotes 8 = .ok (.aload_n 0, 1) := by decide +kernel
theorem dX4_countVotes_9 : decode cX4_countVotes 9 = .ok (.getfield 47, 3) := by decide +kernel
theorem dX4_countVotes_12 : decode cX4_countVotes 12 = .ok (.iload_n 3, 1) := by decide +kernel
theorem dX4_countVotes_13 : decode cX4_countVotes 13 = .ok (.iconst 0, 1) := by decide +kernel
theorem dX4_countVotes_14 : decode cX4_countVotes 14 = .ok (.iastore, 1) := by decide +kernel
theorem dX4_countVotes_15 : decode cX4_countVotes 15 = .ok (.iinc 3 1, 3) := by decide +kernel
theorem dX4_countVotes_18 : decode cX4_countVotes 18 = .ok (.goto (-16), 3) := by decide +kernel
theorem dX4_countVotes_21 : decode cX4_countVotes 21 = .ok (.iconst 0, 1) := by decide +kernel
theorem dX4_countVotes_22 : decode cX4_countVotes 22 = .ok (.istore_n 3, 1) := by decide +kernel
theorem dX4_countVotes_23 : decode cX4_countVotes 23 = .ok (.iconst 0, 1) := by decide +kernel
theorem dX4_countVotes_24 : decode cX4_countVotes 24 = .ok (.istore 4, 2) := by decide +kernel
theorem dX4_countVotes_26 : decode cX4_countVotes 26 = .ok (.iload 4, 2) := by decide +kernel
theorem dX4_countVotes_28 : decode cX4_countVotes 28 = .ok (.aload_n 0, 1) := by decide +kernel
theorem dX4_countVotes_29 : decode cX4_countVotes 29 = .ok (.getfield 102, 3) := by decide +kernel
theorem dX4_countVotes_32 : decode cX4_countVotes 32 = .ok (.if_icmp .ge 67, 3) := by decide +kernel
theorem dX4_countVotes_35 : decode cX4_countVotes 35 = .ok (.iload_n 2, 1) := by decide +kernel
theorem dX4_countVotes_36 : decode cX4_countVotes 36 = .ok (.iload 4, 2) := by decide +kernel
theorem dX4_countVotes_38 : decode cX4_countVotes 38 = .ok (.invokestatic 223, 3) := by decide +kernel
theorem dX4_countVotes_41 : decode cX4_countVotes 41 = .ok (.ifCond .eq 7, 3) := by decide +kernel
theorem dX4_countVotes_44 : decode cX4_countVotes 44 = .ok (.iconst (-1), 1) := by decide +kernel
theorem dX4_countVotes_45 : decode cX4_countVotes 45 = .ok (.goto 26, 3) := by decide +kernel
theorem dX4_countVotes_48 : decode cX4_countVotes 48 = .ok (.aload_n 0, 1) := by decide +kernel
theorem dX4_countVotes_49 : decode cX4_countVotes 49 = .ok (.getfield 23, 3) := by decide +kernel
theorem dX4_countVotes_52 : decode cX4_countVotes 52 = .ok (.iload 4, 2) := by decide +kernel
theorem dX4_countVotes_54 : decode cX4_countVotes 54 = .ok (.aaload, 1) := by decide +kernel
theorem dX4_countVotes_55 : decode cX4_countVotes 55 = .ok (.iload_n 1, 1) := by decide +kernel
theorem dX4_countVotes_56 : decode cX4_countVotes 56 = .ok (.aload_n 0, 1) := by decide +kernel
theorem dX4_countVotes_57 : decode cX4_countVotes 57 = .ok (.aload_n 0, 1) := by decide +kernel
theorem dX4_countVotes_58 : decode cX4_countVotes 58 = .ok (.getfield 23, 3) := by decide +kernel
theorem dX4_countVotes_61 : decode cX4_countVotes 61 = .ok (.iload 4, 2) := by decide +kernel
theorem dX4_countVotes_63 : decode cX4_countVotes 63 = .ok (.aaload, 1) := by decide +kernel
theorem dX4_countVotes_64 : decode cX4_countVotes 64 = .ok (.invokevirtual 485, 3) := by decide +kernel
theorem dX4_countVotes_67 : decode cX4_countVotes 67 = .ok (.iand, 1) := by decide +kernel
theorem dX4_countVotes_68 : decode cX4_countVotes 68 = .ok (.invokevirtual 489, 3) := by decide +kernel
theorem dX4_countVotes_71 : decode cX4_countVotes 71 = .ok (.istore 5, 2) := by decide +kernel
theorem dX4_countVotes_73 : decode cX4_countVotes 73 = .ok (.iload 5, 2) := by decide +kernel
theorem dX4_countVotes_75 : decode cX4_countVotes 75 = .ok (.iconst (-1), 1) := by decide +kernel
theorem dX4_countVotes_76 : decode cX4_countVotes 76 = .ok (.if_icmp .eq 17, 3) := by decide +kernel
theorem dX4_countVotes_79 : decode cX4_countVotes 79 = .ok (.aload_n 0, 1) := by decide +kernel
theorem dX4_countVotes_80 : decode cX4_countVotes 80 = .ok (.getfield 47, 3) := by decide +kernel
theorem dX4_countVotes_83 : decode cX4_countVotes 83 = .ok (.iload 5, 2) := by decide +kernel
theorem dX4_countVotes_85 : decode cX4_countVotes 85 = .ok (.dup2, 1) := by decide +kernel
theorem dX4_countVotes_86 : decode cX4_countVotes 86 = .ok (.iaload, 1) := by decide +kernel
theorem dX4_countVotes_87 : decode cX4_countVotes 87 = .ok (.iconst 1, 1) := by decide +kernel
theorem dX4_countVotes_88 : decode cX4_countVotes 88 = .ok (.iadd, 1) := by decide +kernel
theorem dX4_countVotes_89 : decode cX4_countVotes 89 = .ok (.iastore, 1) := by decide +kernel
theorem dX4_countVotes_90 : decode cX4_countVotes 90 = .ok (.iinc 3 1, 3) := by decide +kernel
theorem dX4_countVotes_93 : decode cX4_countVotes 93 = .ok (.iinc 4 1, 3) := by decide +kernel
theorem dX4_countVotes_96 : decode cX4_countVotes 96 = .ok (.goto (-70), 3) := by decide +kernel
theorem dX4_countVotes_99 : decode cX4_countVotes 99 = .ok (.iload_n 3, 1) := by decide +kernel
theorem dX4_countVotes_100 : decode cX4_countVotes 100 = .ok (.ireturn, 1) := by decide +kernel
theorem dX4_aboveHalf_0 : decode cX4_aboveHalf 0 = .ok (.iconst 0, 1) := by decide +kernel
theorem dX4_aboveHalf_1 : decode cX4_aboveHalf 1 = .ok (.istore_n 3, 1) := by decide +kernel
theorem dX4_aboveHalf_2 : decode cX4_aboveHalf 2 = .ok (.iload_n 3, 1) := by decide +kernel
theorem dX4_aboveHalf_3 : decode cX4_aboveHalf 3 = .ok (.aload_n 0, 1) := by decide +kernel
theorem dX4_aboveHalf_4 : decode cX4_aboveHalf 4 = .ok (.getfield 85, 3) := by decide +kernel
theorem dX4_aboveHalf_7 : decode cX4_aboveHalf 7 = .ok (.if_icmp .ge 31, 3) := by decide +kernel
theorem dX4_aboveHalf_10 : decode cX4_aboveHalf 10 = .ok (.iload_n 1, 1) := by decide +kernel
theorem dX4_aboveHalf_11 : decode cX4_aboveHalf 11 = .ok (.iload_n 3, 1) := by decide +kernel
theorem dX4_aboveHalf_12 : decode cX4_aboveHalf 12 = .ok (.invokestatic 223, 3) := by decide +kernel
theorem dX4_aboveHalf_15 : decode cX4_aboveHalf 15 = .ok (.ifCond .eq 17, 3) := by decide +kernel
theorem dX4_aboveHalf_18 : decode cX4_aboveHalf 18 = .ok (.iconst 2, 1) := by decide +kernel
theorem dX4_aboveHalf_19 : decode cX4_aboveHalf 19 = .ok (.aload_n 0, 1) := by decide +kernel
theorem dX4_aboveHalf_20 : decode cX4_aboveHalf 20 = .ok (.getfield 47, 3) := by decide +kernel
theorem dX4_aboveHalf_23 : decode cX4_aboveHalf 23 = .ok (.iload_n 3, 1) := by decide +kernel
theorem dX4_aboveHalf_24 : decode cX4_aboveHalf 24 = .ok (.iaload, 1) := by decide +kernel
theorem dX4_aboveHalf_25 : decode cX4_aboveHalf 25 = .ok (.imul, 1) := by decide +kernel
theorem dX4_aboveHalf_26 : decode cX4_aboveHalf 26 = .ok (.iload_n 2, 1) := by decide +kernel
theorem dX4_aboveHalf_27 : decode cX4_aboveHalf 27 = .ok (.if_icmp .le 5, 3) := by decide +kernel
theorem dX4_aboveHalf_30 : decode cX4_aboveHalf 30 = .ok (.iload_n 3, 1) := by decide +kernel
theorem dX4_aboveHalf_31 : decode cX4_aboveHalf 31 = .ok (.ireturn, 1) := by decide +kernel
theorem dX4_aboveHalf_32 : decode cX4_aboveHalf 32 = .ok (.iinc 3 1, 3) := by decide +kernel
theorem dX4_aboveHalf_35 : decode cX4_aboveHalf 35 = .ok (.goto (-33), 3) := by decide +kernel
theorem dX4_aboveHalf_38 : decode cX4_aboveHalf 38 = .ok (.iconst (-1), 1) := by decide +kernel
theorem dX4_aboveHalf_39 : decode cX4_aboveHalf 39 = .ok (.ireturn, 1) := by decide +kernel
theorem dX4_weakestOf_0 : decode cX4_weakestOf 0 = .ok (.iconst (-1), 1) := by decide +kernel
theorem dX4_weakestOf_1 : decode cX4_weakestOf 1 = .ok (.istore_n 2, 1) := by decide +kernel
theorem dX4_weakestOf_2 : decode cX4_weakestOf 2 = .ok (.iconst 0, 1) := by decide +kernel
theorem dX4_weakestOf_3 : decode cX4_weakestOf 3 = .ok (.istore_n 3, 1) := by decide +kernel
theorem dX4_weakestOf_4 : decode cX4_weakestOf 4 = .ok (.iload_n 3, 1) := by decide +kernel
theorem dX4_weakestOf_5 : decode cX4_weakestOf 5 = .ok (.aload_n 0, 1) := by decide +kernel
theorem dX4_weakestOf_6 : decode cX4_weakestOf 6 = .ok (.getfield 85, 3) := by decide +kernel
theorem dX4_weakestOf_9 : decode cX4_weakestOf 9 = .ok (.if_icmp .ge 67, 3) := by decide +kernel
theorem dX4_weakestOf_12 : decode cX4_weakestOf 12 = .ok (.iload_n 1, 1) := by decide +kernel
theorem dX4_weakestOf_13 : decode cX4_weakestOf 13 = .ok (.iload_n 3, 1) := by decide +kernel
theorem dX4_weakestOf_14 : decode cX4_weakestOf 14 = .ok (.invokestatic 223, 3) := by decide +kernel
theorem dX4_weakestOf_17 : decode cX4_weakestOf 17 = .ok (.ifCond .eq 53, 3) := by decide +kernel
theorem dX4_weakestOf_20 : decode cX4_weakestOf 20 = .ok (.iload_n 2, 1) := by decide +kernel
theorem dX4_weakestOf_21 : decode cX4_weakestOf 21 = .ok (.iconst (-1), 1) := by decide +kernel
theorem dX4_weakestOf_22 : decode cX4_weakestOf 22 = .ok (.if_icmp .eq 46, 3) := by decide +kernel
theorem dX4_weakestOf_25 : decode cX4_weakestOf 25 = .ok (.aload_n 0, 1) := by decide +kernel
theorem dX4_weakestOf_26 : decode cX4_weakestOf 26 = .ok (.getfield 47, 3) := by decide +kernel
theorem dX4_weakestOf_29 : decode cX4_weakestOf 29 = .ok (.iload_n 3, 1) := by decide +kernel
theorem dX4_weakestOf_30 : decode cX4_weakestOf 30 = .ok (.iaload, 1) := by decide +kernel
theorem dX4_weakestOf_31 : decode cX4_weakestOf 31 = .ok (.aload_n 0, 1) := by decide +kernel
theorem dX4_weakestOf_32 : decode cX4_weakestOf 32 = .ok (.getfield 47, 3) := by decide +kernel
theorem dX4_weakestOf_35 : decode cX4_weakestOf 35 = .ok (.iload_n 2, 1) := by decide +kernel
theorem dX4_weakestOf_36 : decode cX4_weakestOf 36 = .ok (.iaload, 1) := by decide +kernel
theorem dX4_weakestOf_37 : decode cX4_weakestOf 37 = .ok (.if_icmp .lt 31, 3) := by decide +kernel
theorem dX4_weakestOf_40 : decode cX4_weakestOf 40 = .ok (.aload_n 0, 1) := by decide +kernel
theorem dX4_weakestOf_41 : decode cX4_weakestOf 41 = .ok (.getfield 47, 3) := by decide +kernel
theorem dX4_weakestOf_44 : decode cX4_weakestOf 44 = .ok (.iload_n 3, 1) := by decide +kernel
theorem dX4_weakestOf_45 : decode cX4_weakestOf 45 = .ok (.iaload, 1) := by decide +kernel
theorem dX4_weakestOf_46 : decode cX4_weakestOf 46 = .ok (.aload_n 0, 1) := by decide +kernel
theorem dX4_weakestOf_47 : decode cX4_weakestOf 47 = .ok (.getfield 47, 3) := by decide +kernel
theorem dX4_weakestOf_50 : decode cX4_weakestOf 50 = .ok (.iload_n 2, 1) := by decide +kernel
theorem dX4_weakestOf_51 : decode cX4_weakestOf 51 = .ok (.iaload, 1) := by decide +kernel
theorem dX4_weakestOf_52 : decode cX4_weakestOf 52 = .ok (.if_icmp .ne 18, 3) := by decide +kernel
theorem dX4_weakestOf_55 : decode cX4_weakestOf 55 = .ok (.aload_n 0, 1) := by decide +kernel
theorem dX4_weakestOf_56 : decode cX4_weakestOf 56 = .ok (.iload_n 3, 1) := by decide +kernel
theorem dX4_weakestOf_57 : decode cX4_weakestOf 57 = .ok (.invokevirtual 316, 3) := by decide +kernel
theorem dX4_weakestOf_60 : decode cX4_weakestOf 60 = .ok (.aload_n 0, 1) := by decide +kernel
theorem dX4_weakestOf_61 : decode cX4_weakestOf 61 = .ok (.iload_n 2, 1) := by decide +kernel
theorem dX4_weakestOf_62 : decode cX4_weakestOf 62 = .ok (.invokevirtual 316, 3) := by decide +kernel
theorem dX4_weakestOf_65 : decode cX4_weakestOf 65 = .ok (.if_icmp .gt 5, 3) := by decide +kernel
theorem dX4_weakestOf_68 : decode cX4_weakestOf 68 = .ok (.iload_n 3, 1) := by decide +kernel
theorem dX4_weakestOf_69 : decode cX4_weakestOf 69 = .ok (.istore_n 2, 1) := by decide +kernel
theorem dX4_weakestOf_70 : decode cX4_weakestOf 70 = .ok (.iinc 3 1, 3) := by decide +kernel
theorem dX4_weakestOf_73 : decode cX4_weakestOf 73 = .ok (.goto (-69), 3) := by decide +kernel
theorem dX4_weakestOf_76 : decode cX4_weakestOf 76 = .ok (.iload_n 2, 1) := by decide +kernel
theorem dX4_weakestOf_77 : decode cX4_weakestOf 77 = .ok (.ireturn, 1) := by decide +kernel
theorem dX4_isAheadOfRest_0 : decode cX4_isAheadOfRest 0 = .ok (.iconst 0, 1) := by decide +kernel
theorem dX4_isAheadOfRest_1 : decode cX4_isAheadOfRest 1 = .ok (.istore_n 2, 1) := by decide +kernel
theorem dX4_isAheadOfRest_2 : decode cX4_isAheadOfRest 2 = .ok (.iload_n 2, 1) := by decide +kernel
theorem dX4_isAheadOfRest_3 : decode cX4_isAheadOfRest 3 = .ok (.aload_n 0, 1) := by decide +kernel
theorem dX4_isAheadOfRest_4 : decode cX4_isAheadOfRest 4 = .ok (.getfield 85, 3) := by decide +kernel
theorem dX4_isAheadOfRest_7 : decode cX4_isAheadOfRest 7 = .ok (.if_icmp .ge 36, 3) := by decide +kernel
theorem dX4_isAheadOfRest_10 : decode cX4_isAheadOfRest 10 = .ok (.iload_n 2, 1) := by decide +kernel
theorem dX4_isAheadOfRest_11 : decode cX4_isAheadOfRest 11 = .ok (.iload_n 1, 1) := by decide +kernel
theorem dX4_isAheadOfRest_12 : decode cX4_isAheadOfRest 12 = .ok (.if_icmp .eq 25, 3) := by decide +kernel
end
section
theorem dX4_isAheadOfRest_15 : decode cX4_isAheadOfRest 15 = .ok (.aload_n 0, 1) := by decide +kernel
theorem dX4_isAheadOfRest_16 : decode cX4_isAheadOfRest 16 = .ok (.getfield 246, 3) := by decide +kernel
theorem dX4_isAheadOfRest_19 : decode cX4_isAheadOfRest 19 = .ok (.iload_n 2, 1) := by decide +kernel
theorem dX4_isAheadOfRest_20 : decode cX4_isAheadOfRest 20 = .ok (.invokestatic 223, 3) := by decide +kernel
theorem dX4_isAheadOfRest_23 : decode cX4_isAheadOfRest 23 = .ok (.ifCond .eq 14, 3) := by decide +kernel
theorem dX4_isAheadOfRest_26 : decode cX4_isAheadOfRest 26 = .ok (.aload_n 0, 1) := by decide +kernel
theorem dX4_isAheadOfRest_27 : decode cX4_isAheadOfRest 27 = .ok (.iload_n 1, 1) := by decide +kernel
theorem dX4_isAheadOfRest_28 : decode cX4_isAheadOfRest 28 = .ok (.iload_n 2, 1) := by decide +kernel
theorem dX4_isAheadOfRest_29 : decode cX4_isAheadOfRest 29 = .ok (.invokevirtual 492, 3) := by decide +kernel
theorem dX4_isAheadOfRest_32 : decode cX4_isAheadOfRest 32 = .ok (.ifCond .gt 5, 3) := by decide +kernel
theorem dX4_isAheadOfRest_35 : decode cX4_isAheadOfRest 35 = .ok (.iconst 0, 1) := by decide +kernel
theorem dX4_isAheadOfRest_36 : decode cX4_isAheadOfRest 36 = .ok (.ireturn, 1) := by decide +kernel
theorem dX4_isAheadOfRest_37 : decode cX4_isAheadOfRest 37 = .ok (.iinc 2 1, 3) := by decide +kernel
theorem dX4_isAheadOfRest_40 : decode cX4_isAheadOfRest 40 = .ok (.goto (-38), 3) := by decide +kernel
theorem dX4_isAheadOfRest_43 : decode cX4_isAheadOfRest 43 = .ok (.iconst 1, 1) := by decide +kernel
theorem dX4_isAheadOfRest_44 : decode cX4_isAheadOfRest 44 = .ok (.ireturn, 1) := by decide +kernel
theorem dX4_leadOver_0 : decode cX4_leadOver 0 = .ok (.iload_n 1, 1) := by decide +kernel
theorem dX4_leadOver_1 : decode cX4_leadOver 1 = .ok (.invokestatic 120, 3) := by decide +kernel
theorem dX4_leadOver_4 : decode cX4_leadOver 4 = .ok (.iload_n 2, 1) := by decide +kernel
theorem dX4_leadOver_5 : decode cX4_leadOver 5 = .ok (.invokestatic 120, 3) := by decide +kernel
theorem dX4_leadOver_8 : decode cX4_leadOver 8 = .ok (.ior, 1) := by decide +kernel
theorem dX4_leadOver_9 : decode cX4_leadOver 9 = .ok (.istore_n 3, 1) := by decide +kernel
theorem dX4_leadOver_10 : decode cX4_leadOver 10 = .ok (.iconst 0, 1) := by decide +kernel
theorem dX4_leadOver_11 : decode cX4_leadOver 11 = .ok (.istore 4, 2) := by decide +kernel
theorem dX4_leadOver_13 : decode cX4_leadOver 13 = .ok (.iconst 0, 1) := by decide +kernel
theorem dX4_leadOver_14 : decode cX4_leadOver 14 = .ok (.istore 5, 2) := by decide +kernel
theorem dX4_leadOver_16 : decode cX4_leadOver 16 = .ok (.iload 5, 2) := by decide +kernel
theorem dX4_leadOver_18 : decode cX4_leadOver 18 = .ok (.aload_n 0, 1) := by decide +kernel
theorem dX4_leadOver_19 : decode cX4_leadOver 19 = .ok (.getfield 102, 3) := by decide +kernel
theorem dX4_leadOver_22 : decode cX4_leadOver 22 = .ok (.if_icmp .ge 64, 3) := by decide +kernel
theorem dX4_leadOver_25 : decode cX4_leadOver 25 = .ok (.aload_n 0, 1) := by decide +kernel
theorem dX4_leadOver_26 : decode cX4_leadOver 26 = .ok (.getfield 23, 3) := by decide +kernel
theorem dX4_leadOver_29 : decode cX4_leadOver 29 = .ok (.iload 5, 2) := by decide +kernel
theorem dX4_leadOver_31 : decode cX4_leadOver 31 = .ok (.aaload, 1) := by decide +kernel
theorem dX4_leadOver_32 : decode cX4_leadOver 32 = .ok (.invokevirtual 342, 3) := by decide +kernel
theorem dX4_leadOver_35 : decode cX4_leadOver 35 = .ok (.ifCond .eq 45, 3) := by decide +kernel
theorem dX4_leadOver_38 : decode cX4_leadOver 38 = .ok (.aload_n 0, 1) := by decide +kernel
theorem dX4_leadOver_39 : decode cX4_leadOver 39 = .ok (.aload_n 0, 1) := by decide +kernel
theorem dX4_leadOver_40 : decode cX4_leadOver 40 = .ok (.getfield 23, 3) := by decide +kernel
theorem dX4_leadOver_43 : decode cX4_leadOver 43 = .ok (.iload 5, 2) := by decide +kernel
theorem dX4_leadOver_45 : decode cX4_leadOver 45 = .ok (.aaload, 1) := by decide +kernel
theorem dX4_leadOver_46 : decode cX4_leadOver 46 = .ok (.invokevirtual 485, 3) := by decide +kernel
theorem dX4_leadOver_49 : decode cX4_leadOver 49 = .ok (.iload_n 3, 1) := by decide +kernel
theorem dX4_leadOver_50 : decode cX4_leadOver 50 = .ok (.iand, 1) := by decide +kernel
theorem dX4_leadOver_51 : decode cX4_leadOver 51 = .ok (.iload_n 3, 1) := by decide +kernel
theorem dX4_leadOver_52 : decode cX4_leadOver 52 = .ok (.if_icmp .ne 28, 3) := by decide +kernel
theorem dX4_leadOver_55 : decode cX4_leadOver 55 = .ok (.iload 4, 2) := by decide +kernel
theorem dX4_leadOver_57 : decode cX4_leadOver 57 = .ok (.aload_n 0, 1) := by decide +kernel
theorem dX4_leadOver_58 : decode cX4_leadOver 58 = .ok (.getfield 23, 3) := by decide +kernel
theorem dX4_leadOver_61 : decode cX4_leadOver 61 = .ok (.iload 5, 2) := by decide +kernel
theorem dX4_leadOver_63 : decode cX4_leadOver 63 = .ok (.aaload, 1) := by decide +kernel
theorem dX4_leadOver_64 : decode cX4_leadOver 64 = .ok (.iload_n 3, 1) := by decide +kernel
theorem dX4_leadOver_65 : decode cX4_leadOver 65 = .ok (.invokevirtual 489, 3) := by decide +kernel
theorem dX4_leadOver_68 : decode cX4_leadOver 68 = .ok (.iload_n 1, 1) := by decide +kernel
theorem dX4_leadOver_69 : decode cX4_leadOver 69 = .ok (.if_icmp .ne 7, 3) := by decide +kernel
theorem dX4_leadOver_72 : decode cX4_leadOver 72 = .ok (.iconst 1, 1) := by decide +kernel
theorem dX4_leadOver_73 : decode cX4_leadOver 73 = .ok (.goto 4, 3) := by decide +kernel
theorem dX4_leadOver_76 : decode cX4_leadOver 76 = .ok (.iconst (-1), 1) := by decide +kernel
theorem dX4_leadOver_77 : decode cX4_leadOver 77 = .ok (.iadd, 1) := by decide +kernel
theorem dX4_leadOver_78 : decode cX4_leadOver 78 = .ok (.istore 4, 2) := by decide +kernel
theorem dX4_leadOver_80 : decode cX4_leadOver 80 = .ok (.iinc 5 1, 3) := by decide +kernel
theorem dX4_leadOver_83 : decode cX4_leadOver 83 = .ok (.goto (-67), 3) := by decide +kernel
theorem dX4_leadOver_86 : decode cX4_leadOver 86 = .ok (.iload 4, 2) := by decide +kernel
theorem dX4_leadOver_88 : decode cX4_leadOver 88 = .ok (.ireturn, 1) := by decide +kernel
theorem dJ6_compare_7cf53_0 : decode cJ6_compare_7cf53 0 = .ok (.iload_n 0, 1) := by decide +kernel
theorem dJ6_compare_7cf53_1 : decode cJ6_compare_7cf53 1 = .ok (.iload_n 1, 1) := by decide +kernel
theorem dJ6_compare_7cf53_2 : decode cJ6_compare_7cf53 2 = .ok (.if_icmp .ge 7, 3) := by decide +kernel
theorem dJ6_compare_7cf53_5 : decode cJ6_compare_7cf53 5 = .ok (.iconst (-1), 1) := by decide +kernel
theorem dJ6_compare_7cf53_6 : decode cJ6_compare_7cf53 6 = .ok (.goto 13, 3) := by decide +kernel
theorem dJ6_compare_7cf53_9 : decode cJ6_compare_7cf53 9 = .ok (.iload_n 0, 1) := by decide +kernel
theorem dJ6_compare_7cf53_10 : decode cJ6_compare_7cf53 10 = .ok (.iload_n 1, 1) := by decide +kernel
theorem dJ6_compare_7cf53_11 : decode cJ6_compare_7cf53 11 = .ok (.if_icmp .ne 7, 3) := by decide +kernel
theorem dJ6_compare_7cf53_14 : decode cJ6_compare_7cf53 14 = .ok (.iconst 0, 1) := by decide +kernel
theorem dJ6_compare_7cf53_15 : decode cJ6_compare_7cf53 15 = .ok (.goto 4, 3) := by decide +kernel
theorem dJ6_compare_7cf53_18 : decode cJ6_compare_7cf53 18 = .ok (.iconst 1, 1) := by decide +kernel
theorem dJ6_compare_7cf53_19 : decode cJ6_compare_7cf53 19 = .ok (.ireturn, 1) := by decide +kernel
theorem dJ6_bitCount_0f7a4_0 : decode cJ6_bitCount_0f7a4 0 = .ok (.iload_n 0, 1) := by decide +kernel
theorem dJ6_bitCount_0f7a4_1 : decode cJ6_bitCount_0f7a4 1 = .ok (.iload_n 0, 1) := by decide +kernel
theorem dJ6_bitCount_0f7a4_2 : decode cJ6_bitCount_0f7a4 2 = .ok (.iconst 1, 1) := by decide +kernel
theorem dJ6_bitCount_0f7a4_3 : decode cJ6_bitCount_0f7a4 3 = .ok (.iushr, 1) := by decide +kernel
theorem dJ6_bitCount_0f7a4_4 : decode cJ6_bitCount_0f7a4 4 = .ok (.ldc_w 265, 3) := by decide +kernel
theorem dJ6_bitCount_0f7a4_7 : decode cJ6_bitCount_0f7a4 7 = .ok (.iand, 1) := by decide +kernel
theorem dJ6_bitCount_0f7a4_8 : decode cJ6_bitCount_0f7a4 8 = .ok (.isub, 1) := by decide +kernel
theorem dJ6_bitCount_0f7a4_9 : decode cJ6_bitCount_0f7a4 9 = .ok (.istore_n 0, 1) := by decide +kernel
theorem dJ6_bitCount_0f7a4_10 : decode cJ6_bitCount_0f7a4 10 = .ok (.iload_n 0, 1) := by decide +kernel
theorem dJ6_bitCount_0f7a4_11 : decode cJ6_bitCount_0f7a4 11 = .ok (.ldc_w 266, 3) := by decide +kernel
theorem dJ6_bitCount_0f7a4_14 : decode cJ6_bitCount_0f7a4 14 = .ok (.iand, 1) := by decide +kernel
theorem dJ6_bitCount_0f7a4_15 : decode cJ6_bitCount_0f7a4 15 = .ok (.iload_n 0, 1) := by decide +kernel
theorem dJ6_bitCount_0f7a4_16 : decode cJ6_bitCount_0f7a4 16 = .ok (.iconst 2, 1) := by decide +kernel
theorem dJ6_bitCount_0f7a4_17 : decode cJ6_bitCount_0f7a4 17 = .ok (.iushr, 1) := by decide +kernel
theorem dJ6_bitCount_0f7a4_18 : decode cJ6_bitCount_0f7a4 18 = .ok (.ldc_w 266, 3) := by decide +kernel
theorem dJ6_bitCount_0f7a4_21 : decode cJ6_bitCount_0f7a4 21 = .ok (.iand, 1) := by decide +kernel
theorem dJ6_bitCount_0f7a4_22 : decode cJ6_bitCount_0f7a4 22 = .ok (.iadd, 1) := by decide +kernel
theorem dJ6_bitCount_0f7a4_23 : decode cJ6_bitCount_0f7a4 23 = .ok (.istore_n 0, 1) := by decide +kernel
theorem dJ6_bitCount_0f7a4_24 : decode cJ6_bitCount_0f7a4 24 = .ok (.iload_n 0, 1) := by decide +kernel
theorem dJ6_bitCount_0f7a4_25 : decode cJ6_bitCount_0f7a4 25 = .ok (.iload_n 0, 1) := by decide +kernel
theorem dJ6_bitCount_0f7a4_26 : decode cJ6_bitCount_0f7a4 26 = .ok (.iconst 4, 1) := by decide +kernel
theorem dJ6_bitCount_0f7a4_27 : decode cJ6_bitCount_0f7a4 27 = .ok (.iushr, 1) := by decide +kernel
theorem dJ6_bitCount_0f7a4_28 : decode cJ6_bitCount_0f7a4 28 = .ok (.iadd, 1) := by decide +kernel
theorem dJ6_bitCount_0f7a4_29 : decode cJ6_bitCount_0f7a4 29 = .ok (.ldc_w 267, 3) := by decide +kernel
theorem dJ6_bitCount_0f7a4_32 : decode cJ6_bitCount_0f7a4 32 = .ok (.iand, 1) := by decide +kernel
theorem dJ6_bitCount_0f7a4_33 : decode cJ6_bitCount_0f7a4 33 = .ok (.istore_n 0, 1) := by decide +kernel
theorem dJ6_bitCount_0f7a4_34 : decode cJ6_bitCount_0f7a4 34 = .ok (.iload_n 0, 1) := by decide +kernel
theorem dJ6_bitCount_0f7a4_35 : decode cJ6_bitCount_0f7a4 35 = .ok (.iload_n 0, 1) := by decide +kernel
theorem dJ6_bitCount_0f7a4_36 : decode cJ6_bitCount_0f7a4 36 = .ok (.bipush 8, 2) := by decide +kernel
theorem dJ6_bitCount_0f7a4_38 : decode cJ6_bitCount_0f7a4 38 = .ok (.iushr, 1) := by decide +kernel
theorem dJ6_bitCount_0f7a4_39 : decode cJ6_bitCount_0f7a4 39 = .ok (.iadd, 1) := by decide +kernel
theorem dJ6_bitCount_0f7a4_40 : decode cJ6_bitCount_0f7a4 40 = .ok (.istore_n 0, 1) := by decide +kernel
theorem dJ6_bitCount_0f7a4_41 : decode cJ6_bitCount_0f7a4 41 = .ok (.iload_n 0, 1) := by decide +kernel
theorem dJ6_bitCount_0f7a4_42 : decode cJ6_bitCount_0f7a4 42 = .ok (.iload_n 0, 1) := by decide +kernel
theorem dJ6_bitCount_0f7a4_43 : decode cJ6_bitCount_0f7a4 43 = .ok (.bipush 16, 2) := by decide +kernel
theorem dJ6_bitCount_0f7a4_45 : decode cJ6_bitCount_0f7a4 45 = .ok (.iushr, 1) := by decide +kernel
theorem dJ6_bitCount_0f7a4_46 : decode cJ6_bitCount_0f7a4 46 = .ok (.iadd, 1) := by decide +kernel
theorem dJ6_bitCount_0f7a4_47 : decode cJ6_bitCount_0f7a4 47 = .ok (.istore_n 0, 1) := by decide +kernel
theorem dJ6_bitCount_0f7a4_48 : decode cJ6_bitCount_0f7a4 48 = .ok (.iload_n 0, 1) := by decide +kernel
theorem dJ6_bitCount_0f7a4_49 : decode cJ6_bitCount_0f7a4 49 = .ok (.bipush 63, 2) := by decide +kernel
theorem dJ6_bitCount_0f7a4_51 : decode cJ6_bitCount_0f7a4 51 = .ok (.iand, 1) := by decide +kernel
theorem dJ6_bitCount_0f7a4_52 : decode cJ6_bitCount_0f7a4 52 = .ok (.ireturn, 1) := by decide +kernel
theorem dJ9_floorDiv_7cf53_0 : decode cJ9_floorDiv_7cf53 0 = .ok (.iload_n 0, 1) := by decide +kernel
theorem dJ9_floorDiv_7cf53_1 : decode cJ9_floorDiv_7cf53 1 = .ok (.iload_n 1, 1) := by decide +kernel
theorem dJ9_floorDiv_7cf53_2 : decode cJ9_floorDiv_7cf53 2 = .ok (.idiv, 1) := by decide +kernel
theorem dJ9_floorDiv_7cf53_3 : decode cJ9_floorDiv_7cf53 3 = .ok (.istore_n 2, 1) := by decide +kernel
theorem dJ9_floorDiv_7cf53_4 : decode cJ9_floorDiv_7cf53 4 = .ok (.iload_n 0, 1) := by decide +kernel
theorem dJ9_floorDiv_7cf53_5 : decode cJ9_floorDiv_7cf53 5 = .ok (.iload_n 1, 1) := by decide +kernel
theorem dJ9_floorDiv_7cf53_6 : decode cJ9_floorDiv_7cf53 6 = .ok (.ixor, 1) := by decide +kernel
theorem dJ9_floorDiv_7cf53_7 : decode cJ9_floorDiv_7cf53 7 = .ok (.ifCond .ge 14, 3) := by decide +kernel
theorem dJ9_floorDiv_7cf53_10 : decode cJ9_floorDiv_7cf53 10 = .ok (.iload_n 2, 1) := by decide +kernel
theorem dJ9_floorDiv_7cf53_11 : decode cJ9_floorDiv_7cf53 11 = .ok (.iload_n 1, 1) := by decide +kernel
theorem dJ9_floorDiv_7cf53_12 : decode cJ9_floorDiv_7cf53 12 = .ok (.imul, 1) := by decide +kernel
theorem dJ9_floorDiv_7cf53_13 : decode cJ9_floorDiv_7cf53 13 = .ok (.iload_n 0, 1) := by decide +kernel
theorem dJ9_floorDiv_7cf53_14 : decode cJ9_floorDiv_7cf53 14 = .ok (.if_icmp .eq 7, 3) := by decide +kernel
theorem dJ9_floorDiv_7cf53_17 : decode cJ9_floorDiv_7cf53 17 = .ok (.iload_n 2, 1) := by decide +kernel
theorem dJ9_floorDiv_7cf53_18 : decode cJ9_floorDiv_7cf53 18 = .ok (.iconst 1, 1) := by decide +kernel
theorem dJ9_floorDiv_7cf53_19 : decode cJ9_floorDiv_7cf53 19 = .ok (.isub, 1) := by decide +kernel
theorem dJ9_floorDiv_7cf53_20 : decode cJ9_floorDiv_7cf53 20 = .ok (.ireturn, 1) := by decide +kernel
theorem dJ9_floorDiv_7cf53_21 : decode cJ9_floorDiv_7cf53 21 = .ok (.iload_n 2, 1) := by decide +kernel
theorem dJ9_floorDiv_7cf53_22 : decode cJ9_floorDiv_7cf53 22 = .ok (.ireturn, 1) := by decide +kernel
theorem dJ9_abs_0f7a4_0 : decode cJ9_abs_0f7a4 0 = .ok (.iload_n 0, 1) := by decide +kernel
theorem dJ9_abs_0f7a4_1 : decode cJ9_abs_0f7a4 1 = .ok (.ifCond .ge 8, 3) := by decide +kernel
theorem dJ9_abs_0f7a4_4 : decode cJ9_abs_0f7a4 4 = .ok (.iload_n 0, 1) := by decide +kernel
theorem dJ9_abs_0f7a4_5 : decode cJ9_abs_0f7a4 5 = .ok (.ineg, 1) := by decide +kernel
theorem dJ9_abs_0f7a4_6 : decode cJ9_abs_0f7a4 6 = .ok (.goto 4, 3) := by decide +kernel
theorem dJ9_abs_0f7a4_9 : decode cJ9_abs_0f7a4 9 = .ok (.iload_n 0, 1) := by decide +kernel
theorem dJ9_abs_0f7a4_10 : decode cJ9_abs_0f7a4 10 = .ok (.ireturn, 1) := by decide +kernel
theorem dJ9_abs_294c1_0 : decode cJ9_abs_294c1 0 = .ok (.dload_n 0, 1) := by decide +kernel
theorem dJ9_abs_294c1_1 : decode cJ9_abs_294c1 1 = .ok (.invokestatic 79, 3) := by decide +kernel
theorem dJ9_abs_294c1_4 : decode cJ9_abs_294c1 4 = .ok (.ldc2_w 135, 3) := by decide +kernel
theorem dJ9_abs_294c1_7 : decode cJ9_abs_294c1 7 = .ok (.land, 1) := by decide +kernel
theorem dJ9_abs_294c1_8 : decode cJ9_abs_294c1 8 = .ok (.invokestatic 166, 3) := by decide +kernel
theorem dJ9_abs_294c1_11 : decode cJ9_abs_294c1 11 = .ok (.dreturn, 1) := by decide +kernel
theorem dJ9_max_7cf53_0 : decode cJ9_max_7cf53 0 = .ok (.iload_n 0, 1) := by decide +kernel
theorem dJ9_max_7cf53_1 : decode cJ9_max_7cf53 1 = .ok (.iload_n 1, 1) := by decide +kernel
theorem dJ9_max_7cf53_2 : decode cJ9_max_7cf53 2 = .ok (.if_icmp .lt 7, 3) := by decide +kernel
theorem dJ9_max_7cf53_5 : decode cJ9_max_7cf53 5 = .ok (.iload_n 0, 1) := by decide +kernel
theorem dJ9_max_7cf53_6 : decode cJ9_max_7cf53 6 = .ok (.goto 4, 3) := by decide +kernel
theorem dJ9_max_7cf53_9 : decode cJ9_max_7cf53 9 = .ok (.iload_n 1, 1) := by decide +kernel
theorem dJ9_max_7cf53_10 : decode cJ9_max_7cf53 10 = .ok (.ireturn, 1) := by decide +kernel
theorem dJ9_min_7cf53_0 : decode cJ9_min_7cf53 0 = .ok (.iload_n 0, 1) := by decide +kernel
theorem dJ9_min_7cf53_1 : decode cJ9_min_7cf53 1 = .ok (.iload_n 1, 1) := by decide +kernel
theorem dJ9_min_7cf53_2 : decode cJ9_min_7cf53 2 = .ok (.if_icmp .gt 7, 3) := by decide +kernel
theorem dJ9_min_7cf53_5 : decode cJ9_min_7cf53 5 = .ok (.iload_n 0, 1) := by decide +kernel
theorem dJ9_min_7cf53_6 : decode cJ9_min_7cf53 6 = .ok (.goto 4, 3) := by decide +kernel
theorem dJ9_min_7cf53_9 : decode cJ9_min_7cf53 9 = .ok (.iload_n 1, 1) := by decide +kernel
theorem dJ9_min_7cf53_10 : decode cJ9_min_7cf53 10 = .ok (.ireturn, 1) := by decide +kernel
theorem dL_below_0 : decode cL_below 0 = .ok (.iload_n 0, 1) := by decide +kernel
theorem dL_below_1 : decode cL_below 1 = .ok (.ldc 7, 2) := by decide +kernel
theorem dL_below_3 : decode cL_below 3 = .ok (.iand, 1) := by decide +kernel
theorem dL_below_4 : decode cL_below 4 = .ok (.iload_n 1, 1) := by decide +kernel
theorem dL_below_5 : decode cL_below 5 = .ok (.irem, 1) := by decide +kernel
theorem dL_below_6 : decode cL_below 6 = .ok (.ireturn, 1) := by decide +kernel
theorem dL_cell_0 : decode cL_cell 0 = .ok (.iload_n 1, 1) := by decide +kernel
theorem dL_cell_1 : decode cL_cell 1 = .ok (.aload_n 0, 1) := by decide +kernel
theorem dL_cell_2 : decode cL_cell 2 = .ok (.arraylength, 1) := by decide +kernel
theorem dL_cell_3 : decode cL_cell 3 = .ok (.if_icmp .ge 9, 3) := by decide +kernel
theorem dL_cell_6 : decode cL_cell 6 = .ok (.aload_n 0, 1) := by decide +kernel
theorem dL_cell_7 : decode cL_cell 7 = .ok (.iload_n 1, 1) := by decide +kernel
theorem dL_cell_8 : decode cL_cell 8 = .ok (.iaload, 1) := by decide +kernel
theorem dL_cell_9 : decode cL_cell 9 = .ok (.goto 9, 3) := by decide +kernel
theorem dL_cell_12 : decode cL_cell 12 = .ok (.ldc 8, 2) := by decide +kernel
theorem dL_cell_14 : decode cL_cell 14 = .ok (.iload_n 1, 1) := by decide +kernel
theorem dL_cell_15 : decode cL_cell 15 = .ok (.iconst 3, 1) := by decide +kernel
theorem dL_cell_16 : decode cL_cell 16 = .ok (.iadd, 1) := by decide +kernel
theorem dL_cell_17 : decode cL_cell 17 = .ok (.imul, 1) := by decide +kernel
theorem dL_cell_18 : decode cL_cell 18 = .ok (.ireturn, 1) := by decide +kernel
theorem dL_law_0 : decode cL_law 0 = .ok (.new 9, 3) := by decide +kernel
theorem dL_law_3 : decode cL_law 3 = .ok (.dup, 1) := by decide +kernel
theorem dL_law_4 : decode cL_law 4 = .ok (.invokespecial 11, 3) := by decide +kernel
theorem dL_law_7 : decode cL_law 7 = .ok (.astore_n 1, 1) := by decide +kernel
theorem dL_law_8 : decode cL_law 8 = .ok (.iconst 2, 1) := by decide +kernel
theorem dL_law_9 : decode cL_law 9 = .ok (.aload_n 0, 1) := by decide +kernel
theorem dL_law_10 : decode cL_law 10 = .ok (.iconst 0, 1) := by decide +kernel
theorem dL_law_11 : decode cL_law 11 = .ok (.invokestatic 12, 3) := by decide +kernel
theorem dL_law_14 : decode cL_law 14 = .ok (.iconst 4, 1) := by decide +kernel
theorem dL_law_15 : decode cL_law 15 = .ok (.invokestatic 18, 3) := by decide +kernel
theorem dL_law_18 : decode cL_law 18 = .ok (.iadd, 1) := by decide +kernel
theorem dL_law_19 : decode cL_law 19 = .ok (.istore_n 2, 1) := by decide +kernel
theorem dL_law_20 : decode cL_law 20 = .ok (.iconst 0, 1) := by decide +kernel
theorem dL_law_21 : decode cL_law 21 = .ok (.istore_n 3, 1) := by decide +kernel
theorem dL_law_22 : decode cL_law 22 = .ok (.iload_n 3, 1) := by decide +kernel
theorem dL_law_23 : decode cL_law 23 = .ok (.iload_n 2, 1) := by decide +kernel
theorem dL_law_24 : decode cL_law 24 = .ok (.if_icmp .ge 19, 3) := by decide +kernel
theorem dL_law_27 : decode cL_law 27 = .ok (.aload_n 1, 1) := by decide +kernel
theorem dL_law_28 : decode cL_law 28 = .ok (.invokevirtual 22, 3) := by decide +kernel
theorem dL_law_31 : decode cL_law 31 = .ok (.iload_n 3, 1) := by decide +kernel
theorem dL_law_32 : decode cL_law 32 = .ok (.if_icmp .eq 5, 3) := by decide +kernel
theorem dL_law_35 : decode cL_law 35 = .ok (.iconst 0, 1) := by decide +kernel
theorem dL_law_36 : decode cL_law 36 = .ok (.ireturn, 1) := by decide +kernel
theorem dL_law_37 : decode cL_law 37 = .ok (.iinc 3 1, 3) := by decide +kernel
theorem dL_law_40 : decode cL_law 40 = .ok (.goto (-18), 3) := by decide +kernel
theorem dL_law_43 : decode cL_law 43 = .ok (.iconst 3, 1) := by decide +kernel
theorem dL_law_44 : decode cL_law 44 = .ok (.aload_n 0, 1) := by decide +kernel
theorem dL_law_45 : decode cL_law 45 = .ok (.iconst 1, 1) := by decide +kernel
theorem dL_law_46 : decode cL_law 46 = .ok (.invokestatic 12, 3) := by decide +kernel
theorem dL_law_49 : decode cL_law 49 = .ok (.iconst 3, 1) := by decide +kernel
theorem dL_law_50 : decode cL_law 50 = .ok (.invokestatic 18, 3) := by decide +kernel
theorem dL_law_53 : decode cL_law 53 = .ok (.iadd, 1) := by decide +kernel
theorem dL_law_54 : decode cL_law 54 = .ok (.istore_n 3, 1) := by decide +kernel
theorem dL_law_55 : decode cL_law 55 = .ok (.iconst 0, 1) := by decide +kernel
theorem dL_law_56 : decode cL_law 56 = .ok (.istore 4, 2) := by decide +kernel
theorem dL_law_58 : decode cL_law 58 = .ok (.iload 4, 2) := by decide +kernel
theorem dL_law_60 : decode cL_law 60 = .ok (.iload_n 3, 1) := by decide +kernel
theorem dL_law_61 : decode cL_law 61 = .ok (.if_icmp .ge 70, 3) := by decide +kernel
theorem dL_law_64 : decode cL_law 64 = .ok (.aload_n 1, 1) := by decide +kernel
theorem dL_law_65 : decode cL_law 65 = .ok (.bipush 40, 2) := by decide +kernel
theorem dL_law_67 : decode cL_law 67 = .ok (.aload_n 0, 1) := by decide +kernel
theorem dL_law_68 : decode cL_law 68 = .ok (.iconst 2, 1) := by decide +kernel
theorem dL_law_69 : decode cL_law 69 = .ok (.iload 4, 2) := by decide +kernel
theorem dL_law_71 : decode cL_law 71 = .ok (.iadd, 1) := by decide +kernel
theorem dL_law_72 : decode cL_law 72 = .ok (.invokestatic 12, 3) := by decide +kernel
theorem dL_law_75 : decode cL_law 75 = .ok (.sipush 161, 3) := by decide +kernel
theorem dL_law_78 : decode cL_law 78 = .ok (.invokestatic 18, 3) := by decide +kernel
theorem dL_law_81 : decode cL_law 81 = .ok (.iadd, 1) := by decide +kernel
theorem dL_law_82 : decode cL_law 82 = .ok (.aload_n 0, 1) := by decide +kernel
theorem dL_law_83 : decode cL_law 83 = .ok (.iconst 2, 1) := by decide +kernel
theorem dL_law_84 : decode cL_law 84 = .ok (.iload 4, 2) := by decide +kernel
theorem dL_law_86 : decode cL_law 86 = .ok (.iadd, 1) := by decide +kernel
theorem dL_law_87 : decode cL_law 87 = .ok (.invokestatic 12, 3) := by decide +kernel
theorem dL_law_90 : decode cL_law 90 = .ok (.iconst 3, 1) := by decide +kernel
theorem dL_law_91 : decode cL_law 91 = .ok (.ishr, 1) := by decide +kernel
theorem dL_law_92 : decode cL_law 92 = .ok (.bipush 10, 2) := by decide +kernel
theorem dL_law_94 : decode cL_law 94 = .ok (.invokestatic 18, 3) := by decide +kernel
theorem dL_law_97 : decode cL_law 97 = .ok (.aload_n 0, 1) := by decide +kernel
theorem dL_law_98 : decode cL_law 98 = .ok (.iconst 2, 1) := by decide +kernel
theorem dL_law_99 : decode cL_law 99 = .ok (.iload 4, 2) := by decide +kernel
theorem dL_law_101 : decode cL_law 101 = .ok (.iadd, 1) := by decide +kernel
theorem dL_law_102 : decode cL_law 102 = .ok (.invokestatic 12, 3) := by decide +kernel
theorem dL_law_105 : decode cL_law 105 = .ok (.iconst 5, 1) := by decide +kernel
theorem dL_law_106 : decode cL_law 106 = .ok (.ishr, 1) := by decide +kernel
theorem dL_law_107 : decode cL_law 107 = .ok (.bipush 21, 2) := by decide +kernel
theorem dL_law_109 : decode cL_law 109 = .ok (.invokestatic 18, 3) := by decide +kernel
theorem dL_law_112 : decode cL_law 112 = .ok (.bipush 10, 2) := by decide +kernel
theorem dL_law_114 : decode cL_law 114 = .ok (.isub, 1) := by decide +kernel
theorem dL_law_115 : decode cL_law 115 = .ok (.invokevirtual 26, 3) := by decide +kernel
theorem dL_law_118 : decode cL_law 118 = .ok (.iload 4, 2) := by decide +kernel
theorem dL_law_120 : decode cL_law 120 = .ok (.if_icmp .eq 5, 3) := by decide +kernel
theorem dL_law_123 : decode cL_law 123 = .ok (.iconst 0, 1) := by decide +kernel
theorem dL_law_124 : decode cL_law 124 = .ok (.ireturn, 1) := by decide +kernel
theorem dL_law_125 : decode cL_law 125 = .ok (.iinc 4 1, 3) := by decide +kernel
theorem dL_law_128 : decode cL_law 128 = .ok (.goto (-70), 3) := by decide +kernel
theorem dL_law_131 : decode cL_law 131 = .ok (.iconst 0, 1) := by decide +kernel
theorem dL_law_132 : decode cL_law 132 = .ok (.istore 4, 2) := by decide +kernel
theorem dL_law_134 : decode cL_law 134 = .ok (.iconst 0, 1) := by decide +kernel
theorem dL_law_135 : decode cL_law 135 = .ok (.istore 5, 2) := by decide +kernel
theorem dL_law_137 : decode cL_law 137 = .ok (.iconst 0, 1) := by decide +kernel
theorem dL_law_138 : decode cL_law 138 = .ok (.istore 6, 2) := by decide +kernel
theorem dL_law_140 : decode cL_law 140 = .ok (.iconst 0, 1) := by decide +kernel
theorem dL_law_141 : decode cL_law 141 = .ok (.istore 7, 2) := by decide +kernel
theorem dL_law_143 : decode cL_law 143 = .ok (.iload 7, 2) := by decide +kernel
theorem dL_law_145 : decode cL_law 145 = .ok (.bipush 90, 2) := by decide +kernel
theorem dL_law_147 : decode cL_law 147 = .ok (.if_icmp .ge 1599, 3) := by decide +kernel
theorem dL_law_150 : decode cL_law 150 = .ok (.aload_n 0, 1) := by decide +kernel
theorem dL_law_151 : decode cL_law 151 = .ok (.bipush 7, 2) := by decide +kernel
theorem dL_law_153 : decode cL_law 153 = .ok (.iload 7, 2) := by decide +kernel
theorem dL_law_155 : decode cL_law 155 = .ok (.bipush 23, 2) := by decide +kernel
theorem dL_law_157 : decode cL_law 157 = .ok (.irem, 1) := by decide +kernel
theorem dL_law_158 : decode cL_law 158 = .ok (.iadd, 1) := by decide +kernel
theorem dL_law_159 : decode cL_law 159 = .ok (.invokestatic 12, 3) := by decide +kernel
theorem dL_law_162 : decode cL_law 162 = .ok (.iload 7, 2) := by decide +kernel
theorem dL_law_164 : decode cL_law 164 = .ok (.bipush 23, 2) := by decide +kernel
theorem dL_law_166 : decode cL_law 166 = .ok (.idiv, 1) := by decide +kernel
theorem dL_law_167 : decode cL_law 167 = .ok (.iconst 4, 1) := by decide +kernel
theorem dL_law_168 : decode cL_law 168 = .ok (.imul, 1) := by decide +kernel
theorem dL_law_169 : decode cL_law 169 = .ok (.ishr, 1) := by decide +kernel
theorem dL_law_170 : decode cL_law 170 = .ok (.istore 8, 2) := by decide +kernel
theorem dL_law_172 : decode cL_law 172 = .ok (.aload_n 1, 1) := by decide +kernel
theorem dL_law_173 : decode cL_law 173 = .ok (.iconst 4, 1) := by decide +kernel
theorem dL_law_174 : decode cL_law 174 = .ok (.invokevirtual 30, 3) := by decide +kernel
theorem dL_law_177 : decode cL_law 177 = .ok (.istore 9, 2) := by decide +kernel
theorem dL_law_179 : decode cL_law 179 = .ok (.iload 9, 2) := by decide +kernel
theorem dL_law_181 : decode cL_law 181 = .ok (.ifCond .ne 7, 3) := by decide +kernel
theorem dL_law_184 : decode cL_law 184 = .ok (.iconst (-1), 1) := by decide +kernel
theorem dL_law_185 : decode cL_law 185 = .ok (.goto 12, 3) := by decide +kernel
theorem dL_law_188 : decode cL_law 188 = .ok (.iload 8, 2) := by decide +kernel
theorem dL_law_190 : decode cL_law 190 = .ok (.iconst 4, 1) := by decide +kernel
theorem dL_law_191 : decode cL_law 191 = .ok (.ishr, 1) := by decide +kernel
theorem dL_law_192 : decode cL_law 192 = .ok (.iload 9, 2) := by decide +kernel
theorem dL_law_194 : decode cL_law 194 = .ok (.invokestatic 18, 3) := by decide +kernel
theorem dL_law_197 : decode cL_law 197 = .ok (.istore 10, 2) := by decide +kernel
theorem dL_law_199 : decode cL_law 199 = .ok (.iload 8, 2) := by decide +kernel
theorem dL_law_201 : decode cL_law 201 = .ok (.iconst 5, 1) := by decide +kernel
theorem dL_law_202 : decode cL_law 202 = .ok (.ishr, 1) := by decide +kernel
theorem dL_law_203 : decode cL_law 203 = .ok (.iload_n 3, 1) := by decide +kernel
theorem dL_law_204 : decode cL_law 204 = .ok (.invokestatic 18, 3) := by decide +kernel
theorem dL_law_207 : decode cL_law 207 = .ok (.istore 11, 2) := by decide +kernel
theorem dL_law_209 : decode cL_law 209 = .ok (.aload_n 1, 1) := by decide +kernel
theorem dL_law_210 : decode cL_law 210 = .ok (.iconst 1, 1) := by decide +kernel
theorem dL_law_211 : decode cL_law 211 = .ok (.invokevirtual 30, 3) := by decide +kernel
theorem dL_law_214 : decode cL_law 214 = .ok (.istore 12, 2) := by decide +kernel
theorem dL_law_216 : decode cL_law 216 = .ok (.aload_n 1, 1) := by decide +kernel
theorem dL_law_217 : decode cL_law 217 = .ok (.iconst 0, 1) := by decide +kernel
theorem dL_law_218 : decode cL_law 218 = .ok (.invokevirtual 30, 3) := by decide +kernel
theorem dL_law_221 : decode cL_law 221 = .ok (.istore 13, 2) := by decide +kernel
theorem dL_law_223 : decode cL_law 223 = .ok (.aload_n 1, 1) := by decide +kernel
theorem dL_law_224 : decode cL_law 224 = .ok (.bipush 6, 2) := by decide +kernel
theorem dL_law_226 : decode cL_law 226 = .ok (.invokevirtual 30, 3) := by decide +kernel
theorem dL_law_229 : decode cL_law 229 = .ok (.istore 14, 2) := by decide +kernel
theorem dL_law_231 : decode cL_law 231 = .ok (.aload_n 1, 1) := by decide +kernel
theorem dL_law_232 : decode cL_law 232 = .ok (.bipush 14, 2) := by decide +kernel
theorem dL_law_234 : decode cL_law 234 = .ok (.invokevirtual 30, 3) := by decide +kernel
theorem dL_law_237 : decode cL_law 237 = .ok (.istore 15, 2) := by decide +kernel
theorem dL_law_239 : decode cL_law 239 = .ok (.iload 8, 2) := by decide +kernel
theorem dL_law_241 : decode cL_law 241 = .ok (.bipush 20, 2) := by decide +kernel
theorem dL_law_243 : decode cL_law 243 = .ok (.invokestatic 18, 3) := by decide +kernel
theorem dL_law_246 : decode cL_law 246 = .ok (.tableswitch 1171 0 16 #[82, 82, 82, 173, 215, 284, 284, 284, 284, 449, 593, 651, 651, 651, 901, 1003, 1102], 82) := by decide +kernel
theorem dL_law_328 : decode cL_law 328 = .ok (.iload 9, 2) := by decide +kernel
theorem dL_law_330 : decode cL_law 330 = .ok (.bipush 16, 2) := by decide +kernel
theorem dL_law_332 : decode cL_law 332 = .ok (.if_icmp .ne 6, 3) := by decide +kernel
theorem dL_law_335 : decode cL_law 335 = .ok (.goto 1268, 3) := by decide +kernel
theorem dL_law_338 : decode cL_law 338 = .ok (.aload_n 1, 1) := by decide +kernel
theorem dL_law_339 : decode cL_law 339 = .ok (.iload 8, 2) := by decide +kernel
theorem dL_law_341 : decode cL_law 341 = .ok (.iconst 3, 1) := by decide +kernel
theorem dL_law_342 : decode cL_law 342 = .ok (.ishr, 1) := by decide +kernel
theorem dL_law_343 : decode cL_law 343 = .ok (.iload_n 2, 1) := by decide +kernel
theorem dL_law_344 : decode cL_law 344 = .ok (.invokestatic 18, 3) := by decide +kernel
theorem dL_law_347 : decode cL_law 347 = .ok (.iload 8, 2) := by decide +kernel
theorem dL_law_349 : decode cL_law 349 = .ok (.iconst 2, 1) := by decide +kernel
theorem dL_law_350 : decode cL_law 350 = .ok (.ishr, 1) := by decide +kernel
theorem dL_law_351 : decode cL_law 351 = .ok (.bipush 10, 2) := by decide +kernel
theorem dL_law_353 : decode cL_law 353 = .ok (.invokestatic 18, 3) := by decide +kernel
theorem dL_law_356 : decode cL_law 356 = .ok (.iload 8, 2) := by decide +kernel
theorem dL_law_358 : decode cL_law 358 = .ok (.iconst 4, 1) := by decide +kernel
theorem dL_law_359 : decode cL_law 359 = .ok (.ishr, 1) := by decide +kernel
theorem dL_law_360 : decode cL_law 360 = .ok (.iconst 3, 1) := by decide +kernel
theorem dL_law_361 : decode cL_law 361 = .ok (.invokestatic 18, 3) := by decide +kernel
theorem dL_law_364 : decode cL_law 364 = .ok (.bipush 60, 2) := by decide +kernel
theorem dL_law_366 : decode cL_law 366 = .ok (.iload 8, 2) := by decide +kernel
theorem dL_law_368 : decode cL_law 368 = .ok (.iconst 5, 1) := by decide +kernel
theorem dL_law_369 : decode cL_law 369 = .ok (.ishr, 1) := by decide +kernel
theorem dL_law_370 : decode cL_law 370 = .ok (.sipush 200, 3) := by decide +kernel
theorem dL_law_373 : decode cL_law 373 = .ok (.invokestatic 18, 3) := by decide +kernel
theorem dL_law_376 : decode cL_law 376 = .ok (.iadd, 1) := by decide +kernel
theorem dL_law_377 : decode cL_law 377 = .ok (.iload 8, 2) := by decide +kernel
theorem dL_law_379 : decode cL_law 379 = .ok (.bipush 6, 2) := by decide +kernel
theorem dL_law_381 : decode cL_law 381 = .ok (.ishr, 1) := by decide +kernel
theorem dL_law_382 : decode cL_law 382 = .ok (.bipush 61, 2) := by decide +kernel
theorem dL_law_384 : decode cL_law 384 = .ok (.invokestatic 18, 3) := by decide +kernel
theorem dL_law_387 : decode cL_law 387 = .ok (.iload 8, 2) := by decide +kernel
theorem dL_law_389 : decode cL_law 389 = .ok (.bipush 7, 2) := by decide +kernel
theorem dL_law_391 : decode cL_law 391 = .ok (.ishr, 1) := by decide +kernel
theorem dL_law_392 : decode cL_law 392 = .ok (.bipush 10, 2) := by decide +kernel
theorem dL_law_394 : decode cL_law 394 = .ok (.invokestatic 18, 3) := by decide +kernel
theorem dL_law_397 : decode cL_law 397 = .ok (.invokevirtual 34, 3) := by decide +kernel
theorem dL_law_400 : decode cL_law 400 = .ok (.iload 9, 2) := by decide +kernel
theorem dL_law_402 : decode cL_law 402 = .ok (.if_icmp .ne 15, 3) := by decide +kernel
theorem dL_law_405 : decode cL_law 405 = .ok (.aload_n 1, 1) := by decide +kernel
theorem dL_law_406 : decode cL_law 406 = .ok (.iload 11, 2) := by decide +kernel
theorem dL_law_408 : decode cL_law 408 = .ok (.iload 9, 2) := by decide +kernel
theorem dL_law_410 : decode cL_law 410 = .ok (.invokevirtual 38, 3) := by decide +kernel
theorem dL_law_413 : decode cL_law 413 = .ok (.iconst (-1), 1) := by decide +kernel
theorem dL_law_414 : decode cL_law 414 = .ok (.if_icmp .eq 1189, 3) := by decide +kernel
theorem dL_law_417 : decode cL_law 417 = .ok (.iconst 0, 1) := by decide +kernel
theorem dL_law_418 : decode cL_law 418 = .ok (.ireturn, 1) := by decide +kernel
theorem dL_law_419 : decode cL_law 419 = .ok (.iload 8, 2) := by decide +kernel
theorem dL_law_421 : decode cL_law 421 = .ok (.bipush 6, 2) := by decide +kernel
theorem dL_law_423 : decode cL_law 423 = .ok (.ishr, 1) := by decide +kernel
theorem dL_law_424 : decode cL_law 424 = .ok (.iconst 3, 1) := by decide +kernel
theorem dL_law_425 : decode cL_law 425 = .ok (.invokestatic 18, 3) := by decide +kernel
theorem dL_law_428 : decode cL_law 428 = .ok (.ifCond .ne 1175, 3) := by decide +kernel
theorem dL_law_431 : decode cL_law 431 = .ok (.aload_n 1, 1) := by decide +kernel
theorem dL_law_432 : decode cL_law 432 = .ok (.iload 11, 2) := by decide +kernel
theorem dL_law_434 : decode cL_law 434 = .ok (.iload 8, 2) := by decide +kernel
theorem dL_law_436 : decode cL_law 436 = .ok (.iconst 3, 1) := by decide +kernel
theorem dL_law_437 : decode cL_law 437 = .ok (.ishr, 1) := by decide +kernel
theorem dL_law_438 : decode cL_law 438 = .ok (.bipush 10, 2) := by decide +kernel
theorem dL_law_440 : decode cL_law 440 = .ok (.invokestatic 18, 3) := by decide +kernel
theorem dL_law_443 : decode cL_law 443 = .ok (.invokevirtual 41, 3) := by decide +kernel
theorem dL_law_446 : decode cL_law 446 = .ok (.aload_n 1, 1) := by decide +kernel
theorem dL_law_447 : decode cL_law 447 = .ok (.iload 11, 2) := by decide +kernel
theorem dL_law_449 : decode cL_law 449 = .ok (.iconst 1, 1) := by decide +kernel
theorem dL_law_450 : decode cL_law 450 = .ok (.invokevirtual 44, 3) := by decide +kernel
theorem dL_law_453 : decode cL_law 453 = .ok (.invokestatic 47, 3) := by decide +kernel
theorem dL_law_456 : decode cL_law 456 = .ok (.if_icmp .eq 1147, 3) := by decide +kernel
theorem dL_law_459 : decode cL_law 459 = .ok (.iconst 0, 1) := by decide +kernel
theorem dL_law_460 : decode cL_law 460 = .ok (.ireturn, 1) := by decide +kernel
theorem dL_law_461 : decode cL_law 461 = .ok (.aload_n 1, 1) := by decide +kernel
theorem dL_law_462 : decode cL_law 462 = .ok (.iconst 1, 1) := by decide +kernel
theorem dL_law_463 : decode cL_law 463 = .ok (.iload 8, 2) := by decide +kernel
theorem dL_law_465 : decode cL_law 465 = .ok (.iconst 3, 1) := by decide +kernel
theorem dL_law_466 : decode cL_law 466 = .ok (.ishr, 1) := by decide +kernel
theorem dL_law_467 : decode cL_law 467 = .ok (.bipush 7, 2) := by decide +kernel
theorem dL_law_469 : decode cL_law 469 = .ok (.invokestatic 18, 3) := by decide +kernel
theorem dL_law_472 : decode cL_law 472 = .ok (.iadd, 1) := by decide +kernel
theorem dL_law_473 : decode cL_law 473 = .ok (.bipush 50, 2) := by decide +kernel
theorem dL_law_475 : decode cL_law 475 = .ok (.iload 8, 2) := by decide +kernel
theorem dL_law_477 : decode cL_law 477 = .ok (.iconst 4, 1) := by decide +kernel
theorem dL_law_478 : decode cL_law 478 = .ok (.ishr, 1) := by decide +kernel
theorem dL_law_479 : decode cL_law 479 = .ok (.bipush 60, 2) := by decide +kernel
theorem dL_law_481 : decode cL_law 481 = .ok (.invokestatic 18, 3) := by decide +kernel
theorem dL_law_484 : decode cL_law 484 = .ok (.iadd, 1) := by decide +kernel
theorem dL_law_485 : decode cL_law 485 = .ok (.sipush 150, 3) := by decide +kernel
theorem dL_law_488 : decode cL_law 488 = .ok (.iload 8, 2) := by decide +kernel
theorem dL_law_490 : decode cL_law 490 = .ok (.iconst 5, 1) := by decide +kernel
theorem dL_law_491 : decode cL_law 491 = .ok (.ishr, 1) := by decide +kernel
theorem dL_law_492 : decode cL_law 492 = .ok (.sipush 700, 3) := by decide +kernel
theorem dL_law_495 : decode cL_law 495 = .ok (.invokestatic 18, 3) := by decide +kernel
theorem dL_law_498 : decode cL_law 498 = .ok (.iadd, 1) := by decide +kernel
theorem dL_law_499 : decode cL_law 499 = .ok (.iload 8, 2) := by decide +kernel
theorem dL_law_501 : decode cL_law 501 = .ok (.bipush 6, 2) := by decide +kernel
theorem dL_law_503 : decode cL_law 503 = .ok (.ishr, 1) := by decide +kernel
theorem dL_law_504 : decode cL_law 504 = .ok (.bipush 51, 2) := by decide +kernel
theorem dL_law_506 : decode cL_law 506 = .ok (.invokestatic 18, 3) := by decide +kernel
theorem dL_law_509 : decode cL_law 509 = .ok (.invokevirtual 52, 3) := by decide +kernel
theorem dL_law_512 : decode cL_law 512 = .ok (.iload 15, 2) := by decide +kernel
theorem dL_law_514 : decode cL_law 514 = .ok (.if_icmp .ne 14, 3) := by decide +kernel
theorem dL_law_517 : decode cL_law 517 = .ok (.aload_n 1, 1) := by decide +kernel
theorem dL_law_518 : decode cL_law 518 = .ok (.bipush 14, 2) := by decide +kernel
theorem dL_law_520 : decode cL_law 520 = .ok (.invokevirtual 30, 3) := by decide +kernel
theorem dL_law_523 : decode cL_law 523 = .ok (.iload 15, 2) := by decide +kernel
theorem dL_law_525 : decode cL_law 525 = .ok (.if_icmp .eq 1078, 3) := by decide +kernel
theorem dL_law_528 : decode cL_law 528 = .ok (.iconst 0, 1) := by decide +kernel
end
section
theorem dL_law_529 : decode cL_law 529 = .ok (.ireturn, 1) := by decide +kernel
theorem dL_law_530 : decode cL_law 530 = .ok (.iload 10, 2) := by decide +kernel
theorem dL_law_532 : decode cL_law 532 = .ok (.ifCond .lt 1071, 3) := by decide +kernel
theorem dL_law_535 : decode cL_law 535 = .ok (.iload 12, 2) := by decide +kernel
theorem dL_law_537 : decode cL_law 537 = .ok (.ifCond .ne 1066, 3) := by decide +kernel
theorem dL_law_540 : decode cL_law 540 = .ok (.aload_n 1, 1) := by decide +kernel
theorem dL_law_541 : decode cL_law 541 = .ok (.iload 10, 2) := by decide +kernel
theorem dL_law_543 : decode cL_law 543 = .ok (.bipush 6, 2) := by decide +kernel
theorem dL_law_545 : decode cL_law 545 = .ok (.invokevirtual 56, 3) := by decide +kernel
theorem dL_law_548 : decode cL_law 548 = .ok (.iconst 1, 1) := by decide +kernel
theorem dL_law_549 : decode cL_law 549 = .ok (.if_icmp .ne 6, 3) := by decide +kernel
theorem dL_law_552 : decode cL_law 552 = .ok (.goto 1051, 3) := by decide +kernel
theorem dL_law_555 : decode cL_law 555 = .ok (.aload_n 1, 1) := by decide +kernel
theorem dL_law_556 : decode cL_law 556 = .ok (.iload 10, 2) := by decide +kernel
theorem dL_law_558 : decode cL_law 558 = .ok (.iconst 5, 1) := by decide +kernel
theorem dL_law_559 : decode cL_law 559 = .ok (.invokevirtual 56, 3) := by decide +kernel
theorem dL_law_562 : decode cL_law 562 = .ok (.iconst 1, 1) := by decide +kernel
theorem dL_law_563 : decode cL_law 563 = .ok (.if_icmp .ne 7, 3) := by decide +kernel
theorem dL_law_566 : decode cL_law 566 = .ok (.iconst 1, 1) := by decide +kernel
theorem dL_law_567 : decode cL_law 567 = .ok (.goto 4, 3) := by decide +kernel
theorem dL_law_570 : decode cL_law 570 = .ok (.iconst 0, 1) := by decide +kernel
theorem dL_law_571 : decode cL_law 571 = .ok (.istore 16, 2) := by decide +kernel
theorem dL_law_573 : decode cL_law 573 = .ok (.aload_n 1, 1) := by decide +kernel
theorem dL_law_574 : decode cL_law 574 = .ok (.iload 10, 2) := by decide +kernel
theorem dL_law_576 : decode cL_law 576 = .ok (.iconst 0, 1) := by decide +kernel
theorem dL_law_577 : decode cL_law 577 = .ok (.invokevirtual 56, 3) := by decide +kernel
theorem dL_law_580 : decode cL_law 580 = .ok (.istore 17, 2) := by decide +kernel
theorem dL_law_582 : decode cL_law 582 = .ok (.aload_n 1, 1) := by decide +kernel
theorem dL_law_583 : decode cL_law 583 = .ok (.iload 17, 2) := by decide +kernel
theorem dL_law_585 : decode cL_law 585 = .ok (.iconst 2, 1) := by decide +kernel
theorem dL_law_586 : decode cL_law 586 = .ok (.invokevirtual 59, 3) := by decide +kernel
theorem dL_law_589 : decode cL_law 589 = .ok (.aload_n 1, 1) := by decide +kernel
theorem dL_law_590 : decode cL_law 590 = .ok (.iload 17, 2) := by decide +kernel
theorem dL_law_592 : decode cL_law 592 = .ok (.iconst 1, 1) := by decide +kernel
theorem dL_law_593 : decode cL_law 593 = .ok (.invokevirtual 59, 3) := by decide +kernel
theorem dL_law_596 : decode cL_law 596 = .ok (.if_icmp .ge 7, 3) := by decide +kernel
theorem dL_law_599 : decode cL_law 599 = .ok (.iconst 1, 1) := by decide +kernel
theorem dL_law_600 : decode cL_law 600 = .ok (.goto 4, 3) := by decide +kernel
theorem dL_law_603 : decode cL_law 603 = .ok (.iconst 0, 1) := by decide +kernel
theorem dL_law_604 : decode cL_law 604 = .ok (.istore 18, 2) := by decide +kernel
theorem dL_law_606 : decode cL_law 606 = .ok (.aload_n 1, 1) := by decide +kernel
theorem dL_law_607 : decode cL_law 607 = .ok (.iload 10, 2) := by decide +kernel
theorem dL_law_609 : decode cL_law 609 = .ok (.invokevirtual 62, 3) := by decide +kernel
theorem dL_law_612 : decode cL_law 612 = .ok (.istore 19, 2) := by decide +kernel
theorem dL_law_614 : decode cL_law 614 = .ok (.iload 19, 2) := by decide +kernel
theorem dL_law_616 : decode cL_law 616 = .ok (.iload 16, 2) := by decide +kernel
theorem dL_law_618 : decode cL_law 618 = .ok (.ifCond .ne 8, 3) := by decide +kernel
theorem dL_law_621 : decode cL_law 621 = .ok (.bipush (-2), 2) := by decide +kernel
theorem dL_law_623 : decode cL_law 623 = .ok (.goto 17, 3) := by decide +kernel
theorem dL_law_626 : decode cL_law 626 = .ok (.iload 18, 2) := by decide +kernel
theorem dL_law_628 : decode cL_law 628 = .ok (.ifCond .eq 10, 3) := by decide +kernel
theorem dL_law_631 : decode cL_law 631 = .ok (.iload 14, 2) := by decide +kernel
theorem dL_law_633 : decode cL_law 633 = .ok (.iconst 1, 1) := by decide +kernel
theorem dL_law_634 : decode cL_law 634 = .ok (.iadd, 1) := by decide +kernel
theorem dL_law_635 : decode cL_law 635 = .ok (.goto 5, 3) := by decide +kernel
theorem dL_law_638 : decode cL_law 638 = .ok (.bipush (-3), 2) := by decide +kernel
theorem dL_law_640 : decode cL_law 640 = .ok (.if_icmp .ne 29, 3) := by decide +kernel
theorem dL_law_643 : decode cL_law 643 = .ok (.aload_n 1, 1) := by decide +kernel
theorem dL_law_644 : decode cL_law 644 = .ok (.iload 10, 2) := by decide +kernel
theorem dL_law_646 : decode cL_law 646 = .ok (.bipush 6, 2) := by decide +kernel
theorem dL_law_648 : decode cL_law 648 = .ok (.invokevirtual 56, 3) := by decide +kernel
theorem dL_law_651 : decode cL_law 651 = .ok (.iload 16, 2) := by decide +kernel
theorem dL_law_653 : decode cL_law 653 = .ok (.ifCond .eq 12, 3) := by decide +kernel
theorem dL_law_656 : decode cL_law 656 = .ok (.iload 18, 2) := by decide +kernel
theorem dL_law_658 : decode cL_law 658 = .ok (.ifCond .eq 7, 3) := by decide +kernel
theorem dL_law_661 : decode cL_law 661 = .ok (.iconst 1, 1) := by decide +kernel
theorem dL_law_662 : decode cL_law 662 = .ok (.goto 4, 3) := by decide +kernel
theorem dL_law_665 : decode cL_law 665 = .ok (.iconst 0, 1) := by decide +kernel
theorem dL_law_666 : decode cL_law 666 = .ok (.if_icmp .eq 5, 3) := by decide +kernel
theorem dL_law_669 : decode cL_law 669 = .ok (.iconst 0, 1) := by decide +kernel
theorem dL_law_670 : decode cL_law 670 = .ok (.ireturn, 1) := by decide +kernel
theorem dL_law_671 : decode cL_law 671 = .ok (.iload 4, 2) := by decide +kernel
theorem dL_law_673 : decode cL_law 673 = .ok (.iload 16, 2) := by decide +kernel
theorem dL_law_675 : decode cL_law 675 = .ok (.ifCond .eq 13, 3) := by decide +kernel
theorem dL_law_678 : decode cL_law 678 = .ok (.iload 18, 2) := by decide +kernel
theorem dL_law_680 : decode cL_law 680 = .ok (.ifCond .eq 8, 3) := by decide +kernel
theorem dL_law_683 : decode cL_law 683 = .ok (.iload 15, 2) := by decide +kernel
theorem dL_law_685 : decode cL_law 685 = .ok (.goto 4, 3) := by decide +kernel
theorem dL_law_688 : decode cL_law 688 = .ok (.iconst 0, 1) := by decide +kernel
theorem dL_law_689 : decode cL_law 689 = .ok (.iadd, 1) := by decide +kernel
theorem dL_law_690 : decode cL_law 690 = .ok (.istore 4, 2) := by decide +kernel
theorem dL_law_692 : decode cL_law 692 = .ok (.goto 911, 3) := by decide +kernel
theorem dL_law_695 : decode cL_law 695 = .ok (.iload 10, 2) := by decide +kernel
theorem dL_law_697 : decode cL_law 697 = .ok (.ifCond .lt 906, 3) := by decide +kernel
theorem dL_law_700 : decode cL_law 700 = .ok (.iload 12, 2) := by decide +kernel
theorem dL_law_702 : decode cL_law 702 = .ok (.ifCond .ne 901, 3) := by decide +kernel
theorem dL_law_705 : decode cL_law 705 = .ok (.aload_n 1, 1) := by decide +kernel
theorem dL_law_706 : decode cL_law 706 = .ok (.iload 10, 2) := by decide +kernel
theorem dL_law_708 : decode cL_law 708 = .ok (.bipush 6, 2) := by decide +kernel
theorem dL_law_710 : decode cL_law 710 = .ok (.invokevirtual 56, 3) := by decide +kernel
theorem dL_law_713 : decode cL_law 713 = .ok (.iconst 1, 1) := by decide +kernel
theorem dL_law_714 : decode cL_law 714 = .ok (.if_icmp .ne 6, 3) := by decide +kernel
theorem dL_law_717 : decode cL_law 717 = .ok (.goto 886, 3) := by decide +kernel
theorem dL_law_720 : decode cL_law 720 = .ok (.aload_n 1, 1) := by decide +kernel
theorem dL_law_721 : decode cL_law 721 = .ok (.iload 10, 2) := by decide +kernel
theorem dL_law_723 : decode cL_law 723 = .ok (.iconst 5, 1) := by decide +kernel
theorem dL_law_724 : decode cL_law 724 = .ok (.invokevirtual 56, 3) := by decide +kernel
theorem dL_law_727 : decode cL_law 727 = .ok (.iconst 1, 1) := by decide +kernel
theorem dL_law_728 : decode cL_law 728 = .ok (.if_icmp .ne 27, 3) := by decide +kernel
theorem dL_law_731 : decode cL_law 731 = .ok (.aload_n 1, 1) := by decide +kernel
theorem dL_law_732 : decode cL_law 732 = .ok (.iload 11, 2) := by decide +kernel
theorem dL_law_734 : decode cL_law 734 = .ok (.iconst 1, 1) := by decide +kernel
theorem dL_law_735 : decode cL_law 735 = .ok (.invokevirtual 44, 3) := by decide +kernel
theorem dL_law_738 : decode cL_law 738 = .ok (.aload_n 1, 1) := by decide +kernel
theorem dL_law_739 : decode cL_law 739 = .ok (.iload 10, 2) := by decide +kernel
theorem dL_law_741 : decode cL_law 741 = .ok (.iconst 1, 1) := by decide +kernel
theorem dL_law_742 : decode cL_law 742 = .ok (.invokevirtual 56, 3) := by decide +kernel
theorem dL_law_745 : decode cL_law 745 = .ok (.ishr, 1) := by decide +kernel
theorem dL_law_746 : decode cL_law 746 = .ok (.iconst 1, 1) := by decide +kernel
theorem dL_law_747 : decode cL_law 747 = .ok (.iand, 1) := by decide +kernel
theorem dL_law_748 : decode cL_law 748 = .ok (.ifCond .ne 7, 3) := by decide +kernel
theorem dL_law_751 : decode cL_law 751 = .ok (.iconst 1, 1) := by decide +kernel
theorem dL_law_752 : decode cL_law 752 = .ok (.goto 4, 3) := by decide +kernel
theorem dL_law_755 : decode cL_law 755 = .ok (.iconst 0, 1) := by decide +kernel
theorem dL_law_756 : decode cL_law 756 = .ok (.istore 16, 2) := by decide +kernel
theorem dL_law_758 : decode cL_law 758 = .ok (.aload_n 1, 1) := by decide +kernel
theorem dL_law_759 : decode cL_law 759 = .ok (.iload 11, 2) := by decide +kernel
theorem dL_law_761 : decode cL_law 761 = .ok (.iload 10, 2) := by decide +kernel
theorem dL_law_763 : decode cL_law 763 = .ok (.invokevirtual 65, 3) := by decide +kernel
theorem dL_law_766 : decode cL_law 766 = .ok (.istore 17, 2) := by decide +kernel
theorem dL_law_768 : decode cL_law 768 = .ok (.iload 17, 2) := by decide +kernel
theorem dL_law_770 : decode cL_law 770 = .ok (.ifCond .lt 20, 3) := by decide +kernel
theorem dL_law_773 : decode cL_law 773 = .ok (.iload 16, 2) := by decide +kernel
theorem dL_law_775 : decode cL_law 775 = .ok (.ifCond .eq 26, 3) := by decide +kernel
theorem dL_law_778 : decode cL_law 778 = .ok (.iload 17, 2) := by decide +kernel
theorem dL_law_780 : decode cL_law 780 = .ok (.iload 14, 2) := by decide +kernel
theorem dL_law_782 : decode cL_law 782 = .ok (.iconst 1, 1) := by decide +kernel
theorem dL_law_783 : decode cL_law 783 = .ok (.iadd, 1) := by decide +kernel
theorem dL_law_784 : decode cL_law 784 = .ok (.if_icmp .eq 19, 3) := by decide +kernel
theorem dL_law_787 : decode cL_law 787 = .ok (.goto 14, 3) := by decide +kernel
theorem dL_law_790 : decode cL_law 790 = .ok (.aload_n 1, 1) := by decide +kernel
theorem dL_law_791 : decode cL_law 791 = .ok (.iload 10, 2) := by decide +kernel
theorem dL_law_793 : decode cL_law 793 = .ok (.bipush 6, 2) := by decide +kernel
theorem dL_law_795 : decode cL_law 795 = .ok (.invokevirtual 56, 3) := by decide +kernel
theorem dL_law_798 : decode cL_law 798 = .ok (.ifCond .eq 5, 3) := by decide +kernel
theorem dL_law_801 : decode cL_law 801 = .ok (.iconst 0, 1) := by decide +kernel
theorem dL_law_802 : decode cL_law 802 = .ok (.ireturn, 1) := by decide +kernel
theorem dL_law_803 : decode cL_law 803 = .ok (.iload 4, 2) := by decide +kernel
theorem dL_law_805 : decode cL_law 805 = .ok (.iload 17, 2) := by decide +kernel
theorem dL_law_807 : decode cL_law 807 = .ok (.ifCond .lt 10, 3) := by decide +kernel
theorem dL_law_810 : decode cL_law 810 = .ok (.iload 15, 2) := by decide +kernel
theorem dL_law_812 : decode cL_law 812 = .ok (.iconst 2, 1) := by decide +kernel
theorem dL_law_813 : decode cL_law 813 = .ok (.idiv, 1) := by decide +kernel
theorem dL_law_814 : decode cL_law 814 = .ok (.goto 4, 3) := by decide +kernel
theorem dL_law_817 : decode cL_law 817 = .ok (.iconst 0, 1) := by decide +kernel
theorem dL_law_818 : decode cL_law 818 = .ok (.iadd, 1) := by decide +kernel
theorem dL_law_819 : decode cL_law 819 = .ok (.istore 4, 2) := by decide +kernel
theorem dL_law_821 : decode cL_law 821 = .ok (.iload 6, 2) := by decide +kernel
theorem dL_law_823 : decode cL_law 823 = .ok (.iload 17, 2) := by decide +kernel
theorem dL_law_825 : decode cL_law 825 = .ok (.ifCond .lt 7, 3) := by decide +kernel
theorem dL_law_828 : decode cL_law 828 = .ok (.iconst 1, 1) := by decide +kernel
theorem dL_law_829 : decode cL_law 829 = .ok (.goto 4, 3) := by decide +kernel
theorem dL_law_832 : decode cL_law 832 = .ok (.iconst 0, 1) := by decide +kernel
theorem dL_law_833 : decode cL_law 833 = .ok (.iadd, 1) := by decide +kernel
theorem dL_law_834 : decode cL_law 834 = .ok (.istore 6, 2) := by decide +kernel
theorem dL_law_836 : decode cL_law 836 = .ok (.goto 767, 3) := by decide +kernel
theorem dL_law_839 : decode cL_law 839 = .ok (.iload 10, 2) := by decide +kernel
theorem dL_law_841 : decode cL_law 841 = .ok (.ifCond .ge 6, 3) := by decide +kernel
theorem dL_law_844 : decode cL_law 844 = .ok (.goto 759, 3) := by decide +kernel
theorem dL_law_847 : decode cL_law 847 = .ok (.iconst 1, 1) := by decide +kernel
theorem dL_law_848 : decode cL_law 848 = .ok (.iload 8, 2) := by decide +kernel
theorem dL_law_850 : decode cL_law 850 = .ok (.iconst 3, 1) := by decide +kernel
theorem dL_law_851 : decode cL_law 851 = .ok (.ishr, 1) := by decide +kernel
theorem dL_law_852 : decode cL_law 852 = .ok (.bipush 90, 2) := by decide +kernel
theorem dL_law_854 : decode cL_law 854 = .ok (.invokestatic 18, 3) := by decide +kernel
theorem dL_law_857 : decode cL_law 857 = .ok (.iadd, 1) := by decide +kernel
theorem dL_law_858 : decode cL_law 858 = .ok (.istore 16, 2) := by decide +kernel
theorem dL_law_860 : decode cL_law 860 = .ok (.aload_n 1, 1) := by decide +kernel
theorem dL_law_861 : decode cL_law 861 = .ok (.iload 10, 2) := by decide +kernel
theorem dL_law_863 : decode cL_law 863 = .ok (.iconst 2, 1) := by decide +kernel
theorem dL_law_864 : decode cL_law 864 = .ok (.invokevirtual 56, 3) := by decide +kernel
theorem dL_law_867 : decode cL_law 867 = .ok (.istore 17, 2) := by decide +kernel
theorem dL_law_869 : decode cL_law 869 = .ok (.aload_n 1, 1) := by decide +kernel
theorem dL_law_870 : decode cL_law 870 = .ok (.iload 10, 2) := by decide +kernel
theorem dL_law_872 : decode cL_law 872 = .ok (.iload 16, 2) := by decide +kernel
theorem dL_law_874 : decode cL_law 874 = .ok (.invokevirtual 68, 3) := by decide +kernel
theorem dL_law_877 : decode cL_law 877 = .ok (.iload 17, 2) := by decide +kernel
theorem dL_law_879 : decode cL_law 879 = .ok (.iload 16, 2) := by decide +kernel
theorem dL_law_881 : decode cL_law 881 = .ok (.iadd, 1) := by decide +kernel
theorem dL_law_882 : decode cL_law 882 = .ok (.if_icmp .eq 5, 3) := by decide +kernel
theorem dL_law_885 : decode cL_law 885 = .ok (.iconst 0, 1) := by decide +kernel
theorem dL_law_886 : decode cL_law 886 = .ok (.ireturn, 1) := by decide +kernel
theorem dL_law_887 : decode cL_law 887 = .ok (.iload 5, 2) := by decide +kernel
theorem dL_law_889 : decode cL_law 889 = .ok (.iload 16, 2) := by decide +kernel
theorem dL_law_891 : decode cL_law 891 = .ok (.iadd, 1) := by decide +kernel
theorem dL_law_892 : decode cL_law 892 = .ok (.istore 5, 2) := by decide +kernel
theorem dL_law_894 : decode cL_law 894 = .ok (.goto 709, 3) := by decide +kernel
theorem dL_law_897 : decode cL_law 897 = .ok (.iload 12, 2) := by decide +kernel
theorem dL_law_899 : decode cL_law 899 = .ok (.ifCond .ne 12, 3) := by decide +kernel
theorem dL_law_902 : decode cL_law 902 = .ok (.iload 14, 2) := by decide +kernel
theorem dL_law_904 : decode cL_law 904 = .ok (.iconst 3, 1) := by decide +kernel
theorem dL_law_905 : decode cL_law 905 = .ok (.if_icmp .ge 22, 3) := by decide +kernel
theorem dL_law_908 : decode cL_law 908 = .ok (.goto 695, 3) := by decide +kernel
theorem dL_law_911 : decode cL_law 911 = .ok (.iload 12, 2) := by decide +kernel
theorem dL_law_913 : decode cL_law 913 = .ok (.iconst 1, 1) := by decide +kernel
theorem dL_law_914 : decode cL_law 914 = .ok (.if_icmp .ne 13, 3) := by decide +kernel
theorem dL_law_917 : decode cL_law 917 = .ok (.aload_n 1, 1) := by decide +kernel
theorem dL_law_918 : decode cL_law 918 = .ok (.invokevirtual 71, 3) := by decide +kernel
theorem dL_law_921 : decode cL_law 921 = .ok (.ifCond .le 6, 3) := by decide +kernel
theorem dL_law_924 : decode cL_law 924 = .ok (.goto 679, 3) := by decide +kernel
theorem dL_law_927 : decode cL_law 927 = .ok (.iload 12, 2) := by decide +kernel
theorem dL_law_929 : decode cL_law 929 = .ok (.ifCond .ne 10, 3) := by decide +kernel
theorem dL_law_932 : decode cL_law 932 = .ok (.aload_n 1, 1) := by decide +kernel
theorem dL_law_933 : decode cL_law 933 = .ok (.invokevirtual 74, 3) := by decide +kernel
theorem dL_law_936 : decode cL_law 936 = .ok (.goto 67, 3) := by decide +kernel
theorem dL_law_939 : decode cL_law 939 = .ok (.iload 12, 2) := by decide +kernel
theorem dL_law_941 : decode cL_law 941 = .ok (.iconst 1, 1) := by decide +kernel
theorem dL_law_942 : decode cL_law 942 = .ok (.if_icmp .ne 21, 3) := by decide +kernel
theorem dL_law_945 : decode cL_law 945 = .ok (.aload_n 1, 1) := by decide +kernel
theorem dL_law_946 : decode cL_law 946 = .ok (.iconst 3, 1) := by decide +kernel
theorem dL_law_947 : decode cL_law 947 = .ok (.iload 8, 2) := by decide +kernel
theorem dL_law_949 : decode cL_law 949 = .ok (.iconst 3, 1) := by decide +kernel
theorem dL_law_950 : decode cL_law 950 = .ok (.ishr, 1) := by decide +kernel
theorem dL_law_951 : decode cL_law 951 = .ok (.bipush 6, 2) := by decide +kernel
theorem dL_law_953 : decode cL_law 953 = .ok (.invokestatic 18, 3) := by decide +kernel
theorem dL_law_956 : decode cL_law 956 = .ok (.iadd, 1) := by decide +kernel
theorem dL_law_957 : decode cL_law 957 = .ok (.invokevirtual 77, 3) := by decide +kernel
theorem dL_law_960 : decode cL_law 960 = .ok (.goto 43, 3) := by decide +kernel
theorem dL_law_963 : decode cL_law 963 = .ok (.iload 12, 2) := by decide +kernel
theorem dL_law_965 : decode cL_law 965 = .ok (.iconst 2, 1) := by decide +kernel
theorem dL_law_966 : decode cL_law 966 = .ok (.if_icmp .ne 20, 3) := by decide +kernel
theorem dL_law_969 : decode cL_law 969 = .ok (.aload_n 1, 1) := by decide +kernel
theorem dL_law_970 : decode cL_law 970 = .ok (.iconst 2, 1) := by decide +kernel
theorem dL_law_971 : decode cL_law 971 = .ok (.iload 8, 2) := by decide +kernel
theorem dL_law_973 : decode cL_law 973 = .ok (.iconst 3, 1) := by decide +kernel
theorem dL_law_974 : decode cL_law 974 = .ok (.ishr, 1) := by decide +kernel
theorem dL_law_975 : decode cL_law 975 = .ok (.iconst 4, 1) := by decide +kernel
theorem dL_law_976 : decode cL_law 976 = .ok (.invokestatic 18, 3) := by decide +kernel
theorem dL_law_979 : decode cL_law 979 = .ok (.iadd, 1) := by decide +kernel
theorem dL_law_980 : decode cL_law 980 = .ok (.invokevirtual 80, 3) := by decide +kernel
theorem dL_law_983 : decode cL_law 983 = .ok (.goto 20, 3) := by decide +kernel
theorem dL_law_986 : decode cL_law 986 = .ok (.iload 12, 2) := by decide +kernel
theorem dL_law_988 : decode cL_law 988 = .ok (.iconst 3, 1) := by decide +kernel
theorem dL_law_989 : decode cL_law 989 = .ok (.if_icmp .ne 10, 3) := by decide +kernel
theorem dL_law_992 : decode cL_law 992 = .ok (.aload_n 1, 1) := by decide +kernel
theorem dL_law_993 : decode cL_law 993 = .ok (.invokevirtual 83, 3) := by decide +kernel
theorem dL_law_996 : decode cL_law 996 = .ok (.goto 7, 3) := by decide +kernel
theorem dL_law_999 : decode cL_law 999 = .ok (.aload_n 1, 1) := by decide +kernel
theorem dL_law_1000 : decode cL_law 1000 = .ok (.invokevirtual 86, 3) := by decide +kernel
theorem dL_law_1003 : decode cL_law 1003 = .ok (.istore 16, 2) := by decide +kernel
theorem dL_law_1005 : decode cL_law 1005 = .ok (.aload_n 1, 1) := by decide +kernel
theorem dL_law_1006 : decode cL_law 1006 = .ok (.iconst 1, 1) := by decide +kernel
theorem dL_law_1007 : decode cL_law 1007 = .ok (.invokevirtual 30, 3) := by decide +kernel
theorem dL_law_1010 : decode cL_law 1010 = .ok (.iload 12, 2) := by decide +kernel
theorem dL_law_1012 : decode cL_law 1012 = .ok (.iconst 1, 1) := by decide +kernel
theorem dL_law_1013 : decode cL_law 1013 = .ok (.iadd, 1) := by decide +kernel
theorem dL_law_1014 : decode cL_law 1014 = .ok (.iconst 5, 1) := by decide +kernel
theorem dL_law_1015 : decode cL_law 1015 = .ok (.irem, 1) := by decide +kernel
theorem dL_law_1016 : decode cL_law 1016 = .ok (.if_icmp .ne 25, 3) := by decide +kernel
theorem dL_law_1019 : decode cL_law 1019 = .ok (.aload_n 1, 1) := by decide +kernel
theorem dL_law_1020 : decode cL_law 1020 = .ok (.iconst 0, 1) := by decide +kernel
theorem dL_law_1021 : decode cL_law 1021 = .ok (.invokevirtual 30, 3) := by decide +kernel
theorem dL_law_1024 : decode cL_law 1024 = .ok (.iload 13, 2) := by decide +kernel
theorem dL_law_1026 : decode cL_law 1026 = .ok (.iload 12, 2) := by decide +kernel
theorem dL_law_1028 : decode cL_law 1028 = .ok (.iconst 4, 1) := by decide +kernel
theorem dL_law_1029 : decode cL_law 1029 = .ok (.if_icmp .ne 7, 3) := by decide +kernel
theorem dL_law_1032 : decode cL_law 1032 = .ok (.iconst 1, 1) := by decide +kernel
theorem dL_law_1033 : decode cL_law 1033 = .ok (.goto 4, 3) := by decide +kernel
theorem dL_law_1036 : decode cL_law 1036 = .ok (.iconst 0, 1) := by decide +kernel
theorem dL_law_1037 : decode cL_law 1037 = .ok (.iadd, 1) := by decide +kernel
theorem dL_law_1038 : decode cL_law 1038 = .ok (.if_icmp .eq 5, 3) := by decide +kernel
theorem dL_law_1041 : decode cL_law 1041 = .ok (.iconst 0, 1) := by decide +kernel
theorem dL_law_1042 : decode cL_law 1042 = .ok (.ireturn, 1) := by decide +kernel
theorem dL_law_1043 : decode cL_law 1043 = .ok (.iload 12, 2) := by decide +kernel
theorem dL_law_1045 : decode cL_law 1045 = .ok (.ifCond .ne 15, 3) := by decide +kernel
theorem dL_law_1048 : decode cL_law 1048 = .ok (.iload 16, 2) := by decide +kernel
theorem dL_law_1050 : decode cL_law 1050 = .ok (.iconst 3, 1) := by decide +kernel
theorem dL_law_1051 : decode cL_law 1051 = .ok (.iload 14, 2) := by decide +kernel
theorem dL_law_1053 : decode cL_law 1053 = .ok (.imul, 1) := by decide +kernel
theorem dL_law_1054 : decode cL_law 1054 = .ok (.if_icmp .le 81, 3) := by decide +kernel
theorem dL_law_1057 : decode cL_law 1057 = .ok (.goto 76, 3) := by decide +kernel
theorem dL_law_1060 : decode cL_law 1060 = .ok (.iload 12, 2) := by decide +kernel
theorem dL_law_1062 : decode cL_law 1062 = .ok (.iconst 1, 1) := by decide +kernel
theorem dL_law_1063 : decode cL_law 1063 = .ok (.if_icmp .ne 20, 3) := by decide +kernel
theorem dL_law_1066 : decode cL_law 1066 = .ok (.iload 16, 2) := by decide +kernel
theorem dL_law_1068 : decode cL_law 1068 = .ok (.aload_n 1, 1) := by decide +kernel
theorem dL_law_1069 : decode cL_law 1069 = .ok (.bipush 7, 2) := by decide +kernel
theorem dL_law_1071 : decode cL_law 1071 = .ok (.invokevirtual 30, 3) := by decide +kernel
theorem dL_law_1074 : decode cL_law 1074 = .ok (.invokestatic 47, 3) := by decide +kernel
theorem dL_law_1077 : decode cL_law 1077 = .ok (.if_icmp .eq 58, 3) := by decide +kernel
theorem dL_law_1080 : decode cL_law 1080 = .ok (.goto 53, 3) := by decide +kernel
theorem dL_law_1083 : decode cL_law 1083 = .ok (.iload 12, 2) := by decide +kernel
theorem dL_law_1085 : decode cL_law 1085 = .ok (.iconst 2, 1) := by decide +kernel
theorem dL_law_1086 : decode cL_law 1086 = .ok (.if_icmp .ne 20, 3) := by decide +kernel
theorem dL_law_1089 : decode cL_law 1089 = .ok (.iload 16, 2) := by decide +kernel
theorem dL_law_1091 : decode cL_law 1091 = .ok (.aload_n 1, 1) := by decide +kernel
theorem dL_law_1092 : decode cL_law 1092 = .ok (.bipush 8, 2) := by decide +kernel
theorem dL_law_1094 : decode cL_law 1094 = .ok (.invokevirtual 30, 3) := by decide +kernel
theorem dL_law_1097 : decode cL_law 1097 = .ok (.invokestatic 47, 3) := by decide +kernel
theorem dL_law_1100 : decode cL_law 1100 = .ok (.if_icmp .eq 35, 3) := by decide +kernel
theorem dL_law_1103 : decode cL_law 1103 = .ok (.goto 30, 3) := by decide +kernel
theorem dL_law_1106 : decode cL_law 1106 = .ok (.iload 12, 2) := by decide +kernel
theorem dL_law_1108 : decode cL_law 1108 = .ok (.iconst 3, 1) := by decide +kernel
theorem dL_law_1109 : decode cL_law 1109 = .ok (.if_icmp .ne 26, 3) := by decide +kernel
theorem dL_law_1112 : decode cL_law 1112 = .ok (.iload 16, 2) := by decide +kernel
theorem dL_law_1114 : decode cL_law 1114 = .ok (.aload_n 1, 1) := by decide +kernel
theorem dL_law_1115 : decode cL_law 1115 = .ok (.bipush 9, 2) := by decide +kernel
theorem dL_law_1117 : decode cL_law 1117 = .ok (.invokevirtual 30, 3) := by decide +kernel
theorem dL_law_1120 : decode cL_law 1120 = .ok (.if_icmp .ne 13, 3) := by decide +kernel
theorem dL_law_1123 : decode cL_law 1123 = .ok (.iload 16, 2) := by decide +kernel
theorem dL_law_1125 : decode cL_law 1125 = .ok (.aload_n 1, 1) := by decide +kernel
theorem dL_law_1126 : decode cL_law 1126 = .ok (.iconst 0, 1) := by decide +kernel
theorem dL_law_1127 : decode cL_law 1127 = .ok (.invokevirtual 89, 3) := by decide +kernel
theorem dL_law_1130 : decode cL_law 1130 = .ok (.if_icmp .eq 5, 3) := by decide +kernel
theorem dL_law_1133 : decode cL_law 1133 = .ok (.iconst 0, 1) := by decide +kernel
theorem dL_law_1134 : decode cL_law 1134 = .ok (.ireturn, 1) := by decide +kernel
theorem dL_law_1135 : decode cL_law 1135 = .ok (.iload 12, 2) := by decide +kernel
theorem dL_law_1137 : decode cL_law 1137 = .ok (.iconst 4, 1) := by decide +kernel
theorem dL_law_1138 : decode cL_law 1138 = .ok (.if_icmp .ne 465, 3) := by decide +kernel
theorem dL_law_1141 : decode cL_law 1141 = .ok (.iconst 0, 1) := by decide +kernel
theorem dL_law_1142 : decode cL_law 1142 = .ok (.istore 6, 2) := by decide +kernel
theorem dL_law_1144 : decode cL_law 1144 = .ok (.goto 459, 3) := by decide +kernel
theorem dL_law_1147 : decode cL_law 1147 = .ok (.iload 10, 2) := by decide +kernel
theorem dL_law_1149 : decode cL_law 1149 = .ok (.ifCond .lt 454, 3) := by decide +kernel
theorem dL_law_1152 : decode cL_law 1152 = .ok (.iload 12, 2) := by decide +kernel
theorem dL_law_1154 : decode cL_law 1154 = .ok (.iconst 2, 1) := by decide +kernel
theorem dL_law_1155 : decode cL_law 1155 = .ok (.if_icmp .ne 448, 3) := by decide +kernel
theorem dL_law_1158 : decode cL_law 1158 = .ok (.aload_n 1, 1) := by decide +kernel
theorem dL_law_1159 : decode cL_law 1159 = .ok (.iload 10, 2) := by decide +kernel
theorem dL_law_1161 : decode cL_law 1161 = .ok (.bipush 7, 2) := by decide +kernel
theorem dL_law_1163 : decode cL_law 1163 = .ok (.invokevirtual 56, 3) := by decide +kernel
theorem dL_law_1166 : decode cL_law 1166 = .ok (.iconst 1, 1) := by decide +kernel
theorem dL_law_1167 : decode cL_law 1167 = .ok (.if_icmp .ne 436, 3) := by decide +kernel
theorem dL_law_1170 : decode cL_law 1170 = .ok (.aload_n 1, 1) := by decide +kernel
theorem dL_law_1171 : decode cL_law 1171 = .ok (.iload 11, 2) := by decide +kernel
theorem dL_law_1173 : decode cL_law 1173 = .ok (.iconst 1, 1) := by decide +kernel
theorem dL_law_1174 : decode cL_law 1174 = .ok (.invokevirtual 44, 3) := by decide +kernel
theorem dL_law_1177 : decode cL_law 1177 = .ok (.aload_n 1, 1) := by decide +kernel
theorem dL_law_1178 : decode cL_law 1178 = .ok (.iload 10, 2) := by decide +kernel
theorem dL_law_1180 : decode cL_law 1180 = .ok (.iconst 1, 1) := by decide +kernel
theorem dL_law_1181 : decode cL_law 1181 = .ok (.invokevirtual 56, 3) := by decide +kernel
theorem dL_law_1184 : decode cL_law 1184 = .ok (.ishr, 1) := by decide +kernel
theorem dL_law_1185 : decode cL_law 1185 = .ok (.iconst 1, 1) := by decide +kernel
theorem dL_law_1186 : decode cL_law 1186 = .ok (.iand, 1) := by decide +kernel
theorem dL_law_1187 : decode cL_law 1187 = .ok (.iconst 1, 1) := by decide +kernel
theorem dL_law_1188 : decode cL_law 1188 = .ok (.if_icmp .ne 6, 3) := by decide +kernel
theorem dL_law_1191 : decode cL_law 1191 = .ok (.goto 412, 3) := by decide +kernel
theorem dL_law_1194 : decode cL_law 1194 = .ok (.iload 8, 2) := by decide +kernel
theorem dL_law_1196 : decode cL_law 1196 = .ok (.iconst 3, 1) := by decide +kernel
theorem dL_law_1197 : decode cL_law 1197 = .ok (.ishr, 1) := by decide +kernel
theorem dL_law_1198 : decode cL_law 1198 = .ok (.iconst 1, 1) := by decide +kernel
theorem dL_law_1199 : decode cL_law 1199 = .ok (.aload_n 1, 1) := by decide +kernel
theorem dL_law_1200 : decode cL_law 1200 = .ok (.iload 11, 2) := by decide +kernel
theorem dL_law_1202 : decode cL_law 1202 = .ok (.bipush 7, 2) := by decide +kernel
theorem dL_law_1204 : decode cL_law 1204 = .ok (.invokevirtual 44, 3) := by decide +kernel
theorem dL_law_1207 : decode cL_law 1207 = .ok (.iadd, 1) := by decide +kernel
theorem dL_law_1208 : decode cL_law 1208 = .ok (.invokestatic 18, 3) := by decide +kernel
theorem dL_law_1211 : decode cL_law 1211 = .ok (.istore 16, 2) := by decide +kernel
theorem dL_law_1213 : decode cL_law 1213 = .ok (.aload_n 1, 1) := by decide +kernel
theorem dL_law_1214 : decode cL_law 1214 = .ok (.iload 11, 2) := by decide +kernel
theorem dL_law_1216 : decode cL_law 1216 = .ok (.iload 10, 2) := by decide +kernel
theorem dL_law_1218 : decode cL_law 1218 = .ok (.iload 16, 2) := by decide +kernel
theorem dL_law_1220 : decode cL_law 1220 = .ok (.invokevirtual 92, 3) := by decide +kernel
theorem dL_law_1223 : decode cL_law 1223 = .ok (.aload_n 1, 1) := by decide +kernel
theorem dL_law_1224 : decode cL_law 1224 = .ok (.iload 11, 2) := by decide +kernel
theorem dL_law_1226 : decode cL_law 1226 = .ok (.bipush 7, 2) := by decide +kernel
theorem dL_law_1228 : decode cL_law 1228 = .ok (.invokevirtual 44, 3) := by decide +kernel
theorem dL_law_1231 : decode cL_law 1231 = .ok (.if_icmp .ne 16, 3) := by decide +kernel
theorem dL_law_1234 : decode cL_law 1234 = .ok (.aload_n 1, 1) := by decide +kernel
theorem dL_law_1235 : decode cL_law 1235 = .ok (.iload 10, 2) := by decide +kernel
theorem dL_law_1237 : decode cL_law 1237 = .ok (.bipush 10, 2) := by decide +kernel
theorem dL_law_1239 : decode cL_law 1239 = .ok (.invokevirtual 56, 3) := by decide +kernel
theorem dL_law_1242 : decode cL_law 1242 = .ok (.iload 16, 2) := by decide +kernel
theorem dL_law_1244 : decode cL_law 1244 = .ok (.if_icmp .ge 359, 3) := by decide +kernel
theorem dL_law_1247 : decode cL_law 1247 = .ok (.iconst 0, 1) := by decide +kernel
theorem dL_law_1248 : decode cL_law 1248 = .ok (.ireturn, 1) := by decide +kernel
theorem dL_law_1249 : decode cL_law 1249 = .ok (.aload_n 1, 1) := by decide +kernel
theorem dL_law_1250 : decode cL_law 1250 = .ok (.bipush 8, 2) := by decide +kernel
theorem dL_law_1252 : decode cL_law 1252 = .ok (.invokevirtual 30, 3) := by decide +kernel
theorem dL_law_1255 : decode cL_law 1255 = .ok (.invokestatic 47, 3) := by decide +kernel
theorem dL_law_1258 : decode cL_law 1258 = .ok (.istore 16, 2) := by decide +kernel
theorem dL_law_1260 : decode cL_law 1260 = .ok (.iload 12, 2) := by decide +kernel
theorem dL_law_1262 : decode cL_law 1262 = .ok (.iconst 3, 1) := by decide +kernel
theorem dL_law_1263 : decode cL_law 1263 = .ok (.if_icmp .ne 340, 3) := by decide +kernel
theorem dL_law_1266 : decode cL_law 1266 = .ok (.iload 16, 2) := by decide +kernel
theorem dL_law_1268 : decode cL_law 1268 = .ok (.ifCond .ne 6, 3) := by decide +kernel
theorem dL_law_1271 : decode cL_law 1271 = .ok (.goto 332, 3) := by decide +kernel
theorem dL_law_1274 : decode cL_law 1274 = .ok (.iconst 0, 1) := by decide +kernel
theorem dL_law_1275 : decode cL_law 1275 = .ok (.istore 17, 2) := by decide +kernel
theorem dL_law_1277 : decode cL_law 1277 = .ok (.iload 8, 2) := by decide +kernel
theorem dL_law_1279 : decode cL_law 1279 = .ok (.iconst 3, 1) := by decide +kernel
theorem dL_law_1280 : decode cL_law 1280 = .ok (.ishr, 1) := by decide +kernel
theorem dL_law_1281 : decode cL_law 1281 = .ok (.iload 16, 2) := by decide +kernel
theorem dL_law_1283 : decode cL_law 1283 = .ok (.invokestatic 18, 3) := by decide +kernel
theorem dL_law_1286 : decode cL_law 1286 = .ok (.istore 18, 2) := by decide +kernel
theorem dL_law_1288 : decode cL_law 1288 = .ok (.iconst 0, 1) := by decide +kernel
theorem dL_law_1289 : decode cL_law 1289 = .ok (.istore 19, 2) := by decide +kernel
theorem dL_law_1291 : decode cL_law 1291 = .ok (.iload 19, 2) := by decide +kernel
theorem dL_law_1293 : decode cL_law 1293 = .ok (.iload 16, 2) := by decide +kernel
theorem dL_law_1295 : decode cL_law 1295 = .ok (.if_icmp .ge 27, 3) := by decide +kernel
theorem dL_law_1298 : decode cL_law 1298 = .ok (.bipush 10, 2) := by decide +kernel
theorem dL_law_1300 : decode cL_law 1300 = .ok (.iload 17, 2) := by decide +kernel
theorem dL_law_1302 : decode cL_law 1302 = .ok (.imul, 1) := by decide +kernel
theorem dL_law_1303 : decode cL_law 1303 = .ok (.iconst 1, 1) := by decide +kernel
theorem dL_law_1304 : decode cL_law 1304 = .ok (.iadd, 1) := by decide +kernel
theorem dL_law_1305 : decode cL_law 1305 = .ok (.iload 18, 2) := by decide +kernel
theorem dL_law_1307 : decode cL_law 1307 = .ok (.iload 19, 2) := by decide +kernel
theorem dL_law_1309 : decode cL_law 1309 = .ok (.iadd, 1) := by decide +kernel
theorem dL_law_1310 : decode cL_law 1310 = .ok (.iload 16, 2) := by decide +kernel
theorem dL_law_1312 : decode cL_law 1312 = .ok (.irem, 1) := by decide +kernel
theorem dL_law_1313 : decode cL_law 1313 = .ok (.iadd, 1) := by decide +kernel
theorem dL_law_1314 : decode cL_law 1314 = .ok (.istore 17, 2) := by decide +kernel
theorem dL_law_1316 : decode cL_law 1316 = .ok (.iinc 19 1, 3) := by decide +kernel
theorem dL_law_1319 : decode cL_law 1319 = .ok (.goto (-28), 3) := by decide +kernel
theorem dL_law_1322 : decode cL_law 1322 = .ok (.aload_n 1, 1) := by decide +kernel
theorem dL_law_1323 : decode cL_law 1323 = .ok (.iload 11, 2) := by decide +kernel
theorem dL_law_1325 : decode cL_law 1325 = .ok (.iload 17, 2) := by decide +kernel
theorem dL_law_1327 : decode cL_law 1327 = .ok (.invokevirtual 95, 3) := by decide +kernel
theorem dL_law_1330 : decode cL_law 1330 = .ok (.iconst 1, 1) := by decide +kernel
theorem dL_law_1331 : decode cL_law 1331 = .ok (.if_icmp .lt 15, 3) := by decide +kernel
theorem dL_law_1334 : decode cL_law 1334 = .ok (.aload_n 1, 1) := by decide +kernel
theorem dL_law_1335 : decode cL_law 1335 = .ok (.iload 11, 2) := by decide +kernel
theorem dL_law_1337 : decode cL_law 1337 = .ok (.bipush 6, 2) := by decide +kernel
theorem dL_law_1339 : decode cL_law 1339 = .ok (.invokevirtual 44, 3) := by decide +kernel
theorem dL_law_1342 : decode cL_law 1342 = .ok (.iconst 1, 1) := by decide +kernel
theorem dL_law_1343 : decode cL_law 1343 = .ok (.if_icmp .eq 260, 3) := by decide +kernel
theorem dL_law_1346 : decode cL_law 1346 = .ok (.iconst 0, 1) := by decide +kernel
theorem dL_law_1347 : decode cL_law 1347 = .ok (.ireturn, 1) := by decide +kernel
theorem dL_law_1348 : decode cL_law 1348 = .ok (.aload_n 1, 1) := by decide +kernel
theorem dL_law_1349 : decode cL_law 1349 = .ok (.bipush 9, 2) := by decide +kernel
theorem dL_law_1351 : decode cL_law 1351 = .ok (.invokevirtual 30, 3) := by decide +kernel
theorem dL_law_1354 : decode cL_law 1354 = .ok (.istore 16, 2) := by decide +kernel
theorem dL_law_1356 : decode cL_law 1356 = .ok (.aload_n 1, 1) := by decide +kernel
theorem dL_law_1357 : decode cL_law 1357 = .ok (.bipush 11, 2) := by decide +kernel
theorem dL_law_1359 : decode cL_law 1359 = .ok (.invokevirtual 30, 3) := by decide +kernel
theorem dL_law_1362 : decode cL_law 1362 = .ok (.istore 17, 2) := by decide +kernel
theorem dL_law_1364 : decode cL_law 1364 = .ok (.iload 12, 2) := by decide +kernel
theorem dL_law_1366 : decode cL_law 1366 = .ok (.iconst 4, 1) := by decide +kernel
theorem dL_law_1367 : decode cL_law 1367 = .ok (.if_icmp .ne 236, 3) := by decide +kernel
theorem dL_law_1370 : decode cL_law 1370 = .ok (.iload 16, 2) := by decide +kernel
end
section
theorem dL_law_1372 : decode cL_law 1372 = .ok (.ifCond .ge 6, 3) := by decide +kernel
theorem dL_law_1375 : decode cL_law 1375 = .ok (.goto 228, 3) := by decide +kernel
theorem dL_law_1378 : decode cL_law 1378 = .ok (.aload_n 1, 1) := by decide +kernel
theorem dL_law_1379 : decode cL_law 1379 = .ok (.iload 16, 2) := by decide +kernel
theorem dL_law_1381 : decode cL_law 1381 = .ok (.invokevirtual 98, 3) := by decide +kernel
theorem dL_law_1384 : decode cL_law 1384 = .ok (.aload_n 1, 1) := by decide +kernel
theorem dL_law_1385 : decode cL_law 1385 = .ok (.invokevirtual 101, 3) := by decide +kernel
theorem dL_law_1388 : decode cL_law 1388 = .ok (.if_icmp .ne 27, 3) := by decide +kernel
theorem dL_law_1391 : decode cL_law 1391 = .ok (.aload_n 1, 1) := by decide +kernel
theorem dL_law_1392 : decode cL_law 1392 = .ok (.bipush 9, 2) := by decide +kernel
theorem dL_law_1394 : decode cL_law 1394 = .ok (.invokevirtual 30, 3) := by decide +kernel
theorem dL_law_1397 : decode cL_law 1397 = .ok (.iload 16, 2) := by decide +kernel
theorem dL_law_1399 : decode cL_law 1399 = .ok (.if_icmp .eq 16, 3) := by decide +kernel
theorem dL_law_1402 : decode cL_law 1402 = .ok (.aload_n 1, 1) := by decide +kernel
theorem dL_law_1403 : decode cL_law 1403 = .ok (.bipush 11, 2) := by decide +kernel
theorem dL_law_1405 : decode cL_law 1405 = .ok (.invokevirtual 30, 3) := by decide +kernel
theorem dL_law_1408 : decode cL_law 1408 = .ok (.iload 17, 2) := by decide +kernel
theorem dL_law_1410 : decode cL_law 1410 = .ok (.iconst 1, 1) := by decide +kernel
theorem dL_law_1411 : decode cL_law 1411 = .ok (.iadd, 1) := by decide +kernel
theorem dL_law_1412 : decode cL_law 1412 = .ok (.if_icmp .eq 191, 3) := by decide +kernel
theorem dL_law_1415 : decode cL_law 1415 = .ok (.iconst 0, 1) := by decide +kernel
theorem dL_law_1416 : decode cL_law 1416 = .ok (.ireturn, 1) := by decide +kernel
theorem dL_law_1417 : decode cL_law 1417 = .ok (.iconst 1, 1) := by decide +kernel
theorem dL_law_1418 : decode cL_law 1418 = .ok (.iload 8, 2) := by decide +kernel
theorem dL_law_1420 : decode cL_law 1420 = .ok (.iconst 3, 1) := by decide +kernel
theorem dL_law_1421 : decode cL_law 1421 = .ok (.ishr, 1) := by decide +kernel
theorem dL_law_1422 : decode cL_law 1422 = .ok (.bipush 6, 2) := by decide +kernel
theorem dL_law_1424 : decode cL_law 1424 = .ok (.invokestatic 18, 3) := by decide +kernel
theorem dL_law_1427 : decode cL_law 1427 = .ok (.iadd, 1) := by decide +kernel
theorem dL_law_1428 : decode cL_law 1428 = .ok (.istore 16, 2) := by decide +kernel
theorem dL_law_1430 : decode cL_law 1430 = .ok (.aload_n 1, 1) := by decide +kernel
theorem dL_law_1431 : decode cL_law 1431 = .ok (.invokevirtual 71, 3) := by decide +kernel
theorem dL_law_1434 : decode cL_law 1434 = .ok (.istore 17, 2) := by decide +kernel
theorem dL_law_1436 : decode cL_law 1436 = .ok (.aload_n 1, 1) := by decide +kernel
theorem dL_law_1437 : decode cL_law 1437 = .ok (.bipush 13, 2) := by decide +kernel
theorem dL_law_1439 : decode cL_law 1439 = .ok (.invokevirtual 30, 3) := by decide +kernel
theorem dL_law_1442 : decode cL_law 1442 = .ok (.istore 18, 2) := by decide +kernel
theorem dL_law_1444 : decode cL_law 1444 = .ok (.aload_n 1, 1) := by decide +kernel
theorem dL_law_1445 : decode cL_law 1445 = .ok (.iload 16, 2) := by decide +kernel
theorem dL_law_1447 : decode cL_law 1447 = .ok (.invokevirtual 104, 3) := by decide +kernel
theorem dL_law_1450 : decode cL_law 1450 = .ok (.istore 19, 2) := by decide +kernel
theorem dL_law_1452 : decode cL_law 1452 = .ok (.iload_n 3, 1) := by decide +kernel
theorem dL_law_1453 : decode cL_law 1453 = .ok (.newarray .int, 2) := by decide +kernel
theorem dL_law_1455 : decode cL_law 1455 = .ok (.astore 20, 2) := by decide +kernel
theorem dL_law_1457 : decode cL_law 1457 = .ok (.iconst 0, 1) := by decide +kernel
theorem dL_law_1458 : decode cL_law 1458 = .ok (.istore 21, 2) := by decide +kernel
theorem dL_law_1460 : decode cL_law 1460 = .ok (.iload 21, 2) := by decide +kernel
theorem dL_law_1462 : decode cL_law 1462 = .ok (.iload_n 3, 1) := by decide +kernel
theorem dL_law_1463 : decode cL_law 1463 = .ok (.if_icmp .ge 21, 3) := by decide +kernel
theorem dL_law_1466 : decode cL_law 1466 = .ok (.aload 20, 2) := by decide +kernel
theorem dL_law_1468 : decode cL_law 1468 = .ok (.iload 21, 2) := by decide +kernel
theorem dL_law_1470 : decode cL_law 1470 = .ok (.aload_n 1, 1) := by decide +kernel
theorem dL_law_1471 : decode cL_law 1471 = .ok (.iload 21, 2) := by decide +kernel
theorem dL_law_1473 : decode cL_law 1473 = .ok (.iconst 5, 1) := by decide +kernel
theorem dL_law_1474 : decode cL_law 1474 = .ok (.invokevirtual 44, 3) := by decide +kernel
theorem dL_law_1477 : decode cL_law 1477 = .ok (.iastore, 1) := by decide +kernel
theorem dL_law_1478 : decode cL_law 1478 = .ok (.iinc 21 1, 3) := by decide +kernel
theorem dL_law_1481 : decode cL_law 1481 = .ok (.goto (-21), 3) := by decide +kernel
theorem dL_law_1484 : decode cL_law 1484 = .ok (.aload_n 1, 1) := by decide +kernel
theorem dL_law_1485 : decode cL_law 1485 = .ok (.iload 16, 2) := by decide +kernel
theorem dL_law_1487 : decode cL_law 1487 = .ok (.invokevirtual 107, 3) := by decide +kernel
theorem dL_law_1490 : decode cL_law 1490 = .ok (.istore 21, 2) := by decide +kernel
theorem dL_law_1492 : decode cL_law 1492 = .ok (.aload_n 1, 1) := by decide +kernel
theorem dL_law_1493 : decode cL_law 1493 = .ok (.bipush 13, 2) := by decide +kernel
theorem dL_law_1495 : decode cL_law 1495 = .ok (.invokevirtual 30, 3) := by decide +kernel
theorem dL_law_1498 : decode cL_law 1498 = .ok (.iload 18, 2) := by decide +kernel
theorem dL_law_1500 : decode cL_law 1500 = .ok (.iload 19, 2) := by decide +kernel
theorem dL_law_1502 : decode cL_law 1502 = .ok (.iadd, 1) := by decide +kernel
theorem dL_law_1503 : decode cL_law 1503 = .ok (.if_icmp .ne 40, 3) := by decide +kernel
theorem dL_law_1506 : decode cL_law 1506 = .ok (.iload 12, 2) := by decide +kernel
theorem dL_law_1508 : decode cL_law 1508 = .ok (.iconst 1, 1) := by decide +kernel
theorem dL_law_1509 : decode cL_law 1509 = .ok (.if_icmp .eq 8, 3) := by decide +kernel
theorem dL_law_1512 : decode cL_law 1512 = .ok (.iload 21, 2) := by decide +kernel
theorem dL_law_1514 : decode cL_law 1514 = .ok (.ifCond .ne 29, 3) := by decide +kernel
theorem dL_law_1517 : decode cL_law 1517 = .ok (.aload_n 1, 1) := by decide +kernel
theorem dL_law_1518 : decode cL_law 1518 = .ok (.invokevirtual 71, 3) := by decide +kernel
theorem dL_law_1521 : decode cL_law 1521 = .ok (.iload 12, 2) := by decide +kernel
theorem dL_law_1523 : decode cL_law 1523 = .ok (.iconst 1, 1) := by decide +kernel
theorem dL_law_1524 : decode cL_law 1524 = .ok (.if_icmp .ne 15, 3) := by decide +kernel
theorem dL_law_1527 : decode cL_law 1527 = .ok (.iconst 0, 1) := by decide +kernel
theorem dL_law_1528 : decode cL_law 1528 = .ok (.iload 17, 2) := by decide +kernel
theorem dL_law_1530 : decode cL_law 1530 = .ok (.iload 16, 2) := by decide +kernel
theorem dL_law_1532 : decode cL_law 1532 = .ok (.isub, 1) := by decide +kernel
theorem dL_law_1533 : decode cL_law 1533 = .ok (.invokestatic 110, 3) := by decide +kernel
theorem dL_law_1536 : decode cL_law 1536 = .ok (.goto 4, 3) := by decide +kernel
theorem dL_law_1539 : decode cL_law 1539 = .ok (.iconst (-1), 1) := by decide +kernel
theorem dL_law_1540 : decode cL_law 1540 = .ok (.if_icmp .eq 5, 3) := by decide +kernel
theorem dL_law_1543 : decode cL_law 1543 = .ok (.iconst 0, 1) := by decide +kernel
theorem dL_law_1544 : decode cL_law 1544 = .ok (.ireturn, 1) := by decide +kernel
theorem dL_law_1545 : decode cL_law 1545 = .ok (.iconst 0, 1) := by decide +kernel
theorem dL_law_1546 : decode cL_law 1546 = .ok (.istore 22, 2) := by decide +kernel
theorem dL_law_1548 : decode cL_law 1548 = .ok (.iload 22, 2) := by decide +kernel
theorem dL_law_1550 : decode cL_law 1550 = .ok (.iload_n 3, 1) := by decide +kernel
theorem dL_law_1551 : decode cL_law 1551 = .ok (.if_icmp .ge 52, 3) := by decide +kernel
theorem dL_law_1554 : decode cL_law 1554 = .ok (.aload_n 1, 1) := by decide +kernel
theorem dL_law_1555 : decode cL_law 1555 = .ok (.iload 22, 2) := by decide +kernel
theorem dL_law_1557 : decode cL_law 1557 = .ok (.iconst 5, 1) := by decide +kernel
theorem dL_law_1558 : decode cL_law 1558 = .ok (.invokevirtual 44, 3) := by decide +kernel
theorem dL_law_1561 : decode cL_law 1561 = .ok (.aload 20, 2) := by decide +kernel
theorem dL_law_1563 : decode cL_law 1563 = .ok (.iload 22, 2) := by decide +kernel
theorem dL_law_1565 : decode cL_law 1565 = .ok (.iaload, 1) := by decide +kernel
theorem dL_law_1566 : decode cL_law 1566 = .ok (.if_icmp .lt 29, 3) := by decide +kernel
theorem dL_law_1569 : decode cL_law 1569 = .ok (.aload_n 1, 1) := by decide +kernel
theorem dL_law_1570 : decode cL_law 1570 = .ok (.iload 22, 2) := by decide +kernel
theorem dL_law_1572 : decode cL_law 1572 = .ok (.iconst 5, 1) := by decide +kernel
theorem dL_law_1573 : decode cL_law 1573 = .ok (.invokevirtual 44, 3) := by decide +kernel
theorem dL_law_1576 : decode cL_law 1576 = .ok (.aload 20, 2) := by decide +kernel
theorem dL_law_1578 : decode cL_law 1578 = .ok (.iload 22, 2) := by decide +kernel
theorem dL_law_1580 : decode cL_law 1580 = .ok (.iaload, 1) := by decide +kernel
theorem dL_law_1581 : decode cL_law 1581 = .ok (.iload 16, 2) := by decide +kernel
theorem dL_law_1583 : decode cL_law 1583 = .ok (.aload_n 1, 1) := by decide +kernel
theorem dL_law_1584 : decode cL_law 1584 = .ok (.iload 22, 2) := by decide +kernel
theorem dL_law_1586 : decode cL_law 1586 = .ok (.iconst 0, 1) := by decide +kernel
theorem dL_law_1587 : decode cL_law 1587 = .ok (.invokevirtual 44, 3) := by decide +kernel
theorem dL_law_1590 : decode cL_law 1590 = .ok (.imul, 1) := by decide +kernel
theorem dL_law_1591 : decode cL_law 1591 = .ok (.iadd, 1) := by decide +kernel
theorem dL_law_1592 : decode cL_law 1592 = .ok (.if_icmp .le 5, 3) := by decide +kernel
theorem dL_law_1595 : decode cL_law 1595 = .ok (.iconst 0, 1) := by decide +kernel
theorem dL_law_1596 : decode cL_law 1596 = .ok (.ireturn, 1) := by decide +kernel
theorem dL_law_1597 : decode cL_law 1597 = .ok (.iinc 22 1, 3) := by decide +kernel
theorem dL_law_1600 : decode cL_law 1600 = .ok (.goto (-52), 3) := by decide +kernel
theorem dL_law_1603 : decode cL_law 1603 = .ok (.iconst 0, 1) := by decide +kernel
theorem dL_law_1604 : decode cL_law 1604 = .ok (.istore 16, 2) := by decide +kernel
theorem dL_law_1606 : decode cL_law 1606 = .ok (.iconst 0, 1) := by decide +kernel
theorem dL_law_1607 : decode cL_law 1607 = .ok (.istore 17, 2) := by decide +kernel
theorem dL_law_1609 : decode cL_law 1609 = .ok (.iconst 0, 1) := by decide +kernel
theorem dL_law_1610 : decode cL_law 1610 = .ok (.istore 18, 2) := by decide +kernel
theorem dL_law_1612 : decode cL_law 1612 = .ok (.iconst 0, 1) := by decide +kernel
theorem dL_law_1613 : decode cL_law 1613 = .ok (.istore 19, 2) := by decide +kernel
theorem dL_law_1615 : decode cL_law 1615 = .ok (.iload 19, 2) := by decide +kernel
theorem dL_law_1617 : decode cL_law 1617 = .ok (.iload_n 2, 1) := by decide +kernel
theorem dL_law_1618 : decode cL_law 1618 = .ok (.if_icmp .ge 33, 3) := by decide +kernel
theorem dL_law_1621 : decode cL_law 1621 = .ok (.iload 16, 2) := by decide +kernel
theorem dL_law_1623 : decode cL_law 1623 = .ok (.aload_n 1, 1) := by decide +kernel
theorem dL_law_1624 : decode cL_law 1624 = .ok (.iload 19, 2) := by decide +kernel
theorem dL_law_1626 : decode cL_law 1626 = .ok (.iconst 0, 1) := by decide +kernel
theorem dL_law_1627 : decode cL_law 1627 = .ok (.invokevirtual 59, 3) := by decide +kernel
theorem dL_law_1630 : decode cL_law 1630 = .ok (.iadd, 1) := by decide +kernel
theorem dL_law_1631 : decode cL_law 1631 = .ok (.istore 16, 2) := by decide +kernel
theorem dL_law_1633 : decode cL_law 1633 = .ok (.iload 18, 2) := by decide +kernel
theorem dL_law_1635 : decode cL_law 1635 = .ok (.aload_n 1, 1) := by decide +kernel
theorem dL_law_1636 : decode cL_law 1636 = .ok (.iload 19, 2) := by decide +kernel
theorem dL_law_1638 : decode cL_law 1638 = .ok (.iconst 2, 1) := by decide +kernel
theorem dL_law_1639 : decode cL_law 1639 = .ok (.invokevirtual 59, 3) := by decide +kernel
theorem dL_law_1642 : decode cL_law 1642 = .ok (.iadd, 1) := by decide +kernel
theorem dL_law_1643 : decode cL_law 1643 = .ok (.istore 18, 2) := by decide +kernel
theorem dL_law_1645 : decode cL_law 1645 = .ok (.iinc 19 1, 3) := by decide +kernel
theorem dL_law_1648 : decode cL_law 1648 = .ok (.goto (-33), 3) := by decide +kernel
theorem dL_law_1651 : decode cL_law 1651 = .ok (.iconst 0, 1) := by decide +kernel
theorem dL_law_1652 : decode cL_law 1652 = .ok (.istore 19, 2) := by decide +kernel
theorem dL_law_1654 : decode cL_law 1654 = .ok (.iload 19, 2) := by decide +kernel
theorem dL_law_1656 : decode cL_law 1656 = .ok (.aload_n 1, 1) := by decide +kernel
theorem dL_law_1657 : decode cL_law 1657 = .ok (.iconst 4, 1) := by decide +kernel
theorem dL_law_1658 : decode cL_law 1658 = .ok (.invokevirtual 30, 3) := by decide +kernel
theorem dL_law_1661 : decode cL_law 1661 = .ok (.if_icmp .ge 21, 3) := by decide +kernel
theorem dL_law_1664 : decode cL_law 1664 = .ok (.iload 17, 2) := by decide +kernel
theorem dL_law_1666 : decode cL_law 1666 = .ok (.aload_n 1, 1) := by decide +kernel
theorem dL_law_1667 : decode cL_law 1667 = .ok (.iload 19, 2) := by decide +kernel
theorem dL_law_1669 : decode cL_law 1669 = .ok (.iconst 2, 1) := by decide +kernel
theorem dL_law_1670 : decode cL_law 1670 = .ok (.invokevirtual 56, 3) := by decide +kernel
theorem dL_law_1673 : decode cL_law 1673 = .ok (.iadd, 1) := by decide +kernel
theorem dL_law_1674 : decode cL_law 1674 = .ok (.istore 17, 2) := by decide +kernel
theorem dL_law_1676 : decode cL_law 1676 = .ok (.iinc 19 1, 3) := by decide +kernel
theorem dL_law_1679 : decode cL_law 1679 = .ok (.goto (-25), 3) := by decide +kernel
theorem dL_law_1682 : decode cL_law 1682 = .ok (.iload 16, 2) := by decide +kernel
theorem dL_law_1684 : decode cL_law 1684 = .ok (.bipush 100, 2) := by decide +kernel
theorem dL_law_1686 : decode cL_law 1686 = .ok (.iload_n 2, 1) := by decide +kernel
theorem dL_law_1687 : decode cL_law 1687 = .ok (.imul, 1) := by decide +kernel
theorem dL_law_1688 : decode cL_law 1688 = .ok (.iload 4, 2) := by decide +kernel
theorem dL_law_1690 : decode cL_law 1690 = .ok (.isub, 1) := by decide +kernel
theorem dL_law_1691 : decode cL_law 1691 = .ok (.aload_n 1, 1) := by decide +kernel
theorem dL_law_1692 : decode cL_law 1692 = .ok (.bipush 12, 2) := by decide +kernel
theorem dL_law_1694 : decode cL_law 1694 = .ok (.invokevirtual 30, 3) := by decide +kernel
theorem dL_law_1697 : decode cL_law 1697 = .ok (.iadd, 1) := by decide +kernel
theorem dL_law_1698 : decode cL_law 1698 = .ok (.if_icmp .ne 40, 3) := by decide +kernel
theorem dL_law_1701 : decode cL_law 1701 = .ok (.iload 5, 2) := by decide +kernel
theorem dL_law_1703 : decode cL_law 1703 = .ok (.iload 17, 2) := by decide +kernel
theorem dL_law_1705 : decode cL_law 1705 = .ok (.aload_n 1, 1) := by decide +kernel
theorem dL_law_1706 : decode cL_law 1706 = .ok (.bipush 12, 2) := by decide +kernel
theorem dL_law_1708 : decode cL_law 1708 = .ok (.invokevirtual 30, 3) := by decide +kernel
theorem dL_law_1711 : decode cL_law 1711 = .ok (.iadd, 1) := by decide +kernel
theorem dL_law_1712 : decode cL_law 1712 = .ok (.if_icmp .ne 26, 3) := by decide +kernel
theorem dL_law_1715 : decode cL_law 1715 = .ok (.aload_n 1, 1) := by decide +kernel
theorem dL_law_1716 : decode cL_law 1716 = .ok (.bipush 6, 2) := by decide +kernel
theorem dL_law_1718 : decode cL_law 1718 = .ok (.invokevirtual 30, 3) := by decide +kernel
theorem dL_law_1721 : decode cL_law 1721 = .ok (.iload 18, 2) := by decide +kernel
theorem dL_law_1723 : decode cL_law 1723 = .ok (.iload 6, 2) := by decide +kernel
theorem dL_law_1725 : decode cL_law 1725 = .ok (.iadd, 1) := by decide +kernel
theorem dL_law_1726 : decode cL_law 1726 = .ok (.if_icmp .ne 12, 3) := by decide +kernel
theorem dL_law_1729 : decode cL_law 1729 = .ok (.aload_n 1, 1) := by decide +kernel
theorem dL_law_1730 : decode cL_law 1730 = .ok (.iload_n 2, 1) := by decide +kernel
theorem dL_law_1731 : decode cL_law 1731 = .ok (.iload_n 3, 1) := by decide +kernel
theorem dL_law_1732 : decode cL_law 1732 = .ok (.invokestatic 115, 3) := by decide +kernel
theorem dL_law_1735 : decode cL_law 1735 = .ok (.ifCond .ne 5, 3) := by decide +kernel
theorem dL_law_1738 : decode cL_law 1738 = .ok (.iconst 0, 1) := by decide +kernel
theorem dL_law_1739 : decode cL_law 1739 = .ok (.ireturn, 1) := by decide +kernel
theorem dL_law_1740 : decode cL_law 1740 = .ok (.iinc 7 1, 3) := by decide +kernel
theorem dL_law_1743 : decode cL_law 1743 = .ok (.goto (-1600), 3) := by decide +kernel
theorem dL_law_1746 : decode cL_law 1746 = .ok (.aload_n 1, 1) := by decide +kernel
theorem dL_law_1747 : decode cL_law 1747 = .ok (.invokevirtual 119, 3) := by decide +kernel
theorem dL_law_1750 : decode cL_law 1750 = .ok (.lstore 7, 2) := by decide +kernel
theorem dL_law_1752 : decode cL_law 1752 = .ok (.aload_n 1, 1) := by decide +kernel
theorem dL_law_1753 : decode cL_law 1753 = .ok (.iload_n 2, 1) := by decide +kernel
theorem dL_law_1754 : decode cL_law 1754 = .ok (.iload_n 3, 1) := by decide +kernel
theorem dL_law_1755 : decode cL_law 1755 = .ok (.invokestatic 115, 3) := by decide +kernel
theorem dL_law_1758 : decode cL_law 1758 = .ok (.ifCond .eq 17, 3) := by decide +kernel
theorem dL_law_1761 : decode cL_law 1761 = .ok (.aload_n 1, 1) := by decide +kernel
theorem dL_law_1762 : decode cL_law 1762 = .ok (.invokevirtual 119, 3) := by decide +kernel
theorem dL_law_1765 : decode cL_law 1765 = .ok (.lload 7, 2) := by decide +kernel
theorem dL_law_1767 : decode cL_law 1767 = .ok (.lcmp, 1) := by decide +kernel
theorem dL_law_1768 : decode cL_law 1768 = .ok (.ifCond .ne 7, 3) := by decide +kernel
theorem dL_law_1771 : decode cL_law 1771 = .ok (.iconst 1, 1) := by decide +kernel
theorem dL_law_1772 : decode cL_law 1772 = .ok (.goto 4, 3) := by decide +kernel
theorem dL_law_1775 : decode cL_law 1775 = .ok (.iconst 0, 1) := by decide +kernel
theorem dL_law_1776 : decode cL_law 1776 = .ok (.ireturn, 1) := by decide +kernel
theorem dL_isSo_0 : decode cL_isSo 0 = .ok (.aload_n 0, 1) := by decide +kernel
theorem dL_isSo_1 : decode cL_isSo 1 = .ok (.iconst 1, 1) := by decide +kernel
theorem dL_isSo_2 : decode cL_isSo 2 = .ok (.invokevirtual 30, 3) := by decide +kernel
theorem dL_isSo_5 : decode cL_isSo 5 = .ok (.istore_n 3, 1) := by decide +kernel
theorem dL_isSo_6 : decode cL_isSo 6 = .ok (.aload_n 0, 1) := by decide +kernel
theorem dL_isSo_7 : decode cL_isSo 7 = .ok (.iconst 4, 1) := by decide +kernel
theorem dL_isSo_8 : decode cL_isSo 8 = .ok (.invokevirtual 30, 3) := by decide +kernel
theorem dL_isSo_11 : decode cL_isSo 11 = .ok (.istore 4, 2) := by decide +kernel
theorem dL_isSo_13 : decode cL_isSo 13 = .ok (.iconst 0, 1) := by decide +kernel
theorem dL_isSo_14 : decode cL_isSo 14 = .ok (.istore 5, 2) := by decide +kernel
theorem dL_isSo_16 : decode cL_isSo 16 = .ok (.iconst 0, 1) := by decide +kernel
theorem dL_isSo_17 : decode cL_isSo 17 = .ok (.istore 6, 2) := by decide +kernel
theorem dL_isSo_19 : decode cL_isSo 19 = .ok (.iconst 0, 1) := by decide +kernel
theorem dL_isSo_20 : decode cL_isSo 20 = .ok (.istore 7, 2) := by decide +kernel
theorem dL_isSo_22 : decode cL_isSo 22 = .ok (.iconst 0, 1) := by decide +kernel
theorem dL_isSo_23 : decode cL_isSo 23 = .ok (.istore 8, 2) := by decide +kernel
theorem dL_isSo_25 : decode cL_isSo 25 = .ok (.iconst 0, 1) := by decide +kernel
theorem dL_isSo_26 : decode cL_isSo 26 = .ok (.istore 9, 2) := by decide +kernel
theorem dL_isSo_28 : decode cL_isSo 28 = .ok (.iconst 0, 1) := by decide +kernel
theorem dL_isSo_29 : decode cL_isSo 29 = .ok (.istore 10, 2) := by decide +kernel
theorem dL_isSo_31 : decode cL_isSo 31 = .ok (.iconst 0, 1) := by decide +kernel
theorem dL_isSo_32 : decode cL_isSo 32 = .ok (.istore 11, 2) := by decide +kernel
theorem dL_isSo_34 : decode cL_isSo 34 = .ok (.iload_n 1, 1) := by decide +kernel
theorem dL_isSo_35 : decode cL_isSo 35 = .ok (.newarray .int, 2) := by decide +kernel
theorem dL_isSo_37 : decode cL_isSo 37 = .ok (.astore 12, 2) := by decide +kernel
theorem dL_isSo_39 : decode cL_isSo 39 = .ok (.iconst 0, 1) := by decide +kernel
theorem dL_isSo_40 : decode cL_isSo 40 = .ok (.istore 13, 2) := by decide +kernel
theorem dL_isSo_42 : decode cL_isSo 42 = .ok (.iload 13, 2) := by decide +kernel
theorem dL_isSo_44 : decode cL_isSo 44 = .ok (.iload 4, 2) := by decide +kernel
theorem dL_isSo_46 : decode cL_isSo 46 = .ok (.if_icmp .ge 364, 3) := by decide +kernel
theorem dL_isSo_49 : decode cL_isSo 49 = .ok (.aload_n 0, 1) := by decide +kernel
theorem dL_isSo_50 : decode cL_isSo 50 = .ok (.iload 13, 2) := by decide +kernel
theorem dL_isSo_52 : decode cL_isSo 52 = .ok (.bipush 7, 2) := by decide +kernel
theorem dL_isSo_54 : decode cL_isSo 54 = .ok (.invokevirtual 56, 3) := by decide +kernel
theorem dL_isSo_57 : decode cL_isSo 57 = .ok (.istore 14, 2) := by decide +kernel
theorem dL_isSo_59 : decode cL_isSo 59 = .ok (.iconst 0, 1) := by decide +kernel
theorem dL_isSo_60 : decode cL_isSo 60 = .ok (.istore 15, 2) := by decide +kernel
theorem dL_isSo_62 : decode cL_isSo 62 = .ok (.iconst 0, 1) := by decide +kernel
theorem dL_isSo_63 : decode cL_isSo 63 = .ok (.istore 16, 2) := by decide +kernel
theorem dL_isSo_65 : decode cL_isSo 65 = .ok (.iconst 0, 1) := by decide +kernel
theorem dL_isSo_66 : decode cL_isSo 66 = .ok (.istore 17, 2) := by decide +kernel
theorem dL_isSo_68 : decode cL_isSo 68 = .ok (.iload 17, 2) := by decide +kernel
theorem dL_isSo_70 : decode cL_isSo 70 = .ok (.iload_n 2, 1) := by decide +kernel
theorem dL_isSo_71 : decode cL_isSo 71 = .ok (.if_icmp .ge 111, 3) := by decide +kernel
theorem dL_isSo_74 : decode cL_isSo 74 = .ok (.aload_n 0, 1) := by decide +kernel
theorem dL_isSo_75 : decode cL_isSo 75 = .ok (.iload 17, 2) := by decide +kernel
theorem dL_isSo_77 : decode cL_isSo 77 = .ok (.iload 13, 2) := by decide +kernel
theorem dL_isSo_79 : decode cL_isSo 79 = .ok (.invokevirtual 38, 3) := by decide +kernel
theorem dL_isSo_82 : decode cL_isSo 82 = .ok (.istore 18, 2) := by decide +kernel
theorem dL_isSo_84 : decode cL_isSo 84 = .ok (.iload 18, 2) := by decide +kernel
theorem dL_isSo_86 : decode cL_isSo 86 = .ok (.bipush 99, 2) := by decide +kernel
theorem dL_isSo_88 : decode cL_isSo 88 = .ok (.if_icmp .gt 25, 3) := by decide +kernel
theorem dL_isSo_91 : decode cL_isSo 91 = .ok (.iload 18, 2) := by decide +kernel
theorem dL_isSo_93 : decode cL_isSo 93 = .ok (.iconst (-1), 1) := by decide +kernel
theorem dL_isSo_94 : decode cL_isSo 94 = .ok (.if_icmp .lt 19, 3) := by decide +kernel
theorem dL_isSo_97 : decode cL_isSo 97 = .ok (.iload 18, 2) := by decide +kernel
theorem dL_isSo_99 : decode cL_isSo 99 = .ok (.ifCond .lt 16, 3) := by decide +kernel
theorem dL_isSo_102 : decode cL_isSo 102 = .ok (.aload_n 0, 1) := by decide +kernel
theorem dL_isSo_103 : decode cL_isSo 103 = .ok (.iload 13, 2) := by decide +kernel
theorem dL_isSo_105 : decode cL_isSo 105 = .ok (.bipush 6, 2) := by decide +kernel
theorem dL_isSo_107 : decode cL_isSo 107 = .ok (.invokevirtual 56, 3) := by decide +kernel
theorem dL_isSo_110 : decode cL_isSo 110 = .ok (.ifCond .ne 5, 3) := by decide +kernel
theorem dL_isSo_113 : decode cL_isSo 113 = .ok (.iconst 0, 1) := by decide +kernel
theorem dL_isSo_114 : decode cL_isSo 114 = .ok (.ireturn, 1) := by decide +kernel
theorem dL_isSo_115 : decode cL_isSo 115 = .ok (.iload 16, 2) := by decide +kernel
theorem dL_isSo_117 : decode cL_isSo 117 = .ok (.iload 18, 2) := by decide +kernel
theorem dL_isSo_119 : decode cL_isSo 119 = .ok (.ifCond .ge 7, 3) := by decide +kernel
theorem dL_isSo_122 : decode cL_isSo 122 = .ok (.iconst 0, 1) := by decide +kernel
theorem dL_isSo_123 : decode cL_isSo 123 = .ok (.goto 4, 3) := by decide +kernel
theorem dL_isSo_126 : decode cL_isSo 126 = .ok (.iconst 1, 1) := by decide +kernel
theorem dL_isSo_127 : decode cL_isSo 127 = .ok (.iadd, 1) := by decide +kernel
theorem dL_isSo_128 : decode cL_isSo 128 = .ok (.istore 16, 2) := by decide +kernel
theorem dL_isSo_130 : decode cL_isSo 130 = .ok (.iload 9, 2) := by decide +kernel
theorem dL_isSo_132 : decode cL_isSo 132 = .ok (.iconst 0, 1) := by decide +kernel
theorem dL_isSo_133 : decode cL_isSo 133 = .ok (.iload 18, 2) := by decide +kernel
theorem dL_isSo_135 : decode cL_isSo 135 = .ok (.invokestatic 110, 3) := by decide +kernel
theorem dL_isSo_138 : decode cL_isSo 138 = .ok (.iadd, 1) := by decide +kernel
theorem dL_isSo_139 : decode cL_isSo 139 = .ok (.istore 9, 2) := by decide +kernel
theorem dL_isSo_141 : decode cL_isSo 141 = .ok (.iload 15, 2) := by decide +kernel
theorem dL_isSo_143 : decode cL_isSo 143 = .ok (.iload 18, 2) := by decide +kernel
theorem dL_isSo_145 : decode cL_isSo 145 = .ok (.ifCond .lt 27, 3) := by decide +kernel
theorem dL_isSo_148 : decode cL_isSo 148 = .ok (.aload_n 0, 1) := by decide +kernel
theorem dL_isSo_149 : decode cL_isSo 149 = .ok (.iload 17, 2) := by decide +kernel
theorem dL_isSo_151 : decode cL_isSo 151 = .ok (.iconst 1, 1) := by decide +kernel
theorem dL_isSo_152 : decode cL_isSo 152 = .ok (.invokevirtual 44, 3) := by decide +kernel
theorem dL_isSo_155 : decode cL_isSo 155 = .ok (.aload_n 0, 1) := by decide +kernel
theorem dL_isSo_156 : decode cL_isSo 156 = .ok (.iload 13, 2) := by decide +kernel
theorem dL_isSo_158 : decode cL_isSo 158 = .ok (.iconst 1, 1) := by decide +kernel
theorem dL_isSo_159 : decode cL_isSo 159 = .ok (.invokevirtual 56, 3) := by decide +kernel
theorem dL_isSo_162 : decode cL_isSo 162 = .ok (.ishr, 1) := by decide +kernel
theorem dL_isSo_163 : decode cL_isSo 163 = .ok (.iconst 1, 1) := by decide +kernel
theorem dL_isSo_164 : decode cL_isSo 164 = .ok (.iand, 1) := by decide +kernel
theorem dL_isSo_165 : decode cL_isSo 165 = .ok (.ifCond .ne 7, 3) := by decide +kernel
theorem dL_isSo_168 : decode cL_isSo 168 = .ok (.iconst 1, 1) := by decide +kernel
theorem dL_isSo_169 : decode cL_isSo 169 = .ok (.goto 4, 3) := by decide +kernel
theorem dL_isSo_172 : decode cL_isSo 172 = .ok (.iconst 0, 1) := by decide +kernel
theorem dL_isSo_173 : decode cL_isSo 173 = .ok (.iadd, 1) := by decide +kernel
theorem dL_isSo_174 : decode cL_isSo 174 = .ok (.istore 15, 2) := by decide +kernel
theorem dL_isSo_176 : decode cL_isSo 176 = .ok (.iinc 17 1, 3) := by decide +kernel
theorem dL_isSo_179 : decode cL_isSo 179 = .ok (.goto (-111), 3) := by decide +kernel
theorem dL_isSo_182 : decode cL_isSo 182 = .ok (.iload 8, 2) := by decide +kernel
theorem dL_isSo_184 : decode cL_isSo 184 = .ok (.iload 16, 2) := by decide +kernel
theorem dL_isSo_186 : decode cL_isSo 186 = .ok (.iadd, 1) := by decide +kernel
theorem dL_isSo_187 : decode cL_isSo 187 = .ok (.istore 8, 2) := by decide +kernel
theorem dL_isSo_189 : decode cL_isSo 189 = .ok (.iload 5, 2) := by decide +kernel
theorem dL_isSo_191 : decode cL_isSo 191 = .ok (.aload_n 0, 1) := by decide +kernel
theorem dL_isSo_192 : decode cL_isSo 192 = .ok (.iload 13, 2) := by decide +kernel
theorem dL_isSo_194 : decode cL_isSo 194 = .ok (.bipush 6, 2) := by decide +kernel
theorem dL_isSo_196 : decode cL_isSo 196 = .ok (.invokevirtual 56, 3) := by decide +kernel
theorem dL_isSo_199 : decode cL_isSo 199 = .ok (.iadd, 1) := by decide +kernel
theorem dL_isSo_200 : decode cL_isSo 200 = .ok (.istore 5, 2) := by decide +kernel
theorem dL_isSo_202 : decode cL_isSo 202 = .ok (.iload 6, 2) := by decide +kernel
theorem dL_isSo_204 : decode cL_isSo 204 = .ok (.aload_n 0, 1) := by decide +kernel
theorem dL_isSo_205 : decode cL_isSo 205 = .ok (.iload 13, 2) := by decide +kernel
theorem dL_isSo_207 : decode cL_isSo 207 = .ok (.iconst 3, 1) := by decide +kernel
theorem dL_isSo_208 : decode cL_isSo 208 = .ok (.invokevirtual 56, 3) := by decide +kernel
theorem dL_isSo_211 : decode cL_isSo 211 = .ok (.iadd, 1) := by decide +kernel
theorem dL_isSo_212 : decode cL_isSo 212 = .ok (.istore 6, 2) := by decide +kernel
theorem dL_isSo_214 : decode cL_isSo 214 = .ok (.iload 7, 2) := by decide +kernel
theorem dL_isSo_216 : decode cL_isSo 216 = .ok (.aload_n 0, 1) := by decide +kernel
theorem dL_isSo_217 : decode cL_isSo 217 = .ok (.iload 13, 2) := by decide +kernel
theorem dL_isSo_219 : decode cL_isSo 219 = .ok (.iconst 4, 1) := by decide +kernel
theorem dL_isSo_220 : decode cL_isSo 220 = .ok (.invokevirtual 56, 3) := by decide +kernel
theorem dL_isSo_223 : decode cL_isSo 223 = .ok (.iadd, 1) := by decide +kernel
theorem dL_isSo_224 : decode cL_isSo 224 = .ok (.istore 7, 2) := by decide +kernel
theorem dL_isSo_226 : decode cL_isSo 226 = .ok (.iload 10, 2) := by decide +kernel
theorem dL_isSo_228 : decode cL_isSo 228 = .ok (.iload 14, 2) := by decide +kernel
theorem dL_isSo_230 : decode cL_isSo 230 = .ok (.ifCond .le 10, 3) := by decide +kernel
theorem dL_isSo_233 : decode cL_isSo 233 = .ok (.iconst 1, 1) := by decide +kernel
theorem dL_isSo_234 : decode cL_isSo 234 = .ok (.iload 13, 2) := by decide +kernel
theorem dL_isSo_236 : decode cL_isSo 236 = .ok (.ishl, 1) := by decide +kernel
theorem dL_isSo_237 : decode cL_isSo 237 = .ok (.goto 4, 3) := by decide +kernel
theorem dL_isSo_240 : decode cL_isSo 240 = .ok (.iconst 0, 1) := by decide +kernel
theorem dL_isSo_241 : decode cL_isSo 241 = .ok (.ior, 1) := by decide +kernel
theorem dL_isSo_242 : decode cL_isSo 242 = .ok (.istore 10, 2) := by decide +kernel
theorem dL_isSo_244 : decode cL_isSo 244 = .ok (.iload 11, 2) := by decide +kernel
theorem dL_isSo_246 : decode cL_isSo 246 = .ok (.iload 14, 2) := by decide +kernel
theorem dL_isSo_248 : decode cL_isSo 248 = .ok (.iconst 1, 1) := by decide +kernel
theorem dL_isSo_249 : decode cL_isSo 249 = .ok (.if_icmp .le 10, 3) := by decide +kernel
theorem dL_isSo_252 : decode cL_isSo 252 = .ok (.iconst 1, 1) := by decide +kernel
theorem dL_isSo_253 : decode cL_isSo 253 = .ok (.iload 13, 2) := by decide +kernel
theorem dL_isSo_255 : decode cL_isSo 255 = .ok (.ishl, 1) := by decide +kernel
theorem dL_isSo_256 : decode cL_isSo 256 = .ok (.goto 4, 3) := by decide +kernel
theorem dL_isSo_259 : decode cL_isSo 259 = .ok (.iconst 0, 1) := by decide +kernel
theorem dL_isSo_260 : decode cL_isSo 260 = .ok (.ior, 1) := by decide +kernel
theorem dL_isSo_261 : decode cL_isSo 261 = .ok (.istore 11, 2) := by decide +kernel
theorem dL_isSo_263 : decode cL_isSo 263 = .ok (.iload 14, 2) := by decide +kernel
theorem dL_isSo_265 : decode cL_isSo 265 = .ok (.ifCond .le 17, 3) := by decide +kernel
theorem dL_isSo_268 : decode cL_isSo 268 = .ok (.aload 12, 2) := by decide +kernel
theorem dL_isSo_270 : decode cL_isSo 270 = .ok (.aload_n 0, 1) := by decide +kernel
theorem dL_isSo_271 : decode cL_isSo 271 = .ok (.iload 13, 2) := by decide +kernel
theorem dL_isSo_273 : decode cL_isSo 273 = .ok (.iconst 0, 1) := by decide +kernel
theorem dL_isSo_274 : decode cL_isSo 274 = .ok (.invokevirtual 56, 3) := by decide +kernel
theorem dL_isSo_277 : decode cL_isSo 277 = .ok (.dup2, 1) := by decide +kernel
theorem dL_isSo_278 : decode cL_isSo 278 = .ok (.iaload, 1) := by decide +kernel
theorem dL_isSo_279 : decode cL_isSo 279 = .ok (.iconst 1, 1) := by decide +kernel
theorem dL_isSo_280 : decode cL_isSo 280 = .ok (.iadd, 1) := by decide +kernel
theorem dL_isSo_281 : decode cL_isSo 281 = .ok (.iastore, 1) := by decide +kernel
theorem dL_isSo_282 : decode cL_isSo 282 = .ok (.iload 16, 2) := by decide +kernel
theorem dL_isSo_284 : decode cL_isSo 284 = .ok (.iconst 3, 1) := by decide +kernel
theorem dL_isSo_285 : decode cL_isSo 285 = .ok (.if_icmp .gt 88, 3) := by decide +kernel
theorem dL_isSo_288 : decode cL_isSo 288 = .ok (.iload 15, 2) := by decide +kernel
theorem dL_isSo_290 : decode cL_isSo 290 = .ok (.aload_n 0, 1) := by decide +kernel
theorem dL_isSo_291 : decode cL_isSo 291 = .ok (.iload 13, 2) := by decide +kernel
theorem dL_isSo_293 : decode cL_isSo 293 = .ok (.bipush 9, 2) := by decide +kernel
theorem dL_isSo_295 : decode cL_isSo 295 = .ok (.invokevirtual 56, 3) := by decide +kernel
theorem dL_isSo_298 : decode cL_isSo 298 = .ok (.if_icmp .ne 75, 3) := by decide +kernel
theorem dL_isSo_301 : decode cL_isSo 301 = .ok (.iload 15, 2) := by decide +kernel
theorem dL_isSo_303 : decode cL_isSo 303 = .ok (.ifCond .ne 14, 3) := by decide +kernel
theorem dL_isSo_306 : decode cL_isSo 306 = .ok (.aload_n 0, 1) := by decide +kernel
theorem dL_isSo_307 : decode cL_isSo 307 = .ok (.iload 13, 2) := by decide +kernel
theorem dL_isSo_309 : decode cL_isSo 309 = .ok (.bipush 8, 2) := by decide +kernel
theorem dL_isSo_311 : decode cL_isSo 311 = .ok (.invokevirtual 56, 3) := by decide +kernel
theorem dL_isSo_314 : decode cL_isSo 314 = .ok (.ifCond .ne 59, 3) := by decide +kernel
theorem dL_isSo_317 : decode cL_isSo 317 = .ok (.iload 14, 2) := by decide +kernel
theorem dL_isSo_319 : decode cL_isSo 319 = .ok (.ifCond .le 14, 3) := by decide +kernel
theorem dL_isSo_322 : decode cL_isSo 322 = .ok (.aload_n 0, 1) := by decide +kernel
theorem dL_isSo_323 : decode cL_isSo 323 = .ok (.iload 13, 2) := by decide +kernel
theorem dL_isSo_325 : decode cL_isSo 325 = .ok (.bipush 6, 2) := by decide +kernel
theorem dL_isSo_327 : decode cL_isSo 327 = .ok (.invokevirtual 56, 3) := by decide +kernel
theorem dL_isSo_330 : decode cL_isSo 330 = .ok (.ifCond .eq 43, 3) := by decide +kernel
theorem dL_isSo_333 : decode cL_isSo 333 = .ok (.iload 14, 2) := by decide +kernel
theorem dL_isSo_335 : decode cL_isSo 335 = .ok (.iconst 3, 1) := by decide +kernel
theorem dL_isSo_336 : decode cL_isSo 336 = .ok (.if_icmp .ne 7, 3) := by decide +kernel
theorem dL_isSo_339 : decode cL_isSo 339 = .ok (.iconst 1, 1) := by decide +kernel
theorem dL_isSo_340 : decode cL_isSo 340 = .ok (.goto 4, 3) := by decide +kernel
theorem dL_isSo_343 : decode cL_isSo 343 = .ok (.iconst 0, 1) := by decide +kernel
theorem dL_isSo_344 : decode cL_isSo 344 = .ok (.aload_n 0, 1) := by decide +kernel
theorem dL_isSo_345 : decode cL_isSo 345 = .ok (.bipush 9, 2) := by decide +kernel
theorem dL_isSo_347 : decode cL_isSo 347 = .ok (.invokevirtual 30, 3) := by decide +kernel
theorem dL_isSo_350 : decode cL_isSo 350 = .ok (.iload 13, 2) := by decide +kernel
theorem dL_isSo_352 : decode cL_isSo 352 = .ok (.if_icmp .ne 7, 3) := by decide +kernel
theorem dL_isSo_355 : decode cL_isSo 355 = .ok (.iconst 1, 1) := by decide +kernel
theorem dL_isSo_356 : decode cL_isSo 356 = .ok (.goto 4, 3) := by decide +kernel
theorem dL_isSo_359 : decode cL_isSo 359 = .ok (.iconst 0, 1) := by decide +kernel
theorem dL_isSo_360 : decode cL_isSo 360 = .ok (.if_icmp .ne 13, 3) := by decide +kernel
theorem dL_isSo_363 : decode cL_isSo 363 = .ok (.aload_n 0, 1) := by decide +kernel
theorem dL_isSo_364 : decode cL_isSo 364 = .ok (.iload 13, 2) := by decide +kernel
theorem dL_isSo_366 : decode cL_isSo 366 = .ok (.iconst 2, 1) := by decide +kernel
theorem dL_isSo_367 : decode cL_isSo 367 = .ok (.invokevirtual 56, 3) := by decide +kernel
theorem dL_isSo_370 : decode cL_isSo 370 = .ok (.ifCond .ge 5, 3) := by decide +kernel
theorem dL_isSo_373 : decode cL_isSo 373 = .ok (.iconst 0, 1) := by decide +kernel
theorem dL_isSo_374 : decode cL_isSo 374 = .ok (.ireturn, 1) := by decide +kernel
theorem dL_isSo_375 : decode cL_isSo 375 = .ok (.aload_n 0, 1) := by decide +kernel
theorem dL_isSo_376 : decode cL_isSo 376 = .ok (.iload 13, 2) := by decide +kernel
theorem dL_isSo_378 : decode cL_isSo 378 = .ok (.invokevirtual 98, 3) := by decide +kernel
theorem dL_isSo_381 : decode cL_isSo 381 = .ok (.iload 13, 2) := by decide +kernel
theorem dL_isSo_383 : decode cL_isSo 383 = .ok (.if_icmp .eq 19, 3) := by decide +kernel
theorem dL_isSo_386 : decode cL_isSo 386 = .ok (.iload 14, 2) := by decide +kernel
theorem dL_isSo_388 : decode cL_isSo 388 = .ok (.iconst 2, 1) := by decide +kernel
theorem dL_isSo_389 : decode cL_isSo 389 = .ok (.if_icmp .ge 15, 3) := by decide +kernel
theorem dL_isSo_392 : decode cL_isSo 392 = .ok (.aload_n 0, 1) := by decide +kernel
theorem dL_isSo_393 : decode cL_isSo 393 = .ok (.iload 13, 2) := by decide +kernel
theorem dL_isSo_395 : decode cL_isSo 395 = .ok (.invokevirtual 98, 3) := by decide +kernel
theorem dL_isSo_398 : decode cL_isSo 398 = .ok (.iconst (-1), 1) := by decide +kernel
end
section
theorem dL_isSo_399 : decode cL_isSo 399 = .ok (.if_icmp .eq 5, 3) := by decide +kernel
theorem dL_isSo_402 : decode cL_isSo 402 = .ok (.iconst 0, 1) := by decide +kernel
theorem dL_isSo_403 : decode cL_isSo 403 = .ok (.ireturn, 1) := by decide +kernel
theorem dL_isSo_404 : decode cL_isSo 404 = .ok (.iinc 13 1, 3) := by decide +kernel
theorem dL_isSo_407 : decode cL_isSo 407 = .ok (.goto (-365), 3) := by decide +kernel
theorem dL_isSo_410 : decode cL_isSo 410 = .ok (.iconst 0, 1) := by decide +kernel
theorem dL_isSo_411 : decode cL_isSo 411 = .ok (.istore 13, 2) := by decide +kernel
theorem dL_isSo_413 : decode cL_isSo 413 = .ok (.iload 13, 2) := by decide +kernel
theorem dL_isSo_415 : decode cL_isSo 415 = .ok (.iload_n 1, 1) := by decide +kernel
theorem dL_isSo_416 : decode cL_isSo 416 = .ok (.if_icmp .ge 69, 3) := by decide +kernel
theorem dL_isSo_419 : decode cL_isSo 419 = .ok (.aload 12, 2) := by decide +kernel
theorem dL_isSo_421 : decode cL_isSo 421 = .ok (.iload 13, 2) := by decide +kernel
theorem dL_isSo_423 : decode cL_isSo 423 = .ok (.iaload, 1) := by decide +kernel
theorem dL_isSo_424 : decode cL_isSo 424 = .ok (.iconst 2, 1) := by decide +kernel
theorem dL_isSo_425 : decode cL_isSo 425 = .ok (.if_icmp .gt 52, 3) := by decide +kernel
theorem dL_isSo_428 : decode cL_isSo 428 = .ok (.aload_n 0, 1) := by decide +kernel
theorem dL_isSo_429 : decode cL_isSo 429 = .ok (.iload 13, 2) := by decide +kernel
theorem dL_isSo_431 : decode cL_isSo 431 = .ok (.iconst 1, 1) := by decide +kernel
theorem dL_isSo_432 : decode cL_isSo 432 = .ok (.invokevirtual 59, 3) := by decide +kernel
theorem dL_isSo_435 : decode cL_isSo 435 = .ok (.iconst 2, 1) := by decide +kernel
theorem dL_isSo_436 : decode cL_isSo 436 = .ok (.if_icmp .lt 41, 3) := by decide +kernel
theorem dL_isSo_439 : decode cL_isSo 439 = .ok (.aload_n 0, 1) := by decide +kernel
theorem dL_isSo_440 : decode cL_isSo 440 = .ok (.iload 13, 2) := by decide +kernel
theorem dL_isSo_442 : decode cL_isSo 442 = .ok (.iconst 1, 1) := by decide +kernel
theorem dL_isSo_443 : decode cL_isSo 443 = .ok (.invokevirtual 59, 3) := by decide +kernel
theorem dL_isSo_446 : decode cL_isSo 446 = .ok (.iconst 4, 1) := by decide +kernel
theorem dL_isSo_447 : decode cL_isSo 447 = .ok (.if_icmp .gt 30, 3) := by decide +kernel
theorem dL_isSo_450 : decode cL_isSo 450 = .ok (.aload_n 0, 1) := by decide +kernel
theorem dL_isSo_451 : decode cL_isSo 451 = .ok (.iload 13, 2) := by decide +kernel
theorem dL_isSo_453 : decode cL_isSo 453 = .ok (.iconst 2, 1) := by decide +kernel
theorem dL_isSo_454 : decode cL_isSo 454 = .ok (.invokevirtual 59, 3) := by decide +kernel
theorem dL_isSo_457 : decode cL_isSo 457 = .ok (.aload_n 0, 1) := by decide +kernel
theorem dL_isSo_458 : decode cL_isSo 458 = .ok (.iload 13, 2) := by decide +kernel
theorem dL_isSo_460 : decode cL_isSo 460 = .ok (.iconst 1, 1) := by decide +kernel
theorem dL_isSo_461 : decode cL_isSo 461 = .ok (.invokevirtual 59, 3) := by decide +kernel
theorem dL_isSo_464 : decode cL_isSo 464 = .ok (.if_icmp .gt 13, 3) := by decide +kernel
theorem dL_isSo_467 : decode cL_isSo 467 = .ok (.aload_n 0, 1) := by decide +kernel
theorem dL_isSo_468 : decode cL_isSo 468 = .ok (.iload 13, 2) := by decide +kernel
theorem dL_isSo_470 : decode cL_isSo 470 = .ok (.iconst 4, 1) := by decide +kernel
theorem dL_isSo_471 : decode cL_isSo 471 = .ok (.invokevirtual 59, 3) := by decide +kernel
theorem dL_isSo_474 : decode cL_isSo 474 = .ok (.ifCond .ge 5, 3) := by decide +kernel
theorem dL_isSo_477 : decode cL_isSo 477 = .ok (.iconst 0, 1) := by decide +kernel
theorem dL_isSo_478 : decode cL_isSo 478 = .ok (.ireturn, 1) := by decide +kernel
theorem dL_isSo_479 : decode cL_isSo 479 = .ok (.iinc 13 1, 3) := by decide +kernel
theorem dL_isSo_482 : decode cL_isSo 482 = .ok (.goto (-69), 3) := by decide +kernel
theorem dL_isSo_485 : decode cL_isSo 485 = .ok (.iconst 0, 1) := by decide +kernel
theorem dL_isSo_486 : decode cL_isSo 486 = .ok (.istore 13, 2) := by decide +kernel
theorem dL_isSo_488 : decode cL_isSo 488 = .ok (.iconst 0, 1) := by decide +kernel
theorem dL_isSo_489 : decode cL_isSo 489 = .ok (.istore 14, 2) := by decide +kernel
theorem dL_isSo_491 : decode cL_isSo 491 = .ok (.iload 14, 2) := by decide +kernel
theorem dL_isSo_493 : decode cL_isSo 493 = .ok (.iload_n 2, 1) := by decide +kernel
theorem dL_isSo_494 : decode cL_isSo 494 = .ok (.if_icmp .ge 144, 3) := by decide +kernel
theorem dL_isSo_497 : decode cL_isSo 497 = .ok (.iload 13, 2) := by decide +kernel
theorem dL_isSo_499 : decode cL_isSo 499 = .ok (.aload_n 0, 1) := by decide +kernel
theorem dL_isSo_500 : decode cL_isSo 500 = .ok (.iload 14, 2) := by decide +kernel
theorem dL_isSo_502 : decode cL_isSo 502 = .ok (.iconst 4, 1) := by decide +kernel
theorem dL_isSo_503 : decode cL_isSo 503 = .ok (.invokevirtual 44, 3) := by decide +kernel
theorem dL_isSo_506 : decode cL_isSo 506 = .ok (.iadd, 1) := by decide +kernel
theorem dL_isSo_507 : decode cL_isSo 507 = .ok (.istore 13, 2) := by decide +kernel
theorem dL_isSo_509 : decode cL_isSo 509 = .ok (.aload_n 0, 1) := by decide +kernel
theorem dL_isSo_510 : decode cL_isSo 510 = .ok (.iload 14, 2) := by decide +kernel
theorem dL_isSo_512 : decode cL_isSo 512 = .ok (.iconst 4, 1) := by decide +kernel
theorem dL_isSo_513 : decode cL_isSo 513 = .ok (.invokevirtual 44, 3) := by decide +kernel
theorem dL_isSo_516 : decode cL_isSo 516 = .ok (.aload_n 0, 1) := by decide +kernel
theorem dL_isSo_517 : decode cL_isSo 517 = .ok (.iload 14, 2) := by decide +kernel
theorem dL_isSo_519 : decode cL_isSo 519 = .ok (.iconst 2, 1) := by decide +kernel
theorem dL_isSo_520 : decode cL_isSo 520 = .ok (.invokevirtual 44, 3) := by decide +kernel
theorem dL_isSo_523 : decode cL_isSo 523 = .ok (.if_icmp .gt 107, 3) := by decide +kernel
theorem dL_isSo_526 : decode cL_isSo 526 = .ok (.aload_n 0, 1) := by decide +kernel
theorem dL_isSo_527 : decode cL_isSo 527 = .ok (.iload 14, 2) := by decide +kernel
theorem dL_isSo_529 : decode cL_isSo 529 = .ok (.iconst 3, 1) := by decide +kernel
theorem dL_isSo_530 : decode cL_isSo 530 = .ok (.invokevirtual 44, 3) := by decide +kernel
theorem dL_isSo_533 : decode cL_isSo 533 = .ok (.ifCond .lt 97, 3) := by decide +kernel
theorem dL_isSo_536 : decode cL_isSo 536 = .ok (.aload_n 0, 1) := by decide +kernel
theorem dL_isSo_537 : decode cL_isSo 537 = .ok (.iload 14, 2) := by decide +kernel
theorem dL_isSo_539 : decode cL_isSo 539 = .ok (.bipush 7, 2) := by decide +kernel
theorem dL_isSo_541 : decode cL_isSo 541 = .ok (.invokevirtual 44, 3) := by decide +kernel
theorem dL_isSo_544 : decode cL_isSo 544 = .ok (.ifCond .lt 86, 3) := by decide +kernel
theorem dL_isSo_547 : decode cL_isSo 547 = .ok (.aload_n 0, 1) := by decide +kernel
theorem dL_isSo_548 : decode cL_isSo 548 = .ok (.iload 14, 2) := by decide +kernel
theorem dL_isSo_550 : decode cL_isSo 550 = .ok (.bipush 7, 2) := by decide +kernel
theorem dL_isSo_552 : decode cL_isSo 552 = .ok (.invokevirtual 44, 3) := by decide +kernel
theorem dL_isSo_555 : decode cL_isSo 555 = .ok (.bipush 12, 2) := by decide +kernel
theorem dL_isSo_557 : decode cL_isSo 557 = .ok (.if_icmp .gt 73, 3) := by decide +kernel
theorem dL_isSo_560 : decode cL_isSo 560 = .ok (.aload_n 0, 1) := by decide +kernel
theorem dL_isSo_561 : decode cL_isSo 561 = .ok (.iload 14, 2) := by decide +kernel
theorem dL_isSo_563 : decode cL_isSo 563 = .ok (.iconst 3, 1) := by decide +kernel
theorem dL_isSo_564 : decode cL_isSo 564 = .ok (.invokevirtual 44, 3) := by decide +kernel
theorem dL_isSo_567 : decode cL_isSo 567 = .ok (.ifCond .ne 7, 3) := by decide +kernel
theorem dL_isSo_570 : decode cL_isSo 570 = .ok (.iconst 1, 1) := by decide +kernel
theorem dL_isSo_571 : decode cL_isSo 571 = .ok (.goto 4, 3) := by decide +kernel
theorem dL_isSo_574 : decode cL_isSo 574 = .ok (.iconst 0, 1) := by decide +kernel
theorem dL_isSo_575 : decode cL_isSo 575 = .ok (.aload_n 0, 1) := by decide +kernel
theorem dL_isSo_576 : decode cL_isSo 576 = .ok (.iload 14, 2) := by decide +kernel
theorem dL_isSo_578 : decode cL_isSo 578 = .ok (.iconst 4, 1) := by decide +kernel
theorem dL_isSo_579 : decode cL_isSo 579 = .ok (.invokevirtual 44, 3) := by decide +kernel
theorem dL_isSo_582 : decode cL_isSo 582 = .ok (.aload_n 0, 1) := by decide +kernel
theorem dL_isSo_583 : decode cL_isSo 583 = .ok (.iload 14, 2) := by decide +kernel
theorem dL_isSo_585 : decode cL_isSo 585 = .ok (.iconst 2, 1) := by decide +kernel
theorem dL_isSo_586 : decode cL_isSo 586 = .ok (.invokevirtual 44, 3) := by decide +kernel
theorem dL_isSo_589 : decode cL_isSo 589 = .ok (.if_icmp .ne 7, 3) := by decide +kernel
theorem dL_isSo_592 : decode cL_isSo 592 = .ok (.iconst 1, 1) := by decide +kernel
theorem dL_isSo_593 : decode cL_isSo 593 = .ok (.goto 4, 3) := by decide +kernel
theorem dL_isSo_596 : decode cL_isSo 596 = .ok (.iconst 0, 1) := by decide +kernel
theorem dL_isSo_597 : decode cL_isSo 597 = .ok (.if_icmp .ne 33, 3) := by decide +kernel
theorem dL_isSo_600 : decode cL_isSo 600 = .ok (.iload_n 3, 1) := by decide +kernel
theorem dL_isSo_601 : decode cL_isSo 601 = .ok (.ifCond .ne 13, 3) := by decide +kernel
theorem dL_isSo_604 : decode cL_isSo 604 = .ok (.aload_n 0, 1) := by decide +kernel
theorem dL_isSo_605 : decode cL_isSo 605 = .ok (.iload 14, 2) := by decide +kernel
theorem dL_isSo_607 : decode cL_isSo 607 = .ok (.iconst 2, 1) := by decide +kernel
theorem dL_isSo_608 : decode cL_isSo 608 = .ok (.invokevirtual 44, 3) := by decide +kernel
theorem dL_isSo_611 : decode cL_isSo 611 = .ok (.ifCond .ne 19, 3) := by decide +kernel
theorem dL_isSo_614 : decode cL_isSo 614 = .ok (.iload_n 3, 1) := by decide +kernel
theorem dL_isSo_615 : decode cL_isSo 615 = .ok (.iconst 3, 1) := by decide +kernel
theorem dL_isSo_616 : decode cL_isSo 616 = .ok (.if_icmp .ge 16, 3) := by decide +kernel
theorem dL_isSo_619 : decode cL_isSo 619 = .ok (.aload_n 0, 1) := by decide +kernel
theorem dL_isSo_620 : decode cL_isSo 620 = .ok (.iload 14, 2) := by decide +kernel
theorem dL_isSo_622 : decode cL_isSo 622 = .ok (.bipush 6, 2) := by decide +kernel
theorem dL_isSo_624 : decode cL_isSo 624 = .ok (.invokevirtual 44, 3) := by decide +kernel
theorem dL_isSo_627 : decode cL_isSo 627 = .ok (.ifCond .eq 5, 3) := by decide +kernel
theorem dL_isSo_630 : decode cL_isSo 630 = .ok (.iconst 0, 1) := by decide +kernel
theorem dL_isSo_631 : decode cL_isSo 631 = .ok (.ireturn, 1) := by decide +kernel
theorem dL_isSo_632 : decode cL_isSo 632 = .ok (.iinc 14 1, 3) := by decide +kernel
theorem dL_isSo_635 : decode cL_isSo 635 = .ok (.goto (-144), 3) := by decide +kernel
theorem dL_isSo_638 : decode cL_isSo 638 = .ok (.iload 13, 2) := by decide +kernel
theorem dL_isSo_640 : decode cL_isSo 640 = .ok (.iload 8, 2) := by decide +kernel
theorem dL_isSo_642 : decode cL_isSo 642 = .ok (.if_icmp .ne 125, 3) := by decide +kernel
theorem dL_isSo_645 : decode cL_isSo 645 = .ok (.aload_n 0, 1) := by decide +kernel
theorem dL_isSo_646 : decode cL_isSo 646 = .ok (.bipush 6, 2) := by decide +kernel
theorem dL_isSo_648 : decode cL_isSo 648 = .ok (.invokevirtual 30, 3) := by decide +kernel
theorem dL_isSo_651 : decode cL_isSo 651 = .ok (.iload 5, 2) := by decide +kernel
theorem dL_isSo_653 : decode cL_isSo 653 = .ok (.if_icmp .ne 114, 3) := by decide +kernel
theorem dL_isSo_656 : decode cL_isSo 656 = .ok (.aload_n 0, 1) := by decide +kernel
theorem dL_isSo_657 : decode cL_isSo 657 = .ok (.bipush 12, 2) := by decide +kernel
theorem dL_isSo_659 : decode cL_isSo 659 = .ok (.invokevirtual 30, 3) := by decide +kernel
theorem dL_isSo_662 : decode cL_isSo 662 = .ok (.iload 6, 2) := by decide +kernel
theorem dL_isSo_664 : decode cL_isSo 664 = .ok (.if_icmp .ne 103, 3) := by decide +kernel
theorem dL_isSo_667 : decode cL_isSo 667 = .ok (.aload_n 0, 1) := by decide +kernel
theorem dL_isSo_668 : decode cL_isSo 668 = .ok (.bipush 13, 2) := by decide +kernel
theorem dL_isSo_670 : decode cL_isSo 670 = .ok (.invokevirtual 30, 3) := by decide +kernel
theorem dL_isSo_673 : decode cL_isSo 673 = .ok (.iload 7, 2) := by decide +kernel
theorem dL_isSo_675 : decode cL_isSo 675 = .ok (.if_icmp .ne 92, 3) := by decide +kernel
theorem dL_isSo_678 : decode cL_isSo 678 = .ok (.aload_n 0, 1) := by decide +kernel
theorem dL_isSo_679 : decode cL_isSo 679 = .ok (.bipush 7, 2) := by decide +kernel
theorem dL_isSo_681 : decode cL_isSo 681 = .ok (.invokevirtual 30, 3) := by decide +kernel
theorem dL_isSo_684 : decode cL_isSo 684 = .ok (.iload 10, 2) := by decide +kernel
theorem dL_isSo_686 : decode cL_isSo 686 = .ok (.if_icmp .ne 81, 3) := by decide +kernel
theorem dL_isSo_689 : decode cL_isSo 689 = .ok (.aload_n 0, 1) := by decide +kernel
theorem dL_isSo_690 : decode cL_isSo 690 = .ok (.bipush 8, 2) := by decide +kernel
theorem dL_isSo_692 : decode cL_isSo 692 = .ok (.invokevirtual 30, 3) := by decide +kernel
theorem dL_isSo_695 : decode cL_isSo 695 = .ok (.iload 11, 2) := by decide +kernel
theorem dL_isSo_697 : decode cL_isSo 697 = .ok (.if_icmp .ne 70, 3) := by decide +kernel
theorem dL_isSo_700 : decode cL_isSo 700 = .ok (.iload 11, 2) := by decide +kernel
theorem dL_isSo_702 : decode cL_isSo 702 = .ok (.iload 10, 2) := by decide +kernel
theorem dL_isSo_704 : decode cL_isSo 704 = .ok (.iconst (-1), 1) := by decide +kernel
theorem dL_isSo_705 : decode cL_isSo 705 = .ok (.ixor, 1) := by decide +kernel
theorem dL_isSo_706 : decode cL_isSo 706 = .ok (.iand, 1) := by decide +kernel
theorem dL_isSo_707 : decode cL_isSo 707 = .ok (.ifCond .ne 60, 3) := by decide +kernel
theorem dL_isSo_710 : decode cL_isSo 710 = .ok (.iload_n 3, 1) := by decide +kernel
theorem dL_isSo_711 : decode cL_isSo 711 = .ok (.iconst 2, 1) := by decide +kernel
theorem dL_isSo_712 : decode cL_isSo 712 = .ok (.if_icmp .ge 8, 3) := by decide +kernel
theorem dL_isSo_715 : decode cL_isSo 715 = .ok (.iload 10, 2) := by decide +kernel
theorem dL_isSo_717 : decode cL_isSo 717 = .ok (.ifCond .ne 50, 3) := by decide +kernel
theorem dL_isSo_720 : decode cL_isSo 720 = .ok (.iload_n 3, 1) := by decide +kernel
theorem dL_isSo_721 : decode cL_isSo 721 = .ok (.iconst 3, 1) := by decide +kernel
theorem dL_isSo_722 : decode cL_isSo 722 = .ok (.if_icmp .ge 8, 3) := by decide +kernel
theorem dL_isSo_725 : decode cL_isSo 725 = .ok (.iload 11, 2) := by decide +kernel
theorem dL_isSo_727 : decode cL_isSo 727 = .ok (.ifCond .ne 40, 3) := by decide +kernel
theorem dL_isSo_730 : decode cL_isSo 730 = .ok (.iload_n 3, 1) := by decide +kernel
theorem dL_isSo_731 : decode cL_isSo 731 = .ok (.iconst 4, 1) := by decide +kernel
theorem dL_isSo_732 : decode cL_isSo 732 = .ok (.if_icmp .ge 13, 3) := by decide +kernel
theorem dL_isSo_735 : decode cL_isSo 735 = .ok (.aload_n 0, 1) := by decide +kernel
theorem dL_isSo_736 : decode cL_isSo 736 = .ok (.bipush 9, 2) := by decide +kernel
theorem dL_isSo_738 : decode cL_isSo 738 = .ok (.invokevirtual 30, 3) := by decide +kernel
theorem dL_isSo_741 : decode cL_isSo 741 = .ok (.iconst (-1), 1) := by decide +kernel
theorem dL_isSo_742 : decode cL_isSo 742 = .ok (.if_icmp .ne 25, 3) := by decide +kernel
theorem dL_isSo_745 : decode cL_isSo 745 = .ok (.aload_n 0, 1) := by decide +kernel
theorem dL_isSo_746 : decode cL_isSo 746 = .ok (.invokevirtual 123, 3) := by decide +kernel
theorem dL_isSo_749 : decode cL_isSo 749 = .ok (.iload 8, 2) := by decide +kernel
theorem dL_isSo_751 : decode cL_isSo 751 = .ok (.i2d, 1) := by decide +kernel
theorem dL_isSo_752 : decode cL_isSo 752 = .ok (.dmul, 1) := by decide +kernel
theorem dL_isSo_753 : decode cL_isSo 753 = .ok (.iload 9, 2) := by decide +kernel
theorem dL_isSo_755 : decode cL_isSo 755 = .ok (.i2d, 1) := by decide +kernel
theorem dL_isSo_756 : decode cL_isSo 756 = .ok (.dsub, 1) := by decide +kernel
theorem dL_isSo_757 : decode cL_isSo 757 = .ok (.invokestatic 127, 3) := by decide +kernel
theorem dL_isSo_760 : decode cL_isSo 760 = .ok (.ldc2_w 131, 3) := by decide +kernel
theorem dL_isSo_763 : decode cL_isSo 763 = .ok (.dcmp .l, 1) := by decide +kernel
theorem dL_isSo_764 : decode cL_isSo 764 = .ok (.ifCond .le 5, 3) := by decide +kernel
theorem dL_isSo_767 : decode cL_isSo 767 = .ok (.iconst 0, 1) := by decide +kernel
theorem dL_isSo_768 : decode cL_isSo 768 = .ok (.ireturn, 1) := by decide +kernel
theorem dL_isSo_769 : decode cL_isSo 769 = .ok (.aload_n 0, 1) := by decide +kernel
theorem dL_isSo_770 : decode cL_isSo 770 = .ok (.iconst 0, 1) := by decide +kernel
theorem dL_isSo_771 : decode cL_isSo 771 = .ok (.invokevirtual 89, 3) := by decide +kernel
theorem dL_isSo_774 : decode cL_isSo 774 = .ok (.istore 14, 2) := by decide +kernel
theorem dL_isSo_776 : decode cL_isSo 776 = .ok (.aload_n 0, 1) := by decide +kernel
theorem dL_isSo_777 : decode cL_isSo 777 = .ok (.invokevirtual 133, 3) := by decide +kernel
theorem dL_isSo_780 : decode cL_isSo 780 = .ok (.istore 15, 2) := by decide +kernel
theorem dL_isSo_782 : decode cL_isSo 782 = .ok (.iload 14, 2) := by decide +kernel
theorem dL_isSo_784 : decode cL_isSo 784 = .ok (.ifCond .lt 13, 3) := by decide +kernel
theorem dL_isSo_787 : decode cL_isSo 787 = .ok (.iload 11, 2) := by decide +kernel
theorem dL_isSo_789 : decode cL_isSo 789 = .ok (.iload 14, 2) := by decide +kernel
theorem dL_isSo_791 : decode cL_isSo 791 = .ok (.ishr, 1) := by decide +kernel
theorem dL_isSo_792 : decode cL_isSo 792 = .ok (.iconst 1, 1) := by decide +kernel
theorem dL_isSo_793 : decode cL_isSo 793 = .ok (.iand, 1) := by decide +kernel
theorem dL_isSo_794 : decode cL_isSo 794 = .ok (.ifCond .eq 50, 3) := by decide +kernel
theorem dL_isSo_797 : decode cL_isSo 797 = .ok (.iload 15, 2) := by decide +kernel
theorem dL_isSo_799 : decode cL_isSo 799 = .ok (.ifCond .lt 13, 3) := by decide +kernel
theorem dL_isSo_802 : decode cL_isSo 802 = .ok (.iload 11, 2) := by decide +kernel
theorem dL_isSo_804 : decode cL_isSo 804 = .ok (.iload 15, 2) := by decide +kernel
theorem dL_isSo_806 : decode cL_isSo 806 = .ok (.ishr, 1) := by decide +kernel
theorem dL_isSo_807 : decode cL_isSo 807 = .ok (.iconst 1, 1) := by decide +kernel
theorem dL_isSo_808 : decode cL_isSo 808 = .ok (.iand, 1) := by decide +kernel
theorem dL_isSo_809 : decode cL_isSo 809 = .ok (.ifCond .eq 35, 3) := by decide +kernel
theorem dL_isSo_812 : decode cL_isSo 812 = .ok (.iload_n 3, 1) := by decide +kernel
theorem dL_isSo_813 : decode cL_isSo 813 = .ok (.iconst 3, 1) := by decide +kernel
theorem dL_isSo_814 : decode cL_isSo 814 = .ok (.if_icmp .ge 15, 3) := by decide +kernel
theorem dL_isSo_817 : decode cL_isSo 817 = .ok (.iload 14, 2) := by decide +kernel
theorem dL_isSo_819 : decode cL_isSo 819 = .ok (.iconst (-1), 1) := by decide +kernel
theorem dL_isSo_820 : decode cL_isSo 820 = .ok (.if_icmp .ne 24, 3) := by decide +kernel
theorem dL_isSo_823 : decode cL_isSo 823 = .ok (.iload 15, 2) := by decide +kernel
theorem dL_isSo_825 : decode cL_isSo 825 = .ok (.iconst (-1), 1) := by decide +kernel
theorem dL_isSo_826 : decode cL_isSo 826 = .ok (.if_icmp .ne 18, 3) := by decide +kernel
theorem dL_isSo_829 : decode cL_isSo 829 = .ok (.iload_n 3, 1) := by decide +kernel
theorem dL_isSo_830 : decode cL_isSo 830 = .ok (.iconst 3, 1) := by decide +kernel
theorem dL_isSo_831 : decode cL_isSo 831 = .ok (.if_icmp .ne 15, 3) := by decide +kernel
theorem dL_isSo_834 : decode cL_isSo 834 = .ok (.iload 11, 2) := by decide +kernel
theorem dL_isSo_836 : decode cL_isSo 836 = .ok (.ifCond .eq 10, 3) := by decide +kernel
theorem dL_isSo_839 : decode cL_isSo 839 = .ok (.iload 14, 2) := by decide +kernel
theorem dL_isSo_841 : decode cL_isSo 841 = .ok (.ifCond .ge 5, 3) := by decide +kernel
theorem dL_isSo_844 : decode cL_isSo 844 = .ok (.iconst 0, 1) := by decide +kernel
theorem dL_isSo_845 : decode cL_isSo 845 = .ok (.ireturn, 1) := by decide +kernel
theorem dL_isSo_846 : decode cL_isSo 846 = .ok (.aload_n 0, 1) := by decide +kernel
theorem dL_isSo_847 : decode cL_isSo 847 = .ok (.invokevirtual 71, 3) := by decide +kernel
theorem dL_isSo_850 : decode cL_isSo 850 = .ok (.ifCond .ge 7, 3) := by decide +kernel
theorem dL_isSo_853 : decode cL_isSo 853 = .ok (.iconst 1, 1) := by decide +kernel
theorem dL_isSo_854 : decode cL_isSo 854 = .ok (.goto 4, 3) := by decide +kernel
theorem dL_isSo_857 : decode cL_isSo 857 = .ok (.iconst 0, 1) := by decide +kernel
theorem dL_isSo_858 : decode cL_isSo 858 = .ok (.iload_n 3, 1) := by decide +kernel
theorem dL_isSo_859 : decode cL_isSo 859 = .ok (.iconst 1, 1) := by decide +kernel
theorem dL_isSo_860 : decode cL_isSo 860 = .ok (.if_icmp .eq 7, 3) := by decide +kernel
theorem dL_isSo_863 : decode cL_isSo 863 = .ok (.iconst 1, 1) := by decide +kernel
theorem dL_isSo_864 : decode cL_isSo 864 = .ok (.goto 4, 3) := by decide +kernel
theorem dL_isSo_867 : decode cL_isSo 867 = .ok (.iconst 0, 1) := by decide +kernel
theorem dL_isSo_868 : decode cL_isSo 868 = .ok (.if_icmp .ne 20, 3) := by decide +kernel
theorem dL_isSo_871 : decode cL_isSo 871 = .ok (.aload_n 0, 1) := by decide +kernel
theorem dL_isSo_872 : decode cL_isSo 872 = .ok (.iconst 2, 1) := by decide +kernel
theorem dL_isSo_873 : decode cL_isSo 873 = .ok (.invokevirtual 104, 3) := by decide +kernel
theorem dL_isSo_876 : decode cL_isSo 876 = .ok (.aload_n 0, 1) := by decide +kernel
theorem dL_isSo_877 : decode cL_isSo 877 = .ok (.iconst 1, 1) := by decide +kernel
theorem dL_isSo_878 : decode cL_isSo 878 = .ok (.invokevirtual 104, 3) := by decide +kernel
theorem dL_isSo_881 : decode cL_isSo 881 = .ok (.if_icmp .lt 7, 3) := by decide +kernel
theorem dL_isSo_884 : decode cL_isSo 884 = .ok (.iconst 1, 1) := by decide +kernel
theorem dL_isSo_885 : decode cL_isSo 885 = .ok (.goto 4, 3) := by decide +kernel
theorem dL_isSo_888 : decode cL_isSo 888 = .ok (.iconst 0, 1) := by decide +kernel
theorem dL_isSo_889 : decode cL_isSo 889 = .ok (.ireturn, 1) := by decide +kernel
end
section
def wsL_law0_r1 : List Cond := [Cond.classLink RL 9 RX4, Cond.instantiable RX4 19, Cond.initialized RX4, Cond.arrayClass .int, Cond.methodLink RL 110 Lib.Math.max.name, Cond.static Lib.Math.max.name, Cond.initialized "java/lang/Math", Cond.code Lib.Math.max.name Lib.Math.max.code 2 (some .int), Cond.methodLink RL 11 yX4_init, Cond.instanceMethod yX4_init, Cond.code yX4_init cX4_init 2 none, Cond.methodLink RX4 1 objectInit, Cond.instanceMethod objectInit, Cond.code objectInit ⟨#[0xb1]⟩ 1 none, Cond.classLink RX4 9 RX1, Cond.fieldLink RX4 11 "PrizeHouse" "houses" "[LPrizeHouse$House;", Cond.classLink RX4 15 RX0, Cond.fieldLink RX4 17 "PrizeHouse" "books" "[LPrizeHouse$Book;", Cond.classLink RX4 21 RX2, Cond.fieldLink RX4 23 "PrizeHouse" "judges" "[LPrizeHouse$Judge;", Cond.classLink RX4 27 RX3, Cond.instantiable RX3 4, Cond.initialized RX3, Cond.fieldLink RX4 30 "PrizeHouse" "rulesNow" "LPrizeHouse$Rules;"]
def wsL_law0_r2 : List Cond := [Cond.fieldLink RX4 34 "PrizeHouse" "rulesNext" "LPrizeHouse$Rules;", Cond.fieldLink RX4 37 "PrizeHouse" "phase" "I", Cond.fieldLink RX4 41 "PrizeHouse" "winner" "I", Cond.fieldLink RX4 44 "PrizeHouse" "formerWinner" "I", Cond.fieldLink RX4 47 "PrizeHouse" "votes" "[I", Cond.instantiable RX1 2, Cond.initialized RX1, Cond.instantiable RX0 11, Cond.initialized RX0, Cond.instantiable RX2 16, Cond.initialized RX2, Cond.instanceMethod yX3_init, Cond.code yX3_init cX3_init 1 none, Cond.methodLink RX3 1 objectInit, Cond.fieldLink RX3 7 "PrizeHouse$Rules" "forms" "I", Cond.fieldLink RX3 13 "PrizeHouse$Rules" "least" "I", Cond.fieldLink RX3 16 "PrizeHouse$Rules" "most" "I", Cond.fieldLink RX3 19 "PrizeHouse$Rules" "fee" "I", Cond.instanceMethod yX1_init, Cond.code yX1_init cX1_init 1 none, Cond.methodLink RX1 1 objectInit, Cond.fieldLink RX1 7 "PrizeHouse$House" "coins" "I", Cond.instanceMethod yX0_init, Cond.code yX0_init cX0_init 1 none]
def wsL_law0_r3 : List Cond := [Cond.methodLink RX0 3 objectInit, Cond.fieldLink RX0 9 "PrizeHouse$Book" "enteredYear" "I", Cond.methodLink RX4 53 yX2_init, Cond.instanceMethod yX2_init, Cond.code yX2_init cX2_init 2 none, Cond.methodLink RX2 3 objectInit, Cond.fieldLink RX2 9 "PrizeHouse$Judge" "crate" "[I", Cond.fieldLink RX2 15 "PrizeHouse$Judge" "crateEnds" "[I", Cond.fieldLink RX2 18 "PrizeHouse$Judge" "marks" "[I", Cond.fieldLink RX2 21 "PrizeHouse$Judge" "points" "[I", Cond.fieldLink RX2 24 "PrizeHouse$Judge" "ranked" "[I", Cond.methodLink RL 12 yL_cell, Cond.static yL_cell, Cond.initialized RL, Cond.code yL_cell cL_cell 2 (some .int), Cond.constant RL 8 (790386105), Cond.methodLink RL 18 yL_below, Cond.static yL_below, Cond.code yL_below cL_below 2 (some .int), Cond.constant RL 7 (2147483647), Cond.methodLink RL 22 yX4_house, Cond.instanceMethod yX4_house, Cond.selects RX4 yX4_house yX4_house, Cond.code yX4_house cX4_house 1 (some .int)]
def wsL_law0_r4 : List Cond := [Cond.classLink RX4 57 "java/lang/IllegalStateException", Cond.initialized "java/lang/IllegalStateException", Cond.fieldLink RX4 54 "PrizeHouse" "houseCount" "I", Cond.methodLink RL 26 yX4_judge, Cond.instanceMethod yX4_judge, Cond.selects RX4 yX4_judge yX4_judge, Cond.code yX4_judge cX4_judge 4 (some .int), Cond.classLink RX4 80 "java/lang/IllegalArgumentException", Cond.initialized "java/lang/IllegalArgumentException", Cond.fieldLink RX4 102 "PrizeHouse" "judgeCount" "I", Cond.methodLink RX4 76 yX4_isWithin, Cond.static yX4_isWithin, Cond.code yX4_isWithin cX4_isWithin 3 (some .boolean), Cond.methodLink RX4 107 yX2_describe, Cond.instanceMethod yX2_describe, Cond.selects RX2 yX2_describe yX2_describe, Cond.code yX2_describe cX2_describe 4 none, Cond.fieldLink RX2 27 "PrizeHouse$Judge" "speed" "I", Cond.fieldLink RX2 31 "PrizeHouse$Judge" "taste" "I", Cond.fieldLink RX2 34 "PrizeHouse$Judge" "lean" "I", Cond.methodLink RL 30 yX4_many, Cond.instanceMethod yX4_many, Cond.selects RX4 yX4_many yX4_many, Cond.code yX4_many cX4_many 2 (some .int)]
def wsL_law0_r5 : List Cond := [Cond.fieldLink RX4 94 "PrizeHouse" "year" "I", Cond.fieldLink RX4 197 "PrizeHouse" "day" "I", Cond.fieldLink RX4 85 "PrizeHouse" "bookCount" "I", Cond.fieldLink RX4 220 "PrizeHouse" "longSet" "I", Cond.fieldLink RX4 246 "PrizeHouse" "shortSet" "I", Cond.fieldLink RX4 273 "PrizeHouse" "strippedSet" "I", Cond.fieldLink RX4 135 "PrizeHouse$Rules" "fee" "I", Cond.methodLink RX4 176 yX4_enteredCount, Cond.instanceMethod yX4_enteredCount, Cond.selects RX4 yX4_enteredCount yX4_enteredCount, Cond.code yX4_enteredCount cX4_enteredCount 3 (some .int), Cond.methodLink RX4 143 yX4_isEntered, Cond.instanceMethod yX4_isEntered, Cond.selects RX4 yX4_isEntered yX4_isEntered, Cond.code yX4_isEntered cX4_isEntered 2 (some .boolean), Cond.fieldLink RX4 409 "PrizeHouse$Book" "enteredYear" "I", Cond.methodLink RX4 124 yJ6_bitCount_0f7a4, Cond.static yJ6_bitCount_0f7a4, Cond.initialized RJ6, Cond.code yJ6_bitCount_0f7a4 cJ6_bitCount_0f7a4 1 (some .int), Cond.constant RJ6 265 (1431655765), Cond.constant RJ6 266 (858993459), Cond.constant RJ6 267 (252645135), Cond.methodLink RX4 350 yX4_soldEver]
def wsL_law0_r6 : List Cond := [Cond.instanceMethod yX4_soldEver, Cond.selects RX4 yX4_soldEver yX4_soldEver, Cond.code yX4_soldEver cX4_soldEver 3 (some .int), Cond.fieldLink RX4 307 "PrizeHouse$Book" "sold" "I", Cond.methodLink RX4 353 yX4_missedEver, Cond.instanceMethod yX4_missedEver, Cond.selects RX4 yX4_missedEver yX4_missedEver, Cond.code yX4_missedEver cX4_missedEver 3 (some .int), Cond.fieldLink RX4 310 "PrizeHouse$Book" "missed" "I", Cond.methodLink RL 34 yX4_book, Cond.instanceMethod yX4_book, Cond.selects RX4 yX4_book yX4_book, Cond.code yX4_book cX4_book 7 (some .int), Cond.classLink RX4 68 "java/lang/IndexOutOfBoundsException", Cond.initialized "java/lang/IndexOutOfBoundsException", Cond.fieldLink RX4 97 "PrizeHouse$Book" "toldYear" "I", Cond.methodLink RX4 64 yX4_isHouse, Cond.instanceMethod yX4_isHouse, Cond.selects RX4 yX4_isHouse yX4_isHouse, Cond.code yX4_isHouse cX4_isHouse 2 (some .boolean), Cond.methodLink RX4 73 yX4_isAuthor, Cond.static yX4_isAuthor, Cond.code yX4_isAuthor cX4_isAuthor 1 (some .boolean), Cond.methodLink RX4 90 yX0_describe]
def wsL_law0_r7 : List Cond := [Cond.instanceMethod yX0_describe, Cond.selects RX0 yX0_describe yX0_describe, Cond.code yX0_describe cX0_describe 7 none, Cond.fieldLink RX0 15 "PrizeHouse$Book" "house" "I", Cond.fieldLink RX0 18 "PrizeHouse$Book" "author" "I", Cond.fieldLink RX0 21 "PrizeHouse$Book" "form" "I", Cond.fieldLink RX0 24 "PrizeHouse$Book" "pages" "I", Cond.fieldLink RX0 27 "PrizeHouse$Book" "merit" "I", Cond.fieldLink RX0 30 "PrizeHouse$Book" "flavour" "I", Cond.methodLink RL 38 yX4_mark, Cond.instanceMethod yX4_mark, Cond.selects RX4 yX4_mark yX4_mark, Cond.code yX4_mark cX4_mark 3 (some .int), Cond.fieldLink RX4 347 "PrizeHouse$Judge" "marks" "[I", Cond.methodLink RX4 110 yX4_isJudge, Cond.instanceMethod yX4_isJudge, Cond.selects RX4 yX4_isJudge yX4_isJudge, Cond.code yX4_isJudge cX4_isJudge 2 (some .boolean), Cond.methodLink RX4 138 yX4_isBook, Cond.instanceMethod yX4_isBook, Cond.selects RX4 yX4_isBook yX4_isBook, Cond.code yX4_isBook cX4_isBook 2 (some .boolean), Cond.methodLink RL 41 yX4_conflict, Cond.instanceMethod yX4_conflict]
def wsL_law0_r8 : List Cond := [Cond.selects RX4 yX4_conflict yX4_conflict, Cond.code yX4_conflict cX4_conflict 3 (some .int), Cond.fieldLink RX4 117 "PrizeHouse$Judge" "conflicts" "I", Cond.methodLink RX4 120 yX4_bit, Cond.static yX4_bit, Cond.code yX4_bit cX4_bit 1 (some .int), Cond.methodLink RL 44 yX4_ofJudge, Cond.instanceMethod yX4_ofJudge, Cond.selects RX4 yX4_ofJudge yX4_ofJudge, Cond.code yX4_ofJudge cX4_ofJudge 3 (some .int), Cond.fieldLink RX4 327 "PrizeHouse$Judge" "speed" "I", Cond.fieldLink RX4 330 "PrizeHouse$Judge" "crateCount" "I", Cond.fieldLink RX4 336 "PrizeHouse$Judge" "booksRead" "I", Cond.fieldLink RX4 339 "PrizeHouse$Judge" "pagesRead" "I", Cond.methodLink RX4 333 yX2_pagesLeft, Cond.instanceMethod yX2_pagesLeft, Cond.selects RX2 yX2_pagesLeft yX2_pagesLeft, Cond.code yX2_pagesLeft cX2_pagesLeft 1 (some .int), Cond.fieldLink RX2 44 "PrizeHouse$Judge" "cratePages" "I", Cond.fieldLink RX2 50 "PrizeHouse$Judge" "pagesRead" "I", Cond.methodLink RX4 342 yX2_hasOrder, Cond.instanceMethod yX2_hasOrder, Cond.selects RX2 yX2_hasOrder yX2_hasOrder, Cond.code yX2_hasOrder cX2_hasOrder 1 (some .boolean)]
def wsL_law0_r9 : List Cond := [Cond.fieldLink RX2 56 "PrizeHouse$Judge" "rankedCount" "I", Cond.methodLink RX4 231 yX2_pointsLeft, Cond.instanceMethod yX2_pointsLeft, Cond.selects RX2 yX2_pointsLeft yX2_pointsLeft, Cond.code yX2_pointsLeft cX2_pointsLeft 3 (some .int), Cond.methodLink RL 47 yJ6_bitCount_0f7a4, Cond.methodLink RL 52 yX4_rules, Cond.instanceMethod yX4_rules, Cond.selects RX4 yX4_rules yX4_rules, Cond.code yX4_rules cX4_rules 5 (some .int), Cond.methodLink RX4 131 yX3_set, Cond.instanceMethod yX3_set, Cond.selects RX3 yX3_set yX3_set, Cond.code yX3_set cX3_set 5 none, Cond.methodLink RL 56 yX4_ofBook, Cond.instanceMethod yX4_ofBook, Cond.selects RX4 yX4_ofBook yX4_ofBook, Cond.code yX4_ofBook cX4_ofBook 3 (some .int), Cond.fieldLink RX4 151 "PrizeHouse$Book" "house" "I", Cond.fieldLink RX4 170 "PrizeHouse$Book" "author" "I", Cond.fieldLink RX4 187 "PrizeHouse$Book" "stock" "I", Cond.methodLink RX4 148 yX4_isEligible, Cond.instanceMethod yX4_isEligible, Cond.selects RX4 yX4_isEligible yX4_isEligible]
def wsL_law0_r10 : List Cond := [Cond.code yX4_isEligible cX4_isEligible 4 (some .boolean), Cond.fieldLink RX4 412 "PrizeHouse$Book" "form" "I", Cond.fieldLink RX4 415 "PrizeHouse$Book" "pages" "I", Cond.methodLink RX4 418 yX3_admit, Cond.instanceMethod yX3_admit, Cond.selects RX3 yX3_admit yX3_admit, Cond.code yX3_admit cX3_admit 3 (some .boolean), Cond.static yX4_has, Cond.code yX4_has cX4_has 2 (some .boolean), Cond.methodLink RX4 313 yX4_standingOf, Cond.instanceMethod yX4_standingOf, Cond.selects RX4 yX4_standingOf yX4_standingOf, Cond.code yX4_standingOf cX4_standingOf 2 (some .int), Cond.methodLink RX4 223 yX4_has, Cond.methodLink RX4 316 yX4_scoreOf, Cond.instanceMethod yX4_scoreOf, Cond.selects RX4 yX4_scoreOf yX4_scoreOf, Cond.code yX4_scoreOf cX4_scoreOf 5 (some .int), Cond.methodLink RX4 437 yX4_isFairMark, Cond.instanceMethod yX4_isFairMark, Cond.selects RX4 yX4_isFairMark yX4_isFairMark, Cond.code yX4_isFairMark cX4_isFairMark 3 (some .boolean), Cond.methodLink RX4 173 yX2_isAgainst, Cond.instanceMethod yX2_isAgainst]
def wsL_law0_r11 : List Cond := [Cond.selects RX2 yX2_isAgainst yX2_isAgainst, Cond.code yX2_isAgainst cX2_isAgainst 2 (some .boolean), Cond.fieldLink RX2 59 "PrizeHouse$Judge" "conflicts" "I", Cond.methodLink RX4 440 yX2_meanOfTenfoldMarks, Cond.instanceMethod yX2_meanOfTenfoldMarks, Cond.selects RX2 yX2_meanOfTenfoldMarks yX2_meanOfTenfoldMarks, Cond.code yX2_meanOfTenfoldMarks cX2_meanOfTenfoldMarks 1 (some .int), Cond.fieldLink RX2 47 "PrizeHouse$Judge" "booksRead" "I", Cond.fieldLink RX2 53 "PrizeHouse$Judge" "markSum" "I", Cond.methodLink RX4 443 yJ9_floorDiv_7cf53, Cond.static yJ9_floorDiv_7cf53, Cond.initialized RJ9, Cond.code yJ9_floorDiv_7cf53 cJ9_floorDiv_7cf53 3 (some .int), Cond.methodLink RX4 319 yX4_fairMarksOf, Cond.instanceMethod yX4_fairMarksOf, Cond.selects RX4 yX4_fairMarksOf yX4_fairMarksOf, Cond.code yX4_fairMarksOf cX4_fairMarksOf 4 (some .int), Cond.methodLink RX4 322 yX4_pointsOf, Cond.instanceMethod yX4_pointsOf, Cond.selects RX4 yX4_pointsOf yX4_pointsOf, Cond.code yX4_pointsOf cX4_pointsOf 4 (some .int), Cond.fieldLink RX4 234 "PrizeHouse$Judge" "points" "[I", Cond.methodLink RL 59 yX4_ofHouse, Cond.instanceMethod yX4_ofHouse]
def wsL_law0_r12 : List Cond := [Cond.selects RX4 yX4_ofHouse yX4_ofHouse, Cond.code yX4_ofHouse cX4_ofHouse 3 (some .int), Cond.fieldLink RX4 293 "PrizeHouse$House" "coins" "I", Cond.fieldLink RX4 154 "PrizeHouse$House" "quotaUsed" "I", Cond.fieldLink RX4 302 "PrizeHouse" "wonSet" "I", Cond.methodLink RX4 157 yX4_quotaOf, Cond.instanceMethod yX4_quotaOf, Cond.selects RX4 yX4_quotaOf yX4_quotaOf, Cond.code yX4_quotaOf cX4_quotaOf 2 (some .int), Cond.fieldLink RX4 287 "PrizeHouse" "formerLongSet" "I", Cond.methodLink RX4 190 Lib.Math.min.name, Cond.static Lib.Math.min.name, Cond.code Lib.Math.min.name Lib.Math.min.code 2 (some .int), Cond.methodLink RX4 299 yX4_countOfHouse, Cond.instanceMethod yX4_countOfHouse, Cond.selects RX4 yX4_countOfHouse yX4_countOfHouse, Cond.code yX4_countOfHouse cX4_countOfHouse 5 (some .int), Cond.methodLink RX4 296 yX4_allBooks, Cond.instanceMethod yX4_allBooks, Cond.selects RX4 yX4_allBooks yX4_allBooks, Cond.code yX4_allBooks cX4_allBooks 1 (some .int), Cond.methodLink RL 62 yX4_enter, Cond.instanceMethod yX4_enter, Cond.selects RX4 yX4_enter yX4_enter]
def wsL_law0_r13 : List Cond := [Cond.code yX4_enter cX4_enter 3 (some .int), Cond.methodLink RX4 160 yX4_enterFor, Cond.instanceMethod yX4_enterFor, Cond.selects RX4 yX4_enterFor yX4_enterFor, Cond.code yX4_enterFor cX4_enterFor 3 (some .int), Cond.methodLink RL 65 yX4_callIn, Cond.instanceMethod yX4_callIn, Cond.selects RX4 yX4_callIn yX4_callIn, Cond.code yX4_callIn cX4_callIn 3 (some .int), Cond.fieldLink RX4 166 "PrizeHouse$Judge" "hasCalledIn" "Z", Cond.methodLink RL 68 yX4_print, Cond.instanceMethod yX4_print, Cond.selects RX4 yX4_print yX4_print, Cond.code yX4_print cX4_print 3 (some .int), Cond.methodLink RL 71 yX4_readIn, Cond.instanceMethod yX4_readIn, Cond.selects RX4 yX4_readIn yX4_readIn, Cond.code yX4_readIn cX4_readIn 3 (some .int), Cond.methodLink RX4 369 Lib.Math.max.name, Cond.methodLink RX4 366 yX2_daysLeft, Cond.instanceMethod yX2_daysLeft, Cond.selects RX2 yX2_daysLeft yX2_daysLeft, Cond.code yX2_daysLeft cX2_daysLeft 3 (some .int), Cond.methodLink RX2 68 yX2_paceAfter]
def wsL_law0_r14 : List Cond := [Cond.instanceMethod yX2_paceAfter, Cond.selects RX2 yX2_paceAfter yX2_paceAfter, Cond.code yX2_paceAfter cX2_paceAfter 2 (some .int), Cond.methodLink RX2 62 Lib.Math.max.name, Cond.methodLink RL 74 yX4_read, Cond.instanceMethod yX4_read, Cond.selects RX4 yX4_read yX4_read, Cond.code yX4_read cX4_read 3 (some .int), Cond.methodLink RX4 182 yX4_handOut, Cond.instanceMethod yX4_handOut, Cond.selects RX4 yX4_handOut yX4_handOut, Cond.code yX4_handOut cX4_handOut 5 (some .int), Cond.methodLink RX4 421 yX4_lightestWithout, Cond.instanceMethod yX4_lightestWithout, Cond.selects RX4 yX4_lightestWithout yX4_lightestWithout, Cond.code yX4_lightestWithout cX4_lightestWithout 5 (some .int), Cond.fieldLink RX4 428 "PrizeHouse$Judge" "cratePages" "I", Cond.methodLink RX4 424 yX2_takeIn, Cond.instanceMethod yX2_takeIn, Cond.selects RX2 yX2_takeIn yX2_takeIn, Cond.code yX2_takeIn cX2_takeIn 3 none, Cond.fieldLink RX2 41 "PrizeHouse$Judge" "crateCount" "I", Cond.methodLink RL 77 yX4_longList, Cond.instanceMethod yX4_longList]
def wsL_law0_r15 : List Cond := [Cond.selects RX4 yX4_longList yX4_longList, Cond.code yX4_longList cX4_longList 2 (some .int), Cond.methodLink RX4 211 yX4_areCratesRead, Cond.instanceMethod yX4_areCratesRead, Cond.selects RX4 yX4_areCratesRead yX4_areCratesRead, Cond.code yX4_areCratesRead cX4_areCratesRead 2 (some .boolean), Cond.methodLink RX4 217 yX4_fillLongList, Cond.instanceMethod yX4_fillLongList, Cond.selects RX4 yX4_fillLongList yX4_fillLongList, Cond.code yX4_fillLongList cX4_fillLongList 5 none, Cond.methodLink RX4 449 yX4_longListable, Cond.instanceMethod yX4_longListable, Cond.selects RX4 yX4_longListable yX4_longListable, Cond.code yX4_longListable cX4_longListable 3 (some .int), Cond.methodLink RX4 455 yX4_hasMarksEnough, Cond.instanceMethod yX4_hasMarksEnough, Cond.selects RX4 yX4_hasMarksEnough yX4_hasMarksEnough, Cond.code yX4_hasMarksEnough cX4_hasMarksEnough 3 (some .boolean), Cond.methodLink RX4 446 yX4_fairJudgesOf, Cond.instanceMethod yX4_fairJudgesOf, Cond.selects RX4 yX4_fairJudgesOf yX4_fairJudgesOf, Cond.code yX4_fairJudgesOf cX4_fairJudgesOf 4 (some .int), Cond.methodLink RX4 452 yX4_bestOf, Cond.instanceMethod yX4_bestOf]
def wsL_law0_r16 : List Cond := [Cond.selects RX4 yX4_bestOf yX4_bestOf, Cond.code yX4_bestOf cX4_bestOf 4 (some .int), Cond.methodLink RX4 458 yX4_isBetter, Cond.instanceMethod yX4_isBetter, Cond.selects RX4 yX4_isBetter yX4_isBetter, Cond.code yX4_isBetter cX4_isBetter 5 (some .boolean), Cond.methodLink RX4 461 yJ6_compare_7cf53, Cond.static yJ6_compare_7cf53, Cond.code yJ6_compare_7cf53 cJ6_compare_7cf53 2 (some .int), Cond.methodLink RX4 464 yX4_giversTo, Cond.instanceMethod yX4_giversTo, Cond.selects RX4 yX4_giversTo yX4_giversTo, Cond.code yX4_giversTo cX4_giversTo 4 (some .int), Cond.methodLink RL 80 yX4_shortList, Cond.instanceMethod yX4_shortList, Cond.selects RX4 yX4_shortList yX4_shortList, Cond.code yX4_shortList cX4_shortList 2 (some .int), Cond.methodLink RX4 243 yX4_fillShortList, Cond.instanceMethod yX4_fillShortList, Cond.selects RX4 yX4_fillShortList yX4_fillShortList, Cond.code yX4_fillShortList cX4_fillShortList 4 none, Cond.methodLink RL 83 yX4_end, Cond.instanceMethod yX4_end, Cond.selects RX4 yX4_end yX4_end]
def wsL_law0_r17 : List Cond := [Cond.code yX4_end cX4_end 1 (some .int), Cond.methodLink RX4 265 yX4_winnerWithout, Cond.instanceMethod yX4_winnerWithout, Cond.selects RX4 yX4_winnerWithout yX4_winnerWithout, Cond.code yX4_winnerWithout cX4_winnerWithout 8 (some .int), Cond.methodLink RX4 476 yX4_countVotes, Cond.instanceMethod yX4_countVotes, Cond.selects RX4 yX4_countVotes yX4_countVotes, Cond.code yX4_countVotes cX4_countVotes 6 (some .int), Cond.methodLink RX4 485 yX4_openTo, Cond.instanceMethod yX4_openTo, Cond.selects RX4 yX4_openTo yX4_openTo, Cond.code yX4_openTo cX4_openTo 4 (some .int), Cond.methodLink RX4 489 yX2_firstIn, Cond.instanceMethod yX2_firstIn, Cond.selects RX2 yX2_firstIn yX2_firstIn, Cond.code yX2_firstIn cX2_firstIn 3 (some .int), Cond.methodLink RX4 479 yX4_aboveHalf, Cond.instanceMethod yX4_aboveHalf, Cond.selects RX4 yX4_aboveHalf yX4_aboveHalf, Cond.code yX4_aboveHalf cX4_aboveHalf 4 (some .int), Cond.methodLink RX4 482 yX4_weakestOf, Cond.instanceMethod yX4_weakestOf, Cond.selects RX4 yX4_weakestOf yX4_weakestOf]
def wsL_law0_r18 : List Cond := [Cond.code yX4_weakestOf cX4_weakestOf 4 (some .int), Cond.methodLink RX4 268 yX4_crown, Cond.instanceMethod yX4_crown, Cond.selects RX4 yX4_crown yX4_crown, Cond.code yX4_crown cX4_crown 2 none, Cond.methodLink RL 86 yX4_next, Cond.instanceMethod yX4_next, Cond.selects RX4 yX4_next yX4_next, Cond.code yX4_next cX4_next 2 (some .int), Cond.fieldLink RX4 278 "PrizeHouse$Rules" "forms" "I", Cond.fieldLink RX4 281 "PrizeHouse$Rules" "least" "I", Cond.fieldLink RX4 284 "PrizeHouse$Rules" "most" "I", Cond.methodLink RX4 290 yX2_clearYear, Cond.instanceMethod yX2_clearYear, Cond.selects RX2 yX2_clearYear yX2_clearYear, Cond.code yX2_clearYear cX2_clearYear 2 none, Cond.fieldLink RX2 37 "PrizeHouse$Judge" "hasCalledIn" "Z", Cond.methodLink RL 89 yX4_wins, Cond.instanceMethod yX4_wins, Cond.selects RX4 yX4_wins yX4_wins, Cond.code yX4_wins cX4_wins 2 (some .int), Cond.methodLink RL 92 yX4_points, Cond.instanceMethod yX4_points, Cond.selects RX4 yX4_points yX4_points]
def wsL_law0_r19 : List Cond := [Cond.code yX4_points cX4_points 5 (some .int), Cond.methodLink RL 95 yX4_vote, Cond.instanceMethod yX4_vote, Cond.selects RX4 yX4_vote yX4_vote, Cond.code yX4_vote cX4_vote 3 (some .int), Cond.methodLink RX4 249 yX4_isOrder, Cond.instanceMethod yX4_isOrder, Cond.selects RX4 yX4_isOrder yX4_isOrder, Cond.code yX4_isOrder cX4_isOrder 7 (some .boolean), Cond.methodLink RX4 256 yX4_takeOrder, Cond.instanceMethod yX4_takeOrder, Cond.selects RX4 yX4_takeOrder yX4_takeOrder, Cond.code yX4_takeOrder cX4_takeOrder 6 none, Cond.fieldLink RX4 467 "PrizeHouse$Judge" "ranked" "[I", Cond.fieldLink RX4 473 "PrizeHouse$Judge" "rankedCount" "I", Cond.methodLink RX4 470 yX4_bookAtPlace, Cond.instanceMethod yX4_bookAtPlace, Cond.selects RX4 yX4_bookAtPlace yX4_bookAtPlace, Cond.code yX4_bookAtPlace cX4_bookAtPlace 4 (some .int), Cond.methodLink RX4 260 yX4_orderCount, Cond.instanceMethod yX4_orderCount, Cond.selects RX4 yX4_orderCount yX4_orderCount, Cond.code yX4_orderCount cX4_orderCount 3 (some .int), Cond.methodLink RL 98 yX4_spoiled]
def wsL_law0_r20 : List Cond := [Cond.instanceMethod yX4_spoiled, Cond.selects RX4 yX4_spoiled yX4_spoiled, Cond.code yX4_spoiled cX4_spoiled 2 (some .int), Cond.methodLink RL 101 yX4_strip, Cond.instanceMethod yX4_strip, Cond.selects RX4 yX4_strip yX4_strip, Cond.code yX4_strip cX4_strip 1 (some .int), Cond.methodLink RL 104 yX4_wouldMiss, Cond.instanceMethod yX4_wouldMiss, Cond.selects RX4 yX4_wouldMiss yX4_wouldMiss, Cond.code yX4_wouldMiss cX4_wouldMiss 4 (some .int), Cond.methodLink RX4 372 yX4_askedInDay, Cond.instanceMethod yX4_askedInDay, Cond.selects RX4 yX4_askedInDay yX4_askedInDay, Cond.code yX4_askedInDay cX4_askedInDay 2 (some .int), Cond.methodLink RL 107 yX4_pass, Cond.instanceMethod yX4_pass, Cond.selects RX4 yX4_pass yX4_pass, Cond.code yX4_pass cX4_pass 4 (some .int), Cond.methodLink RX4 202 yX4_readForDay, Cond.instanceMethod yX4_readForDay, Cond.selects RX4 yX4_readForDay yX4_readForDay, Cond.code yX4_readForDay cX4_readForDay 3 (some .int), Cond.methodLink RX4 431 yX2_readForDay]
def wsL_law0_r21 : List Cond := [Cond.instanceMethod yX2_readForDay, Cond.selects RX2 yX2_readForDay yX2_readForDay, Cond.code yX2_readForDay cX2_readForDay 4 (some .int), Cond.methodLink RX2 76 Lib.Math.min.name, Cond.methodLink RX2 72 yX2_pagesLeft, Cond.methodLink RX2 79 yX2_markFor, Cond.instanceMethod yX2_markFor, Cond.selects RX2 yX2_markFor yX2_markFor, Cond.code yX2_markFor cX2_markFor 3 (some .int), Cond.fieldLink RX2 83 "PrizeHouse$Book" "merit" "I", Cond.fieldLink RX2 88 "PrizeHouse$Book" "flavour" "I", Cond.methodLink RX2 91 Lib.Math.abs.name, Cond.static Lib.Math.abs.name, Cond.code Lib.Math.abs.name Lib.Math.abs.code 1 (some .int), Cond.methodLink RX4 205 yX4_sellFor, Cond.instanceMethod yX4_sellFor, Cond.selects RX4 yX4_sellFor yX4_sellFor, Cond.code yX4_sellFor cX4_sellFor 4 none, Cond.methodLink RX4 434 yX0_sell, Cond.instanceMethod yX0_sell, Cond.selects RX0 yX0_sell yX0_sell, Cond.code yX0_sell cX0_sell 3 (some .int), Cond.fieldLink RX0 33 "PrizeHouse$Book" "stock" "I", Cond.methodLink RX0 36 Lib.Math.min.name]
def wsL_law0_r22 : List Cond := [Cond.fieldLink RX0 42 "PrizeHouse$Book" "sold" "I", Cond.fieldLink RX0 45 "PrizeHouse$Book" "missed" "I", Cond.methodLink RL 115 yL_isSo, Cond.static yL_isSo, Cond.code yL_isSo cL_isSo 19 (some .boolean), Cond.constantDouble RL 131 (4547007122018943789), Cond.methodLink RL 123 yX4_meanMark, Cond.instanceMethod yX4_meanMark, Cond.selects RX4 yX4_meanMark yX4_meanMark, Cond.code yX4_meanMark cX4_meanMark 4 (some .double), Cond.fieldLink RX4 358 "PrizeHouse$Judge" "markSum" "I", Cond.methodLink RL 127 yJ9_abs_294c1, Cond.static yJ9_abs_294c1, Cond.code yJ9_abs_294c1 cJ9_abs_294c1 2 (some .double), Cond.methodLink RJ9 79 ⟨"java/lang/Double", "doubleToRawLongBits", "(D)J"⟩, Cond.native ⟨"java/lang/Double", "doubleToRawLongBits", "(D)J"⟩, Cond.static ⟨"java/lang/Double", "doubleToRawLongBits", "(D)J"⟩, Cond.initialized "java/lang/Double", Cond.constantLong RJ9 135 (9223372036854775807), Cond.methodLink RJ9 166 ⟨"java/lang/Double", "longBitsToDouble", "(J)D"⟩, Cond.native ⟨"java/lang/Double", "longBitsToDouble", "(J)D"⟩, Cond.static ⟨"java/lang/Double", "longBitsToDouble", "(J)D"⟩, Cond.methodLink RL 133 yX4_beatsAll, Cond.instanceMethod yX4_beatsAll]
def wsL_law0_r23 : List Cond := [Cond.selects RX4 yX4_beatsAll yX4_beatsAll, Cond.code yX4_beatsAll cX4_beatsAll 2 (some .int), Cond.methodLink RX4 363 yX4_isAheadOfRest, Cond.instanceMethod yX4_isAheadOfRest, Cond.selects RX4 yX4_isAheadOfRest yX4_isAheadOfRest, Cond.code yX4_isAheadOfRest cX4_isAheadOfRest 3 (some .boolean), Cond.methodLink RX4 492 yX4_leadOver, Cond.instanceMethod yX4_leadOver, Cond.selects RX4 yX4_leadOver yX4_leadOver, Cond.code yX4_leadOver cX4_leadOver 6 (some .int), Cond.methodLink RL 119 yX4_digest, Cond.instanceMethod yX4_digest, Cond.selects RX4 yX4_digest yX4_digest, Cond.code yX4_digest cX4_digest 5 (some .long), Cond.constantLong RX4 375 (9117), Cond.constantLong RX4 377 (31), Cond.methodLink RX4 379 yX4_many, Cond.methodLink RX4 382 yX4_ofHouse, Cond.methodLink RX4 385 yX4_ofBook, Cond.methodLink RX4 388 yX4_spoiled, Cond.methodLink RX4 391 yX4_ofJudge, Cond.methodLink RX4 394 yX4_mark, Cond.methodLink RX4 397 yX4_wins, Cond.methodLink RX4 400 yX4_beatsAll]
def wsL_law0_r24 : List Cond := [Cond.methodLink RX4 403 yX4_readIn, Cond.methodLink RX4 406 yX4_wouldMiss]
def wsL_law0 : List Cond := (wsL_law0_r1 ++ (wsL_law0_r2 ++ (wsL_law0_r3 ++ (wsL_law0_r4 ++ (wsL_law0_r5 ++ (wsL_law0_r6 ++ (wsL_law0_r7 ++ (wsL_law0_r8 ++ (wsL_law0_r9 ++ (wsL_law0_r10 ++ (wsL_law0_r11 ++ (wsL_law0_r12 ++ (wsL_law0_r13 ++ (wsL_law0_r14 ++ (wsL_law0_r15 ++ (wsL_law0_r16 ++ (wsL_law0_r17 ++ (wsL_law0_r18 ++ (wsL_law0_r19 ++ (wsL_law0_r20 ++ (wsL_law0_r21 ++ (wsL_law0_r22 ++ (wsL_law0_r23 ++ wsL_law0_r24))))))))))))))))))))))) ++ wsX40 ++ wsX30 ++ wsX10 ++ wsX00 ++ wsX20 ++ ([] : List Cond)
end
section
section KW
theorem hA_1 : ∀ w ∈ wsL_law0_r1, w ∈ wsL_law0 := fun w h => List.mem_append_left _ (List.mem_append_left _ (List.mem_append_left _ (List.mem_append_left _ (List.mem_append_left _ (List.mem_append_left _ (List.mem_append_left _ h))))))
theorem hA_2 : ∀ w ∈ wsL_law0_r2, w ∈ wsL_law0 := fun w h => List.mem_append_left _ (List.mem_append_left _ (List.mem_append_left _ (List.mem_append_left _ (List.mem_append_left _ (List.mem_append_left _ (List.mem_append_right _ (List.mem_append_left _ h)))))))
theorem hA_3 : ∀ w ∈ wsL_law0_r3, w ∈ wsL_law0 := fun w h => List.mem_append_left _ (List.mem_append_left _ (List.mem_append_left _ (List.mem_append_left _ (List.mem_append_left _ (List.mem_append_left _ (List.mem_append_right _ (List.mem_append_right _ (List.mem_append_left _ h))))))))
theorem hA_4 : ∀ w ∈ wsL_law0_r4, w ∈ wsL_law0 := fun w h => List.mem_append_left _ (List.mem_append_left _ (List.mem_append_left _ (List.mem_append_left _ (List.mem_append_left _ (List.mem_append_left _ (List.mem_append_right _ (List.mem_append_right _ (List.mem_append_right _ (List.mem_append_left _ h)))))))))
theorem hA_5 : ∀ w ∈ wsL_law0_r5, w ∈ wsL_law0 := fun w h => List.mem_append_left _ (List.mem_append_left _ (List.mem_append_left _ (List.mem_append_left _ (List.mem_append_left _ (List.mem_append_left _ (List.mem_append_right _ (List.mem_append_right _ (List.mem_append_right _ (List.mem_append_right _ (List.mem_append_left _ h))))))))))
theorem hA_6 : ∀ w ∈ wsL_law0_r6, w ∈ wsL_law0 := fun w h => List.mem_append_left _ (List.mem_append_left _ (List.mem_append_left _ (List.mem_append_left _ (List.mem_append_left _ (List.mem_append_left _ (List.mem_append_right _ (List.mem_append_right _ (List.mem_append_right _ (List.mem_append_right _ (List.mem_append_right _ (List.mem_append_left _ h)))))))))))
theorem hA_7 : ∀ w ∈ wsL_law0_r7, w ∈ wsL_law0 := fun w h => List.mem_append_left _ (List.mem_append_left _ (List.mem_append_left _ (List.mem_append_left _ (List.mem_append_left _ (List.mem_append_left _ (List.mem_append_right _ (List.mem_append_right _ (List.mem_append_right _ (List.mem_append_right _ (List.mem_append_right _ (List.mem_append_right _ (List.mem_append_left _ h))))))))))))
theorem hA_8 : ∀ w ∈ wsL_law0_r8, w ∈ wsL_law0 := fun w h => List.mem_append_left _ (List.mem_append_left _ (List.mem_append_left _ (List.mem_append_left _ (List.mem_append_left _ (List.mem_append_left _ (List.mem_append_right _ (List.mem_append_right _ (List.mem_append_right _ (List.mem_append_right _ (List.mem_append_right _ (List.mem_append_right _ (List.mem_append_right _ (List.mem_append_left _ h)))))))))))))
theorem hA_9 : ∀ w ∈ wsL_law0_r9, w ∈ wsL_law0 := fun w h => List.mem_append_left _ (List.mem_append_left _ (List.mem_append_left _ (List.mem_append_left _ (List.mem_append_left _ (List.mem_append_left _ (List.mem_append_right _ (List.mem_append_right _ (List.mem_append_right _ (List.mem_append_right _ (List.mem_append_right _ (List.mem_append_right _ (List.mem_append_right _ (List.mem_append_right _ (List.mem_append_left _ h))))))))))))))
theorem hA_10 : ∀ w ∈ wsL_law0_r10, w ∈ wsL_law0 := fun w h => List.mem_append_left _ (List.mem_append_left _ (List.mem_append_left _ (List.mem_append_left _ (List.mem_append_left _ (List.mem_append_left _ (List.mem_append_right _ (List.mem_append_right _ (List.mem_append_right _ (List.mem_append_right _ (List.mem_append_right _ (List.mem_append_right _ (List.mem_append_right _ (List.mem_append_right _ (List.mem_append_right _ (List.mem_append_left _ h)))))))))))))))
theorem hA_11 : ∀ w ∈ wsL_law0_r11, w ∈ wsL_law0 := fun w h => List.mem_append_left _ (List.mem_append_left _ (List.mem_append_left _ (List.mem_append_left _ (List.mem_append_left _ (List.mem_append_left _ (List.mem_append_right _ (List.mem_append_right _ (List.mem_append_right _ (List.mem_append_right _ (List.mem_append_right _ (List.mem_append_right _ (List.mem_append_right _ (List.mem_append_right _ (List.mem_append_right _ (List.mem_append_right _ (List.mem_append_left _ h))))))))))))))))
theorem hA_12 : ∀ w ∈ wsL_law0_r12, w ∈ wsL_law0 := fun w h => List.mem_append_left _ (List.mem_append_left _ (List.mem_append_left _ (List.mem_append_left _ (List.mem_append_left _ (List.mem_append_left _ (List.mem_append_right _ (List.mem_append_right _ (List.mem_append_right _ (List.mem_append_right _ (List.mem_append_right _ (List.mem_append_right _ (List.mem_append_right _ (List.mem_append_right _ (List.mem_append_right _ (List.mem_append_right _ (List.mem_append_right _ (List.mem_append_left _ h)))))))))))))))))
theorem hA_13 : ∀ w ∈ wsL_law0_r13, w ∈ wsL_law0 := fun w h => List.mem_append_left _ (List.mem_append_left _ (List.mem_append_left _ (List.mem_append_left _ (List.mem_append_left _ (List.mem_append_left _ (List.mem_append_right _ (List.mem_append_right _ (List.mem_append_right _ (List.mem_append_right _ (List.mem_append_right _ (List.mem_append_right _ (List.mem_append_right _ (List.mem_append_right _ (List.mem_append_right _ (List.mem_append_right _ (List.mem_append_right _ (List.mem_append_right _ (List.mem_append_left _ h))))))))))))))))))
theorem hA_14 : ∀ w ∈ wsL_law0_r14, w ∈ wsL_law0 := fun w h => List.mem_append_left _ (List.mem_append_left _ (List.mem_append_left _ (List.mem_append_left _ (List.mem_append_left _ (List.mem_append_left _ (List.mem_append_right _ (List.mem_append_right _ (List.mem_append_right _ (List.mem_append_right _ (List.mem_append_right _ (List.mem_append_right _ (List.mem_append_right _ (List.mem_append_right _ (List.mem_append_right _ (List.mem_append_right _ (List.mem_append_right _ (List.mem_append_right _ (List.mem_append_right _ (List.mem_append_left _ h)))))))))))))))))))
theorem hA_15 : ∀ w ∈ wsL_law0_r15, w ∈ wsL_law0 := fun w h => List.mem_append_left _ (List.mem_append_left _ (List.mem_append_left _ (List.mem_append_left _ (List.mem_append_left _ (List.mem_append_left _ (List.mem_append_right _ (List.mem_append_right _ (List.mem_append_right _ (List.mem_append_right _ (List.mem_append_right _ (List.mem_append_right _ (List.mem_append_right _ (List.mem_append_right _ (List.mem_append_right _ (List.mem_append_right _ (List.mem_append_right _ (List.mem_append_right _ (List.mem_append_right _ (List.mem_append_right _ (List.mem_append_left _ h))))))))))))))))))))
theorem hA_16 : ∀ w ∈ wsL_law0_r16, w ∈ wsL_law0 := fun w h => List.mem_append_left _ (List.mem_append_left _ (List.mem_append_left _ (List.mem_append_left _ (List.mem_append_left _ (List.mem_append_left _ (List.mem_append_right _ (List.mem_append_right _ (List.mem_append_right _ (List.mem_append_right _ (List.mem_append_right _ (List.mem_append_right _ (List.mem_append_right _ (List.mem_append_right _ (List.mem_append_right _ (List.mem_append_right _ (List.mem_append_right _ (List.mem_append_right _ (List.mem_append_right _ (List.mem_append_right _ (List.mem_append_right _ (List.mem_append_left _ h)))))))))))))))))))))
theorem hA_17 : ∀ w ∈ wsL_law0_r17, w ∈ wsL_law0 := fun w h => List.mem_append_left _ (List.mem_append_left _ (List.mem_append_left _ (List.mem_append_left _ (List.mem_append_left _ (List.mem_append_left _ (List.mem_append_right _ (List.mem_append_right _ (List.mem_append_right _ (List.mem_append_right _ (List.mem_append_right _ (List.mem_append_right _ (List.mem_append_right _ (List.mem_append_right _ (List.mem_append_right _ (List.mem_append_right _ (List.mem_append_right _ (List.mem_append_right _ (List.mem_append_right _ (List.mem_append_right _ (List.mem_append_right _ (List.mem_append_right _ (List.mem_append_left _ h))))))))))))))))))))))
theorem hA_18 : ∀ w ∈ wsL_law0_r18, w ∈ wsL_law0 := fun w h => List.mem_append_left _ (List.mem_append_left _ (List.mem_append_left _ (List.mem_append_left _ (List.mem_append_left _ (List.mem_append_left _ (List.mem_append_right _ (List.mem_append_right _ (List.mem_append_right _ (List.mem_append_right _ (List.mem_append_right _ (List.mem_append_right _ (List.mem_append_right _ (List.mem_append_right _ (List.mem_append_right _ (List.mem_append_right _ (List.mem_append_right _ (List.mem_append_right _ (List.mem_append_right _ (List.mem_append_right _ (List.mem_append_right _ (List.mem_append_right _ (List.mem_append_right _ (List.mem_append_left _ h)))))))))))))))))))))))
theorem hA_19 : ∀ w ∈ wsL_law0_r19, w ∈ wsL_law0 := fun w h => List.mem_append_left _ (List.mem_append_left _ (List.mem_append_left _ (List.mem_append_left _ (List.mem_append_left _ (List.mem_append_left _ (List.mem_append_right _ (List.mem_append_right _ (List.mem_append_right _ (List.mem_append_right _ (List.mem_append_right _ (List.mem_append_right _ (List.mem_append_right _ (List.mem_append_right _ (List.mem_append_right _ (List.mem_append_right _ (List.mem_append_right _ (List.mem_append_right _ (List.mem_append_right _ (List.mem_append_right _ (List.mem_append_right _ (List.mem_append_right _ (List.mem_append_right _ (List.mem_append_right _ (List.mem_append_left _ h))))))))))))))))))))))))
theorem hA_20 : ∀ w ∈ wsL_law0_r20, w ∈ wsL_law0 := fun w h => List.mem_append_left _ (List.mem_append_left _ (List.mem_append_left _ (List.mem_append_left _ (List.mem_append_left _ (List.mem_append_left _ (List.mem_append_right _ (List.mem_append_right _ (List.mem_append_right _ (List.mem_append_right _ (List.mem_append_right _ (List.mem_append_right _ (List.mem_append_right _ (List.mem_append_right _ (List.mem_append_right _ (List.mem_append_right _ (List.mem_append_right _ (List.mem_append_right _ (List.mem_append_right _ (List.mem_append_right _ (List.mem_append_right _ (List.mem_append_right _ (List.mem_append_right _ (List.mem_append_right _ (List.mem_append_right _ (List.mem_append_left _ h)))))))))))))))))))))))))
theorem hA_21 : ∀ w ∈ wsL_law0_r21, w ∈ wsL_law0 := fun w h => List.mem_append_left _ (List.mem_append_left _ (List.mem_append_left _ (List.mem_append_left _ (List.mem_append_left _ (List.mem_append_left _ (List.mem_append_right _ (List.mem_append_right _ (List.mem_append_right _ (List.mem_append_right _ (List.mem_append_right _ (List.mem_append_right _ (List.mem_append_right _ (List.mem_append_right _ (List.mem_append_right _ (List.mem_append_right _ (List.mem_append_right _ (List.mem_append_right _ (List.mem_append_right _ (List.mem_append_right _ (List.mem_append_right _ (List.mem_append_right _ (List.mem_append_right _ (List.mem_append_right _ (List.mem_append_right _ (List.mem_append_right _ (List.mem_append_left _ h))))))))))))))))))))))))))
theorem hA_22 : ∀ w ∈ wsL_law0_r22, w ∈ wsL_law0 := fun w h => List.mem_append_left _ (List.mem_append_left _ (List.mem_append_left _ (List.mem_append_left _ (List.mem_append_left _ (List.mem_append_left _ (List.mem_append_right _ (List.mem_append_right _ (List.mem_append_right _ (List.mem_append_right _ (List.mem_append_right _ (List.mem_append_right _ (List.mem_append_right _ (List.mem_append_right _ (List.mem_append_right _ (List.mem_append_right _ (List.mem_append_right _ (List.mem_append_right _ (List.mem_append_right _ (List.mem_append_right _ (List.mem_append_right _ (List.mem_append_right _ (List.mem_append_right _ (List.mem_append_right _ (List.mem_append_right _ (List.mem_append_right _ (List.mem_append_right _ (List.mem_append_left _ h)))))))))))))))))))))))))))
theorem hA_23 : ∀ w ∈ wsL_law0_r23, w ∈ wsL_law0 := fun w h => List.mem_append_left _ (List.mem_append_left _ (List.mem_append_left _ (List.mem_append_left _ (List.mem_append_left _ (List.mem_append_left _ (List.mem_append_right _ (List.mem_append_right _ (List.mem_append_right _ (List.mem_append_right _ (List.mem_append_right _ (List.mem_append_right _ (List.mem_append_right _ (List.mem_append_right _ (List.mem_append_right _ (List.mem_append_right _ (List.mem_append_right _ (List.mem_append_right _ (List.mem_append_right _ (List.mem_append_right _ (List.mem_append_right _ (List.mem_append_right _ (List.mem_append_right _ (List.mem_append_right _ (List.mem_append_right _ (List.mem_append_right _ (List.mem_append_right _ (List.mem_append_right _ (List.mem_append_left _ h))))))))))))))))))))))))))))
theorem hA_24 : ∀ w ∈ wsL_law0_r24, w ∈ wsL_law0 := fun w h => List.mem_append_left _ (List.mem_append_left _ (List.mem_append_left _ (List.mem_append_left _ (List.mem_append_left _ (List.mem_append_left _ (List.mem_append_right _ (List.mem_append_right _ (List.mem_append_right _ (List.mem_append_right _ (List.mem_append_right _ (List.mem_append_right _ (List.mem_append_right _ (List.mem_append_right _ (List.mem_append_right _ (List.mem_append_right _ (List.mem_append_right _ (List.mem_append_right _ (List.mem_append_right _ (List.mem_append_right _ (List.mem_append_right _ (List.mem_append_right _ (List.mem_append_right _ (List.mem_append_right _ (List.mem_append_right _ (List.mem_append_right _ (List.mem_append_right _ (List.mem_append_right _ (List.mem_append_right _ (h)))))))))))))))))))))))))))))
theorem hin_wsX40 : ∀ w ∈ wsX40, w ∈ wsL_law0 := fun w h => List.mem_append_left _ (List.mem_append_left _ (List.mem_append_left _ (List.mem_append_left _ (List.mem_append_left _ (List.mem_append_right _ h)))))
theorem hin_wsX30 : ∀ w ∈ wsX30, w ∈ wsL_law0 := fun w h => List.mem_append_left _ (List.mem_append_left _ (List.mem_append_left _ (List.mem_append_left _ (List.mem_append_right _ h))))
theorem hin_wsX10 : ∀ w ∈ wsX10, w ∈ wsL_law0 := fun w h => List.mem_append_left _ (List.mem_append_left _ (List.mem_append_left _ (List.mem_append_right _ h)))
theorem hin_wsX00 : ∀ w ∈ wsX00, w ∈ wsL_law0 := fun w h => List.mem_append_left _ (List.mem_append_left _ (List.mem_append_right _ h))
theorem hin_wsX20 : ∀ w ∈ wsX20, w ∈ wsL_law0 := fun w h => List.mem_append_left _ (List.mem_append_right _ h)
theorem kw_0 : Cond.classLink RL 9 RX4 ∈ wsL_law0 := hA_1 _ (List.mem_of_getElem? (i := 0) rfl)
theorem kw_1 : Cond.instantiable RX4 19 ∈ wsL_law0 := hA_1 _ (List.mem_of_getElem? (i := 1) rfl)
theorem kw_2 : Cond.initialized RX4 ∈ wsL_law0 := hA_1 _ (List.mem_of_getElem? (i := 2) rfl)
theorem kw_3 : Cond.arrayClass .int ∈ wsL_law0 := hA_1 _ (List.mem_of_getElem? (i := 3) rfl)
theorem kw_4 : Cond.methodLink RL 110 Lib.Math.max.name ∈ wsL_law0 := hA_1 _ (List.mem_of_getElem? (i := 4) rfl)
theorem kw_5 : Cond.static Lib.Math.max.name ∈ wsL_law0 := hA_1 _ (List.mem_of_getElem? (i := 5) rfl)
theorem kw_6 : Cond.initialized "java/lang/Math" ∈ wsL_law0 := hA_1 _ (List.mem_of_getElem? (i := 6) rfl)
theorem kw_7 : Cond.code Lib.Math.max.name Lib.Math.max.code 2 (some .int) ∈ wsL_law0 := hA_1 _ (List.mem_of_getElem? (i := 7) rfl)
theorem kw_8 : Cond.methodLink RL 11 yX4_init ∈ wsL_law0 := hA_1 _ (List.mem_of_getElem? (i := 8) rfl)
theorem kw_9 : Cond.instanceMethod yX4_init ∈ wsL_law0 := hA_1 _ (List.mem_of_getElem? (i := 9) rfl)
theorem kw_10 : Cond.code yX4_init cX4_init 2 none ∈ wsL_law0 := hA_1 _ (List.mem_of_getElem? (i := 10) rfl)
theorem kw_11 : Cond.methodLink RX4 1 objectInit ∈ wsL_law0 := hA_1 _ (List.mem_of_getElem? (i := 11) rfl)
theorem kw_12 : Cond.instanceMethod objectInit ∈ wsL_law0 := hA_1 _ (List.mem_of_getElem? (i := 12) rfl)
theorem kw_13 : Cond.code objectInit ⟨#[0xb1]⟩ 1 none ∈ wsL_law0 := hA_1 _ (List.mem_of_getElem? (i := 13) rfl)
theorem kw_14 : Cond.classLink RX4 9 RX1 ∈ wsL_law0 := hA_1 _ (List.mem_of_getElem? (i := 14) rfl)
theorem kw_15 : Cond.fieldLink RX4 11 "PrizeHouse" "houses" "[LPrizeHouse$House;" ∈ wsL_law0 := hA_1 _ (List.mem_of_getElem? (i := 15) rfl)
theorem kw_16 : Cond.classLink RX4 15 RX0 ∈ wsL_law0 := hA_1 _ (List.mem_of_getElem? (i := 16) rfl)
theorem kw_17 : Cond.fieldLink RX4 17 "PrizeHouse" "books" "[LPrizeHouse$Book;" ∈ wsL_law0 := hA_1 _ (List.mem_of_getElem? (i := 17) rfl)
theorem kw_18 : Cond.classLink RX4 21 RX2 ∈ wsL_law0 := hA_1 _ (List.mem_of_getElem? (i := 18) rfl)
theorem kw_19 : Cond.fieldLink RX4 23 "PrizeHouse" "judges" "[LPrizeHouse$Judge;" ∈ wsL_law0 := hA_1 _ (List.mem_of_getElem? (i := 19) rfl)
theorem kw_20 : Cond.classLink RX4 27 RX3 ∈ wsL_law0 := hA_1 _ (List.mem_of_getElem? (i := 20) rfl)
theorem kw_21 : Cond.instantiable RX3 4 ∈ wsL_law0 := hA_1 _ (List.mem_of_getElem? (i := 21) rfl)
theorem kw_22 : Cond.initialized RX3 ∈ wsL_law0 := hA_1 _ (List.mem_of_getElem? (i := 22) rfl)
theorem kw_23 : Cond.fieldLink RX4 30 "PrizeHouse" "rulesNow" "LPrizeHouse$Rules;" ∈ wsL_law0 := hA_1 _ (List.mem_of_getElem? (i := 23) rfl)
theorem kw_24 : Cond.fieldLink RX4 34 "PrizeHouse" "rulesNext" "LPrizeHouse$Rules;" ∈ wsL_law0 := hA_2 _ (List.mem_of_getElem? (i := 0) rfl)
theorem kw_25 : Cond.fieldLink RX4 37 "PrizeHouse" "phase" "I" ∈ wsL_law0 := hA_2 _ (List.mem_of_getElem? (i := 1) rfl)
theorem kw_26 : Cond.fieldLink RX4 41 "PrizeHouse" "winner" "I" ∈ wsL_law0 := hA_2 _ (List.mem_of_getElem? (i := 2) rfl)
theorem kw_27 : Cond.fieldLink RX4 44 "PrizeHouse" "formerWinner" "I" ∈ wsL_law0 := hA_2 _ (List.mem_of_getElem? (i := 3) rfl)
theorem kw_28 : Cond.fieldLink RX4 47 "PrizeHouse" "votes" "[I" ∈ wsL_law0 := hA_2 _ (List.mem_of_getElem? (i := 4) rfl)
theorem kw_29 : Cond.instantiable RX1 2 ∈ wsL_law0 := hA_2 _ (List.mem_of_getElem? (i := 5) rfl)
theorem kw_30 : Cond.initialized RX1 ∈ wsL_law0 := hA_2 _ (List.mem_of_getElem? (i := 6) rfl)
theorem kw_31 : Cond.instantiable RX0 11 ∈ wsL_law0 := hA_2 _ (List.mem_of_getElem? (i := 7) rfl)
theorem kw_32 : Cond.initialized RX0 ∈ wsL_law0 := hA_2 _ (List.mem_of_getElem? (i := 8) rfl)
theorem kw_33 : Cond.instantiable RX2 16 ∈ wsL_law0 := hA_2 _ (List.mem_of_getElem? (i := 9) rfl)
theorem kw_34 : Cond.initialized RX2 ∈ wsL_law0 := hA_2 _ (List.mem_of_getElem? (i := 10) rfl)
theorem kw_35 : Cond.instanceMethod yX3_init ∈ wsL_law0 := hA_2 _ (List.mem_of_getElem? (i := 11) rfl)
theorem kw_36 : Cond.code yX3_init cX3_init 1 none ∈ wsL_law0 := hA_2 _ (List.mem_of_getElem? (i := 12) rfl)
theorem kw_37 : Cond.methodLink RX3 1 objectInit ∈ wsL_law0 := hA_2 _ (List.mem_of_getElem? (i := 13) rfl)
theorem kw_38 : Cond.fieldLink RX3 7 "PrizeHouse$Rules" "forms" "I" ∈ wsL_law0 := hA_2 _ (List.mem_of_getElem? (i := 14) rfl)
theorem kw_39 : Cond.fieldLink RX3 13 "PrizeHouse$Rules" "least" "I" ∈ wsL_law0 := hA_2 _ (List.mem_of_getElem? (i := 15) rfl)
theorem kw_40 : Cond.fieldLink RX3 16 "PrizeHouse$Rules" "most" "I" ∈ wsL_law0 := hA_2 _ (List.mem_of_getElem? (i := 16) rfl)
theorem kw_41 : Cond.fieldLink RX3 19 "PrizeHouse$Rules" "fee" "I" ∈ wsL_law0 := hA_2 _ (List.mem_of_getElem? (i := 17) rfl)
theorem kw_42 : Cond.instanceMethod yX1_init ∈ wsL_law0 := hA_2 _ (List.mem_of_getElem? (i := 18) rfl)
theorem kw_43 : Cond.code yX1_init cX1_init 1 none ∈ wsL_law0 := hA_2 _ (List.mem_of_getElem? (i := 19) rfl)
theorem kw_44 : Cond.methodLink RX1 1 objectInit ∈ wsL_law0 := hA_2 _ (List.mem_of_getElem? (i := 20) rfl)
theorem kw_45 : Cond.fieldLink RX1 7 "PrizeHouse$House" "coins" "I" ∈ wsL_law0 := hA_2 _ (List.mem_of_getElem? (i := 21) rfl)
theorem kw_46 : Cond.instanceMethod yX0_init ∈ wsL_law0 := hA_2 _ (List.mem_of_getElem? (i := 22) rfl)
theorem kw_47 : Cond.code yX0_init cX0_init 1 none ∈ wsL_law0 := hA_2 _ (List.mem_of_getElem? (i := 23) rfl)
theorem kw_48 : Cond.methodLink RX0 3 objectInit ∈ wsL_law0 := hA_3 _ (List.mem_of_getElem? (i := 0) rfl)
theorem kw_49 : Cond.fieldLink RX0 9 "PrizeHouse$Book" "enteredYear" "I" ∈ wsL_law0 := hA_3 _ (List.mem_of_getElem? (i := 1) rfl)
theorem kw_50 : Cond.methodLink RX4 53 yX2_init ∈ wsL_law0 := hA_3 _ (List.mem_of_getElem? (i := 2) rfl)
theorem kw_51 : Cond.instanceMethod yX2_init ∈ wsL_law0 := hA_3 _ (List.mem_of_getElem? (i := 3) rfl)
theorem kw_52 : Cond.code yX2_init cX2_init 2 none ∈ wsL_law0 := hA_3 _ (List.mem_of_getElem? (i := 4) rfl)
theorem kw_53 : Cond.methodLink RX2 3 objectInit ∈ wsL_law0 := hA_3 _ (List.mem_of_getElem? (i := 5) rfl)
theorem kw_54 : Cond.fieldLink RX2 9 "PrizeHouse$Judge" "crate" "[I" ∈ wsL_law0 := hA_3 _ (List.mem_of_getElem? (i := 6) rfl)
theorem kw_55 : Cond.fieldLink RX2 15 "PrizeHouse$Judge" "crateEnds" "[I" ∈ wsL_law0 := hA_3 _ (List.mem_of_getElem? (i := 7) rfl)
theorem kw_56 : Cond.fieldLink RX2 18 "PrizeHouse$Judge" "marks" "[I" ∈ wsL_law0 := hA_3 _ (List.mem_of_getElem? (i := 8) rfl)
theorem kw_57 : Cond.fieldLink RX2 21 "PrizeHouse$Judge" "points" "[I" ∈ wsL_law0 := hA_3 _ (List.mem_of_getElem? (i := 9) rfl)
theorem kw_58 : Cond.fieldLink RX2 24 "PrizeHouse$Judge" "ranked" "[I" ∈ wsL_law0 := hA_3 _ (List.mem_of_getElem? (i := 10) rfl)
theorem kw_59 : Cond.methodLink RL 12 yL_cell ∈ wsL_law0 := hA_3 _ (List.mem_of_getElem? (i := 11) rfl)
theorem kw_60 : Cond.static yL_cell ∈ wsL_law0 := hA_3 _ (List.mem_of_getElem? (i := 12) rfl)
theorem kw_61 : Cond.initialized RL ∈ wsL_law0 := hA_3 _ (List.mem_of_getElem? (i := 13) rfl)
theorem kw_62 : Cond.code yL_cell cL_cell 2 (some .int) ∈ wsL_law0 := hA_3 _ (List.mem_of_getElem? (i := 14) rfl)
theorem kw_63 : Cond.constant RL 8 (790386105) ∈ wsL_law0 := hA_3 _ (List.mem_of_getElem? (i := 15) rfl)
theorem kw_64 : Cond.methodLink RL 18 yL_below ∈ wsL_law0 := hA_3 _ (List.mem_of_getElem? (i := 16) rfl)
theorem kw_65 : Cond.static yL_below ∈ wsL_law0 := hA_3 _ (List.mem_of_getElem? (i := 17) rfl)
theorem kw_66 : Cond.code yL_below cL_below 2 (some .int) ∈ wsL_law0 := hA_3 _ (List.mem_of_getElem? (i := 18) rfl)
theorem kw_67 : Cond.constant RL 7 (2147483647) ∈ wsL_law0 := hA_3 _ (List.mem_of_getElem? (i := 19) rfl)
theorem kw_68 : Cond.methodLink RL 22 yX4_house ∈ wsL_law0 := hA_3 _ (List.mem_of_getElem? (i := 20) rfl)
theorem kw_69 : Cond.instanceMethod yX4_house ∈ wsL_law0 := hA_3 _ (List.mem_of_getElem? (i := 21) rfl)
theorem kw_70 : Cond.selects RX4 yX4_house yX4_house ∈ wsL_law0 := hA_3 _ (List.mem_of_getElem? (i := 22) rfl)
theorem kw_71 : Cond.code yX4_house cX4_house 1 (some .int) ∈ wsL_law0 := hA_3 _ (List.mem_of_getElem? (i := 23) rfl)
theorem kw_72 : Cond.classLink RX4 57 "java/lang/IllegalStateException" ∈ wsL_law0 := hA_4 _ (List.mem_of_getElem? (i := 0) rfl)
theorem kw_73 : Cond.initialized "java/lang/IllegalStateException" ∈ wsL_law0 := hA_4 _ (List.mem_of_getElem? (i := 1) rfl)
theorem kw_74 : Cond.fieldLink RX4 54 "PrizeHouse" "houseCount" "I" ∈ wsL_law0 := hA_4 _ (List.mem_of_getElem? (i := 2) rfl)
theorem kw_75 : Cond.methodLink RL 26 yX4_judge ∈ wsL_law0 := hA_4 _ (List.mem_of_getElem? (i := 3) rfl)
theorem kw_76 : Cond.instanceMethod yX4_judge ∈ wsL_law0 := hA_4 _ (List.mem_of_getElem? (i := 4) rfl)
theorem kw_77 : Cond.selects RX4 yX4_judge yX4_judge ∈ wsL_law0 := hA_4 _ (List.mem_of_getElem? (i := 5) rfl)
theorem kw_78 : Cond.code yX4_judge cX4_judge 4 (some .int) ∈ wsL_law0 := hA_4 _ (List.mem_of_getElem? (i := 6) rfl)
theorem kw_79 : Cond.classLink RX4 80 "java/lang/IllegalArgumentException" ∈ wsL_law0 := hA_4 _ (List.mem_of_getElem? (i := 7) rfl)
theorem kw_80 : Cond.initialized "java/lang/IllegalArgumentException" ∈ wsL_law0 := hA_4 _ (List.mem_of_getElem? (i := 8) rfl)
theorem kw_81 : Cond.fieldLink RX4 102 "PrizeHouse" "judgeCount" "I" ∈ wsL_law0 := hA_4 _ (List.mem_of_getElem? (i := 9) rfl)
theorem kw_82 : Cond.methodLink RX4 76 yX4_isWithin ∈ wsL_law0 := hA_4 _ (List.mem_of_getElem? (i := 10) rfl)
theorem kw_83 : Cond.static yX4_isWithin ∈ wsL_law0 := hA_4 _ (List.mem_of_getElem? (i := 11) rfl)
theorem kw_84 : Cond.code yX4_isWithin cX4_isWithin 3 (some .boolean) ∈ wsL_law0 := hA_4 _ (List.mem_of_getElem? (i := 12) rfl)
theorem kw_85 : Cond.methodLink RX4 107 yX2_describe ∈ wsL_law0 := hA_4 _ (List.mem_of_getElem? (i := 13) rfl)
theorem kw_86 : Cond.instanceMethod yX2_describe ∈ wsL_law0 := hA_4 _ (List.mem_of_getElem? (i := 14) rfl)
theorem kw_87 : Cond.selects RX2 yX2_describe yX2_describe ∈ wsL_law0 := hA_4 _ (List.mem_of_getElem? (i := 15) rfl)
theorem kw_88 : Cond.code yX2_describe cX2_describe 4 none ∈ wsL_law0 := hA_4 _ (List.mem_of_getElem? (i := 16) rfl)
theorem kw_89 : Cond.fieldLink RX2 27 "PrizeHouse$Judge" "speed" "I" ∈ wsL_law0 := hA_4 _ (List.mem_of_getElem? (i := 17) rfl)
theorem kw_90 : Cond.fieldLink RX2 31 "PrizeHouse$Judge" "taste" "I" ∈ wsL_law0 := hA_4 _ (List.mem_of_getElem? (i := 18) rfl)
theorem kw_91 : Cond.fieldLink RX2 34 "PrizeHouse$Judge" "lean" "I" ∈ wsL_law0 := hA_4 _ (List.mem_of_getElem? (i := 19) rfl)
theorem kw_92 : Cond.methodLink RL 30 yX4_many ∈ wsL_law0 := hA_4 _ (List.mem_of_getElem? (i := 20) rfl)
theorem kw_93 : Cond.instanceMethod yX4_many ∈ wsL_law0 := hA_4 _ (List.mem_of_getElem? (i := 21) rfl)
theorem kw_94 : Cond.selects RX4 yX4_many yX4_many ∈ wsL_law0 := hA_4 _ (List.mem_of_getElem? (i := 22) rfl)
theorem kw_95 : Cond.code yX4_many cX4_many 2 (some .int) ∈ wsL_law0 := hA_4 _ (List.mem_of_getElem? (i := 23) rfl)
theorem kw_96 : Cond.fieldLink RX4 94 "PrizeHouse" "year" "I" ∈ wsL_law0 := hA_5 _ (List.mem_of_getElem? (i := 0) rfl)
theorem kw_97 : Cond.fieldLink RX4 197 "PrizeHouse" "day" "I" ∈ wsL_law0 := hA_5 _ (List.mem_of_getElem? (i := 1) rfl)
theorem kw_98 : Cond.fieldLink RX4 85 "PrizeHouse" "bookCount" "I" ∈ wsL_law0 := hA_5 _ (List.mem_of_getElem? (i := 2) rfl)
theorem kw_99 : Cond.fieldLink RX4 220 "PrizeHouse" "longSet" "I" ∈ wsL_law0 := hA_5 _ (List.mem_of_getElem? (i := 3) rfl)
theorem kw_100 : Cond.fieldLink RX4 246 "PrizeHouse" "shortSet" "I" ∈ wsL_law0 := hA_5 _ (List.mem_of_getElem? (i := 4) rfl)
theorem kw_101 : Cond.fieldLink RX4 273 "PrizeHouse" "strippedSet" "I" ∈ wsL_law0 := hA_5 _ (List.mem_of_getElem? (i := 5) rfl)
theorem kw_102 : Cond.fieldLink RX4 135 "PrizeHouse$Rules" "fee" "I" ∈ wsL_law0 := hA_5 _ (List.mem_of_getElem? (i := 6) rfl)
theorem kw_103 : Cond.methodLink RX4 176 yX4_enteredCount ∈ wsL_law0 := hA_5 _ (List.mem_of_getElem? (i := 7) rfl)
theorem kw_104 : Cond.instanceMethod yX4_enteredCount ∈ wsL_law0 := hA_5 _ (List.mem_of_getElem? (i := 8) rfl)
theorem kw_105 : Cond.selects RX4 yX4_enteredCount yX4_enteredCount ∈ wsL_law0 := hA_5 _ (List.mem_of_getElem? (i := 9) rfl)
theorem kw_106 : Cond.code yX4_enteredCount cX4_enteredCount 3 (some .int) ∈ wsL_law0 := hA_5 _ (List.mem_of_getElem? (i := 10) rfl)
theorem kw_107 : Cond.methodLink RX4 143 yX4_isEntered ∈ wsL_law0 := hA_5 _ (List.mem_of_getElem? (i := 11) rfl)
theorem kw_108 : Cond.instanceMethod yX4_isEntered ∈ wsL_law0 := hA_5 _ (List.mem_of_getElem? (i := 12) rfl)
theorem kw_109 : Cond.selects RX4 yX4_isEntered yX4_isEntered ∈ wsL_law0 := hA_5 _ (List.mem_of_getElem? (i := 13) rfl)
theorem kw_110 : Cond.code yX4_isEntered cX4_isEntered 2 (some .boolean) ∈ wsL_law0 := hA_5 _ (List.mem_of_getElem? (i := 14) rfl)
theorem kw_111 : Cond.fieldLink RX4 409 "PrizeHouse$Book" "enteredYear" "I" ∈ wsL_law0 := hA_5 _ (List.mem_of_getElem? (i := 15) rfl)
theorem kw_112 : Cond.methodLink RX4 124 yJ6_bitCount_0f7a4 ∈ wsL_law0 := hA_5 _ (List.mem_of_getElem? (i := 16) rfl)
theorem kw_113 : Cond.static yJ6_bitCount_0f7a4 ∈ wsL_law0 := hA_5 _ (List.mem_of_getElem? (i := 17) rfl)
theorem kw_114 : Cond.initialized RJ6 ∈ wsL_law0 := hA_5 _ (List.mem_of_getElem? (i := 18) rfl)
theorem kw_115 : Cond.code yJ6_bitCount_0f7a4 cJ6_bitCount_0f7a4 1 (some .int) ∈ wsL_law0 := hA_5 _ (List.mem_of_getElem? (i := 19) rfl)
theorem kw_116 : Cond.constant RJ6 265 (1431655765) ∈ wsL_law0 := hA_5 _ (List.mem_of_getElem? (i := 20) rfl)
theorem kw_117 : Cond.constant RJ6 266 (858993459) ∈ wsL_law0 := hA_5 _ (List.mem_of_getElem? (i := 21) rfl)
theorem kw_118 : Cond.constant RJ6 267 (252645135) ∈ wsL_law0 := hA_5 _ (List.mem_of_getElem? (i := 22) rfl)
theorem kw_119 : Cond.methodLink RX4 350 yX4_soldEver ∈ wsL_law0 := hA_5 _ (List.mem_of_getElem? (i := 23) rfl)
theorem kw_120 : Cond.instanceMethod yX4_soldEver ∈ wsL_law0 := hA_6 _ (List.mem_of_getElem? (i := 0) rfl)
theorem kw_121 : Cond.selects RX4 yX4_soldEver yX4_soldEver ∈ wsL_law0 := hA_6 _ (List.mem_of_getElem? (i := 1) rfl)
theorem kw_122 : Cond.code yX4_soldEver cX4_soldEver 3 (some .int) ∈ wsL_law0 := hA_6 _ (List.mem_of_getElem? (i := 2) rfl)
theorem kw_123 : Cond.fieldLink RX4 307 "PrizeHouse$Book" "sold" "I" ∈ wsL_law0 := hA_6 _ (List.mem_of_getElem? (i := 3) rfl)
theorem kw_124 : Cond.methodLink RX4 353 yX4_missedEver ∈ wsL_law0 := hA_6 _ (List.mem_of_getElem? (i := 4) rfl)
theorem kw_125 : Cond.instanceMethod yX4_missedEver ∈ wsL_law0 := hA_6 _ (List.mem_of_getElem? (i := 5) rfl)
theorem kw_126 : Cond.selects RX4 yX4_missedEver yX4_missedEver ∈ wsL_law0 := hA_6 _ (List.mem_of_getElem? (i := 6) rfl)
theorem kw_127 : Cond.code yX4_missedEver cX4_missedEver 3 (some .int) ∈ wsL_law0 := hA_6 _ (List.mem_of_getElem? (i := 7) rfl)
theorem kw_128 : Cond.fieldLink RX4 310 "PrizeHouse$Book" "missed" "I" ∈ wsL_law0 := hA_6 _ (List.mem_of_getElem? (i := 8) rfl)
theorem kw_129 : Cond.methodLink RL 34 yX4_book ∈ wsL_law0 := hA_6 _ (List.mem_of_getElem? (i := 9) rfl)
theorem kw_130 : Cond.instanceMethod yX4_book ∈ wsL_law0 := hA_6 _ (List.mem_of_getElem? (i := 10) rfl)
theorem kw_131 : Cond.selects RX4 yX4_book yX4_book ∈ wsL_law0 := hA_6 _ (List.mem_of_getElem? (i := 11) rfl)
theorem kw_132 : Cond.code yX4_book cX4_book 7 (some .int) ∈ wsL_law0 := hA_6 _ (List.mem_of_getElem? (i := 12) rfl)
theorem kw_133 : Cond.classLink RX4 68 "java/lang/IndexOutOfBoundsException" ∈ wsL_law0 := hA_6 _ (List.mem_of_getElem? (i := 13) rfl)
theorem kw_134 : Cond.initialized "java/lang/IndexOutOfBoundsException" ∈ wsL_law0 := hA_6 _ (List.mem_of_getElem? (i := 14) rfl)
theorem kw_135 : Cond.fieldLink RX4 97 "PrizeHouse$Book" "toldYear" "I" ∈ wsL_law0 := hA_6 _ (List.mem_of_getElem? (i := 15) rfl)
theorem kw_136 : Cond.methodLink RX4 64 yX4_isHouse ∈ wsL_law0 := hA_6 _ (List.mem_of_getElem? (i := 16) rfl)
theorem kw_137 : Cond.instanceMethod yX4_isHouse ∈ wsL_law0 := hA_6 _ (List.mem_of_getElem? (i := 17) rfl)
theorem kw_138 : Cond.selects RX4 yX4_isHouse yX4_isHouse ∈ wsL_law0 := hA_6 _ (List.mem_of_getElem? (i := 18) rfl)
theorem kw_139 : Cond.code yX4_isHouse cX4_isHouse 2 (some .boolean) ∈ wsL_law0 := hA_6 _ (List.mem_of_getElem? (i := 19) rfl)
theorem kw_140 : Cond.methodLink RX4 73 yX4_isAuthor ∈ wsL_law0 := hA_6 _ (List.mem_of_getElem? (i := 20) rfl)
theorem kw_141 : Cond.static yX4_isAuthor ∈ wsL_law0 := hA_6 _ (List.mem_of_getElem? (i := 21) rfl)
theorem kw_142 : Cond.code yX4_isAuthor cX4_isAuthor 1 (some .boolean) ∈ wsL_law0 := hA_6 _ (List.mem_of_getElem? (i := 22) rfl)
theorem kw_143 : Cond.methodLink RX4 90 yX0_describe ∈ wsL_law0 := hA_6 _ (List.mem_of_getElem? (i := 23) rfl)
theorem kw_144 : Cond.instanceMethod yX0_describe ∈ wsL_law0 := hA_7 _ (List.mem_of_getElem? (i := 0) rfl)
theorem kw_145 : Cond.selects RX0 yX0_describe yX0_describe ∈ wsL_law0 := hA_7 _ (List.mem_of_getElem? (i := 1) rfl)
theorem kw_146 : Cond.code yX0_describe cX0_describe 7 none ∈ wsL_law0 := hA_7 _ (List.mem_of_getElem? (i := 2) rfl)
theorem kw_147 : Cond.fieldLink RX0 15 "PrizeHouse$Book" "house" "I" ∈ wsL_law0 := hA_7 _ (List.mem_of_getElem? (i := 3) rfl)
theorem kw_148 : Cond.fieldLink RX0 18 "PrizeHouse$Book" "author" "I" ∈ wsL_law0 := hA_7 _ (List.mem_of_getElem? (i := 4) rfl)
theorem kw_149 : Cond.fieldLink RX0 21 "PrizeHouse$Book" "form" "I" ∈ wsL_law0 := hA_7 _ (List.mem_of_getElem? (i := 5) rfl)
theorem kw_150 : Cond.fieldLink RX0 24 "PrizeHouse$Book" "pages" "I" ∈ wsL_law0 := hA_7 _ (List.mem_of_getElem? (i := 6) rfl)
theorem kw_151 : Cond.fieldLink RX0 27 "PrizeHouse$Book" "merit" "I" ∈ wsL_law0 := hA_7 _ (List.mem_of_getElem? (i := 7) rfl)
theorem kw_152 : Cond.fieldLink RX0 30 "PrizeHouse$Book" "flavour" "I" ∈ wsL_law0 := hA_7 _ (List.mem_of_getElem? (i := 8) rfl)
theorem kw_153 : Cond.methodLink RL 38 yX4_mark ∈ wsL_law0 := hA_7 _ (List.mem_of_getElem? (i := 9) rfl)
theorem kw_154 : Cond.instanceMethod yX4_mark ∈ wsL_law0 := hA_7 _ (List.mem_of_getElem? (i := 10) rfl)
theorem kw_155 : Cond.selects RX4 yX4_mark yX4_mark ∈ wsL_law0 := hA_7 _ (List.mem_of_getElem? (i := 11) rfl)
theorem kw_156 : Cond.code yX4_mark cX4_mark 3 (some .int) ∈ wsL_law0 := hA_7 _ (List.mem_of_getElem? (i := 12) rfl)
theorem kw_157 : Cond.fieldLink RX4 347 "PrizeHouse$Judge" "marks" "[I" ∈ wsL_law0 := hA_7 _ (List.mem_of_getElem? (i := 13) rfl)
theorem kw_158 : Cond.methodLink RX4 110 yX4_isJudge ∈ wsL_law0 := hA_7 _ (List.mem_of_getElem? (i := 14) rfl)
theorem kw_159 : Cond.instanceMethod yX4_isJudge ∈ wsL_law0 := hA_7 _ (List.mem_of_getElem? (i := 15) rfl)
theorem kw_160 : Cond.selects RX4 yX4_isJudge yX4_isJudge ∈ wsL_law0 := hA_7 _ (List.mem_of_getElem? (i := 16) rfl)
theorem kw_161 : Cond.code yX4_isJudge cX4_isJudge 2 (some .boolean) ∈ wsL_law0 := hA_7 _ (List.mem_of_getElem? (i := 17) rfl)
theorem kw_162 : Cond.methodLink RX4 138 yX4_isBook ∈ wsL_law0 := hA_7 _ (List.mem_of_getElem? (i := 18) rfl)
theorem kw_163 : Cond.instanceMethod yX4_isBook ∈ wsL_law0 := hA_7 _ (List.mem_of_getElem? (i := 19) rfl)
theorem kw_164 : Cond.selects RX4 yX4_isBook yX4_isBook ∈ wsL_law0 := hA_7 _ (List.mem_of_getElem? (i := 20) rfl)
theorem kw_165 : Cond.code yX4_isBook cX4_isBook 2 (some .boolean) ∈ wsL_law0 := hA_7 _ (List.mem_of_getElem? (i := 21) rfl)
theorem kw_166 : Cond.methodLink RL 41 yX4_conflict ∈ wsL_law0 := hA_7 _ (List.mem_of_getElem? (i := 22) rfl)
theorem kw_167 : Cond.instanceMethod yX4_conflict ∈ wsL_law0 := hA_7 _ (List.mem_of_getElem? (i := 23) rfl)
theorem kw_168 : Cond.selects RX4 yX4_conflict yX4_conflict ∈ wsL_law0 := hA_8 _ (List.mem_of_getElem? (i := 0) rfl)
theorem kw_169 : Cond.code yX4_conflict cX4_conflict 3 (some .int) ∈ wsL_law0 := hA_8 _ (List.mem_of_getElem? (i := 1) rfl)
theorem kw_170 : Cond.fieldLink RX4 117 "PrizeHouse$Judge" "conflicts" "I" ∈ wsL_law0 := hA_8 _ (List.mem_of_getElem? (i := 2) rfl)
theorem kw_171 : Cond.methodLink RX4 120 yX4_bit ∈ wsL_law0 := hA_8 _ (List.mem_of_getElem? (i := 3) rfl)
theorem kw_172 : Cond.static yX4_bit ∈ wsL_law0 := hA_8 _ (List.mem_of_getElem? (i := 4) rfl)
theorem kw_173 : Cond.code yX4_bit cX4_bit 1 (some .int) ∈ wsL_law0 := hA_8 _ (List.mem_of_getElem? (i := 5) rfl)
theorem kw_174 : Cond.methodLink RL 44 yX4_ofJudge ∈ wsL_law0 := hA_8 _ (List.mem_of_getElem? (i := 6) rfl)
theorem kw_175 : Cond.instanceMethod yX4_ofJudge ∈ wsL_law0 := hA_8 _ (List.mem_of_getElem? (i := 7) rfl)
theorem kw_176 : Cond.selects RX4 yX4_ofJudge yX4_ofJudge ∈ wsL_law0 := hA_8 _ (List.mem_of_getElem? (i := 8) rfl)
theorem kw_177 : Cond.code yX4_ofJudge cX4_ofJudge 3 (some .int) ∈ wsL_law0 := hA_8 _ (List.mem_of_getElem? (i := 9) rfl)
theorem kw_178 : Cond.fieldLink RX4 327 "PrizeHouse$Judge" "speed" "I" ∈ wsL_law0 := hA_8 _ (List.mem_of_getElem? (i := 10) rfl)
theorem kw_179 : Cond.fieldLink RX4 330 "PrizeHouse$Judge" "crateCount" "I" ∈ wsL_law0 := hA_8 _ (List.mem_of_getElem? (i := 11) rfl)
theorem kw_180 : Cond.fieldLink RX4 336 "PrizeHouse$Judge" "booksRead" "I" ∈ wsL_law0 := hA_8 _ (List.mem_of_getElem? (i := 12) rfl)
theorem kw_181 : Cond.fieldLink RX4 339 "PrizeHouse$Judge" "pagesRead" "I" ∈ wsL_law0 := hA_8 _ (List.mem_of_getElem? (i := 13) rfl)
theorem kw_182 : Cond.methodLink RX4 333 yX2_pagesLeft ∈ wsL_law0 := hA_8 _ (List.mem_of_getElem? (i := 14) rfl)
theorem kw_183 : Cond.instanceMethod yX2_pagesLeft ∈ wsL_law0 := hA_8 _ (List.mem_of_getElem? (i := 15) rfl)
theorem kw_184 : Cond.selects RX2 yX2_pagesLeft yX2_pagesLeft ∈ wsL_law0 := hA_8 _ (List.mem_of_getElem? (i := 16) rfl)
theorem kw_185 : Cond.code yX2_pagesLeft cX2_pagesLeft 1 (some .int) ∈ wsL_law0 := hA_8 _ (List.mem_of_getElem? (i := 17) rfl)
theorem kw_186 : Cond.fieldLink RX2 44 "PrizeHouse$Judge" "cratePages" "I" ∈ wsL_law0 := hA_8 _ (List.mem_of_getElem? (i := 18) rfl)
theorem kw_187 : Cond.fieldLink RX2 50 "PrizeHouse$Judge" "pagesRead" "I" ∈ wsL_law0 := hA_8 _ (List.mem_of_getElem? (i := 19) rfl)
theorem kw_188 : Cond.methodLink RX4 342 yX2_hasOrder ∈ wsL_law0 := hA_8 _ (List.mem_of_getElem? (i := 20) rfl)
theorem kw_189 : Cond.instanceMethod yX2_hasOrder ∈ wsL_law0 := hA_8 _ (List.mem_of_getElem? (i := 21) rfl)
theorem kw_190 : Cond.selects RX2 yX2_hasOrder yX2_hasOrder ∈ wsL_law0 := hA_8 _ (List.mem_of_getElem? (i := 22) rfl)
theorem kw_191 : Cond.code yX2_hasOrder cX2_hasOrder 1 (some .boolean) ∈ wsL_law0 := hA_8 _ (List.mem_of_getElem? (i := 23) rfl)
theorem kw_192 : Cond.fieldLink RX2 56 "PrizeHouse$Judge" "rankedCount" "I" ∈ wsL_law0 := hA_9 _ (List.mem_of_getElem? (i := 0) rfl)
theorem kw_193 : Cond.methodLink RX4 231 yX2_pointsLeft ∈ wsL_law0 := hA_9 _ (List.mem_of_getElem? (i := 1) rfl)
theorem kw_194 : Cond.instanceMethod yX2_pointsLeft ∈ wsL_law0 := hA_9 _ (List.mem_of_getElem? (i := 2) rfl)
theorem kw_195 : Cond.selects RX2 yX2_pointsLeft yX2_pointsLeft ∈ wsL_law0 := hA_9 _ (List.mem_of_getElem? (i := 3) rfl)
theorem kw_196 : Cond.code yX2_pointsLeft cX2_pointsLeft 3 (some .int) ∈ wsL_law0 := hA_9 _ (List.mem_of_getElem? (i := 4) rfl)
theorem kw_197 : Cond.methodLink RL 47 yJ6_bitCount_0f7a4 ∈ wsL_law0 := hA_9 _ (List.mem_of_getElem? (i := 5) rfl)
theorem kw_198 : Cond.methodLink RL 52 yX4_rules ∈ wsL_law0 := hA_9 _ (List.mem_of_getElem? (i := 6) rfl)
theorem kw_199 : Cond.instanceMethod yX4_rules ∈ wsL_law0 := hA_9 _ (List.mem_of_getElem? (i := 7) rfl)
theorem kw_200 : Cond.selects RX4 yX4_rules yX4_rules ∈ wsL_law0 := hA_9 _ (List.mem_of_getElem? (i := 8) rfl)
theorem kw_201 : Cond.code yX4_rules cX4_rules 5 (some .int) ∈ wsL_law0 := hA_9 _ (List.mem_of_getElem? (i := 9) rfl)
theorem kw_202 : Cond.methodLink RX4 131 yX3_set ∈ wsL_law0 := hA_9 _ (List.mem_of_getElem? (i := 10) rfl)
theorem kw_203 : Cond.instanceMethod yX3_set ∈ wsL_law0 := hA_9 _ (List.mem_of_getElem? (i := 11) rfl)
theorem kw_204 : Cond.selects RX3 yX3_set yX3_set ∈ wsL_law0 := hA_9 _ (List.mem_of_getElem? (i := 12) rfl)
theorem kw_205 : Cond.code yX3_set cX3_set 5 none ∈ wsL_law0 := hA_9 _ (List.mem_of_getElem? (i := 13) rfl)
theorem kw_206 : Cond.methodLink RL 56 yX4_ofBook ∈ wsL_law0 := hA_9 _ (List.mem_of_getElem? (i := 14) rfl)
theorem kw_207 : Cond.instanceMethod yX4_ofBook ∈ wsL_law0 := hA_9 _ (List.mem_of_getElem? (i := 15) rfl)
theorem kw_208 : Cond.selects RX4 yX4_ofBook yX4_ofBook ∈ wsL_law0 := hA_9 _ (List.mem_of_getElem? (i := 16) rfl)
theorem kw_209 : Cond.code yX4_ofBook cX4_ofBook 3 (some .int) ∈ wsL_law0 := hA_9 _ (List.mem_of_getElem? (i := 17) rfl)
theorem kw_210 : Cond.fieldLink RX4 151 "PrizeHouse$Book" "house" "I" ∈ wsL_law0 := hA_9 _ (List.mem_of_getElem? (i := 18) rfl)
theorem kw_211 : Cond.fieldLink RX4 170 "PrizeHouse$Book" "author" "I" ∈ wsL_law0 := hA_9 _ (List.mem_of_getElem? (i := 19) rfl)
theorem kw_212 : Cond.fieldLink RX4 187 "PrizeHouse$Book" "stock" "I" ∈ wsL_law0 := hA_9 _ (List.mem_of_getElem? (i := 20) rfl)
theorem kw_213 : Cond.methodLink RX4 148 yX4_isEligible ∈ wsL_law0 := hA_9 _ (List.mem_of_getElem? (i := 21) rfl)
theorem kw_214 : Cond.instanceMethod yX4_isEligible ∈ wsL_law0 := hA_9 _ (List.mem_of_getElem? (i := 22) rfl)
theorem kw_215 : Cond.selects RX4 yX4_isEligible yX4_isEligible ∈ wsL_law0 := hA_9 _ (List.mem_of_getElem? (i := 23) rfl)
theorem kw_216 : Cond.code yX4_isEligible cX4_isEligible 4 (some .boolean) ∈ wsL_law0 := hA_10 _ (List.mem_of_getElem? (i := 0) rfl)
theorem kw_217 : Cond.fieldLink RX4 412 "PrizeHouse$Book" "form" "I" ∈ wsL_law0 := hA_10 _ (List.mem_of_getElem? (i := 1) rfl)
theorem kw_218 : Cond.fieldLink RX4 415 "PrizeHouse$Book" "pages" "I" ∈ wsL_law0 := hA_10 _ (List.mem_of_getElem? (i := 2) rfl)
theorem kw_219 : Cond.methodLink RX4 418 yX3_admit ∈ wsL_law0 := hA_10 _ (List.mem_of_getElem? (i := 3) rfl)
theorem kw_220 : Cond.instanceMethod yX3_admit ∈ wsL_law0 := hA_10 _ (List.mem_of_getElem? (i := 4) rfl)
theorem kw_221 : Cond.selects RX3 yX3_admit yX3_admit ∈ wsL_law0 := hA_10 _ (List.mem_of_getElem? (i := 5) rfl)
theorem kw_222 : Cond.code yX3_admit cX3_admit 3 (some .boolean) ∈ wsL_law0 := hA_10 _ (List.mem_of_getElem? (i := 6) rfl)
theorem kw_223 : Cond.static yX4_has ∈ wsL_law0 := hA_10 _ (List.mem_of_getElem? (i := 7) rfl)
theorem kw_224 : Cond.code yX4_has cX4_has 2 (some .boolean) ∈ wsL_law0 := hA_10 _ (List.mem_of_getElem? (i := 8) rfl)
theorem kw_225 : Cond.methodLink RX4 313 yX4_standingOf ∈ wsL_law0 := hA_10 _ (List.mem_of_getElem? (i := 9) rfl)
theorem kw_226 : Cond.instanceMethod yX4_standingOf ∈ wsL_law0 := hA_10 _ (List.mem_of_getElem? (i := 10) rfl)
theorem kw_227 : Cond.selects RX4 yX4_standingOf yX4_standingOf ∈ wsL_law0 := hA_10 _ (List.mem_of_getElem? (i := 11) rfl)
theorem kw_228 : Cond.code yX4_standingOf cX4_standingOf 2 (some .int) ∈ wsL_law0 := hA_10 _ (List.mem_of_getElem? (i := 12) rfl)
theorem kw_229 : Cond.methodLink RX4 223 yX4_has ∈ wsL_law0 := hA_10 _ (List.mem_of_getElem? (i := 13) rfl)
theorem kw_230 : Cond.methodLink RX4 316 yX4_scoreOf ∈ wsL_law0 := hA_10 _ (List.mem_of_getElem? (i := 14) rfl)
theorem kw_231 : Cond.instanceMethod yX4_scoreOf ∈ wsL_law0 := hA_10 _ (List.mem_of_getElem? (i := 15) rfl)
theorem kw_232 : Cond.selects RX4 yX4_scoreOf yX4_scoreOf ∈ wsL_law0 := hA_10 _ (List.mem_of_getElem? (i := 16) rfl)
theorem kw_233 : Cond.code yX4_scoreOf cX4_scoreOf 5 (some .int) ∈ wsL_law0 := hA_10 _ (List.mem_of_getElem? (i := 17) rfl)
theorem kw_234 : Cond.methodLink RX4 437 yX4_isFairMark ∈ wsL_law0 := hA_10 _ (List.mem_of_getElem? (i := 18) rfl)
theorem kw_235 : Cond.instanceMethod yX4_isFairMark ∈ wsL_law0 := hA_10 _ (List.mem_of_getElem? (i := 19) rfl)
theorem kw_236 : Cond.selects RX4 yX4_isFairMark yX4_isFairMark ∈ wsL_law0 := hA_10 _ (List.mem_of_getElem? (i := 20) rfl)
theorem kw_237 : Cond.code yX4_isFairMark cX4_isFairMark 3 (some .boolean) ∈ wsL_law0 := hA_10 _ (List.mem_of_getElem? (i := 21) rfl)
theorem kw_238 : Cond.methodLink RX4 173 yX2_isAgainst ∈ wsL_law0 := hA_10 _ (List.mem_of_getElem? (i := 22) rfl)
theorem kw_239 : Cond.instanceMethod yX2_isAgainst ∈ wsL_law0 := hA_10 _ (List.mem_of_getElem? (i := 23) rfl)
theorem kw_240 : Cond.selects RX2 yX2_isAgainst yX2_isAgainst ∈ wsL_law0 := hA_11 _ (List.mem_of_getElem? (i := 0) rfl)
theorem kw_241 : Cond.code yX2_isAgainst cX2_isAgainst 2 (some .boolean) ∈ wsL_law0 := hA_11 _ (List.mem_of_getElem? (i := 1) rfl)
theorem kw_242 : Cond.fieldLink RX2 59 "PrizeHouse$Judge" "conflicts" "I" ∈ wsL_law0 := hA_11 _ (List.mem_of_getElem? (i := 2) rfl)
theorem kw_243 : Cond.methodLink RX4 440 yX2_meanOfTenfoldMarks ∈ wsL_law0 := hA_11 _ (List.mem_of_getElem? (i := 3) rfl)
theorem kw_244 : Cond.instanceMethod yX2_meanOfTenfoldMarks ∈ wsL_law0 := hA_11 _ (List.mem_of_getElem? (i := 4) rfl)
theorem kw_245 : Cond.selects RX2 yX2_meanOfTenfoldMarks yX2_meanOfTenfoldMarks ∈ wsL_law0 := hA_11 _ (List.mem_of_getElem? (i := 5) rfl)
theorem kw_246 : Cond.code yX2_meanOfTenfoldMarks cX2_meanOfTenfoldMarks 1 (some .int) ∈ wsL_law0 := hA_11 _ (List.mem_of_getElem? (i := 6) rfl)
theorem kw_247 : Cond.fieldLink RX2 47 "PrizeHouse$Judge" "booksRead" "I" ∈ wsL_law0 := hA_11 _ (List.mem_of_getElem? (i := 7) rfl)
theorem kw_248 : Cond.fieldLink RX2 53 "PrizeHouse$Judge" "markSum" "I" ∈ wsL_law0 := hA_11 _ (List.mem_of_getElem? (i := 8) rfl)
theorem kw_249 : Cond.methodLink RX4 443 yJ9_floorDiv_7cf53 ∈ wsL_law0 := hA_11 _ (List.mem_of_getElem? (i := 9) rfl)
theorem kw_250 : Cond.static yJ9_floorDiv_7cf53 ∈ wsL_law0 := hA_11 _ (List.mem_of_getElem? (i := 10) rfl)
theorem kw_251 : Cond.initialized RJ9 ∈ wsL_law0 := hA_11 _ (List.mem_of_getElem? (i := 11) rfl)
theorem kw_252 : Cond.code yJ9_floorDiv_7cf53 cJ9_floorDiv_7cf53 3 (some .int) ∈ wsL_law0 := hA_11 _ (List.mem_of_getElem? (i := 12) rfl)
theorem kw_253 : Cond.methodLink RX4 319 yX4_fairMarksOf ∈ wsL_law0 := hA_11 _ (List.mem_of_getElem? (i := 13) rfl)
theorem kw_254 : Cond.instanceMethod yX4_fairMarksOf ∈ wsL_law0 := hA_11 _ (List.mem_of_getElem? (i := 14) rfl)
theorem kw_255 : Cond.selects RX4 yX4_fairMarksOf yX4_fairMarksOf ∈ wsL_law0 := hA_11 _ (List.mem_of_getElem? (i := 15) rfl)
theorem kw_256 : Cond.code yX4_fairMarksOf cX4_fairMarksOf 4 (some .int) ∈ wsL_law0 := hA_11 _ (List.mem_of_getElem? (i := 16) rfl)
theorem kw_257 : Cond.methodLink RX4 322 yX4_pointsOf ∈ wsL_law0 := hA_11 _ (List.mem_of_getElem? (i := 17) rfl)
theorem kw_258 : Cond.instanceMethod yX4_pointsOf ∈ wsL_law0 := hA_11 _ (List.mem_of_getElem? (i := 18) rfl)
theorem kw_259 : Cond.selects RX4 yX4_pointsOf yX4_pointsOf ∈ wsL_law0 := hA_11 _ (List.mem_of_getElem? (i := 19) rfl)
theorem kw_260 : Cond.code yX4_pointsOf cX4_pointsOf 4 (some .int) ∈ wsL_law0 := hA_11 _ (List.mem_of_getElem? (i := 20) rfl)
theorem kw_261 : Cond.fieldLink RX4 234 "PrizeHouse$Judge" "points" "[I" ∈ wsL_law0 := hA_11 _ (List.mem_of_getElem? (i := 21) rfl)
theorem kw_262 : Cond.methodLink RL 59 yX4_ofHouse ∈ wsL_law0 := hA_11 _ (List.mem_of_getElem? (i := 22) rfl)
theorem kw_263 : Cond.instanceMethod yX4_ofHouse ∈ wsL_law0 := hA_11 _ (List.mem_of_getElem? (i := 23) rfl)
theorem kw_264 : Cond.selects RX4 yX4_ofHouse yX4_ofHouse ∈ wsL_law0 := hA_12 _ (List.mem_of_getElem? (i := 0) rfl)
theorem kw_265 : Cond.code yX4_ofHouse cX4_ofHouse 3 (some .int) ∈ wsL_law0 := hA_12 _ (List.mem_of_getElem? (i := 1) rfl)
theorem kw_266 : Cond.fieldLink RX4 293 "PrizeHouse$House" "coins" "I" ∈ wsL_law0 := hA_12 _ (List.mem_of_getElem? (i := 2) rfl)
theorem kw_267 : Cond.fieldLink RX4 154 "PrizeHouse$House" "quotaUsed" "I" ∈ wsL_law0 := hA_12 _ (List.mem_of_getElem? (i := 3) rfl)
theorem kw_268 : Cond.fieldLink RX4 302 "PrizeHouse" "wonSet" "I" ∈ wsL_law0 := hA_12 _ (List.mem_of_getElem? (i := 4) rfl)
theorem kw_269 : Cond.methodLink RX4 157 yX4_quotaOf ∈ wsL_law0 := hA_12 _ (List.mem_of_getElem? (i := 5) rfl)
theorem kw_270 : Cond.instanceMethod yX4_quotaOf ∈ wsL_law0 := hA_12 _ (List.mem_of_getElem? (i := 6) rfl)
theorem kw_271 : Cond.selects RX4 yX4_quotaOf yX4_quotaOf ∈ wsL_law0 := hA_12 _ (List.mem_of_getElem? (i := 7) rfl)
theorem kw_272 : Cond.code yX4_quotaOf cX4_quotaOf 2 (some .int) ∈ wsL_law0 := hA_12 _ (List.mem_of_getElem? (i := 8) rfl)
theorem kw_273 : Cond.fieldLink RX4 287 "PrizeHouse" "formerLongSet" "I" ∈ wsL_law0 := hA_12 _ (List.mem_of_getElem? (i := 9) rfl)
theorem kw_274 : Cond.methodLink RX4 190 Lib.Math.min.name ∈ wsL_law0 := hA_12 _ (List.mem_of_getElem? (i := 10) rfl)
theorem kw_275 : Cond.static Lib.Math.min.name ∈ wsL_law0 := hA_12 _ (List.mem_of_getElem? (i := 11) rfl)
theorem kw_276 : Cond.code Lib.Math.min.name Lib.Math.min.code 2 (some .int) ∈ wsL_law0 := hA_12 _ (List.mem_of_getElem? (i := 12) rfl)
theorem kw_277 : Cond.methodLink RX4 299 yX4_countOfHouse ∈ wsL_law0 := hA_12 _ (List.mem_of_getElem? (i := 13) rfl)
theorem kw_278 : Cond.instanceMethod yX4_countOfHouse ∈ wsL_law0 := hA_12 _ (List.mem_of_getElem? (i := 14) rfl)
theorem kw_279 : Cond.selects RX4 yX4_countOfHouse yX4_countOfHouse ∈ wsL_law0 := hA_12 _ (List.mem_of_getElem? (i := 15) rfl)
theorem kw_280 : Cond.code yX4_countOfHouse cX4_countOfHouse 5 (some .int) ∈ wsL_law0 := hA_12 _ (List.mem_of_getElem? (i := 16) rfl)
theorem kw_281 : Cond.methodLink RX4 296 yX4_allBooks ∈ wsL_law0 := hA_12 _ (List.mem_of_getElem? (i := 17) rfl)
theorem kw_282 : Cond.instanceMethod yX4_allBooks ∈ wsL_law0 := hA_12 _ (List.mem_of_getElem? (i := 18) rfl)
theorem kw_283 : Cond.selects RX4 yX4_allBooks yX4_allBooks ∈ wsL_law0 := hA_12 _ (List.mem_of_getElem? (i := 19) rfl)
theorem kw_284 : Cond.code yX4_allBooks cX4_allBooks 1 (some .int) ∈ wsL_law0 := hA_12 _ (List.mem_of_getElem? (i := 20) rfl)
theorem kw_285 : Cond.methodLink RL 62 yX4_enter ∈ wsL_law0 := hA_12 _ (List.mem_of_getElem? (i := 21) rfl)
theorem kw_286 : Cond.instanceMethod yX4_enter ∈ wsL_law0 := hA_12 _ (List.mem_of_getElem? (i := 22) rfl)
theorem kw_287 : Cond.selects RX4 yX4_enter yX4_enter ∈ wsL_law0 := hA_12 _ (List.mem_of_getElem? (i := 23) rfl)
theorem kw_288 : Cond.code yX4_enter cX4_enter 3 (some .int) ∈ wsL_law0 := hA_13 _ (List.mem_of_getElem? (i := 0) rfl)
theorem kw_289 : Cond.methodLink RX4 160 yX4_enterFor ∈ wsL_law0 := hA_13 _ (List.mem_of_getElem? (i := 1) rfl)
theorem kw_290 : Cond.instanceMethod yX4_enterFor ∈ wsL_law0 := hA_13 _ (List.mem_of_getElem? (i := 2) rfl)
theorem kw_291 : Cond.selects RX4 yX4_enterFor yX4_enterFor ∈ wsL_law0 := hA_13 _ (List.mem_of_getElem? (i := 3) rfl)
theorem kw_292 : Cond.code yX4_enterFor cX4_enterFor 3 (some .int) ∈ wsL_law0 := hA_13 _ (List.mem_of_getElem? (i := 4) rfl)
theorem kw_293 : Cond.methodLink RL 65 yX4_callIn ∈ wsL_law0 := hA_13 _ (List.mem_of_getElem? (i := 5) rfl)
theorem kw_294 : Cond.instanceMethod yX4_callIn ∈ wsL_law0 := hA_13 _ (List.mem_of_getElem? (i := 6) rfl)
theorem kw_295 : Cond.selects RX4 yX4_callIn yX4_callIn ∈ wsL_law0 := hA_13 _ (List.mem_of_getElem? (i := 7) rfl)
theorem kw_296 : Cond.code yX4_callIn cX4_callIn 3 (some .int) ∈ wsL_law0 := hA_13 _ (List.mem_of_getElem? (i := 8) rfl)
theorem kw_297 : Cond.fieldLink RX4 166 "PrizeHouse$Judge" "hasCalledIn" "Z" ∈ wsL_law0 := hA_13 _ (List.mem_of_getElem? (i := 9) rfl)
theorem kw_298 : Cond.methodLink RL 68 yX4_print ∈ wsL_law0 := hA_13 _ (List.mem_of_getElem? (i := 10) rfl)
theorem kw_299 : Cond.instanceMethod yX4_print ∈ wsL_law0 := hA_13 _ (List.mem_of_getElem? (i := 11) rfl)
theorem kw_300 : Cond.selects RX4 yX4_print yX4_print ∈ wsL_law0 := hA_13 _ (List.mem_of_getElem? (i := 12) rfl)
theorem kw_301 : Cond.code yX4_print cX4_print 3 (some .int) ∈ wsL_law0 := hA_13 _ (List.mem_of_getElem? (i := 13) rfl)
theorem kw_302 : Cond.methodLink RL 71 yX4_readIn ∈ wsL_law0 := hA_13 _ (List.mem_of_getElem? (i := 14) rfl)
theorem kw_303 : Cond.instanceMethod yX4_readIn ∈ wsL_law0 := hA_13 _ (List.mem_of_getElem? (i := 15) rfl)
theorem kw_304 : Cond.selects RX4 yX4_readIn yX4_readIn ∈ wsL_law0 := hA_13 _ (List.mem_of_getElem? (i := 16) rfl)
theorem kw_305 : Cond.code yX4_readIn cX4_readIn 3 (some .int) ∈ wsL_law0 := hA_13 _ (List.mem_of_getElem? (i := 17) rfl)
theorem kw_306 : Cond.methodLink RX4 369 Lib.Math.max.name ∈ wsL_law0 := hA_13 _ (List.mem_of_getElem? (i := 18) rfl)
theorem kw_307 : Cond.methodLink RX4 366 yX2_daysLeft ∈ wsL_law0 := hA_13 _ (List.mem_of_getElem? (i := 19) rfl)
theorem kw_308 : Cond.instanceMethod yX2_daysLeft ∈ wsL_law0 := hA_13 _ (List.mem_of_getElem? (i := 20) rfl)
theorem kw_309 : Cond.selects RX2 yX2_daysLeft yX2_daysLeft ∈ wsL_law0 := hA_13 _ (List.mem_of_getElem? (i := 21) rfl)
theorem kw_310 : Cond.code yX2_daysLeft cX2_daysLeft 3 (some .int) ∈ wsL_law0 := hA_13 _ (List.mem_of_getElem? (i := 22) rfl)
theorem kw_311 : Cond.methodLink RX2 68 yX2_paceAfter ∈ wsL_law0 := hA_13 _ (List.mem_of_getElem? (i := 23) rfl)
theorem kw_312 : Cond.instanceMethod yX2_paceAfter ∈ wsL_law0 := hA_14 _ (List.mem_of_getElem? (i := 0) rfl)
theorem kw_313 : Cond.selects RX2 yX2_paceAfter yX2_paceAfter ∈ wsL_law0 := hA_14 _ (List.mem_of_getElem? (i := 1) rfl)
theorem kw_314 : Cond.code yX2_paceAfter cX2_paceAfter 2 (some .int) ∈ wsL_law0 := hA_14 _ (List.mem_of_getElem? (i := 2) rfl)
theorem kw_315 : Cond.methodLink RX2 62 Lib.Math.max.name ∈ wsL_law0 := hA_14 _ (List.mem_of_getElem? (i := 3) rfl)
theorem kw_316 : Cond.methodLink RL 74 yX4_read ∈ wsL_law0 := hA_14 _ (List.mem_of_getElem? (i := 4) rfl)
theorem kw_317 : Cond.instanceMethod yX4_read ∈ wsL_law0 := hA_14 _ (List.mem_of_getElem? (i := 5) rfl)
theorem kw_318 : Cond.selects RX4 yX4_read yX4_read ∈ wsL_law0 := hA_14 _ (List.mem_of_getElem? (i := 6) rfl)
theorem kw_319 : Cond.code yX4_read cX4_read 3 (some .int) ∈ wsL_law0 := hA_14 _ (List.mem_of_getElem? (i := 7) rfl)
theorem kw_320 : Cond.methodLink RX4 182 yX4_handOut ∈ wsL_law0 := hA_14 _ (List.mem_of_getElem? (i := 8) rfl)
theorem kw_321 : Cond.instanceMethod yX4_handOut ∈ wsL_law0 := hA_14 _ (List.mem_of_getElem? (i := 9) rfl)
theorem kw_322 : Cond.selects RX4 yX4_handOut yX4_handOut ∈ wsL_law0 := hA_14 _ (List.mem_of_getElem? (i := 10) rfl)
theorem kw_323 : Cond.code yX4_handOut cX4_handOut 5 (some .int) ∈ wsL_law0 := hA_14 _ (List.mem_of_getElem? (i := 11) rfl)
theorem kw_324 : Cond.methodLink RX4 421 yX4_lightestWithout ∈ wsL_law0 := hA_14 _ (List.mem_of_getElem? (i := 12) rfl)
theorem kw_325 : Cond.instanceMethod yX4_lightestWithout ∈ wsL_law0 := hA_14 _ (List.mem_of_getElem? (i := 13) rfl)
theorem kw_326 : Cond.selects RX4 yX4_lightestWithout yX4_lightestWithout ∈ wsL_law0 := hA_14 _ (List.mem_of_getElem? (i := 14) rfl)
theorem kw_327 : Cond.code yX4_lightestWithout cX4_lightestWithout 5 (some .int) ∈ wsL_law0 := hA_14 _ (List.mem_of_getElem? (i := 15) rfl)
theorem kw_328 : Cond.fieldLink RX4 428 "PrizeHouse$Judge" "cratePages" "I" ∈ wsL_law0 := hA_14 _ (List.mem_of_getElem? (i := 16) rfl)
theorem kw_329 : Cond.methodLink RX4 424 yX2_takeIn ∈ wsL_law0 := hA_14 _ (List.mem_of_getElem? (i := 17) rfl)
theorem kw_330 : Cond.instanceMethod yX2_takeIn ∈ wsL_law0 := hA_14 _ (List.mem_of_getElem? (i := 18) rfl)
theorem kw_331 : Cond.selects RX2 yX2_takeIn yX2_takeIn ∈ wsL_law0 := hA_14 _ (List.mem_of_getElem? (i := 19) rfl)
theorem kw_332 : Cond.code yX2_takeIn cX2_takeIn 3 none ∈ wsL_law0 := hA_14 _ (List.mem_of_getElem? (i := 20) rfl)
theorem kw_333 : Cond.fieldLink RX2 41 "PrizeHouse$Judge" "crateCount" "I" ∈ wsL_law0 := hA_14 _ (List.mem_of_getElem? (i := 21) rfl)
theorem kw_334 : Cond.methodLink RL 77 yX4_longList ∈ wsL_law0 := hA_14 _ (List.mem_of_getElem? (i := 22) rfl)
theorem kw_335 : Cond.instanceMethod yX4_longList ∈ wsL_law0 := hA_14 _ (List.mem_of_getElem? (i := 23) rfl)
theorem kw_336 : Cond.selects RX4 yX4_longList yX4_longList ∈ wsL_law0 := hA_15 _ (List.mem_of_getElem? (i := 0) rfl)
theorem kw_337 : Cond.code yX4_longList cX4_longList 2 (some .int) ∈ wsL_law0 := hA_15 _ (List.mem_of_getElem? (i := 1) rfl)
theorem kw_338 : Cond.methodLink RX4 211 yX4_areCratesRead ∈ wsL_law0 := hA_15 _ (List.mem_of_getElem? (i := 2) rfl)
theorem kw_339 : Cond.instanceMethod yX4_areCratesRead ∈ wsL_law0 := hA_15 _ (List.mem_of_getElem? (i := 3) rfl)
theorem kw_340 : Cond.selects RX4 yX4_areCratesRead yX4_areCratesRead ∈ wsL_law0 := hA_15 _ (List.mem_of_getElem? (i := 4) rfl)
theorem kw_341 : Cond.code yX4_areCratesRead cX4_areCratesRead 2 (some .boolean) ∈ wsL_law0 := hA_15 _ (List.mem_of_getElem? (i := 5) rfl)
theorem kw_342 : Cond.methodLink RX4 217 yX4_fillLongList ∈ wsL_law0 := hA_15 _ (List.mem_of_getElem? (i := 6) rfl)
theorem kw_343 : Cond.instanceMethod yX4_fillLongList ∈ wsL_law0 := hA_15 _ (List.mem_of_getElem? (i := 7) rfl)
theorem kw_344 : Cond.selects RX4 yX4_fillLongList yX4_fillLongList ∈ wsL_law0 := hA_15 _ (List.mem_of_getElem? (i := 8) rfl)
theorem kw_345 : Cond.code yX4_fillLongList cX4_fillLongList 5 none ∈ wsL_law0 := hA_15 _ (List.mem_of_getElem? (i := 9) rfl)
theorem kw_346 : Cond.methodLink RX4 449 yX4_longListable ∈ wsL_law0 := hA_15 _ (List.mem_of_getElem? (i := 10) rfl)
theorem kw_347 : Cond.instanceMethod yX4_longListable ∈ wsL_law0 := hA_15 _ (List.mem_of_getElem? (i := 11) rfl)
theorem kw_348 : Cond.selects RX4 yX4_longListable yX4_longListable ∈ wsL_law0 := hA_15 _ (List.mem_of_getElem? (i := 12) rfl)
theorem kw_349 : Cond.code yX4_longListable cX4_longListable 3 (some .int) ∈ wsL_law0 := hA_15 _ (List.mem_of_getElem? (i := 13) rfl)
theorem kw_350 : Cond.methodLink RX4 455 yX4_hasMarksEnough ∈ wsL_law0 := hA_15 _ (List.mem_of_getElem? (i := 14) rfl)
theorem kw_351 : Cond.instanceMethod yX4_hasMarksEnough ∈ wsL_law0 := hA_15 _ (List.mem_of_getElem? (i := 15) rfl)
theorem kw_352 : Cond.selects RX4 yX4_hasMarksEnough yX4_hasMarksEnough ∈ wsL_law0 := hA_15 _ (List.mem_of_getElem? (i := 16) rfl)
theorem kw_353 : Cond.code yX4_hasMarksEnough cX4_hasMarksEnough 3 (some .boolean) ∈ wsL_law0 := hA_15 _ (List.mem_of_getElem? (i := 17) rfl)
theorem kw_354 : Cond.methodLink RX4 446 yX4_fairJudgesOf ∈ wsL_law0 := hA_15 _ (List.mem_of_getElem? (i := 18) rfl)
theorem kw_355 : Cond.instanceMethod yX4_fairJudgesOf ∈ wsL_law0 := hA_15 _ (List.mem_of_getElem? (i := 19) rfl)
theorem kw_356 : Cond.selects RX4 yX4_fairJudgesOf yX4_fairJudgesOf ∈ wsL_law0 := hA_15 _ (List.mem_of_getElem? (i := 20) rfl)
theorem kw_357 : Cond.code yX4_fairJudgesOf cX4_fairJudgesOf 4 (some .int) ∈ wsL_law0 := hA_15 _ (List.mem_of_getElem? (i := 21) rfl)
theorem kw_358 : Cond.methodLink RX4 452 yX4_bestOf ∈ wsL_law0 := hA_15 _ (List.mem_of_getElem? (i := 22) rfl)
theorem kw_359 : Cond.instanceMethod yX4_bestOf ∈ wsL_law0 := hA_15 _ (List.mem_of_getElem? (i := 23) rfl)
theorem kw_360 : Cond.selects RX4 yX4_bestOf yX4_bestOf ∈ wsL_law0 := hA_16 _ (List.mem_of_getElem? (i := 0) rfl)
theorem kw_361 : Cond.code yX4_bestOf cX4_bestOf 4 (some .int) ∈ wsL_law0 := hA_16 _ (List.mem_of_getElem? (i := 1) rfl)
theorem kw_362 : Cond.methodLink RX4 458 yX4_isBetter ∈ wsL_law0 := hA_16 _ (List.mem_of_getElem? (i := 2) rfl)
theorem kw_363 : Cond.instanceMethod yX4_isBetter ∈ wsL_law0 := hA_16 _ (List.mem_of_getElem? (i := 3) rfl)
theorem kw_364 : Cond.selects RX4 yX4_isBetter yX4_isBetter ∈ wsL_law0 := hA_16 _ (List.mem_of_getElem? (i := 4) rfl)
theorem kw_365 : Cond.code yX4_isBetter cX4_isBetter 5 (some .boolean) ∈ wsL_law0 := hA_16 _ (List.mem_of_getElem? (i := 5) rfl)
theorem kw_366 : Cond.methodLink RX4 461 yJ6_compare_7cf53 ∈ wsL_law0 := hA_16 _ (List.mem_of_getElem? (i := 6) rfl)
theorem kw_367 : Cond.static yJ6_compare_7cf53 ∈ wsL_law0 := hA_16 _ (List.mem_of_getElem? (i := 7) rfl)
theorem kw_368 : Cond.code yJ6_compare_7cf53 cJ6_compare_7cf53 2 (some .int) ∈ wsL_law0 := hA_16 _ (List.mem_of_getElem? (i := 8) rfl)
theorem kw_369 : Cond.methodLink RX4 464 yX4_giversTo ∈ wsL_law0 := hA_16 _ (List.mem_of_getElem? (i := 9) rfl)
theorem kw_370 : Cond.instanceMethod yX4_giversTo ∈ wsL_law0 := hA_16 _ (List.mem_of_getElem? (i := 10) rfl)
theorem kw_371 : Cond.selects RX4 yX4_giversTo yX4_giversTo ∈ wsL_law0 := hA_16 _ (List.mem_of_getElem? (i := 11) rfl)
theorem kw_372 : Cond.code yX4_giversTo cX4_giversTo 4 (some .int) ∈ wsL_law0 := hA_16 _ (List.mem_of_getElem? (i := 12) rfl)
theorem kw_373 : Cond.methodLink RL 80 yX4_shortList ∈ wsL_law0 := hA_16 _ (List.mem_of_getElem? (i := 13) rfl)
theorem kw_374 : Cond.instanceMethod yX4_shortList ∈ wsL_law0 := hA_16 _ (List.mem_of_getElem? (i := 14) rfl)
theorem kw_375 : Cond.selects RX4 yX4_shortList yX4_shortList ∈ wsL_law0 := hA_16 _ (List.mem_of_getElem? (i := 15) rfl)
theorem kw_376 : Cond.code yX4_shortList cX4_shortList 2 (some .int) ∈ wsL_law0 := hA_16 _ (List.mem_of_getElem? (i := 16) rfl)
theorem kw_377 : Cond.methodLink RX4 243 yX4_fillShortList ∈ wsL_law0 := hA_16 _ (List.mem_of_getElem? (i := 17) rfl)
theorem kw_378 : Cond.instanceMethod yX4_fillShortList ∈ wsL_law0 := hA_16 _ (List.mem_of_getElem? (i := 18) rfl)
theorem kw_379 : Cond.selects RX4 yX4_fillShortList yX4_fillShortList ∈ wsL_law0 := hA_16 _ (List.mem_of_getElem? (i := 19) rfl)
theorem kw_380 : Cond.code yX4_fillShortList cX4_fillShortList 4 none ∈ wsL_law0 := hA_16 _ (List.mem_of_getElem? (i := 20) rfl)
theorem kw_381 : Cond.methodLink RL 83 yX4_end ∈ wsL_law0 := hA_16 _ (List.mem_of_getElem? (i := 21) rfl)
theorem kw_382 : Cond.instanceMethod yX4_end ∈ wsL_law0 := hA_16 _ (List.mem_of_getElem? (i := 22) rfl)
theorem kw_383 : Cond.selects RX4 yX4_end yX4_end ∈ wsL_law0 := hA_16 _ (List.mem_of_getElem? (i := 23) rfl)
theorem kw_384 : Cond.code yX4_end cX4_end 1 (some .int) ∈ wsL_law0 := hA_17 _ (List.mem_of_getElem? (i := 0) rfl)
theorem kw_385 : Cond.methodLink RX4 265 yX4_winnerWithout ∈ wsL_law0 := hA_17 _ (List.mem_of_getElem? (i := 1) rfl)
theorem kw_386 : Cond.instanceMethod yX4_winnerWithout ∈ wsL_law0 := hA_17 _ (List.mem_of_getElem? (i := 2) rfl)
theorem kw_387 : Cond.selects RX4 yX4_winnerWithout yX4_winnerWithout ∈ wsL_law0 := hA_17 _ (List.mem_of_getElem? (i := 3) rfl)
theorem kw_388 : Cond.code yX4_winnerWithout cX4_winnerWithout 8 (some .int) ∈ wsL_law0 := hA_17 _ (List.mem_of_getElem? (i := 4) rfl)
theorem kw_389 : Cond.methodLink RX4 476 yX4_countVotes ∈ wsL_law0 := hA_17 _ (List.mem_of_getElem? (i := 5) rfl)
theorem kw_390 : Cond.instanceMethod yX4_countVotes ∈ wsL_law0 := hA_17 _ (List.mem_of_getElem? (i := 6) rfl)
theorem kw_391 : Cond.selects RX4 yX4_countVotes yX4_countVotes ∈ wsL_law0 := hA_17 _ (List.mem_of_getElem? (i := 7) rfl)
theorem kw_392 : Cond.code yX4_countVotes cX4_countVotes 6 (some .int) ∈ wsL_law0 := hA_17 _ (List.mem_of_getElem? (i := 8) rfl)
theorem kw_393 : Cond.methodLink RX4 485 yX4_openTo ∈ wsL_law0 := hA_17 _ (List.mem_of_getElem? (i := 9) rfl)
theorem kw_394 : Cond.instanceMethod yX4_openTo ∈ wsL_law0 := hA_17 _ (List.mem_of_getElem? (i := 10) rfl)
theorem kw_395 : Cond.selects RX4 yX4_openTo yX4_openTo ∈ wsL_law0 := hA_17 _ (List.mem_of_getElem? (i := 11) rfl)
theorem kw_396 : Cond.code yX4_openTo cX4_openTo 4 (some .int) ∈ wsL_law0 := hA_17 _ (List.mem_of_getElem? (i := 12) rfl)
theorem kw_397 : Cond.methodLink RX4 489 yX2_firstIn ∈ wsL_law0 := hA_17 _ (List.mem_of_getElem? (i := 13) rfl)
theorem kw_398 : Cond.instanceMethod yX2_firstIn ∈ wsL_law0 := hA_17 _ (List.mem_of_getElem? (i := 14) rfl)
theorem kw_399 : Cond.selects RX2 yX2_firstIn yX2_firstIn ∈ wsL_law0 := hA_17 _ (List.mem_of_getElem? (i := 15) rfl)
theorem kw_400 : Cond.code yX2_firstIn cX2_firstIn 3 (some .int) ∈ wsL_law0 := hA_17 _ (List.mem_of_getElem? (i := 16) rfl)
theorem kw_401 : Cond.methodLink RX4 479 yX4_aboveHalf ∈ wsL_law0 := hA_17 _ (List.mem_of_getElem? (i := 17) rfl)
theorem kw_402 : Cond.instanceMethod yX4_aboveHalf ∈ wsL_law0 := hA_17 _ (List.mem_of_getElem? (i := 18) rfl)
theorem kw_403 : Cond.selects RX4 yX4_aboveHalf yX4_aboveHalf ∈ wsL_law0 := hA_17 _ (List.mem_of_getElem? (i := 19) rfl)
theorem kw_404 : Cond.code yX4_aboveHalf cX4_aboveHalf 4 (some .int) ∈ wsL_law0 := hA_17 _ (List.mem_of_getElem? (i := 20) rfl)
theorem kw_405 : Cond.methodLink RX4 482 yX4_weakestOf ∈ wsL_law0 := hA_17 _ (List.mem_of_getElem? (i := 21) rfl)
theorem kw_406 : Cond.instanceMethod yX4_weakestOf ∈ wsL_law0 := hA_17 _ (List.mem_of_getElem? (i := 22) rfl)
theorem kw_407 : Cond.selects RX4 yX4_weakestOf yX4_weakestOf ∈ wsL_law0 := hA_17 _ (List.mem_of_getElem? (i := 23) rfl)
theorem kw_408 : Cond.code yX4_weakestOf cX4_weakestOf 4 (some .int) ∈ wsL_law0 := hA_18 _ (List.mem_of_getElem? (i := 0) rfl)
theorem kw_409 : Cond.methodLink RX4 268 yX4_crown ∈ wsL_law0 := hA_18 _ (List.mem_of_getElem? (i := 1) rfl)
theorem kw_410 : Cond.instanceMethod yX4_crown ∈ wsL_law0 := hA_18 _ (List.mem_of_getElem? (i := 2) rfl)
theorem kw_411 : Cond.selects RX4 yX4_crown yX4_crown ∈ wsL_law0 := hA_18 _ (List.mem_of_getElem? (i := 3) rfl)
theorem kw_412 : Cond.code yX4_crown cX4_crown 2 none ∈ wsL_law0 := hA_18 _ (List.mem_of_getElem? (i := 4) rfl)
theorem kw_413 : Cond.methodLink RL 86 yX4_next ∈ wsL_law0 := hA_18 _ (List.mem_of_getElem? (i := 5) rfl)
theorem kw_414 : Cond.instanceMethod yX4_next ∈ wsL_law0 := hA_18 _ (List.mem_of_getElem? (i := 6) rfl)
theorem kw_415 : Cond.selects RX4 yX4_next yX4_next ∈ wsL_law0 := hA_18 _ (List.mem_of_getElem? (i := 7) rfl)
theorem kw_416 : Cond.code yX4_next cX4_next 2 (some .int) ∈ wsL_law0 := hA_18 _ (List.mem_of_getElem? (i := 8) rfl)
theorem kw_417 : Cond.fieldLink RX4 278 "PrizeHouse$Rules" "forms" "I" ∈ wsL_law0 := hA_18 _ (List.mem_of_getElem? (i := 9) rfl)
theorem kw_418 : Cond.fieldLink RX4 281 "PrizeHouse$Rules" "least" "I" ∈ wsL_law0 := hA_18 _ (List.mem_of_getElem? (i := 10) rfl)
theorem kw_419 : Cond.fieldLink RX4 284 "PrizeHouse$Rules" "most" "I" ∈ wsL_law0 := hA_18 _ (List.mem_of_getElem? (i := 11) rfl)
theorem kw_420 : Cond.methodLink RX4 290 yX2_clearYear ∈ wsL_law0 := hA_18 _ (List.mem_of_getElem? (i := 12) rfl)
theorem kw_421 : Cond.instanceMethod yX2_clearYear ∈ wsL_law0 := hA_18 _ (List.mem_of_getElem? (i := 13) rfl)
theorem kw_422 : Cond.selects RX2 yX2_clearYear yX2_clearYear ∈ wsL_law0 := hA_18 _ (List.mem_of_getElem? (i := 14) rfl)
theorem kw_423 : Cond.code yX2_clearYear cX2_clearYear 2 none ∈ wsL_law0 := hA_18 _ (List.mem_of_getElem? (i := 15) rfl)
theorem kw_424 : Cond.fieldLink RX2 37 "PrizeHouse$Judge" "hasCalledIn" "Z" ∈ wsL_law0 := hA_18 _ (List.mem_of_getElem? (i := 16) rfl)
theorem kw_425 : Cond.methodLink RL 89 yX4_wins ∈ wsL_law0 := hA_18 _ (List.mem_of_getElem? (i := 17) rfl)
theorem kw_426 : Cond.instanceMethod yX4_wins ∈ wsL_law0 := hA_18 _ (List.mem_of_getElem? (i := 18) rfl)
theorem kw_427 : Cond.selects RX4 yX4_wins yX4_wins ∈ wsL_law0 := hA_18 _ (List.mem_of_getElem? (i := 19) rfl)
theorem kw_428 : Cond.code yX4_wins cX4_wins 2 (some .int) ∈ wsL_law0 := hA_18 _ (List.mem_of_getElem? (i := 20) rfl)
theorem kw_429 : Cond.methodLink RL 92 yX4_points ∈ wsL_law0 := hA_18 _ (List.mem_of_getElem? (i := 21) rfl)
theorem kw_430 : Cond.instanceMethod yX4_points ∈ wsL_law0 := hA_18 _ (List.mem_of_getElem? (i := 22) rfl)
theorem kw_431 : Cond.selects RX4 yX4_points yX4_points ∈ wsL_law0 := hA_18 _ (List.mem_of_getElem? (i := 23) rfl)
theorem kw_432 : Cond.code yX4_points cX4_points 5 (some .int) ∈ wsL_law0 := hA_19 _ (List.mem_of_getElem? (i := 0) rfl)
theorem kw_433 : Cond.methodLink RL 95 yX4_vote ∈ wsL_law0 := hA_19 _ (List.mem_of_getElem? (i := 1) rfl)
theorem kw_434 : Cond.instanceMethod yX4_vote ∈ wsL_law0 := hA_19 _ (List.mem_of_getElem? (i := 2) rfl)
theorem kw_435 : Cond.selects RX4 yX4_vote yX4_vote ∈ wsL_law0 := hA_19 _ (List.mem_of_getElem? (i := 3) rfl)
theorem kw_436 : Cond.code yX4_vote cX4_vote 3 (some .int) ∈ wsL_law0 := hA_19 _ (List.mem_of_getElem? (i := 4) rfl)
theorem kw_437 : Cond.methodLink RX4 249 yX4_isOrder ∈ wsL_law0 := hA_19 _ (List.mem_of_getElem? (i := 5) rfl)
theorem kw_438 : Cond.instanceMethod yX4_isOrder ∈ wsL_law0 := hA_19 _ (List.mem_of_getElem? (i := 6) rfl)
theorem kw_439 : Cond.selects RX4 yX4_isOrder yX4_isOrder ∈ wsL_law0 := hA_19 _ (List.mem_of_getElem? (i := 7) rfl)
theorem kw_440 : Cond.code yX4_isOrder cX4_isOrder 7 (some .boolean) ∈ wsL_law0 := hA_19 _ (List.mem_of_getElem? (i := 8) rfl)
theorem kw_441 : Cond.methodLink RX4 256 yX4_takeOrder ∈ wsL_law0 := hA_19 _ (List.mem_of_getElem? (i := 9) rfl)
theorem kw_442 : Cond.instanceMethod yX4_takeOrder ∈ wsL_law0 := hA_19 _ (List.mem_of_getElem? (i := 10) rfl)
theorem kw_443 : Cond.selects RX4 yX4_takeOrder yX4_takeOrder ∈ wsL_law0 := hA_19 _ (List.mem_of_getElem? (i := 11) rfl)
theorem kw_444 : Cond.code yX4_takeOrder cX4_takeOrder 6 none ∈ wsL_law0 := hA_19 _ (List.mem_of_getElem? (i := 12) rfl)
theorem kw_445 : Cond.fieldLink RX4 467 "PrizeHouse$Judge" "ranked" "[I" ∈ wsL_law0 := hA_19 _ (List.mem_of_getElem? (i := 13) rfl)
theorem kw_446 : Cond.fieldLink RX4 473 "PrizeHouse$Judge" "rankedCount" "I" ∈ wsL_law0 := hA_19 _ (List.mem_of_getElem? (i := 14) rfl)
theorem kw_447 : Cond.methodLink RX4 470 yX4_bookAtPlace ∈ wsL_law0 := hA_19 _ (List.mem_of_getElem? (i := 15) rfl)
theorem kw_448 : Cond.instanceMethod yX4_bookAtPlace ∈ wsL_law0 := hA_19 _ (List.mem_of_getElem? (i := 16) rfl)
theorem kw_449 : Cond.selects RX4 yX4_bookAtPlace yX4_bookAtPlace ∈ wsL_law0 := hA_19 _ (List.mem_of_getElem? (i := 17) rfl)
theorem kw_450 : Cond.code yX4_bookAtPlace cX4_bookAtPlace 4 (some .int) ∈ wsL_law0 := hA_19 _ (List.mem_of_getElem? (i := 18) rfl)
theorem kw_451 : Cond.methodLink RX4 260 yX4_orderCount ∈ wsL_law0 := hA_19 _ (List.mem_of_getElem? (i := 19) rfl)
theorem kw_452 : Cond.instanceMethod yX4_orderCount ∈ wsL_law0 := hA_19 _ (List.mem_of_getElem? (i := 20) rfl)
theorem kw_453 : Cond.selects RX4 yX4_orderCount yX4_orderCount ∈ wsL_law0 := hA_19 _ (List.mem_of_getElem? (i := 21) rfl)
theorem kw_454 : Cond.code yX4_orderCount cX4_orderCount 3 (some .int) ∈ wsL_law0 := hA_19 _ (List.mem_of_getElem? (i := 22) rfl)
theorem kw_455 : Cond.methodLink RL 98 yX4_spoiled ∈ wsL_law0 := hA_19 _ (List.mem_of_getElem? (i := 23) rfl)
theorem kw_456 : Cond.instanceMethod yX4_spoiled ∈ wsL_law0 := hA_20 _ (List.mem_of_getElem? (i := 0) rfl)
theorem kw_457 : Cond.selects RX4 yX4_spoiled yX4_spoiled ∈ wsL_law0 := hA_20 _ (List.mem_of_getElem? (i := 1) rfl)
theorem kw_458 : Cond.code yX4_spoiled cX4_spoiled 2 (some .int) ∈ wsL_law0 := hA_20 _ (List.mem_of_getElem? (i := 2) rfl)
theorem kw_459 : Cond.methodLink RL 101 yX4_strip ∈ wsL_law0 := hA_20 _ (List.mem_of_getElem? (i := 3) rfl)
theorem kw_460 : Cond.instanceMethod yX4_strip ∈ wsL_law0 := hA_20 _ (List.mem_of_getElem? (i := 4) rfl)
theorem kw_461 : Cond.selects RX4 yX4_strip yX4_strip ∈ wsL_law0 := hA_20 _ (List.mem_of_getElem? (i := 5) rfl)
theorem kw_462 : Cond.code yX4_strip cX4_strip 1 (some .int) ∈ wsL_law0 := hA_20 _ (List.mem_of_getElem? (i := 6) rfl)
theorem kw_463 : Cond.methodLink RL 104 yX4_wouldMiss ∈ wsL_law0 := hA_20 _ (List.mem_of_getElem? (i := 7) rfl)
theorem kw_464 : Cond.instanceMethod yX4_wouldMiss ∈ wsL_law0 := hA_20 _ (List.mem_of_getElem? (i := 8) rfl)
theorem kw_465 : Cond.selects RX4 yX4_wouldMiss yX4_wouldMiss ∈ wsL_law0 := hA_20 _ (List.mem_of_getElem? (i := 9) rfl)
theorem kw_466 : Cond.code yX4_wouldMiss cX4_wouldMiss 4 (some .int) ∈ wsL_law0 := hA_20 _ (List.mem_of_getElem? (i := 10) rfl)
theorem kw_467 : Cond.methodLink RX4 372 yX4_askedInDay ∈ wsL_law0 := hA_20 _ (List.mem_of_getElem? (i := 11) rfl)
theorem kw_468 : Cond.instanceMethod yX4_askedInDay ∈ wsL_law0 := hA_20 _ (List.mem_of_getElem? (i := 12) rfl)
theorem kw_469 : Cond.selects RX4 yX4_askedInDay yX4_askedInDay ∈ wsL_law0 := hA_20 _ (List.mem_of_getElem? (i := 13) rfl)
theorem kw_470 : Cond.code yX4_askedInDay cX4_askedInDay 2 (some .int) ∈ wsL_law0 := hA_20 _ (List.mem_of_getElem? (i := 14) rfl)
theorem kw_471 : Cond.methodLink RL 107 yX4_pass ∈ wsL_law0 := hA_20 _ (List.mem_of_getElem? (i := 15) rfl)
theorem kw_472 : Cond.instanceMethod yX4_pass ∈ wsL_law0 := hA_20 _ (List.mem_of_getElem? (i := 16) rfl)
theorem kw_473 : Cond.selects RX4 yX4_pass yX4_pass ∈ wsL_law0 := hA_20 _ (List.mem_of_getElem? (i := 17) rfl)
theorem kw_474 : Cond.code yX4_pass cX4_pass 4 (some .int) ∈ wsL_law0 := hA_20 _ (List.mem_of_getElem? (i := 18) rfl)
theorem kw_475 : Cond.methodLink RX4 202 yX4_readForDay ∈ wsL_law0 := hA_20 _ (List.mem_of_getElem? (i := 19) rfl)
theorem kw_476 : Cond.instanceMethod yX4_readForDay ∈ wsL_law0 := hA_20 _ (List.mem_of_getElem? (i := 20) rfl)
theorem kw_477 : Cond.selects RX4 yX4_readForDay yX4_readForDay ∈ wsL_law0 := hA_20 _ (List.mem_of_getElem? (i := 21) rfl)
theorem kw_478 : Cond.code yX4_readForDay cX4_readForDay 3 (some .int) ∈ wsL_law0 := hA_20 _ (List.mem_of_getElem? (i := 22) rfl)
theorem kw_479 : Cond.methodLink RX4 431 yX2_readForDay ∈ wsL_law0 := hA_20 _ (List.mem_of_getElem? (i := 23) rfl)
theorem kw_480 : Cond.instanceMethod yX2_readForDay ∈ wsL_law0 := hA_21 _ (List.mem_of_getElem? (i := 0) rfl)
theorem kw_481 : Cond.selects RX2 yX2_readForDay yX2_readForDay ∈ wsL_law0 := hA_21 _ (List.mem_of_getElem? (i := 1) rfl)
theorem kw_482 : Cond.code yX2_readForDay cX2_readForDay 4 (some .int) ∈ wsL_law0 := hA_21 _ (List.mem_of_getElem? (i := 2) rfl)
theorem kw_483 : Cond.methodLink RX2 76 Lib.Math.min.name ∈ wsL_law0 := hA_21 _ (List.mem_of_getElem? (i := 3) rfl)
theorem kw_484 : Cond.methodLink RX2 72 yX2_pagesLeft ∈ wsL_law0 := hA_21 _ (List.mem_of_getElem? (i := 4) rfl)
theorem kw_485 : Cond.methodLink RX2 79 yX2_markFor ∈ wsL_law0 := hA_21 _ (List.mem_of_getElem? (i := 5) rfl)
theorem kw_486 : Cond.instanceMethod yX2_markFor ∈ wsL_law0 := hA_21 _ (List.mem_of_getElem? (i := 6) rfl)
theorem kw_487 : Cond.selects RX2 yX2_markFor yX2_markFor ∈ wsL_law0 := hA_21 _ (List.mem_of_getElem? (i := 7) rfl)
theorem kw_488 : Cond.code yX2_markFor cX2_markFor 3 (some .int) ∈ wsL_law0 := hA_21 _ (List.mem_of_getElem? (i := 8) rfl)
theorem kw_489 : Cond.fieldLink RX2 83 "PrizeHouse$Book" "merit" "I" ∈ wsL_law0 := hA_21 _ (List.mem_of_getElem? (i := 9) rfl)
theorem kw_490 : Cond.fieldLink RX2 88 "PrizeHouse$Book" "flavour" "I" ∈ wsL_law0 := hA_21 _ (List.mem_of_getElem? (i := 10) rfl)
theorem kw_491 : Cond.methodLink RX2 91 Lib.Math.abs.name ∈ wsL_law0 := hA_21 _ (List.mem_of_getElem? (i := 11) rfl)
theorem kw_492 : Cond.static Lib.Math.abs.name ∈ wsL_law0 := hA_21 _ (List.mem_of_getElem? (i := 12) rfl)
theorem kw_493 : Cond.code Lib.Math.abs.name Lib.Math.abs.code 1 (some .int) ∈ wsL_law0 := hA_21 _ (List.mem_of_getElem? (i := 13) rfl)
theorem kw_494 : Cond.methodLink RX4 205 yX4_sellFor ∈ wsL_law0 := hA_21 _ (List.mem_of_getElem? (i := 14) rfl)
theorem kw_495 : Cond.instanceMethod yX4_sellFor ∈ wsL_law0 := hA_21 _ (List.mem_of_getElem? (i := 15) rfl)
theorem kw_496 : Cond.selects RX4 yX4_sellFor yX4_sellFor ∈ wsL_law0 := hA_21 _ (List.mem_of_getElem? (i := 16) rfl)
theorem kw_497 : Cond.code yX4_sellFor cX4_sellFor 4 none ∈ wsL_law0 := hA_21 _ (List.mem_of_getElem? (i := 17) rfl)
theorem kw_498 : Cond.methodLink RX4 434 yX0_sell ∈ wsL_law0 := hA_21 _ (List.mem_of_getElem? (i := 18) rfl)
theorem kw_499 : Cond.instanceMethod yX0_sell ∈ wsL_law0 := hA_21 _ (List.mem_of_getElem? (i := 19) rfl)
theorem kw_500 : Cond.selects RX0 yX0_sell yX0_sell ∈ wsL_law0 := hA_21 _ (List.mem_of_getElem? (i := 20) rfl)
theorem kw_501 : Cond.code yX0_sell cX0_sell 3 (some .int) ∈ wsL_law0 := hA_21 _ (List.mem_of_getElem? (i := 21) rfl)
theorem kw_502 : Cond.fieldLink RX0 33 "PrizeHouse$Book" "stock" "I" ∈ wsL_law0 := hA_21 _ (List.mem_of_getElem? (i := 22) rfl)
theorem kw_503 : Cond.methodLink RX0 36 Lib.Math.min.name ∈ wsL_law0 := hA_21 _ (List.mem_of_getElem? (i := 23) rfl)
theorem kw_504 : Cond.fieldLink RX0 42 "PrizeHouse$Book" "sold" "I" ∈ wsL_law0 := hA_22 _ (List.mem_of_getElem? (i := 0) rfl)
theorem kw_505 : Cond.fieldLink RX0 45 "PrizeHouse$Book" "missed" "I" ∈ wsL_law0 := hA_22 _ (List.mem_of_getElem? (i := 1) rfl)
theorem kw_506 : Cond.methodLink RL 115 yL_isSo ∈ wsL_law0 := hA_22 _ (List.mem_of_getElem? (i := 2) rfl)
theorem kw_507 : Cond.static yL_isSo ∈ wsL_law0 := hA_22 _ (List.mem_of_getElem? (i := 3) rfl)
theorem kw_508 : Cond.code yL_isSo cL_isSo 19 (some .boolean) ∈ wsL_law0 := hA_22 _ (List.mem_of_getElem? (i := 4) rfl)
theorem kw_509 : Cond.constantDouble RL 131 (4547007122018943789) ∈ wsL_law0 := hA_22 _ (List.mem_of_getElem? (i := 5) rfl)
theorem kw_510 : Cond.methodLink RL 123 yX4_meanMark ∈ wsL_law0 := hA_22 _ (List.mem_of_getElem? (i := 6) rfl)
theorem kw_511 : Cond.instanceMethod yX4_meanMark ∈ wsL_law0 := hA_22 _ (List.mem_of_getElem? (i := 7) rfl)
theorem kw_512 : Cond.selects RX4 yX4_meanMark yX4_meanMark ∈ wsL_law0 := hA_22 _ (List.mem_of_getElem? (i := 8) rfl)
theorem kw_513 : Cond.code yX4_meanMark cX4_meanMark 4 (some .double) ∈ wsL_law0 := hA_22 _ (List.mem_of_getElem? (i := 9) rfl)
theorem kw_514 : Cond.fieldLink RX4 358 "PrizeHouse$Judge" "markSum" "I" ∈ wsL_law0 := hA_22 _ (List.mem_of_getElem? (i := 10) rfl)
theorem kw_515 : Cond.methodLink RL 127 yJ9_abs_294c1 ∈ wsL_law0 := hA_22 _ (List.mem_of_getElem? (i := 11) rfl)
theorem kw_516 : Cond.static yJ9_abs_294c1 ∈ wsL_law0 := hA_22 _ (List.mem_of_getElem? (i := 12) rfl)
theorem kw_517 : Cond.code yJ9_abs_294c1 cJ9_abs_294c1 2 (some .double) ∈ wsL_law0 := hA_22 _ (List.mem_of_getElem? (i := 13) rfl)
theorem kw_518 : Cond.methodLink RJ9 79 ⟨"java/lang/Double", "doubleToRawLongBits", "(D)J"⟩ ∈ wsL_law0 := hA_22 _ (List.mem_of_getElem? (i := 14) rfl)
theorem kw_519 : Cond.native ⟨"java/lang/Double", "doubleToRawLongBits", "(D)J"⟩ ∈ wsL_law0 := hA_22 _ (List.mem_of_getElem? (i := 15) rfl)
theorem kw_520 : Cond.static ⟨"java/lang/Double", "doubleToRawLongBits", "(D)J"⟩ ∈ wsL_law0 := hA_22 _ (List.mem_of_getElem? (i := 16) rfl)
theorem kw_521 : Cond.initialized "java/lang/Double" ∈ wsL_law0 := hA_22 _ (List.mem_of_getElem? (i := 17) rfl)
theorem kw_522 : Cond.constantLong RJ9 135 (9223372036854775807) ∈ wsL_law0 := hA_22 _ (List.mem_of_getElem? (i := 18) rfl)
theorem kw_523 : Cond.methodLink RJ9 166 ⟨"java/lang/Double", "longBitsToDouble", "(J)D"⟩ ∈ wsL_law0 := hA_22 _ (List.mem_of_getElem? (i := 19) rfl)
theorem kw_524 : Cond.native ⟨"java/lang/Double", "longBitsToDouble", "(J)D"⟩ ∈ wsL_law0 := hA_22 _ (List.mem_of_getElem? (i := 20) rfl)
theorem kw_525 : Cond.static ⟨"java/lang/Double", "longBitsToDouble", "(J)D"⟩ ∈ wsL_law0 := hA_22 _ (List.mem_of_getElem? (i := 21) rfl)
theorem kw_526 : Cond.methodLink RL 133 yX4_beatsAll ∈ wsL_law0 := hA_22 _ (List.mem_of_getElem? (i := 22) rfl)
theorem kw_527 : Cond.instanceMethod yX4_beatsAll ∈ wsL_law0 := hA_22 _ (List.mem_of_getElem? (i := 23) rfl)
theorem kw_528 : Cond.selects RX4 yX4_beatsAll yX4_beatsAll ∈ wsL_law0 := hA_23 _ (List.mem_of_getElem? (i := 0) rfl)
theorem kw_529 : Cond.code yX4_beatsAll cX4_beatsAll 2 (some .int) ∈ wsL_law0 := hA_23 _ (List.mem_of_getElem? (i := 1) rfl)
theorem kw_530 : Cond.methodLink RX4 363 yX4_isAheadOfRest ∈ wsL_law0 := hA_23 _ (List.mem_of_getElem? (i := 2) rfl)
theorem kw_531 : Cond.instanceMethod yX4_isAheadOfRest ∈ wsL_law0 := hA_23 _ (List.mem_of_getElem? (i := 3) rfl)
theorem kw_532 : Cond.selects RX4 yX4_isAheadOfRest yX4_isAheadOfRest ∈ wsL_law0 := hA_23 _ (List.mem_of_getElem? (i := 4) rfl)
theorem kw_533 : Cond.code yX4_isAheadOfRest cX4_isAheadOfRest 3 (some .boolean) ∈ wsL_law0 := hA_23 _ (List.mem_of_getElem? (i := 5) rfl)
theorem kw_534 : Cond.methodLink RX4 492 yX4_leadOver ∈ wsL_law0 := hA_23 _ (List.mem_of_getElem? (i := 6) rfl)
theorem kw_535 : Cond.instanceMethod yX4_leadOver ∈ wsL_law0 := hA_23 _ (List.mem_of_getElem? (i := 7) rfl)
theorem kw_536 : Cond.selects RX4 yX4_leadOver yX4_leadOver ∈ wsL_law0 := hA_23 _ (List.mem_of_getElem? (i := 8) rfl)
theorem kw_537 : Cond.code yX4_leadOver cX4_leadOver 6 (some .int) ∈ wsL_law0 := hA_23 _ (List.mem_of_getElem? (i := 9) rfl)
theorem kw_538 : Cond.methodLink RL 119 yX4_digest ∈ wsL_law0 := hA_23 _ (List.mem_of_getElem? (i := 10) rfl)
theorem kw_539 : Cond.instanceMethod yX4_digest ∈ wsL_law0 := hA_23 _ (List.mem_of_getElem? (i := 11) rfl)
theorem kw_540 : Cond.selects RX4 yX4_digest yX4_digest ∈ wsL_law0 := hA_23 _ (List.mem_of_getElem? (i := 12) rfl)
theorem kw_541 : Cond.code yX4_digest cX4_digest 5 (some .long) ∈ wsL_law0 := hA_23 _ (List.mem_of_getElem? (i := 13) rfl)
theorem kw_542 : Cond.constantLong RX4 375 (9117) ∈ wsL_law0 := hA_23 _ (List.mem_of_getElem? (i := 14) rfl)
theorem kw_543 : Cond.constantLong RX4 377 (31) ∈ wsL_law0 := hA_23 _ (List.mem_of_getElem? (i := 15) rfl)
theorem kw_544 : Cond.methodLink RX4 379 yX4_many ∈ wsL_law0 := hA_23 _ (List.mem_of_getElem? (i := 16) rfl)
theorem kw_545 : Cond.methodLink RX4 382 yX4_ofHouse ∈ wsL_law0 := hA_23 _ (List.mem_of_getElem? (i := 17) rfl)
theorem kw_546 : Cond.methodLink RX4 385 yX4_ofBook ∈ wsL_law0 := hA_23 _ (List.mem_of_getElem? (i := 18) rfl)
theorem kw_547 : Cond.methodLink RX4 388 yX4_spoiled ∈ wsL_law0 := hA_23 _ (List.mem_of_getElem? (i := 19) rfl)
theorem kw_548 : Cond.methodLink RX4 391 yX4_ofJudge ∈ wsL_law0 := hA_23 _ (List.mem_of_getElem? (i := 20) rfl)
theorem kw_549 : Cond.methodLink RX4 394 yX4_mark ∈ wsL_law0 := hA_23 _ (List.mem_of_getElem? (i := 21) rfl)
theorem kw_550 : Cond.methodLink RX4 397 yX4_wins ∈ wsL_law0 := hA_23 _ (List.mem_of_getElem? (i := 22) rfl)
theorem kw_551 : Cond.methodLink RX4 400 yX4_beatsAll ∈ wsL_law0 := hA_23 _ (List.mem_of_getElem? (i := 23) rfl)
theorem kw_552 : Cond.methodLink RX4 403 yX4_readIn ∈ wsL_law0 := hA_24 _ (List.mem_of_getElem? (i := 0) rfl)
theorem kw_553 : Cond.methodLink RX4 406 yX4_wouldMiss ∈ wsL_law0 := hA_24 _ (List.mem_of_getElem? (i := 1) rfl)
end KW
end
section
section PWD
/-! the object and its 57 cells -/
def mnF (a : Nat → Nat) (g : m_St) : List Value := [.ref (a 1), .ref (a 2), .ref (a 3), .int (iI (g 0 0 3)), .int (iI (g 0 0 4)), .int (iI (g 0 0 5)), .ref (a 4), .ref (a 5), .int (iI (g 0 0 8)), .int (iI (g 0 0 9)), .int (iI (g 0 0 10)), .int (iI (g 0 0 11)), .int (iI (g 0 0 12)), .int (iI (g 0 0 13)), .int (iI (g 0 0 14)), .int (iI (g 0 0 15)), .int (iI (g 0 0 16)), .int (iI (g 0 0 17)), .ref (a 6)]
def hsF (g : m_St) (h : Int) : List Value := [.int (iI (g 1 h 0)), .int (iI (g 1 h 1))]
def bkF (g : m_St) (b : Int) : List Value := [.int (iI (g 2 b 0)), .int (iI (g 2 b 1)), .int (iI (g 2 b 2)), .int (iI (g 2 b 3)), .int (iI (g 2 b 4)), .int (iI (g 2 b 5)), .int (iI (g 2 b 6)), .int (iI (g 2 b 7)), .int (iI (g 2 b 8)), .int (iI (g 2 b 9)), .int (iI (g 2 b 10))]
def jdF (a : Nat → Nat) (g : m_St) (j : Int) : List Value := [.int (iI (g 3 j 0)), .int (iI (g 3 j 1)), .int (iI (g 3 j 2)), .int (iI (g 3 j 3)), .int (iI (g 3 j 4)), .ref (a (29 + 6 * j.toNat)), .ref (a (30 + 6 * j.toNat)), .int (iI (g 3 j 7)), .int (iI (g 3 j 8)), .int (iI (g 3 j 9)), .int (iI (g 3 j 10)), .ref (a (31 + 6 * j.toNat)), .int (iI (g 3 j 12)), .ref (a (32 + 6 * j.toNat)), .ref (a (33 + 6 * j.toNat)), .int (iI (g 3 j 15))]
def ruF (g : m_St) (k : Int) : List Value := [.int (iI (g 9 k 0)), .int (iI (g 9 k 1)), .int (iI (g 9 k 2)), .int (iI (g 9 k 3))]
def rwF (g : m_St) (c : Nat) (j : Int) : Nat → Int32 := fun n => iI (g c j n)
/-- what the q-th cell holds -/
def pcell (a : Nat → Nat) (cH cB cJ cI : ClassId) (g : m_St) (vt : Nat → Int32) (q : Nat) : va_E :=
  if q = 0 then .inr (4, mnF a g)
  else if q = 1 then .inl (cH, 5, .inr (.inr (.inr (.inr (fun n => some (a (7 + n)))))))
  else if q = 2 then .inl (cB, 16, .inr (.inr (.inr (.inr (fun n => some (a (12 + n)))))))
  else if q = 3 then .inl (cJ, 5, .inr (.inr (.inr (.inr (fun n => some (a (28 + 6 * n)))))))
  else if q < 6 then .inr (3, ruF g ((q : Int) - 4))
  else if q = 6 then .inl (cI, 16, .inl vt)
  else if q < 12 then .inr (1, hsF g ((q : Int) - 7))
  else if q < 28 then .inr (0, bkF g ((q : Int) - 12))
  else if (q - 28) % 6 = 0 then .inr (2, jdF a g (((q - 28) / 6 : Nat) : Int))
  else .inl (cI, if (q - 28) % 6 = 5 then 5 else 16, .inl (rwF g (3 + (q - 28) % 6) (((q - 28) / 6 : Nat) : Int)))
def pw (a : Nat → Nat) (cH cB cJ cI : ClassId) (g : m_St) (vt : Nat → Int32) : va_W := (List.range 58).map (fun q => (a q, pcell a cH cB cJ cI g vt q))
variable {a : Nat → Nat} {cH cB cJ cI : ClassId} {g : m_St} {vt : Nat → Int32}
theorem pw_get {q : Nat} (h : q < 58) : (pw a cH cB cJ cI g vt)[q]? = some (a q, pcell a cH cB cJ cI g vt q) := by
  simp [pw, h]
theorem pw_set {g' : m_St} {vt' : Nat → Int32} {q : Nat} {x : va_E} (h : q < 58) (hx : pcell a cH cB cJ cI g' vt' q = x) (ho : ∀ r, r < 58 → r ≠ q → pcell a cH cB cJ cI g' vt' r = pcell a cH cB cJ cI g vt r) : (pw a cH cB cJ cI g vt).set q (a q, x) = pw a cH cB cJ cI g' vt' := by
  apply List.ext_getElem?
  intro r
  by_cases e : q = r
  · subst e
    rw [List.getElem?_set_self (by simpa [pw] using h), pw_get h, hx]
  · rw [List.getElem?_set_ne e]
    by_cases z : r < 58
    · rw [pw_get z, pw_get z, ho r z (fun y => e y.symm)]
    · simp [pw, z]
theorem pw_0 : (pw a cH cB cJ cI g vt)[0]? = some (a 0, .inr (4, mnF a g)) := pw_get (by decide)
theorem pw_H {h : Int} (h0 : 0 ≤ h) (h1 : h < 5) : (pw a cH cB cJ cI g vt)[7 + h.toNat]? = some (a (7 + h.toNat), .inr (1, hsF g h)) := by
  rw [pw_get (by omega)]
  unfold pcell
  rw [if_neg (by omega), if_neg (by omega), if_neg (by omega), if_neg (by omega), if_neg (by omega), if_neg (by omega), if_pos (by omega), show (((7 + h.toNat : Nat) : Int) - 7) = h from by omega]
theorem pw_B {b : Int} (h0 : 0 ≤ b) (h1 : b < 16) : (pw a cH cB cJ cI g vt)[12 + b.toNat]? = some (a (12 + b.toNat), .inr (0, bkF g b)) := by
  rw [pw_get (by omega)]
  unfold pcell
  rw [if_neg (by omega), if_neg (by omega), if_neg (by omega), if_neg (by omega), if_neg (by omega), if_neg (by omega), if_neg (by omega), if_pos (by omega), show (((12 + b.toNat : Nat) : Int) - 12) = b from by omega]
theorem pw_J {j : Int} (h0 : 0 ≤ j) (h1 : j < 5) : (pw a cH cB cJ cI g vt)[28 + 6 * j.toNat]? = some (a (28 + 6 * j.toNat), .inr (2, jdF a g j)) := by
  rw [pw_get (by omega)]
  unfold pcell
  rw [if_neg (by omega), if_neg (by omega), if_neg (by omega), if_neg (by omega), if_neg (by omega), if_neg (by omega), if_neg (by omega), if_neg (by omega), if_pos (by omega), show (((28 + 6 * j.toNat - 28) / 6 : Nat) : Int) = j from by omega]
theorem pw_R {j : Int} {r : Nat} (h0 : 0 ≤ j) (h1 : j < 5) (hr : 1 ≤ r ∧ r < 6) : (pw a cH cB cJ cI g vt)[28 + r + 6 * j.toNat]? = some (a (28 + r + 6 * j.toNat), .inl (cI, if r = 5 then 5 else 16, .inl (rwF g (3 + r) j))) := by
  rw [pw_get (by omega)]
  unfold pcell
  rw [if_neg (by omega), if_neg (by omega), if_neg (by omega), if_neg (by omega), if_neg (by omega), if_neg (by omega), if_neg (by omega), if_neg (by omega), if_neg (by omega), show (28 + r + 6 * j.toNat - 28) % 6 = r from by omega, show (((28 + r + 6 * j.toNat - 28) / 6 : Nat) : Int) = j from by omega]
end PWD
end
section
section PWE
variable {a : Nat → Nat} {cH cB cJ cI : ClassId} {g : m_St} {vt : Nat → Int32}
/-- which numbers the r-th cell shows -/
def dcl (r : Nat) : Nat × Int :=
  if r = 0 then (0, 0) else if r < 4 then (100 + r, 0) else if r < 6 then (9, (r : Int) - 4) else if r = 6 then (106, 0)
  else if r < 12 then (1, (r : Int) - 7) else if r < 28 then (2, (r : Int) - 12) else if (r - 28) % 6 = 0 then (3, (((r - 28) / 6 : Nat) : Int)) else (3 + (r - 28) % 6, (((r - 28) / 6 : Nat) : Int))
theorem dcl_inj : ∀ r, r < 58 → ∀ q, q < 58 → dcl r = dcl q → r = q := by decide +kernel
theorem pcell_congr {g' : m_St} {r : Nat} (h : ∀ i, g' (dcl r).1 (dcl r).2 i = g (dcl r).1 (dcl r).2 i) : pcell a cH cB cJ cI g' vt r = pcell a cH cB cJ cI g vt r := by
  unfold dcl at h
  unfold pcell
  by_cases h0 : r = 0
  · simp only [if_pos h0] at h ⊢
    simp only [mnF, h]
  · simp only [if_neg h0] at h ⊢
    by_cases h1 : r = 1
    · simp only [if_pos h1]
    · simp only [if_neg h1]
      by_cases h2 : r = 2
      · simp only [if_pos h2]
      · simp only [if_neg h2]
        by_cases h3 : r = 3
        · simp only [if_pos h3]
        · simp only [if_neg h3]
          simp only [if_neg (show ¬ r < 4 by omega)] at h
          by_cases h6 : r < 6
          · simp only [if_pos h6] at h ⊢
            simp only [ruF, h]
          · simp only [if_neg h6] at h ⊢
            by_cases h7 : r = 6
            · simp only [if_pos h7]
            · simp only [if_neg h7] at h ⊢
              by_cases h12 : r < 12
              · simp only [if_pos h12] at h ⊢
                simp only [hsF, h]
              · simp only [if_neg h12] at h ⊢
                by_cases h28 : r < 28
                · simp only [if_pos h28] at h ⊢
                  simp only [bkF, h]
                · simp only [if_neg h28] at h ⊢
                  by_cases hj : (r - 28) % 6 = 0
                  · simp only [if_pos hj] at h ⊢
                    simp only [jdF, h]
                  · simp only [if_neg hj] at h ⊢
                    rw [show rwF g' (3 + (r - 28) % 6) (((r - 28) / 6 : Nat) : Int) = rwF g (3 + (r - 28) % 6) (((r - 28) / 6 : Nat) : Int) from funext (fun n => congrArg iI (h n))]
theorem up_ne (g : m_St) {c c' : Nat} {k k' : Int} (i x i' : Int) (h : ¬ (c' = c ∧ k' = k)) : m_up g c k i x c' k' i' = g c' k' i' := by
  unfold m_up
  rw [if_neg (fun y => h ⟨y.1, y.2.1⟩)]
theorem pw_up {q c : Nat} {k i x : Int} (h : q < 58) (hq : dcl q = (c, k)) : (pw a cH cB cJ cI g vt).set q (a q, pcell a cH cB cJ cI (m_up g c k i x) vt q) = pw a cH cB cJ cI (m_up g c k i x) vt :=
  pw_set h rfl (fun r hr ne => pcell_congr (fun i' => up_ne g i x i' (fun e => ne (dcl_inj r hr q h (by rw [hq]; exact Prod.ext e.1 e.2)))))
theorem bkF_set {b x : Int} : ∀ i : Nat, i < 11 → bkF (m_up g 2 b i x) b = (bkF g b).set i (.int (iI x))
  | 0, _ | 1, _ | 2, _ | 3, _ | 4, _ | 5, _ | 6, _ | 7, _ | 8, _ | 9, _ | 10, _ => by simp [bkF, m_up]
  | n + 11, h => absurd h (by omega)
theorem pw_setB {b x : Int} {i : Nat} (h0 : 0 ≤ b) (h1 : b < 16) (hi : i < 11) : (pw a cH cB cJ cI g vt).set (12 + b.toNat) (a (12 + b.toNat), .inr (0, (bkF g b).set i (.int (iI x)))) = pw a cH cB cJ cI (m_up g 2 b i x) vt := by
  have e := pw_up (a := a) (cH := cH) (cB := cB) (cJ := cJ) (cI := cI) (g := g) (vt := vt) (q := 12 + b.toNat) (c := 2) (k := b) (i := i) (x := x) (by omega) (by
    unfold dcl
    rw [if_neg (by omega), if_neg (by omega), if_neg (by omega), if_neg (by omega), if_neg (by omega), if_pos (by omega), show (((12 + b.toNat : Nat) : Int) - 12) = b from by omega])
  have f := pw_B (a := a) (cH := cH) (cB := cB) (cJ := cJ) (cI := cI) (g := m_up g 2 b i x) (vt := vt) h0 h1
  rw [pw_get (by omega)] at f
  have f := (Prod.mk.inj (Option.some.inj f)).2
  rw [f, bkF_set i hi] at e
  exact e
theorem hsF_set {h x : Int} : ∀ i : Nat, i < 2 → hsF (m_up g 1 h i x) h = (hsF g h).set i (.int (iI x))
  | 0, _ | 1, _ => by simp [hsF, m_up]
  | n + 2, h => absurd h (by omega)
theorem ruF_set {k x : Int} : ∀ i : Nat, i < 4 → ruF (m_up g 9 k i x) k = (ruF g k).set i (.int (iI x))
  | 0, _ | 1, _ | 2, _ | 3, _ => by simp [ruF, m_up]
  | n + 4, h => absurd h (by omega)
theorem jdF_set {j x : Int} : ∀ i : Nat, i < 16 → i ≠ 5 → i ≠ 6 → i ≠ 11 → i ≠ 13 → i ≠ 14 → jdF a (m_up g 3 j i x) j = (jdF a g j).set i (.int (iI x))
  | 0, _, _, _, _, _, _ | 1, _, _, _, _, _, _ | 2, _, _, _, _, _, _ | 3, _, _, _, _, _, _ | 4, _, _, _, _, _, _ | 7, _, _, _, _, _, _ | 8, _, _, _, _, _, _ | 9, _, _, _, _, _, _ | 10, _, _, _, _, _, _ | 12, _, _, _, _, _, _ | 15, _, _, _, _, _, _ => by simp [jdF, m_up]
  | 5, _, h, _, _, _, _ => absurd rfl h
  | 6, _, _, h, _, _, _ => absurd rfl h
  | 11, _, _, _, h, _, _ => absurd rfl h
  | 13, _, _, _, _, h, _ => absurd rfl h
  | 14, _, _, _, _, _, h => absurd rfl h
  | n + 16, h, _, _, _, _, _ => absurd h (by omega)
theorem mnF_set {x : Int} : ∀ i : Nat, i < 18 → 3 ≤ i → i ≠ 6 → i ≠ 7 → mnF a (m_up g 0 0 i x) = (mnF a g).set i (.int (iI x))
  | 0, _, h, _, _ | 1, _, h, _, _ | 2, _, h, _, _ => absurd h (by decide)
  | 3, _, _, _, _ | 4, _, _, _, _ | 5, _, _, _, _ | 8, _, _, _, _ | 9, _, _, _, _ | 10, _, _, _, _ | 11, _, _, _, _ | 12, _, _, _, _ | 13, _, _, _, _ | 14, _, _, _, _ | 15, _, _, _, _ | 16, _, _, _, _ | 17, _, _, _, _ => by simp [mnF, m_up]
  | 6, _, _, h, _ => absurd rfl h
  | 7, _, _, _, h => absurd rfl h
  | n + 18, h, _, _, _ => absurd h (by omega)
theorem rwF_set {c : Nat} {j k x : Int} (h : 0 ≤ k) : rwF (m_up g c j k x) c j = upd (rwF g c j) k.toNat (iI x) := by
  funext n
  unfold rwF upd m_up
  by_cases z : n = k.toNat
  · subst z
    simp [Int.toNat_of_nonneg h]
  · have : ¬ (n : Int) = k := by omega
    simp [z, this]
end PWE
section PWF
variable {a : Nat → Nat} {cH cB cJ cI : ClassId} {g : m_St} {vt : Nat → Int32}
theorem pw_1 : (pw a cH cB cJ cI g vt)[1]? = some (a 1, .inl (cH, 5, .inr (.inr (.inr (.inr (fun n => some (a (7 + n)))))))) := pw_get (by decide)
theorem pw_2 : (pw a cH cB cJ cI g vt)[2]? = some (a 2, .inl (cB, 16, .inr (.inr (.inr (.inr (fun n => some (a (12 + n)))))))) := pw_get (by decide)
theorem pw_3 : (pw a cH cB cJ cI g vt)[3]? = some (a 3, .inl (cJ, 5, .inr (.inr (.inr (.inr (fun n => some (a (28 + 6 * n)))))))) := pw_get (by decide)
theorem pw_4 : (pw a cH cB cJ cI g vt)[4]? = some (a 4, .inr (3, ruF g 0)) := pw_get (by decide)
theorem pw_5 : (pw a cH cB cJ cI g vt)[5]? = some (a 5, .inr (3, ruF g 1)) := pw_get (by decide)
theorem pw_6 : (pw a cH cB cJ cI g vt)[6]? = some (a 6, .inl (cI, 16, .inl vt)) := pw_get (by decide)
theorem pw_setM {i : Nat} {x : Int} (h : i < 18) (h0 : 3 ≤ i) (h1 : i ≠ 6) (h2 : i ≠ 7) : (pw a cH cB cJ cI g vt).set 0 (a 0, .inr (4, (mnF a g).set i (.int (iI x)))) = pw a cH cB cJ cI (m_up g 0 0 i x) vt := by
  have e := pw_up (a := a) (cH := cH) (cB := cB) (cJ := cJ) (cI := cI) (g := g) (vt := vt) (q := 0) (c := 0) (k := 0) (i := i) (x := x) (by decide) rfl
  have f := pw_0 (a := a) (cH := cH) (cB := cB) (cJ := cJ) (cI := cI) (g := m_up g 0 0 i x) (vt := vt)
  rw [pw_get (by decide)] at f
  have f := (Prod.mk.inj (Option.some.inj f)).2
  rw [f, mnF_set i h h0 h1 h2] at e
  exact e
theorem pw_setH {h x : Int} {i : Nat} (h0 : 0 ≤ h) (h1 : h < 5) (hi : i < 2) : (pw a cH cB cJ cI g vt).set (7 + h.toNat) (a (7 + h.toNat), .inr (1, (hsF g h).set i (.int (iI x)))) = pw a cH cB cJ cI (m_up g 1 h i x) vt := by
  have e := pw_up (a := a) (cH := cH) (cB := cB) (cJ := cJ) (cI := cI) (g := g) (vt := vt) (q := 7 + h.toNat) (c := 1) (k := h) (i := i) (x := x) (by omega) (by
    unfold dcl
    rw [if_neg (by omega), if_neg (by omega), if_neg (by omega), if_neg (by omega), if_pos (by omega), show (((7 + h.toNat : Nat) : Int) - 7) = h from by omega])
  have f := pw_H (a := a) (cH := cH) (cB := cB) (cJ := cJ) (cI := cI) (g := m_up g 1 h i x) (vt := vt) h0 h1
  rw [pw_get (by omega)] at f
  have f := (Prod.mk.inj (Option.some.inj f)).2
  rw [f, hsF_set i hi] at e
  exact e
theorem pw_setJ {j x : Int} {i : Nat} (h0 : 0 ≤ j) (h1 : j < 5) (hi : i < 16) (a5 : i ≠ 5) (a6 : i ≠ 6) (a11 : i ≠ 11) (a13 : i ≠ 13) (a14 : i ≠ 14) : (pw a cH cB cJ cI g vt).set (28 + 6 * j.toNat) (a (28 + 6 * j.toNat), .inr (2, (jdF a g j).set i (.int (iI x)))) = pw a cH cB cJ cI (m_up g 3 j i x) vt := by
  have e := pw_up (a := a) (cH := cH) (cB := cB) (cJ := cJ) (cI := cI) (g := g) (vt := vt) (q := 28 + 6 * j.toNat) (c := 3) (k := j) (i := i) (x := x) (by omega) (by
    unfold dcl
    rw [if_neg (by omega), if_neg (by omega), if_neg (by omega), if_neg (by omega), if_neg (by omega), if_neg (by omega), if_pos (by omega), show (((28 + 6 * j.toNat - 28) / 6 : Nat) : Int) = j from by omega])
  have f := pw_J (a := a) (cH := cH) (cB := cB) (cJ := cJ) (cI := cI) (g := m_up g 3 j i x) (vt := vt) h0 h1
  rw [pw_get (by omega)] at f
  have f := (Prod.mk.inj (Option.some.inj f)).2
  rw [f, jdF_set i hi a5 a6 a11 a13 a14] at e
  exact e
theorem pw_setU0 {x : Int} {i : Nat} (hi : i < 4) : (pw a cH cB cJ cI g vt).set 4 (a 4, .inr (3, (ruF g 0).set i (.int (iI x)))) = pw a cH cB cJ cI (m_up g 9 0 i x) vt := by
  have e := pw_up (a := a) (cH := cH) (cB := cB) (cJ := cJ) (cI := cI) (g := g) (vt := vt) (q := 4) (c := 9) (k := 0) (i := i) (x := x) (by decide) rfl
  have f := pw_4 (a := a) (cH := cH) (cB := cB) (cJ := cJ) (cI := cI) (g := m_up g 9 0 i x) (vt := vt)
  rw [pw_get (by decide)] at f
  have f := (Prod.mk.inj (Option.some.inj f)).2
  rw [f, ruF_set i hi] at e
  exact e
theorem pw_setU1 {x : Int} {i : Nat} (hi : i < 4) : (pw a cH cB cJ cI g vt).set 5 (a 5, .inr (3, (ruF g 1).set i (.int (iI x)))) = pw a cH cB cJ cI (m_up g 9 1 i x) vt := by
  have e := pw_up (a := a) (cH := cH) (cB := cB) (cJ := cJ) (cI := cI) (g := g) (vt := vt) (q := 5) (c := 9) (k := 1) (i := i) (x := x) (by decide) rfl
  have f := pw_5 (a := a) (cH := cH) (cB := cB) (cJ := cJ) (cI := cI) (g := m_up g 9 1 i x) (vt := vt)
  rw [pw_get (by decide)] at f
  have f := (Prod.mk.inj (Option.some.inj f)).2
  rw [f, ruF_set i hi] at e
  exact e
theorem pw_setR {j k x : Int} {r : Nat} (h0 : 0 ≤ j) (h1 : j < 5) (hr : 1 ≤ r ∧ r < 6) (hk : 0 ≤ k) : (pw a cH cB cJ cI g vt).set (28 + r + 6 * j.toNat) (a (28 + r + 6 * j.toNat), .inl (cI, if r = 5 then 5 else 16, .inl (upd (rwF g (3 + r) j) k.toNat (iI x)))) = pw a cH cB cJ cI (m_up g (3 + r) j k x) vt := by
  have e := pw_up (a := a) (cH := cH) (cB := cB) (cJ := cJ) (cI := cI) (g := g) (vt := vt) (q := 28 + r + 6 * j.toNat) (c := 3 + r) (k := j) (i := k) (x := x) (by omega) (by
    unfold dcl
    rw [if_neg (by omega), if_neg (by omega), if_neg (by omega), if_neg (by omega), if_neg (by omega), if_neg (by omega), if_neg (by omega), show (28 + r + 6 * j.toNat - 28) % 6 = r from by omega, show (((28 + r + 6 * j.toNat - 28) / 6 : Nat) : Int) = j from by omega])
  have f := pw_R (a := a) (cH := cH) (cB := cB) (cJ := cJ) (cI := cI) (g := m_up g (3 + r) j k x) (vt := vt) h0 h1 hr
  rw [pw_get (by omega)] at f
  have f := (Prod.mk.inj (Option.some.inj f)).2
  rw [f, rwF_set hk] at e
  exact e
theorem pw_setV {x : Int32} {k : Nat} : (pw a cH cB cJ cI g vt).set 6 (a 6, .inl (cI, 16, .inl (upd vt k x))) = pw a cH cB cJ cI g (upd vt k x) := by
  refine pw_set (by decide) rfl (fun r _ hr => ?_)
  unfold pcell
  simp only [if_neg hr]
end PWF
end
section
section NRW
/-! an instruction in whole numbers -/
variable {p : Program} {l : Launch} {e : Env} {R : Room} {s : State} {m : MethodId} {args : Array Value} {below : List Frame} {meth : Method} {c : Code} {H : Heap} {locs : List Loc} {cells slots : Nat} {Q : State → Prop}
variable {cc : ByteArray} {pc : Nat} {ls : Array Slot} {rest : List Value}
theorem n_add (hx : p.tables.exec = Jvm.exec) (hb : c.code = cc) {x y : Int} (hdg : decode cc pc = .ok (.iadd, 1)) (k : W p l e R s m args below meth c H locs cells slots Q (F0 m (pc + 1) ls (.int (iI (x + y)) :: rest))) : W p l e R s m args below meth c H locs cells slots Q (F0 m pc ls (.int (iI y) :: .int (iI x) :: rest)) := lv_iadd hx hb hdg (by rw [iI_add]; exact k)
theorem n_sub (hx : p.tables.exec = Jvm.exec) (hb : c.code = cc) {x y : Int} (hdg : decode cc pc = .ok (.isub, 1)) (k : W p l e R s m args below meth c H locs cells slots Q (F0 m (pc + 1) ls (.int (iI (x - y)) :: rest))) : W p l e R s m args below meth c H locs cells slots Q (F0 m pc ls (.int (iI y) :: .int (iI x) :: rest)) := lv_isub hx hb hdg (by rw [iI_sub]; exact k)
theorem n_mul (hx : p.tables.exec = Jvm.exec) (hb : c.code = cc) {x y : Int} (hdg : decode cc pc = .ok (.imul, 1)) (k : W p l e R s m args below meth c H locs cells slots Q (F0 m (pc + 1) ls (.int (iI (x * y)) :: rest))) : W p l e R s m args below meth c H locs cells slots Q (F0 m pc ls (.int (iI y) :: .int (iI x) :: rest)) := lv_imul hx hb hdg (by rw [iI_mul]; exact k)
theorem n_div (hx : p.tables.exec = Jvm.exec) (hb : c.code = cc) {x y : Int} (rx : RI x) (ry : RI y) (h : y ≠ 0) (hdg : decode cc pc = .ok (.idiv, 1)) (k : W p l e R s m args below meth c H locs cells slots Q (F0 m (pc + 1) ls (.int (iI (x.tdiv y)) :: rest))) : W p l e R s m args below meth c H locs cells slots Q (F0 m pc ls (.int (iI y) :: .int (iI x) :: rest)) := lv_idiv hx hb hdg (fun q => h ((iI_eq ry (by unfold RI; omega)).mp q)) (by rw [iI_div rx ry]; exact k)
theorem n_rem (hx : p.tables.exec = Jvm.exec) (hb : c.code = cc) {x y : Int} (rx : RI x) (ry : RI y) (h : y ≠ 0) (hdg : decode cc pc = .ok (.irem, 1)) (k : W p l e R s m args below meth c H locs cells slots Q (F0 m (pc + 1) ls (.int (iI (x.tmod y)) :: rest))) : W p l e R s m args below meth c H locs cells slots Q (F0 m pc ls (.int (iI y) :: .int (iI x) :: rest)) := lv_irem hx hb hdg (fun q => h ((iI_eq ry (by unfold RI; omega)).mp q)) (by rw [iI_div rx ry, iI_mul, iI_sub, show x - x.tdiv y * y = x.tmod y from by rw [Int.tmod_def, Int.mul_comm]]; exact k)
theorem n_and (hx : p.tables.exec = Jvm.exec) (hb : c.code = cc) {x y : Int} (h : 0 ≤ x) (h' : 0 ≤ y) (hdg : decode cc pc = .ok (.iand, 1)) (k : W p l e R s m args below meth c H locs cells slots Q (F0 m (pc + 1) ls (.int (iI (m_ba x y)) :: rest))) : W p l e R s m args below meth c H locs cells slots Q (F0 m pc ls (.int (iI y) :: .int (iI x) :: rest)) := lv_iand hx hb hdg (by rw [iI_ba h h']; exact k)
theorem n_or (hx : p.tables.exec = Jvm.exec) (hb : c.code = cc) {x y : Int} (h : 0 ≤ x) (h' : 0 ≤ y) (hdg : decode cc pc = .ok (.ior, 1)) (k : W p l e R s m args below meth c H locs cells slots Q (F0 m (pc + 1) ls (.int (iI (m_bo x y)) :: rest))) : W p l e R s m args below meth c H locs cells slots Q (F0 m pc ls (.int (iI y) :: .int (iI x) :: rest)) := lv_ior hx hb hdg (by rw [iI_bo h h']; exact k)
/-- x & ~y -/
theorem n_andn (hx : p.tables.exec = Jvm.exec) (hb : c.code = cc) {x y : Int} (h : 0 ≤ x ∧ x < 2147483648) (h' : 0 ≤ y ∧ y < 2147483648) (hdg : decode cc pc = .ok (.iand, 1)) (k : W p l e R s m args below meth c H locs cells slots Q (F0 m (pc + 1) ls (.int (iI (m_bd x y)) :: rest))) : W p l e R s m args below meth c H locs cells slots Q (F0 m pc ls (.int (iI y ^^^ iI (-1)) :: .int (iI x) :: rest)) := lv_iand hx hb hdg (by rw [iI_bd h h']; exact k)
theorem iI_31 : ∀ n : Nat, n < 32 → iI n &&& 31 = iI n := by decide +kernel
theorem iI_a31 {y : Int} (h : 0 ≤ y) (h' : y < 31) : iI y &&& 31 = iI y := by
  have := iI_31 y.toNat (by omega)
  rw [Int.toNat_of_nonneg h] at this
  exact this
theorem n_shl1 (hx : p.tables.exec = Jvm.exec) (hb : c.code = cc) {y : Int} (h : 0 ≤ y) (h' : y < 31) (hdg : decode cc pc = .ok (.ishl, 1)) (k : W p l e R s m args below meth c H locs cells slots Q (F0 m (pc + 1) ls (.int (iI (m_bt y)) :: rest))) : W p l e R s m args below meth c H locs cells slots Q (F0 m pc ls (.int (iI y) :: .int (iI 1) :: rest)) := lv_ishl hx hb hdg (by rw [iI_a31 h h', iI_bt h (by omega)]; exact k)
theorem n_inc (hx : p.tables.exec = Jvm.exec) (hb : c.code = cc) {i nL k : Nat} {n x : Int} {lv lv' : List (Nat × Value)} (hdg : decode cc pc = .ok (.iinc i n, 3)) (h : lv_has ls nL lv) (hk : lv[k]? = some (i, .int (iI x))) (hn : i < nL) (hl : (i, Value.int (iI (x + n))) :: lv.filter (fun q => !(q.1 == i) && !(q.1 + 1 == i && q.2.category == 2)) = lv') (kk : ∀ ls', lv_has ls' nL lv' → W p l e R s m args below meth c H locs cells slots Q (F0 m (pc + 3) ls' rest)) : W p l e R s m args below meth c H locs cells slots Q (F0 m pc ls rest) := lv_iinc hx hb hdg h hk (iI_add x n) hn hl kk
theorem n_icmp_eq (hx : p.tables.exec = Jvm.exec) (hb : c.code = cc) {x y : Int} (rx : RI x) (ry : RI y) {off : Int} {tgt : Nat} (hdg : decode cc pc = .ok (.if_icmp .eq off, 3)) (ht : (pc : Int) + off = (tgt : Int)) (kt : x = y → W p l e R s m args below meth c H locs cells slots Q (F0 m tgt ls rest)) (kf : x ≠ y → W p l e R s m args below meth c H locs cells slots Q (F0 m (pc + 3) ls rest)) : W p l e R s m args below meth c H locs cells slots Q (F0 m pc ls (.int (iI y) :: .int (iI x) :: rest)) := lv_icmp_eq hx hb hdg ht (fun h => kt ((iI_eq rx ry).mp h)) (fun h => kf (fun q => h ((iI_eq rx ry).mpr q)))
theorem n_icmp_ne (hx : p.tables.exec = Jvm.exec) (hb : c.code = cc) {x y : Int} (rx : RI x) (ry : RI y) {off : Int} {tgt : Nat} (hdg : decode cc pc = .ok (.if_icmp .ne off, 3)) (ht : (pc : Int) + off = (tgt : Int)) (kt : x ≠ y → W p l e R s m args below meth c H locs cells slots Q (F0 m tgt ls rest)) (kf : x = y → W p l e R s m args below meth c H locs cells slots Q (F0 m (pc + 3) ls rest)) : W p l e R s m args below meth c H locs cells slots Q (F0 m pc ls (.int (iI y) :: .int (iI x) :: rest)) := lv_icmp_ne hx hb hdg ht (fun h => kt (fun q => h ((iI_eq rx ry).mpr q))) (fun h => kf ((iI_eq rx ry).mp h))
theorem n_icmp_lt (hx : p.tables.exec = Jvm.exec) (hb : c.code = cc) {x y : Int} (rx : RI x) (ry : RI y) {off : Int} {tgt : Nat} (hdg : decode cc pc = .ok (.if_icmp .lt off, 3)) (ht : (pc : Int) + off = (tgt : Int)) (kt : x < y → W p l e R s m args below meth c H locs cells slots Q (F0 m tgt ls rest)) (kf : y ≤ x → W p l e R s m args below meth c H locs cells slots Q (F0 m (pc + 3) ls rest)) : W p l e R s m args below meth c H locs cells slots Q (F0 m pc ls (.int (iI y) :: .int (iI x) :: rest)) := lv_icmp_lt hx hb hdg ht (fun h => kt ((iI_lt rx ry).mp h)) (fun h => kf (Int.not_lt.mp (fun q => h ((iI_lt rx ry).mpr q))))
theorem n_icmp_ge (hx : p.tables.exec = Jvm.exec) (hb : c.code = cc) {x y : Int} (rx : RI x) (ry : RI y) {off : Int} {tgt : Nat} (hdg : decode cc pc = .ok (.if_icmp .ge off, 3)) (ht : (pc : Int) + off = (tgt : Int)) (kt : y ≤ x → W p l e R s m args below meth c H locs cells slots Q (F0 m tgt ls rest)) (kf : x < y → W p l e R s m args below meth c H locs cells slots Q (F0 m (pc + 3) ls rest)) : W p l e R s m args below meth c H locs cells slots Q (F0 m pc ls (.int (iI y) :: .int (iI x) :: rest)) := lv_icmp_ge hx hb hdg ht (fun h => kt ((iI_le ry rx).mp h)) (fun h => kf (Int.not_le.mp (fun q => h ((iI_le ry rx).mpr q))))
theorem n_icmp_gt (hx : p.tables.exec = Jvm.exec) (hb : c.code = cc) {x y : Int} (rx : RI x) (ry : RI y) {off : Int} {tgt : Nat} (hdg : decode cc pc = .ok (.if_icmp .gt off, 3)) (ht : (pc : Int) + off = (tgt : Int)) (kt : y < x → W p l e R s m args below meth c H locs cells slots Q (F0 m tgt ls rest)) (kf : x ≤ y → W p l e R s m args below meth c H locs cells slots Q (F0 m (pc + 3) ls rest)) : W p l e R s m args below meth c H locs cells slots Q (F0 m pc ls (.int (iI y) :: .int (iI x) :: rest)) := lv_icmp_gt hx hb hdg ht (fun h => kt ((iI_lt ry rx).mp h)) (fun h => kf (Int.not_lt.mp (fun q => h ((iI_lt ry rx).mpr q))))
theorem n_icmp_le (hx : p.tables.exec = Jvm.exec) (hb : c.code = cc) {x y : Int} (rx : RI x) (ry : RI y) {off : Int} {tgt : Nat} (hdg : decode cc pc = .ok (.if_icmp .le off, 3)) (ht : (pc : Int) + off = (tgt : Int)) (kt : x ≤ y → W p l e R s m args below meth c H locs cells slots Q (F0 m tgt ls rest)) (kf : y < x → W p l e R s m args below meth c H locs cells slots Q (F0 m (pc + 3) ls rest)) : W p l e R s m args below meth c H locs cells slots Q (F0 m pc ls (.int (iI y) :: .int (iI x) :: rest)) := lv_icmp_le hx hb hdg ht (fun h => kt ((iI_le rx ry).mp h)) (fun h => kf (Int.not_le.mp (fun q => h ((iI_le rx ry).mpr q))))
theorem iI_0 : (0 : Int32) = iI 0 := rfl
theorem RI_0 : RI 0 := by unfold RI; omega
theorem n_if_eq (hx : p.tables.exec = Jvm.exec) (hb : c.code = cc) {x : Int} (rx : RI x) {off : Int} {tgt : Nat} (hdg : decode cc pc = .ok (.ifCond .eq off, 3)) (ht : (pc : Int) + off = (tgt : Int)) (kt : x = 0 → W p l e R s m args below meth c H locs cells slots Q (F0 m tgt ls rest)) (kf : x ≠ 0 → W p l e R s m args below meth c H locs cells slots Q (F0 m (pc + 3) ls rest)) : W p l e R s m args below meth c H locs cells slots Q (F0 m pc ls (.int (iI x) :: rest)) := lv_if_eq hx hb hdg ht (fun h => kt ((iI_eq rx RI_0).mp h)) (fun h => kf (fun q => h ((iI_eq rx RI_0).mpr q)))
theorem n_if_ne (hx : p.tables.exec = Jvm.exec) (hb : c.code = cc) {x : Int} (rx : RI x) {off : Int} {tgt : Nat} (hdg : decode cc pc = .ok (.ifCond .ne off, 3)) (ht : (pc : Int) + off = (tgt : Int)) (kt : x ≠ 0 → W p l e R s m args below meth c H locs cells slots Q (F0 m tgt ls rest)) (kf : x = 0 → W p l e R s m args below meth c H locs cells slots Q (F0 m (pc + 3) ls rest)) : W p l e R s m args below meth c H locs cells slots Q (F0 m pc ls (.int (iI x) :: rest)) := lv_if_ne hx hb hdg ht (fun h => kt (fun q => h ((iI_eq rx RI_0).mpr q))) (fun h => kf ((iI_eq rx RI_0).mp h))
theorem n_if_lt (hx : p.tables.exec = Jvm.exec) (hb : c.code = cc) {x : Int} (rx : RI x) {off : Int} {tgt : Nat} (hdg : decode cc pc = .ok (.ifCond .lt off, 3)) (ht : (pc : Int) + off = (tgt : Int)) (kt : x < 0 → W p l e R s m args below meth c H locs cells slots Q (F0 m tgt ls rest)) (kf : 0 ≤ x → W p l e R s m args below meth c H locs cells slots Q (F0 m (pc + 3) ls rest)) : W p l e R s m args below meth c H locs cells slots Q (F0 m pc ls (.int (iI x) :: rest)) := lv_if_lt hx hb hdg ht (fun h => kt ((iI_lt rx RI_0).mp h)) (fun h => kf (Int.not_lt.mp (fun q => h ((iI_lt rx RI_0).mpr q))))
theorem n_if_ge (hx : p.tables.exec = Jvm.exec) (hb : c.code = cc) {x : Int} (rx : RI x) {off : Int} {tgt : Nat} (hdg : decode cc pc = .ok (.ifCond .ge off, 3)) (ht : (pc : Int) + off = (tgt : Int)) (kt : 0 ≤ x → W p l e R s m args below meth c H locs cells slots Q (F0 m tgt ls rest)) (kf : x < 0 → W p l e R s m args below meth c H locs cells slots Q (F0 m (pc + 3) ls rest)) : W p l e R s m args below meth c H locs cells slots Q (F0 m pc ls (.int (iI x) :: rest)) := lv_if_ge hx hb hdg ht (fun h => kt ((iI_le RI_0 rx).mp h)) (fun h => kf (Int.not_le.mp (fun q => h ((iI_le RI_0 rx).mpr q))))
theorem n_if_gt (hx : p.tables.exec = Jvm.exec) (hb : c.code = cc) {x : Int} (rx : RI x) {off : Int} {tgt : Nat} (hdg : decode cc pc = .ok (.ifCond .gt off, 3)) (ht : (pc : Int) + off = (tgt : Int)) (kt : 0 < x → W p l e R s m args below meth c H locs cells slots Q (F0 m tgt ls rest)) (kf : x ≤ 0 → W p l e R s m args below meth c H locs cells slots Q (F0 m (pc + 3) ls rest)) : W p l e R s m args below meth c H locs cells slots Q (F0 m pc ls (.int (iI x) :: rest)) := lv_if_gt hx hb hdg ht (fun h => kt ((iI_lt RI_0 rx).mp h)) (fun h => kf (Int.not_lt.mp (fun q => h ((iI_lt RI_0 rx).mpr q))))
theorem n_if_le (hx : p.tables.exec = Jvm.exec) (hb : c.code = cc) {x : Int} (rx : RI x) {off : Int} {tgt : Nat} (hdg : decode cc pc = .ok (.ifCond .le off, 3)) (ht : (pc : Int) + off = (tgt : Int)) (kt : x ≤ 0 → W p l e R s m args below meth c H locs cells slots Q (F0 m tgt ls rest)) (kf : 0 < x → W p l e R s m args below meth c H locs cells slots Q (F0 m (pc + 3) ls rest)) : W p l e R s m args below meth c H locs cells slots Q (F0 m pc ls (.int (iI x) :: rest)) := lv_if_le hx hb hdg ht (fun h => kt ((iI_le rx RI_0).mp h)) (fun h => kf (Int.not_le.mp (fun q => h ((iI_le rx RI_0).mpr q))))
/-- a branch over a truth -/
theorem n_b_eq (hx : p.tables.exec = Jvm.exec) (hb : c.code = cc) {x : Bool} {off : Int} {tgt : Nat} (hdg : decode cc pc = .ok (.ifCond .eq off, 3)) (ht : (pc : Int) + off = (tgt : Int)) (kt : x = false → W p l e R s m args below meth c H locs cells slots Q (F0 m tgt ls rest)) (kf : x = true → W p l e R s m args below meth c H locs cells slots Q (F0 m (pc + 3) ls rest)) : W p l e R s m args below meth c H locs cells slots Q (F0 m pc ls (.int (bi x) :: rest)) := lv_if_eq hx hb hdg ht (fun h => kt ((bi_z x).mp h)) (fun h => kf (by cases x; exact absurd ((bi_z false).mpr rfl) h; rfl))
theorem n_b_ne (hx : p.tables.exec = Jvm.exec) (hb : c.code = cc) {x : Bool} {off : Int} {tgt : Nat} (hdg : decode cc pc = .ok (.ifCond .ne off, 3)) (ht : (pc : Int) + off = (tgt : Int)) (kt : x = true → W p l e R s m args below meth c H locs cells slots Q (F0 m tgt ls rest)) (kf : x = false → W p l e R s m args below meth c H locs cells slots Q (F0 m (pc + 3) ls rest)) : W p l e R s m args below meth c H locs cells slots Q (F0 m pc ls (.int (bi x) :: rest)) := lv_if_ne hx hb hdg ht (fun h => kt (by cases x; exact absurd ((bi_z false).mpr rfl) h; rfl)) (fun h => kf ((bi_z x).mp h))
/-- is a number in a set, tested as the class does -/
theorem has_iff {S y : Int} (hS : 0 ≤ S ∧ S < 2147483648) (h0 : 0 ≤ y) (h1 : y < 31) : m_ba S (m_bt y) = 0 ↔ m_has S y = false := ba_z S y h0
theorem n_max {x y : Int} (rx : RI x) (ry : RI y) : (if iI x < iI y then iI y else iI x) = iI (max x y) := by
  by_cases h : x < y
  · rw [if_pos ((iI_lt rx ry).mpr h)]
    congr 1; omega
  · rw [if_neg (fun q => h ((iI_lt rx ry).mp q))]
    congr 1; omega
theorem n_min {x y : Int} (rx : RI x) (ry : RI y) : (if iI y < iI x then iI y else iI x) = iI (min x y) := by
  by_cases h : y < x
  · rw [if_pos ((iI_lt ry rx).mpr h)]
    congr 1; omega
  · rw [if_neg (fun q => h ((iI_lt ry rx).mp q))]
    congr 1; omega
theorem n_abs {x : Int} (rx : RI x) : (if 0 ≤ iI x then iI x else 0 - iI x) = iI (x.natAbs : Int) := by
  show (if iI 0 ≤ iI x then iI x else iI 0 - iI x) = iI (x.natAbs : Int)
  by_cases h : 0 ≤ x
  · rw [if_pos ((iI_le RI_0 rx).mpr h)]
    congr 1; omega
  · rw [if_neg (fun q => h ((iI_le RI_0 rx).mp q)), iI_sub]
    congr 1; omega
theorem iI_in {k : Int} {n : Nat} (h0 : 0 ≤ k) (h1 : k < n) (hn : n ≤ 1000000) : vp_in (iI k) n ∧ (iI k).toNatClampNeg = k.toNat := by
  have r : RI k := by unfold RI; omega
  refine ⟨?_, iI_nat r⟩
  unfold vp_in
  rintro (q | q)
  · have := (iI_lt r RI_0).mp q
    omega
  · rw [iI_nat r] at q
    omega
end NRW
end
section
section BS
/-! what every contract needs: one list of words for all methods, the start, the cells that it may change -/
abbrev wc (y : MethodName) (cc : ByteArray) (n : Nat) (ret : Option FieldType) : List Cond := .code y cc n ret :: wsL_law0
theorem gA0 : wsL_law0.all goodWord = true := by decide +kernel
theorem gA : GoodIn wsL_law0 wsL_law0 := fun w h => ⟨h, good_of_word (List.all_eq_true.mp gA0 w h)⟩
theorem gA_c {y : MethodName} {cc : ByteArray} {n : Nat} {ret : Option FieldType} (h : Cond.code y cc n ret ∈ wsL_law0) : GoodIn wsL_law0 (wc y cc n ret) := fun w q => by
  rcases List.mem_cons.mp q with e | e
  · rw [e]; exact gA _ h
  · exact gA _ e
theorem gA_V {own C : String} {idx : Nat} {y : MethodName} {cc : ByteArray} {n : Nat} {ret : Option FieldType} (h1 : Cond.methodLink own idx y ∈ wsL_law0) (h2 : Cond.instanceMethod y ∈ wsL_law0) (h3 : Cond.selects C y y ∈ wsL_law0) (h4 : Cond.initialized C ∈ wsL_law0) (h5 : Cond.code y cc n ret ∈ wsL_law0) : GoodIn wsL_law0 (wsV own idx C y (wc y cc n ret)) := fun w q => by
  rcases List.mem_append.mp q with e | e
  · simp only [List.mem_cons, List.not_mem_nil, or_false] at e
    rcases e with rfl | rfl | rfl | rfl
    · exact gA _ h1
    · exact gA _ h2
    · exact gA _ h3
    · exact gA _ h4
  · exact gA_c h5 w e
theorem gA_S {own : String} {idx : Nat} {y : MethodName} {cc : ByteArray} {n : Nat} {ret : Option FieldType} (h1 : Cond.methodLink own idx y ∈ wsL_law0) (h2 : Cond.static y ∈ wsL_law0) (h4 : Cond.initialized y.cls ∈ wsL_law0) (h5 : Cond.code y cc n ret ∈ wsL_law0) : GoodIn wsL_law0 (va_wsS own idx y (wc y cc n ret)) := fun w q => by
  rcases List.mem_append.mp q with e | e
  · simp only [List.mem_cons, List.not_mem_nil, or_false] at e
    rcases e with rfl | rfl | rfl
    · exact gA _ h1
    · exact gA _ h2
    · exact gA _ h4
  · exact gA_c h5 w e
/-- links among the nest, which no list of words carries -/
def ew (U : State) : Prop := va_Nw (.methodLinkNest RX4 29 yX3_init RX4) U ∧ va_Nw (.methodLinkNest RX4 51 yX1_init RX4) U ∧ va_Nw (.methodLinkNest RX4 52 yX0_init RX4) U ∧ va_Nw (.methodLinkNest RX2 94 yX4_has RX4) U ∧ va_Nw (.methodLinkNest RX3 22 yX4_has RX4) U ∧ va_Nw (.methodLinkNest RX3 28 yX4_isWithin RX4) U
theorem ew.warm {s U : State} (hW : s.WarmedH U.vm) (h : ew s) : ew U := ⟨va_Nw.warmM hW h.1, va_Nw.warmM hW h.2.1, va_Nw.warmM hW h.2.2.1, va_Nw.warmM hW h.2.2.2.1, va_Nw.warmM hW h.2.2.2.2.1, va_Nw.warmM hW h.2.2.2.2.2⟩
theorem ew.same {u U : State} (hv : u.vm = U.vm) (h : ew u) : ew U := ⟨va_Nw.same rfl hv h.1, va_Nw.same rfl hv h.2.1, va_Nw.same rfl hv h.2.2.1, va_Nw.same rfl hv h.2.2.2.1, va_Nw.same rfl hv h.2.2.2.2.1, va_Nw.same rfl hv h.2.2.2.2.2⟩
/-- the arrays' classes -/
def pT (cH cB cJ cI : ClassId) : List (ClassId × FieldType) := [(cH, .object RX1), (cB, .object RX0), (cJ, .object RX2), (cI, .int)]
def pj (a : Nat → Nat) : Prop := ∀ i j, i < 58 → j < 58 → a i = a j → i = j
/-- a start: the 58 cells -/
def pS (D : va_G) (a : Nat → Nat) (cH cB cJ cI : ClassId) (sz : Nat) (g : m_St) (vt : Nat → Int32) (U : State) : Prop := U.heap.size = sz ∧ va_P D vwCl (pw a cH cB cJ cI g vt) U.heap ∧ va_K D vwCl (pT cH cB cJ cI) U ∧ ew U
def pA (a : Nat → Nat) (sz : Nat) : Nat → Prop := fun q => (∃ k, k < 58 ∧ a k = q) ∨ sz ≤ q
section
variable {D : va_G} {a : Nat → Nat} {cH cB cJ cI : ClassId} {sz : Nat} {g : m_St} {vt : Nat → Int32} {av As : List Value} {s : State} {H H1 : Heap} {locs : List Loc} {A : Nat → Prop}
theorem pw_at {k : Nat} {q : Nat × va_E} (h : (pw a cH cB cJ cI g vt)[k]? = some q) : k < 58 ∧ q.1 = a k := by
  by_cases z : k < 58
  · rw [pw_get z] at h
    cases h
    exact ⟨z, rfl⟩
  · simp [pw, z] at h
theorem pw_D (ha : pj a) (h : ∀ k, k < 58 → A (a k)) : va_D A (pw a cH cB cJ cI g vt) := by
  refine ⟨fun i j p q hi hj e => ?_, fun k q hk => ?_⟩
  · obtain ⟨i1, i2⟩ := pw_at hi
    obtain ⟨j1, j2⟩ := pw_at hj
    exact ha i j i1 j1 (i2.symm.trans (e.trans j2))
  · obtain ⟨k1, k2⟩ := pw_at hk
    rw [k2]; exact h k k1
theorem pA_in {k : Nat} (h : k < 58) : pA a sz (a k) := Or.inl ⟨k, h, rfl⟩
theorem pA_new {q : Nat} (h : sz ≤ q) : pA a sz q := Or.inr h
theorem pA_mono {sz' : Nat} (h : sz ≤ sz') {q : Nat} (hq : pA a sz' q) : pA a sz q := hq.elim Or.inl (fun z => Or.inr (Nat.le_trans h z))
theorem pS_bl : FrameBlind (va_Pc av (pS D a cH cB cJ cI sz g vt)) :=
  fun x U gg mk q => ⟨q.1, q.2.1, q.2.2.1, va_K.moved (u := U) (U := U.calling gg mk x) (Vm.Alike.refl U.vm) q.2.2.2.1, ew.same (u := U) (U := U.calling gg mk x) rfl q.2.2.2.2⟩
theorem pS_in (hP : va_P D vwCl (pw a cH cB cJ cI g vt) H) (hK : va_K D vwCl (pT cH cB cJ cI) s) (hE : ew s) : ∀ U : State, U.heap = H → s.WarmedH U.vm → va_Pc av (pS D a cH cB cJ cI H.size g vt) av.toArray U :=
  fun U hU hW => ⟨rfl, by rw [hU], by rw [hU]; exact hP, va_K.moved hW.alike hK, hE.warm hW⟩
theorem pS_v {b ci q0 : Nat} {q : vw_C} {fs As : List Value} (hc : vwCl[ci]? = some q) (he : (pw a cH cB cJ cI g vt)[q0]? = some (b, .inr (ci, fs))) (hP : va_P D vwCl (pw a cH cB cJ cI g vt) H) (hK : va_K D vwCl (pT cH cB cJ cI) s) (hE : ew s) : PreV s H q.1 b (va_Pc (.ref b :: As) (pS D a cH cB cJ cI H.size g vt)) As := ⟨pS_bl, va_recv hK hP hc he, pS_in hP hK hE⟩
theorem pS_s (hP : va_P D vwCl (pw a cH cB cJ cI g vt) H) (hK : va_K D vwCl (pT cH cB cJ cI) s) (hE : ew s) : PreS s H (va_Pc As (pS D a cH cB cJ cI H.size g vt)) As := ⟨pS_bl, pS_in hP hK hE⟩
/-- behind a call that wrote nothing old, the world is as it was -/
theorem ro_P {ws : va_W} (hP : va_P D vwCl ws H) (hk : ∀ q : Nat, q < H.size → ¬ H.size ≤ q → H1[q]? = H[q]?) : va_P D vwCl ws H1 := hP.kept (fun k q h => hk q.1 (hP k q h).lt (Nat.not_le.mpr (hP k q h).lt))
theorem ro_A {q : Nat} {B : Nat → Prop} (h1 : q < H.size) (h2 : H.size ≤ q) : B q := absurd h2 (Nat.not_le.mpr h1)
theorem ro_F (hS : va_S A s.heap H locs) (hA : ∀ q, s.heap.size ≤ q → A q) (q : Nat) (h : H.size ≤ q) : A q := hA q (Nat.le_trans hS.1 h)
/-- behind a call that wrote among the 58 cells -/
theorem rw_A (hS : va_S A s.heap H locs) (hA : ∀ q, s.heap.size ≤ q → A q) (hB : ∀ k, k < 58 → A (a k)) (q : Nat) (h : pA a H.size q) : A q := by
  rcases h with ⟨k, h1, h2⟩ | h
  · rw [← h2]; exact hB k h1
  · exact hA q (Nat.le_trans hS.1 h)
end
section
variable {p : Program} {l : Launch} {e : Env} {R : Room} {s : State} {m : MethodId} {args : Array Value} {below : List Frame} {meth : Method} {c : Code} {H : Heap} {locs : List Loc} {cells slots : Nat} {Q : State → Prop}
variable {cc : ByteArray} {pc : Nat} {ls : Array Slot} {rest : List Value} {D : va_G} {a : Nat → Nat} {cH cB cJ cI : ClassId} {g : m_St} {vt : Nat → Int32} {A : Nat → Prop} {H0 : Heap}
theorem p_aldH (hx : p.tables.exec = Jvm.exec) (hb : c.code = cc) (hK : va_K D vwCl (pT cH cB cJ cI) s) (hP : va_P D vwCl (pw a cH cB cJ cI g vt) H) {k : Int} (h0 : 0 ≤ k) (h1 : k < 5) (hdg : decode cc pc = .ok (.aaload, 1)) (kk : W p l e R s m args below meth c H locs cells slots Q (F0 m (pc + 1) ls (.ref (a (7 + k.toNat)) :: rest))) : W p l e R s m args below meth c H locs cells slots Q (F0 m pc ls (.int (iI k) :: .ref (a 1) :: rest)) := by
  have q := iI_in (n := 5) h0 (by omega) (by omega)
  refine va_aldq hx hb hK hP 1 0 pw_1 rfl q.1 hdg ?_
  rw [q.2]; exact kk
theorem p_aldB (hx : p.tables.exec = Jvm.exec) (hb : c.code = cc) (hK : va_K D vwCl (pT cH cB cJ cI) s) (hP : va_P D vwCl (pw a cH cB cJ cI g vt) H) {k : Int} (h0 : 0 ≤ k) (h1 : k < 16) (hdg : decode cc pc = .ok (.aaload, 1)) (kk : W p l e R s m args below meth c H locs cells slots Q (F0 m (pc + 1) ls (.ref (a (12 + k.toNat)) :: rest))) : W p l e R s m args below meth c H locs cells slots Q (F0 m pc ls (.int (iI k) :: .ref (a 2) :: rest)) := by
  have q := iI_in (n := 16) h0 (by omega) (by omega)
  refine va_aldq hx hb hK hP 2 1 pw_2 rfl q.1 hdg ?_
  rw [q.2]; exact kk
theorem p_aldJ (hx : p.tables.exec = Jvm.exec) (hb : c.code = cc) (hK : va_K D vwCl (pT cH cB cJ cI) s) (hP : va_P D vwCl (pw a cH cB cJ cI g vt) H) {k : Int} (h0 : 0 ≤ k) (h1 : k < 5) (hdg : decode cc pc = .ok (.aaload, 1)) (kk : W p l e R s m args below meth c H locs cells slots Q (F0 m (pc + 1) ls (.ref (a (28 + 6 * k.toNat)) :: rest))) : W p l e R s m args below meth c H locs cells slots Q (F0 m pc ls (.int (iI k) :: .ref (a 3) :: rest)) := by
  have q := iI_in (n := 5) h0 (by omega) (by omega)
  refine va_aldq hx hb hK hP 3 2 pw_3 rfl q.1 hdg ?_
  rw [q.2]; exact kk
/-- a judge's row: read, write -/
theorem p_rd (hx : p.tables.exec = Jvm.exec) (hb : c.code = cc) (hK : va_K D vwCl (pT cH cB cJ cI) s) (hP : va_P D vwCl (pw a cH cB cJ cI g vt) H) {j k : Int} {r : Nat} (j0 : 0 ≤ j) (j1 : j < 5) (hr : 1 ≤ r ∧ r < 6) (h0 : 0 ≤ k) (h1 : k < if r = 5 then 5 else 16) (hdg : decode cc pc = .ok (.iaload, 1)) (kk : W p l e R s m args below meth c H locs cells slots Q (F0 m (pc + 1) ls (.int (iI (g (3 + r) j k)) :: rest))) : W p l e R s m args below meth c H locs cells slots Q (F0 m pc ls (.int (iI k) :: .ref (a (28 + r + 6 * j.toNat)) :: rest)) := by
  have q := iI_in (n := if r = 5 then 5 else 16) (k := k) h0 (by split <;> (rename_i z; simp only [z, if_true, if_false] at h1; omega)) (by split <;> omega)
  refine va_iald hx hb hK hP (28 + r + 6 * j.toNat) 3 (pw_R j0 j1 hr) rfl q.1 hdg ?_
  rw [q.2]
  unfold rwF
  rw [Int.toNat_of_nonneg h0]
  exact kk
theorem p_wr (hx : p.tables.exec = Jvm.exec) (hb : c.code = cc) (hK : va_K D vwCl (pT cH cB cJ cI) s) (hP : va_P D vwCl (pw a cH cB cJ cI g vt) H) (hD : va_D A (pw a cH cB cJ cI g vt)) (hS : va_S A H0 H locs) {j k x : Int} {r : Nat} (j0 : 0 ≤ j) (j1 : j < 5) (hr : 1 ≤ r ∧ r < 6) (h0 : 0 ≤ k) (h1 : k < if r = 5 then 5 else 16) (hdg : decode cc pc = .ok (.iastore, 1)) (kk : ∀ (H1 : Heap) (locs1 : List Loc), va_P D vwCl (pw a cH cB cJ cI (m_up g (3 + r) j k x) vt) H1 → va_S A H0 H1 locs1 → W p l e R s m args below meth c H1 locs1 cells slots Q (F0 m (pc + 1) ls rest)) : W p l e R s m args below meth c H locs cells slots Q (F0 m pc ls (.int (iI x) :: .int (iI k) :: .ref (a (28 + r + 6 * j.toNat)) :: rest)) := by
  have q := iI_in (n := if r = 5 then 5 else 16) (k := k) h0 (by split <;> (rename_i z; simp only [z, if_true, if_false] at h1; omega)) (by split <;> omega)
  refine va_iast hx hb hK hP hD hS (28 + r + 6 * j.toNat) 3 (pw_R j0 j1 hr) rfl q.1 hdg (fun H1 locs1 hP1 _ hS1 => ?_)
  rw [q.2, pw_setR j0 j1 hr h0] at hP1
  exact kk H1 locs1 hP1 hS1
/-- the votes: read, write -/
theorem p_vrd (hx : p.tables.exec = Jvm.exec) (hb : c.code = cc) (hK : va_K D vwCl (pT cH cB cJ cI) s) (hP : va_P D vwCl (pw a cH cB cJ cI g vt) H) {k : Int} (h0 : 0 ≤ k) (h1 : k < 16) (hdg : decode cc pc = .ok (.iaload, 1)) (kk : W p l e R s m args below meth c H locs cells slots Q (F0 m (pc + 1) ls (.int (vt k.toNat) :: rest))) : W p l e R s m args below meth c H locs cells slots Q (F0 m pc ls (.int (iI k) :: .ref (a 6) :: rest)) := by
  have q := iI_in (n := 16) (k := k) h0 (by omega) (by omega)
  refine va_iald hx hb hK hP 6 3 pw_6 rfl q.1 hdg ?_
  rw [q.2]; exact kk
theorem p_vwr (hx : p.tables.exec = Jvm.exec) (hb : c.code = cc) (hK : va_K D vwCl (pT cH cB cJ cI) s) (hP : va_P D vwCl (pw a cH cB cJ cI g vt) H) (hD : va_D A (pw a cH cB cJ cI g vt)) (hS : va_S A H0 H locs) {k : Int} {x : Int32} (h0 : 0 ≤ k) (h1 : k < 16) (hdg : decode cc pc = .ok (.iastore, 1)) (kk : ∀ (H1 : Heap) (locs1 : List Loc), va_P D vwCl (pw a cH cB cJ cI g (upd vt k.toNat x)) H1 → va_S A H0 H1 locs1 → W p l e R s m args below meth c H1 locs1 cells slots Q (F0 m (pc + 1) ls rest)) : W p l e R s m args below meth c H locs cells slots Q (F0 m pc ls (.int x :: .int (iI k) :: .ref (a 6) :: rest)) := by
  have q := iI_in (n := 16) (k := k) h0 (by omega) (by omega)
  refine va_iast hx hb hK hP hD hS 6 3 pw_6 rfl q.1 hdg (fun H1 locs1 hP1 _ hS1 => ?_)
  rw [q.2, pw_setV] at hP1
  exact kk H1 locs1 hP1 hS1
end
theorem lv_cast {ls : Array Slot} {n : Nat} {l l' : List (Nat × Value)} (h : lv_has ls n l) (e : l = l') : lv_has ls n l' := e ▸ h
end BS
end
section
section SPN
theorem Wf.m3 {g : m_St} (h : Wf g) : 0 ≤ g 0 0 3 ∧ g 0 0 3 ≤ 5 := h.1.1
theorem Wf.m4 {g : m_St} (h : Wf g) : 0 ≤ g 0 0 4 ∧ g 0 0 4 ≤ 16 := h.1.2.1
theorem Wf.m5 {g : m_St} (h : Wf g) : 0 ≤ g 0 0 5 ∧ g 0 0 5 ≤ 5 := h.1.2.2.1
theorem Wf.m8 {g : m_St} (h : Wf g) : 0 ≤ g 0 0 8 ∧ g 0 0 8 ≤ 20 := h.1.2.2.2.1
theorem Wf.m9 {g : m_St} (h : Wf g) : 0 ≤ g 0 0 9 ∧ g 0 0 9 ≤ 4 := h.1.2.2.2.2.1
theorem Wf.m10 {g : m_St} (h : Wf g) : 0 ≤ g 0 0 10 ∧ g 0 0 10 ≤ 9999 := h.1.2.2.2.2.2.1
theorem Wf.m14 {g : m_St} (h : Wf g) : -1 ≤ g 0 0 14 ∧ g 0 0 14 ≤ 15 := h.1.2.2.2.2.2.2.1
theorem Wf.m15 {g : m_St} (h : Wf g) : -1 ≤ g 0 0 15 ∧ g 0 0 15 ≤ 15 := h.1.2.2.2.2.2.2.2
theorem Wf.m11 {g : m_St} (h : Wf g) : 0 ≤ g 0 0 11 ∧ g 0 0 11 < 65536 := h.2.1.1
theorem Wf.m12 {g : m_St} (h : Wf g) : 0 ≤ g 0 0 12 ∧ g 0 0 12 < 65536 := h.2.1.2.1
theorem Wf.m13 {g : m_St} (h : Wf g) : 0 ≤ g 0 0 13 ∧ g 0 0 13 < 65536 := h.2.1.2.2.1
theorem Wf.m16 {g : m_St} (h : Wf g) : 0 ≤ g 0 0 16 ∧ g 0 0 16 < 65536 := h.2.1.2.2.2.1
theorem Wf.m17 {g : m_St} (h : Wf g) : 0 ≤ g 0 0 17 ∧ g 0 0 17 < 65536 := h.2.1.2.2.2.2
theorem Wf.h1 {g : m_St} (h : Wf g) {k : Int} (h0 : 0 ≤ k) (h1 : k < 5) : 0 ≤ g 1 k 1 ∧ g 1 k 1 ≤ 16 := h.2.2.1 k h0 h1
theorem Wf.b0 {g : m_St} (h : Wf g) {k : Int} (h0 : 0 ≤ k) (h1 : k < 16) : 0 ≤ g 2 k 0 ∧ g 2 k 0 ≤ 4 := (h.2.2.2.1 k h0 h1).1
theorem Wf.b1 {g : m_St} (h : Wf g) {k : Int} (h0 : 0 ≤ k) (h1 : k < 16) : 0 ≤ g 2 k 1 ∧ g 2 k 1 ≤ 9 := (h.2.2.2.1 k h0 h1).2.1
theorem Wf.b2 {g : m_St} (h : Wf g) {k : Int} (h0 : 0 ≤ k) (h1 : k < 16) : 0 ≤ g 2 k 2 ∧ g 2 k 2 ≤ 2 := (h.2.2.2.1 k h0 h1).2.2.1
theorem Wf.b3 {g : m_St} (h : Wf g) {k : Int} (h0 : 0 ≤ k) (h1 : k < 16) : 0 ≤ g 2 k 3 ∧ g 2 k 3 ≤ 900 := (h.2.2.2.1 k h0 h1).2.2.2.1
theorem Wf.b4 {g : m_St} (h : Wf g) {k : Int} (h0 : 0 ≤ k) (h1 : k < 16) : 0 ≤ g 2 k 4 ∧ g 2 k 4 ≤ 60 := (h.2.2.2.1 k h0 h1).2.2.2.2.1
theorem Wf.b5 {g : m_St} (h : Wf g) {k : Int} (h0 : 0 ≤ k) (h1 : k < 16) : 0 ≤ g 2 k 5 ∧ g 2 k 5 ≤ 9 := (h.2.2.2.1 k h0 h1).2.2.2.2.2.1
theorem Wf.b6 {g : m_St} (h : Wf g) {k : Int} (h0 : 0 ≤ k) (h1 : k < 16) : 0 ≤ g 2 k 6 ∧ g 2 k 6 ≤ 20 := (h.2.2.2.1 k h0 h1).2.2.2.2.2.2.1
theorem Wf.b7 {g : m_St} (h : Wf g) {k : Int} (h0 : 0 ≤ k) (h1 : k < 16) : -1 ≤ g 2 k 7 ∧ g 2 k 7 ≤ 20 := (h.2.2.2.1 k h0 h1).2.2.2.2.2.2.2.1
theorem Wf.b8 {g : m_St} (h : Wf g) {k : Int} (h0 : 0 ≤ k) (h1 : k < 16) : 0 ≤ g 2 k 8 ∧ g 2 k 8 ≤ 9999 := (h.2.2.2.1 k h0 h1).2.2.2.2.2.2.2.2
theorem Wf.j0 {g : m_St} (h : Wf g) {k : Int} (h0 : 0 ≤ k) (h1 : k < 5) : 0 ≤ g 3 k 0 ∧ g 3 k 0 ≤ 200 := by have := h.2.2.2.2.1 k h0 h1; omega
theorem Wf.j1 {g : m_St} (h : Wf g) {k : Int} (h0 : 0 ≤ k) (h1 : k < 5) : 0 ≤ g 3 k 1 ∧ g 3 k 1 ≤ 9 := by have := h.2.2.2.2.1 k h0 h1; omega
theorem Wf.j2 {g : m_St} (h : Wf g) {k : Int} (h0 : 0 ≤ k) (h1 : k < 5) : -10 ≤ g 3 k 2 ∧ g 3 k 2 ≤ 10 := by have := h.2.2.2.2.1 k h0 h1; omega
theorem Wf.j3 {g : m_St} (h : Wf g) {k : Int} (h0 : 0 ≤ k) (h1 : k < 5) : 0 ≤ g 3 k 3 ∧ g 3 k 3 < 1024 := by have := h.2.2.2.2.1 k h0 h1; omega
theorem Wf.j4 {g : m_St} (h : Wf g) {k : Int} (h0 : 0 ≤ k) (h1 : k < 5) : 0 ≤ g 3 k 4 ∧ g 3 k 4 ≤ 1 := by have := h.2.2.2.2.1 k h0 h1; omega
theorem Wf.j7 {g : m_St} (h : Wf g) {k : Int} (h0 : 0 ≤ k) (h1 : k < 5) : 0 ≤ g 3 k 7 ∧ g 3 k 7 ≤ 16 := by have := h.2.2.2.2.1 k h0 h1; omega
theorem Wf.j8 {g : m_St} (h : Wf g) {k : Int} (h0 : 0 ≤ k) (h1 : k < 5) : 0 ≤ g 3 k 8 ∧ g 3 k 8 ≤ 14400 ∧ g 3 k 8 ≤ 900 * g 3 k 7 := by have := h.2.2.2.2.1 k h0 h1; omega
theorem Wf.j9 {g : m_St} (h : Wf g) {k : Int} (h0 : 0 ≤ k) (h1 : k < 5) : 0 ≤ g 3 k 9 ∧ g 3 k 9 ≤ g 3 k 7 ∧ g 3 k 9 ≤ 16 := by have := h.2.2.2.2.1 k h0 h1; omega
theorem Wf.j10 {g : m_St} (h : Wf g) {k : Int} (h0 : 0 ≤ k) (h1 : k < 5) : 0 ≤ g 3 k 10 ∧ g 3 k 10 ≤ g 3 k 8 ∧ g 3 k 10 ≤ 14400 := by have := h.2.2.2.2.1 k h0 h1; omega
theorem Wf.j12 {g : m_St} (h : Wf g) {k : Int} (h0 : 0 ≤ k) (h1 : k < 5) : 0 ≤ g 3 k 12 ∧ g 3 k 12 ≤ 1584 ∧ g 3 k 12 ≤ 99 * g 3 k 9 := by have := h.2.2.2.2.1 k h0 h1; omega
theorem Wf.j15 {g : m_St} (h : Wf g) {k : Int} (h0 : 0 ≤ k) (h1 : k < 5) : 0 ≤ g 3 k 15 ∧ g 3 k 15 ≤ 5 := by have := h.2.2.2.2.1 k h0 h1; omega
theorem Wf.r4 {g : m_St} (h : Wf g) {j k : Int} (j0 : 0 ≤ j) (j1 : j < 5) (h0 : 0 ≤ k) (h1 : k < 16) : 0 ≤ g 4 j k ∧ g 4 j k ≤ 15 := by have := h.2.2.2.2.2.1 j k j0 j1 h0 h1; omega
theorem Wf.r5 {g : m_St} (h : Wf g) {j k : Int} (j0 : 0 ≤ j) (j1 : j < 5) (h0 : 0 ≤ k) (h1 : k < 16) : 0 ≤ g 5 j k ∧ g 5 j k ≤ 14400 := by have := h.2.2.2.2.2.1 j k j0 j1 h0 h1; omega
theorem Wf.r6 {g : m_St} (h : Wf g) {j k : Int} (j0 : 0 ≤ j) (j1 : j < 5) (h0 : 0 ≤ k) (h1 : k < 16) : -1 ≤ g 6 j k ∧ g 6 j k ≤ 99 := by have := h.2.2.2.2.2.1 j k j0 j1 h0 h1; omega
theorem Wf.r7 {g : m_St} (h : Wf g) {j k : Int} (j0 : 0 ≤ j) (j1 : j < 5) (h0 : 0 ≤ k) (h1 : k < 16) : 0 ≤ g 7 j k ∧ g 7 j k ≤ 12 := by have := h.2.2.2.2.2.1 j k j0 j1 h0 h1; omega
theorem Wf.r8 {g : m_St} (h : Wf g) {j k : Int} (j0 : 0 ≤ j) (j1 : j < 5) (h0 : 0 ≤ k) (h1 : k < 16) : -1 ≤ g 8 j k ∧ g 8 j k ≤ 15 := by have := h.2.2.2.2.2.1 j k j0 j1 h0 h1; omega
theorem Wf.u0 {g : m_St} (h : Wf g) {k : Int} (h0 : 0 ≤ k) (h1 : k < 2) : 0 ≤ g 9 k 0 ∧ g 9 k 0 ≤ 7 := by have := h.2.2.2.2.2.2 k h0 h1; omega
theorem Wf.u1 {g : m_St} (h : Wf g) {k : Int} (h0 : 0 ≤ k) (h1 : k < 2) : 0 ≤ g 9 k 1 ∧ g 9 k 1 ≤ 900 := by have := h.2.2.2.2.2.2 k h0 h1; omega
theorem Wf.u2 {g : m_St} (h : Wf g) {k : Int} (h0 : 0 ≤ k) (h1 : k < 2) : 0 ≤ g 9 k 2 ∧ g 9 k 2 ≤ 900 := by have := h.2.2.2.2.2.2 k h0 h1; omega
theorem Wf.u3 {g : m_St} (h : Wf g) {k : Int} (h0 : 0 ≤ k) (h1 : k < 2) : 0 ≤ g 9 k 3 ∧ g 9 k 3 ≤ 50 := by have := h.2.2.2.2.2.2 k h0 h1; omega
end SPN
section LEM
theorem bd_span {S T : Int} (h : 0 ≤ S) : 0 ≤ m_bd S T ∧ m_bd S T ≤ S := by
  refine ⟨bd_nn S T, ?_⟩
  have e : S.toNat ^^^ (S.toNat &&& T.toNat) = S.toNat &&& (S.toNat ^^^ (S.toNat &&& T.toNat)) := by
    apply Nat.eq_of_testBit_eq
    intro i
    simp only [Nat.testBit_and, Nat.testBit_xor]
    cases S.toNat.testBit i <;> cases T.toNat.testBit i <;> rfl
  have := @Nat.and_le_left S.toNat (S.toNat ^^^ (S.toNat &&& T.toNat))
  unfold m_bd
  rw [e]
  omega
theorem ba_f {S n : Int} (h0 : 0 ≤ n) (h : m_ba S (m_bt n) = 0) : m_has S n = false := (ba_z S n h0).mp h
theorem ba_t {S n : Int} (h0 : 0 ≤ n) (h : m_ba S (m_bt n) ≠ 0) : m_has S n = true := by
  cases e : m_has S n
  · exact absurd ((ba_z S n h0).mpr e) h
  · rfl
theorem bt_m1 {S : Int} (h : 0 ≤ S ∧ S < 2147483648) : iI S &&& (iI 1 <<< (iI (-1) &&& 31)) = iI 0 := by
  have e : iI 1 <<< (iI (-1) &&& 31) = iI ((2147483648 : Nat) : Int) := by decide
  have f := iI_and S.toNat 2147483648
  rw [Int.toNat_of_nonneg h.1] at f
  rw [e, f]
  have z : S.toNat &&& 2147483648 = 0 := by
    apply Nat.eq_of_testBit_eq
    intro i
    rw [Nat.testBit_and, show (2147483648 : Nat) = 2 ^ 31 from rfl, Nat.testBit_two_pow, Nat.zero_testBit]
    by_cases q : 31 = i
    · subst q
      rw [Nat.testBit_lt_two_pow (show S.toNat < 2 ^ 31 by omega)]; rfl
    · rw [decide_eq_false q, Bool.and_false]
  rw [z]; rfl
def m_cmp (x y : Int) : Int := if x < y then -1 else if x = y then 0 else 1
theorem cmp_b (x y : Int) : -1 ≤ m_cmp x y ∧ m_cmp x y ≤ 1 := by unfold m_cmp; split; omega; split <;> omega
theorem fdv_b {x y : Int} (h : 0 < y) (B : Int) (hx : -B ≤ x ∧ x ≤ B) (hB : 0 ≤ B) : -B - 1 ≤ m_fdv x y ∧ m_fdv x y ≤ B := by
  have t1 : -B ≤ x.tdiv y ∧ x.tdiv y ≤ B := by
    by_cases q : 0 ≤ x
    · have a1 := Int.tdiv_nonneg q (Int.le_of_lt h)
      have a2 := Int.tdiv_le_self y q
      omega
    · have e : x = -(-x) := by omega
      rw [e, Int.neg_tdiv]
      have a1 := Int.tdiv_nonneg (show 0 ≤ -x by omega) (Int.le_of_lt h)
      have a2 := Int.tdiv_le_self y (show 0 ≤ -x by omega)
      omega
  unfold m_fdv
  split <;> omega
theorem xor_neg {x y : Int} (rx : RI x) (ry : RI y) (h : 0 < y) : (iI x ^^^ iI y < 0) ↔ x < 0 := by
  have e : ∀ z : Int32, z < 0 ↔ z.toBitVec.msb = true := fun z => by
    rw [Int32.lt_iff_toInt_lt, ← Int32.toInt_toBitVec, BitVec.msb_eq_toInt]
    simp
  rw [e, Int32.toBitVec_xor, BitVec.msb_xor]
  have hy : (iI y).toBitVec.msb = false := by
    cases q : (iI y).toBitVec.msb
    · rfl
    · have := (e (iI y)).mpr q
      rw [iI_0, iI_lt ry RI_0] at this
      omega
  rw [hy, Bool.xor_false, ← e, iI_0, iI_lt rx RI_0]
theorem ent_b {g : m_St} (W : Wf g) : 0 ≤ m_entCount g ∧ m_entCount g ≤ 16 := by
  have a := cnt_nn (m_ent g) (g 0 0 4).toNat
  have b := cnt_le (m_ent g) (g 0 0 4).toNat
  have c := W.m4
  unfold m_entCount
  omega
theorem cnt5 {g : m_St} (W : Wf g) (p : Int → Bool) : 0 ≤ m_cnt p (g 0 0 5).toNat ∧ m_cnt p (g 0 0 5).toNat ≤ 5 := by
  have a := cnt_nn p (g 0 0 5).toNat
  have b := cnt_le p (g 0 0 5).toNat
  have c := W.m5
  omega
theorem coh_16 {g : m_St} (W : Wf g) (h S : Int) : 0 ≤ m_coh g h S ∧ m_coh g h S ≤ 16 := by
  have a := coh_b g h S W.m4.1
  have c := W.m4
  omega
theorem m_ib_b (c : Bool) : 0 ≤ m_ib c ∧ m_ib c ≤ 1 := ⟨ib_nn c, ib_le c⟩
end LEM
end
section
section LEN
theorem cnt_s (q : Int → Bool) (n : Nat) : m_cnt q (n + 1) = m_cnt q n + m_ib (q n) := rfl
theorem cnt_t {q : Int → Bool} {n : Nat} (h : q n = true) : m_cnt q (n + 1) = m_cnt q n + 1 := by rw [cnt_s, h]; rfl
theorem cnt_f {q : Int → Bool} {n : Nat} (h : q n = false) : m_cnt q (n + 1) = m_cnt q n := by rw [cnt_s, h]; exact Int.add_zero _
theorem sm_s (q : Int → Int) (n : Nat) : m_sm q (n + 1) = m_sm q n + q n := rfl
theorem bt_16 {n : Int} (h : 0 ≤ n ∧ n ≤ 16) : 1 ≤ m_bt n ∧ m_bt n ≤ 65536 :=
  (by decide : ∀ k : Nat, k < 17 → 1 ≤ ((2 ^ k : Nat) : Int) ∧ ((2 ^ k : Nat) : Int) ≤ 65536) n.toNat (by omega)
theorem tdiv_b {x : Int} (h : 0 ≤ x) : 0 ≤ x.tdiv 500 ∧ x.tdiv 500 ≤ x := ⟨Int.tdiv_nonneg h (by decide), Int.tdiv_le_self 500 h⟩
theorem tdiv_10 {x : Int} (h : 0 ≤ x) : 0 ≤ x.tdiv 10 ∧ x.tdiv 10 ≤ x := ⟨Int.tdiv_nonneg h (by decide), Int.tdiv_le_self 10 h⟩
theorem tmod_10 {x : Int} (h : 0 ≤ x) : 0 ≤ x.tmod 10 ∧ x.tmod 10 ≤ 9 := by
  rw [Int.tmod_eq_emod_of_nonneg h]; omega
theorem mean_b {g : m_St} (W : Wf g) {jj : Int} (h : 0 ≤ jj ∧ jj < 5) : 0 ≤ m_mean10 g jj ∧ m_mean10 g jj ≤ 990 := by
  have a := W.j12 h.1 h.2
  have b := W.j9 h.1 h.2
  unfold m_mean10
  split
  · omega
  · rename_i z
    rw [Int.tdiv_eq_ediv_of_nonneg (by omega)]
    refine ⟨Int.ediv_nonneg (by omega) b.1, ?_⟩
    exact Int.ediv_le_of_le_mul (by omega) (by omega)
theorem sm_5 {g : m_St} (W : Wf g) {f : Int → Int} {B : Int} (h0 : ∀ i : Int, 0 ≤ i → i < 5 → 0 ≤ f i) (hB : ∀ i : Int, 0 ≤ i → i < 5 → f i ≤ B) (hb : 0 ≤ B) : 0 ≤ m_sm f (g 0 0 5).toNat ∧ m_sm f (g 0 0 5).toNat ≤ 5 * B := by
  have m5 := W.m5
  refine ⟨sm_nn (fun i a b => h0 i a (by omega)), ?_⟩
  have q := sm_bd (h := f) (B := B) (n := (g 0 0 5).toNat) (fun i a b => hB i a (by omega))
  have : B * ((g 0 0 5).toNat : Int) ≤ B * 5 := Int.mul_le_mul_of_nonneg_left (by omega) hb
  omega
theorem pts_b {g : m_St} (W : Wf g) {bb : Int} (h : 0 ≤ bb ∧ bb < 16) : 0 ≤ m_pts g bb ∧ m_pts g bb ≤ 60 := by
  have q := sm_5 W (f := fun j => bif m_agn g j (g 2 bb 1) then 0 else g 7 j bb) (B := 12) (fun i a b => by
    have := W.r7 (j := i) (k := bb) a b h.1 h.2
    show 0 ≤ (bif m_agn g i (g 2 bb 1) then 0 else g 7 i bb)
    cases m_agn g i (g 2 bb 1) <;> simp <;> omega) (fun i a b => by
    have := W.r7 (j := i) (k := bb) a b h.1 h.2
    show (bif m_agn g i (g 2 bb 1) then 0 else g 7 i bb) ≤ 12
    cases m_agn g i (g 2 bb 1) <;> simp <;> omega) (by omega)
  exact ⟨q.1, by have := q.2; unfold m_pts; omega⟩
theorem stand_b (g : m_St) (bb : Int) : 0 ≤ m_standing g bb ∧ m_standing g bb ≤ 3 := by
  unfold m_standing
  split
  · omega
  · cases m_has (g 0 0 13) bb <;> cases m_has (g 0 0 11) bb <;> simp
theorem left_b {g : m_St} (W : Wf g) {jj : Int} (h : 0 ≤ jj ∧ jj < 5) : 0 ≤ m_pagesLeft g jj ∧ m_pagesLeft g jj ≤ 14400 := by
  have a := W.j8 h.1 h.2
  have b := W.j10 h.1 h.2
  unfold m_pagesLeft
  omega
theorem mark_b (g : m_St) (jj bb : Int) : 0 ≤ m_markFor g jj bb ∧ m_markFor g jj bb ≤ 99 := by unfold m_markFor; omega
theorem ptsl_b {g : m_St} (W : Wf g) {jj : Int} (h : 0 ≤ jj ∧ jj < 5) : -180 ≤ m_ptsLeft g jj ∧ m_ptsLeft g jj ≤ 12 := by
  have a := sm_nn (h := fun b => g 7 jj b) (n := 16) (fun i x y => (W.r7 h.1 h.2 x (by omega)).1)
  have b := sm_bd (h := fun b => g 7 jj b) (B := 12) (n := 16) (fun i x y => (W.r7 h.1 h.2 x (by omega)).2)
  unfold m_ptsLeft
  omega
theorem scs_b {g : m_St} (W : Wf g) {bb : Int} (h : 0 ≤ bb ∧ bb < 16) (n : Nat) (hn : n ≤ (g 0 0 5).toNat) : -5000 ≤ m_sm (fun j => bif m_fair g j bb then 10 * g 6 j bb - m_mean10 g j else 0) n ∧ m_sm (fun j => bif m_fair g j bb then 10 * g 6 j bb - m_mean10 g j else 0) n ≤ 4950 := by
  have m5 := W.m5
  have a := sm_bd (h := fun j => bif m_fair g j bb then 10 * g 6 j bb - m_mean10 g j else 0) (B := 990) (n := n) (fun i x y => by
    have := W.r6 (j := i) (k := bb) x (by omega) h.1 h.2
    have := mean_b W (jj := i) ⟨x, by omega⟩
    show (bif m_fair g i bb then 10 * g 6 i bb - m_mean10 g i else 0) ≤ 990
    cases m_fair g i bb <;> simp <;> omega)
  have b := sm_lo (h := fun j => bif m_fair g j bb then 10 * g 6 j bb - m_mean10 g j else 0) (B := -1000) (n := n) (fun i x y => by
    have := W.r6 (j := i) (k := bb) x (by omega) h.1 h.2
    have := mean_b W (jj := i) ⟨x, by omega⟩
    show -1000 ≤ (bif m_fair g i bb then 10 * g 6 i bb - m_mean10 g i else 0)
    cases m_fair g i bb <;> simp <;> omega)
  omega
theorem score_b {g : m_St} (W : Wf g) {bb : Int} (h : 0 ≤ bb ∧ bb < 16) : -6000 ≤ m_score g bb ∧ m_score g bb ≤ 6000 := by
  have a := scs_b W h _ (Nat.le_refl _)
  have c := cnt_nn (fun j => m_fair g j bb) (g 0 0 5).toNat
  unfold m_score
  split
  · omega
  · rename_i z
    have := fdv_b (x := m_scoreSum g bb) (y := m_fairCount g bb) (by unfold m_fairCount at *; omega) 5000 (by unfold m_scoreSum; omega) (by omega)
    omega
theorem dayl_b (sp cp : Int) : ∀ (n : Nat) (p d : Int), d ≤ m_dayLoop sp cp n p d ∧ m_dayLoop sp cp n p d ≤ d + n
  | 0, p, d => by unfold m_dayLoop; omega
  | n + 1, p, d => by
    unfold m_dayLoop
    split
    · have := dayl_b sp cp n (p + m_pace sp p) (d + 1)
      omega
    · omega
theorem days_b (g : m_St) (jj : Int) : 0 ≤ m_daysLeft g jj ∧ m_daysLeft g jj ≤ 10000 := by
  have := dayl_b (g 3 jj 0) (g 3 jj 8) 10000 (g 3 jj 10) 0
  unfold m_daysLeft
  omega
end LEN
end
section
set_option maxHeartbeats 4000000 in
set_option maxRecDepth 100000 in
/-- isWithin -/
theorem c_isWithin (l : Launch) (D : va_G) (a : Nat → Nat) (cH cB cJ cI : ClassId) (ha : pj a) (g : m_St) (vt : Nat → Int32) (sz : Nat) (v : Int) (lo : Int) (hi : Int) (rv : -2147483648 ≤ v ∧ v ≤ 2147483647) (rlo : -2147483648 ≤ lo ∧ lo ≤ 2147483647) (rhi : -2147483648 ≤ hi ∧ hi ≤ 2147483647) : Met l yX4_isWithin (wc yX4_isWithin cX4_isWithin 3 (some .boolean)) ({ frames := 0, cells := 0, slots := 0, locals := 0 }) (va_Pc [.int (iI v), .int (iI lo), .int (iI hi)] (pS D a cH cB cJ cI sz g vt)) (va_Qi (fun (r : Int32) (_ : Unit) => r = bi (decide (lo ≤ v ∧ v ≤ hi))) (fun _ _ => True) (fun q => sz ≤ q)) 0 0 (fun q => sz ≤ q) := by
  refine Met.ofW (cc := cX4_isWithin) (maxL := 3) (ret := (some .boolean)) (by decide +kernel) rfl ?_
  intro p e s m args below meth c s₁ B9 hml hv
  obtain ⟨rfl, hsz, hP, hK, hE⟩ := hv
  have hx := B9.exec
  have hb := B9.bytes
  have hr := B9.returns
  have hts := atoms_spec (ws := (wc yX4_isWithin cX4_isWithin 3 (some .boolean))) B9.pre
  have hw : ∀ w ∈ wsL_law0, w.before [.int (iI v), .int (iI lo), .int (iI hi)].toArray s = true := fun w h => hts w (List.mem_cons_of_mem _ h)
  have hown : s.vm.findClass RX4 = some m.cls := findClass_of_methodNamed B9.named
  subst hsz
  have hS : va_S (fun q => s.heap.size ≤ q) s.heap s.heap [] := va_S.rf
  have hA : ∀ q : Nat, s.heap.size ≤ q → (fun q : Nat => s.heap.size ≤ q) q := fun _ h => h
  have hl := lv_entry ([.int (iI v), .int (iI lo), .int (iI hi)]) (n := 3) (Nat.le_of_ble_eq_true rfl)
  rw [lg_entry_eq]
  generalize (lg_sl ([.int (iI v), .int (iI lo), .int (iI hi)]) ++ List.replicate (3 - (lg_sl ([.int (iI v), .int (iI lo), .int (iI hi)])).length) Slot.unset).toArray = ls at hl ⊢
  have hl : lv_has ls 3 [(0, .int (iI v)), (1, .int (iI lo)), (2, .int (iI hi))] := hl
  suffices h9 : ∀ (H : Heap) (locs : List Loc), va_P D vwCl (pw a cH cB cJ cI g vt) H → va_S (fun q => s.heap.size ≤ q) s.heap H locs → W p l e (headSpec (wc yX4_isWithin cX4_isWithin 3 (some .boolean)) ({ frames := 0, cells := 0, slots := 0, locals := 0 })).room s m [.int (iI v), .int (iI lo), .int (iI hi)].toArray below meth c H locs 0 0 (MQ below (va_Qi (fun (r : Int32) (_ : Unit) => r = bi (decide (lo ≤ v ∧ v ≤ hi))) (fun _ _ => True) (fun q => s.heap.size ≤ q)) [.int (iI v), .int (iI lo), .int (iI hi)].toArray s 0 0 (fun q => s.heap.size ≤ q)) (F0 m 0 ls []) from h9 s.heap [] hP hS
  clear hP hS
  intro H locs hP hS
  refine lv_iload_n hx hb dX4_isWithin_0 rfl (lv_at hl 0 rfl) ?_
  refine lv_iload_n hx hb dX4_isWithin_1 rfl (lv_at hl 1 rfl) ?_
  refine n_icmp_lt hx hb (by unfold RI; omega) (by unfold RI; omega) (tgt := 14) dX4_isWithin_2 (by decide) (fun h1 => ?_) (fun h1 => ?_)
  · skip
    refine lv_iconst (v := iI 0) hx hb dX4_isWithin_14 (by decide) ?_
    exact W.zret (v := (iI 0)) (ty := .boolean) hx hb hr (by decide +kernel) (fun t ht hW9 => ⟨⟨(iI 0), (), rfl, (show iI 0 = bi (decide (lo ≤ v ∧ v ≤ hi)) from by rw [show (decide (lo ≤ v ∧ v ≤ hi)) = false from by first | exact decide_eq_true (by omega) | exact decide_eq_false (by omega)]; rfl), trivial⟩, hS.F ht⟩) hS.2.2 dX4_isWithin_15
  · skip
    refine lv_iload_n hx hb dX4_isWithin_5 rfl (lv_at hl 0 rfl) ?_
    refine lv_iload_n hx hb dX4_isWithin_6 rfl (lv_at hl 2 rfl) ?_
    refine n_icmp_gt hx hb (by unfold RI; omega) (by unfold RI; omega) (tgt := 14) dX4_isWithin_7 (by decide) (fun h2 => ?_) (fun h2 => ?_)
    · skip
      refine lv_iconst (v := iI 0) hx hb dX4_isWithin_14 (by decide) ?_
      exact W.zret (v := (iI 0)) (ty := .boolean) hx hb hr (by decide +kernel) (fun t ht hW9 => ⟨⟨(iI 0), (), rfl, (show iI 0 = bi (decide (lo ≤ v ∧ v ≤ hi)) from by rw [show (decide (lo ≤ v ∧ v ≤ hi)) = false from by first | exact decide_eq_true (by omega) | exact decide_eq_false (by omega)]; rfl), trivial⟩, hS.F ht⟩) hS.2.2 dX4_isWithin_15
    · skip
      refine lv_iconst (v := iI 1) hx hb dX4_isWithin_10 (by decide) ?_
      refine lv_goto (tgt := 15) hx hb dX4_isWithin_11 (by decide) ?_
      exact W.zret (v := (iI 1)) (ty := .boolean) hx hb hr (by decide +kernel) (fun t ht hW9 => ⟨⟨(iI 1), (), rfl, (show iI 1 = bi (decide (lo ≤ v ∧ v ≤ hi)) from by rw [show (decide (lo ≤ v ∧ v ≤ hi)) = true from by first | exact decide_eq_true (by omega) | exact decide_eq_false (by omega)]; rfl), trivial⟩, hS.F ht⟩) hS.2.2 dX4_isWithin_15
set_option maxHeartbeats 4000000 in
set_option maxRecDepth 100000 in
theorem c_isAuthor (l : Launch) (D : va_G) (a : Nat → Nat) (cH cB cJ cI : ClassId) (ha : pj a) (g : m_St) (vt : Nat → Int32) (sz : Nat) (au : Int) (ra : -2147483648 ≤ au ∧ au ≤ 2147483647) : Met l yX4_isAuthor (wc yX4_isAuthor cX4_isAuthor 1 (some .boolean)) ({ frames := 1, cells := 0, slots := 0, locals := 22 }) (va_Pc [.int (iI au)] (pS D a cH cB cJ cI sz g vt)) (va_Qi (fun (r : Int32) (_ : Unit) => r = bi (decide (0 ≤ au ∧ au ≤ 9))) (fun _ _ => True) (fun q => sz ≤ q)) 0 0 (fun q => sz ≤ q) := by
  refine Met.ofW (cc := cX4_isAuthor) (maxL := 1) (ret := (some .boolean)) (by decide +kernel) rfl ?_
  intro p e s m args below meth c s₁ B9 hml hv
  obtain ⟨rfl, hsz, hP, hK, hE⟩ := hv
  have hx := B9.exec
  have hb := B9.bytes
  have hr := B9.returns
  have hts := atoms_spec (ws := (wc yX4_isAuthor cX4_isAuthor 1 (some .boolean))) B9.pre
  have hw : ∀ w ∈ wsL_law0, w.before [.int (iI au)].toArray s = true := fun w h => hts w (List.mem_cons_of_mem _ h)
  have hown : s.vm.findClass RX4 = some m.cls := findClass_of_methodNamed B9.named
  subst hsz
  have hS : va_S (fun q => s.heap.size ≤ q) s.heap s.heap [] := va_S.rf
  have hA : ∀ q : Nat, s.heap.size ≤ q → (fun q : Nat => s.heap.size ≤ q) q := fun _ h => h
  have hl := lv_entry ([.int (iI au)]) (n := 1) (Nat.le_of_ble_eq_true rfl)
  rw [lg_entry_eq]
  generalize (lg_sl ([.int (iI au)]) ++ List.replicate (1 - (lg_sl ([.int (iI au)])).length) Slot.unset).toArray = ls at hl ⊢
  have hl : lv_has ls 1 [(0, .int (iI au))] := hl
  suffices h9 : ∀ (H : Heap) (locs : List Loc), va_P D vwCl (pw a cH cB cJ cI g vt) H → va_S (fun q => s.heap.size ≤ q) s.heap H locs → W p l e (headSpec (wc yX4_isAuthor cX4_isAuthor 1 (some .boolean)) ({ frames := 1, cells := 0, slots := 0, locals := 22 })).room s m [.int (iI au)].toArray below meth c H locs 0 0 (MQ below (va_Qi (fun (r : Int32) (_ : Unit) => r = bi (decide (0 ≤ au ∧ au ≤ 9))) (fun _ _ => True) (fun q => s.heap.size ≤ q)) [.int (iI au)].toArray s 0 0 (fun q => s.heap.size ≤ q)) (F0 m 0 ls []) from h9 s.heap [] hP hS
  clear hP hS
  intro H locs hP hS
  refine lv_iload_n hx hb dX4_isAuthor_0 rfl (lv_at hl 0 rfl) ?_
  refine lv_iconst (v := iI 0) hx hb dX4_isAuthor_1 (by decide) ?_
  refine lv_bipush (v := iI 9) hx hb dX4_isAuthor_2 (by decide) ?_
  refine va_calli (va_runS (As := [.int (iI au), .int (iI 0), .int (iI 9)]) (rest := []) ⟨hx, hb, hml, hown, hw⟩ (c_isWithin l D a cH cB cJ cI ha g vt H.size au 0 9 (by omega) (by omega) (by omega)) (va_cwS 3 hw (gA_S kw_82 kw_83 kw_2 kw_84) rfl rfl rfl (by decide +kernel) ⟨Nat.le_of_ble_eq_true rfl, Nat.le_of_ble_eq_true rfl⟩) (pS_s hP hK hE) rfl rfl hl.1 rfl (lv_room (Nat.le_of_ble_eq_true rfl)) dX4_isAuthor_4 ⟨Nat.le_of_ble_eq_true rfl, Nat.le_of_ble_eq_true rfl⟩) hS (fun q h1 h2 => ro_A h1 h2) (fun q h => ro_F hS hA q h) (fun r u t H1 locs ht hvm hw9 hB9 hz1 hk1 hS => ?_)
  have hw9 : r = (bi (decide (0 ≤ au ∧ au ≤ 9))) := hw9
  subst hw9
  have hP := ro_P hP hk1
  generalize H1 = H at hP hS ⊢
  exact W.zret (v := (bi (decide (0 ≤ au ∧ au ≤ 9)))) (ty := .boolean) hx hb hr (by cases (decide (0 ≤ au ∧ au ≤ 9)) <;> decide) (fun t ht hW9 => ⟨⟨(bi (decide (0 ≤ au ∧ au ≤ 9))), (), rfl, rfl, trivial⟩, hS.F ht⟩) hS.2.2 dX4_isAuthor_7
set_option maxHeartbeats 4000000 in
set_option maxRecDepth 100000 in
theorem c_isHouse (l : Launch) (D : va_G) (a : Nat → Nat) (cH cB cJ cI : ClassId) (ha : pj a) (g : m_St) (vt : Nat → Int32) (sz : Nat) (kk : Int) (hWf : Wf g) (rk : -2147483648 ≤ kk ∧ kk ≤ 2147483647) : Met l yX4_isHouse (wc yX4_isHouse cX4_isHouse 2 (some .boolean)) ({ frames := 0, cells := 0, slots := 0, locals := 0 }) (va_Pc [.ref (a 0), .int (iI kk)] (pS D a cH cB cJ cI sz g vt)) (va_Qi (fun (r : Int32) (_ : Unit) => r = bi (decide (0 ≤ kk ∧ kk < g 0 0 3))) (fun _ _ => True) (fun q => sz ≤ q)) 0 0 (fun q => sz ≤ q) := by
  refine Met.ofW (cc := cX4_isHouse) (maxL := 2) (ret := (some .boolean)) (by decide +kernel) rfl ?_
  intro p e s m args below meth c s₁ B9 hml hv
  obtain ⟨rfl, hsz, hP, hK, hE⟩ := hv
  have hx := B9.exec
  have hb := B9.bytes
  have hr := B9.returns
  have hts := atoms_spec (ws := (wc yX4_isHouse cX4_isHouse 2 (some .boolean))) B9.pre
  have hw : ∀ w ∈ wsL_law0, w.before [.ref (a 0), .int (iI kk)].toArray s = true := fun w h => hts w (List.mem_cons_of_mem _ h)
  have hown : s.vm.findClass RX4 = some m.cls := findClass_of_methodNamed B9.named
  subst hsz
  have hS : va_S (fun q => s.heap.size ≤ q) s.heap s.heap [] := va_S.rf
  have hA : ∀ q : Nat, s.heap.size ≤ q → (fun q : Nat => s.heap.size ≤ q) q := fun _ h => h
  have hl := lv_entry ([.ref (a 0), .int (iI kk)]) (n := 2) (Nat.le_of_ble_eq_true rfl)
  rw [lg_entry_eq]
  generalize (lg_sl ([.ref (a 0), .int (iI kk)]) ++ List.replicate (2 - (lg_sl ([.ref (a 0), .int (iI kk)])).length) Slot.unset).toArray = ls at hl ⊢
  have hl : lv_has ls 2 [(0, .ref (a 0)), (1, .int (iI kk))] := hl
  suffices h9 : ∀ (H : Heap) (locs : List Loc), va_P D vwCl (pw a cH cB cJ cI g vt) H → va_S (fun q => s.heap.size ≤ q) s.heap H locs → W p l e (headSpec (wc yX4_isHouse cX4_isHouse 2 (some .boolean)) ({ frames := 0, cells := 0, slots := 0, locals := 0 })).room s m [.ref (a 0), .int (iI kk)].toArray below meth c H locs 0 0 (MQ below (va_Qi (fun (r : Int32) (_ : Unit) => r = bi (decide (0 ≤ kk ∧ kk < g 0 0 3))) (fun _ _ => True) (fun q => s.heap.size ≤ q)) [.ref (a 0), .int (iI kk)].toArray s 0 0 (fun q => s.heap.size ≤ q)) (F0 m 0 ls []) from h9 s.heap [] hP hS
  clear hP hS
  intro H locs hP hS
  refine lv_iload_n hx hb dX4_isHouse_0 rfl (lv_at hl 1 rfl) ?_
  refine n_if_lt hx hb (by unfold RI; omega) (tgt := 16) dX4_isHouse_1 (by decide) (fun h1 => ?_) (fun h1 => ?_)
  · skip
    refine lv_iconst (v := iI 0) hx hb dX4_isHouse_16 (by decide) ?_
    exact W.zret (v := (iI 0)) (ty := .boolean) hx hb hr (by decide +kernel) (fun t ht hW9 => ⟨⟨(iI 0), (), rfl, (show iI 0 = bi (decide (0 ≤ kk ∧ kk < g 0 0 3)) from by rw [show (decide (0 ≤ kk ∧ kk < g 0 0 3)) = false from by first | exact decide_eq_true (by omega) | exact decide_eq_false (by omega)]; rfl), trivial⟩, hS.F ht⟩) hS.2.2 dX4_isHouse_17
  · skip
    refine lv_iload_n hx hb dX4_isHouse_4 rfl (lv_at hl 1 rfl) ?_
    refine lv_aload_n hx hb dX4_isHouse_5 rfl (lv_at hl 0 rfl) ?_
    have s2 := Wf.m3 hWf
    refine va_get (D := D) (ci := 4) (v := .int (iI (g 0 0 3))) (C := RX4) (T := TX4) (N := 19) hx hb hw hin_wsX40 hown hK hP 0 pw_0 rfl 3 (by decide) (hw _ kw_74) (fun _ h9 => h9) rfl dX4_isHouse_6 ?_
    refine n_icmp_ge hx hb (by unfold RI; omega) (by unfold RI; omega) (tgt := 16) dX4_isHouse_9 (by decide) (fun h3 => ?_) (fun h3 => ?_)
    · skip
      refine lv_iconst (v := iI 0) hx hb dX4_isHouse_16 (by decide) ?_
      exact W.zret (v := (iI 0)) (ty := .boolean) hx hb hr (by decide +kernel) (fun t ht hW9 => ⟨⟨(iI 0), (), rfl, (show iI 0 = bi (decide (0 ≤ kk ∧ kk < g 0 0 3)) from by rw [show (decide (0 ≤ kk ∧ kk < g 0 0 3)) = false from by first | exact decide_eq_true (by omega) | exact decide_eq_false (by omega)]; rfl), trivial⟩, hS.F ht⟩) hS.2.2 dX4_isHouse_17
    · skip
      refine lv_iconst (v := iI 1) hx hb dX4_isHouse_12 (by decide) ?_
      refine lv_goto (tgt := 17) hx hb dX4_isHouse_13 (by decide) ?_
      exact W.zret (v := (iI 1)) (ty := .boolean) hx hb hr (by decide +kernel) (fun t ht hW9 => ⟨⟨(iI 1), (), rfl, (show iI 1 = bi (decide (0 ≤ kk ∧ kk < g 0 0 3)) from by rw [show (decide (0 ≤ kk ∧ kk < g 0 0 3)) = true from by first | exact decide_eq_true (by omega) | exact decide_eq_false (by omega)]; rfl), trivial⟩, hS.F ht⟩) hS.2.2 dX4_isHouse_17
set_option maxHeartbeats 4000000 in
set_option maxRecDepth 100000 in
theorem c_isBook (l : Launch) (D : va_G) (a : Nat → Nat) (cH cB cJ cI : ClassId) (ha : pj a) (g : m_St) (vt : Nat → Int32) (sz : Nat) (kk : Int) (hWf : Wf g) (rk : -2147483648 ≤ kk ∧ kk ≤ 2147483647) : Met l yX4_isBook (wc yX4_isBook cX4_isBook 2 (some .boolean)) ({ frames := 0, cells := 0, slots := 0, locals := 0 }) (va_Pc [.ref (a 0), .int (iI kk)] (pS D a cH cB cJ cI sz g vt)) (va_Qi (fun (r : Int32) (_ : Unit) => r = bi (decide (0 ≤ kk ∧ kk < g 0 0 4))) (fun _ _ => True) (fun q => sz ≤ q)) 0 0 (fun q => sz ≤ q) := by
  refine Met.ofW (cc := cX4_isBook) (maxL := 2) (ret := (some .boolean)) (by decide +kernel) rfl ?_
  intro p e s m args below meth c s₁ B9 hml hv
  obtain ⟨rfl, hsz, hP, hK, hE⟩ := hv
  have hx := B9.exec
  have hb := B9.bytes
  have hr := B9.returns
  have hts := atoms_spec (ws := (wc yX4_isBook cX4_isBook 2 (some .boolean))) B9.pre
  have hw : ∀ w ∈ wsL_law0, w.before [.ref (a 0), .int (iI kk)].toArray s = true := fun w h => hts w (List.mem_cons_of_mem _ h)
  have hown : s.vm.findClass RX4 = some m.cls := findClass_of_methodNamed B9.named
  subst hsz
  have hS : va_S (fun q => s.heap.size ≤ q) s.heap s.heap [] := va_S.rf
  have hA : ∀ q : Nat, s.heap.size ≤ q → (fun q : Nat => s.heap.size ≤ q) q := fun _ h => h
  have hl := lv_entry ([.ref (a 0), .int (iI kk)]) (n := 2) (Nat.le_of_ble_eq_true rfl)
  rw [lg_entry_eq]
  generalize (lg_sl ([.ref (a 0), .int (iI kk)]) ++ List.replicate (2 - (lg_sl ([.ref (a 0), .int (iI kk)])).length) Slot.unset).toArray = ls at hl ⊢
  have hl : lv_has ls 2 [(0, .ref (a 0)), (1, .int (iI kk))] := hl
  suffices h9 : ∀ (H : Heap) (locs : List Loc), va_P D vwCl (pw a cH cB cJ cI g vt) H → va_S (fun q => s.heap.size ≤ q) s.heap H locs → W p l e (headSpec (wc yX4_isBook cX4_isBook 2 (some .boolean)) ({ frames := 0, cells := 0, slots := 0, locals := 0 })).room s m [.ref (a 0), .int (iI kk)].toArray below meth c H locs 0 0 (MQ below (va_Qi (fun (r : Int32) (_ : Unit) => r = bi (decide (0 ≤ kk ∧ kk < g 0 0 4))) (fun _ _ => True) (fun q => s.heap.size ≤ q)) [.ref (a 0), .int (iI kk)].toArray s 0 0 (fun q => s.heap.size ≤ q)) (F0 m 0 ls []) from h9 s.heap [] hP hS
  clear hP hS
  intro H locs hP hS
  refine lv_iload_n hx hb dX4_isBook_0 rfl (lv_at hl 1 rfl) ?_
  refine n_if_lt hx hb (by unfold RI; omega) (tgt := 16) dX4_isBook_1 (by decide) (fun h1 => ?_) (fun h1 => ?_)
  · skip
    refine lv_iconst (v := iI 0) hx hb dX4_isBook_16 (by decide) ?_
    exact W.zret (v := (iI 0)) (ty := .boolean) hx hb hr (by decide +kernel) (fun t ht hW9 => ⟨⟨(iI 0), (), rfl, (show iI 0 = bi (decide (0 ≤ kk ∧ kk < g 0 0 4)) from by rw [show (decide (0 ≤ kk ∧ kk < g 0 0 4)) = false from by first | exact decide_eq_true (by omega) | exact decide_eq_false (by omega)]; rfl), trivial⟩, hS.F ht⟩) hS.2.2 dX4_isBook_17
  · skip
    refine lv_iload_n hx hb dX4_isBook_4 rfl (lv_at hl 1 rfl) ?_
    refine lv_aload_n hx hb dX4_isBook_5 rfl (lv_at hl 0 rfl) ?_
    have s2 := Wf.m4 hWf
    refine va_get (D := D) (ci := 4) (v := .int (iI (g 0 0 4))) (C := RX4) (T := TX4) (N := 19) hx hb hw hin_wsX40 hown hK hP 0 pw_0 rfl 4 (by decide) (hw _ kw_98) (fun _ h9 => h9) rfl dX4_isBook_6 ?_
    refine n_icmp_ge hx hb (by unfold RI; omega) (by unfold RI; omega) (tgt := 16) dX4_isBook_9 (by decide) (fun h3 => ?_) (fun h3 => ?_)
    · skip
      refine lv_iconst (v := iI 0) hx hb dX4_isBook_16 (by decide) ?_
      exact W.zret (v := (iI 0)) (ty := .boolean) hx hb hr (by decide +kernel) (fun t ht hW9 => ⟨⟨(iI 0), (), rfl, (show iI 0 = bi (decide (0 ≤ kk ∧ kk < g 0 0 4)) from by rw [show (decide (0 ≤ kk ∧ kk < g 0 0 4)) = false from by first | exact decide_eq_true (by omega) | exact decide_eq_false (by omega)]; rfl), trivial⟩, hS.F ht⟩) hS.2.2 dX4_isBook_17
    · skip
      refine lv_iconst (v := iI 1) hx hb dX4_isBook_12 (by decide) ?_
      refine lv_goto (tgt := 17) hx hb dX4_isBook_13 (by decide) ?_
      exact W.zret (v := (iI 1)) (ty := .boolean) hx hb hr (by decide +kernel) (fun t ht hW9 => ⟨⟨(iI 1), (), rfl, (show iI 1 = bi (decide (0 ≤ kk ∧ kk < g 0 0 4)) from by rw [show (decide (0 ≤ kk ∧ kk < g 0 0 4)) = true from by first | exact decide_eq_true (by omega) | exact decide_eq_false (by omega)]; rfl), trivial⟩, hS.F ht⟩) hS.2.2 dX4_isBook_17
set_option maxHeartbeats 4000000 in
set_option maxRecDepth 100000 in
theorem c_isJudge (l : Launch) (D : va_G) (a : Nat → Nat) (cH cB cJ cI : ClassId) (ha : pj a) (g : m_St) (vt : Nat → Int32) (sz : Nat) (kk : Int) (hWf : Wf g) (rk : -2147483648 ≤ kk ∧ kk ≤ 2147483647) : Met l yX4_isJudge (wc yX4_isJudge cX4_isJudge 2 (some .boolean)) ({ frames := 0, cells := 0, slots := 0, locals := 0 }) (va_Pc [.ref (a 0), .int (iI kk)] (pS D a cH cB cJ cI sz g vt)) (va_Qi (fun (r : Int32) (_ : Unit) => r = bi (decide (0 ≤ kk ∧ kk < g 0 0 5))) (fun _ _ => True) (fun q => sz ≤ q)) 0 0 (fun q => sz ≤ q) := by
  refine Met.ofW (cc := cX4_isJudge) (maxL := 2) (ret := (some .boolean)) (by decide +kernel) rfl ?_
  intro p e s m args below meth c s₁ B9 hml hv
  obtain ⟨rfl, hsz, hP, hK, hE⟩ := hv
  have hx := B9.exec
  have hb := B9.bytes
  have hr := B9.returns
  have hts := atoms_spec (ws := (wc yX4_isJudge cX4_isJudge 2 (some .boolean))) B9.pre
  have hw : ∀ w ∈ wsL_law0, w.before [.ref (a 0), .int (iI kk)].toArray s = true := fun w h => hts w (List.mem_cons_of_mem _ h)
  have hown : s.vm.findClass RX4 = some m.cls := findClass_of_methodNamed B9.named
  subst hsz
  have hS : va_S (fun q => s.heap.size ≤ q) s.heap s.heap [] := va_S.rf
  have hA : ∀ q : Nat, s.heap.size ≤ q → (fun q : Nat => s.heap.size ≤ q) q := fun _ h => h
  have hl := lv_entry ([.ref (a 0), .int (iI kk)]) (n := 2) (Nat.le_of_ble_eq_true rfl)
  rw [lg_entry_eq]
  generalize (lg_sl ([.ref (a 0), .int (iI kk)]) ++ List.replicate (2 - (lg_sl ([.ref (a 0), .int (iI kk)])).length) Slot.unset).toArray = ls at hl ⊢
  have hl : lv_has ls 2 [(0, .ref (a 0)), (1, .int (iI kk))] := hl
  suffices h9 : ∀ (H : Heap) (locs : List Loc), va_P D vwCl (pw a cH cB cJ cI g vt) H → va_S (fun q => s.heap.size ≤ q) s.heap H locs → W p l e (headSpec (wc yX4_isJudge cX4_isJudge 2 (some .boolean)) ({ frames := 0, cells := 0, slots := 0, locals := 0 })).room s m [.ref (a 0), .int (iI kk)].toArray below meth c H locs 0 0 (MQ below (va_Qi (fun (r : Int32) (_ : Unit) => r = bi (decide (0 ≤ kk ∧ kk < g 0 0 5))) (fun _ _ => True) (fun q => s.heap.size ≤ q)) [.ref (a 0), .int (iI kk)].toArray s 0 0 (fun q => s.heap.size ≤ q)) (F0 m 0 ls []) from h9 s.heap [] hP hS
  clear hP hS
  intro H locs hP hS
  refine lv_iload_n hx hb dX4_isJudge_0 rfl (lv_at hl 1 rfl) ?_
  refine n_if_lt hx hb (by unfold RI; omega) (tgt := 16) dX4_isJudge_1 (by decide) (fun h1 => ?_) (fun h1 => ?_)
  · skip
    refine lv_iconst (v := iI 0) hx hb dX4_isJudge_16 (by decide) ?_
    exact W.zret (v := (iI 0)) (ty := .boolean) hx hb hr (by decide +kernel) (fun t ht hW9 => ⟨⟨(iI 0), (), rfl, (show iI 0 = bi (decide (0 ≤ kk ∧ kk < g 0 0 5)) from by rw [show (decide (0 ≤ kk ∧ kk < g 0 0 5)) = false from by first | exact decide_eq_true (by omega) | exact decide_eq_false (by omega)]; rfl), trivial⟩, hS.F ht⟩) hS.2.2 dX4_isJudge_17
  · skip
    refine lv_iload_n hx hb dX4_isJudge_4 rfl (lv_at hl 1 rfl) ?_
    refine lv_aload_n hx hb dX4_isJudge_5 rfl (lv_at hl 0 rfl) ?_
    have s2 := Wf.m5 hWf
    refine va_get (D := D) (ci := 4) (v := .int (iI (g 0 0 5))) (C := RX4) (T := TX4) (N := 19) hx hb hw hin_wsX40 hown hK hP 0 pw_0 rfl 5 (by decide) (hw _ kw_81) (fun _ h9 => h9) rfl dX4_isJudge_6 ?_
    refine n_icmp_ge hx hb (by unfold RI; omega) (by unfold RI; omega) (tgt := 16) dX4_isJudge_9 (by decide) (fun h3 => ?_) (fun h3 => ?_)
    · skip
      refine lv_iconst (v := iI 0) hx hb dX4_isJudge_16 (by decide) ?_
      exact W.zret (v := (iI 0)) (ty := .boolean) hx hb hr (by decide +kernel) (fun t ht hW9 => ⟨⟨(iI 0), (), rfl, (show iI 0 = bi (decide (0 ≤ kk ∧ kk < g 0 0 5)) from by rw [show (decide (0 ≤ kk ∧ kk < g 0 0 5)) = false from by first | exact decide_eq_true (by omega) | exact decide_eq_false (by omega)]; rfl), trivial⟩, hS.F ht⟩) hS.2.2 dX4_isJudge_17
    · skip
      refine lv_iconst (v := iI 1) hx hb dX4_isJudge_12 (by decide) ?_
      refine lv_goto (tgt := 17) hx hb dX4_isJudge_13 (by decide) ?_
      exact W.zret (v := (iI 1)) (ty := .boolean) hx hb hr (by decide +kernel) (fun t ht hW9 => ⟨⟨(iI 1), (), rfl, (show iI 1 = bi (decide (0 ≤ kk ∧ kk < g 0 0 5)) from by rw [show (decide (0 ≤ kk ∧ kk < g 0 0 5)) = true from by first | exact decide_eq_true (by omega) | exact decide_eq_false (by omega)]; rfl), trivial⟩, hS.F ht⟩) hS.2.2 dX4_isJudge_17
set_option maxHeartbeats 4000000 in
set_option maxRecDepth 100000 in
theorem c_bit (l : Launch) (D : va_G) (a : Nat → Nat) (cH cB cJ cI : ClassId) (ha : pj a) (g : m_St) (vt : Nat → Int32) (sz : Nat) (kk : Int) (k0 : 0 ≤ kk ∧ kk < 31) : Met l yX4_bit (wc yX4_bit cX4_bit 1 (some .int)) ({ frames := 0, cells := 0, slots := 0, locals := 0 }) (va_Pc [.int (iI kk)] (pS D a cH cB cJ cI sz g vt)) (va_Qi (fun (r : Int32) (_ : Unit) => r = iI (m_bt kk)) (fun _ _ => True) (fun q => sz ≤ q)) 0 0 (fun q => sz ≤ q) := by
  refine Met.ofW (cc := cX4_bit) (maxL := 1) (ret := (some .int)) (by decide +kernel) rfl ?_
  intro p e s m args below meth c s₁ B9 hml hv
  obtain ⟨rfl, hsz, hP, hK, hE⟩ := hv
  have hx := B9.exec
  have hb := B9.bytes
  have hr := B9.returns
  have hts := atoms_spec (ws := (wc yX4_bit cX4_bit 1 (some .int))) B9.pre
  have hw : ∀ w ∈ wsL_law0, w.before [.int (iI kk)].toArray s = true := fun w h => hts w (List.mem_cons_of_mem _ h)
  have hown : s.vm.findClass RX4 = some m.cls := findClass_of_methodNamed B9.named
  subst hsz
  have hS : va_S (fun q => s.heap.size ≤ q) s.heap s.heap [] := va_S.rf
  have hA : ∀ q : Nat, s.heap.size ≤ q → (fun q : Nat => s.heap.size ≤ q) q := fun _ h => h
  have hl := lv_entry ([.int (iI kk)]) (n := 1) (Nat.le_of_ble_eq_true rfl)
  rw [lg_entry_eq]
  generalize (lg_sl ([.int (iI kk)]) ++ List.replicate (1 - (lg_sl ([.int (iI kk)])).length) Slot.unset).toArray = ls at hl ⊢
  have hl : lv_has ls 1 [(0, .int (iI kk))] := hl
  suffices h9 : ∀ (H : Heap) (locs : List Loc), va_P D vwCl (pw a cH cB cJ cI g vt) H → va_S (fun q => s.heap.size ≤ q) s.heap H locs → W p l e (headSpec (wc yX4_bit cX4_bit 1 (some .int)) ({ frames := 0, cells := 0, slots := 0, locals := 0 })).room s m [.int (iI kk)].toArray below meth c H locs 0 0 (MQ below (va_Qi (fun (r : Int32) (_ : Unit) => r = iI (m_bt kk)) (fun _ _ => True) (fun q => s.heap.size ≤ q)) [.int (iI kk)].toArray s 0 0 (fun q => s.heap.size ≤ q)) (F0 m 0 ls []) from h9 s.heap [] hP hS
  clear hP hS
  intro H locs hP hS
  refine lv_iconst (v := iI 1) hx hb dX4_bit_0 (by decide) ?_
  refine lv_iload_n hx hb dX4_bit_1 rfl (lv_at hl 0 rfl) ?_
  refine n_shl1 hx hb (by omega) (by omega) dX4_bit_2 ?_
  have s1 := bt_nn kk
  exact W.iret (v := (iI (m_bt kk))) hx hb hr (fun t ht hW9 => ⟨⟨(iI (m_bt kk)), (), rfl, rfl, trivial⟩, hS.F ht⟩) hS.2.2 dX4_bit_3
set_option maxHeartbeats 4000000 in
set_option maxRecDepth 100000 in
theorem c_has (l : Launch) (D : va_G) (a : Nat → Nat) (cH cB cJ cI : ClassId) (ha : pj a) (g : m_St) (vt : Nat → Int32) (sz : Nat) (S : Int) (kk : Int) (hSS : 0 ≤ S ∧ S < 2147483648) (k0 : -1 ≤ kk ∧ kk < 31) : Met l yX4_has (wc yX4_has cX4_has 2 (some .boolean)) ({ frames := 0, cells := 0, slots := 0, locals := 0 }) (va_Pc [.int (iI S), .int (iI kk)] (pS D a cH cB cJ cI sz g vt)) (va_Qi (fun (r : Int32) (_ : Unit) => r = bi (m_has S kk)) (fun _ _ => True) (fun q => sz ≤ q)) 0 0 (fun q => sz ≤ q) := by
  refine Met.ofW (cc := cX4_has) (maxL := 2) (ret := (some .boolean)) (by decide +kernel) rfl ?_
  intro p e s m args below meth c s₁ B9 hml hv
  obtain ⟨rfl, hsz, hP, hK, hE⟩ := hv
  have hx := B9.exec
  have hb := B9.bytes
  have hr := B9.returns
  have hts := atoms_spec (ws := (wc yX4_has cX4_has 2 (some .boolean))) B9.pre
  have hw : ∀ w ∈ wsL_law0, w.before [.int (iI S), .int (iI kk)].toArray s = true := fun w h => hts w (List.mem_cons_of_mem _ h)
  have hown : s.vm.findClass RX4 = some m.cls := findClass_of_methodNamed B9.named
  subst hsz
  have hS : va_S (fun q => s.heap.size ≤ q) s.heap s.heap [] := va_S.rf
  have hA : ∀ q : Nat, s.heap.size ≤ q → (fun q : Nat => s.heap.size ≤ q) q := fun _ h => h
  have hl := lv_entry ([.int (iI S), .int (iI kk)]) (n := 2) (Nat.le_of_ble_eq_true rfl)
  rw [lg_entry_eq]
  generalize (lg_sl ([.int (iI S), .int (iI kk)]) ++ List.replicate (2 - (lg_sl ([.int (iI S), .int (iI kk)])).length) Slot.unset).toArray = ls at hl ⊢
  have hl : lv_has ls 2 [(0, .int (iI S)), (1, .int (iI kk))] := hl
  suffices h9 : ∀ (H : Heap) (locs : List Loc), va_P D vwCl (pw a cH cB cJ cI g vt) H → va_S (fun q => s.heap.size ≤ q) s.heap H locs → W p l e (headSpec (wc yX4_has cX4_has 2 (some .boolean)) ({ frames := 0, cells := 0, slots := 0, locals := 0 })).room s m [.int (iI S), .int (iI kk)].toArray below meth c H locs 0 0 (MQ below (va_Qi (fun (r : Int32) (_ : Unit) => r = bi (m_has S kk)) (fun _ _ => True) (fun q => s.heap.size ≤ q)) [.int (iI S), .int (iI kk)].toArray s 0 0 (fun q => s.heap.size ≤ q)) (F0 m 0 ls []) from h9 s.heap [] hP hS
  clear hP hS
  intro H locs hP hS
  refine lv_iload_n hx hb dX4_has_0 rfl (lv_at hl 0 rfl) ?_
  refine lv_iconst (v := iI 1) hx hb dX4_has_1 (by decide) ?_
  refine lv_iload_n hx hb dX4_has_2 rfl (lv_at hl 1 rfl) ?_
  rcases (show kk = -1 ∨ 0 ≤ kk from by omega) with hn1 | hn1
  · skip
    refine lv_ishl hx hb dX4_has_3 ?_
    refine lv_iand hx hb dX4_has_4 ?_
    rw [show iI S &&& (iI 1 <<< (iI kk &&& 31)) = iI 0 from by rw [hn1]; exact bt_m1 hSS]
    refine n_if_eq hx hb (by unfold RI; omega) (tgt := 12) dX4_has_5 (by decide) (fun h1 => ?_) (fun h1 => absurd h1 (by intro h1; omega))
    refine lv_iconst (v := iI 0) hx hb dX4_has_12 (by decide) ?_
    exact W.zret (v := (iI 0)) (ty := .boolean) hx hb hr (by decide +kernel) (fun t ht hW9 => ⟨⟨(iI 0), (), rfl, (show iI 0 = bi (m_has S kk) from by rw [show (m_has S kk) = false from by first | exact ba_f hn1 h1 | exact ba_t hn1 h1 | (rw [hn1]; exact has_n (by omega))]; rfl), trivial⟩, hS.F ht⟩) hS.2.2 dX4_has_13
  · skip
    refine n_shl1 hx hb (by omega) (by omega) dX4_has_3 ?_
    have s2 := bt_nn kk
    refine n_and hx hb (by omega) (by omega) dX4_has_4 ?_
    have s3 := ba_nn S (m_bt kk)
    have s4 := ba_le (S := S) (T := (m_bt kk)) (by omega)
    refine n_if_eq hx hb (by unfold RI; omega) (tgt := 12) dX4_has_5 (by decide) (fun h5 => ?_) (fun h5 => ?_)
    · skip
      refine lv_iconst (v := iI 0) hx hb dX4_has_12 (by decide) ?_
      exact W.zret (v := (iI 0)) (ty := .boolean) hx hb hr (by decide +kernel) (fun t ht hW9 => ⟨⟨(iI 0), (), rfl, (show iI 0 = bi (m_has S kk) from by rw [show (m_has S kk) = false from by first | exact ba_f hn1 h5 | exact ba_t hn1 h5 | (rw [hn1]; exact has_n (by omega))]; rfl), trivial⟩, hS.F ht⟩) hS.2.2 dX4_has_13
    · skip
      refine lv_iconst (v := iI 1) hx hb dX4_has_8 (by decide) ?_
      refine lv_goto (tgt := 13) hx hb dX4_has_9 (by decide) ?_
      exact W.zret (v := (iI 1)) (ty := .boolean) hx hb hr (by decide +kernel) (fun t ht hW9 => ⟨⟨(iI 1), (), rfl, (show iI 1 = bi (m_has S kk) from by rw [show (m_has S kk) = true from by first | exact ba_f hn1 h5 | exact ba_t hn1 h5 | (rw [hn1]; exact has_n (by omega))]; rfl), trivial⟩, hS.F ht⟩) hS.2.2 dX4_has_13
set_option maxHeartbeats 4000000 in
set_option maxRecDepth 100000 in
theorem c_isAgainst (l : Launch) (D : va_G) (a : Nat → Nat) (cH cB cJ cI : ClassId) (ha : pj a) (g : m_St) (vt : Nat → Int32) (sz : Nat) (jj : Int) (au : Int) (hWf : Wf g) (j0 : 0 ≤ jj ∧ jj < 5) (a0 : 0 ≤ au ∧ au ≤ 9) : Met l yX2_isAgainst (wc yX2_isAgainst cX2_isAgainst 2 (some .boolean)) ({ frames := 0, cells := 0, slots := 0, locals := 0 }) (va_Pc [.ref (a (28 + 6 * jj.toNat)), .int (iI au)] (pS D a cH cB cJ cI sz g vt)) (va_Qi (fun (r : Int32) (_ : Unit) => r = bi (m_agn g jj au)) (fun _ _ => True) (fun q => sz ≤ q)) 0 0 (fun q => sz ≤ q) := by
  refine Met.ofW (cc := cX2_isAgainst) (maxL := 2) (ret := (some .boolean)) (by decide +kernel) rfl ?_
  intro p e s m args below meth c s₁ B9 hml hv
  obtain ⟨rfl, hsz, hP, hK, hE⟩ := hv
  have hx := B9.exec
  have hb := B9.bytes
  have hr := B9.returns
  have hts := atoms_spec (ws := (wc yX2_isAgainst cX2_isAgainst 2 (some .boolean))) B9.pre
  have hw : ∀ w ∈ wsL_law0, w.before [.ref (a (28 + 6 * jj.toNat)), .int (iI au)].toArray s = true := fun w h => hts w (List.mem_cons_of_mem _ h)
  have hown : s.vm.findClass RX2 = some m.cls := findClass_of_methodNamed B9.named
  subst hsz
  have hS : va_S (fun q => s.heap.size ≤ q) s.heap s.heap [] := va_S.rf
  have hA : ∀ q : Nat, s.heap.size ≤ q → (fun q : Nat => s.heap.size ≤ q) q := fun _ h => h
  have hl := lv_entry ([.ref (a (28 + 6 * jj.toNat)), .int (iI au)]) (n := 2) (Nat.le_of_ble_eq_true rfl)
  rw [lg_entry_eq]
  generalize (lg_sl ([.ref (a (28 + 6 * jj.toNat)), .int (iI au)]) ++ List.replicate (2 - (lg_sl ([.ref (a (28 + 6 * jj.toNat)), .int (iI au)])).length) Slot.unset).toArray = ls at hl ⊢
  have hl : lv_has ls 2 [(0, .ref (a (28 + 6 * jj.toNat))), (1, .int (iI au))] := hl
  suffices h9 : ∀ (H : Heap) (locs : List Loc), va_P D vwCl (pw a cH cB cJ cI g vt) H → va_S (fun q => s.heap.size ≤ q) s.heap H locs → W p l e (headSpec (wc yX2_isAgainst cX2_isAgainst 2 (some .boolean)) ({ frames := 0, cells := 0, slots := 0, locals := 0 })).room s m [.ref (a (28 + 6 * jj.toNat)), .int (iI au)].toArray below meth c H locs 0 0 (MQ below (va_Qi (fun (r : Int32) (_ : Unit) => r = bi (m_agn g jj au)) (fun _ _ => True) (fun q => s.heap.size ≤ q)) [.ref (a (28 + 6 * jj.toNat)), .int (iI au)].toArray s 0 0 (fun q => s.heap.size ≤ q)) (F0 m 0 ls []) from h9 s.heap [] hP hS
  clear hP hS
  intro H locs hP hS
  refine lv_aload_n hx hb dX2_isAgainst_0 rfl (lv_at hl 0 rfl) ?_
  have s1 := Wf.j3 hWf (k := jj) (by omega) (by omega)
  refine va_get (D := D) (ci := 2) (v := .int (iI (g 3 jj 3))) (C := RX2) (T := TX2) (N := 16) hx hb hw hin_wsX20 hown hK hP (28 + 6 * jj.toNat) (pw_J (j := jj) (by omega) (by omega)) rfl 3 (by decide) (hw _ kw_242) (fun _ h9 => h9) rfl dX2_isAgainst_1 ?_
  refine lv_iconst (v := iI 1) hx hb dX2_isAgainst_4 (by decide) ?_
  refine lv_iload_n hx hb dX2_isAgainst_5 rfl (lv_at hl 1 rfl) ?_
  refine n_shl1 hx hb (by omega) (by omega) dX2_isAgainst_6 ?_
  have s2 := bt_nn au
  refine n_and hx hb (by omega) (by omega) dX2_isAgainst_7 ?_
  have s3 := ba_nn (g 3 jj 3) (m_bt au)
  have s4 := ba_le (S := g 3 jj 3) (T := (m_bt au)) (by omega)
  refine n_if_eq hx hb (by unfold RI; omega) (tgt := 15) dX2_isAgainst_8 (by decide) (fun h5 => ?_) (fun h5 => ?_)
  · skip
    refine lv_iconst (v := iI 0) hx hb dX2_isAgainst_15 (by decide) ?_
    exact W.zret (v := (iI 0)) (ty := .boolean) hx hb hr (by decide +kernel) (fun t ht hW9 => ⟨⟨(iI 0), (), rfl, (show iI 0 = bi (m_agn g jj au) from by rw [show (m_agn g jj au) = false from by first | exact ba_f (by omega) h5 | exact ba_t (by omega) h5]; rfl), trivial⟩, hS.F ht⟩) hS.2.2 dX2_isAgainst_16
  · skip
    refine lv_iconst (v := iI 1) hx hb dX2_isAgainst_11 (by decide) ?_
    refine lv_goto (tgt := 16) hx hb dX2_isAgainst_12 (by decide) ?_
    exact W.zret (v := (iI 1)) (ty := .boolean) hx hb hr (by decide +kernel) (fun t ht hW9 => ⟨⟨(iI 1), (), rfl, (show iI 1 = bi (m_agn g jj au) from by rw [show (m_agn g jj au) = true from by first | exact ba_f (by omega) h5 | exact ba_t (by omega) h5]; rfl), trivial⟩, hS.F ht⟩) hS.2.2 dX2_isAgainst_16
set_option maxHeartbeats 4000000 in
set_option maxRecDepth 100000 in
theorem c_compare (l : Launch) (D : va_G) (a : Nat → Nat) (cH cB cJ cI : ClassId) (ha : pj a) (g : m_St) (vt : Nat → Int32) (sz : Nat) (xx : Int) (yy : Int) (r1 : -2147483648 ≤ xx ∧ xx ≤ 2147483647) (r2 : -2147483648 ≤ yy ∧ yy ≤ 2147483647) : Met l yJ6_compare_7cf53 (wc yJ6_compare_7cf53 cJ6_compare_7cf53 2 (some .int)) ({ frames := 0, cells := 0, slots := 0, locals := 0 }) (va_Pc [.int (iI xx), .int (iI yy)] (pS D a cH cB cJ cI sz g vt)) (va_Qi (fun (r : Int32) (_ : Unit) => r = iI (m_cmp xx yy)) (fun _ _ => True) (fun q => sz ≤ q)) 0 0 (fun q => sz ≤ q) := by
  refine Met.ofW (cc := cJ6_compare_7cf53) (maxL := 2) (ret := (some .int)) (by decide +kernel) rfl ?_
  intro p e s m args below meth c s₁ B9 hml hv
  obtain ⟨rfl, hsz, hP, hK, hE⟩ := hv
  have hx := B9.exec
  have hb := B9.bytes
  have hr := B9.returns
  have hts := atoms_spec (ws := (wc yJ6_compare_7cf53 cJ6_compare_7cf53 2 (some .int))) B9.pre
  have hw : ∀ w ∈ wsL_law0, w.before [.int (iI xx), .int (iI yy)].toArray s = true := fun w h => hts w (List.mem_cons_of_mem _ h)
  have hown : s.vm.findClass RJ6 = some m.cls := findClass_of_methodNamed B9.named
  subst hsz
  have hS : va_S (fun q => s.heap.size ≤ q) s.heap s.heap [] := va_S.rf
  have hA : ∀ q : Nat, s.heap.size ≤ q → (fun q : Nat => s.heap.size ≤ q) q := fun _ h => h
  have hl := lv_entry ([.int (iI xx), .int (iI yy)]) (n := 2) (Nat.le_of_ble_eq_true rfl)
  rw [lg_entry_eq]
  generalize (lg_sl ([.int (iI xx), .int (iI yy)]) ++ List.replicate (2 - (lg_sl ([.int (iI xx), .int (iI yy)])).length) Slot.unset).toArray = ls at hl ⊢
  have hl : lv_has ls 2 [(0, .int (iI xx)), (1, .int (iI yy))] := hl
  suffices h9 : ∀ (H : Heap) (locs : List Loc), va_P D vwCl (pw a cH cB cJ cI g vt) H → va_S (fun q => s.heap.size ≤ q) s.heap H locs → W p l e (headSpec (wc yJ6_compare_7cf53 cJ6_compare_7cf53 2 (some .int)) ({ frames := 0, cells := 0, slots := 0, locals := 0 })).room s m [.int (iI xx), .int (iI yy)].toArray below meth c H locs 0 0 (MQ below (va_Qi (fun (r : Int32) (_ : Unit) => r = iI (m_cmp xx yy)) (fun _ _ => True) (fun q => s.heap.size ≤ q)) [.int (iI xx), .int (iI yy)].toArray s 0 0 (fun q => s.heap.size ≤ q)) (F0 m 0 ls []) from h9 s.heap [] hP hS
  clear hP hS
  intro H locs hP hS
  refine lv_iload_n hx hb dJ6_compare_7cf53_0 rfl (lv_at hl 0 rfl) ?_
  refine lv_iload_n hx hb dJ6_compare_7cf53_1 rfl (lv_at hl 1 rfl) ?_
  refine n_icmp_ge hx hb (by unfold RI; omega) (by unfold RI; omega) (tgt := 9) dJ6_compare_7cf53_2 (by decide) (fun h1 => ?_) (fun h1 => ?_)
  · skip
    refine lv_iload_n hx hb dJ6_compare_7cf53_9 rfl (lv_at hl 0 rfl) ?_
    refine lv_iload_n hx hb dJ6_compare_7cf53_10 rfl (lv_at hl 1 rfl) ?_
    refine n_icmp_ne hx hb (by unfold RI; omega) (by unfold RI; omega) (tgt := 18) dJ6_compare_7cf53_11 (by decide) (fun h2 => ?_) (fun h2 => ?_)
    · skip
      refine lv_iconst (v := iI 1) hx hb dJ6_compare_7cf53_18 (by decide) ?_
      exact W.iret (v := (iI 1)) hx hb hr (fun t ht hW9 => ⟨⟨(iI 1), (), rfl, (congrArg iI (by unfold m_cmp; (repeat' split) <;> omega)), trivial⟩, hS.F ht⟩) hS.2.2 dJ6_compare_7cf53_19
    · skip
      refine lv_iconst (v := iI 0) hx hb dJ6_compare_7cf53_14 (by decide) ?_
      refine lv_goto (tgt := 19) hx hb dJ6_compare_7cf53_15 (by decide) ?_
      exact W.iret (v := (iI 0)) hx hb hr (fun t ht hW9 => ⟨⟨(iI 0), (), rfl, (congrArg iI (by unfold m_cmp; (repeat' split) <;> omega)), trivial⟩, hS.F ht⟩) hS.2.2 dJ6_compare_7cf53_19
  · skip
    refine lv_iconst (v := iI (-1)) hx hb dJ6_compare_7cf53_5 (by decide) ?_
    refine lv_goto (tgt := 19) hx hb dJ6_compare_7cf53_6 (by decide) ?_
    exact W.iret (v := (iI (-1))) hx hb hr (fun t ht hW9 => ⟨⟨(iI (-1)), (), rfl, (congrArg iI (by unfold m_cmp; (repeat' split) <;> omega)), trivial⟩, hS.F ht⟩) hS.2.2 dJ6_compare_7cf53_19
end
section
set_option maxHeartbeats 4000000 in
set_option maxRecDepth 100000 in
theorem c_countOfHouse (l : Launch) (D : va_G) (a : Nat → Nat) (cH cB cJ cI : ClassId) (ha : pj a) (g : m_St) (vt : Nat → Int32) (sz : Nat) (hh : Int) (S : Int) (hWf : Wf g) (rh : -2147483648 ≤ hh ∧ hh ≤ 2147483647) (hSS : 0 ≤ S ∧ S < 65536) : Met l yX4_countOfHouse (wc yX4_countOfHouse cX4_countOfHouse 5 (some .int)) ({ frames := 1, cells := 0, slots := 0, locals := 21 }) (va_Pc [.ref (a 0), .int (iI hh), .int (iI S)] (pS D a cH cB cJ cI sz g vt)) (va_Qi (fun (r : Int32) (_ : Unit) => r = iI (m_coh g hh S)) (fun _ _ => True) (fun q => sz ≤ q)) 0 0 (fun q => sz ≤ q) := by
  refine Met.ofW (cc := cX4_countOfHouse) (maxL := 5) (ret := (some .int)) (by decide +kernel) rfl ?_
  intro p e s m args below meth c s₁ B9 hml hv
  obtain ⟨rfl, hsz, hP, hK, hE⟩ := hv
  have hx := B9.exec
  have hb := B9.bytes
  have hr := B9.returns
  have hts := atoms_spec (ws := (wc yX4_countOfHouse cX4_countOfHouse 5 (some .int))) B9.pre
  have hw : ∀ w ∈ wsL_law0, w.before [.ref (a 0), .int (iI hh), .int (iI S)].toArray s = true := fun w h => hts w (List.mem_cons_of_mem _ h)
  have hown : s.vm.findClass RX4 = some m.cls := findClass_of_methodNamed B9.named
  subst hsz
  have hS : va_S (fun q => s.heap.size ≤ q) s.heap s.heap [] := va_S.rf
  have hA : ∀ q : Nat, s.heap.size ≤ q → (fun q : Nat => s.heap.size ≤ q) q := fun _ h => h
  have hl := lv_entry ([.ref (a 0), .int (iI hh), .int (iI S)]) (n := 5) (Nat.le_of_ble_eq_true rfl)
  rw [lg_entry_eq]
  generalize (lg_sl ([.ref (a 0), .int (iI hh), .int (iI S)]) ++ List.replicate (5 - (lg_sl ([.ref (a 0), .int (iI hh), .int (iI S)])).length) Slot.unset).toArray = ls at hl ⊢
  have hl : lv_has ls 5 [(0, .ref (a 0)), (1, .int (iI hh)), (2, .int (iI S))] := hl
  suffices h9 : ∀ (H : Heap) (locs : List Loc), va_P D vwCl (pw a cH cB cJ cI g vt) H → va_S (fun q => s.heap.size ≤ q) s.heap H locs → W p l e (headSpec (wc yX4_countOfHouse cX4_countOfHouse 5 (some .int)) ({ frames := 1, cells := 0, slots := 0, locals := 21 })).room s m [.ref (a 0), .int (iI hh), .int (iI S)].toArray below meth c H locs 0 0 (MQ below (va_Qi (fun (r : Int32) (_ : Unit) => r = iI (m_coh g hh S)) (fun _ _ => True) (fun q => s.heap.size ≤ q)) [.ref (a 0), .int (iI hh), .int (iI S)].toArray s 0 0 (fun q => s.heap.size ≤ q)) (F0 m 0 ls []) from h9 s.heap [] hP hS
  clear hP hS
  intro H locs hP hS
  have m4 := Wf.m4 hWf
  refine lv_iconst (v := iI 0) hx hb dX4_countOfHouse_0 (by decide) ?_
  refine lv_istore_n (lv' := [(3, .int (iI 0)), (0, .ref (a 0)), (1, .int (iI hh)), (2, .int (iI S))]) hx hb dX4_countOfHouse_1 rfl hl (by decide) rfl (fun ls hl => ?_)
  refine lv_iconst (v := iI 0) hx hb dX4_countOfHouse_2 (by decide) ?_
  refine lv_istore (lv' := [(4, .int (iI 0)), (3, .int (iI 0)), (0, .ref (a 0)), (1, .int (iI hh)), (2, .int (iI S))]) hx hb dX4_countOfHouse_3 hl (by decide) rfl (fun ls hl => ?_)
  have loop5 : ∀ (d n : Nat) (H : Heap) (locs : List Loc) (ls : Array Slot), n + d = (g 0 0 4).toNat → va_P D vwCl (pw a cH cB cJ cI g vt) H → va_S (fun q => s.heap.size ≤ q) s.heap H locs → lv_has ls 5 [(4, .int (iI ((n : Nat) : Int))), (3, .int (iI (m_cnt (fun b => m_has S b && g 2 b 0 == hh) n))), (0, .ref (a 0)), (1, .int (iI hh)), (2, .int (iI S))] → W p l e (headSpec (wc yX4_countOfHouse cX4_countOfHouse 5 (some .int)) ({ frames := 1, cells := 0, slots := 0, locals := 21 })).room s m [.ref (a 0), .int (iI hh), .int (iI S)].toArray below meth c H locs 0 0 (MQ below (va_Qi (fun (r : Int32) (_ : Unit) => r = iI (m_coh g hh S)) (fun _ _ => True) (fun q => s.heap.size ≤ q)) [.ref (a 0), .int (iI hh), .int (iI S)].toArray s 0 0 (fun q => s.heap.size ≤ q)) (F0 m 5 ls []) := by
    intro d
    induction d with
    | zero =>
      intro n H locs ls hn hP hS hl
      obtain rfl : n = (g 0 0 4).toNat := by omega
      refine lv_iload hx hb dX4_countOfHouse_5 (lv_at hl 0 rfl) ?_
      refine lv_aload_n hx hb dX4_countOfHouse_7 rfl (lv_at hl 2 rfl) ?_
      have s1 := Wf.m4 hWf
      refine va_get (D := D) (ci := 4) (v := .int (iI (g 0 0 4))) (C := RX4) (T := TX4) (N := 19) hx hb hw hin_wsX40 hown hK hP 0 pw_0 rfl 4 (by decide) (hw _ kw_98) (fun _ h9 => h9) rfl dX4_countOfHouse_8 ?_
      refine n_icmp_ge hx hb (by unfold RI; omega) (by unfold RI; omega) (tgt := 46) dX4_countOfHouse_11 (by decide) (fun h2 => ?_) (fun h2 => absurd h2 (by intro h2; omega))
      refine lv_iload_n hx hb dX4_countOfHouse_46 rfl (lv_at hl 1 rfl) ?_
      exact W.iret (v := (iI (m_cnt (fun b => m_has S b && g 2 b 0 == hh) ((g 0 0 4).toNat)))) hx hb hr (fun t ht hW9 => ⟨⟨(iI (m_cnt (fun b => m_has S b && g 2 b 0 == hh) ((g 0 0 4).toNat))), (), rfl, (congrArg iI (by rfl)), trivial⟩, hS.F ht⟩) hS.2.2 dX4_countOfHouse_47
    | succ d ih5 =>
      intro n H locs ls hn hP hS hl
      refine lv_iload hx hb dX4_countOfHouse_5 (lv_at hl 0 rfl) ?_
      refine lv_aload_n hx hb dX4_countOfHouse_7 rfl (lv_at hl 2 rfl) ?_
      have s3 := Wf.m4 hWf
      refine va_get (D := D) (ci := 4) (v := .int (iI (g 0 0 4))) (C := RX4) (T := TX4) (N := 19) hx hb hw hin_wsX40 hown hK hP 0 pw_0 rfl 4 (by decide) (hw _ kw_98) (fun _ h9 => h9) rfl dX4_countOfHouse_8 ?_
      refine n_icmp_ge hx hb (by unfold RI; omega) (by unfold RI; omega) (tgt := 46) dX4_countOfHouse_11 (by decide) (fun h4 => absurd h4 (by intro h4; omega)) (fun h4 => ?_)
      refine lv_iload_n hx hb dX4_countOfHouse_14 rfl (lv_at hl 4 rfl) ?_
      refine lv_iload hx hb dX4_countOfHouse_15 (lv_at hl 0 rfl) ?_
      refine va_calli (va_runS (As := [.int (iI S), .int (iI ((n : Nat) : Int))]) (rest := []) ⟨hx, hb, hml, hown, hw⟩ (c_has l D a cH cB cJ cI ha g vt H.size S ((n : Nat) : Int) (by omega) (by omega)) (va_cwS 2 hw (gA_S kw_229 kw_223 kw_2 kw_224) rfl rfl rfl (by decide +kernel) ⟨Nat.le_of_ble_eq_true rfl, Nat.le_of_ble_eq_true rfl⟩) (pS_s hP hK hE) rfl rfl hl.1 rfl (lv_room (Nat.le_of_ble_eq_true rfl)) dX4_countOfHouse_17 ⟨Nat.le_of_ble_eq_true rfl, Nat.le_of_ble_eq_true rfl⟩) hS (fun q h1 h2 => ro_A h1 h2) (fun q h => ro_F hS hA q h) (fun r u t H1 locs ht hvm hw9 hB9 hz1 hk1 hS => ?_)
      have hw9 : r = (bi (m_has S ((n : Nat) : Int))) := hw9
      subst hw9
      have hP := ro_P hP hk1
      generalize H1 = H at hP hS ⊢
      refine n_b_eq hx hb (tgt := 40) dX4_countOfHouse_20 (by decide) (fun h5 => ?_) (fun h5 => ?_)
      · skip
        refine n_inc (lv' := [(4, .int (iI (((n : Nat) : Int) + 1))), (3, .int (iI (m_cnt (fun b => m_has S b && g 2 b 0 == hh) n))), (0, .ref (a 0)), (1, .int (iI hh)), (2, .int (iI S))]) hx hb dX4_countOfHouse_40 hl (k := 0) rfl (by decide) rfl (fun ls hl => ?_)
        refine lv_goto (tgt := 5) hx hb dX4_countOfHouse_43 (by decide) ?_
        have hl : lv_has ls 5 [(4, .int (iI (((n : Nat) : Int) + 1))), (3, .int (iI (m_cnt (fun b => m_has S b && g 2 b 0 == hh) n))), (0, .ref (a 0)), (1, .int (iI hh)), (2, .int (iI S))] := lv_sub hl [0, 1, 2, 3, 4] rfl
        have e6 : (((n : Nat) : Int) + 1) = (((n + 1) : Nat) : Int) := by rfl
        have e7 : (m_cnt (fun b => m_has S b && g 2 b 0 == hh) n) = (m_cnt (fun b => m_has S b && g 2 b 0 == hh) (n + 1)) := by exact (cnt_f (q := (fun b => m_has S b && g 2 b 0 == hh)) (n := n) (by simp [h4, h5])).symm
        have hl : lv_has ls 5 [(4, .int (iI (((n + 1) : Nat) : Int))), (3, .int (iI (m_cnt (fun b => m_has S b && g 2 b 0 == hh) (n + 1)))), (0, .ref (a 0)), (1, .int (iI hh)), (2, .int (iI S))] := lv_cast hl (by rw [e6, e7])
        exact ih5 (n + 1) H locs ls (by omega) hP hS hl
      · skip
        refine lv_aload_n hx hb dX4_countOfHouse_23 rfl (lv_at hl 2 rfl) ?_
        refine va_get (D := D) (ci := 4) (v := .ref (a 2)) (C := RX4) (T := TX4) (N := 19) hx hb hw hin_wsX40 hown hK hP 0 pw_0 rfl 1 (by decide) (hw _ kw_17) (fun _ h9 => h9) rfl dX4_countOfHouse_24 ?_
        refine lv_iload hx hb dX4_countOfHouse_27 (lv_at hl 0 rfl) ?_
        refine p_aldB hx hb hK hP (k := ((n : Nat) : Int)) (by omega) (by omega) dX4_countOfHouse_29 ?_
        have s8 := Wf.b0 hWf (k := ((n : Nat) : Int)) (by omega) (by omega)
        refine va_get (D := D) (ci := 0) (v := .int (iI (g 2 ((n : Nat) : Int) 0))) (C := RX0) (T := TX0) (N := 11) hx hb hw hin_wsX00 hown hK hP (12 + ((n : Nat) : Int).toNat) (pw_B (b := ((n : Nat) : Int)) (by omega) (by omega)) rfl 0 (by decide) (hw _ kw_210) (fun _ h9 => h9) rfl dX4_countOfHouse_30 ?_
        refine lv_iload_n hx hb dX4_countOfHouse_33 rfl (lv_at hl 3 rfl) ?_
        refine n_icmp_ne hx hb (by unfold RI; omega) (by unfold RI; omega) (tgt := 40) dX4_countOfHouse_34 (by decide) (fun h9 => ?_) (fun h9 => ?_)
        · skip
          refine n_inc (lv' := [(4, .int (iI (((n : Nat) : Int) + 1))), (3, .int (iI (m_cnt (fun b => m_has S b && g 2 b 0 == hh) n))), (0, .ref (a 0)), (1, .int (iI hh)), (2, .int (iI S))]) hx hb dX4_countOfHouse_40 hl (k := 0) rfl (by decide) rfl (fun ls hl => ?_)
          refine lv_goto (tgt := 5) hx hb dX4_countOfHouse_43 (by decide) ?_
          have hl : lv_has ls 5 [(4, .int (iI (((n : Nat) : Int) + 1))), (3, .int (iI (m_cnt (fun b => m_has S b && g 2 b 0 == hh) n))), (0, .ref (a 0)), (1, .int (iI hh)), (2, .int (iI S))] := lv_sub hl [0, 1, 2, 3, 4] rfl
          have e10 : (((n : Nat) : Int) + 1) = (((n + 1) : Nat) : Int) := by rfl
          have e11 : (m_cnt (fun b => m_has S b && g 2 b 0 == hh) n) = (m_cnt (fun b => m_has S b && g 2 b 0 == hh) (n + 1)) := by exact (cnt_f (q := (fun b => m_has S b && g 2 b 0 == hh)) (n := n) (by simp [h4, h5, h9])).symm
          have hl : lv_has ls 5 [(4, .int (iI (((n + 1) : Nat) : Int))), (3, .int (iI (m_cnt (fun b => m_has S b && g 2 b 0 == hh) (n + 1)))), (0, .ref (a 0)), (1, .int (iI hh)), (2, .int (iI S))] := lv_cast hl (by rw [e10, e11])
          exact ih5 (n + 1) H locs ls (by omega) hP hS hl
        · skip
          refine n_inc (lv' := [(3, .int (iI ((m_cnt (fun b => m_has S b && g 2 b 0 == hh) n) + 1))), (4, .int (iI ((n : Nat) : Int))), (0, .ref (a 0)), (1, .int (iI hh)), (2, .int (iI S))]) hx hb dX4_countOfHouse_37 hl (k := 1) rfl (by decide) rfl (fun ls hl => ?_)
          refine n_inc (lv' := [(4, .int (iI (((n : Nat) : Int) + 1))), (3, .int (iI ((m_cnt (fun b => m_has S b && g 2 b 0 == hh) n) + 1))), (0, .ref (a 0)), (1, .int (iI hh)), (2, .int (iI S))]) hx hb dX4_countOfHouse_40 hl (k := 1) rfl (by decide) rfl (fun ls hl => ?_)
          refine lv_goto (tgt := 5) hx hb dX4_countOfHouse_43 (by decide) ?_
          have hl : lv_has ls 5 [(4, .int (iI (((n : Nat) : Int) + 1))), (3, .int (iI ((m_cnt (fun b => m_has S b && g 2 b 0 == hh) n) + 1))), (0, .ref (a 0)), (1, .int (iI hh)), (2, .int (iI S))] := lv_sub hl [0, 1, 2, 3, 4] rfl
          have e12 : (((n : Nat) : Int) + 1) = (((n + 1) : Nat) : Int) := by rfl
          have e13 : ((m_cnt (fun b => m_has S b && g 2 b 0 == hh) n) + 1) = (m_cnt (fun b => m_has S b && g 2 b 0 == hh) (n + 1)) := by exact (cnt_t (q := (fun b => m_has S b && g 2 b 0 == hh)) (n := n) (by simp [h4, h5, h9])).symm
          have hl : lv_has ls 5 [(4, .int (iI (((n + 1) : Nat) : Int))), (3, .int (iI (m_cnt (fun b => m_has S b && g 2 b 0 == hh) (n + 1)))), (0, .ref (a 0)), (1, .int (iI hh)), (2, .int (iI S))] := lv_cast hl (by rw [e12, e13])
          exact ih5 (n + 1) H locs ls (by omega) hP hS hl
  have hl : lv_has ls 5 [(4, .int (iI 0)), (3, .int (iI 0)), (0, .ref (a 0)), (1, .int (iI hh)), (2, .int (iI S))] := lv_sub hl [0, 1, 2, 3, 4] rfl
  have hl : lv_has ls 5 [(4, .int (iI ((0 : Nat) : Int))), (3, .int (iI (m_cnt (fun b => m_has S b && g 2 b 0 == hh) 0))), (0, .ref (a 0)), (1, .int (iI hh)), (2, .int (iI S))] := hl
  exact loop5 ((g 0 0 4).toNat) 0 H locs ls (by omega) hP hS hl
set_option maxHeartbeats 4000000 in
set_option maxRecDepth 100000 in
theorem c_allBooks (l : Launch) (D : va_G) (a : Nat → Nat) (cH cB cJ cI : ClassId) (ha : pj a) (g : m_St) (vt : Nat → Int32) (sz : Nat) (hWf : Wf g) : Met l yX4_allBooks (wc yX4_allBooks cX4_allBooks 1 (some .int)) ({ frames := 1, cells := 0, slots := 0, locals := 20 }) (va_Pc [.ref (a 0)] (pS D a cH cB cJ cI sz g vt)) (va_Qi (fun (r : Int32) (_ : Unit) => r = iI (m_bt (g 0 0 4) - 1)) (fun _ _ => True) (fun q => sz ≤ q)) 0 0 (fun q => sz ≤ q) := by
  refine Met.ofW (cc := cX4_allBooks) (maxL := 1) (ret := (some .int)) (by decide +kernel) rfl ?_
  intro p e s m args below meth c s₁ B9 hml hv
  obtain ⟨rfl, hsz, hP, hK, hE⟩ := hv
  have hx := B9.exec
  have hb := B9.bytes
  have hr := B9.returns
  have hts := atoms_spec (ws := (wc yX4_allBooks cX4_allBooks 1 (some .int))) B9.pre
  have hw : ∀ w ∈ wsL_law0, w.before [.ref (a 0)].toArray s = true := fun w h => hts w (List.mem_cons_of_mem _ h)
  have hown : s.vm.findClass RX4 = some m.cls := findClass_of_methodNamed B9.named
  subst hsz
  have hS : va_S (fun q => s.heap.size ≤ q) s.heap s.heap [] := va_S.rf
  have hA : ∀ q : Nat, s.heap.size ≤ q → (fun q : Nat => s.heap.size ≤ q) q := fun _ h => h
  have hl := lv_entry ([.ref (a 0)]) (n := 1) (Nat.le_of_ble_eq_true rfl)
  rw [lg_entry_eq]
  generalize (lg_sl ([.ref (a 0)]) ++ List.replicate (1 - (lg_sl ([.ref (a 0)])).length) Slot.unset).toArray = ls at hl ⊢
  have hl : lv_has ls 1 [(0, .ref (a 0))] := hl
  suffices h9 : ∀ (H : Heap) (locs : List Loc), va_P D vwCl (pw a cH cB cJ cI g vt) H → va_S (fun q => s.heap.size ≤ q) s.heap H locs → W p l e (headSpec (wc yX4_allBooks cX4_allBooks 1 (some .int)) ({ frames := 1, cells := 0, slots := 0, locals := 20 })).room s m [.ref (a 0)].toArray below meth c H locs 0 0 (MQ below (va_Qi (fun (r : Int32) (_ : Unit) => r = iI (m_bt (g 0 0 4) - 1)) (fun _ _ => True) (fun q => s.heap.size ≤ q)) [.ref (a 0)].toArray s 0 0 (fun q => s.heap.size ≤ q)) (F0 m 0 ls []) from h9 s.heap [] hP hS
  clear hP hS
  intro H locs hP hS
  refine lv_aload_n hx hb dX4_allBooks_0 rfl (lv_at hl 0 rfl) ?_
  have s1 := Wf.m4 hWf
  refine va_get (D := D) (ci := 4) (v := .int (iI (g 0 0 4))) (C := RX4) (T := TX4) (N := 19) hx hb hw hin_wsX40 hown hK hP 0 pw_0 rfl 4 (by decide) (hw _ kw_98) (fun _ h9 => h9) rfl dX4_allBooks_1 ?_
  refine va_calli (va_runS (As := [.int (iI (g 0 0 4))]) (rest := []) ⟨hx, hb, hml, hown, hw⟩ (c_bit l D a cH cB cJ cI ha g vt H.size (g 0 0 4) (by omega)) (va_cwS 1 hw (gA_S kw_171 kw_172 kw_2 kw_173) rfl rfl rfl (by decide +kernel) ⟨Nat.le_of_ble_eq_true rfl, Nat.le_of_ble_eq_true rfl⟩) (pS_s hP hK hE) rfl rfl hl.1 rfl (lv_room (Nat.le_of_ble_eq_true rfl)) dX4_allBooks_4 ⟨Nat.le_of_ble_eq_true rfl, Nat.le_of_ble_eq_true rfl⟩) hS (fun q h1 h2 => ro_A h1 h2) (fun q h => ro_F hS hA q h) (fun r u t H1 locs ht hvm hw9 hB9 hz1 hk1 hS => ?_)
  have hw9 : r = (iI (m_bt (g 0 0 4))) := hw9
  subst hw9
  have hP := ro_P hP hk1
  generalize H1 = H at hP hS ⊢
  have s2 := bt_nn (g 0 0 4)
  have s3 := bt_lt (n := (g 0 0 4)) (by omega) (by omega)
  refine lv_iconst (v := iI 1) hx hb dX4_allBooks_7 (by decide) ?_
  refine n_sub hx hb dX4_allBooks_8 ?_
  exact W.iret (v := (iI ((m_bt (g 0 0 4)) - 1))) hx hb hr (fun t ht hW9 => ⟨⟨(iI ((m_bt (g 0 0 4)) - 1)), (), rfl, (congrArg iI (by rfl)), trivial⟩, hS.F ht⟩) hS.2.2 dX4_allBooks_9
set_option maxHeartbeats 4000000 in
set_option maxRecDepth 100000 in
theorem c_quotaOf (l : Launch) (D : va_G) (a : Nat → Nat) (cH cB cJ cI : ClassId) (ha : pj a) (g : m_St) (vt : Nat → Int32) (sz : Nat) (hh : Int) (hWf : Wf g) (rh : -2147483648 ≤ hh ∧ hh ≤ 2147483647) : Met l yX4_quotaOf (wc yX4_quotaOf cX4_quotaOf 2 (some .int)) ({ frames := 2, cells := 0, slots := 0, locals := 45 }) (va_Pc [.ref (a 0), .int (iI hh)] (pS D a cH cB cJ cI sz g vt)) (va_Qi (fun (r : Int32) (_ : Unit) => r = iI (m_quota g hh)) (fun _ _ => True) (fun q => sz ≤ q)) 0 0 (fun q => sz ≤ q) := by
  refine Met.ofW (cc := cX4_quotaOf) (maxL := 2) (ret := (some .int)) (by decide +kernel) rfl ?_
  intro p e s m args below meth c s₁ B9 hml hv
  obtain ⟨rfl, hsz, hP, hK, hE⟩ := hv
  have hx := B9.exec
  have hb := B9.bytes
  have hr := B9.returns
  have hts := atoms_spec (ws := (wc yX4_quotaOf cX4_quotaOf 2 (some .int))) B9.pre
  have hw : ∀ w ∈ wsL_law0, w.before [.ref (a 0), .int (iI hh)].toArray s = true := fun w h => hts w (List.mem_cons_of_mem _ h)
  have hown : s.vm.findClass RX4 = some m.cls := findClass_of_methodNamed B9.named
  subst hsz
  have hS : va_S (fun q => s.heap.size ≤ q) s.heap s.heap [] := va_S.rf
  have hA : ∀ q : Nat, s.heap.size ≤ q → (fun q : Nat => s.heap.size ≤ q) q := fun _ h => h
  have hl := lv_entry ([.ref (a 0), .int (iI hh)]) (n := 2) (Nat.le_of_ble_eq_true rfl)
  rw [lg_entry_eq]
  generalize (lg_sl ([.ref (a 0), .int (iI hh)]) ++ List.replicate (2 - (lg_sl ([.ref (a 0), .int (iI hh)])).length) Slot.unset).toArray = ls at hl ⊢
  have hl : lv_has ls 2 [(0, .ref (a 0)), (1, .int (iI hh))] := hl
  suffices h9 : ∀ (H : Heap) (locs : List Loc), va_P D vwCl (pw a cH cB cJ cI g vt) H → va_S (fun q => s.heap.size ≤ q) s.heap H locs → W p l e (headSpec (wc yX4_quotaOf cX4_quotaOf 2 (some .int)) ({ frames := 2, cells := 0, slots := 0, locals := 45 })).room s m [.ref (a 0), .int (iI hh)].toArray below meth c H locs 0 0 (MQ below (va_Qi (fun (r : Int32) (_ : Unit) => r = iI (m_quota g hh)) (fun _ _ => True) (fun q => s.heap.size ≤ q)) [.ref (a 0), .int (iI hh)].toArray s 0 0 (fun q => s.heap.size ≤ q)) (F0 m 0 ls []) from h9 s.heap [] hP hS
  clear hP hS
  intro H locs hP hS
  refine lv_iconst (v := iI 4) hx hb dX4_quotaOf_0 (by decide) ?_
  refine lv_iconst (v := iI 2) hx hb dX4_quotaOf_1 (by decide) ?_
  refine lv_aload_n hx hb dX4_quotaOf_2 rfl (lv_at hl 0 rfl) ?_
  refine lv_iload_n hx hb dX4_quotaOf_3 rfl (lv_at hl 1 rfl) ?_
  refine lv_aload_n hx hb dX4_quotaOf_4 rfl (lv_at hl 0 rfl) ?_
  have s1 := Wf.m12 hWf
  refine va_get (D := D) (ci := 4) (v := .int (iI (g 0 0 12))) (C := RX4) (T := TX4) (N := 19) hx hb hw hin_wsX40 hown hK hP 0 pw_0 rfl 12 (by decide) (hw _ kw_273) (fun _ h9 => h9) rfl dX4_quotaOf_5 ?_
  refine va_calli (va_runV (As := [.int (iI hh), .int (iI (g 0 0 12))]) (rest := [.int (iI 2), .int (iI 4)]) ⟨hx, hb, hml, hown, hw⟩ (c_countOfHouse l D a cH cB cJ cI ha g vt H.size hh (g 0 0 12) hWf (by omega) (by omega)) (cwV 2 hw (gA_V kw_277 kw_278 kw_279 kw_2 kw_280) rfl rfl rfl (by decide +kernel) ⟨Nat.le_of_ble_eq_true rfl, Nat.le_of_ble_eq_true rfl⟩) (pS_v (ci := 4) (q0 := 0) rfl pw_0 hP hK hE) rfl rfl hl.1 rfl (lv_room (Nat.le_of_ble_eq_true rfl)) dX4_quotaOf_8 ⟨Nat.le_of_ble_eq_true rfl, Nat.le_of_ble_eq_true rfl⟩) hS (fun q h1 h2 => ro_A h1 h2) (fun q h => ro_F hS hA q h) (fun r u t H1 locs ht hvm hw9 hB9 hz1 hk1 hS => ?_)
  have hw9 : r = (iI (m_coh g hh (g 0 0 12))) := hw9
  subst hw9
  have hP := ro_P hP hk1
  generalize H1 = H at hP hS ⊢
  have s2 := coh_16 hWf hh (g 0 0 12)
  refine n_add hx hb dX4_quotaOf_11 ?_
  refine va_mmin hx hb (hml.trans hl.1.symm) hown (hw _ kw_274) (hw _ kw_275) (hw _ kw_6) (hw _ kw_276) (Nat.le_of_ble_eq_true rfl) (Nat.le_of_ble_eq_true rfl) (Nat.le_of_ble_eq_true rfl) (Nat.le_of_ble_eq_true rfl) dX4_quotaOf_12 ?_
  rw [n_min (by unfold RI; omega) (by unfold RI; omega)]
  exact W.iret (v := (iI (min 4 (2 + (m_coh g hh (g 0 0 12)))))) hx hb hr (fun t ht hW9 => ⟨⟨(iI (min 4 (2 + (m_coh g hh (g 0 0 12))))), (), rfl, (congrArg iI (by rfl)), trivial⟩, hS.F ht⟩) hS.2.2 dX4_quotaOf_15
set_option maxHeartbeats 4000000 in
set_option maxRecDepth 100000 in
theorem c_isEntered (l : Launch) (D : va_G) (a : Nat → Nat) (cH cB cJ cI : ClassId) (ha : pj a) (g : m_St) (vt : Nat → Int32) (sz : Nat) (bb : Int) (hWf : Wf g) (hbb : 0 ≤ bb ∧ bb < 16) : Met l yX4_isEntered (wc yX4_isEntered cX4_isEntered 2 (some .boolean)) ({ frames := 0, cells := 0, slots := 0, locals := 0 }) (va_Pc [.ref (a 0), .int (iI bb)] (pS D a cH cB cJ cI sz g vt)) (va_Qi (fun (r : Int32) (_ : Unit) => r = bi (m_ent g bb)) (fun _ _ => True) (fun q => sz ≤ q)) 0 0 (fun q => sz ≤ q) := by
  refine Met.ofW (cc := cX4_isEntered) (maxL := 2) (ret := (some .boolean)) (by decide +kernel) rfl ?_
  intro p e s m args below meth c s₁ B9 hml hv
  obtain ⟨rfl, hsz, hP, hK, hE⟩ := hv
  have hx := B9.exec
  have hb := B9.bytes
  have hr := B9.returns
  have hts := atoms_spec (ws := (wc yX4_isEntered cX4_isEntered 2 (some .boolean))) B9.pre
  have hw : ∀ w ∈ wsL_law0, w.before [.ref (a 0), .int (iI bb)].toArray s = true := fun w h => hts w (List.mem_cons_of_mem _ h)
  have hown : s.vm.findClass RX4 = some m.cls := findClass_of_methodNamed B9.named
  subst hsz
  have hS : va_S (fun q => s.heap.size ≤ q) s.heap s.heap [] := va_S.rf
  have hA : ∀ q : Nat, s.heap.size ≤ q → (fun q : Nat => s.heap.size ≤ q) q := fun _ h => h
  have hl := lv_entry ([.ref (a 0), .int (iI bb)]) (n := 2) (Nat.le_of_ble_eq_true rfl)
  rw [lg_entry_eq]
  generalize (lg_sl ([.ref (a 0), .int (iI bb)]) ++ List.replicate (2 - (lg_sl ([.ref (a 0), .int (iI bb)])).length) Slot.unset).toArray = ls at hl ⊢
  have hl : lv_has ls 2 [(0, .ref (a 0)), (1, .int (iI bb))] := hl
  suffices h9 : ∀ (H : Heap) (locs : List Loc), va_P D vwCl (pw a cH cB cJ cI g vt) H → va_S (fun q => s.heap.size ≤ q) s.heap H locs → W p l e (headSpec (wc yX4_isEntered cX4_isEntered 2 (some .boolean)) ({ frames := 0, cells := 0, slots := 0, locals := 0 })).room s m [.ref (a 0), .int (iI bb)].toArray below meth c H locs 0 0 (MQ below (va_Qi (fun (r : Int32) (_ : Unit) => r = bi (m_ent g bb)) (fun _ _ => True) (fun q => s.heap.size ≤ q)) [.ref (a 0), .int (iI bb)].toArray s 0 0 (fun q => s.heap.size ≤ q)) (F0 m 0 ls []) from h9 s.heap [] hP hS
  clear hP hS
  intro H locs hP hS
  refine lv_aload_n hx hb dX4_isEntered_0 rfl (lv_at hl 0 rfl) ?_
  refine va_get (D := D) (ci := 4) (v := .ref (a 2)) (C := RX4) (T := TX4) (N := 19) hx hb hw hin_wsX40 hown hK hP 0 pw_0 rfl 1 (by decide) (hw _ kw_17) (fun _ h9 => h9) rfl dX4_isEntered_1 ?_
  refine lv_iload_n hx hb dX4_isEntered_4 rfl (lv_at hl 1 rfl) ?_
  refine p_aldB hx hb hK hP (k := bb) (by omega) (by omega) dX4_isEntered_5 ?_
  have s1 := Wf.b7 hWf (k := bb) (by omega) (by omega)
  refine va_get (D := D) (ci := 0) (v := .int (iI (g 2 bb 7))) (C := RX0) (T := TX0) (N := 11) hx hb hw hin_wsX00 hown hK hP (12 + bb.toNat) (pw_B (b := bb) (by omega) (by omega)) rfl 7 (by decide) (hw _ kw_111) (fun _ h9 => h9) rfl dX4_isEntered_6 ?_
  refine lv_aload_n hx hb dX4_isEntered_9 rfl (lv_at hl 0 rfl) ?_
  have s2 := Wf.m8 hWf
  refine va_get (D := D) (ci := 4) (v := .int (iI (g 0 0 8))) (C := RX4) (T := TX4) (N := 19) hx hb hw hin_wsX40 hown hK hP 0 pw_0 rfl 8 (by decide) (hw _ kw_96) (fun _ h9 => h9) rfl dX4_isEntered_10 ?_
  refine n_icmp_ne hx hb (by unfold RI; omega) (by unfold RI; omega) (tgt := 20) dX4_isEntered_13 (by decide) (fun h3 => ?_) (fun h3 => ?_)
  · skip
    refine lv_iconst (v := iI 0) hx hb dX4_isEntered_20 (by decide) ?_
    exact W.zret (v := (iI 0)) (ty := .boolean) hx hb hr (by decide +kernel) (fun t ht hW9 => ⟨⟨(iI 0), (), rfl, (show iI 0 = bi (m_ent g bb) from by rw [show (m_ent g bb) = false from by simp [m_ent, h3]]; rfl), trivial⟩, hS.F ht⟩) hS.2.2 dX4_isEntered_21
  · skip
    refine lv_iconst (v := iI 1) hx hb dX4_isEntered_16 (by decide) ?_
    refine lv_goto (tgt := 21) hx hb dX4_isEntered_17 (by decide) ?_
    exact W.zret (v := (iI 1)) (ty := .boolean) hx hb hr (by decide +kernel) (fun t ht hW9 => ⟨⟨(iI 1), (), rfl, (show iI 1 = bi (m_ent g bb) from by rw [show (m_ent g bb) = true from by simp [m_ent, h3]]; rfl), trivial⟩, hS.F ht⟩) hS.2.2 dX4_isEntered_21
set_option maxHeartbeats 4000000 in
set_option maxRecDepth 100000 in
theorem c_admit (l : Launch) (D : va_G) (a : Nat → Nat) (cH cB cJ cI : ClassId) (ha : pj a) (g : m_St) (vt : Nat → Int32) (sz : Nat) (ff : Int) (pg : Int) (hWf : Wf g) (hff : 0 ≤ ff ∧ ff ≤ 2) (rpg : -2147483648 ≤ pg ∧ pg ≤ 2147483647) : Met l yX3_admit (wc yX3_admit cX3_admit 3 (some .boolean)) ({ frames := 1, cells := 0, slots := 0, locals := 22 }) (va_Pc [.ref (a 4), .int (iI ff), .int (iI pg)] (pS D a cH cB cJ cI sz g vt)) (va_Qi (fun (r : Int32) (_ : Unit) => r = bi (m_adm g ff pg)) (fun _ _ => True) (fun q => sz ≤ q)) 0 0 (fun q => sz ≤ q) := by
  refine Met.ofW (cc := cX3_admit) (maxL := 3) (ret := (some .boolean)) (by decide +kernel) rfl ?_
  intro p e s m args below meth c s₁ B9 hml hv
  obtain ⟨rfl, hsz, hP, hK, hE⟩ := hv
  have hx := B9.exec
  have hb := B9.bytes
  have hr := B9.returns
  have hts := atoms_spec (ws := (wc yX3_admit cX3_admit 3 (some .boolean))) B9.pre
  have hw : ∀ w ∈ wsL_law0, w.before [.ref (a 4), .int (iI ff), .int (iI pg)].toArray s = true := fun w h => hts w (List.mem_cons_of_mem _ h)
  have hown : s.vm.findClass RX3 = some m.cls := findClass_of_methodNamed B9.named
  subst hsz
  have hS : va_S (fun q => s.heap.size ≤ q) s.heap s.heap [] := va_S.rf
  have hA : ∀ q : Nat, s.heap.size ≤ q → (fun q : Nat => s.heap.size ≤ q) q := fun _ h => h
  have hl := lv_entry ([.ref (a 4), .int (iI ff), .int (iI pg)]) (n := 3) (Nat.le_of_ble_eq_true rfl)
  rw [lg_entry_eq]
  generalize (lg_sl ([.ref (a 4), .int (iI ff), .int (iI pg)]) ++ List.replicate (3 - (lg_sl ([.ref (a 4), .int (iI ff), .int (iI pg)])).length) Slot.unset).toArray = ls at hl ⊢
  have hl : lv_has ls 3 [(0, .ref (a 4)), (1, .int (iI ff)), (2, .int (iI pg))] := hl
  suffices h9 : ∀ (H : Heap) (locs : List Loc), va_P D vwCl (pw a cH cB cJ cI g vt) H → va_S (fun q => s.heap.size ≤ q) s.heap H locs → W p l e (headSpec (wc yX3_admit cX3_admit 3 (some .boolean)) ({ frames := 1, cells := 0, slots := 0, locals := 22 })).room s m [.ref (a 4), .int (iI ff), .int (iI pg)].toArray below meth c H locs 0 0 (MQ below (va_Qi (fun (r : Int32) (_ : Unit) => r = bi (m_adm g ff pg)) (fun _ _ => True) (fun q => s.heap.size ≤ q)) [.ref (a 4), .int (iI ff), .int (iI pg)].toArray s 0 0 (fun q => s.heap.size ≤ q)) (F0 m 0 ls []) from h9 s.heap [] hP hS
  clear hP hS
  intro H locs hP hS
  refine lv_aload_n hx hb dX3_admit_0 rfl (lv_at hl 0 rfl) ?_
  have s1 := Wf.u0 hWf (k := 0) (by omega) (by omega)
  refine va_get (D := D) (ci := 3) (v := .int (iI (g 9 0 0))) (C := RX3) (T := TX3) (N := 4) hx hb hw hin_wsX30 hown hK hP 4 pw_4 rfl 0 (by decide) (hw _ kw_38) (fun _ h9 => h9) rfl dX3_admit_1 ?_
  refine lv_iload_n hx hb dX3_admit_4 rfl (lv_at hl 1 rfl) ?_
  refine va_calli (va_runSN (As := [.int (iI (g 9 0 0)), .int (iI ff)]) (rest := []) ⟨hx, hb, hml, hown, hw⟩ (c_has l D a cH cB cJ cI ha g vt H.size (g 9 0 0) ff (by omega) (by omega)) ⟨va_cnB 2 hw (gA_c kw_224) rfl rfl rfl hE.2.2.2.2.1 (hw _ kw_2) (by decide +kernel) ⟨Nat.le_of_ble_eq_true rfl, Nat.le_of_ble_eq_true rfl⟩, (hw _ kw_223), trivial⟩ (pS_s hP hK hE) rfl rfl hl.1 rfl (lv_room (Nat.le_of_ble_eq_true rfl)) dX3_admit_5 ⟨Nat.le_of_ble_eq_true rfl, Nat.le_of_ble_eq_true rfl⟩) hS (fun q h1 h2 => ro_A h1 h2) (fun q h => ro_F hS hA q h) (fun r u t H1 locs ht hvm hw9 hB9 hz1 hk1 hS => ?_)
  have hw9 : r = (bi (m_has (g 9 0 0) ff)) := hw9
  subst hw9
  have hP := ro_P hP hk1
  generalize H1 = H at hP hS ⊢
  refine n_b_eq hx hb (tgt := 30) dX3_admit_8 (by decide) (fun h2 => ?_) (fun h2 => ?_)
  · skip
    refine lv_iconst (v := iI 0) hx hb dX3_admit_30 (by decide) ?_
    exact W.zret (v := (iI 0)) (ty := .boolean) hx hb hr (by decide +kernel) (fun t ht hW9 => ⟨⟨(iI 0), (), rfl, (show iI 0 = bi (m_adm g ff pg) from by rw [show (m_adm g ff pg) = false from by simp only [m_adm]; simp [h2]; try omega]; rfl), trivial⟩, hS.F ht⟩) hS.2.2 dX3_admit_31
  · skip
    refine lv_iload_n hx hb dX3_admit_11 rfl (lv_at hl 2 rfl) ?_
    refine lv_aload_n hx hb dX3_admit_12 rfl (lv_at hl 0 rfl) ?_
    have s3 := Wf.u1 hWf (k := 0) (by omega) (by omega)
    refine va_get (D := D) (ci := 3) (v := .int (iI (g 9 0 1))) (C := RX3) (T := TX3) (N := 4) hx hb hw hin_wsX30 hown hK hP 4 pw_4 rfl 1 (by decide) (hw _ kw_39) (fun _ h9 => h9) rfl dX3_admit_13 ?_
    refine lv_aload_n hx hb dX3_admit_16 rfl (lv_at hl 0 rfl) ?_
    have s4 := Wf.u2 hWf (k := 0) (by omega) (by omega)
    refine va_get (D := D) (ci := 3) (v := .int (iI (g 9 0 2))) (C := RX3) (T := TX3) (N := 4) hx hb hw hin_wsX30 hown hK hP 4 pw_4 rfl 2 (by decide) (hw _ kw_40) (fun _ h9 => h9) rfl dX3_admit_17 ?_
    refine va_calli (va_runSN (As := [.int (iI pg), .int (iI (g 9 0 1)), .int (iI (g 9 0 2))]) (rest := []) ⟨hx, hb, hml, hown, hw⟩ (c_isWithin l D a cH cB cJ cI ha g vt H.size pg (g 9 0 1) (g 9 0 2) (by omega) (by omega) (by omega)) ⟨va_cnB 3 hw (gA_c kw_84) rfl rfl rfl hE.2.2.2.2.2 (hw _ kw_2) (by decide +kernel) ⟨Nat.le_of_ble_eq_true rfl, Nat.le_of_ble_eq_true rfl⟩, (hw _ kw_83), trivial⟩ (pS_s hP hK hE) rfl rfl hl.1 rfl (lv_room (Nat.le_of_ble_eq_true rfl)) dX3_admit_20 ⟨Nat.le_of_ble_eq_true rfl, Nat.le_of_ble_eq_true rfl⟩) hS (fun q h1 h2 => ro_A h1 h2) (fun q h => ro_F hS hA q h) (fun r u t H1 locs ht hvm hw9 hB9 hz1 hk1 hS => ?_)
    have hw9 : r = (bi (decide ((g 9 0 1) ≤ pg ∧ pg ≤ (g 9 0 2)))) := hw9
    subst hw9
    have hP := ro_P hP hk1
    generalize H1 = H at hP hS ⊢
    refine n_b_eq hx hb (tgt := 30) dX3_admit_23 (by decide) (fun h5 => ?_) (fun h5 => ?_)
    · skip
      have h5 := of_decide_eq_false h5
      refine lv_iconst (v := iI 0) hx hb dX3_admit_30 (by decide) ?_
      exact W.zret (v := (iI 0)) (ty := .boolean) hx hb hr (by decide +kernel) (fun t ht hW9 => ⟨⟨(iI 0), (), rfl, (show iI 0 = bi (m_adm g ff pg) from by rw [show (m_adm g ff pg) = false from by simp only [m_adm]; simp [h2, h5]; try omega]; rfl), trivial⟩, hS.F ht⟩) hS.2.2 dX3_admit_31
    · skip
      have h5 := of_decide_eq_true h5
      refine lv_iconst (v := iI 1) hx hb dX3_admit_26 (by decide) ?_
      refine lv_goto (tgt := 31) hx hb dX3_admit_27 (by decide) ?_
      exact W.zret (v := (iI 1)) (ty := .boolean) hx hb hr (by decide +kernel) (fun t ht hW9 => ⟨⟨(iI 1), (), rfl, (show iI 1 = bi (m_adm g ff pg) from by rw [show (m_adm g ff pg) = true from by simp only [m_adm]; simp [h2, h5]; try omega]; rfl), trivial⟩, hS.F ht⟩) hS.2.2 dX3_admit_31
set_option maxHeartbeats 4000000 in
set_option maxRecDepth 100000 in
theorem c_isEligible (l : Launch) (D : va_G) (a : Nat → Nat) (cH cB cJ cI : ClassId) (ha : pj a) (g : m_St) (vt : Nat → Int32) (sz : Nat) (bb : Int) (hWf : Wf g) (hbb : 0 ≤ bb ∧ bb < 16) : Met l yX4_isEligible (wc yX4_isEligible cX4_isEligible 4 (some .boolean)) ({ frames := 2, cells := 0, slots := 0, locals := 44 }) (va_Pc [.ref (a 0), .int (iI bb)] (pS D a cH cB cJ cI sz g vt)) (va_Qi (fun (r : Int32) (_ : Unit) => r = bi (m_elig g bb)) (fun _ _ => True) (fun q => sz ≤ q)) 0 0 (fun q => sz ≤ q) := by
  refine Met.ofW (cc := cX4_isEligible) (maxL := 4) (ret := (some .boolean)) (by decide +kernel) rfl ?_
  intro p e s m args below meth c s₁ B9 hml hv
  obtain ⟨rfl, hsz, hP, hK, hE⟩ := hv
  have hx := B9.exec
  have hb := B9.bytes
  have hr := B9.returns
  have hts := atoms_spec (ws := (wc yX4_isEligible cX4_isEligible 4 (some .boolean))) B9.pre
  have hw : ∀ w ∈ wsL_law0, w.before [.ref (a 0), .int (iI bb)].toArray s = true := fun w h => hts w (List.mem_cons_of_mem _ h)
  have hown : s.vm.findClass RX4 = some m.cls := findClass_of_methodNamed B9.named
  subst hsz
  have hS : va_S (fun q => s.heap.size ≤ q) s.heap s.heap [] := va_S.rf
  have hA : ∀ q : Nat, s.heap.size ≤ q → (fun q : Nat => s.heap.size ≤ q) q := fun _ h => h
  have hl := lv_entry ([.ref (a 0), .int (iI bb)]) (n := 4) (Nat.le_of_ble_eq_true rfl)
  rw [lg_entry_eq]
  generalize (lg_sl ([.ref (a 0), .int (iI bb)]) ++ List.replicate (4 - (lg_sl ([.ref (a 0), .int (iI bb)])).length) Slot.unset).toArray = ls at hl ⊢
  have hl : lv_has ls 4 [(0, .ref (a 0)), (1, .int (iI bb))] := hl
  suffices h9 : ∀ (H : Heap) (locs : List Loc), va_P D vwCl (pw a cH cB cJ cI g vt) H → va_S (fun q => s.heap.size ≤ q) s.heap H locs → W p l e (headSpec (wc yX4_isEligible cX4_isEligible 4 (some .boolean)) ({ frames := 2, cells := 0, slots := 0, locals := 44 })).room s m [.ref (a 0), .int (iI bb)].toArray below meth c H locs 0 0 (MQ below (va_Qi (fun (r : Int32) (_ : Unit) => r = bi (m_elig g bb)) (fun _ _ => True) (fun q => s.heap.size ≤ q)) [.ref (a 0), .int (iI bb)].toArray s 0 0 (fun q => s.heap.size ≤ q)) (F0 m 0 ls []) from h9 s.heap [] hP hS
  clear hP hS
  intro H locs hP hS
  refine lv_aload_n hx hb dX4_isEligible_0 rfl (lv_at hl 0 rfl) ?_
  refine va_get (D := D) (ci := 4) (v := .ref (a 2)) (C := RX4) (T := TX4) (N := 19) hx hb hw hin_wsX40 hown hK hP 0 pw_0 rfl 1 (by decide) (hw _ kw_17) (fun _ h9 => h9) rfl dX4_isEligible_1 ?_
  refine lv_iload_n hx hb dX4_isEligible_4 rfl (lv_at hl 1 rfl) ?_
  refine p_aldB hx hb hK hP (k := bb) (by omega) (by omega) dX4_isEligible_5 ?_
  refine lv_astore_n (lv' := [(2, .ref (a (12 + bb.toNat))), (0, .ref (a 0)), (1, .int (iI bb))]) hx hb dX4_isEligible_6 rfl hl (by decide) rfl (fun ls hl => ?_)
  refine lv_aload_n hx hb dX4_isEligible_7 rfl (lv_at hl 0 rfl) ?_
  have s1 := Wf.b7 hWf (k := bb) (by omega) (by omega)
  refine va_get (D := D) (ci := 0) (v := .int (iI (g 2 bb 7))) (C := RX0) (T := TX0) (N := 11) hx hb hw hin_wsX00 hown hK hP (12 + bb.toNat) (pw_B (b := bb) (by omega) (by omega)) rfl 7 (by decide) (hw _ kw_111) (fun _ h9 => h9) rfl dX4_isEligible_8 ?_
  refine lv_iconst (v := iI (-1)) hx hb dX4_isEligible_11 (by decide) ?_
  refine n_icmp_eq hx hb (by unfold RI; omega) (by unfold RI; omega) (tgt := 26) dX4_isEligible_12 (by decide) (fun h2 => ?_) (fun h2 => ?_)
  · skip
    refine lv_iconst (v := iI 1) hx hb dX4_isEligible_26 (by decide) ?_
    refine lv_goto (tgt := 31) hx hb dX4_isEligible_27 (by decide) ?_
    refine lv_istore_n (lv' := [(3, .int (iI 1)), (2, .ref (a (12 + bb.toNat))), (0, .ref (a 0)), (1, .int (iI bb))]) hx hb dX4_isEligible_31 rfl hl (by decide) rfl (fun ls hl => ?_)
    refine lv_iload_n hx hb dX4_isEligible_32 rfl (lv_at hl 0 rfl) ?_
    refine n_if_eq hx hb (by unfold RI; omega) (tgt := 71) dX4_isEligible_33 (by decide) (fun h3 => absurd h3 (by intro h3; omega)) (fun h3 => ?_)
    refine lv_aload_n hx hb dX4_isEligible_36 rfl (lv_at hl 2 rfl) ?_
    have s4 := Wf.m8 hWf
    refine va_get (D := D) (ci := 4) (v := .int (iI (g 0 0 8))) (C := RX4) (T := TX4) (N := 19) hx hb hw hin_wsX40 hown hK hP 0 pw_0 rfl 8 (by decide) (hw _ kw_96) (fun _ h9 => h9) rfl dX4_isEligible_37 ?_
    refine lv_aload_n hx hb dX4_isEligible_40 rfl (lv_at hl 1 rfl) ?_
    have s5 := Wf.b6 hWf (k := bb) (by omega) (by omega)
    refine va_get (D := D) (ci := 0) (v := .int (iI (g 2 bb 6))) (C := RX0) (T := TX0) (N := 11) hx hb hw hin_wsX00 hown hK hP (12 + bb.toNat) (pw_B (b := bb) (by omega) (by omega)) rfl 6 (by decide) (hw _ kw_135) (fun _ h9 => h9) rfl dX4_isEligible_41 ?_
    refine n_sub hx hb dX4_isEligible_44 ?_
    refine lv_iconst (v := iI 1) hx hb dX4_isEligible_45 (by decide) ?_
    refine n_icmp_gt hx hb (by unfold RI; omega) (by unfold RI; omega) (tgt := 71) dX4_isEligible_46 (by decide) (fun h6 => ?_) (fun h6 => ?_)
    · skip
      refine lv_iconst (v := iI 0) hx hb dX4_isEligible_71 (by decide) ?_
      exact W.zret (v := (iI 0)) (ty := .boolean) hx hb hr (by decide +kernel) (fun t ht hW9 => ⟨⟨(iI 0), (), rfl, (show iI 0 = bi (m_elig g bb) from by rw [show (m_elig g bb) = false from by simp only [m_elig]; simp [h2, h3, h6]; try omega]; rfl), trivial⟩, hS.F ht⟩) hS.2.2 dX4_isEligible_72
    · skip
      refine lv_aload_n hx hb dX4_isEligible_49 rfl (lv_at hl 2 rfl) ?_
      refine va_get (D := D) (ci := 4) (v := .ref (a 4)) (C := RX4) (T := TX4) (N := 19) hx hb hw hin_wsX40 hown hK hP 0 pw_0 rfl 6 (by decide) (hw _ kw_23) (fun _ h9 => h9) rfl dX4_isEligible_50 ?_
      refine lv_aload_n hx hb dX4_isEligible_53 rfl (lv_at hl 1 rfl) ?_
      have s7 := Wf.b2 hWf (k := bb) (by omega) (by omega)
      refine va_get (D := D) (ci := 0) (v := .int (iI (g 2 bb 2))) (C := RX0) (T := TX0) (N := 11) hx hb hw hin_wsX00 hown hK hP (12 + bb.toNat) (pw_B (b := bb) (by omega) (by omega)) rfl 2 (by decide) (hw _ kw_217) (fun _ h9 => h9) rfl dX4_isEligible_54 ?_
      refine lv_aload_n hx hb dX4_isEligible_57 rfl (lv_at hl 1 rfl) ?_
      have s8 := Wf.b3 hWf (k := bb) (by omega) (by omega)
      refine va_get (D := D) (ci := 0) (v := .int (iI (g 2 bb 3))) (C := RX0) (T := TX0) (N := 11) hx hb hw hin_wsX00 hown hK hP (12 + bb.toNat) (pw_B (b := bb) (by omega) (by omega)) rfl 3 (by decide) (hw _ kw_218) (fun _ h9 => h9) rfl dX4_isEligible_58 ?_
      refine va_calli (va_runV (As := [.int (iI (g 2 bb 2)), .int (iI (g 2 bb 3))]) (rest := []) ⟨hx, hb, hml, hown, hw⟩ (c_admit l D a cH cB cJ cI ha g vt H.size (g 2 bb 2) (g 2 bb 3) hWf (by omega) (by omega)) (cwV 2 hw (gA_V kw_219 kw_220 kw_221 kw_22 kw_222) rfl rfl rfl (by decide +kernel) ⟨Nat.le_of_ble_eq_true rfl, Nat.le_of_ble_eq_true rfl⟩) (pS_v (ci := 3) (q0 := 4) rfl pw_4 hP hK hE) rfl rfl hl.1 rfl (lv_room (Nat.le_of_ble_eq_true rfl)) dX4_isEligible_61 ⟨Nat.le_of_ble_eq_true rfl, Nat.le_of_ble_eq_true rfl⟩) hS (fun q h1 h2 => ro_A h1 h2) (fun q h => ro_F hS hA q h) (fun r u t H1 locs ht hvm hw9 hB9 hz1 hk1 hS => ?_)
      have hw9 : r = (bi (m_adm g (g 2 bb 2) (g 2 bb 3))) := hw9
      subst hw9
      have hP := ro_P hP hk1
      generalize H1 = H at hP hS ⊢
      refine n_b_eq hx hb (tgt := 71) dX4_isEligible_64 (by decide) (fun h9 => ?_) (fun h9 => ?_)
      · skip
        refine lv_iconst (v := iI 0) hx hb dX4_isEligible_71 (by decide) ?_
        exact W.zret (v := (iI 0)) (ty := .boolean) hx hb hr (by decide +kernel) (fun t ht hW9 => ⟨⟨(iI 0), (), rfl, (show iI 0 = bi (m_elig g bb) from by rw [show (m_elig g bb) = false from by simp only [m_elig]; simp [h2, h3, h6, h9]; try omega]; rfl), trivial⟩, hS.F ht⟩) hS.2.2 dX4_isEligible_72
      · skip
        refine lv_iconst (v := iI 1) hx hb dX4_isEligible_67 (by decide) ?_
        refine lv_goto (tgt := 72) hx hb dX4_isEligible_68 (by decide) ?_
        exact W.zret (v := (iI 1)) (ty := .boolean) hx hb hr (by decide +kernel) (fun t ht hW9 => ⟨⟨(iI 1), (), rfl, (show iI 1 = bi (m_elig g bb) from by rw [show (m_elig g bb) = true from by simp only [m_elig]; simp [h2, h3, h6, h9]; try omega]; rfl), trivial⟩, hS.F ht⟩) hS.2.2 dX4_isEligible_72
  · skip
    refine lv_aload_n hx hb dX4_isEligible_15 rfl (lv_at hl 0 rfl) ?_
    refine va_get (D := D) (ci := 0) (v := .int (iI (g 2 bb 7))) (C := RX0) (T := TX0) (N := 11) hx hb hw hin_wsX00 hown hK hP (12 + bb.toNat) (pw_B (b := bb) (by omega) (by omega)) rfl 7 (by decide) (hw _ kw_111) (fun _ h9 => h9) rfl dX4_isEligible_16 ?_
    refine lv_aload_n hx hb dX4_isEligible_19 rfl (lv_at hl 1 rfl) ?_
    have s10 := Wf.m8 hWf
    refine va_get (D := D) (ci := 4) (v := .int (iI (g 0 0 8))) (C := RX4) (T := TX4) (N := 19) hx hb hw hin_wsX40 hown hK hP 0 pw_0 rfl 8 (by decide) (hw _ kw_96) (fun _ h9 => h9) rfl dX4_isEligible_20 ?_
    refine n_icmp_ne hx hb (by unfold RI; omega) (by unfold RI; omega) (tgt := 30) dX4_isEligible_23 (by decide) (fun h11 => ?_) (fun h11 => ?_)
    · skip
      refine lv_iconst (v := iI 0) hx hb dX4_isEligible_30 (by decide) ?_
      refine lv_istore_n (lv' := [(3, .int (iI 0)), (2, .ref (a (12 + bb.toNat))), (0, .ref (a 0)), (1, .int (iI bb))]) hx hb dX4_isEligible_31 rfl hl (by decide) rfl (fun ls hl => ?_)
      refine lv_iload_n hx hb dX4_isEligible_32 rfl (lv_at hl 0 rfl) ?_
      refine n_if_eq hx hb (by unfold RI; omega) (tgt := 71) dX4_isEligible_33 (by decide) (fun h12 => ?_) (fun h12 => absurd h12 (by intro h12; omega))
      refine lv_iconst (v := iI 0) hx hb dX4_isEligible_71 (by decide) ?_
      exact W.zret (v := (iI 0)) (ty := .boolean) hx hb hr (by decide +kernel) (fun t ht hW9 => ⟨⟨(iI 0), (), rfl, (show iI 0 = bi (m_elig g bb) from by rw [show (m_elig g bb) = false from by simp only [m_elig]; simp [h2, h11, h12]; try omega]; rfl), trivial⟩, hS.F ht⟩) hS.2.2 dX4_isEligible_72
    · skip
      refine lv_iconst (v := iI 1) hx hb dX4_isEligible_26 (by decide) ?_
      refine lv_goto (tgt := 31) hx hb dX4_isEligible_27 (by decide) ?_
      refine lv_istore_n (lv' := [(3, .int (iI 1)), (2, .ref (a (12 + bb.toNat))), (0, .ref (a 0)), (1, .int (iI bb))]) hx hb dX4_isEligible_31 rfl hl (by decide) rfl (fun ls hl => ?_)
      refine lv_iload_n hx hb dX4_isEligible_32 rfl (lv_at hl 0 rfl) ?_
      refine n_if_eq hx hb (by unfold RI; omega) (tgt := 71) dX4_isEligible_33 (by decide) (fun h13 => absurd h13 (by intro h13; omega)) (fun h13 => ?_)
      refine lv_aload_n hx hb dX4_isEligible_36 rfl (lv_at hl 2 rfl) ?_
      refine va_get (D := D) (ci := 4) (v := .int (iI (g 0 0 8))) (C := RX4) (T := TX4) (N := 19) hx hb hw hin_wsX40 hown hK hP 0 pw_0 rfl 8 (by decide) (hw _ kw_96) (fun _ h9 => h9) rfl dX4_isEligible_37 ?_
      refine lv_aload_n hx hb dX4_isEligible_40 rfl (lv_at hl 1 rfl) ?_
      have s14 := Wf.b6 hWf (k := bb) (by omega) (by omega)
      refine va_get (D := D) (ci := 0) (v := .int (iI (g 2 bb 6))) (C := RX0) (T := TX0) (N := 11) hx hb hw hin_wsX00 hown hK hP (12 + bb.toNat) (pw_B (b := bb) (by omega) (by omega)) rfl 6 (by decide) (hw _ kw_135) (fun _ h9 => h9) rfl dX4_isEligible_41 ?_
      refine n_sub hx hb dX4_isEligible_44 ?_
      refine lv_iconst (v := iI 1) hx hb dX4_isEligible_45 (by decide) ?_
      refine n_icmp_gt hx hb (by unfold RI; omega) (by unfold RI; omega) (tgt := 71) dX4_isEligible_46 (by decide) (fun h15 => ?_) (fun h15 => ?_)
      · skip
        refine lv_iconst (v := iI 0) hx hb dX4_isEligible_71 (by decide) ?_
        exact W.zret (v := (iI 0)) (ty := .boolean) hx hb hr (by decide +kernel) (fun t ht hW9 => ⟨⟨(iI 0), (), rfl, (show iI 0 = bi (m_elig g bb) from by rw [show (m_elig g bb) = false from by simp only [m_elig]; simp [h2, h11, h13, h15]; try omega]; rfl), trivial⟩, hS.F ht⟩) hS.2.2 dX4_isEligible_72
      · skip
        refine lv_aload_n hx hb dX4_isEligible_49 rfl (lv_at hl 2 rfl) ?_
        refine va_get (D := D) (ci := 4) (v := .ref (a 4)) (C := RX4) (T := TX4) (N := 19) hx hb hw hin_wsX40 hown hK hP 0 pw_0 rfl 6 (by decide) (hw _ kw_23) (fun _ h9 => h9) rfl dX4_isEligible_50 ?_
        refine lv_aload_n hx hb dX4_isEligible_53 rfl (lv_at hl 1 rfl) ?_
        have s16 := Wf.b2 hWf (k := bb) (by omega) (by omega)
        refine va_get (D := D) (ci := 0) (v := .int (iI (g 2 bb 2))) (C := RX0) (T := TX0) (N := 11) hx hb hw hin_wsX00 hown hK hP (12 + bb.toNat) (pw_B (b := bb) (by omega) (by omega)) rfl 2 (by decide) (hw _ kw_217) (fun _ h9 => h9) rfl dX4_isEligible_54 ?_
        refine lv_aload_n hx hb dX4_isEligible_57 rfl (lv_at hl 1 rfl) ?_
        have s17 := Wf.b3 hWf (k := bb) (by omega) (by omega)
        refine va_get (D := D) (ci := 0) (v := .int (iI (g 2 bb 3))) (C := RX0) (T := TX0) (N := 11) hx hb hw hin_wsX00 hown hK hP (12 + bb.toNat) (pw_B (b := bb) (by omega) (by omega)) rfl 3 (by decide) (hw _ kw_218) (fun _ h9 => h9) rfl dX4_isEligible_58 ?_
        refine va_calli (va_runV (As := [.int (iI (g 2 bb 2)), .int (iI (g 2 bb 3))]) (rest := []) ⟨hx, hb, hml, hown, hw⟩ (c_admit l D a cH cB cJ cI ha g vt H.size (g 2 bb 2) (g 2 bb 3) hWf (by omega) (by omega)) (cwV 2 hw (gA_V kw_219 kw_220 kw_221 kw_22 kw_222) rfl rfl rfl (by decide +kernel) ⟨Nat.le_of_ble_eq_true rfl, Nat.le_of_ble_eq_true rfl⟩) (pS_v (ci := 3) (q0 := 4) rfl pw_4 hP hK hE) rfl rfl hl.1 rfl (lv_room (Nat.le_of_ble_eq_true rfl)) dX4_isEligible_61 ⟨Nat.le_of_ble_eq_true rfl, Nat.le_of_ble_eq_true rfl⟩) hS (fun q h1 h2 => ro_A h1 h2) (fun q h => ro_F hS hA q h) (fun r u t H1 locs ht hvm hw9 hB9 hz1 hk1 hS => ?_)
        have hw9 : r = (bi (m_adm g (g 2 bb 2) (g 2 bb 3))) := hw9
        subst hw9
        have hP := ro_P hP hk1
        generalize H1 = H at hP hS ⊢
        refine n_b_eq hx hb (tgt := 71) dX4_isEligible_64 (by decide) (fun h18 => ?_) (fun h18 => ?_)
        · skip
          refine lv_iconst (v := iI 0) hx hb dX4_isEligible_71 (by decide) ?_
          exact W.zret (v := (iI 0)) (ty := .boolean) hx hb hr (by decide +kernel) (fun t ht hW9 => ⟨⟨(iI 0), (), rfl, (show iI 0 = bi (m_elig g bb) from by rw [show (m_elig g bb) = false from by simp only [m_elig]; simp [h2, h11, h13, h15, h18]; try omega]; rfl), trivial⟩, hS.F ht⟩) hS.2.2 dX4_isEligible_72
        · skip
          refine lv_iconst (v := iI 1) hx hb dX4_isEligible_67 (by decide) ?_
          refine lv_goto (tgt := 72) hx hb dX4_isEligible_68 (by decide) ?_
          exact W.zret (v := (iI 1)) (ty := .boolean) hx hb hr (by decide +kernel) (fun t ht hW9 => ⟨⟨(iI 1), (), rfl, (show iI 1 = bi (m_elig g bb) from by rw [show (m_elig g bb) = true from by simp only [m_elig]; simp [h2, h11, h13, h15, h18]; try omega]; rfl), trivial⟩, hS.F ht⟩) hS.2.2 dX4_isEligible_72
set_option maxHeartbeats 4000000 in
set_option maxRecDepth 100000 in
theorem c_enteredCount (l : Launch) (D : va_G) (a : Nat → Nat) (cH cB cJ cI : ClassId) (ha : pj a) (g : m_St) (vt : Nat → Int32) (sz : Nat) (hWf : Wf g) : Met l yX4_enteredCount (wc yX4_enteredCount cX4_enteredCount 3 (some .int)) ({ frames := 1, cells := 0, slots := 0, locals := 21 }) (va_Pc [.ref (a 0)] (pS D a cH cB cJ cI sz g vt)) (va_Qi (fun (r : Int32) (_ : Unit) => r = iI (m_entCount g)) (fun _ _ => True) (fun q => sz ≤ q)) 0 0 (fun q => sz ≤ q) := by
  refine Met.ofW (cc := cX4_enteredCount) (maxL := 3) (ret := (some .int)) (by decide +kernel) rfl ?_
  intro p e s m args below meth c s₁ B9 hml hv
  obtain ⟨rfl, hsz, hP, hK, hE⟩ := hv
  have hx := B9.exec
  have hb := B9.bytes
  have hr := B9.returns
  have hts := atoms_spec (ws := (wc yX4_enteredCount cX4_enteredCount 3 (some .int))) B9.pre
  have hw : ∀ w ∈ wsL_law0, w.before [.ref (a 0)].toArray s = true := fun w h => hts w (List.mem_cons_of_mem _ h)
  have hown : s.vm.findClass RX4 = some m.cls := findClass_of_methodNamed B9.named
  subst hsz
  have hS : va_S (fun q => s.heap.size ≤ q) s.heap s.heap [] := va_S.rf
  have hA : ∀ q : Nat, s.heap.size ≤ q → (fun q : Nat => s.heap.size ≤ q) q := fun _ h => h
  have hl := lv_entry ([.ref (a 0)]) (n := 3) (Nat.le_of_ble_eq_true rfl)
  rw [lg_entry_eq]
  generalize (lg_sl ([.ref (a 0)]) ++ List.replicate (3 - (lg_sl ([.ref (a 0)])).length) Slot.unset).toArray = ls at hl ⊢
  have hl : lv_has ls 3 [(0, .ref (a 0))] := hl
  suffices h9 : ∀ (H : Heap) (locs : List Loc), va_P D vwCl (pw a cH cB cJ cI g vt) H → va_S (fun q => s.heap.size ≤ q) s.heap H locs → W p l e (headSpec (wc yX4_enteredCount cX4_enteredCount 3 (some .int)) ({ frames := 1, cells := 0, slots := 0, locals := 21 })).room s m [.ref (a 0)].toArray below meth c H locs 0 0 (MQ below (va_Qi (fun (r : Int32) (_ : Unit) => r = iI (m_entCount g)) (fun _ _ => True) (fun q => s.heap.size ≤ q)) [.ref (a 0)].toArray s 0 0 (fun q => s.heap.size ≤ q)) (F0 m 0 ls []) from h9 s.heap [] hP hS
  clear hP hS
  intro H locs hP hS
  have m4 := Wf.m4 hWf
  refine lv_iconst (v := iI 0) hx hb dX4_enteredCount_0 (by decide) ?_
  refine lv_istore_n (lv' := [(1, .int (iI 0)), (0, .ref (a 0))]) hx hb dX4_enteredCount_1 rfl hl (by decide) rfl (fun ls hl => ?_)
  refine lv_iconst (v := iI 0) hx hb dX4_enteredCount_2 (by decide) ?_
  refine lv_istore_n (lv' := [(2, .int (iI 0)), (1, .int (iI 0)), (0, .ref (a 0))]) hx hb dX4_enteredCount_3 rfl hl (by decide) rfl (fun ls hl => ?_)
  have loop4 : ∀ (d n : Nat) (H : Heap) (locs : List Loc) (ls : Array Slot), n + d = (g 0 0 4).toNat → va_P D vwCl (pw a cH cB cJ cI g vt) H → va_S (fun q => s.heap.size ≤ q) s.heap H locs → lv_has ls 3 [(2, .int (iI ((n : Nat) : Int))), (1, .int (iI (m_cnt (m_ent g) n))), (0, .ref (a 0))] → W p l e (headSpec (wc yX4_enteredCount cX4_enteredCount 3 (some .int)) ({ frames := 1, cells := 0, slots := 0, locals := 21 })).room s m [.ref (a 0)].toArray below meth c H locs 0 0 (MQ below (va_Qi (fun (r : Int32) (_ : Unit) => r = iI (m_entCount g)) (fun _ _ => True) (fun q => s.heap.size ≤ q)) [.ref (a 0)].toArray s 0 0 (fun q => s.heap.size ≤ q)) (F0 m 4 ls []) := by
    intro d
    induction d with
    | zero =>
      intro n H locs ls hn hP hS hl
      obtain rfl : n = (g 0 0 4).toNat := by omega
      refine lv_iload_n hx hb dX4_enteredCount_4 rfl (lv_at hl 0 rfl) ?_
      refine lv_aload_n hx hb dX4_enteredCount_5 rfl (lv_at hl 2 rfl) ?_
      have s1 := Wf.m4 hWf
      refine va_get (D := D) (ci := 4) (v := .int (iI (g 0 0 4))) (C := RX4) (T := TX4) (N := 19) hx hb hw hin_wsX40 hown hK hP 0 pw_0 rfl 4 (by decide) (hw _ kw_98) (fun _ h9 => h9) rfl dX4_enteredCount_6 ?_
      refine n_icmp_ge hx hb (by unfold RI; omega) (by unfold RI; omega) (tgt := 29) dX4_enteredCount_9 (by decide) (fun h2 => ?_) (fun h2 => absurd h2 (by intro h2; omega))
      refine lv_iload_n hx hb dX4_enteredCount_29 rfl (lv_at hl 1 rfl) ?_
      exact W.iret (v := (iI (m_cnt (m_ent g) ((g 0 0 4).toNat)))) hx hb hr (fun t ht hW9 => ⟨⟨(iI (m_cnt (m_ent g) ((g 0 0 4).toNat))), (), rfl, (congrArg iI (by rfl)), trivial⟩, hS.F ht⟩) hS.2.2 dX4_enteredCount_30
    | succ d ih4 =>
      intro n H locs ls hn hP hS hl
      refine lv_iload_n hx hb dX4_enteredCount_4 rfl (lv_at hl 0 rfl) ?_
      refine lv_aload_n hx hb dX4_enteredCount_5 rfl (lv_at hl 2 rfl) ?_
      have s3 := Wf.m4 hWf
      refine va_get (D := D) (ci := 4) (v := .int (iI (g 0 0 4))) (C := RX4) (T := TX4) (N := 19) hx hb hw hin_wsX40 hown hK hP 0 pw_0 rfl 4 (by decide) (hw _ kw_98) (fun _ h9 => h9) rfl dX4_enteredCount_6 ?_
      refine n_icmp_ge hx hb (by unfold RI; omega) (by unfold RI; omega) (tgt := 29) dX4_enteredCount_9 (by decide) (fun h4 => absurd h4 (by intro h4; omega)) (fun h4 => ?_)
      refine lv_aload_n hx hb dX4_enteredCount_12 rfl (lv_at hl 2 rfl) ?_
      refine lv_iload_n hx hb dX4_enteredCount_13 rfl (lv_at hl 0 rfl) ?_
      refine va_calli (va_runV (As := [.int (iI ((n : Nat) : Int))]) (rest := []) ⟨hx, hb, hml, hown, hw⟩ (c_isEntered l D a cH cB cJ cI ha g vt H.size ((n : Nat) : Int) hWf (by omega)) (cwV 1 hw (gA_V kw_107 kw_108 kw_109 kw_2 kw_110) rfl rfl rfl (by decide +kernel) ⟨Nat.le_of_ble_eq_true rfl, Nat.le_of_ble_eq_true rfl⟩) (pS_v (ci := 4) (q0 := 0) rfl pw_0 hP hK hE) rfl rfl hl.1 rfl (lv_room (Nat.le_of_ble_eq_true rfl)) dX4_enteredCount_14 ⟨Nat.le_of_ble_eq_true rfl, Nat.le_of_ble_eq_true rfl⟩) hS (fun q h1 h2 => ro_A h1 h2) (fun q h => ro_F hS hA q h) (fun r u t H1 locs ht hvm hw9 hB9 hz1 hk1 hS => ?_)
      have hw9 : r = (bi (m_ent g ((n : Nat) : Int))) := hw9
      subst hw9
      have hP := ro_P hP hk1
      generalize H1 = H at hP hS ⊢
      refine n_b_eq hx hb (tgt := 23) dX4_enteredCount_17 (by decide) (fun h5 => ?_) (fun h5 => ?_)
      · skip
        refine n_inc (lv' := [(2, .int (iI (((n : Nat) : Int) + 1))), (1, .int (iI (m_cnt (m_ent g) n))), (0, .ref (a 0))]) hx hb dX4_enteredCount_23 hl (k := 0) rfl (by decide) rfl (fun ls hl => ?_)
        refine lv_goto (tgt := 4) hx hb dX4_enteredCount_26 (by decide) ?_
        have hl : lv_has ls 3 [(2, .int (iI (((n : Nat) : Int) + 1))), (1, .int (iI (m_cnt (m_ent g) n))), (0, .ref (a 0))] := lv_sub hl [0, 1, 2] rfl
        have e6 : (((n : Nat) : Int) + 1) = (((n + 1) : Nat) : Int) := by rfl
        have e7 : (m_cnt (m_ent g) n) = (m_cnt (m_ent g) (n + 1)) := by exact (cnt_f (q := (m_ent g)) (n := n) (by simp [h4, h5])).symm
        have hl : lv_has ls 3 [(2, .int (iI (((n + 1) : Nat) : Int))), (1, .int (iI (m_cnt (m_ent g) (n + 1)))), (0, .ref (a 0))] := lv_cast hl (by rw [e6, e7])
        exact ih4 (n + 1) H locs ls (by omega) hP hS hl
      · skip
        refine n_inc (lv' := [(1, .int (iI ((m_cnt (m_ent g) n) + 1))), (2, .int (iI ((n : Nat) : Int))), (0, .ref (a 0))]) hx hb dX4_enteredCount_20 hl (k := 1) rfl (by decide) rfl (fun ls hl => ?_)
        refine n_inc (lv' := [(2, .int (iI (((n : Nat) : Int) + 1))), (1, .int (iI ((m_cnt (m_ent g) n) + 1))), (0, .ref (a 0))]) hx hb dX4_enteredCount_23 hl (k := 1) rfl (by decide) rfl (fun ls hl => ?_)
        refine lv_goto (tgt := 4) hx hb dX4_enteredCount_26 (by decide) ?_
        have hl : lv_has ls 3 [(2, .int (iI (((n : Nat) : Int) + 1))), (1, .int (iI ((m_cnt (m_ent g) n) + 1))), (0, .ref (a 0))] := lv_sub hl [0, 1, 2] rfl
        have e8 : (((n : Nat) : Int) + 1) = (((n + 1) : Nat) : Int) := by rfl
        have e9 : ((m_cnt (m_ent g) n) + 1) = (m_cnt (m_ent g) (n + 1)) := by exact (cnt_t (q := (m_ent g)) (n := n) (by simp [h4, h5])).symm
        have hl : lv_has ls 3 [(2, .int (iI (((n + 1) : Nat) : Int))), (1, .int (iI (m_cnt (m_ent g) (n + 1)))), (0, .ref (a 0))] := lv_cast hl (by rw [e8, e9])
        exact ih4 (n + 1) H locs ls (by omega) hP hS hl
  have hl : lv_has ls 3 [(2, .int (iI 0)), (1, .int (iI 0)), (0, .ref (a 0))] := lv_sub hl [0, 1, 2] rfl
  have hl : lv_has ls 3 [(2, .int (iI ((0 : Nat) : Int))), (1, .int (iI (m_cnt (m_ent g) 0))), (0, .ref (a 0))] := hl
  exact loop4 ((g 0 0 4).toNat) 0 H locs ls (by omega) hP hS hl
set_option maxHeartbeats 4000000 in
set_option maxRecDepth 100000 in
theorem c_soldEver (l : Launch) (D : va_G) (a : Nat → Nat) (cH cB cJ cI : ClassId) (ha : pj a) (g : m_St) (vt : Nat → Int32) (sz : Nat) (hWf : Wf g) : Met l yX4_soldEver (wc yX4_soldEver cX4_soldEver 3 (some .int)) ({ frames := 0, cells := 0, slots := 0, locals := 0 }) (va_Pc [.ref (a 0)] (pS D a cH cB cJ cI sz g vt)) (va_Qi (fun (r : Int32) (_ : Unit) => r = iI (m_soldEver g)) (fun _ _ => True) (fun q => sz ≤ q)) 0 0 (fun q => sz ≤ q) := by
  refine Met.ofW (cc := cX4_soldEver) (maxL := 3) (ret := (some .int)) (by decide +kernel) rfl ?_
  intro p e s m args below meth c s₁ B9 hml hv
  obtain ⟨rfl, hsz, hP, hK, hE⟩ := hv
  have hx := B9.exec
  have hb := B9.bytes
  have hr := B9.returns
  have hts := atoms_spec (ws := (wc yX4_soldEver cX4_soldEver 3 (some .int))) B9.pre
  have hw : ∀ w ∈ wsL_law0, w.before [.ref (a 0)].toArray s = true := fun w h => hts w (List.mem_cons_of_mem _ h)
  have hown : s.vm.findClass RX4 = some m.cls := findClass_of_methodNamed B9.named
  subst hsz
  have hS : va_S (fun q => s.heap.size ≤ q) s.heap s.heap [] := va_S.rf
  have hA : ∀ q : Nat, s.heap.size ≤ q → (fun q : Nat => s.heap.size ≤ q) q := fun _ h => h
  have hl := lv_entry ([.ref (a 0)]) (n := 3) (Nat.le_of_ble_eq_true rfl)
  rw [lg_entry_eq]
  generalize (lg_sl ([.ref (a 0)]) ++ List.replicate (3 - (lg_sl ([.ref (a 0)])).length) Slot.unset).toArray = ls at hl ⊢
  have hl : lv_has ls 3 [(0, .ref (a 0))] := hl
  suffices h9 : ∀ (H : Heap) (locs : List Loc), va_P D vwCl (pw a cH cB cJ cI g vt) H → va_S (fun q => s.heap.size ≤ q) s.heap H locs → W p l e (headSpec (wc yX4_soldEver cX4_soldEver 3 (some .int)) ({ frames := 0, cells := 0, slots := 0, locals := 0 })).room s m [.ref (a 0)].toArray below meth c H locs 0 0 (MQ below (va_Qi (fun (r : Int32) (_ : Unit) => r = iI (m_soldEver g)) (fun _ _ => True) (fun q => s.heap.size ≤ q)) [.ref (a 0)].toArray s 0 0 (fun q => s.heap.size ≤ q)) (F0 m 0 ls []) from h9 s.heap [] hP hS
  clear hP hS
  intro H locs hP hS
  have m4 := Wf.m4 hWf
  refine lv_iconst (v := iI 0) hx hb dX4_soldEver_0 (by decide) ?_
  refine lv_istore_n (lv' := [(1, .int (iI 0)), (0, .ref (a 0))]) hx hb dX4_soldEver_1 rfl hl (by decide) rfl (fun ls hl => ?_)
  refine lv_iconst (v := iI 0) hx hb dX4_soldEver_2 (by decide) ?_
  refine lv_istore_n (lv' := [(2, .int (iI 0)), (1, .int (iI 0)), (0, .ref (a 0))]) hx hb dX4_soldEver_3 rfl hl (by decide) rfl (fun ls hl => ?_)
  have loop4 : ∀ (d n : Nat) (H : Heap) (locs : List Loc) (ls : Array Slot), n + d = (g 0 0 4).toNat → va_P D vwCl (pw a cH cB cJ cI g vt) H → va_S (fun q => s.heap.size ≤ q) s.heap H locs → lv_has ls 3 [(2, .int (iI ((n : Nat) : Int))), (1, .int (iI (m_sm (fun b => g 2 b 9) n))), (0, .ref (a 0))] → W p l e (headSpec (wc yX4_soldEver cX4_soldEver 3 (some .int)) ({ frames := 0, cells := 0, slots := 0, locals := 0 })).room s m [.ref (a 0)].toArray below meth c H locs 0 0 (MQ below (va_Qi (fun (r : Int32) (_ : Unit) => r = iI (m_soldEver g)) (fun _ _ => True) (fun q => s.heap.size ≤ q)) [.ref (a 0)].toArray s 0 0 (fun q => s.heap.size ≤ q)) (F0 m 4 ls []) := by
    intro d
    induction d with
    | zero =>
      intro n H locs ls hn hP hS hl
      obtain rfl : n = (g 0 0 4).toNat := by omega
      refine lv_iload_n hx hb dX4_soldEver_4 rfl (lv_at hl 0 rfl) ?_
      refine lv_aload_n hx hb dX4_soldEver_5 rfl (lv_at hl 2 rfl) ?_
      have s1 := Wf.m4 hWf
      refine va_get (D := D) (ci := 4) (v := .int (iI (g 0 0 4))) (C := RX4) (T := TX4) (N := 19) hx hb hw hin_wsX40 hown hK hP 0 pw_0 rfl 4 (by decide) (hw _ kw_98) (fun _ h9 => h9) rfl dX4_soldEver_6 ?_
      refine n_icmp_ge hx hb (by unfold RI; omega) (by unfold RI; omega) (tgt := 30) dX4_soldEver_9 (by decide) (fun h2 => ?_) (fun h2 => absurd h2 (by intro h2; omega))
      refine lv_iload_n hx hb dX4_soldEver_30 rfl (lv_at hl 1 rfl) ?_
      exact W.iret (v := (iI (m_sm (fun b => g 2 b 9) ((g 0 0 4).toNat)))) hx hb hr (fun t ht hW9 => ⟨⟨(iI (m_sm (fun b => g 2 b 9) ((g 0 0 4).toNat))), (), rfl, (congrArg iI (by rfl)), trivial⟩, hS.F ht⟩) hS.2.2 dX4_soldEver_31
    | succ d ih4 =>
      intro n H locs ls hn hP hS hl
      refine lv_iload_n hx hb dX4_soldEver_4 rfl (lv_at hl 0 rfl) ?_
      refine lv_aload_n hx hb dX4_soldEver_5 rfl (lv_at hl 2 rfl) ?_
      have s3 := Wf.m4 hWf
      refine va_get (D := D) (ci := 4) (v := .int (iI (g 0 0 4))) (C := RX4) (T := TX4) (N := 19) hx hb hw hin_wsX40 hown hK hP 0 pw_0 rfl 4 (by decide) (hw _ kw_98) (fun _ h9 => h9) rfl dX4_soldEver_6 ?_
      refine n_icmp_ge hx hb (by unfold RI; omega) (by unfold RI; omega) (tgt := 30) dX4_soldEver_9 (by decide) (fun h4 => absurd h4 (by intro h4; omega)) (fun h4 => ?_)
      refine lv_iload_n hx hb dX4_soldEver_12 rfl (lv_at hl 1 rfl) ?_
      refine lv_aload_n hx hb dX4_soldEver_13 rfl (lv_at hl 2 rfl) ?_
      refine va_get (D := D) (ci := 4) (v := .ref (a 2)) (C := RX4) (T := TX4) (N := 19) hx hb hw hin_wsX40 hown hK hP 0 pw_0 rfl 1 (by decide) (hw _ kw_17) (fun _ h9 => h9) rfl dX4_soldEver_14 ?_
      refine lv_iload_n hx hb dX4_soldEver_17 rfl (lv_at hl 0 rfl) ?_
      refine p_aldB hx hb hK hP (k := ((n : Nat) : Int)) (by omega) (by omega) dX4_soldEver_18 ?_
      refine va_get (D := D) (ci := 0) (v := .int (iI (g 2 ((n : Nat) : Int) 9))) (C := RX0) (T := TX0) (N := 11) hx hb hw hin_wsX00 hown hK hP (12 + ((n : Nat) : Int).toNat) (pw_B (b := ((n : Nat) : Int)) (by omega) (by omega)) rfl 9 (by decide) (hw _ kw_123) (fun _ h9 => h9) rfl dX4_soldEver_19 ?_
      refine n_add hx hb dX4_soldEver_22 ?_
      refine lv_istore_n (lv' := [(1, .int (iI ((m_sm (fun b => g 2 b 9) n) + g 2 ((n : Nat) : Int) 9))), (2, .int (iI ((n : Nat) : Int))), (0, .ref (a 0))]) hx hb dX4_soldEver_23 rfl hl (by decide) rfl (fun ls hl => ?_)
      refine n_inc (lv' := [(2, .int (iI (((n : Nat) : Int) + 1))), (1, .int (iI ((m_sm (fun b => g 2 b 9) n) + g 2 ((n : Nat) : Int) 9))), (0, .ref (a 0))]) hx hb dX4_soldEver_24 hl (k := 1) rfl (by decide) rfl (fun ls hl => ?_)
      refine lv_goto (tgt := 4) hx hb dX4_soldEver_27 (by decide) ?_
      have hl : lv_has ls 3 [(2, .int (iI (((n : Nat) : Int) + 1))), (1, .int (iI ((m_sm (fun b => g 2 b 9) n) + g 2 ((n : Nat) : Int) 9))), (0, .ref (a 0))] := lv_sub hl [0, 1, 2] rfl
      have e5 : (((n : Nat) : Int) + 1) = (((n + 1) : Nat) : Int) := by rfl
      have e6 : ((m_sm (fun b => g 2 b 9) n) + g 2 ((n : Nat) : Int) 9) = (m_sm (fun b => g 2 b 9) (n + 1)) := by first | rfl | (rw [sm_s]; simp [h4])
      have hl : lv_has ls 3 [(2, .int (iI (((n + 1) : Nat) : Int))), (1, .int (iI (m_sm (fun b => g 2 b 9) (n + 1)))), (0, .ref (a 0))] := lv_cast hl (by rw [e5, e6])
      exact ih4 (n + 1) H locs ls (by omega) hP hS hl
  have hl : lv_has ls 3 [(2, .int (iI 0)), (1, .int (iI 0)), (0, .ref (a 0))] := lv_sub hl [0, 1, 2] rfl
  have hl : lv_has ls 3 [(2, .int (iI ((0 : Nat) : Int))), (1, .int (iI (m_sm (fun b => g 2 b 9) 0))), (0, .ref (a 0))] := hl
  exact loop4 ((g 0 0 4).toNat) 0 H locs ls (by omega) hP hS hl
set_option maxHeartbeats 4000000 in
set_option maxRecDepth 100000 in
theorem c_missedEver (l : Launch) (D : va_G) (a : Nat → Nat) (cH cB cJ cI : ClassId) (ha : pj a) (g : m_St) (vt : Nat → Int32) (sz : Nat) (hWf : Wf g) : Met l yX4_missedEver (wc yX4_missedEver cX4_missedEver 3 (some .int)) ({ frames := 0, cells := 0, slots := 0, locals := 0 }) (va_Pc [.ref (a 0)] (pS D a cH cB cJ cI sz g vt)) (va_Qi (fun (r : Int32) (_ : Unit) => r = iI (m_missedEver g)) (fun _ _ => True) (fun q => sz ≤ q)) 0 0 (fun q => sz ≤ q) := by
  refine Met.ofW (cc := cX4_missedEver) (maxL := 3) (ret := (some .int)) (by decide +kernel) rfl ?_
  intro p e s m args below meth c s₁ B9 hml hv
  obtain ⟨rfl, hsz, hP, hK, hE⟩ := hv
  have hx := B9.exec
  have hb := B9.bytes
  have hr := B9.returns
  have hts := atoms_spec (ws := (wc yX4_missedEver cX4_missedEver 3 (some .int))) B9.pre
  have hw : ∀ w ∈ wsL_law0, w.before [.ref (a 0)].toArray s = true := fun w h => hts w (List.mem_cons_of_mem _ h)
  have hown : s.vm.findClass RX4 = some m.cls := findClass_of_methodNamed B9.named
  subst hsz
  have hS : va_S (fun q => s.heap.size ≤ q) s.heap s.heap [] := va_S.rf
  have hA : ∀ q : Nat, s.heap.size ≤ q → (fun q : Nat => s.heap.size ≤ q) q := fun _ h => h
  have hl := lv_entry ([.ref (a 0)]) (n := 3) (Nat.le_of_ble_eq_true rfl)
  rw [lg_entry_eq]
  generalize (lg_sl ([.ref (a 0)]) ++ List.replicate (3 - (lg_sl ([.ref (a 0)])).length) Slot.unset).toArray = ls at hl ⊢
  have hl : lv_has ls 3 [(0, .ref (a 0))] := hl
  suffices h9 : ∀ (H : Heap) (locs : List Loc), va_P D vwCl (pw a cH cB cJ cI g vt) H → va_S (fun q => s.heap.size ≤ q) s.heap H locs → W p l e (headSpec (wc yX4_missedEver cX4_missedEver 3 (some .int)) ({ frames := 0, cells := 0, slots := 0, locals := 0 })).room s m [.ref (a 0)].toArray below meth c H locs 0 0 (MQ below (va_Qi (fun (r : Int32) (_ : Unit) => r = iI (m_missedEver g)) (fun _ _ => True) (fun q => s.heap.size ≤ q)) [.ref (a 0)].toArray s 0 0 (fun q => s.heap.size ≤ q)) (F0 m 0 ls []) from h9 s.heap [] hP hS
  clear hP hS
  intro H locs hP hS
  have m4 := Wf.m4 hWf
  refine lv_iconst (v := iI 0) hx hb dX4_missedEver_0 (by decide) ?_
  refine lv_istore_n (lv' := [(1, .int (iI 0)), (0, .ref (a 0))]) hx hb dX4_missedEver_1 rfl hl (by decide) rfl (fun ls hl => ?_)
  refine lv_iconst (v := iI 0) hx hb dX4_missedEver_2 (by decide) ?_
  refine lv_istore_n (lv' := [(2, .int (iI 0)), (1, .int (iI 0)), (0, .ref (a 0))]) hx hb dX4_missedEver_3 rfl hl (by decide) rfl (fun ls hl => ?_)
  have loop4 : ∀ (d n : Nat) (H : Heap) (locs : List Loc) (ls : Array Slot), n + d = (g 0 0 4).toNat → va_P D vwCl (pw a cH cB cJ cI g vt) H → va_S (fun q => s.heap.size ≤ q) s.heap H locs → lv_has ls 3 [(2, .int (iI ((n : Nat) : Int))), (1, .int (iI (m_sm (fun b => g 2 b 10) n))), (0, .ref (a 0))] → W p l e (headSpec (wc yX4_missedEver cX4_missedEver 3 (some .int)) ({ frames := 0, cells := 0, slots := 0, locals := 0 })).room s m [.ref (a 0)].toArray below meth c H locs 0 0 (MQ below (va_Qi (fun (r : Int32) (_ : Unit) => r = iI (m_missedEver g)) (fun _ _ => True) (fun q => s.heap.size ≤ q)) [.ref (a 0)].toArray s 0 0 (fun q => s.heap.size ≤ q)) (F0 m 4 ls []) := by
    intro d
    induction d with
    | zero =>
      intro n H locs ls hn hP hS hl
      obtain rfl : n = (g 0 0 4).toNat := by omega
      refine lv_iload_n hx hb dX4_missedEver_4 rfl (lv_at hl 0 rfl) ?_
      refine lv_aload_n hx hb dX4_missedEver_5 rfl (lv_at hl 2 rfl) ?_
      have s1 := Wf.m4 hWf
      refine va_get (D := D) (ci := 4) (v := .int (iI (g 0 0 4))) (C := RX4) (T := TX4) (N := 19) hx hb hw hin_wsX40 hown hK hP 0 pw_0 rfl 4 (by decide) (hw _ kw_98) (fun _ h9 => h9) rfl dX4_missedEver_6 ?_
      refine n_icmp_ge hx hb (by unfold RI; omega) (by unfold RI; omega) (tgt := 30) dX4_missedEver_9 (by decide) (fun h2 => ?_) (fun h2 => absurd h2 (by intro h2; omega))
      refine lv_iload_n hx hb dX4_missedEver_30 rfl (lv_at hl 1 rfl) ?_
      exact W.iret (v := (iI (m_sm (fun b => g 2 b 10) ((g 0 0 4).toNat)))) hx hb hr (fun t ht hW9 => ⟨⟨(iI (m_sm (fun b => g 2 b 10) ((g 0 0 4).toNat))), (), rfl, (congrArg iI (by rfl)), trivial⟩, hS.F ht⟩) hS.2.2 dX4_missedEver_31
    | succ d ih4 =>
      intro n H locs ls hn hP hS hl
      refine lv_iload_n hx hb dX4_missedEver_4 rfl (lv_at hl 0 rfl) ?_
      refine lv_aload_n hx hb dX4_missedEver_5 rfl (lv_at hl 2 rfl) ?_
      have s3 := Wf.m4 hWf
      refine va_get (D := D) (ci := 4) (v := .int (iI (g 0 0 4))) (C := RX4) (T := TX4) (N := 19) hx hb hw hin_wsX40 hown hK hP 0 pw_0 rfl 4 (by decide) (hw _ kw_98) (fun _ h9 => h9) rfl dX4_missedEver_6 ?_
      refine n_icmp_ge hx hb (by unfold RI; omega) (by unfold RI; omega) (tgt := 30) dX4_missedEver_9 (by decide) (fun h4 => absurd h4 (by intro h4; omega)) (fun h4 => ?_)
      refine lv_iload_n hx hb dX4_missedEver_12 rfl (lv_at hl 1 rfl) ?_
      refine lv_aload_n hx hb dX4_missedEver_13 rfl (lv_at hl 2 rfl) ?_
      refine va_get (D := D) (ci := 4) (v := .ref (a 2)) (C := RX4) (T := TX4) (N := 19) hx hb hw hin_wsX40 hown hK hP 0 pw_0 rfl 1 (by decide) (hw _ kw_17) (fun _ h9 => h9) rfl dX4_missedEver_14 ?_
      refine lv_iload_n hx hb dX4_missedEver_17 rfl (lv_at hl 0 rfl) ?_
      refine p_aldB hx hb hK hP (k := ((n : Nat) : Int)) (by omega) (by omega) dX4_missedEver_18 ?_
      refine va_get (D := D) (ci := 0) (v := .int (iI (g 2 ((n : Nat) : Int) 10))) (C := RX0) (T := TX0) (N := 11) hx hb hw hin_wsX00 hown hK hP (12 + ((n : Nat) : Int).toNat) (pw_B (b := ((n : Nat) : Int)) (by omega) (by omega)) rfl 10 (by decide) (hw _ kw_128) (fun _ h9 => h9) rfl dX4_missedEver_19 ?_
      refine n_add hx hb dX4_missedEver_22 ?_
      refine lv_istore_n (lv' := [(1, .int (iI ((m_sm (fun b => g 2 b 10) n) + g 2 ((n : Nat) : Int) 10))), (2, .int (iI ((n : Nat) : Int))), (0, .ref (a 0))]) hx hb dX4_missedEver_23 rfl hl (by decide) rfl (fun ls hl => ?_)
      refine n_inc (lv' := [(2, .int (iI (((n : Nat) : Int) + 1))), (1, .int (iI ((m_sm (fun b => g 2 b 10) n) + g 2 ((n : Nat) : Int) 10))), (0, .ref (a 0))]) hx hb dX4_missedEver_24 hl (k := 1) rfl (by decide) rfl (fun ls hl => ?_)
      refine lv_goto (tgt := 4) hx hb dX4_missedEver_27 (by decide) ?_
      have hl : lv_has ls 3 [(2, .int (iI (((n : Nat) : Int) + 1))), (1, .int (iI ((m_sm (fun b => g 2 b 10) n) + g 2 ((n : Nat) : Int) 10))), (0, .ref (a 0))] := lv_sub hl [0, 1, 2] rfl
      have e5 : (((n : Nat) : Int) + 1) = (((n + 1) : Nat) : Int) := by rfl
      have e6 : ((m_sm (fun b => g 2 b 10) n) + g 2 ((n : Nat) : Int) 10) = (m_sm (fun b => g 2 b 10) (n + 1)) := by first | rfl | (rw [sm_s]; simp [h4])
      have hl : lv_has ls 3 [(2, .int (iI (((n + 1) : Nat) : Int))), (1, .int (iI (m_sm (fun b => g 2 b 10) (n + 1)))), (0, .ref (a 0))] := lv_cast hl (by rw [e5, e6])
      exact ih4 (n + 1) H locs ls (by omega) hP hS hl
  have hl : lv_has ls 3 [(2, .int (iI 0)), (1, .int (iI 0)), (0, .ref (a 0))] := lv_sub hl [0, 1, 2] rfl
  have hl : lv_has ls 3 [(2, .int (iI ((0 : Nat) : Int))), (1, .int (iI (m_sm (fun b => g 2 b 10) 0))), (0, .ref (a 0))] := hl
  exact loop4 ((g 0 0 4).toNat) 0 H locs ls (by omega) hP hS hl
end
section
set_option maxHeartbeats 4000000 in
set_option maxRecDepth 100000 in
theorem c_isFairMark (l : Launch) (D : va_G) (a : Nat → Nat) (cH cB cJ cI : ClassId) (ha : pj a) (g : m_St) (vt : Nat → Int32) (sz : Nat) (jj : Int) (bb : Int) (hWf : Wf g) (hjj : 0 ≤ jj ∧ jj < 5) (hbb : 0 ≤ bb ∧ bb < 16) : Met l yX4_isFairMark (wc yX4_isFairMark cX4_isFairMark 3 (some .boolean)) ({ frames := 1, cells := 0, slots := 0, locals := 21 }) (va_Pc [.ref (a 0), .int (iI jj), .int (iI bb)] (pS D a cH cB cJ cI sz g vt)) (va_Qi (fun (r : Int32) (_ : Unit) => r = bi (m_fair g jj bb)) (fun _ _ => True) (fun q => sz ≤ q)) 0 0 (fun q => sz ≤ q) := by
  refine Met.ofW (cc := cX4_isFairMark) (maxL := 3) (ret := (some .boolean)) (by decide +kernel) rfl ?_
  intro p e s m args below meth c s₁ B9 hml hv
  obtain ⟨rfl, hsz, hP, hK, hE⟩ := hv
  have hx := B9.exec
  have hb := B9.bytes
  have hr := B9.returns
  have hts := atoms_spec (ws := (wc yX4_isFairMark cX4_isFairMark 3 (some .boolean))) B9.pre
  have hw : ∀ w ∈ wsL_law0, w.before [.ref (a 0), .int (iI jj), .int (iI bb)].toArray s = true := fun w h => hts w (List.mem_cons_of_mem _ h)
  have hown : s.vm.findClass RX4 = some m.cls := findClass_of_methodNamed B9.named
  subst hsz
  have hS : va_S (fun q => s.heap.size ≤ q) s.heap s.heap [] := va_S.rf
  have hA : ∀ q : Nat, s.heap.size ≤ q → (fun q : Nat => s.heap.size ≤ q) q := fun _ h => h
  have hl := lv_entry ([.ref (a 0), .int (iI jj), .int (iI bb)]) (n := 3) (Nat.le_of_ble_eq_true rfl)
  rw [lg_entry_eq]
  generalize (lg_sl ([.ref (a 0), .int (iI jj), .int (iI bb)]) ++ List.replicate (3 - (lg_sl ([.ref (a 0), .int (iI jj), .int (iI bb)])).length) Slot.unset).toArray = ls at hl ⊢
  have hl : lv_has ls 3 [(0, .ref (a 0)), (1, .int (iI jj)), (2, .int (iI bb))] := hl
  suffices h9 : ∀ (H : Heap) (locs : List Loc), va_P D vwCl (pw a cH cB cJ cI g vt) H → va_S (fun q => s.heap.size ≤ q) s.heap H locs → W p l e (headSpec (wc yX4_isFairMark cX4_isFairMark 3 (some .boolean)) ({ frames := 1, cells := 0, slots := 0, locals := 21 })).room s m [.ref (a 0), .int (iI jj), .int (iI bb)].toArray below meth c H locs 0 0 (MQ below (va_Qi (fun (r : Int32) (_ : Unit) => r = bi (m_fair g jj bb)) (fun _ _ => True) (fun q => s.heap.size ≤ q)) [.ref (a 0), .int (iI jj), .int (iI bb)].toArray s 0 0 (fun q => s.heap.size ≤ q)) (F0 m 0 ls []) from h9 s.heap [] hP hS
  clear hP hS
  intro H locs hP hS
  refine lv_aload_n hx hb dX4_isFairMark_0 rfl (lv_at hl 0 rfl) ?_
  refine va_get (D := D) (ci := 4) (v := .ref (a 3)) (C := RX4) (T := TX4) (N := 19) hx hb hw hin_wsX40 hown hK hP 0 pw_0 rfl 2 (by decide) (hw _ kw_19) (fun _ h9 => h9) rfl dX4_isFairMark_1 ?_
  refine lv_iload_n hx hb dX4_isFairMark_4 rfl (lv_at hl 1 rfl) ?_
  refine p_aldJ hx hb hK hP (k := jj) (by omega) (by omega) dX4_isFairMark_5 ?_
  refine va_get (D := D) (ci := 2) (v := .ref (a (28 + 3 + 6 * jj.toNat))) (C := RX2) (T := TX2) (N := 16) hx hb hw hin_wsX20 hown hK hP (28 + 6 * jj.toNat) (pw_J (j := jj) (by omega) (by omega)) rfl 11 (by decide) (hw _ kw_157) (fun _ h9 => h9) rfl dX4_isFairMark_6 ?_
  refine lv_iload_n hx hb dX4_isFairMark_9 rfl (lv_at hl 2 rfl) ?_
  refine p_rd hx hb hK hP (j := jj) (k := bb) (r := 3) (by omega) (by omega) (by decide) (by omega) (by rw [if_neg (by decide)]; omega) dX4_isFairMark_10 ?_
  have s1 := Wf.r6 hWf (j := jj) (k := bb) (by omega) (by omega) (by omega) (by omega)
  rw [show g (3 + 3) jj bb = g 6 jj bb from rfl]
  refine lv_iconst (v := iI (-1)) hx hb dX4_isFairMark_11 (by decide) ?_
  refine n_icmp_eq hx hb (by unfold RI; omega) (by unfold RI; omega) (tgt := 40) dX4_isFairMark_12 (by decide) (fun h2 => ?_) (fun h2 => ?_)
  · skip
    refine lv_iconst (v := iI 0) hx hb dX4_isFairMark_40 (by decide) ?_
    exact W.zret (v := (iI 0)) (ty := .boolean) hx hb hr (by decide +kernel) (fun t ht hW9 => ⟨⟨(iI 0), (), rfl, (show iI 0 = bi (m_fair g jj bb) from by rw [show (m_fair g jj bb) = false from by simp [m_fair, h2]]; rfl), trivial⟩, hS.F ht⟩) hS.2.2 dX4_isFairMark_41
  · skip
    refine lv_aload_n hx hb dX4_isFairMark_15 rfl (lv_at hl 0 rfl) ?_
    refine va_get (D := D) (ci := 4) (v := .ref (a 3)) (C := RX4) (T := TX4) (N := 19) hx hb hw hin_wsX40 hown hK hP 0 pw_0 rfl 2 (by decide) (hw _ kw_19) (fun _ h9 => h9) rfl dX4_isFairMark_16 ?_
    refine lv_iload_n hx hb dX4_isFairMark_19 rfl (lv_at hl 1 rfl) ?_
    refine p_aldJ hx hb hK hP (k := jj) (by omega) (by omega) dX4_isFairMark_20 ?_
    refine lv_aload_n hx hb dX4_isFairMark_21 rfl (lv_at hl 0 rfl) ?_
    refine va_get (D := D) (ci := 4) (v := .ref (a 2)) (C := RX4) (T := TX4) (N := 19) hx hb hw hin_wsX40 hown hK hP 0 pw_0 rfl 1 (by decide) (hw _ kw_17) (fun _ h9 => h9) rfl dX4_isFairMark_22 ?_
    refine lv_iload_n hx hb dX4_isFairMark_25 rfl (lv_at hl 2 rfl) ?_
    refine p_aldB hx hb hK hP (k := bb) (by omega) (by omega) dX4_isFairMark_26 ?_
    have s3 := Wf.b1 hWf (k := bb) (by omega) (by omega)
    refine va_get (D := D) (ci := 0) (v := .int (iI (g 2 bb 1))) (C := RX0) (T := TX0) (N := 11) hx hb hw hin_wsX00 hown hK hP (12 + bb.toNat) (pw_B (b := bb) (by omega) (by omega)) rfl 1 (by decide) (hw _ kw_211) (fun _ h9 => h9) rfl dX4_isFairMark_27 ?_
    refine va_calli (va_runV (As := [.int (iI (g 2 bb 1))]) (rest := []) ⟨hx, hb, hml, hown, hw⟩ (c_isAgainst l D a cH cB cJ cI ha g vt H.size jj (g 2 bb 1) hWf (by omega) (by omega)) (cwV 1 hw (gA_V kw_238 kw_239 kw_240 kw_34 kw_241) rfl rfl rfl (by decide +kernel) ⟨Nat.le_of_ble_eq_true rfl, Nat.le_of_ble_eq_true rfl⟩) (pS_v (ci := 2) (q0 := (28 + 6 * jj.toNat)) rfl (pw_J (j := jj) (by omega) (by omega)) hP hK hE) rfl rfl hl.1 rfl (lv_room (Nat.le_of_ble_eq_true rfl)) dX4_isFairMark_30 ⟨Nat.le_of_ble_eq_true rfl, Nat.le_of_ble_eq_true rfl⟩) hS (fun q h1 h2 => ro_A h1 h2) (fun q h => ro_F hS hA q h) (fun r u t H1 locs ht hvm hw9 hB9 hz1 hk1 hS => ?_)
    have hw9 : r = (bi (m_agn g jj (g 2 bb 1))) := hw9
    subst hw9
    have hP := ro_P hP hk1
    generalize H1 = H at hP hS ⊢
    refine n_b_ne hx hb (tgt := 40) dX4_isFairMark_33 (by decide) (fun h4 => ?_) (fun h4 => ?_)
    · skip
      refine lv_iconst (v := iI 0) hx hb dX4_isFairMark_40 (by decide) ?_
      exact W.zret (v := (iI 0)) (ty := .boolean) hx hb hr (by decide +kernel) (fun t ht hW9 => ⟨⟨(iI 0), (), rfl, (show iI 0 = bi (m_fair g jj bb) from by rw [show (m_fair g jj bb) = false from by simp [m_fair, h2, h4]]; rfl), trivial⟩, hS.F ht⟩) hS.2.2 dX4_isFairMark_41
    · skip
      refine lv_iconst (v := iI 1) hx hb dX4_isFairMark_36 (by decide) ?_
      refine lv_goto (tgt := 41) hx hb dX4_isFairMark_37 (by decide) ?_
      exact W.zret (v := (iI 1)) (ty := .boolean) hx hb hr (by decide +kernel) (fun t ht hW9 => ⟨⟨(iI 1), (), rfl, (show iI 1 = bi (m_fair g jj bb) from by rw [show (m_fair g jj bb) = true from by simp [m_fair, h2, h4]]; rfl), trivial⟩, hS.F ht⟩) hS.2.2 dX4_isFairMark_41
set_option maxHeartbeats 4000000 in
set_option maxRecDepth 100000 in
theorem c_fairMarksOf (l : Launch) (D : va_G) (a : Nat → Nat) (cH cB cJ cI : ClassId) (ha : pj a) (g : m_St) (vt : Nat → Int32) (sz : Nat) (bb : Int) (hWf : Wf g) (hbb : 0 ≤ bb ∧ bb < 16) : Met l yX4_fairMarksOf (wc yX4_fairMarksOf cX4_fairMarksOf 4 (some .int)) ({ frames := 2, cells := 0, slots := 0, locals := 43 }) (va_Pc [.ref (a 0), .int (iI bb)] (pS D a cH cB cJ cI sz g vt)) (va_Qi (fun (r : Int32) (_ : Unit) => r = iI (m_fairCount g bb)) (fun _ _ => True) (fun q => sz ≤ q)) 0 0 (fun q => sz ≤ q) := by
  refine Met.ofW (cc := cX4_fairMarksOf) (maxL := 4) (ret := (some .int)) (by decide +kernel) rfl ?_
  intro p e s m args below meth c s₁ B9 hml hv
  obtain ⟨rfl, hsz, hP, hK, hE⟩ := hv
  have hx := B9.exec
  have hb := B9.bytes
  have hr := B9.returns
  have hts := atoms_spec (ws := (wc yX4_fairMarksOf cX4_fairMarksOf 4 (some .int))) B9.pre
  have hw : ∀ w ∈ wsL_law0, w.before [.ref (a 0), .int (iI bb)].toArray s = true := fun w h => hts w (List.mem_cons_of_mem _ h)
  have hown : s.vm.findClass RX4 = some m.cls := findClass_of_methodNamed B9.named
  subst hsz
  have hS : va_S (fun q => s.heap.size ≤ q) s.heap s.heap [] := va_S.rf
  have hA : ∀ q : Nat, s.heap.size ≤ q → (fun q : Nat => s.heap.size ≤ q) q := fun _ h => h
  have hl := lv_entry ([.ref (a 0), .int (iI bb)]) (n := 4) (Nat.le_of_ble_eq_true rfl)
  rw [lg_entry_eq]
  generalize (lg_sl ([.ref (a 0), .int (iI bb)]) ++ List.replicate (4 - (lg_sl ([.ref (a 0), .int (iI bb)])).length) Slot.unset).toArray = ls at hl ⊢
  have hl : lv_has ls 4 [(0, .ref (a 0)), (1, .int (iI bb))] := hl
  suffices h9 : ∀ (H : Heap) (locs : List Loc), va_P D vwCl (pw a cH cB cJ cI g vt) H → va_S (fun q => s.heap.size ≤ q) s.heap H locs → W p l e (headSpec (wc yX4_fairMarksOf cX4_fairMarksOf 4 (some .int)) ({ frames := 2, cells := 0, slots := 0, locals := 43 })).room s m [.ref (a 0), .int (iI bb)].toArray below meth c H locs 0 0 (MQ below (va_Qi (fun (r : Int32) (_ : Unit) => r = iI (m_fairCount g bb)) (fun _ _ => True) (fun q => s.heap.size ≤ q)) [.ref (a 0), .int (iI bb)].toArray s 0 0 (fun q => s.heap.size ≤ q)) (F0 m 0 ls []) from h9 s.heap [] hP hS
  clear hP hS
  intro H locs hP hS
  have m5 := Wf.m5 hWf
  refine lv_iconst (v := iI 0) hx hb dX4_fairMarksOf_0 (by decide) ?_
  refine lv_istore_n (lv' := [(2, .int (iI 0)), (0, .ref (a 0)), (1, .int (iI bb))]) hx hb dX4_fairMarksOf_1 rfl hl (by decide) rfl (fun ls hl => ?_)
  refine lv_iconst (v := iI 0) hx hb dX4_fairMarksOf_2 (by decide) ?_
  refine lv_istore_n (lv' := [(3, .int (iI 0)), (2, .int (iI 0)), (0, .ref (a 0)), (1, .int (iI bb))]) hx hb dX4_fairMarksOf_3 rfl hl (by decide) rfl (fun ls hl => ?_)
  have loop4 : ∀ (d n : Nat) (H : Heap) (locs : List Loc) (ls : Array Slot), n + d = (g 0 0 5).toNat → va_P D vwCl (pw a cH cB cJ cI g vt) H → va_S (fun q => s.heap.size ≤ q) s.heap H locs → lv_has ls 4 [(3, .int (iI ((n : Nat) : Int))), (2, .int (iI (m_cnt (fun j => m_fair g j bb) n))), (0, .ref (a 0)), (1, .int (iI bb))] → W p l e (headSpec (wc yX4_fairMarksOf cX4_fairMarksOf 4 (some .int)) ({ frames := 2, cells := 0, slots := 0, locals := 43 })).room s m [.ref (a 0), .int (iI bb)].toArray below meth c H locs 0 0 (MQ below (va_Qi (fun (r : Int32) (_ : Unit) => r = iI (m_fairCount g bb)) (fun _ _ => True) (fun q => s.heap.size ≤ q)) [.ref (a 0), .int (iI bb)].toArray s 0 0 (fun q => s.heap.size ≤ q)) (F0 m 4 ls []) := by
    intro d
    induction d with
    | zero =>
      intro n H locs ls hn hP hS hl
      obtain rfl : n = (g 0 0 5).toNat := by omega
      refine lv_iload_n hx hb dX4_fairMarksOf_4 rfl (lv_at hl 0 rfl) ?_
      refine lv_aload_n hx hb dX4_fairMarksOf_5 rfl (lv_at hl 2 rfl) ?_
      have s1 := Wf.m5 hWf
      refine va_get (D := D) (ci := 4) (v := .int (iI (g 0 0 5))) (C := RX4) (T := TX4) (N := 19) hx hb hw hin_wsX40 hown hK hP 0 pw_0 rfl 5 (by decide) (hw _ kw_81) (fun _ h9 => h9) rfl dX4_fairMarksOf_6 ?_
      refine n_icmp_ge hx hb (by unfold RI; omega) (by unfold RI; omega) (tgt := 30) dX4_fairMarksOf_9 (by decide) (fun h2 => ?_) (fun h2 => absurd h2 (by intro h2; omega))
      refine lv_iload_n hx hb dX4_fairMarksOf_30 rfl (lv_at hl 1 rfl) ?_
      exact W.iret (v := (iI (m_cnt (fun j => m_fair g j bb) ((g 0 0 5).toNat)))) hx hb hr (fun t ht hW9 => ⟨⟨(iI (m_cnt (fun j => m_fair g j bb) ((g 0 0 5).toNat))), (), rfl, (congrArg iI (by rfl)), trivial⟩, hS.F ht⟩) hS.2.2 dX4_fairMarksOf_31
    | succ d ih4 =>
      intro n H locs ls hn hP hS hl
      refine lv_iload_n hx hb dX4_fairMarksOf_4 rfl (lv_at hl 0 rfl) ?_
      refine lv_aload_n hx hb dX4_fairMarksOf_5 rfl (lv_at hl 2 rfl) ?_
      have s3 := Wf.m5 hWf
      refine va_get (D := D) (ci := 4) (v := .int (iI (g 0 0 5))) (C := RX4) (T := TX4) (N := 19) hx hb hw hin_wsX40 hown hK hP 0 pw_0 rfl 5 (by decide) (hw _ kw_81) (fun _ h9 => h9) rfl dX4_fairMarksOf_6 ?_
      refine n_icmp_ge hx hb (by unfold RI; omega) (by unfold RI; omega) (tgt := 30) dX4_fairMarksOf_9 (by decide) (fun h4 => absurd h4 (by intro h4; omega)) (fun h4 => ?_)
      refine lv_aload_n hx hb dX4_fairMarksOf_12 rfl (lv_at hl 2 rfl) ?_
      refine lv_iload_n hx hb dX4_fairMarksOf_13 rfl (lv_at hl 0 rfl) ?_
      refine lv_iload_n hx hb dX4_fairMarksOf_14 rfl (lv_at hl 3 rfl) ?_
      refine va_calli (va_runV (As := [.int (iI ((n : Nat) : Int)), .int (iI bb)]) (rest := []) ⟨hx, hb, hml, hown, hw⟩ (c_isFairMark l D a cH cB cJ cI ha g vt H.size ((n : Nat) : Int) bb hWf (by omega) (by omega)) (cwV 2 hw (gA_V kw_234 kw_235 kw_236 kw_2 kw_237) rfl rfl rfl (by decide +kernel) ⟨Nat.le_of_ble_eq_true rfl, Nat.le_of_ble_eq_true rfl⟩) (pS_v (ci := 4) (q0 := 0) rfl pw_0 hP hK hE) rfl rfl hl.1 rfl (lv_room (Nat.le_of_ble_eq_true rfl)) dX4_fairMarksOf_15 ⟨Nat.le_of_ble_eq_true rfl, Nat.le_of_ble_eq_true rfl⟩) hS (fun q h1 h2 => ro_A h1 h2) (fun q h => ro_F hS hA q h) (fun r u t H1 locs ht hvm hw9 hB9 hz1 hk1 hS => ?_)
      have hw9 : r = (bi (m_fair g ((n : Nat) : Int) bb)) := hw9
      subst hw9
      have hP := ro_P hP hk1
      generalize H1 = H at hP hS ⊢
      refine n_b_eq hx hb (tgt := 24) dX4_fairMarksOf_18 (by decide) (fun h5 => ?_) (fun h5 => ?_)
      · skip
        refine n_inc (lv' := [(3, .int (iI (((n : Nat) : Int) + 1))), (2, .int (iI (m_cnt (fun j => m_fair g j bb) n))), (0, .ref (a 0)), (1, .int (iI bb))]) hx hb dX4_fairMarksOf_24 hl (k := 0) rfl (by decide) rfl (fun ls hl => ?_)
        refine lv_goto (tgt := 4) hx hb dX4_fairMarksOf_27 (by decide) ?_
        have hl : lv_has ls 4 [(3, .int (iI (((n : Nat) : Int) + 1))), (2, .int (iI (m_cnt (fun j => m_fair g j bb) n))), (0, .ref (a 0)), (1, .int (iI bb))] := lv_sub hl [0, 1, 2, 3] rfl
        have e6 : (((n : Nat) : Int) + 1) = (((n + 1) : Nat) : Int) := by rfl
        have e7 : (m_cnt (fun j => m_fair g j bb) n) = (m_cnt (fun j => m_fair g j bb) (n + 1)) := by exact (cnt_f (q := (fun j => m_fair g j bb)) (n := n) (by simp [h4, h5])).symm
        have hl : lv_has ls 4 [(3, .int (iI (((n + 1) : Nat) : Int))), (2, .int (iI (m_cnt (fun j => m_fair g j bb) (n + 1)))), (0, .ref (a 0)), (1, .int (iI bb))] := lv_cast hl (by rw [e6, e7])
        exact ih4 (n + 1) H locs ls (by omega) hP hS hl
      · skip
        refine n_inc (lv' := [(2, .int (iI ((m_cnt (fun j => m_fair g j bb) n) + 1))), (3, .int (iI ((n : Nat) : Int))), (0, .ref (a 0)), (1, .int (iI bb))]) hx hb dX4_fairMarksOf_21 hl (k := 1) rfl (by decide) rfl (fun ls hl => ?_)
        refine n_inc (lv' := [(3, .int (iI (((n : Nat) : Int) + 1))), (2, .int (iI ((m_cnt (fun j => m_fair g j bb) n) + 1))), (0, .ref (a 0)), (1, .int (iI bb))]) hx hb dX4_fairMarksOf_24 hl (k := 1) rfl (by decide) rfl (fun ls hl => ?_)
        refine lv_goto (tgt := 4) hx hb dX4_fairMarksOf_27 (by decide) ?_
        have hl : lv_has ls 4 [(3, .int (iI (((n : Nat) : Int) + 1))), (2, .int (iI ((m_cnt (fun j => m_fair g j bb) n) + 1))), (0, .ref (a 0)), (1, .int (iI bb))] := lv_sub hl [0, 1, 2, 3] rfl
        have e8 : (((n : Nat) : Int) + 1) = (((n + 1) : Nat) : Int) := by rfl
        have e9 : ((m_cnt (fun j => m_fair g j bb) n) + 1) = (m_cnt (fun j => m_fair g j bb) (n + 1)) := by exact (cnt_t (q := (fun j => m_fair g j bb)) (n := n) (by simp [h4, h5])).symm
        have hl : lv_has ls 4 [(3, .int (iI (((n + 1) : Nat) : Int))), (2, .int (iI (m_cnt (fun j => m_fair g j bb) (n + 1)))), (0, .ref (a 0)), (1, .int (iI bb))] := lv_cast hl (by rw [e8, e9])
        exact ih4 (n + 1) H locs ls (by omega) hP hS hl
  have hl : lv_has ls 4 [(3, .int (iI 0)), (2, .int (iI 0)), (0, .ref (a 0)), (1, .int (iI bb))] := lv_sub hl [0, 1, 2, 3] rfl
  have hl : lv_has ls 4 [(3, .int (iI ((0 : Nat) : Int))), (2, .int (iI (m_cnt (fun j => m_fair g j bb) 0))), (0, .ref (a 0)), (1, .int (iI bb))] := hl
  exact loop4 ((g 0 0 5).toNat) 0 H locs ls (by omega) hP hS hl
set_option maxHeartbeats 4000000 in
set_option maxRecDepth 100000 in
theorem c_meanOfTenfoldMarks (l : Launch) (D : va_G) (a : Nat → Nat) (cH cB cJ cI : ClassId) (ha : pj a) (g : m_St) (vt : Nat → Int32) (sz : Nat) (jj : Int) (hWf : Wf g) (hjj : 0 ≤ jj ∧ jj < 5) : Met l yX2_meanOfTenfoldMarks (wc yX2_meanOfTenfoldMarks cX2_meanOfTenfoldMarks 1 (some .int)) ({ frames := 0, cells := 0, slots := 0, locals := 0 }) (va_Pc [.ref (a (28 + 6 * jj.toNat))] (pS D a cH cB cJ cI sz g vt)) (va_Qi (fun (r : Int32) (_ : Unit) => r = iI (m_mean10 g jj)) (fun _ _ => True) (fun q => sz ≤ q)) 0 0 (fun q => sz ≤ q) := by
  refine Met.ofW (cc := cX2_meanOfTenfoldMarks) (maxL := 1) (ret := (some .int)) (by decide +kernel) rfl ?_
  intro p e s m args below meth c s₁ B9 hml hv
  obtain ⟨rfl, hsz, hP, hK, hE⟩ := hv
  have hx := B9.exec
  have hb := B9.bytes
  have hr := B9.returns
  have hts := atoms_spec (ws := (wc yX2_meanOfTenfoldMarks cX2_meanOfTenfoldMarks 1 (some .int))) B9.pre
  have hw : ∀ w ∈ wsL_law0, w.before [.ref (a (28 + 6 * jj.toNat))].toArray s = true := fun w h => hts w (List.mem_cons_of_mem _ h)
  have hown : s.vm.findClass RX2 = some m.cls := findClass_of_methodNamed B9.named
  subst hsz
  have hS : va_S (fun q => s.heap.size ≤ q) s.heap s.heap [] := va_S.rf
  have hA : ∀ q : Nat, s.heap.size ≤ q → (fun q : Nat => s.heap.size ≤ q) q := fun _ h => h
  have hl := lv_entry ([.ref (a (28 + 6 * jj.toNat))]) (n := 1) (Nat.le_of_ble_eq_true rfl)
  rw [lg_entry_eq]
  generalize (lg_sl ([.ref (a (28 + 6 * jj.toNat))]) ++ List.replicate (1 - (lg_sl ([.ref (a (28 + 6 * jj.toNat))])).length) Slot.unset).toArray = ls at hl ⊢
  have hl : lv_has ls 1 [(0, .ref (a (28 + 6 * jj.toNat)))] := hl
  suffices h9 : ∀ (H : Heap) (locs : List Loc), va_P D vwCl (pw a cH cB cJ cI g vt) H → va_S (fun q => s.heap.size ≤ q) s.heap H locs → W p l e (headSpec (wc yX2_meanOfTenfoldMarks cX2_meanOfTenfoldMarks 1 (some .int)) ({ frames := 0, cells := 0, slots := 0, locals := 0 })).room s m [.ref (a (28 + 6 * jj.toNat))].toArray below meth c H locs 0 0 (MQ below (va_Qi (fun (r : Int32) (_ : Unit) => r = iI (m_mean10 g jj)) (fun _ _ => True) (fun q => s.heap.size ≤ q)) [.ref (a (28 + 6 * jj.toNat))].toArray s 0 0 (fun q => s.heap.size ≤ q)) (F0 m 0 ls []) from h9 s.heap [] hP hS
  clear hP hS
  intro H locs hP hS
  refine lv_aload_n hx hb dX2_meanOfTenfoldMarks_0 rfl (lv_at hl 0 rfl) ?_
  have s1 := Wf.j9 hWf (k := jj) (by omega) (by omega)
  refine va_get (D := D) (ci := 2) (v := .int (iI (g 3 jj 9))) (C := RX2) (T := TX2) (N := 16) hx hb hw hin_wsX20 hown hK hP (28 + 6 * jj.toNat) (pw_J (j := jj) (by omega) (by omega)) rfl 9 (by decide) (hw _ kw_247) (fun _ h9 => h9) rfl dX2_meanOfTenfoldMarks_1 ?_
  refine n_if_ne hx hb (by unfold RI; omega) (tgt := 11) dX2_meanOfTenfoldMarks_4 (by decide) (fun h2 => ?_) (fun h2 => ?_)
  · skip
    refine lv_bipush (v := iI 10) hx hb dX2_meanOfTenfoldMarks_11 (by decide) ?_
    refine lv_aload_n hx hb dX2_meanOfTenfoldMarks_13 rfl (lv_at hl 0 rfl) ?_
    have s3 := Wf.j12 hWf (k := jj) (by omega) (by omega)
    refine va_get (D := D) (ci := 2) (v := .int (iI (g 3 jj 12))) (C := RX2) (T := TX2) (N := 16) hx hb hw hin_wsX20 hown hK hP (28 + 6 * jj.toNat) (pw_J (j := jj) (by omega) (by omega)) rfl 12 (by decide) (hw _ kw_248) (fun _ h9 => h9) rfl dX2_meanOfTenfoldMarks_14 ?_
    refine n_mul hx hb dX2_meanOfTenfoldMarks_17 ?_
    refine lv_aload_n hx hb dX2_meanOfTenfoldMarks_18 rfl (lv_at hl 0 rfl) ?_
    refine va_get (D := D) (ci := 2) (v := .int (iI (g 3 jj 9))) (C := RX2) (T := TX2) (N := 16) hx hb hw hin_wsX20 hown hK hP (28 + 6 * jj.toNat) (pw_J (j := jj) (by omega) (by omega)) rfl 9 (by decide) (hw _ kw_247) (fun _ h9 => h9) rfl dX2_meanOfTenfoldMarks_19 ?_
    refine n_div hx hb (by unfold RI; omega) (by unfold RI; omega) (by omega) dX2_meanOfTenfoldMarks_22 ?_
    exact W.iret (v := (iI ((10 * g 3 jj 12).tdiv (g 3 jj 9)))) hx hb hr (fun t ht hW9 => ⟨⟨(iI ((10 * g 3 jj 12).tdiv (g 3 jj 9))), (), rfl, (congrArg iI (by unfold m_mean10; first | rw [if_pos h2] | rw [if_neg h2])), trivial⟩, hS.F ht⟩) hS.2.2 dX2_meanOfTenfoldMarks_23
  · skip
    refine lv_iconst (v := iI 0) hx hb dX2_meanOfTenfoldMarks_7 (by decide) ?_
    refine lv_goto (tgt := 23) hx hb dX2_meanOfTenfoldMarks_8 (by decide) ?_
    exact W.iret (v := (iI 0)) hx hb hr (fun t ht hW9 => ⟨⟨(iI 0), (), rfl, (congrArg iI (by unfold m_mean10; first | rw [if_pos h2] | rw [if_neg h2])), trivial⟩, hS.F ht⟩) hS.2.2 dX2_meanOfTenfoldMarks_23
set_option maxHeartbeats 4000000 in
set_option maxRecDepth 100000 in
theorem c_pointsOf (l : Launch) (D : va_G) (a : Nat → Nat) (cH cB cJ cI : ClassId) (ha : pj a) (g : m_St) (vt : Nat → Int32) (sz : Nat) (bb : Int) (hWf : Wf g) (hbb : 0 ≤ bb ∧ bb < 16) : Met l yX4_pointsOf (wc yX4_pointsOf cX4_pointsOf 4 (some .int)) ({ frames := 1, cells := 0, slots := 0, locals := 21 }) (va_Pc [.ref (a 0), .int (iI bb)] (pS D a cH cB cJ cI sz g vt)) (va_Qi (fun (r : Int32) (_ : Unit) => r = iI (m_pts g bb)) (fun _ _ => True) (fun q => sz ≤ q)) 0 0 (fun q => sz ≤ q) := by
  refine Met.ofW (cc := cX4_pointsOf) (maxL := 4) (ret := (some .int)) (by decide +kernel) rfl ?_
  intro p e s m args below meth c s₁ B9 hml hv
  obtain ⟨rfl, hsz, hP, hK, hE⟩ := hv
  have hx := B9.exec
  have hb := B9.bytes
  have hr := B9.returns
  have hts := atoms_spec (ws := (wc yX4_pointsOf cX4_pointsOf 4 (some .int))) B9.pre
  have hw : ∀ w ∈ wsL_law0, w.before [.ref (a 0), .int (iI bb)].toArray s = true := fun w h => hts w (List.mem_cons_of_mem _ h)
  have hown : s.vm.findClass RX4 = some m.cls := findClass_of_methodNamed B9.named
  subst hsz
  have hS : va_S (fun q => s.heap.size ≤ q) s.heap s.heap [] := va_S.rf
  have hA : ∀ q : Nat, s.heap.size ≤ q → (fun q : Nat => s.heap.size ≤ q) q := fun _ h => h
  have hl := lv_entry ([.ref (a 0), .int (iI bb)]) (n := 4) (Nat.le_of_ble_eq_true rfl)
  rw [lg_entry_eq]
  generalize (lg_sl ([.ref (a 0), .int (iI bb)]) ++ List.replicate (4 - (lg_sl ([.ref (a 0), .int (iI bb)])).length) Slot.unset).toArray = ls at hl ⊢
  have hl : lv_has ls 4 [(0, .ref (a 0)), (1, .int (iI bb))] := hl
  suffices h9 : ∀ (H : Heap) (locs : List Loc), va_P D vwCl (pw a cH cB cJ cI g vt) H → va_S (fun q => s.heap.size ≤ q) s.heap H locs → W p l e (headSpec (wc yX4_pointsOf cX4_pointsOf 4 (some .int)) ({ frames := 1, cells := 0, slots := 0, locals := 21 })).room s m [.ref (a 0), .int (iI bb)].toArray below meth c H locs 0 0 (MQ below (va_Qi (fun (r : Int32) (_ : Unit) => r = iI (m_pts g bb)) (fun _ _ => True) (fun q => s.heap.size ≤ q)) [.ref (a 0), .int (iI bb)].toArray s 0 0 (fun q => s.heap.size ≤ q)) (F0 m 0 ls []) from h9 s.heap [] hP hS
  clear hP hS
  intro H locs hP hS
  have m5 := Wf.m5 hWf
  refine lv_iconst (v := iI 0) hx hb dX4_pointsOf_0 (by decide) ?_
  refine lv_istore_n (lv' := [(2, .int (iI 0)), (0, .ref (a 0)), (1, .int (iI bb))]) hx hb dX4_pointsOf_1 rfl hl (by decide) rfl (fun ls hl => ?_)
  refine lv_iconst (v := iI 0) hx hb dX4_pointsOf_2 (by decide) ?_
  refine lv_istore_n (lv' := [(3, .int (iI 0)), (2, .int (iI 0)), (0, .ref (a 0)), (1, .int (iI bb))]) hx hb dX4_pointsOf_3 rfl hl (by decide) rfl (fun ls hl => ?_)
  have loop4 : ∀ (d n : Nat) (H : Heap) (locs : List Loc) (ls : Array Slot), n + d = (g 0 0 5).toNat → va_P D vwCl (pw a cH cB cJ cI g vt) H → va_S (fun q => s.heap.size ≤ q) s.heap H locs → lv_has ls 4 [(3, .int (iI ((n : Nat) : Int))), (2, .int (iI (m_sm (fun j => bif m_agn g j (g 2 bb 1) then 0 else g 7 j bb) n))), (0, .ref (a 0)), (1, .int (iI bb))] → W p l e (headSpec (wc yX4_pointsOf cX4_pointsOf 4 (some .int)) ({ frames := 1, cells := 0, slots := 0, locals := 21 })).room s m [.ref (a 0), .int (iI bb)].toArray below meth c H locs 0 0 (MQ below (va_Qi (fun (r : Int32) (_ : Unit) => r = iI (m_pts g bb)) (fun _ _ => True) (fun q => s.heap.size ≤ q)) [.ref (a 0), .int (iI bb)].toArray s 0 0 (fun q => s.heap.size ≤ q)) (F0 m 4 ls []) := by
    intro d
    induction d with
    | zero =>
      intro n H locs ls hn hP hS hl
      obtain rfl : n = (g 0 0 5).toNat := by omega
      refine lv_iload_n hx hb dX4_pointsOf_4 rfl (lv_at hl 0 rfl) ?_
      refine lv_aload_n hx hb dX4_pointsOf_5 rfl (lv_at hl 2 rfl) ?_
      have s1 := Wf.m5 hWf
      refine va_get (D := D) (ci := 4) (v := .int (iI (g 0 0 5))) (C := RX4) (T := TX4) (N := 19) hx hb hw hin_wsX40 hown hK hP 0 pw_0 rfl 5 (by decide) (hw _ kw_81) (fun _ h9 => h9) rfl dX4_pointsOf_6 ?_
      refine n_icmp_ge hx hb (by unfold RI; omega) (by unfold RI; omega) (tgt := 53) dX4_pointsOf_9 (by decide) (fun h2 => ?_) (fun h2 => absurd h2 (by intro h2; omega))
      refine lv_iload_n hx hb dX4_pointsOf_53 rfl (lv_at hl 1 rfl) ?_
      exact W.iret (v := (iI (m_sm (fun j => bif m_agn g j (g 2 bb 1) then 0 else g 7 j bb) ((g 0 0 5).toNat)))) hx hb hr (fun t ht hW9 => ⟨⟨(iI (m_sm (fun j => bif m_agn g j (g 2 bb 1) then 0 else g 7 j bb) ((g 0 0 5).toNat))), (), rfl, (congrArg iI (by rfl)), trivial⟩, hS.F ht⟩) hS.2.2 dX4_pointsOf_54
    | succ d ih4 =>
      intro n H locs ls hn hP hS hl
      refine lv_iload_n hx hb dX4_pointsOf_4 rfl (lv_at hl 0 rfl) ?_
      refine lv_aload_n hx hb dX4_pointsOf_5 rfl (lv_at hl 2 rfl) ?_
      have s3 := Wf.m5 hWf
      refine va_get (D := D) (ci := 4) (v := .int (iI (g 0 0 5))) (C := RX4) (T := TX4) (N := 19) hx hb hw hin_wsX40 hown hK hP 0 pw_0 rfl 5 (by decide) (hw _ kw_81) (fun _ h9 => h9) rfl dX4_pointsOf_6 ?_
      refine n_icmp_ge hx hb (by unfold RI; omega) (by unfold RI; omega) (tgt := 53) dX4_pointsOf_9 (by decide) (fun h4 => absurd h4 (by intro h4; omega)) (fun h4 => ?_)
      refine lv_aload_n hx hb dX4_pointsOf_12 rfl (lv_at hl 2 rfl) ?_
      refine va_get (D := D) (ci := 4) (v := .ref (a 3)) (C := RX4) (T := TX4) (N := 19) hx hb hw hin_wsX40 hown hK hP 0 pw_0 rfl 2 (by decide) (hw _ kw_19) (fun _ h9 => h9) rfl dX4_pointsOf_13 ?_
      refine lv_iload_n hx hb dX4_pointsOf_16 rfl (lv_at hl 0 rfl) ?_
      refine p_aldJ hx hb hK hP (k := ((n : Nat) : Int)) (by omega) (by omega) dX4_pointsOf_17 ?_
      refine lv_aload_n hx hb dX4_pointsOf_18 rfl (lv_at hl 2 rfl) ?_
      refine va_get (D := D) (ci := 4) (v := .ref (a 2)) (C := RX4) (T := TX4) (N := 19) hx hb hw hin_wsX40 hown hK hP 0 pw_0 rfl 1 (by decide) (hw _ kw_17) (fun _ h9 => h9) rfl dX4_pointsOf_19 ?_
      refine lv_iload_n hx hb dX4_pointsOf_22 rfl (lv_at hl 3 rfl) ?_
      refine p_aldB hx hb hK hP (k := bb) (by omega) (by omega) dX4_pointsOf_23 ?_
      have s5 := Wf.b1 hWf (k := bb) (by omega) (by omega)
      refine va_get (D := D) (ci := 0) (v := .int (iI (g 2 bb 1))) (C := RX0) (T := TX0) (N := 11) hx hb hw hin_wsX00 hown hK hP (12 + bb.toNat) (pw_B (b := bb) (by omega) (by omega)) rfl 1 (by decide) (hw _ kw_211) (fun _ h9 => h9) rfl dX4_pointsOf_24 ?_
      refine va_calli (va_runV (As := [.int (iI (g 2 bb 1))]) (rest := []) ⟨hx, hb, hml, hown, hw⟩ (c_isAgainst l D a cH cB cJ cI ha g vt H.size ((n : Nat) : Int) (g 2 bb 1) hWf (by omega) (by omega)) (cwV 1 hw (gA_V kw_238 kw_239 kw_240 kw_34 kw_241) rfl rfl rfl (by decide +kernel) ⟨Nat.le_of_ble_eq_true rfl, Nat.le_of_ble_eq_true rfl⟩) (pS_v (ci := 2) (q0 := (28 + 6 * ((n : Nat) : Int).toNat)) rfl (pw_J (j := ((n : Nat) : Int)) (by omega) (by omega)) hP hK hE) rfl rfl hl.1 rfl (lv_room (Nat.le_of_ble_eq_true rfl)) dX4_pointsOf_27 ⟨Nat.le_of_ble_eq_true rfl, Nat.le_of_ble_eq_true rfl⟩) hS (fun q h1 h2 => ro_A h1 h2) (fun q h => ro_F hS hA q h) (fun r u t H1 locs ht hvm hw9 hB9 hz1 hk1 hS => ?_)
      have hw9 : r = (bi (m_agn g ((n : Nat) : Int) (g 2 bb 1))) := hw9
      subst hw9
      have hP := ro_P hP hk1
      generalize H1 = H at hP hS ⊢
      refine n_b_ne hx hb (tgt := 47) dX4_pointsOf_30 (by decide) (fun h6 => ?_) (fun h6 => ?_)
      · skip
        refine n_inc (lv' := [(3, .int (iI (((n : Nat) : Int) + 1))), (2, .int (iI (m_sm (fun j => bif m_agn g j (g 2 bb 1) then 0 else g 7 j bb) n))), (0, .ref (a 0)), (1, .int (iI bb))]) hx hb dX4_pointsOf_47 hl (k := 0) rfl (by decide) rfl (fun ls hl => ?_)
        refine lv_goto (tgt := 4) hx hb dX4_pointsOf_50 (by decide) ?_
        have hl : lv_has ls 4 [(3, .int (iI (((n : Nat) : Int) + 1))), (2, .int (iI (m_sm (fun j => bif m_agn g j (g 2 bb 1) then 0 else g 7 j bb) n))), (0, .ref (a 0)), (1, .int (iI bb))] := lv_sub hl [0, 1, 2, 3] rfl
        have e7 : (((n : Nat) : Int) + 1) = (((n + 1) : Nat) : Int) := by rfl
        have e8 : (m_sm (fun j => bif m_agn g j (g 2 bb 1) then 0 else g 7 j bb) n) = (m_sm (fun j => bif m_agn g j (g 2 bb 1) then 0 else g 7 j bb) (n + 1)) := by first | rfl | (rw [sm_s]; simp [h4, h6])
        have hl : lv_has ls 4 [(3, .int (iI (((n + 1) : Nat) : Int))), (2, .int (iI (m_sm (fun j => bif m_agn g j (g 2 bb 1) then 0 else g 7 j bb) (n + 1)))), (0, .ref (a 0)), (1, .int (iI bb))] := lv_cast hl (by rw [e7, e8])
        exact ih4 (n + 1) H locs ls (by omega) hP hS hl
      · skip
        refine lv_iload_n hx hb dX4_pointsOf_33 rfl (lv_at hl 1 rfl) ?_
        refine lv_aload_n hx hb dX4_pointsOf_34 rfl (lv_at hl 2 rfl) ?_
        refine va_get (D := D) (ci := 4) (v := .ref (a 3)) (C := RX4) (T := TX4) (N := 19) hx hb hw hin_wsX40 hown hK hP 0 pw_0 rfl 2 (by decide) (hw _ kw_19) (fun _ h9 => h9) rfl dX4_pointsOf_35 ?_
        refine lv_iload_n hx hb dX4_pointsOf_38 rfl (lv_at hl 0 rfl) ?_
        refine p_aldJ hx hb hK hP (k := ((n : Nat) : Int)) (by omega) (by omega) dX4_pointsOf_39 ?_
        refine va_get (D := D) (ci := 2) (v := .ref (a (28 + 4 + 6 * ((n : Nat) : Int).toNat))) (C := RX2) (T := TX2) (N := 16) hx hb hw hin_wsX20 hown hK hP (28 + 6 * ((n : Nat) : Int).toNat) (pw_J (j := ((n : Nat) : Int)) (by omega) (by omega)) rfl 13 (by decide) (hw _ kw_261) (fun _ h9 => h9) rfl dX4_pointsOf_40 ?_
        refine lv_iload_n hx hb dX4_pointsOf_43 rfl (lv_at hl 3 rfl) ?_
        refine p_rd hx hb hK hP (j := ((n : Nat) : Int)) (k := bb) (r := 4) (by omega) (by omega) (by decide) (by omega) (by rw [if_neg (by decide)]; omega) dX4_pointsOf_44 ?_
        have s9 := Wf.r7 hWf (j := ((n : Nat) : Int)) (k := bb) (by omega) (by omega) (by omega) (by omega)
        rw [show g (3 + 4) ((n : Nat) : Int) bb = g 7 ((n : Nat) : Int) bb from rfl]
        refine n_add hx hb dX4_pointsOf_45 ?_
        refine lv_istore_n (lv' := [(2, .int (iI ((m_sm (fun j => bif m_agn g j (g 2 bb 1) then 0 else g 7 j bb) n) + g 7 ((n : Nat) : Int) bb))), (3, .int (iI ((n : Nat) : Int))), (0, .ref (a 0)), (1, .int (iI bb))]) hx hb dX4_pointsOf_46 rfl hl (by decide) rfl (fun ls hl => ?_)
        refine n_inc (lv' := [(3, .int (iI (((n : Nat) : Int) + 1))), (2, .int (iI ((m_sm (fun j => bif m_agn g j (g 2 bb 1) then 0 else g 7 j bb) n) + g 7 ((n : Nat) : Int) bb))), (0, .ref (a 0)), (1, .int (iI bb))]) hx hb dX4_pointsOf_47 hl (k := 1) rfl (by decide) rfl (fun ls hl => ?_)
        refine lv_goto (tgt := 4) hx hb dX4_pointsOf_50 (by decide) ?_
        have hl : lv_has ls 4 [(3, .int (iI (((n : Nat) : Int) + 1))), (2, .int (iI ((m_sm (fun j => bif m_agn g j (g 2 bb 1) then 0 else g 7 j bb) n) + g 7 ((n : Nat) : Int) bb))), (0, .ref (a 0)), (1, .int (iI bb))] := lv_sub hl [0, 1, 2, 3] rfl
        have e10 : (((n : Nat) : Int) + 1) = (((n + 1) : Nat) : Int) := by rfl
        have e11 : ((m_sm (fun j => bif m_agn g j (g 2 bb 1) then 0 else g 7 j bb) n) + g 7 ((n : Nat) : Int) bb) = (m_sm (fun j => bif m_agn g j (g 2 bb 1) then 0 else g 7 j bb) (n + 1)) := by first | rfl | (rw [sm_s]; simp [h4, h6])
        have hl : lv_has ls 4 [(3, .int (iI (((n + 1) : Nat) : Int))), (2, .int (iI (m_sm (fun j => bif m_agn g j (g 2 bb 1) then 0 else g 7 j bb) (n + 1)))), (0, .ref (a 0)), (1, .int (iI bb))] := lv_cast hl (by rw [e10, e11])
        exact ih4 (n + 1) H locs ls (by omega) hP hS hl
  have hl : lv_has ls 4 [(3, .int (iI 0)), (2, .int (iI 0)), (0, .ref (a 0)), (1, .int (iI bb))] := lv_sub hl [0, 1, 2, 3] rfl
  have hl : lv_has ls 4 [(3, .int (iI ((0 : Nat) : Int))), (2, .int (iI (m_sm (fun j => bif m_agn g j (g 2 bb 1) then 0 else g 7 j bb) 0))), (0, .ref (a 0)), (1, .int (iI bb))] := hl
  exact loop4 ((g 0 0 5).toNat) 0 H locs ls (by omega) hP hS hl
set_option maxHeartbeats 4000000 in
set_option maxRecDepth 100000 in
theorem c_giversTo (l : Launch) (D : va_G) (a : Nat → Nat) (cH cB cJ cI : ClassId) (ha : pj a) (g : m_St) (vt : Nat → Int32) (sz : Nat) (bb : Int) (hWf : Wf g) (hbb : 0 ≤ bb ∧ bb < 16) : Met l yX4_giversTo (wc yX4_giversTo cX4_giversTo 4 (some .int)) ({ frames := 1, cells := 0, slots := 0, locals := 21 }) (va_Pc [.ref (a 0), .int (iI bb)] (pS D a cH cB cJ cI sz g vt)) (va_Qi (fun (r : Int32) (_ : Unit) => r = iI (m_giv g bb)) (fun _ _ => True) (fun q => sz ≤ q)) 0 0 (fun q => sz ≤ q) := by
  refine Met.ofW (cc := cX4_giversTo) (maxL := 4) (ret := (some .int)) (by decide +kernel) rfl ?_
  intro p e s m args below meth c s₁ B9 hml hv
  obtain ⟨rfl, hsz, hP, hK, hE⟩ := hv
  have hx := B9.exec
  have hb := B9.bytes
  have hr := B9.returns
  have hts := atoms_spec (ws := (wc yX4_giversTo cX4_giversTo 4 (some .int))) B9.pre
  have hw : ∀ w ∈ wsL_law0, w.before [.ref (a 0), .int (iI bb)].toArray s = true := fun w h => hts w (List.mem_cons_of_mem _ h)
  have hown : s.vm.findClass RX4 = some m.cls := findClass_of_methodNamed B9.named
  subst hsz
  have hS : va_S (fun q => s.heap.size ≤ q) s.heap s.heap [] := va_S.rf
  have hA : ∀ q : Nat, s.heap.size ≤ q → (fun q : Nat => s.heap.size ≤ q) q := fun _ h => h
  have hl := lv_entry ([.ref (a 0), .int (iI bb)]) (n := 4) (Nat.le_of_ble_eq_true rfl)
  rw [lg_entry_eq]
  generalize (lg_sl ([.ref (a 0), .int (iI bb)]) ++ List.replicate (4 - (lg_sl ([.ref (a 0), .int (iI bb)])).length) Slot.unset).toArray = ls at hl ⊢
  have hl : lv_has ls 4 [(0, .ref (a 0)), (1, .int (iI bb))] := hl
  suffices h9 : ∀ (H : Heap) (locs : List Loc), va_P D vwCl (pw a cH cB cJ cI g vt) H → va_S (fun q => s.heap.size ≤ q) s.heap H locs → W p l e (headSpec (wc yX4_giversTo cX4_giversTo 4 (some .int)) ({ frames := 1, cells := 0, slots := 0, locals := 21 })).room s m [.ref (a 0), .int (iI bb)].toArray below meth c H locs 0 0 (MQ below (va_Qi (fun (r : Int32) (_ : Unit) => r = iI (m_giv g bb)) (fun _ _ => True) (fun q => s.heap.size ≤ q)) [.ref (a 0), .int (iI bb)].toArray s 0 0 (fun q => s.heap.size ≤ q)) (F0 m 0 ls []) from h9 s.heap [] hP hS
  clear hP hS
  intro H locs hP hS
  have m5 := Wf.m5 hWf
  refine lv_iconst (v := iI 0) hx hb dX4_giversTo_0 (by decide) ?_
  refine lv_istore_n (lv' := [(2, .int (iI 0)), (0, .ref (a 0)), (1, .int (iI bb))]) hx hb dX4_giversTo_1 rfl hl (by decide) rfl (fun ls hl => ?_)
  refine lv_iconst (v := iI 0) hx hb dX4_giversTo_2 (by decide) ?_
  refine lv_istore_n (lv' := [(3, .int (iI 0)), (2, .int (iI 0)), (0, .ref (a 0)), (1, .int (iI bb))]) hx hb dX4_giversTo_3 rfl hl (by decide) rfl (fun ls hl => ?_)
  have loop4 : ∀ (d n : Nat) (H : Heap) (locs : List Loc) (ls : Array Slot), n + d = (g 0 0 5).toNat → va_P D vwCl (pw a cH cB cJ cI g vt) H → va_S (fun q => s.heap.size ≤ q) s.heap H locs → lv_has ls 4 [(3, .int (iI ((n : Nat) : Int))), (2, .int (iI (m_cnt (fun j => decide (0 < g 7 j bb) && !m_agn g j (g 2 bb 1)) n))), (0, .ref (a 0)), (1, .int (iI bb))] → W p l e (headSpec (wc yX4_giversTo cX4_giversTo 4 (some .int)) ({ frames := 1, cells := 0, slots := 0, locals := 21 })).room s m [.ref (a 0), .int (iI bb)].toArray below meth c H locs 0 0 (MQ below (va_Qi (fun (r : Int32) (_ : Unit) => r = iI (m_giv g bb)) (fun _ _ => True) (fun q => s.heap.size ≤ q)) [.ref (a 0), .int (iI bb)].toArray s 0 0 (fun q => s.heap.size ≤ q)) (F0 m 4 ls []) := by
    intro d
    induction d with
    | zero =>
      intro n H locs ls hn hP hS hl
      obtain rfl : n = (g 0 0 5).toNat := by omega
      refine lv_iload_n hx hb dX4_giversTo_4 rfl (lv_at hl 0 rfl) ?_
      refine lv_aload_n hx hb dX4_giversTo_5 rfl (lv_at hl 2 rfl) ?_
      have s1 := Wf.m5 hWf
      refine va_get (D := D) (ci := 4) (v := .int (iI (g 0 0 5))) (C := RX4) (T := TX4) (N := 19) hx hb hw hin_wsX40 hown hK hP 0 pw_0 rfl 5 (by decide) (hw _ kw_81) (fun _ h9 => h9) rfl dX4_giversTo_6 ?_
      refine n_icmp_ge hx hb (by unfold RI; omega) (by unfold RI; omega) (tgt := 56) dX4_giversTo_9 (by decide) (fun h2 => ?_) (fun h2 => absurd h2 (by intro h2; omega))
      refine lv_iload_n hx hb dX4_giversTo_56 rfl (lv_at hl 1 rfl) ?_
      exact W.iret (v := (iI (m_cnt (fun j => decide (0 < g 7 j bb) && !m_agn g j (g 2 bb 1)) ((g 0 0 5).toNat)))) hx hb hr (fun t ht hW9 => ⟨⟨(iI (m_cnt (fun j => decide (0 < g 7 j bb) && !m_agn g j (g 2 bb 1)) ((g 0 0 5).toNat))), (), rfl, (congrArg iI (by rfl)), trivial⟩, hS.F ht⟩) hS.2.2 dX4_giversTo_57
    | succ d ih4 =>
      intro n H locs ls hn hP hS hl
      refine lv_iload_n hx hb dX4_giversTo_4 rfl (lv_at hl 0 rfl) ?_
      refine lv_aload_n hx hb dX4_giversTo_5 rfl (lv_at hl 2 rfl) ?_
      have s3 := Wf.m5 hWf
      refine va_get (D := D) (ci := 4) (v := .int (iI (g 0 0 5))) (C := RX4) (T := TX4) (N := 19) hx hb hw hin_wsX40 hown hK hP 0 pw_0 rfl 5 (by decide) (hw _ kw_81) (fun _ h9 => h9) rfl dX4_giversTo_6 ?_
      refine n_icmp_ge hx hb (by unfold RI; omega) (by unfold RI; omega) (tgt := 56) dX4_giversTo_9 (by decide) (fun h4 => absurd h4 (by intro h4; omega)) (fun h4 => ?_)
      refine lv_aload_n hx hb dX4_giversTo_12 rfl (lv_at hl 2 rfl) ?_
      refine va_get (D := D) (ci := 4) (v := .ref (a 3)) (C := RX4) (T := TX4) (N := 19) hx hb hw hin_wsX40 hown hK hP 0 pw_0 rfl 2 (by decide) (hw _ kw_19) (fun _ h9 => h9) rfl dX4_giversTo_13 ?_
      refine lv_iload_n hx hb dX4_giversTo_16 rfl (lv_at hl 0 rfl) ?_
      refine p_aldJ hx hb hK hP (k := ((n : Nat) : Int)) (by omega) (by omega) dX4_giversTo_17 ?_
      refine va_get (D := D) (ci := 2) (v := .ref (a (28 + 4 + 6 * ((n : Nat) : Int).toNat))) (C := RX2) (T := TX2) (N := 16) hx hb hw hin_wsX20 hown hK hP (28 + 6 * ((n : Nat) : Int).toNat) (pw_J (j := ((n : Nat) : Int)) (by omega) (by omega)) rfl 13 (by decide) (hw _ kw_261) (fun _ h9 => h9) rfl dX4_giversTo_18 ?_
      refine lv_iload_n hx hb dX4_giversTo_21 rfl (lv_at hl 3 rfl) ?_
      refine p_rd hx hb hK hP (j := ((n : Nat) : Int)) (k := bb) (r := 4) (by omega) (by omega) (by decide) (by omega) (by rw [if_neg (by decide)]; omega) dX4_giversTo_22 ?_
      have s5 := Wf.r7 hWf (j := ((n : Nat) : Int)) (k := bb) (by omega) (by omega) (by omega) (by omega)
      rw [show g (3 + 4) ((n : Nat) : Int) bb = g 7 ((n : Nat) : Int) bb from rfl]
      refine n_if_le hx hb (by unfold RI; omega) (tgt := 50) dX4_giversTo_23 (by decide) (fun h6 => ?_) (fun h6 => ?_)
      · skip
        refine n_inc (lv' := [(3, .int (iI (((n : Nat) : Int) + 1))), (2, .int (iI (m_cnt (fun j => decide (0 < g 7 j bb) && !m_agn g j (g 2 bb 1)) n))), (0, .ref (a 0)), (1, .int (iI bb))]) hx hb dX4_giversTo_50 hl (k := 0) rfl (by decide) rfl (fun ls hl => ?_)
        refine lv_goto (tgt := 4) hx hb dX4_giversTo_53 (by decide) ?_
        have hl : lv_has ls 4 [(3, .int (iI (((n : Nat) : Int) + 1))), (2, .int (iI (m_cnt (fun j => decide (0 < g 7 j bb) && !m_agn g j (g 2 bb 1)) n))), (0, .ref (a 0)), (1, .int (iI bb))] := lv_sub hl [0, 1, 2, 3] rfl
        have e7 : (((n : Nat) : Int) + 1) = (((n + 1) : Nat) : Int) := by rfl
        have e8 : (m_cnt (fun j => decide (0 < g 7 j bb) && !m_agn g j (g 2 bb 1)) n) = (m_cnt (fun j => decide (0 < g 7 j bb) && !m_agn g j (g 2 bb 1)) (n + 1)) := by exact (cnt_f (q := (fun j => decide (0 < g 7 j bb) && !m_agn g j (g 2 bb 1))) (n := n) (by simp [h4, h6]; try omega)).symm
        have hl : lv_has ls 4 [(3, .int (iI (((n + 1) : Nat) : Int))), (2, .int (iI (m_cnt (fun j => decide (0 < g 7 j bb) && !m_agn g j (g 2 bb 1)) (n + 1)))), (0, .ref (a 0)), (1, .int (iI bb))] := lv_cast hl (by rw [e7, e8])
        exact ih4 (n + 1) H locs ls (by omega) hP hS hl
      · skip
        refine lv_aload_n hx hb dX4_giversTo_26 rfl (lv_at hl 2 rfl) ?_
        refine va_get (D := D) (ci := 4) (v := .ref (a 3)) (C := RX4) (T := TX4) (N := 19) hx hb hw hin_wsX40 hown hK hP 0 pw_0 rfl 2 (by decide) (hw _ kw_19) (fun _ h9 => h9) rfl dX4_giversTo_27 ?_
        refine lv_iload_n hx hb dX4_giversTo_30 rfl (lv_at hl 0 rfl) ?_
        refine p_aldJ hx hb hK hP (k := ((n : Nat) : Int)) (by omega) (by omega) dX4_giversTo_31 ?_
        refine lv_aload_n hx hb dX4_giversTo_32 rfl (lv_at hl 2 rfl) ?_
        refine va_get (D := D) (ci := 4) (v := .ref (a 2)) (C := RX4) (T := TX4) (N := 19) hx hb hw hin_wsX40 hown hK hP 0 pw_0 rfl 1 (by decide) (hw _ kw_17) (fun _ h9 => h9) rfl dX4_giversTo_33 ?_
        refine lv_iload_n hx hb dX4_giversTo_36 rfl (lv_at hl 3 rfl) ?_
        refine p_aldB hx hb hK hP (k := bb) (by omega) (by omega) dX4_giversTo_37 ?_
        have s9 := Wf.b1 hWf (k := bb) (by omega) (by omega)
        refine va_get (D := D) (ci := 0) (v := .int (iI (g 2 bb 1))) (C := RX0) (T := TX0) (N := 11) hx hb hw hin_wsX00 hown hK hP (12 + bb.toNat) (pw_B (b := bb) (by omega) (by omega)) rfl 1 (by decide) (hw _ kw_211) (fun _ h9 => h9) rfl dX4_giversTo_38 ?_
        refine va_calli (va_runV (As := [.int (iI (g 2 bb 1))]) (rest := []) ⟨hx, hb, hml, hown, hw⟩ (c_isAgainst l D a cH cB cJ cI ha g vt H.size ((n : Nat) : Int) (g 2 bb 1) hWf (by omega) (by omega)) (cwV 1 hw (gA_V kw_238 kw_239 kw_240 kw_34 kw_241) rfl rfl rfl (by decide +kernel) ⟨Nat.le_of_ble_eq_true rfl, Nat.le_of_ble_eq_true rfl⟩) (pS_v (ci := 2) (q0 := (28 + 6 * ((n : Nat) : Int).toNat)) rfl (pw_J (j := ((n : Nat) : Int)) (by omega) (by omega)) hP hK hE) rfl rfl hl.1 rfl (lv_room (Nat.le_of_ble_eq_true rfl)) dX4_giversTo_41 ⟨Nat.le_of_ble_eq_true rfl, Nat.le_of_ble_eq_true rfl⟩) hS (fun q h1 h2 => ro_A h1 h2) (fun q h => ro_F hS hA q h) (fun r u t H1 locs ht hvm hw9 hB9 hz1 hk1 hS => ?_)
        have hw9 : r = (bi (m_agn g ((n : Nat) : Int) (g 2 bb 1))) := hw9
        subst hw9
        have hP := ro_P hP hk1
        generalize H1 = H at hP hS ⊢
        refine n_b_ne hx hb (tgt := 50) dX4_giversTo_44 (by decide) (fun h10 => ?_) (fun h10 => ?_)
        · skip
          refine n_inc (lv' := [(3, .int (iI (((n : Nat) : Int) + 1))), (2, .int (iI (m_cnt (fun j => decide (0 < g 7 j bb) && !m_agn g j (g 2 bb 1)) n))), (0, .ref (a 0)), (1, .int (iI bb))]) hx hb dX4_giversTo_50 hl (k := 0) rfl (by decide) rfl (fun ls hl => ?_)
          refine lv_goto (tgt := 4) hx hb dX4_giversTo_53 (by decide) ?_
          have hl : lv_has ls 4 [(3, .int (iI (((n : Nat) : Int) + 1))), (2, .int (iI (m_cnt (fun j => decide (0 < g 7 j bb) && !m_agn g j (g 2 bb 1)) n))), (0, .ref (a 0)), (1, .int (iI bb))] := lv_sub hl [0, 1, 2, 3] rfl
          have e11 : (((n : Nat) : Int) + 1) = (((n + 1) : Nat) : Int) := by rfl
          have e12 : (m_cnt (fun j => decide (0 < g 7 j bb) && !m_agn g j (g 2 bb 1)) n) = (m_cnt (fun j => decide (0 < g 7 j bb) && !m_agn g j (g 2 bb 1)) (n + 1)) := by exact (cnt_f (q := (fun j => decide (0 < g 7 j bb) && !m_agn g j (g 2 bb 1))) (n := n) (by simp [h4, h6, h10]; try omega)).symm
          have hl : lv_has ls 4 [(3, .int (iI (((n + 1) : Nat) : Int))), (2, .int (iI (m_cnt (fun j => decide (0 < g 7 j bb) && !m_agn g j (g 2 bb 1)) (n + 1)))), (0, .ref (a 0)), (1, .int (iI bb))] := lv_cast hl (by rw [e11, e12])
          exact ih4 (n + 1) H locs ls (by omega) hP hS hl
        · skip
          refine n_inc (lv' := [(2, .int (iI ((m_cnt (fun j => decide (0 < g 7 j bb) && !m_agn g j (g 2 bb 1)) n) + 1))), (3, .int (iI ((n : Nat) : Int))), (0, .ref (a 0)), (1, .int (iI bb))]) hx hb dX4_giversTo_47 hl (k := 1) rfl (by decide) rfl (fun ls hl => ?_)
          refine n_inc (lv' := [(3, .int (iI (((n : Nat) : Int) + 1))), (2, .int (iI ((m_cnt (fun j => decide (0 < g 7 j bb) && !m_agn g j (g 2 bb 1)) n) + 1))), (0, .ref (a 0)), (1, .int (iI bb))]) hx hb dX4_giversTo_50 hl (k := 1) rfl (by decide) rfl (fun ls hl => ?_)
          refine lv_goto (tgt := 4) hx hb dX4_giversTo_53 (by decide) ?_
          have hl : lv_has ls 4 [(3, .int (iI (((n : Nat) : Int) + 1))), (2, .int (iI ((m_cnt (fun j => decide (0 < g 7 j bb) && !m_agn g j (g 2 bb 1)) n) + 1))), (0, .ref (a 0)), (1, .int (iI bb))] := lv_sub hl [0, 1, 2, 3] rfl
          have e13 : (((n : Nat) : Int) + 1) = (((n + 1) : Nat) : Int) := by rfl
          have e14 : ((m_cnt (fun j => decide (0 < g 7 j bb) && !m_agn g j (g 2 bb 1)) n) + 1) = (m_cnt (fun j => decide (0 < g 7 j bb) && !m_agn g j (g 2 bb 1)) (n + 1)) := by exact (cnt_t (q := (fun j => decide (0 < g 7 j bb) && !m_agn g j (g 2 bb 1))) (n := n) (by simp [h4, h6, h10]; try omega)).symm
          have hl : lv_has ls 4 [(3, .int (iI (((n + 1) : Nat) : Int))), (2, .int (iI (m_cnt (fun j => decide (0 < g 7 j bb) && !m_agn g j (g 2 bb 1)) (n + 1)))), (0, .ref (a 0)), (1, .int (iI bb))] := lv_cast hl (by rw [e13, e14])
          exact ih4 (n + 1) H locs ls (by omega) hP hS hl
  have hl : lv_has ls 4 [(3, .int (iI 0)), (2, .int (iI 0)), (0, .ref (a 0)), (1, .int (iI bb))] := lv_sub hl [0, 1, 2, 3] rfl
  have hl : lv_has ls 4 [(3, .int (iI ((0 : Nat) : Int))), (2, .int (iI (m_cnt (fun j => decide (0 < g 7 j bb) && !m_agn g j (g 2 bb 1)) 0))), (0, .ref (a 0)), (1, .int (iI bb))] := hl
  exact loop4 ((g 0 0 5).toNat) 0 H locs ls (by omega) hP hS hl
set_option maxHeartbeats 4000000 in
set_option maxRecDepth 100000 in
theorem c_standingOf (l : Launch) (D : va_G) (a : Nat → Nat) (cH cB cJ cI : ClassId) (ha : pj a) (g : m_St) (vt : Nat → Int32) (sz : Nat) (bb : Int) (hWf : Wf g) (hbb : 0 ≤ bb ∧ bb < 16) : Met l yX4_standingOf (wc yX4_standingOf cX4_standingOf 2 (some .int)) ({ frames := 1, cells := 0, slots := 0, locals := 21 }) (va_Pc [.ref (a 0), .int (iI bb)] (pS D a cH cB cJ cI sz g vt)) (va_Qi (fun (r : Int32) (_ : Unit) => r = iI (m_standing g bb)) (fun _ _ => True) (fun q => sz ≤ q)) 0 0 (fun q => sz ≤ q) := by
  refine Met.ofW (cc := cX4_standingOf) (maxL := 2) (ret := (some .int)) (by decide +kernel) rfl ?_
  intro p e s m args below meth c s₁ B9 hml hv
  obtain ⟨rfl, hsz, hP, hK, hE⟩ := hv
  have hx := B9.exec
  have hb := B9.bytes
  have hr := B9.returns
  have hts := atoms_spec (ws := (wc yX4_standingOf cX4_standingOf 2 (some .int))) B9.pre
  have hw : ∀ w ∈ wsL_law0, w.before [.ref (a 0), .int (iI bb)].toArray s = true := fun w h => hts w (List.mem_cons_of_mem _ h)
  have hown : s.vm.findClass RX4 = some m.cls := findClass_of_methodNamed B9.named
  subst hsz
  have hS : va_S (fun q => s.heap.size ≤ q) s.heap s.heap [] := va_S.rf
  have hA : ∀ q : Nat, s.heap.size ≤ q → (fun q : Nat => s.heap.size ≤ q) q := fun _ h => h
  have hl := lv_entry ([.ref (a 0), .int (iI bb)]) (n := 2) (Nat.le_of_ble_eq_true rfl)
  rw [lg_entry_eq]
  generalize (lg_sl ([.ref (a 0), .int (iI bb)]) ++ List.replicate (2 - (lg_sl ([.ref (a 0), .int (iI bb)])).length) Slot.unset).toArray = ls at hl ⊢
  have hl : lv_has ls 2 [(0, .ref (a 0)), (1, .int (iI bb))] := hl
  suffices h9 : ∀ (H : Heap) (locs : List Loc), va_P D vwCl (pw a cH cB cJ cI g vt) H → va_S (fun q => s.heap.size ≤ q) s.heap H locs → W p l e (headSpec (wc yX4_standingOf cX4_standingOf 2 (some .int)) ({ frames := 1, cells := 0, slots := 0, locals := 21 })).room s m [.ref (a 0), .int (iI bb)].toArray below meth c H locs 0 0 (MQ below (va_Qi (fun (r : Int32) (_ : Unit) => r = iI (m_standing g bb)) (fun _ _ => True) (fun q => s.heap.size ≤ q)) [.ref (a 0), .int (iI bb)].toArray s 0 0 (fun q => s.heap.size ≤ q)) (F0 m 0 ls []) from h9 s.heap [] hP hS
  clear hP hS
  intro H locs hP hS
  refine lv_iload_n hx hb dX4_standingOf_0 rfl (lv_at hl 1 rfl) ?_
  refine lv_aload_n hx hb dX4_standingOf_1 rfl (lv_at hl 0 rfl) ?_
  have s1 := Wf.m14 hWf
  refine va_get (D := D) (ci := 4) (v := .int (iI (g 0 0 14))) (C := RX4) (T := TX4) (N := 19) hx hb hw hin_wsX40 hown hK hP 0 pw_0 rfl 14 (by decide) (hw _ kw_26) (fun _ h9 => h9) rfl dX4_standingOf_2 ?_
  refine n_icmp_ne hx hb (by unfold RI; omega) (by unfold RI; omega) (tgt := 10) dX4_standingOf_5 (by decide) (fun h2 => ?_) (fun h2 => ?_)
  · skip
    refine lv_aload_n hx hb dX4_standingOf_10 rfl (lv_at hl 0 rfl) ?_
    have s3 := Wf.m13 hWf
    refine va_get (D := D) (ci := 4) (v := .int (iI (g 0 0 13))) (C := RX4) (T := TX4) (N := 19) hx hb hw hin_wsX40 hown hK hP 0 pw_0 rfl 13 (by decide) (hw _ kw_100) (fun _ h9 => h9) rfl dX4_standingOf_11 ?_
    refine lv_iload_n hx hb dX4_standingOf_14 rfl (lv_at hl 1 rfl) ?_
    refine va_calli (va_runS (As := [.int (iI (g 0 0 13)), .int (iI bb)]) (rest := []) ⟨hx, hb, hml, hown, hw⟩ (c_has l D a cH cB cJ cI ha g vt H.size (g 0 0 13) bb (by omega) (by omega)) (va_cwS 2 hw (gA_S kw_229 kw_223 kw_2 kw_224) rfl rfl rfl (by decide +kernel) ⟨Nat.le_of_ble_eq_true rfl, Nat.le_of_ble_eq_true rfl⟩) (pS_s hP hK hE) rfl rfl hl.1 rfl (lv_room (Nat.le_of_ble_eq_true rfl)) dX4_standingOf_15 ⟨Nat.le_of_ble_eq_true rfl, Nat.le_of_ble_eq_true rfl⟩) hS (fun q h1 h2 => ro_A h1 h2) (fun q h => ro_F hS hA q h) (fun r u t H1 locs ht hvm hw9 hB9 hz1 hk1 hS => ?_)
    have hw9 : r = (bi (m_has (g 0 0 13) bb)) := hw9
    subst hw9
    have hP := ro_P hP hk1
    generalize H1 = H at hP hS ⊢
    refine n_b_eq hx hb (tgt := 23) dX4_standingOf_18 (by decide) (fun h4 => ?_) (fun h4 => ?_)
    · skip
      refine lv_aload_n hx hb dX4_standingOf_23 rfl (lv_at hl 0 rfl) ?_
      have s5 := Wf.m11 hWf
      refine va_get (D := D) (ci := 4) (v := .int (iI (g 0 0 11))) (C := RX4) (T := TX4) (N := 19) hx hb hw hin_wsX40 hown hK hP 0 pw_0 rfl 11 (by decide) (hw _ kw_99) (fun _ h9 => h9) rfl dX4_standingOf_24 ?_
      refine lv_iload_n hx hb dX4_standingOf_27 rfl (lv_at hl 1 rfl) ?_
      refine va_calli (va_runS (As := [.int (iI (g 0 0 11)), .int (iI bb)]) (rest := []) ⟨hx, hb, hml, hown, hw⟩ (c_has l D a cH cB cJ cI ha g vt H.size (g 0 0 11) bb (by omega) (by omega)) (va_cwS 2 hw (gA_S kw_229 kw_223 kw_2 kw_224) rfl rfl rfl (by decide +kernel) ⟨Nat.le_of_ble_eq_true rfl, Nat.le_of_ble_eq_true rfl⟩) (pS_s hP hK hE) rfl rfl hl.1 rfl (lv_room (Nat.le_of_ble_eq_true rfl)) dX4_standingOf_28 ⟨Nat.le_of_ble_eq_true rfl, Nat.le_of_ble_eq_true rfl⟩) hS (fun q h1 h2 => ro_A h1 h2) (fun q h => ro_F hS hA q h) (fun r u t H1 locs ht hvm hw9 hB9 hz1 hk1 hS => ?_)
      have hw9 : r = (bi (m_has (g 0 0 11) bb)) := hw9
      subst hw9
      have hP := ro_P hP hk1
      generalize H1 = H at hP hS ⊢
      refine n_b_eq hx hb (tgt := 38) dX4_standingOf_31 (by decide) (fun h6 => ?_) (fun h6 => ?_)
      · skip
        refine lv_iconst (v := iI 0) hx hb dX4_standingOf_38 (by decide) ?_
        exact W.iret (v := (iI 0)) hx hb hr (fun t ht hW9 => ⟨⟨(iI 0), (), rfl, (congrArg iI (by simp [m_standing, h2, h4, h6])), trivial⟩, hS.F ht⟩) hS.2.2 dX4_standingOf_39
      · skip
        refine lv_iconst (v := iI 1) hx hb dX4_standingOf_34 (by decide) ?_
        refine lv_goto (tgt := 39) hx hb dX4_standingOf_35 (by decide) ?_
        exact W.iret (v := (iI 1)) hx hb hr (fun t ht hW9 => ⟨⟨(iI 1), (), rfl, (congrArg iI (by simp [m_standing, h2, h4, h6])), trivial⟩, hS.F ht⟩) hS.2.2 dX4_standingOf_39
    · skip
      refine lv_iconst (v := iI 2) hx hb dX4_standingOf_21 (by decide) ?_
      exact W.iret (v := (iI 2)) hx hb hr (fun t ht hW9 => ⟨⟨(iI 2), (), rfl, (congrArg iI (by simp [m_standing, h2, h4])), trivial⟩, hS.F ht⟩) hS.2.2 dX4_standingOf_22
  · skip
    refine lv_iconst (v := iI 3) hx hb dX4_standingOf_8 (by decide) ?_
    exact W.iret (v := (iI 3)) hx hb hr (fun t ht hW9 => ⟨⟨(iI 3), (), rfl, (congrArg iI (by simp [m_standing, h2])), trivial⟩, hS.F ht⟩) hS.2.2 dX4_standingOf_9
set_option maxHeartbeats 4000000 in
set_option maxRecDepth 100000 in
theorem c_fairJudgesOf (l : Launch) (D : va_G) (a : Nat → Nat) (cH cB cJ cI : ClassId) (ha : pj a) (g : m_St) (vt : Nat → Int32) (sz : Nat) (au : Int) (hWf : Wf g) (hau : 0 ≤ au ∧ au ≤ 9) : Met l yX4_fairJudgesOf (wc yX4_fairJudgesOf cX4_fairJudgesOf 4 (some .int)) ({ frames := 1, cells := 0, slots := 0, locals := 21 }) (va_Pc [.ref (a 0), .int (iI au)] (pS D a cH cB cJ cI sz g vt)) (va_Qi (fun (r : Int32) (_ : Unit) => r = iI (m_fairJudges g au)) (fun _ _ => True) (fun q => sz ≤ q)) 0 0 (fun q => sz ≤ q) := by
  refine Met.ofW (cc := cX4_fairJudgesOf) (maxL := 4) (ret := (some .int)) (by decide +kernel) rfl ?_
  intro p e s m args below meth c s₁ B9 hml hv
  obtain ⟨rfl, hsz, hP, hK, hE⟩ := hv
  have hx := B9.exec
  have hb := B9.bytes
  have hr := B9.returns
  have hts := atoms_spec (ws := (wc yX4_fairJudgesOf cX4_fairJudgesOf 4 (some .int))) B9.pre
  have hw : ∀ w ∈ wsL_law0, w.before [.ref (a 0), .int (iI au)].toArray s = true := fun w h => hts w (List.mem_cons_of_mem _ h)
  have hown : s.vm.findClass RX4 = some m.cls := findClass_of_methodNamed B9.named
  subst hsz
  have hS : va_S (fun q => s.heap.size ≤ q) s.heap s.heap [] := va_S.rf
  have hA : ∀ q : Nat, s.heap.size ≤ q → (fun q : Nat => s.heap.size ≤ q) q := fun _ h => h
  have hl := lv_entry ([.ref (a 0), .int (iI au)]) (n := 4) (Nat.le_of_ble_eq_true rfl)
  rw [lg_entry_eq]
  generalize (lg_sl ([.ref (a 0), .int (iI au)]) ++ List.replicate (4 - (lg_sl ([.ref (a 0), .int (iI au)])).length) Slot.unset).toArray = ls at hl ⊢
  have hl : lv_has ls 4 [(0, .ref (a 0)), (1, .int (iI au))] := hl
  suffices h9 : ∀ (H : Heap) (locs : List Loc), va_P D vwCl (pw a cH cB cJ cI g vt) H → va_S (fun q => s.heap.size ≤ q) s.heap H locs → W p l e (headSpec (wc yX4_fairJudgesOf cX4_fairJudgesOf 4 (some .int)) ({ frames := 1, cells := 0, slots := 0, locals := 21 })).room s m [.ref (a 0), .int (iI au)].toArray below meth c H locs 0 0 (MQ below (va_Qi (fun (r : Int32) (_ : Unit) => r = iI (m_fairJudges g au)) (fun _ _ => True) (fun q => s.heap.size ≤ q)) [.ref (a 0), .int (iI au)].toArray s 0 0 (fun q => s.heap.size ≤ q)) (F0 m 0 ls []) from h9 s.heap [] hP hS
  clear hP hS
  intro H locs hP hS
  have m5 := Wf.m5 hWf
  refine lv_iconst (v := iI 0) hx hb dX4_fairJudgesOf_0 (by decide) ?_
  refine lv_istore_n (lv' := [(2, .int (iI 0)), (0, .ref (a 0)), (1, .int (iI au))]) hx hb dX4_fairJudgesOf_1 rfl hl (by decide) rfl (fun ls hl => ?_)
  refine lv_iconst (v := iI 0) hx hb dX4_fairJudgesOf_2 (by decide) ?_
  refine lv_istore_n (lv' := [(3, .int (iI 0)), (2, .int (iI 0)), (0, .ref (a 0)), (1, .int (iI au))]) hx hb dX4_fairJudgesOf_3 rfl hl (by decide) rfl (fun ls hl => ?_)
  have loop4 : ∀ (d n : Nat) (H : Heap) (locs : List Loc) (ls : Array Slot), n + d = (g 0 0 5).toNat → va_P D vwCl (pw a cH cB cJ cI g vt) H → va_S (fun q => s.heap.size ≤ q) s.heap H locs → lv_has ls 4 [(3, .int (iI ((n : Nat) : Int))), (2, .int (iI (m_cnt (fun j => !m_agn g j au) n))), (0, .ref (a 0)), (1, .int (iI au))] → W p l e (headSpec (wc yX4_fairJudgesOf cX4_fairJudgesOf 4 (some .int)) ({ frames := 1, cells := 0, slots := 0, locals := 21 })).room s m [.ref (a 0), .int (iI au)].toArray below meth c H locs 0 0 (MQ below (va_Qi (fun (r : Int32) (_ : Unit) => r = iI (m_fairJudges g au)) (fun _ _ => True) (fun q => s.heap.size ≤ q)) [.ref (a 0), .int (iI au)].toArray s 0 0 (fun q => s.heap.size ≤ q)) (F0 m 4 ls []) := by
    intro d
    induction d with
    | zero =>
      intro n H locs ls hn hP hS hl
      obtain rfl : n = (g 0 0 5).toNat := by omega
      refine lv_iload_n hx hb dX4_fairJudgesOf_4 rfl (lv_at hl 0 rfl) ?_
      refine lv_aload_n hx hb dX4_fairJudgesOf_5 rfl (lv_at hl 2 rfl) ?_
      have s1 := Wf.m5 hWf
      refine va_get (D := D) (ci := 4) (v := .int (iI (g 0 0 5))) (C := RX4) (T := TX4) (N := 19) hx hb hw hin_wsX40 hown hK hP 0 pw_0 rfl 5 (by decide) (hw _ kw_81) (fun _ h9 => h9) rfl dX4_fairJudgesOf_6 ?_
      refine n_icmp_ge hx hb (by unfold RI; omega) (by unfold RI; omega) (tgt := 34) dX4_fairJudgesOf_9 (by decide) (fun h2 => ?_) (fun h2 => absurd h2 (by intro h2; omega))
      refine lv_iload_n hx hb dX4_fairJudgesOf_34 rfl (lv_at hl 1 rfl) ?_
      exact W.iret (v := (iI (m_cnt (fun j => !m_agn g j au) ((g 0 0 5).toNat)))) hx hb hr (fun t ht hW9 => ⟨⟨(iI (m_cnt (fun j => !m_agn g j au) ((g 0 0 5).toNat))), (), rfl, (congrArg iI (by rfl)), trivial⟩, hS.F ht⟩) hS.2.2 dX4_fairJudgesOf_35
    | succ d ih4 =>
      intro n H locs ls hn hP hS hl
      refine lv_iload_n hx hb dX4_fairJudgesOf_4 rfl (lv_at hl 0 rfl) ?_
      refine lv_aload_n hx hb dX4_fairJudgesOf_5 rfl (lv_at hl 2 rfl) ?_
      have s3 := Wf.m5 hWf
      refine va_get (D := D) (ci := 4) (v := .int (iI (g 0 0 5))) (C := RX4) (T := TX4) (N := 19) hx hb hw hin_wsX40 hown hK hP 0 pw_0 rfl 5 (by decide) (hw _ kw_81) (fun _ h9 => h9) rfl dX4_fairJudgesOf_6 ?_
      refine n_icmp_ge hx hb (by unfold RI; omega) (by unfold RI; omega) (tgt := 34) dX4_fairJudgesOf_9 (by decide) (fun h4 => absurd h4 (by intro h4; omega)) (fun h4 => ?_)
      refine lv_aload_n hx hb dX4_fairJudgesOf_12 rfl (lv_at hl 2 rfl) ?_
      refine va_get (D := D) (ci := 4) (v := .ref (a 3)) (C := RX4) (T := TX4) (N := 19) hx hb hw hin_wsX40 hown hK hP 0 pw_0 rfl 2 (by decide) (hw _ kw_19) (fun _ h9 => h9) rfl dX4_fairJudgesOf_13 ?_
      refine lv_iload_n hx hb dX4_fairJudgesOf_16 rfl (lv_at hl 0 rfl) ?_
      refine p_aldJ hx hb hK hP (k := ((n : Nat) : Int)) (by omega) (by omega) dX4_fairJudgesOf_17 ?_
      refine lv_iload_n hx hb dX4_fairJudgesOf_18 rfl (lv_at hl 3 rfl) ?_
      refine va_calli (va_runV (As := [.int (iI au)]) (rest := []) ⟨hx, hb, hml, hown, hw⟩ (c_isAgainst l D a cH cB cJ cI ha g vt H.size ((n : Nat) : Int) au hWf (by omega) (by omega)) (cwV 1 hw (gA_V kw_238 kw_239 kw_240 kw_34 kw_241) rfl rfl rfl (by decide +kernel) ⟨Nat.le_of_ble_eq_true rfl, Nat.le_of_ble_eq_true rfl⟩) (pS_v (ci := 2) (q0 := (28 + 6 * ((n : Nat) : Int).toNat)) rfl (pw_J (j := ((n : Nat) : Int)) (by omega) (by omega)) hP hK hE) rfl rfl hl.1 rfl (lv_room (Nat.le_of_ble_eq_true rfl)) dX4_fairJudgesOf_19 ⟨Nat.le_of_ble_eq_true rfl, Nat.le_of_ble_eq_true rfl⟩) hS (fun q h1 h2 => ro_A h1 h2) (fun q h => ro_F hS hA q h) (fun r u t H1 locs ht hvm hw9 hB9 hz1 hk1 hS => ?_)
      have hw9 : r = (bi (m_agn g ((n : Nat) : Int) au)) := hw9
      subst hw9
      have hP := ro_P hP hk1
      generalize H1 = H at hP hS ⊢
      refine n_b_ne hx hb (tgt := 28) dX4_fairJudgesOf_22 (by decide) (fun h5 => ?_) (fun h5 => ?_)
      · skip
        refine n_inc (lv' := [(3, .int (iI (((n : Nat) : Int) + 1))), (2, .int (iI (m_cnt (fun j => !m_agn g j au) n))), (0, .ref (a 0)), (1, .int (iI au))]) hx hb dX4_fairJudgesOf_28 hl (k := 0) rfl (by decide) rfl (fun ls hl => ?_)
        refine lv_goto (tgt := 4) hx hb dX4_fairJudgesOf_31 (by decide) ?_
        have hl : lv_has ls 4 [(3, .int (iI (((n : Nat) : Int) + 1))), (2, .int (iI (m_cnt (fun j => !m_agn g j au) n))), (0, .ref (a 0)), (1, .int (iI au))] := lv_sub hl [0, 1, 2, 3] rfl
        have e6 : (((n : Nat) : Int) + 1) = (((n + 1) : Nat) : Int) := by rfl
        have e7 : (m_cnt (fun j => !m_agn g j au) n) = (m_cnt (fun j => !m_agn g j au) (n + 1)) := by exact (cnt_f (q := (fun j => !m_agn g j au)) (n := n) (by simp [h4, h5])).symm
        have hl : lv_has ls 4 [(3, .int (iI (((n + 1) : Nat) : Int))), (2, .int (iI (m_cnt (fun j => !m_agn g j au) (n + 1)))), (0, .ref (a 0)), (1, .int (iI au))] := lv_cast hl (by rw [e6, e7])
        exact ih4 (n + 1) H locs ls (by omega) hP hS hl
      · skip
        refine n_inc (lv' := [(2, .int (iI ((m_cnt (fun j => !m_agn g j au) n) + 1))), (3, .int (iI ((n : Nat) : Int))), (0, .ref (a 0)), (1, .int (iI au))]) hx hb dX4_fairJudgesOf_25 hl (k := 1) rfl (by decide) rfl (fun ls hl => ?_)
        refine n_inc (lv' := [(3, .int (iI (((n : Nat) : Int) + 1))), (2, .int (iI ((m_cnt (fun j => !m_agn g j au) n) + 1))), (0, .ref (a 0)), (1, .int (iI au))]) hx hb dX4_fairJudgesOf_28 hl (k := 1) rfl (by decide) rfl (fun ls hl => ?_)
        refine lv_goto (tgt := 4) hx hb dX4_fairJudgesOf_31 (by decide) ?_
        have hl : lv_has ls 4 [(3, .int (iI (((n : Nat) : Int) + 1))), (2, .int (iI ((m_cnt (fun j => !m_agn g j au) n) + 1))), (0, .ref (a 0)), (1, .int (iI au))] := lv_sub hl [0, 1, 2, 3] rfl
        have e8 : (((n : Nat) : Int) + 1) = (((n + 1) : Nat) : Int) := by rfl
        have e9 : ((m_cnt (fun j => !m_agn g j au) n) + 1) = (m_cnt (fun j => !m_agn g j au) (n + 1)) := by exact (cnt_t (q := (fun j => !m_agn g j au)) (n := n) (by simp [h4, h5])).symm
        have hl : lv_has ls 4 [(3, .int (iI (((n + 1) : Nat) : Int))), (2, .int (iI (m_cnt (fun j => !m_agn g j au) (n + 1)))), (0, .ref (a 0)), (1, .int (iI au))] := lv_cast hl (by rw [e8, e9])
        exact ih4 (n + 1) H locs ls (by omega) hP hS hl
  have hl : lv_has ls 4 [(3, .int (iI 0)), (2, .int (iI 0)), (0, .ref (a 0)), (1, .int (iI au))] := lv_sub hl [0, 1, 2, 3] rfl
  have hl : lv_has ls 4 [(3, .int (iI ((0 : Nat) : Int))), (2, .int (iI (m_cnt (fun j => !m_agn g j au) 0))), (0, .ref (a 0)), (1, .int (iI au))] := hl
  exact loop4 ((g 0 0 5).toNat) 0 H locs ls (by omega) hP hS hl
set_option maxHeartbeats 4000000 in
set_option maxRecDepth 100000 in
theorem c_hasMarksEnough (l : Launch) (D : va_G) (a : Nat → Nat) (cH cB cJ cI : ClassId) (ha : pj a) (g : m_St) (vt : Nat → Int32) (sz : Nat) (bb : Int) (hWf : Wf g) (hbb : 0 ≤ bb ∧ bb < 16) : Met l yX4_hasMarksEnough (wc yX4_hasMarksEnough cX4_hasMarksEnough 3 (some .boolean)) ({ frames := 3, cells := 0, slots := 0, locals := 66 }) (va_Pc [.ref (a 0), .int (iI bb)] (pS D a cH cB cJ cI sz g vt)) (va_Qi (fun (r : Int32) (_ : Unit) => r = bi (m_marksEnough g bb)) (fun _ _ => True) (fun q => sz ≤ q)) 0 0 (fun q => sz ≤ q) := by
  refine Met.ofW (cc := cX4_hasMarksEnough) (maxL := 3) (ret := (some .boolean)) (by decide +kernel) rfl ?_
  intro p e s m args below meth c s₁ B9 hml hv
  obtain ⟨rfl, hsz, hP, hK, hE⟩ := hv
  have hx := B9.exec
  have hb := B9.bytes
  have hr := B9.returns
  have hts := atoms_spec (ws := (wc yX4_hasMarksEnough cX4_hasMarksEnough 3 (some .boolean))) B9.pre
  have hw : ∀ w ∈ wsL_law0, w.before [.ref (a 0), .int (iI bb)].toArray s = true := fun w h => hts w (List.mem_cons_of_mem _ h)
  have hown : s.vm.findClass RX4 = some m.cls := findClass_of_methodNamed B9.named
  subst hsz
  have hS : va_S (fun q => s.heap.size ≤ q) s.heap s.heap [] := va_S.rf
  have hA : ∀ q : Nat, s.heap.size ≤ q → (fun q : Nat => s.heap.size ≤ q) q := fun _ h => h
  have hl := lv_entry ([.ref (a 0), .int (iI bb)]) (n := 3) (Nat.le_of_ble_eq_true rfl)
  rw [lg_entry_eq]
  generalize (lg_sl ([.ref (a 0), .int (iI bb)]) ++ List.replicate (3 - (lg_sl ([.ref (a 0), .int (iI bb)])).length) Slot.unset).toArray = ls at hl ⊢
  have hl : lv_has ls 3 [(0, .ref (a 0)), (1, .int (iI bb))] := hl
  suffices h9 : ∀ (H : Heap) (locs : List Loc), va_P D vwCl (pw a cH cB cJ cI g vt) H → va_S (fun q => s.heap.size ≤ q) s.heap H locs → W p l e (headSpec (wc yX4_hasMarksEnough cX4_hasMarksEnough 3 (some .boolean)) ({ frames := 3, cells := 0, slots := 0, locals := 66 })).room s m [.ref (a 0), .int (iI bb)].toArray below meth c H locs 0 0 (MQ below (va_Qi (fun (r : Int32) (_ : Unit) => r = bi (m_marksEnough g bb)) (fun _ _ => True) (fun q => s.heap.size ≤ q)) [.ref (a 0), .int (iI bb)].toArray s 0 0 (fun q => s.heap.size ≤ q)) (F0 m 0 ls []) from h9 s.heap [] hP hS
  clear hP hS
  intro H locs hP hS
  refine lv_aload_n hx hb dX4_hasMarksEnough_0 rfl (lv_at hl 0 rfl) ?_
  refine lv_iload_n hx hb dX4_hasMarksEnough_1 rfl (lv_at hl 1 rfl) ?_
  refine va_calli (va_runV (As := [.int (iI bb)]) (rest := []) ⟨hx, hb, hml, hown, hw⟩ (c_fairMarksOf l D a cH cB cJ cI ha g vt H.size bb hWf (by omega)) (cwV 1 hw (gA_V kw_253 kw_254 kw_255 kw_2 kw_256) rfl rfl rfl (by decide +kernel) ⟨Nat.le_of_ble_eq_true rfl, Nat.le_of_ble_eq_true rfl⟩) (pS_v (ci := 4) (q0 := 0) rfl pw_0 hP hK hE) rfl rfl hl.1 rfl (lv_room (Nat.le_of_ble_eq_true rfl)) dX4_hasMarksEnough_2 ⟨Nat.le_of_ble_eq_true rfl, Nat.le_of_ble_eq_true rfl⟩) hS (fun q h1 h2 => ro_A h1 h2) (fun q h => ro_F hS hA q h) (fun r u t H1 locs ht hvm hw9 hB9 hz1 hk1 hS => ?_)
  have hw9 : r = (iI (m_fairCount g bb)) := hw9
  subst hw9
  have hP := ro_P hP hk1
  generalize H1 = H at hP hS ⊢
  have s1 := cnt5 hWf (fun j => m_fair g j bb)
  have s2 := (show 0 ≤ m_fairCount g bb ∧ m_fairCount g bb ≤ 5 from cnt5 hWf (fun j => m_fair g j bb))
  refine lv_istore_n (lv' := [(2, .int (iI (m_fairCount g bb))), (0, .ref (a 0)), (1, .int (iI bb))]) hx hb dX4_hasMarksEnough_5 rfl hl (by decide) rfl (fun ls hl => ?_)
  refine lv_iload_n hx hb dX4_hasMarksEnough_6 rfl (lv_at hl 0 rfl) ?_
  refine lv_iconst (v := iI 2) hx hb dX4_hasMarksEnough_7 (by decide) ?_
  refine n_icmp_ge hx hb (by unfold RI; omega) (by unfold RI; omega) (tgt := 33) dX4_hasMarksEnough_8 (by decide) (fun h3 => ?_) (fun h3 => ?_)
  · skip
    refine lv_iconst (v := iI 1) hx hb dX4_hasMarksEnough_33 (by decide) ?_
    refine lv_goto (tgt := 38) hx hb dX4_hasMarksEnough_34 (by decide) ?_
    exact W.zret (v := (iI 1)) (ty := .boolean) hx hb hr (by decide +kernel) (fun t ht hW9 => ⟨⟨(iI 1), (), rfl, (show iI 1 = bi (m_marksEnough g bb) from by rw [show (m_marksEnough g bb) = true from by simp only [m_marksEnough]; simp [h3]; try omega]; rfl), trivial⟩, hS.F ht⟩) hS.2.2 dX4_hasMarksEnough_38
  · skip
    refine lv_iload_n hx hb dX4_hasMarksEnough_11 rfl (lv_at hl 0 rfl) ?_
    refine lv_iconst (v := iI 1) hx hb dX4_hasMarksEnough_12 (by decide) ?_
    refine n_icmp_ne hx hb (by unfold RI; omega) (by unfold RI; omega) (tgt := 37) dX4_hasMarksEnough_13 (by decide) (fun h4 => ?_) (fun h4 => ?_)
    · skip
      refine lv_iconst (v := iI 0) hx hb dX4_hasMarksEnough_37 (by decide) ?_
      exact W.zret (v := (iI 0)) (ty := .boolean) hx hb hr (by decide +kernel) (fun t ht hW9 => ⟨⟨(iI 0), (), rfl, (show iI 0 = bi (m_marksEnough g bb) from by rw [show (m_marksEnough g bb) = false from by simp only [m_marksEnough]; simp [h3, h4]; try omega]; rfl), trivial⟩, hS.F ht⟩) hS.2.2 dX4_hasMarksEnough_38
    · skip
      refine lv_aload_n hx hb dX4_hasMarksEnough_16 rfl (lv_at hl 1 rfl) ?_
      refine lv_aload_n hx hb dX4_hasMarksEnough_17 rfl (lv_at hl 1 rfl) ?_
      refine va_get (D := D) (ci := 4) (v := .ref (a 2)) (C := RX4) (T := TX4) (N := 19) hx hb hw hin_wsX40 hown hK hP 0 pw_0 rfl 1 (by decide) (hw _ kw_17) (fun _ h9 => h9) rfl dX4_hasMarksEnough_18 ?_
      refine lv_iload_n hx hb dX4_hasMarksEnough_21 rfl (lv_at hl 2 rfl) ?_
      refine p_aldB hx hb hK hP (k := bb) (by omega) (by omega) dX4_hasMarksEnough_22 ?_
      have s5 := Wf.b1 hWf (k := bb) (by omega) (by omega)
      refine va_get (D := D) (ci := 0) (v := .int (iI (g 2 bb 1))) (C := RX0) (T := TX0) (N := 11) hx hb hw hin_wsX00 hown hK hP (12 + bb.toNat) (pw_B (b := bb) (by omega) (by omega)) rfl 1 (by decide) (hw _ kw_211) (fun _ h9 => h9) rfl dX4_hasMarksEnough_23 ?_
      refine va_calli (va_runV (As := [.int (iI (g 2 bb 1))]) (rest := []) ⟨hx, hb, hml, hown, hw⟩ (c_fairJudgesOf l D a cH cB cJ cI ha g vt H.size (g 2 bb 1) hWf (by omega)) (cwV 1 hw (gA_V kw_354 kw_355 kw_356 kw_2 kw_357) rfl rfl rfl (by decide +kernel) ⟨Nat.le_of_ble_eq_true rfl, Nat.le_of_ble_eq_true rfl⟩) (pS_v (ci := 4) (q0 := 0) rfl pw_0 hP hK hE) rfl rfl hl.1 rfl (lv_room (Nat.le_of_ble_eq_true rfl)) dX4_hasMarksEnough_26 ⟨Nat.le_of_ble_eq_true rfl, Nat.le_of_ble_eq_true rfl⟩) hS (fun q h1 h2 => ro_A h1 h2) (fun q h => ro_F hS hA q h) (fun r u t H1 locs ht hvm hw9 hB9 hz1 hk1 hS => ?_)
      have hw9 : r = (iI (m_fairJudges g (g 2 bb 1))) := hw9
      subst hw9
      have hP := ro_P hP hk1
      generalize H1 = H at hP hS ⊢
      have s6 := (show 0 ≤ m_fairJudges g (g 2 bb 1) ∧ m_fairJudges g (g 2 bb 1) ≤ 5 from cnt5 hWf _)
      refine lv_iconst (v := iI 1) hx hb dX4_hasMarksEnough_29 (by decide) ?_
      refine n_icmp_ne hx hb (by unfold RI; omega) (by unfold RI; omega) (tgt := 37) dX4_hasMarksEnough_30 (by decide) (fun h7 => ?_) (fun h7 => ?_)
      · skip
        refine lv_iconst (v := iI 0) hx hb dX4_hasMarksEnough_37 (by decide) ?_
        exact W.zret (v := (iI 0)) (ty := .boolean) hx hb hr (by decide +kernel) (fun t ht hW9 => ⟨⟨(iI 0), (), rfl, (show iI 0 = bi (m_marksEnough g bb) from by rw [show (m_marksEnough g bb) = false from by simp only [m_marksEnough]; simp [h3, h4, h7]; try omega]; rfl), trivial⟩, hS.F ht⟩) hS.2.2 dX4_hasMarksEnough_38
      · skip
        refine lv_iconst (v := iI 1) hx hb dX4_hasMarksEnough_33 (by decide) ?_
        refine lv_goto (tgt := 38) hx hb dX4_hasMarksEnough_34 (by decide) ?_
        exact W.zret (v := (iI 1)) (ty := .boolean) hx hb hr (by decide +kernel) (fun t ht hW9 => ⟨⟨(iI 1), (), rfl, (show iI 1 = bi (m_marksEnough g bb) from by rw [show (m_marksEnough g bb) = true from by simp only [m_marksEnough]; simp [h3, h4, h7]; try omega]; rfl), trivial⟩, hS.F ht⟩) hS.2.2 dX4_hasMarksEnough_38
set_option maxHeartbeats 4000000 in
set_option maxRecDepth 100000 in
theorem c_pagesLeft (l : Launch) (D : va_G) (a : Nat → Nat) (cH cB cJ cI : ClassId) (ha : pj a) (g : m_St) (vt : Nat → Int32) (sz : Nat) (jj : Int) (hWf : Wf g) (hjj : 0 ≤ jj ∧ jj < 5) : Met l yX2_pagesLeft (wc yX2_pagesLeft cX2_pagesLeft 1 (some .int)) ({ frames := 0, cells := 0, slots := 0, locals := 0 }) (va_Pc [.ref (a (28 + 6 * jj.toNat))] (pS D a cH cB cJ cI sz g vt)) (va_Qi (fun (r : Int32) (_ : Unit) => r = iI (m_pagesLeft g jj)) (fun _ _ => True) (fun q => sz ≤ q)) 0 0 (fun q => sz ≤ q) := by
  refine Met.ofW (cc := cX2_pagesLeft) (maxL := 1) (ret := (some .int)) (by decide +kernel) rfl ?_
  intro p e s m args below meth c s₁ B9 hml hv
  obtain ⟨rfl, hsz, hP, hK, hE⟩ := hv
  have hx := B9.exec
  have hb := B9.bytes
  have hr := B9.returns
  have hts := atoms_spec (ws := (wc yX2_pagesLeft cX2_pagesLeft 1 (some .int))) B9.pre
  have hw : ∀ w ∈ wsL_law0, w.before [.ref (a (28 + 6 * jj.toNat))].toArray s = true := fun w h => hts w (List.mem_cons_of_mem _ h)
  have hown : s.vm.findClass RX2 = some m.cls := findClass_of_methodNamed B9.named
  subst hsz
  have hS : va_S (fun q => s.heap.size ≤ q) s.heap s.heap [] := va_S.rf
  have hA : ∀ q : Nat, s.heap.size ≤ q → (fun q : Nat => s.heap.size ≤ q) q := fun _ h => h
  have hl := lv_entry ([.ref (a (28 + 6 * jj.toNat))]) (n := 1) (Nat.le_of_ble_eq_true rfl)
  rw [lg_entry_eq]
  generalize (lg_sl ([.ref (a (28 + 6 * jj.toNat))]) ++ List.replicate (1 - (lg_sl ([.ref (a (28 + 6 * jj.toNat))])).length) Slot.unset).toArray = ls at hl ⊢
  have hl : lv_has ls 1 [(0, .ref (a (28 + 6 * jj.toNat)))] := hl
  suffices h9 : ∀ (H : Heap) (locs : List Loc), va_P D vwCl (pw a cH cB cJ cI g vt) H → va_S (fun q => s.heap.size ≤ q) s.heap H locs → W p l e (headSpec (wc yX2_pagesLeft cX2_pagesLeft 1 (some .int)) ({ frames := 0, cells := 0, slots := 0, locals := 0 })).room s m [.ref (a (28 + 6 * jj.toNat))].toArray below meth c H locs 0 0 (MQ below (va_Qi (fun (r : Int32) (_ : Unit) => r = iI (m_pagesLeft g jj)) (fun _ _ => True) (fun q => s.heap.size ≤ q)) [.ref (a (28 + 6 * jj.toNat))].toArray s 0 0 (fun q => s.heap.size ≤ q)) (F0 m 0 ls []) from h9 s.heap [] hP hS
  clear hP hS
  intro H locs hP hS
  refine lv_aload_n hx hb dX2_pagesLeft_0 rfl (lv_at hl 0 rfl) ?_
  have s1 := Wf.j8 hWf (k := jj) (by omega) (by omega)
  refine va_get (D := D) (ci := 2) (v := .int (iI (g 3 jj 8))) (C := RX2) (T := TX2) (N := 16) hx hb hw hin_wsX20 hown hK hP (28 + 6 * jj.toNat) (pw_J (j := jj) (by omega) (by omega)) rfl 8 (by decide) (hw _ kw_186) (fun _ h9 => h9) rfl dX2_pagesLeft_1 ?_
  refine lv_aload_n hx hb dX2_pagesLeft_4 rfl (lv_at hl 0 rfl) ?_
  have s2 := Wf.j10 hWf (k := jj) (by omega) (by omega)
  refine va_get (D := D) (ci := 2) (v := .int (iI (g 3 jj 10))) (C := RX2) (T := TX2) (N := 16) hx hb hw hin_wsX20 hown hK hP (28 + 6 * jj.toNat) (pw_J (j := jj) (by omega) (by omega)) rfl 10 (by decide) (hw _ kw_187) (fun _ h9 => h9) rfl dX2_pagesLeft_5 ?_
  refine n_sub hx hb dX2_pagesLeft_8 ?_
  exact W.iret (v := (iI (g 3 jj 8 - g 3 jj 10))) hx hb hr (fun t ht hW9 => ⟨⟨(iI (g 3 jj 8 - g 3 jj 10)), (), rfl, (congrArg iI (by rfl)), trivial⟩, hS.F ht⟩) hS.2.2 dX2_pagesLeft_9
set_option maxHeartbeats 4000000 in
set_option maxRecDepth 100000 in
theorem c_paceAfter (l : Launch) (D : va_G) (a : Nat → Nat) (cH cB cJ cI : ClassId) (ha : pj a) (g : m_St) (vt : Nat → Int32) (sz : Nat) (jj : Int) (pp : Int) (hWf : Wf g) (hjj : 0 ≤ jj ∧ jj < 5) (hpp : 0 ≤ pp ∧ pp ≤ 1000000) : Met l yX2_paceAfter (wc yX2_paceAfter cX2_paceAfter 2 (some .int)) ({ frames := 1, cells := 0, slots := 0, locals := 13 }) (va_Pc [.ref (a (28 + 6 * jj.toNat)), .int (iI pp)] (pS D a cH cB cJ cI sz g vt)) (va_Qi (fun (r : Int32) (_ : Unit) => r = iI (m_pace (g 3 jj 0) pp)) (fun _ _ => True) (fun q => sz ≤ q)) 0 0 (fun q => sz ≤ q) := by
  refine Met.ofW (cc := cX2_paceAfter) (maxL := 2) (ret := (some .int)) (by decide +kernel) rfl ?_
  intro p e s m args below meth c s₁ B9 hml hv
  obtain ⟨rfl, hsz, hP, hK, hE⟩ := hv
  have hx := B9.exec
  have hb := B9.bytes
  have hr := B9.returns
  have hts := atoms_spec (ws := (wc yX2_paceAfter cX2_paceAfter 2 (some .int))) B9.pre
  have hw : ∀ w ∈ wsL_law0, w.before [.ref (a (28 + 6 * jj.toNat)), .int (iI pp)].toArray s = true := fun w h => hts w (List.mem_cons_of_mem _ h)
  have hown : s.vm.findClass RX2 = some m.cls := findClass_of_methodNamed B9.named
  subst hsz
  have hS : va_S (fun q => s.heap.size ≤ q) s.heap s.heap [] := va_S.rf
  have hA : ∀ q : Nat, s.heap.size ≤ q → (fun q : Nat => s.heap.size ≤ q) q := fun _ h => h
  have hl := lv_entry ([.ref (a (28 + 6 * jj.toNat)), .int (iI pp)]) (n := 2) (Nat.le_of_ble_eq_true rfl)
  rw [lg_entry_eq]
  generalize (lg_sl ([.ref (a (28 + 6 * jj.toNat)), .int (iI pp)]) ++ List.replicate (2 - (lg_sl ([.ref (a (28 + 6 * jj.toNat)), .int (iI pp)])).length) Slot.unset).toArray = ls at hl ⊢
  have hl : lv_has ls 2 [(0, .ref (a (28 + 6 * jj.toNat))), (1, .int (iI pp))] := hl
  suffices h9 : ∀ (H : Heap) (locs : List Loc), va_P D vwCl (pw a cH cB cJ cI g vt) H → va_S (fun q => s.heap.size ≤ q) s.heap H locs → W p l e (headSpec (wc yX2_paceAfter cX2_paceAfter 2 (some .int)) ({ frames := 1, cells := 0, slots := 0, locals := 13 })).room s m [.ref (a (28 + 6 * jj.toNat)), .int (iI pp)].toArray below meth c H locs 0 0 (MQ below (va_Qi (fun (r : Int32) (_ : Unit) => r = iI (m_pace (g 3 jj 0) pp)) (fun _ _ => True) (fun q => s.heap.size ≤ q)) [.ref (a (28 + 6 * jj.toNat)), .int (iI pp)].toArray s 0 0 (fun q => s.heap.size ≤ q)) (F0 m 0 ls []) from h9 s.heap [] hP hS
  clear hP hS
  intro H locs hP hS
  refine lv_bipush (v := iI 10) hx hb dX2_paceAfter_0 (by decide) ?_
  refine lv_aload_n hx hb dX2_paceAfter_2 rfl (lv_at hl 0 rfl) ?_
  have s1 := Wf.j0 hWf (k := jj) (by omega) (by omega)
  refine va_get (D := D) (ci := 2) (v := .int (iI (g 3 jj 0))) (C := RX2) (T := TX2) (N := 16) hx hb hw hin_wsX20 hown hK hP (28 + 6 * jj.toNat) (pw_J (j := jj) (by omega) (by omega)) rfl 0 (by decide) (hw _ kw_89) (fun _ h9 => h9) rfl dX2_paceAfter_3 ?_
  refine lv_iconst (v := iI 5) hx hb dX2_paceAfter_6 (by decide) ?_
  refine lv_iload_n hx hb dX2_paceAfter_7 rfl (lv_at hl 1 rfl) ?_
  refine lv_sipush (v := iI 500) hx hb dX2_paceAfter_8 (by decide) ?_
  refine n_div hx hb (by unfold RI; omega) (by unfold RI; omega) (by omega) dX2_paceAfter_11 ?_
  have f2 := tdiv_b (x := pp) (by omega)
  refine n_mul hx hb dX2_paceAfter_12 ?_
  refine n_sub hx hb dX2_paceAfter_13 ?_
  refine va_mmax hx hb (hml.trans hl.1.symm) hown (hw _ kw_315) (hw _ kw_5) (hw _ kw_6) (hw _ kw_7) (Nat.le_of_ble_eq_true rfl) (Nat.le_of_ble_eq_true rfl) (Nat.le_of_ble_eq_true rfl) (Nat.le_of_ble_eq_true rfl) dX2_paceAfter_14 ?_
  rw [n_max (by unfold RI; omega) (by unfold RI; omega)]
  exact W.iret (v := (iI (max 10 (g 3 jj 0 - (5 * (pp.tdiv 500)))))) hx hb hr (fun t ht hW9 => ⟨⟨(iI (max 10 (g 3 jj 0 - (5 * (pp.tdiv 500))))), (), rfl, (congrArg iI (by rfl)), trivial⟩, hS.F ht⟩) hS.2.2 dX2_paceAfter_17
set_option maxHeartbeats 4000000 in
set_option maxRecDepth 100000 in
theorem c_markFor (l : Launch) (D : va_G) (a : Nat → Nat) (cH cB cJ cI : ClassId) (ha : pj a) (g : m_St) (vt : Nat → Int32) (sz : Nat) (jj : Int) (bb : Int) (hWf : Wf g) (hjj : 0 ≤ jj ∧ jj < 5) (hbb : 0 ≤ bb ∧ bb < 16) : Met l yX2_markFor (wc yX2_markFor cX2_markFor 3 (some .int)) ({ frames := 1, cells := 0, slots := 0, locals := 15 }) (va_Pc [.ref (a (28 + 6 * jj.toNat)), .ref (a (12 + bb.toNat))] (pS D a cH cB cJ cI sz g vt)) (va_Qi (fun (r : Int32) (_ : Unit) => r = iI (m_markFor g jj bb)) (fun _ _ => True) (fun q => sz ≤ q)) 0 0 (fun q => sz ≤ q) := by
  refine Met.ofW (cc := cX2_markFor) (maxL := 3) (ret := (some .int)) (by decide +kernel) rfl ?_
  intro p e s m args below meth c s₁ B9 hml hv
  obtain ⟨rfl, hsz, hP, hK, hE⟩ := hv
  have hx := B9.exec
  have hb := B9.bytes
  have hr := B9.returns
  have hts := atoms_spec (ws := (wc yX2_markFor cX2_markFor 3 (some .int))) B9.pre
  have hw : ∀ w ∈ wsL_law0, w.before [.ref (a (28 + 6 * jj.toNat)), .ref (a (12 + bb.toNat))].toArray s = true := fun w h => hts w (List.mem_cons_of_mem _ h)
  have hown : s.vm.findClass RX2 = some m.cls := findClass_of_methodNamed B9.named
  subst hsz
  have hS : va_S (fun q => s.heap.size ≤ q) s.heap s.heap [] := va_S.rf
  have hA : ∀ q : Nat, s.heap.size ≤ q → (fun q : Nat => s.heap.size ≤ q) q := fun _ h => h
  have hl := lv_entry ([.ref (a (28 + 6 * jj.toNat)), .ref (a (12 + bb.toNat))]) (n := 3) (Nat.le_of_ble_eq_true rfl)
  rw [lg_entry_eq]
  generalize (lg_sl ([.ref (a (28 + 6 * jj.toNat)), .ref (a (12 + bb.toNat))]) ++ List.replicate (3 - (lg_sl ([.ref (a (28 + 6 * jj.toNat)), .ref (a (12 + bb.toNat))])).length) Slot.unset).toArray = ls at hl ⊢
  have hl : lv_has ls 3 [(0, .ref (a (28 + 6 * jj.toNat))), (1, .ref (a (12 + bb.toNat)))] := hl
  suffices h9 : ∀ (H : Heap) (locs : List Loc), va_P D vwCl (pw a cH cB cJ cI g vt) H → va_S (fun q => s.heap.size ≤ q) s.heap H locs → W p l e (headSpec (wc yX2_markFor cX2_markFor 3 (some .int)) ({ frames := 1, cells := 0, slots := 0, locals := 15 })).room s m [.ref (a (28 + 6 * jj.toNat)), .ref (a (12 + bb.toNat))].toArray below meth c H locs 0 0 (MQ below (va_Qi (fun (r : Int32) (_ : Unit) => r = iI (m_markFor g jj bb)) (fun _ _ => True) (fun q => s.heap.size ≤ q)) [.ref (a (28 + 6 * jj.toNat)), .ref (a (12 + bb.toNat))].toArray s 0 0 (fun q => s.heap.size ≤ q)) (F0 m 0 ls []) from h9 s.heap [] hP hS
  clear hP hS
  intro H locs hP hS
  refine lv_aload_n hx hb dX2_markFor_0 rfl (lv_at hl 1 rfl) ?_
  have s1 := Wf.b4 hWf (k := bb) (by omega) (by omega)
  refine va_get (D := D) (ci := 0) (v := .int (iI (g 2 bb 4))) (C := RX0) (T := TX0) (N := 11) hx hb hw hin_wsX00 hown hK hP (12 + bb.toNat) (pw_B (b := bb) (by omega) (by omega)) rfl 4 (by decide) (hw _ kw_489) (fun _ h9 => h9) rfl dX2_markFor_1 ?_
  refine lv_aload_n hx hb dX2_markFor_4 rfl (lv_at hl 0 rfl) ?_
  have s2 := Wf.j2 hWf (k := jj) (by omega) (by omega)
  refine va_get (D := D) (ci := 2) (v := .int (iI (g 3 jj 2))) (C := RX2) (T := TX2) (N := 16) hx hb hw hin_wsX20 hown hK hP (28 + 6 * jj.toNat) (pw_J (j := jj) (by omega) (by omega)) rfl 2 (by decide) (hw _ kw_91) (fun _ h9 => h9) rfl dX2_markFor_5 ?_
  refine n_add hx hb dX2_markFor_8 ?_
  refine lv_bipush (v := iI 10) hx hb dX2_markFor_9 (by decide) ?_
  refine n_add hx hb dX2_markFor_11 ?_
  refine lv_iconst (v := iI 2) hx hb dX2_markFor_12 (by decide) ?_
  refine lv_aload_n hx hb dX2_markFor_13 rfl (lv_at hl 0 rfl) ?_
  have s3 := Wf.j1 hWf (k := jj) (by omega) (by omega)
  refine va_get (D := D) (ci := 2) (v := .int (iI (g 3 jj 1))) (C := RX2) (T := TX2) (N := 16) hx hb hw hin_wsX20 hown hK hP (28 + 6 * jj.toNat) (pw_J (j := jj) (by omega) (by omega)) rfl 1 (by decide) (hw _ kw_90) (fun _ h9 => h9) rfl dX2_markFor_14 ?_
  refine lv_aload_n hx hb dX2_markFor_17 rfl (lv_at hl 1 rfl) ?_
  have s4 := Wf.b5 hWf (k := bb) (by omega) (by omega)
  refine va_get (D := D) (ci := 0) (v := .int (iI (g 2 bb 5))) (C := RX0) (T := TX0) (N := 11) hx hb hw hin_wsX00 hown hK hP (12 + bb.toNat) (pw_B (b := bb) (by omega) (by omega)) rfl 5 (by decide) (hw _ kw_490) (fun _ h9 => h9) rfl dX2_markFor_18 ?_
  refine n_sub hx hb dX2_markFor_21 ?_
  refine va_mabs hx hb (hml.trans hl.1.symm) hown (hw _ kw_491) (hw _ kw_492) (hw _ kw_6) (hw _ kw_493) (Nat.le_of_ble_eq_true rfl) (Nat.le_of_ble_eq_true rfl) (Nat.le_of_ble_eq_true rfl) (Nat.le_of_ble_eq_true rfl) dX2_markFor_22 ?_
  rw [n_abs (by unfold RI; omega)]
  refine n_mul hx hb dX2_markFor_25 ?_
  refine n_sub hx hb dX2_markFor_26 ?_
  refine lv_istore_n (lv' := [(2, .int (iI (((g 2 bb 4 + g 3 jj 2) + 10) - (2 * (((g 3 jj 1 - g 2 bb 5)).natAbs : Int))))), (0, .ref (a (28 + 6 * jj.toNat))), (1, .ref (a (12 + bb.toNat)))]) hx hb dX2_markFor_27 rfl hl (by decide) rfl (fun ls hl => ?_)
  refine lv_iconst (v := iI 0) hx hb dX2_markFor_28 (by decide) ?_
  refine lv_bipush (v := iI 99) hx hb dX2_markFor_29 (by decide) ?_
  refine lv_iload_n hx hb dX2_markFor_31 rfl (lv_at hl 0 rfl) ?_
  refine va_mmin hx hb (hml.trans hl.1.symm) hown (hw _ kw_483) (hw _ kw_275) (hw _ kw_6) (hw _ kw_276) (Nat.le_of_ble_eq_true rfl) (Nat.le_of_ble_eq_true rfl) (Nat.le_of_ble_eq_true rfl) (Nat.le_of_ble_eq_true rfl) dX2_markFor_32 ?_
  rw [n_min (by unfold RI; omega) (by unfold RI; omega)]
  refine va_mmax hx hb (hml.trans hl.1.symm) hown (hw _ kw_315) (hw _ kw_5) (hw _ kw_6) (hw _ kw_7) (Nat.le_of_ble_eq_true rfl) (Nat.le_of_ble_eq_true rfl) (Nat.le_of_ble_eq_true rfl) (Nat.le_of_ble_eq_true rfl) dX2_markFor_35 ?_
  rw [n_max (by unfold RI; omega) (by unfold RI; omega)]
  exact W.iret (v := (iI (max 0 (min 99 (((g 2 bb 4 + g 3 jj 2) + 10) - (2 * (((g 3 jj 1 - g 2 bb 5)).natAbs : Int))))))) hx hb hr (fun t ht hW9 => ⟨⟨(iI (max 0 (min 99 (((g 2 bb 4 + g 3 jj 2) + 10) - (2 * (((g 3 jj 1 - g 2 bb 5)).natAbs : Int)))))), (), rfl, (congrArg iI (by rfl)), trivial⟩, hS.F ht⟩) hS.2.2 dX2_markFor_38
set_option maxHeartbeats 4000000 in
set_option maxRecDepth 100000 in
theorem c_pointsLeft (l : Launch) (D : va_G) (a : Nat → Nat) (cH cB cJ cI : ClassId) (ha : pj a) (g : m_St) (vt : Nat → Int32) (sz : Nat) (jj : Int) (hWf : Wf g) (hjj : 0 ≤ jj ∧ jj < 5) : Met l yX2_pointsLeft (wc yX2_pointsLeft cX2_pointsLeft 3 (some .int)) ({ frames := 0, cells := 0, slots := 0, locals := 0 }) (va_Pc [.ref (a (28 + 6 * jj.toNat))] (pS D a cH cB cJ cI sz g vt)) (va_Qi (fun (r : Int32) (_ : Unit) => r = iI (m_ptsLeft g jj)) (fun _ _ => True) (fun q => sz ≤ q)) 0 0 (fun q => sz ≤ q) := by
  refine Met.ofW (cc := cX2_pointsLeft) (maxL := 3) (ret := (some .int)) (by decide +kernel) rfl ?_
  intro p e s m args below meth c s₁ B9 hml hv
  obtain ⟨rfl, hsz, hP, hK, hE⟩ := hv
  have hx := B9.exec
  have hb := B9.bytes
  have hr := B9.returns
  have hts := atoms_spec (ws := (wc yX2_pointsLeft cX2_pointsLeft 3 (some .int))) B9.pre
  have hw : ∀ w ∈ wsL_law0, w.before [.ref (a (28 + 6 * jj.toNat))].toArray s = true := fun w h => hts w (List.mem_cons_of_mem _ h)
  have hown : s.vm.findClass RX2 = some m.cls := findClass_of_methodNamed B9.named
  subst hsz
  have hS : va_S (fun q => s.heap.size ≤ q) s.heap s.heap [] := va_S.rf
  have hA : ∀ q : Nat, s.heap.size ≤ q → (fun q : Nat => s.heap.size ≤ q) q := fun _ h => h
  have hl := lv_entry ([.ref (a (28 + 6 * jj.toNat))]) (n := 3) (Nat.le_of_ble_eq_true rfl)
  rw [lg_entry_eq]
  generalize (lg_sl ([.ref (a (28 + 6 * jj.toNat))]) ++ List.replicate (3 - (lg_sl ([.ref (a (28 + 6 * jj.toNat))])).length) Slot.unset).toArray = ls at hl ⊢
  have hl : lv_has ls 3 [(0, .ref (a (28 + 6 * jj.toNat)))] := hl
  suffices h9 : ∀ (H : Heap) (locs : List Loc), va_P D vwCl (pw a cH cB cJ cI g vt) H → va_S (fun q => s.heap.size ≤ q) s.heap H locs → W p l e (headSpec (wc yX2_pointsLeft cX2_pointsLeft 3 (some .int)) ({ frames := 0, cells := 0, slots := 0, locals := 0 })).room s m [.ref (a (28 + 6 * jj.toNat))].toArray below meth c H locs 0 0 (MQ below (va_Qi (fun (r : Int32) (_ : Unit) => r = iI (m_ptsLeft g jj)) (fun _ _ => True) (fun q => s.heap.size ≤ q)) [.ref (a (28 + 6 * jj.toNat))].toArray s 0 0 (fun q => s.heap.size ≤ q)) (F0 m 0 ls []) from h9 s.heap [] hP hS
  clear hP hS
  intro H locs hP hS
  refine lv_bipush (v := iI 12) hx hb dX2_pointsLeft_0 (by decide) ?_
  refine lv_istore_n (lv' := [(1, .int (iI 12)), (0, .ref (a (28 + 6 * jj.toNat)))]) hx hb dX2_pointsLeft_2 rfl hl (by decide) rfl (fun ls hl => ?_)
  refine lv_iconst (v := iI 0) hx hb dX2_pointsLeft_3 (by decide) ?_
  refine lv_istore_n (lv' := [(2, .int (iI 0)), (1, .int (iI 12)), (0, .ref (a (28 + 6 * jj.toNat)))]) hx hb dX2_pointsLeft_4 rfl hl (by decide) rfl (fun ls hl => ?_)
  have loop5 : ∀ (d n : Nat) (H : Heap) (locs : List Loc) (ls : Array Slot), n + d = 16 → va_P D vwCl (pw a cH cB cJ cI g vt) H → va_S (fun q => s.heap.size ≤ q) s.heap H locs → lv_has ls 3 [(2, .int (iI ((n : Nat) : Int))), (1, .int (iI (12 - m_sm (fun b => g 7 jj b) n))), (0, .ref (a (28 + 6 * jj.toNat)))] → W p l e (headSpec (wc yX2_pointsLeft cX2_pointsLeft 3 (some .int)) ({ frames := 0, cells := 0, slots := 0, locals := 0 })).room s m [.ref (a (28 + 6 * jj.toNat))].toArray below meth c H locs 0 0 (MQ below (va_Qi (fun (r : Int32) (_ : Unit) => r = iI (m_ptsLeft g jj)) (fun _ _ => True) (fun q => s.heap.size ≤ q)) [.ref (a (28 + 6 * jj.toNat))].toArray s 0 0 (fun q => s.heap.size ≤ q)) (F0 m 5 ls []) := by
    intro d
    induction d with
    | zero =>
      intro n H locs ls hn hP hS hl
      obtain rfl : n = 16 := by omega
      refine lv_iload_n hx hb dX2_pointsLeft_5 rfl (lv_at hl 0 rfl) ?_
      refine lv_bipush (v := iI 16) hx hb dX2_pointsLeft_6 (by decide) ?_
      refine n_icmp_ge hx hb (by unfold RI; omega) (by unfold RI; omega) (tgt := 26) dX2_pointsLeft_8 (by decide) (fun h1 => ?_) (fun h1 => absurd h1 (by intro h1; omega))
      refine lv_iload_n hx hb dX2_pointsLeft_26 rfl (lv_at hl 1 rfl) ?_
      exact W.iret (v := (iI (12 - m_sm (fun b => g 7 jj b) 16))) hx hb hr (fun t ht hW9 => ⟨⟨(iI (12 - m_sm (fun b => g 7 jj b) 16)), (), rfl, (congrArg iI (by rfl)), trivial⟩, hS.F ht⟩) hS.2.2 dX2_pointsLeft_27
    | succ d ih5 =>
      intro n H locs ls hn hP hS hl
      refine lv_iload_n hx hb dX2_pointsLeft_5 rfl (lv_at hl 0 rfl) ?_
      refine lv_bipush (v := iI 16) hx hb dX2_pointsLeft_6 (by decide) ?_
      refine n_icmp_ge hx hb (by unfold RI; omega) (by unfold RI; omega) (tgt := 26) dX2_pointsLeft_8 (by decide) (fun h2 => absurd h2 (by intro h2; omega)) (fun h2 => ?_)
      refine lv_iload_n hx hb dX2_pointsLeft_11 rfl (lv_at hl 1 rfl) ?_
      refine lv_aload_n hx hb dX2_pointsLeft_12 rfl (lv_at hl 2 rfl) ?_
      refine va_get (D := D) (ci := 2) (v := .ref (a (28 + 4 + 6 * jj.toNat))) (C := RX2) (T := TX2) (N := 16) hx hb hw hin_wsX20 hown hK hP (28 + 6 * jj.toNat) (pw_J (j := jj) (by omega) (by omega)) rfl 13 (by decide) (hw _ kw_57) (fun _ h9 => h9) rfl dX2_pointsLeft_13 ?_
      refine lv_iload_n hx hb dX2_pointsLeft_16 rfl (lv_at hl 0 rfl) ?_
      refine p_rd hx hb hK hP (j := jj) (k := ((n : Nat) : Int)) (r := 4) (by omega) (by omega) (by decide) (by omega) (by rw [if_neg (by decide)]; omega) dX2_pointsLeft_17 ?_
      have s3 := Wf.r7 hWf (j := jj) (k := ((n : Nat) : Int)) (by omega) (by omega) (by omega) (by omega)
      rw [show g (3 + 4) jj ((n : Nat) : Int) = g 7 jj ((n : Nat) : Int) from rfl]
      refine n_sub hx hb dX2_pointsLeft_18 ?_
      refine lv_istore_n (lv' := [(1, .int (iI ((12 - m_sm (fun b => g 7 jj b) n) - g 7 jj ((n : Nat) : Int)))), (2, .int (iI ((n : Nat) : Int))), (0, .ref (a (28 + 6 * jj.toNat)))]) hx hb dX2_pointsLeft_19 rfl hl (by decide) rfl (fun ls hl => ?_)
      refine n_inc (lv' := [(2, .int (iI (((n : Nat) : Int) + 1))), (1, .int (iI ((12 - m_sm (fun b => g 7 jj b) n) - g 7 jj ((n : Nat) : Int)))), (0, .ref (a (28 + 6 * jj.toNat)))]) hx hb dX2_pointsLeft_20 hl (k := 1) rfl (by decide) rfl (fun ls hl => ?_)
      refine lv_goto (tgt := 5) hx hb dX2_pointsLeft_23 (by decide) ?_
      have hl : lv_has ls 3 [(2, .int (iI (((n : Nat) : Int) + 1))), (1, .int (iI ((12 - m_sm (fun b => g 7 jj b) n) - g 7 jj ((n : Nat) : Int)))), (0, .ref (a (28 + 6 * jj.toNat)))] := lv_sub hl [0, 1, 2] rfl
      have e4 : (((n : Nat) : Int) + 1) = (((n + 1) : Nat) : Int) := by rfl
      have e5 : ((12 - m_sm (fun b => g 7 jj b) n) - g 7 jj ((n : Nat) : Int)) = (12 - m_sm (fun b => g 7 jj b) (n + 1)) := by simp only [m_sm]; omega
      have hl : lv_has ls 3 [(2, .int (iI (((n + 1) : Nat) : Int))), (1, .int (iI (12 - m_sm (fun b => g 7 jj b) (n + 1)))), (0, .ref (a (28 + 6 * jj.toNat)))] := lv_cast hl (by rw [e4, e5])
      exact ih5 (n + 1) H locs ls (by omega) hP hS hl
  have hl : lv_has ls 3 [(2, .int (iI 0)), (1, .int (iI 12)), (0, .ref (a (28 + 6 * jj.toNat)))] := lv_sub hl [0, 1, 2] rfl
  have hl : lv_has ls 3 [(2, .int (iI ((0 : Nat) : Int))), (1, .int (iI (12 - m_sm (fun b => g 7 jj b) 0))), (0, .ref (a (28 + 6 * jj.toNat)))] := hl
  exact loop5 16 0 H locs ls (by omega) hP hS hl
set_option maxHeartbeats 4000000 in
set_option maxRecDepth 100000 in
theorem c_hasOrder (l : Launch) (D : va_G) (a : Nat → Nat) (cH cB cJ cI : ClassId) (ha : pj a) (g : m_St) (vt : Nat → Int32) (sz : Nat) (jj : Int) (hWf : Wf g) (hjj : 0 ≤ jj ∧ jj < 5) : Met l yX2_hasOrder (wc yX2_hasOrder cX2_hasOrder 1 (some .boolean)) ({ frames := 0, cells := 0, slots := 0, locals := 0 }) (va_Pc [.ref (a (28 + 6 * jj.toNat))] (pS D a cH cB cJ cI sz g vt)) (va_Qi (fun (r : Int32) (_ : Unit) => r = bi (decide (0 < g 3 jj 15))) (fun _ _ => True) (fun q => sz ≤ q)) 0 0 (fun q => sz ≤ q) := by
  refine Met.ofW (cc := cX2_hasOrder) (maxL := 1) (ret := (some .boolean)) (by decide +kernel) rfl ?_
  intro p e s m args below meth c s₁ B9 hml hv
  obtain ⟨rfl, hsz, hP, hK, hE⟩ := hv
  have hx := B9.exec
  have hb := B9.bytes
  have hr := B9.returns
  have hts := atoms_spec (ws := (wc yX2_hasOrder cX2_hasOrder 1 (some .boolean))) B9.pre
  have hw : ∀ w ∈ wsL_law0, w.before [.ref (a (28 + 6 * jj.toNat))].toArray s = true := fun w h => hts w (List.mem_cons_of_mem _ h)
  have hown : s.vm.findClass RX2 = some m.cls := findClass_of_methodNamed B9.named
  subst hsz
  have hS : va_S (fun q => s.heap.size ≤ q) s.heap s.heap [] := va_S.rf
  have hA : ∀ q : Nat, s.heap.size ≤ q → (fun q : Nat => s.heap.size ≤ q) q := fun _ h => h
  have hl := lv_entry ([.ref (a (28 + 6 * jj.toNat))]) (n := 1) (Nat.le_of_ble_eq_true rfl)
  rw [lg_entry_eq]
  generalize (lg_sl ([.ref (a (28 + 6 * jj.toNat))]) ++ List.replicate (1 - (lg_sl ([.ref (a (28 + 6 * jj.toNat))])).length) Slot.unset).toArray = ls at hl ⊢
  have hl : lv_has ls 1 [(0, .ref (a (28 + 6 * jj.toNat)))] := hl
  suffices h9 : ∀ (H : Heap) (locs : List Loc), va_P D vwCl (pw a cH cB cJ cI g vt) H → va_S (fun q => s.heap.size ≤ q) s.heap H locs → W p l e (headSpec (wc yX2_hasOrder cX2_hasOrder 1 (some .boolean)) ({ frames := 0, cells := 0, slots := 0, locals := 0 })).room s m [.ref (a (28 + 6 * jj.toNat))].toArray below meth c H locs 0 0 (MQ below (va_Qi (fun (r : Int32) (_ : Unit) => r = bi (decide (0 < g 3 jj 15))) (fun _ _ => True) (fun q => s.heap.size ≤ q)) [.ref (a (28 + 6 * jj.toNat))].toArray s 0 0 (fun q => s.heap.size ≤ q)) (F0 m 0 ls []) from h9 s.heap [] hP hS
  clear hP hS
  intro H locs hP hS
  refine lv_aload_n hx hb dX2_hasOrder_0 rfl (lv_at hl 0 rfl) ?_
  have s1 := Wf.j15 hWf (k := jj) (by omega) (by omega)
  refine va_get (D := D) (ci := 2) (v := .int (iI (g 3 jj 15))) (C := RX2) (T := TX2) (N := 16) hx hb hw hin_wsX20 hown hK hP (28 + 6 * jj.toNat) (pw_J (j := jj) (by omega) (by omega)) rfl 15 (by decide) (hw _ kw_192) (fun _ h9 => h9) rfl dX2_hasOrder_1 ?_
  refine n_if_le hx hb (by unfold RI; omega) (tgt := 11) dX2_hasOrder_4 (by decide) (fun h2 => ?_) (fun h2 => ?_)
  · skip
    refine lv_iconst (v := iI 0) hx hb dX2_hasOrder_11 (by decide) ?_
    exact W.zret (v := (iI 0)) (ty := .boolean) hx hb hr (by decide +kernel) (fun t ht hW9 => ⟨⟨(iI 0), (), rfl, (show iI 0 = bi (decide (0 < g 3 jj 15)) from by rw [show (decide (0 < g 3 jj 15)) = false from by first | exact decide_eq_true (by omega) | exact decide_eq_false (by omega)]; rfl), trivial⟩, hS.F ht⟩) hS.2.2 dX2_hasOrder_12
  · skip
    refine lv_iconst (v := iI 1) hx hb dX2_hasOrder_7 (by decide) ?_
    refine lv_goto (tgt := 12) hx hb dX2_hasOrder_8 (by decide) ?_
    exact W.zret (v := (iI 1)) (ty := .boolean) hx hb hr (by decide +kernel) (fun t ht hW9 => ⟨⟨(iI 1), (), rfl, (show iI 1 = bi (decide (0 < g 3 jj 15)) from by rw [show (decide (0 < g 3 jj 15)) = true from by first | exact decide_eq_true (by omega) | exact decide_eq_false (by omega)]; rfl), trivial⟩, hS.F ht⟩) hS.2.2 dX2_hasOrder_12
end
