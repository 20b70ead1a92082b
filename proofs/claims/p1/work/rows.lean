section
-- ===== PART A: goes FIRST, ahead of the names: the tables' words, and 'selects' of the private methods out of them =====
/-- a private method of a class that the tables say can be made, by its rows of tables_1 -/
def lw_okq (q : MethodName × Nat) : Prop := (q.1.cls ≠ "java/lang/invoke/MethodHandle" ∧ q.1.cls ≠ "java/lang/invoke/VarHandle") ∧ Cond.instantiable q.1.cls q.2 ∈ tables_1 ∧ Cond.privateMethod q.1 ∈ tables_1 ∧ Cond.instanceMethod q.1 ∈ tables_1
theorem lw_p0 : lw_okq (⟨"ScratchLadder", "refuse", "(I)I"⟩, 15) := ⟨⟨by decide +kernel, by decide +kernel⟩, List.mem_of_getElem? (i := 23) (by decide +kernel), List.mem_of_getElem? (i := 404) (by decide +kernel), List.mem_of_getElem? (i := 405) (by decide +kernel)⟩
theorem lw_p1 : lw_okq (⟨"ScratchLadder", "accept", "(I)I"⟩, 15) := ⟨⟨by decide +kernel, by decide +kernel⟩, List.mem_of_getElem? (i := 23) (by decide +kernel), List.mem_of_getElem? (i := 412) (by decide +kernel), List.mem_of_getElem? (i := 413) (by decide +kernel)⟩
theorem lw_p2 : lw_okq (⟨"ScratchLadder$Reader", "advance", "()V"⟩, 11) := ⟨⟨by decide +kernel, by decide +kernel⟩, List.mem_of_getElem? (i := 155) (by decide +kernel), List.mem_of_getElem? (i := 474) (by decide +kernel), List.mem_of_getElem? (i := 475) (by decide +kernel)⟩
theorem lw_p3 : lw_okq (⟨"ScratchLadder$Reader", "kindAt", "(I)I"⟩, 11) := ⟨⟨by decide +kernel, by decide +kernel⟩, List.mem_of_getElem? (i := 155) (by decide +kernel), List.mem_of_getElem? (i := 478) (by decide +kernel), List.mem_of_getElem? (i := 479) (by decide +kernel)⟩
theorem lw_p4 : lw_okq (⟨"ScratchLadder$Reader", "readClause", "()Z"⟩, 11) := ⟨⟨by decide +kernel, by decide +kernel⟩, List.mem_of_getElem? (i := 155) (by decide +kernel), List.mem_of_getElem? (i := 486) (by decide +kernel), List.mem_of_getElem? (i := 487) (by decide +kernel)⟩
theorem lw_p5 : lw_okq (⟨"ScratchLadder$Reader", "passWord", "(Ljava/lang/String;)Z"⟩, 11) := ⟨⟨by decide +kernel, by decide +kernel⟩, List.mem_of_getElem? (i := 155) (by decide +kernel), List.mem_of_getElem? (i := 491) (by decide +kernel), List.mem_of_getElem? (i := 492) (by decide +kernel)⟩
theorem lw_p6 : lw_okq (⟨"ScratchLadder$Reader", "isWord", "(Ljava/lang/String;)Z"⟩, 11) := ⟨⟨by decide +kernel, by decide +kernel⟩, List.mem_of_getElem? (i := 155) (by decide +kernel), List.mem_of_getElem? (i := 495) (by decide +kernel), List.mem_of_getElem? (i := 496) (by decide +kernel)⟩
theorem lw_p7 : lw_okq (⟨"ScratchLadder$Reader", "readRung", "()Z"⟩, 11) := ⟨⟨by decide +kernel, by decide +kernel⟩, List.mem_of_getElem? (i := 155) (by decide +kernel), List.mem_of_getElem? (i := 547) (by decide +kernel), List.mem_of_getElem? (i := 548) (by decide +kernel)⟩
theorem lw_p8 : lw_okq (⟨"ScratchLadder$Reader", "isNumber", "(I)Z"⟩, 11) := ⟨⟨by decide +kernel, by decide +kernel⟩, List.mem_of_getElem? (i := 155) (by decide +kernel), List.mem_of_getElem? (i := 551) (by decide +kernel), List.mem_of_getElem? (i := 552) (by decide +kernel)⟩
theorem lw_p9 : lw_okq (⟨"ScratchLadder$Reader", "addClause", "(IIII)Z"⟩, 11) := ⟨⟨by decide +kernel, by decide +kernel⟩, List.mem_of_getElem? (i := 155) (by decide +kernel), List.mem_of_getElem? (i := 556) (by decide +kernel), List.mem_of_getElem? (i := 557) (by decide +kernel)⟩
theorem lw_p10 : lw_okq (⟨"ScratchLadder$Reader", "headKind", "()I"⟩, 11) := ⟨⟨by decide +kernel, by decide +kernel⟩, List.mem_of_getElem? (i := 155) (by decide +kernel), List.mem_of_getElem? (i := 560) (by decide +kernel), List.mem_of_getElem? (i := 561) (by decide +kernel)⟩
theorem lw_p11 : lw_okq (⟨"ScratchLadder$Reader", "readSum", "()Z"⟩, 11) := ⟨⟨by decide +kernel, by decide +kernel⟩, List.mem_of_getElem? (i := 155) (by decide +kernel), List.mem_of_getElem? (i := 568) (by decide +kernel), List.mem_of_getElem? (i := 569) (by decide +kernel)⟩
theorem lw_p12 : lw_okq (⟨"ScratchLadder$Reader", "readTerm", "()Z"⟩, 11) := ⟨⟨by decide +kernel, by decide +kernel⟩, List.mem_of_getElem? (i := 155) (by decide +kernel), List.mem_of_getElem? (i := 572) (by decide +kernel), List.mem_of_getElem? (i := 573) (by decide +kernel)⟩
theorem lw_p13 : lw_okq (⟨"ScratchLadder$Reader", "readPart", "()Z"⟩, 11) := ⟨⟨by decide +kernel, by decide +kernel⟩, List.mem_of_getElem? (i := 155) (by decide +kernel), List.mem_of_getElem? (i := 576) (by decide +kernel), List.mem_of_getElem? (i := 577) (by decide +kernel)⟩
theorem lw_p14 : lw_okq (⟨"ScratchLadder$Reader", "isSign", "(C)Z"⟩, 11) := ⟨⟨by decide +kernel, by decide +kernel⟩, List.mem_of_getElem? (i := 155) (by decide +kernel), List.mem_of_getElem? (i := 580) (by decide +kernel), List.mem_of_getElem? (i := 581) (by decide +kernel)⟩
theorem lw_p15 : lw_okq (⟨"ScratchLadder$Reader", "readBracketedSum", "()Z"⟩, 11) := ⟨⟨by decide +kernel, by decide +kernel⟩, List.mem_of_getElem? (i := 155) (by decide +kernel), List.mem_of_getElem? (i := 584) (by decide +kernel), List.mem_of_getElem? (i := 585) (by decide +kernel)⟩
def lw_privs_1 : List (MethodName × Nat) := [(⟨"ScratchLadder", "refuse", "(I)I"⟩, 15), (⟨"ScratchLadder", "accept", "(I)I"⟩, 15), (⟨"ScratchLadder$Reader", "advance", "()V"⟩, 11), (⟨"ScratchLadder$Reader", "kindAt", "(I)I"⟩, 11), (⟨"ScratchLadder$Reader", "readClause", "()Z"⟩, 11), (⟨"ScratchLadder$Reader", "passWord", "(Ljava/lang/String;)Z"⟩, 11), (⟨"ScratchLadder$Reader", "isWord", "(Ljava/lang/String;)Z"⟩, 11), (⟨"ScratchLadder$Reader", "readRung", "()Z"⟩, 11), (⟨"ScratchLadder$Reader", "isNumber", "(I)Z"⟩, 11), (⟨"ScratchLadder$Reader", "addClause", "(IIII)Z"⟩, 11), (⟨"ScratchLadder$Reader", "headKind", "()I"⟩, 11), (⟨"ScratchLadder$Reader", "readSum", "()Z"⟩, 11), (⟨"ScratchLadder$Reader", "readTerm", "()Z"⟩, 11), (⟨"ScratchLadder$Reader", "readPart", "()Z"⟩, 11), (⟨"ScratchLadder$Reader", "isSign", "(C)Z"⟩, 11), (⟨"ScratchLadder$Reader", "readBracketedSum", "()Z"⟩, 11)]
theorem lw_r1 : ∀ q ∈ lw_privs_1, lw_okq q := List.forall_mem_cons.mpr ⟨lw_p0, List.forall_mem_cons.mpr ⟨lw_p1, List.forall_mem_cons.mpr ⟨lw_p2, List.forall_mem_cons.mpr ⟨lw_p3, List.forall_mem_cons.mpr ⟨lw_p4, List.forall_mem_cons.mpr ⟨lw_p5, List.forall_mem_cons.mpr ⟨lw_p6, List.forall_mem_cons.mpr ⟨lw_p7, List.forall_mem_cons.mpr ⟨lw_p8, List.forall_mem_cons.mpr ⟨lw_p9, List.forall_mem_cons.mpr ⟨lw_p10, List.forall_mem_cons.mpr ⟨lw_p11, List.forall_mem_cons.mpr ⟨lw_p12, List.forall_mem_cons.mpr ⟨lw_p13, List.forall_mem_cons.mpr ⟨lw_p14, List.forall_mem_cons.mpr ⟨lw_p15, fun _ h => absurd h List.not_mem_nil⟩⟩⟩⟩⟩⟩⟩⟩⟩⟩⟩⟩⟩⟩⟩⟩
theorem lw_p16 : lw_okq (⟨"ScratchLadder$Reader", "openBracket", "()Z"⟩, 11) := ⟨⟨by decide +kernel, by decide +kernel⟩, List.mem_of_getElem? (i := 155) (by decide +kernel), List.mem_of_getElem? (i := 588) (by decide +kernel), List.mem_of_getElem? (i := 589) (by decide +kernel)⟩
theorem lw_p17 : lw_okq (⟨"ScratchLadder$Reader", "passSign", "(C)Z"⟩, 11) := ⟨⟨by decide +kernel, by decide +kernel⟩, List.mem_of_getElem? (i := 155) (by decide +kernel), List.mem_of_getElem? (i := 592) (by decide +kernel), List.mem_of_getElem? (i := 593) (by decide +kernel)⟩
theorem lw_p18 : lw_okq (⟨"ScratchLadder$Reader", "partWord", "()I"⟩, 11) := ⟨⟨by decide +kernel, by decide +kernel⟩, List.mem_of_getElem? (i := 155) (by decide +kernel), List.mem_of_getElem? (i := 596) (by decide +kernel), List.mem_of_getElem? (i := 597) (by decide +kernel)⟩
theorem lw_p19 : lw_okq (⟨"ScratchLadder$Reader", "addStep", "(II)Z"⟩, 11) := ⟨⟨by decide +kernel, by decide +kernel⟩, List.mem_of_getElem? (i := 155) (by decide +kernel), List.mem_of_getElem? (i := 609) (by decide +kernel), List.mem_of_getElem? (i := 610) (by decide +kernel)⟩
theorem lw_p20 : lw_okq (⟨"ScratchLadder$Reader", "readTest", "()Z"⟩, 11) := ⟨⟨by decide +kernel, by decide +kernel⟩, List.mem_of_getElem? (i := 155) (by decide +kernel), List.mem_of_getElem? (i := 614) (by decide +kernel), List.mem_of_getElem? (i := 615) (by decide +kernel)⟩
theorem lw_p21 : lw_okq (⟨"ScratchLadder$Reader", "readBoth", "()Z"⟩, 11) := ⟨⟨by decide +kernel, by decide +kernel⟩, List.mem_of_getElem? (i := 155) (by decide +kernel), List.mem_of_getElem? (i := 618) (by decide +kernel), List.mem_of_getElem? (i := 619) (by decide +kernel)⟩
theorem lw_p22 : lw_okq (⟨"ScratchLadder$Reader", "readPlain", "()Z"⟩, 11) := ⟨⟨by decide +kernel, by decide +kernel⟩, List.mem_of_getElem? (i := 155) (by decide +kernel), List.mem_of_getElem? (i := 622) (by decide +kernel), List.mem_of_getElem? (i := 623) (by decide +kernel)⟩
theorem lw_p23 : lw_okq (⟨"ScratchLadder$Reader", "readBracketedTest", "()Z"⟩, 11) := ⟨⟨by decide +kernel, by decide +kernel⟩, List.mem_of_getElem? (i := 155) (by decide +kernel), List.mem_of_getElem? (i := 627) (by decide +kernel), List.mem_of_getElem? (i := 628) (by decide +kernel)⟩
theorem lw_p24 : lw_okq (⟨"ScratchLadder$Reader", "comparisonKind", "()I"⟩, 11) := ⟨⟨by decide +kernel, by decide +kernel⟩, List.mem_of_getElem? (i := 155) (by decide +kernel), List.mem_of_getElem? (i := 631) (by decide +kernel), List.mem_of_getElem? (i := 632) (by decide +kernel)⟩
theorem lw_p25 : lw_okq (⟨"ScratchLadder$Reader", "closePass", "(I)V"⟩, 11) := ⟨⟨by decide +kernel, by decide +kernel⟩, List.mem_of_getElem? (i := 155) (by decide +kernel), List.mem_of_getElem? (i := 636) (by decide +kernel), List.mem_of_getElem? (i := 637) (by decide +kernel)⟩
theorem lw_p26 : lw_okq (⟨"ScratchLadder$Question", "testOf", "(LScratchLadder$Text;I)J"⟩, 3) := ⟨⟨by decide +kernel, by decide +kernel⟩, List.mem_of_getElem? (i := 195) (by decide +kernel), List.mem_of_getElem? (i := 700) (by decide +kernel), List.mem_of_getElem? (i := 701) (by decide +kernel)⟩
theorem lw_p27 : lw_okq (⟨"ScratchLadder$Question", "worked", "([III)J"⟩, 3) := ⟨⟨by decide +kernel, by decide +kernel⟩, List.mem_of_getElem? (i := 195) (by decide +kernel), List.mem_of_getElem? (i := 704) (by decide +kernel), List.mem_of_getElem? (i := 705) (by decide +kernel)⟩
theorem lw_p28 : lw_okq (⟨"ScratchLadder", "whatIsLeftBy", "(I)I"⟩, 15) := ⟨⟨by decide +kernel, by decide +kernel⟩, List.mem_of_getElem? (i := 23) (by decide +kernel), List.mem_of_getElem? (i := 723) (by decide +kernel), List.mem_of_getElem? (i := 724) (by decide +kernel)⟩
theorem lw_p29 : lw_okq (⟨"ScratchLadder", "areTwo", "(II)Z"⟩, 15) := ⟨⟨by decide +kernel, by decide +kernel⟩, List.mem_of_getElem? (i := 23) (by decide +kernel), List.mem_of_getElem? (i := 794) (by decide +kernel), List.mem_of_getElem? (i := 795) (by decide +kernel)⟩
theorem lw_p30 : lw_okq (⟨"ScratchLadder$Ties", "take", "(I)V"⟩, 6) := ⟨⟨by decide +kernel, by decide +kernel⟩, List.mem_of_getElem? (i := 212) (by decide +kernel), List.mem_of_getElem? (i := 804) (by decide +kernel), List.mem_of_getElem? (i := 805) (by decide +kernel)⟩
theorem lw_p31 : lw_okq (⟨"ScratchLadder$Ties", "close", "()V"⟩, 6) := ⟨⟨by decide +kernel, by decide +kernel⟩, List.mem_of_getElem? (i := 212) (by decide +kernel), List.mem_of_getElem? (i := 814) (by decide +kernel), List.mem_of_getElem? (i := 815) (by decide +kernel)⟩
def lw_privs_2 : List (MethodName × Nat) := [(⟨"ScratchLadder$Reader", "openBracket", "()Z"⟩, 11), (⟨"ScratchLadder$Reader", "passSign", "(C)Z"⟩, 11), (⟨"ScratchLadder$Reader", "partWord", "()I"⟩, 11), (⟨"ScratchLadder$Reader", "addStep", "(II)Z"⟩, 11), (⟨"ScratchLadder$Reader", "readTest", "()Z"⟩, 11), (⟨"ScratchLadder$Reader", "readBoth", "()Z"⟩, 11), (⟨"ScratchLadder$Reader", "readPlain", "()Z"⟩, 11), (⟨"ScratchLadder$Reader", "readBracketedTest", "()Z"⟩, 11), (⟨"ScratchLadder$Reader", "comparisonKind", "()I"⟩, 11), (⟨"ScratchLadder$Reader", "closePass", "(I)V"⟩, 11), (⟨"ScratchLadder$Question", "testOf", "(LScratchLadder$Text;I)J"⟩, 3), (⟨"ScratchLadder$Question", "worked", "([III)J"⟩, 3), (⟨"ScratchLadder", "whatIsLeftBy", "(I)I"⟩, 15), (⟨"ScratchLadder", "areTwo", "(II)Z"⟩, 15), (⟨"ScratchLadder$Ties", "take", "(I)V"⟩, 6), (⟨"ScratchLadder$Ties", "close", "()V"⟩, 6)]
theorem lw_r2 : ∀ q ∈ lw_privs_2, lw_okq q := List.forall_mem_cons.mpr ⟨lw_p16, List.forall_mem_cons.mpr ⟨lw_p17, List.forall_mem_cons.mpr ⟨lw_p18, List.forall_mem_cons.mpr ⟨lw_p19, List.forall_mem_cons.mpr ⟨lw_p20, List.forall_mem_cons.mpr ⟨lw_p21, List.forall_mem_cons.mpr ⟨lw_p22, List.forall_mem_cons.mpr ⟨lw_p23, List.forall_mem_cons.mpr ⟨lw_p24, List.forall_mem_cons.mpr ⟨lw_p25, List.forall_mem_cons.mpr ⟨lw_p26, List.forall_mem_cons.mpr ⟨lw_p27, List.forall_mem_cons.mpr ⟨lw_p28, List.forall_mem_cons.mpr ⟨lw_p29, List.forall_mem_cons.mpr ⟨lw_p30, List.forall_mem_cons.mpr ⟨lw_p31, fun _ h => absurd h List.not_mem_nil⟩⟩⟩⟩⟩⟩⟩⟩⟩⟩⟩⟩⟩⟩⟩⟩
theorem lw_p32 : lw_okq (⟨"ScratchLadder$Orders", "spread", "(I[I)V"⟩, 7) := ⟨⟨by decide +kernel, by decide +kernel⟩, List.mem_of_getElem? (i := 241) (by decide +kernel), List.mem_of_getElem? (i := 841) (by decide +kernel), List.mem_of_getElem? (i := 842) (by decide +kernel)⟩
theorem lw_p33 : lw_okq (⟨"ScratchLadder$Ties", "belowAnyOf", "(I)I"⟩, 6) := ⟨⟨by decide +kernel, by decide +kernel⟩, List.mem_of_getElem? (i := 212) (by decide +kernel), List.mem_of_getElem? (i := 857) (by decide +kernel), List.mem_of_getElem? (i := 858) (by decide +kernel)⟩
theorem lw_p34 : lw_okq (⟨"ScratchLadder$Orders", "countHalves", "([I)V"⟩, 7) := ⟨⟨by decide +kernel, by decide +kernel⟩, List.mem_of_getElem? (i := 241) (by decide +kernel), List.mem_of_getElem? (i := 879) (by decide +kernel), List.mem_of_getElem? (i := 880) (by decide +kernel)⟩
theorem lw_p35 : lw_okq (⟨"ScratchLadder$Orders", "least", "(I)I"⟩, 7) := ⟨⟨by decide +kernel, by decide +kernel⟩, List.mem_of_getElem? (i := 241) (by decide +kernel), List.mem_of_getElem? (i := 884) (by decide +kernel), List.mem_of_getElem? (i := 885) (by decide +kernel)⟩
theorem lw_p36 : lw_okq (⟨"ScratchLadder$Orders", "withFirst", "(II)I"⟩, 7) := ⟨⟨by decide +kernel, by decide +kernel⟩, List.mem_of_getElem? (i := 241) (by decide +kernel), List.mem_of_getElem? (i := 889) (by decide +kernel), List.mem_of_getElem? (i := 890) (by decide +kernel)⟩
theorem lw_p37 : lw_okq (⟨"ScratchLadder$Orders", "keepBest", "(I)V"⟩, 7) := ⟨⟨by decide +kernel, by decide +kernel⟩, List.mem_of_getElem? (i := 241) (by decide +kernel), List.mem_of_getElem? (i := 894) (by decide +kernel), List.mem_of_getElem? (i := 895) (by decide +kernel)⟩
theorem lw_p38 : lw_okq (⟨"ScratchLadder$Orders", "lowestFirst", "(I)I"⟩, 7) := ⟨⟨by decide +kernel, by decide +kernel⟩, List.mem_of_getElem? (i := 241) (by decide +kernel), List.mem_of_getElem? (i := 898) (by decide +kernel), List.mem_of_getElem? (i := 899) (by decide +kernel)⟩
theorem lw_p39 : lw_okq (⟨"ScratchLadder$Rungs", "isRung", "(LScratchLadder$Text;I)Z"⟩, 2) := ⟨⟨by decide +kernel, by decide +kernel⟩, List.mem_of_getElem? (i := 300) (by decide +kernel), List.mem_of_getElem? (i := 930) (by decide +kernel), List.mem_of_getElem? (i := 931) (by decide +kernel)⟩
theorem lw_p40 : lw_okq (⟨"ScratchLadder$Rungs", "isBetween", "(LScratchLadder$Text;IIII)Z"⟩, 2) := ⟨⟨by decide +kernel, by decide +kernel⟩, List.mem_of_getElem? (i := 300) (by decide +kernel), List.mem_of_getElem? (i := 959) (by decide +kernel), List.mem_of_getElem? (i := 960) (by decide +kernel)⟩
theorem lw_p41 : lw_okq (⟨"ScratchLadder$Rungs", "aheadOf", "(LScratchLadder$Text;III)I"⟩, 2) := ⟨⟨by decide +kernel, by decide +kernel⟩, List.mem_of_getElem? (i := 300) (by decide +kernel), List.mem_of_getElem? (i := 963) (by decide +kernel), List.mem_of_getElem? (i := 964) (by decide +kernel)⟩
theorem lw_p42 : lw_okq (⟨"ScratchLadder$Sorter", "rowsLeft", "(I)I"⟩, 5) := ⟨⟨by decide +kernel, by decide +kernel⟩, List.mem_of_getElem? (i := 313) (by decide +kernel), List.mem_of_getElem? (i := 983) (by decide +kernel), List.mem_of_getElem? (i := 984) (by decide +kernel)⟩
theorem lw_p43 : lw_okq (⟨"ScratchLadder$Sorter", "goodPair", "(III)I"⟩, 5) := ⟨⟨by decide +kernel, by decide +kernel⟩, List.mem_of_getElem? (i := 313) (by decide +kernel), List.mem_of_getElem? (i := 988) (by decide +kernel), List.mem_of_getElem? (i := 989) (by decide +kernel)⟩
theorem lw_p44 : lw_okq (⟨"ScratchLadder$Sorter", "isGood", "(IIIII)Z"⟩, 5) := ⟨⟨by decide +kernel, by decide +kernel⟩, List.mem_of_getElem? (i := 313) (by decide +kernel), List.mem_of_getElem? (i := 992) (by decide +kernel), List.mem_of_getElem? (i := 993) (by decide +kernel)⟩
theorem lw_p45 : lw_okq (⟨"ScratchLadder$Sorter", "with", "(III)I"⟩, 5) := ⟨⟨by decide +kernel, by decide +kernel⟩, List.mem_of_getElem? (i := 313) (by decide +kernel), List.mem_of_getElem? (i := 996) (by decide +kernel), List.mem_of_getElem? (i := 997) (by decide +kernel)⟩
theorem lw_p46 : lw_okq (⟨"ScratchLadder$Sorter", "areEnough", "(III)Z"⟩, 5) := ⟨⟨by decide +kernel, by decide +kernel⟩, List.mem_of_getElem? (i := 313) (by decide +kernel), List.mem_of_getElem? (i := 1000) (by decide +kernel), List.mem_of_getElem? (i := 1001) (by decide +kernel)⟩
theorem lw_p47 : lw_okq (⟨"ScratchLadder$Orders", "hasPlace", "(II)Z"⟩, 7) := ⟨⟨by decide +kernel, by decide +kernel⟩, List.mem_of_getElem? (i := 241) (by decide +kernel), List.mem_of_getElem? (i := 1020) (by decide +kernel), List.mem_of_getElem? (i := 1021) (by decide +kernel)⟩
def lw_privs_3 : List (MethodName × Nat) := [(⟨"ScratchLadder$Orders", "spread", "(I[I)V"⟩, 7), (⟨"ScratchLadder$Ties", "belowAnyOf", "(I)I"⟩, 6), (⟨"ScratchLadder$Orders", "countHalves", "([I)V"⟩, 7), (⟨"ScratchLadder$Orders", "least", "(I)I"⟩, 7), (⟨"ScratchLadder$Orders", "withFirst", "(II)I"⟩, 7), (⟨"ScratchLadder$Orders", "keepBest", "(I)V"⟩, 7), (⟨"ScratchLadder$Orders", "lowestFirst", "(I)I"⟩, 7), (⟨"ScratchLadder$Rungs", "isRung", "(LScratchLadder$Text;I)Z"⟩, 2), (⟨"ScratchLadder$Rungs", "isBetween", "(LScratchLadder$Text;IIII)Z"⟩, 2), (⟨"ScratchLadder$Rungs", "aheadOf", "(LScratchLadder$Text;III)I"⟩, 2), (⟨"ScratchLadder$Sorter", "rowsLeft", "(I)I"⟩, 5), (⟨"ScratchLadder$Sorter", "goodPair", "(III)I"⟩, 5), (⟨"ScratchLadder$Sorter", "isGood", "(IIIII)Z"⟩, 5), (⟨"ScratchLadder$Sorter", "with", "(III)I"⟩, 5), (⟨"ScratchLadder$Sorter", "areEnough", "(III)Z"⟩, 5), (⟨"ScratchLadder$Orders", "hasPlace", "(II)Z"⟩, 7)]
theorem lw_r3 : ∀ q ∈ lw_privs_3, lw_okq q := List.forall_mem_cons.mpr ⟨lw_p32, List.forall_mem_cons.mpr ⟨lw_p33, List.forall_mem_cons.mpr ⟨lw_p34, List.forall_mem_cons.mpr ⟨lw_p35, List.forall_mem_cons.mpr ⟨lw_p36, List.forall_mem_cons.mpr ⟨lw_p37, List.forall_mem_cons.mpr ⟨lw_p38, List.forall_mem_cons.mpr ⟨lw_p39, List.forall_mem_cons.mpr ⟨lw_p40, List.forall_mem_cons.mpr ⟨lw_p41, List.forall_mem_cons.mpr ⟨lw_p42, List.forall_mem_cons.mpr ⟨lw_p43, List.forall_mem_cons.mpr ⟨lw_p44, List.forall_mem_cons.mpr ⟨lw_p45, List.forall_mem_cons.mpr ⟨lw_p46, List.forall_mem_cons.mpr ⟨lw_p47, fun _ h => absurd h List.not_mem_nil⟩⟩⟩⟩⟩⟩⟩⟩⟩⟩⟩⟩⟩⟩⟩⟩
theorem lw_p48 : lw_okq (⟨"ScratchLadder$Lineup", "sort", "()V"⟩, 6) := ⟨⟨by decide +kernel, by decide +kernel⟩, List.mem_of_getElem? (i := 274) (by decide +kernel), List.mem_of_getElem? (i := 1039) (by decide +kernel), List.mem_of_getElem? (i := 1040) (by decide +kernel)⟩
theorem lw_p49 : lw_okq (⟨"ScratchLadder$Question", "waysCut", "(III)I"⟩, 3) := ⟨⟨by decide +kernel, by decide +kernel⟩, List.mem_of_getElem? (i := 195) (by decide +kernel), List.mem_of_getElem? (i := 1072) (by decide +kernel), List.mem_of_getElem? (i := 1073) (by decide +kernel)⟩
theorem lw_p50 : lw_okq (⟨"ScratchLadder$Naming", "rowsWith", "(I)I"⟩, 3) := ⟨⟨by decide +kernel, by decide +kernel⟩, List.mem_of_getElem? (i := 335) (by decide +kernel), List.mem_of_getElem? (i := 1098) (by decide +kernel), List.mem_of_getElem? (i := 1099) (by decide +kernel)⟩
theorem lw_p51 : lw_okq (⟨"ScratchLadder$Naming", "nextNumber", "(I)I"⟩, 3) := ⟨⟨by decide +kernel, by decide +kernel⟩, List.mem_of_getElem? (i := 335) (by decide +kernel), List.mem_of_getElem? (i := 1103) (by decide +kernel), List.mem_of_getElem? (i := 1104) (by decide +kernel)⟩
theorem lw_p52 : lw_okq (⟨"ScratchLadder$Naming", "namesKnownAs", "(I)I"⟩, 3) := ⟨⟨by decide +kernel, by decide +kernel⟩, List.mem_of_getElem? (i := 335) (by decide +kernel), List.mem_of_getElem? (i := 1113) (by decide +kernel), List.mem_of_getElem? (i := 1114) (by decide +kernel)⟩
theorem lw_p53 : lw_okq (⟨"ScratchLadder$Naming", "giveOut", "(III)V"⟩, 3) := ⟨⟨by decide +kernel, by decide +kernel⟩, List.mem_of_getElem? (i := 335) (by decide +kernel), List.mem_of_getElem? (i := 1117) (by decide +kernel), List.mem_of_getElem? (i := 1118) (by decide +kernel)⟩
theorem lw_p54 : lw_okq (⟨"ScratchLadder$Naming", "readyAfter", "(I)I"⟩, 3) := ⟨⟨by decide +kernel, by decide +kernel⟩, List.mem_of_getElem? (i := 335) (by decide +kernel), List.mem_of_getElem? (i := 1122) (by decide +kernel), List.mem_of_getElem? (i := 1123) (by decide +kernel)⟩
theorem lw_p55 : lw_okq (⟨"ScratchLadder$Naming", "canBeExchanged", "(I)Z"⟩, 3) := ⟨⟨by decide +kernel, by decide +kernel⟩, List.mem_of_getElem? (i := 335) (by decide +kernel), List.mem_of_getElem? (i := 1135) (by decide +kernel), List.mem_of_getElem? (i := 1136) (by decide +kernel)⟩
theorem lw_p56 : lw_okq (⟨"ScratchLadderModel", "refuses", "(I)I"⟩, 41) := ⟨⟨by decide +kernel, by decide +kernel⟩, List.mem_of_getElem? (i := 1172) (by decide +kernel), List.mem_of_getElem? (i := 1310) (by decide +kernel), List.mem_of_getElem? (i := 1311) (by decide +kernel)⟩
theorem lw_p57 : lw_okq (⟨"ScratchLadderModel", "good", "(I)I"⟩, 41) := ⟨⟨by decide +kernel, by decide +kernel⟩, List.mem_of_getElem? (i := 1172) (by decide +kernel), List.mem_of_getElem? (i := 1314) (by decide +kernel), List.mem_of_getElem? (i := 1315) (by decide +kernel)⟩
theorem lw_p58 : lw_okq (⟨"ScratchLadderModel", "many", "()I"⟩, 41) := ⟨⟨by decide +kernel, by decide +kernel⟩, List.mem_of_getElem? (i := 1172) (by decide +kernel), List.mem_of_getElem? (i := 1326) (by decide +kernel), List.mem_of_getElem? (i := 1327) (by decide +kernel)⟩
theorem lw_p59 : lw_okq (⟨"ScratchLadderModel", "isStone", "(I)Z"⟩, 41) := ⟨⟨by decide +kernel, by decide +kernel⟩, List.mem_of_getElem? (i := 1172) (by decide +kernel), List.mem_of_getElem? (i := 1334) (by decide +kernel), List.mem_of_getElem? (i := 1335) (by decide +kernel)⟩
theorem lw_p60 : lw_okq (⟨"ScratchLadderModel", "replaces", "(II)I"⟩, 41) := ⟨⟨by decide +kernel, by decide +kernel⟩, List.mem_of_getElem? (i := 1172) (by decide +kernel), List.mem_of_getElem? (i := 1338) (by decide +kernel), List.mem_of_getElem? (i := 1339) (by decide +kernel)⟩
theorem lw_p61 : lw_okq (⟨"ScratchLadderModel", "reads", "()Z"⟩, 41) := ⟨⟨by decide +kernel, by decide +kernel⟩, List.mem_of_getElem? (i := 1172) (by decide +kernel), List.mem_of_getElem? (i := 1371) (by decide +kernel), List.mem_of_getElem? (i := 1372) (by decide +kernel)⟩
theorem lw_p62 : lw_okq (⟨"ScratchLadderModel", "splits", "(I)V"⟩, 41) := ⟨⟨by decide +kernel, by decide +kernel⟩, List.mem_of_getElem? (i := 1172) (by decide +kernel), List.mem_of_getElem? (i := 1375) (by decide +kernel), List.mem_of_getElem? (i := 1376) (by decide +kernel)⟩
theorem lw_p63 : lw_okq (⟨"ScratchLadderModel", "wordOf", "(II)I"⟩, 41) := ⟨⟨by decide +kernel, by decide +kernel⟩, List.mem_of_getElem? (i := 1172) (by decide +kernel), List.mem_of_getElem? (i := 1385) (by decide +kernel), List.mem_of_getElem? (i := 1386) (by decide +kernel)⟩
def lw_privs_4 : List (MethodName × Nat) := [(⟨"ScratchLadder$Lineup", "sort", "()V"⟩, 6), (⟨"ScratchLadder$Question", "waysCut", "(III)I"⟩, 3), (⟨"ScratchLadder$Naming", "rowsWith", "(I)I"⟩, 3), (⟨"ScratchLadder$Naming", "nextNumber", "(I)I"⟩, 3), (⟨"ScratchLadder$Naming", "namesKnownAs", "(I)I"⟩, 3), (⟨"ScratchLadder$Naming", "giveOut", "(III)V"⟩, 3), (⟨"ScratchLadder$Naming", "readyAfter", "(I)I"⟩, 3), (⟨"ScratchLadder$Naming", "canBeExchanged", "(I)Z"⟩, 3), (⟨"ScratchLadderModel", "refuses", "(I)I"⟩, 41), (⟨"ScratchLadderModel", "good", "(I)I"⟩, 41), (⟨"ScratchLadderModel", "many", "()I"⟩, 41), (⟨"ScratchLadderModel", "isStone", "(I)Z"⟩, 41), (⟨"ScratchLadderModel", "replaces", "(II)I"⟩, 41), (⟨"ScratchLadderModel", "reads", "()Z"⟩, 41), (⟨"ScratchLadderModel", "splits", "(I)V"⟩, 41), (⟨"ScratchLadderModel", "wordOf", "(II)I"⟩, 41)]
theorem lw_r4 : ∀ q ∈ lw_privs_4, lw_okq q := List.forall_mem_cons.mpr ⟨lw_p48, List.forall_mem_cons.mpr ⟨lw_p49, List.forall_mem_cons.mpr ⟨lw_p50, List.forall_mem_cons.mpr ⟨lw_p51, List.forall_mem_cons.mpr ⟨lw_p52, List.forall_mem_cons.mpr ⟨lw_p53, List.forall_mem_cons.mpr ⟨lw_p54, List.forall_mem_cons.mpr ⟨lw_p55, List.forall_mem_cons.mpr ⟨lw_p56, List.forall_mem_cons.mpr ⟨lw_p57, List.forall_mem_cons.mpr ⟨lw_p58, List.forall_mem_cons.mpr ⟨lw_p59, List.forall_mem_cons.mpr ⟨lw_p60, List.forall_mem_cons.mpr ⟨lw_p61, List.forall_mem_cons.mpr ⟨lw_p62, List.forall_mem_cons.mpr ⟨lw_p63, fun _ h => absurd h List.not_mem_nil⟩⟩⟩⟩⟩⟩⟩⟩⟩⟩⟩⟩⟩⟩⟩⟩
theorem lw_p64 : lw_okq (⟨"ScratchLadderModel", "readClause", "()V"⟩, 41) := ⟨⟨by decide +kernel, by decide +kernel⟩, List.mem_of_getElem? (i := 1172) (by decide +kernel), List.mem_of_getElem? (i := 1389) (by decide +kernel), List.mem_of_getElem? (i := 1390) (by decide +kernel)⟩
theorem lw_p65 : lw_okq (⟨"ScratchLadderModel", "takes", "(I)Z"⟩, 41) := ⟨⟨by decide +kernel, by decide +kernel⟩, List.mem_of_getElem? (i := 1172) (by decide +kernel), List.mem_of_getElem? (i := 1393) (by decide +kernel), List.mem_of_getElem? (i := 1394) (by decide +kernel)⟩
theorem lw_p66 : lw_okq (⟨"ScratchLadderModel", "fine", "()Z"⟩, 41) := ⟨⟨by decide +kernel, by decide +kernel⟩, List.mem_of_getElem? (i := 1172) (by decide +kernel), List.mem_of_getElem? (i := 1397) (by decide +kernel), List.mem_of_getElem? (i := 1398) (by decide +kernel)⟩
theorem lw_p67 : lw_okq (⟨"ScratchLadderModel", "number", "(I)V"⟩, 41) := ⟨⟨by decide +kernel, by decide +kernel⟩, List.mem_of_getElem? (i := 1172) (by decide +kernel), List.mem_of_getElem? (i := 1401) (by decide +kernel), List.mem_of_getElem? (i := 1402) (by decide +kernel)⟩
theorem lw_p68 : lw_okq (⟨"ScratchLadderModel", "faults", "()V"⟩, 41) := ⟨⟨by decide +kernel, by decide +kernel⟩, List.mem_of_getElem? (i := 1172) (by decide +kernel), List.mem_of_getElem? (i := 1405) (by decide +kernel), List.mem_of_getElem? (i := 1406) (by decide +kernel)⟩
theorem lw_p69 : lw_okq (⟨"ScratchLadderModel", "must", "(I)V"⟩, 41) := ⟨⟨by decide +kernel, by decide +kernel⟩, List.mem_of_getElem? (i := 1172) (by decide +kernel), List.mem_of_getElem? (i := 1409) (by decide +kernel), List.mem_of_getElem? (i := 1410) (by decide +kernel)⟩
theorem lw_p70 : lw_okq (⟨"ScratchLadderModel", "readSum", "(I)V"⟩, 41) := ⟨⟨by decide +kernel, by decide +kernel⟩, List.mem_of_getElem? (i := 1172) (by decide +kernel), List.mem_of_getElem? (i := 1413) (by decide +kernel), List.mem_of_getElem? (i := 1414) (by decide +kernel)⟩
theorem lw_p71 : lw_okq (⟨"ScratchLadderModel", "readTerm", "(I)V"⟩, 41) := ⟨⟨by decide +kernel, by decide +kernel⟩, List.mem_of_getElem? (i := 1172) (by decide +kernel), List.mem_of_getElem? (i := 1417) (by decide +kernel), List.mem_of_getElem? (i := 1418) (by decide +kernel)⟩
theorem lw_p72 : lw_okq (⟨"ScratchLadderModel", "readPart", "(I)V"⟩, 41) := ⟨⟨by decide +kernel, by decide +kernel⟩, List.mem_of_getElem? (i := 1172) (by decide +kernel), List.mem_of_getElem? (i := 1421) (by decide +kernel), List.mem_of_getElem? (i := 1422) (by decide +kernel)⟩
theorem lw_p73 : lw_okq (⟨"ScratchLadderModel", "leaf", "()V"⟩, 41) := ⟨⟨by decide +kernel, by decide +kernel⟩, List.mem_of_getElem? (i := 1172) (by decide +kernel), List.mem_of_getElem? (i := 1429) (by decide +kernel), List.mem_of_getElem? (i := 1430) (by decide +kernel)⟩
theorem lw_p74 : lw_okq (⟨"ScratchLadderModel", "readTest", "(I)V"⟩, 41) := ⟨⟨by decide +kernel, by decide +kernel⟩, List.mem_of_getElem? (i := 1172) (by decide +kernel), List.mem_of_getElem? (i := 1433) (by decide +kernel), List.mem_of_getElem? (i := 1434) (by decide +kernel)⟩
theorem lw_p75 : lw_okq (⟨"ScratchLadderModel", "readBoth", "(I)V"⟩, 41) := ⟨⟨by decide +kernel, by decide +kernel⟩, List.mem_of_getElem? (i := 1172) (by decide +kernel), List.mem_of_getElem? (i := 1437) (by decide +kernel), List.mem_of_getElem? (i := 1438) (by decide +kernel)⟩
theorem lw_p76 : lw_okq (⟨"ScratchLadderModel", "readPlain", "(I)V"⟩, 41) := ⟨⟨by decide +kernel, by decide +kernel⟩, List.mem_of_getElem? (i := 1172) (by decide +kernel), List.mem_of_getElem? (i := 1441) (by decide +kernel), List.mem_of_getElem? (i := 1442) (by decide +kernel)⟩
theorem lw_p77 : lw_okq (⟨"ScratchLadderModel", "isText", "(I)Z"⟩, 41) := ⟨⟨by decide +kernel, by decide +kernel⟩, List.mem_of_getElem? (i := 1172) (by decide +kernel), List.mem_of_getElem? (i := 1453) (by decide +kernel), List.mem_of_getElem? (i := 1454) (by decide +kernel)⟩
theorem lw_p78 : lw_okq (⟨"ScratchLadderModel", "isCut", "(IIII)Z"⟩, 41) := ⟨⟨by decide +kernel, by decide +kernel⟩, List.mem_of_getElem? (i := 1172) (by decide +kernel), List.mem_of_getElem? (i := 1464) (by decide +kernel), List.mem_of_getElem? (i := 1465) (by decide +kernel)⟩
theorem lw_p79 : lw_okq (⟨"ScratchLadderModel", "asks", "(IIIIII)V"⟩, 41) := ⟨⟨by decide +kernel, by decide +kernel⟩, List.mem_of_getElem? (i := 1172) (by decide +kernel), List.mem_of_getElem? (i := 1468) (by decide +kernel), List.mem_of_getElem? (i := 1469) (by decide +kernel)⟩
def lw_privs_5 : List (MethodName × Nat) := [(⟨"ScratchLadderModel", "readClause", "()V"⟩, 41), (⟨"ScratchLadderModel", "takes", "(I)Z"⟩, 41), (⟨"ScratchLadderModel", "fine", "()Z"⟩, 41), (⟨"ScratchLadderModel", "number", "(I)V"⟩, 41), (⟨"ScratchLadderModel", "faults", "()V"⟩, 41), (⟨"ScratchLadderModel", "must", "(I)V"⟩, 41), (⟨"ScratchLadderModel", "readSum", "(I)V"⟩, 41), (⟨"ScratchLadderModel", "readTerm", "(I)V"⟩, 41), (⟨"ScratchLadderModel", "readPart", "(I)V"⟩, 41), (⟨"ScratchLadderModel", "leaf", "()V"⟩, 41), (⟨"ScratchLadderModel", "readTest", "(I)V"⟩, 41), (⟨"ScratchLadderModel", "readBoth", "(I)V"⟩, 41), (⟨"ScratchLadderModel", "readPlain", "(I)V"⟩, 41), (⟨"ScratchLadderModel", "isText", "(I)Z"⟩, 41), (⟨"ScratchLadderModel", "isCut", "(IIII)Z"⟩, 41), (⟨"ScratchLadderModel", "asks", "(IIIIII)V"⟩, 41)]
theorem lw_r5 : ∀ q ∈ lw_privs_5, lw_okq q := List.forall_mem_cons.mpr ⟨lw_p64, List.forall_mem_cons.mpr ⟨lw_p65, List.forall_mem_cons.mpr ⟨lw_p66, List.forall_mem_cons.mpr ⟨lw_p67, List.forall_mem_cons.mpr ⟨lw_p68, List.forall_mem_cons.mpr ⟨lw_p69, List.forall_mem_cons.mpr ⟨lw_p70, List.forall_mem_cons.mpr ⟨lw_p71, List.forall_mem_cons.mpr ⟨lw_p72, List.forall_mem_cons.mpr ⟨lw_p73, List.forall_mem_cons.mpr ⟨lw_p74, List.forall_mem_cons.mpr ⟨lw_p75, List.forall_mem_cons.mpr ⟨lw_p76, List.forall_mem_cons.mpr ⟨lw_p77, List.forall_mem_cons.mpr ⟨lw_p78, List.forall_mem_cons.mpr ⟨lw_p79, fun _ h => absurd h List.not_mem_nil⟩⟩⟩⟩⟩⟩⟩⟩⟩⟩⟩⟩⟩⟩⟩⟩
theorem lw_p80 : lw_okq (⟨"ScratchLadderModel", "stoneOf", "(II)I"⟩, 41) := ⟨⟨by decide +kernel, by decide +kernel⟩, List.mem_of_getElem? (i := 1172) (by decide +kernel), List.mem_of_getElem? (i := 1472) (by decide +kernel), List.mem_of_getElem? (i := 1473) (by decide +kernel)⟩
theorem lw_p81 : lw_okq (⟨"ScratchLadderModel", "codeAt", "(I)I"⟩, 41) := ⟨⟨by decide +kernel, by decide +kernel⟩, List.mem_of_getElem? (i := 1172) (by decide +kernel), List.mem_of_getElem? (i := 1476) (by decide +kernel), List.mem_of_getElem? (i := 1477) (by decide +kernel)⟩
theorem lw_p82 : lw_okq (⟨"ScratchLadderModel", "sumOf", "(Z)J"⟩, 41) := ⟨⟨by decide +kernel, by decide +kernel⟩, List.mem_of_getElem? (i := 1172) (by decide +kernel), List.mem_of_getElem? (i := 1480) (by decide +kernel), List.mem_of_getElem? (i := 1481) (by decide +kernel)⟩
theorem lw_p83 : lw_okq (⟨"ScratchLadderModel", "termOf", "(Z)J"⟩, 41) := ⟨⟨by decide +kernel, by decide +kernel⟩, List.mem_of_getElem? (i := 1172) (by decide +kernel), List.mem_of_getElem? (i := 1484) (by decide +kernel), List.mem_of_getElem? (i := 1485) (by decide +kernel)⟩
theorem lw_p84 : lw_okq (⟨"ScratchLadderModel", "partOf", "(Z)J"⟩, 41) := ⟨⟨by decide +kernel, by decide +kernel⟩, List.mem_of_getElem? (i := 1172) (by decide +kernel), List.mem_of_getElem? (i := 1488) (by decide +kernel), List.mem_of_getElem? (i := 1489) (by decide +kernel)⟩
theorem lw_p85 : lw_okq (⟨"ScratchLadderModel", "passes", "(I)Z"⟩, 41) := ⟨⟨by decide +kernel, by decide +kernel⟩, List.mem_of_getElem? (i := 1172) (by decide +kernel), List.mem_of_getElem? (i := 1492) (by decide +kernel), List.mem_of_getElem? (i := 1493) (by decide +kernel)⟩
theorem lw_p86 : lw_okq (⟨"ScratchLadderModel", "bounded", "(JZ)J"⟩, 41) := ⟨⟨by decide +kernel, by decide +kernel⟩, List.mem_of_getElem? (i := 1172) (by decide +kernel), List.mem_of_getElem? (i := 1496) (by decide +kernel), List.mem_of_getElem? (i := 1497) (by decide +kernel)⟩
theorem lw_p87 : lw_okq (⟨"ScratchLadderModel", "testOf", "(Z)Z"⟩, 41) := ⟨⟨by decide +kernel, by decide +kernel⟩, List.mem_of_getElem? (i := 1172) (by decide +kernel), List.mem_of_getElem? (i := 1502) (by decide +kernel), List.mem_of_getElem? (i := 1503) (by decide +kernel)⟩
theorem lw_p88 : lw_okq (⟨"ScratchLadderModel", "bothOf", "(Z)Z"⟩, 41) := ⟨⟨by decide +kernel, by decide +kernel⟩, List.mem_of_getElem? (i := 1172) (by decide +kernel), List.mem_of_getElem? (i := 1506) (by decide +kernel), List.mem_of_getElem? (i := 1507) (by decide +kernel)⟩
theorem lw_p89 : lw_okq (⟨"ScratchLadderModel", "plainOf", "(Z)Z"⟩, 41) := ⟨⟨by decide +kernel, by decide +kernel⟩, List.mem_of_getElem? (i := 1172) (by decide +kernel), List.mem_of_getElem? (i := 1510) (by decide +kernel), List.mem_of_getElem? (i := 1511) (by decide +kernel)⟩
theorem lw_p90 : lw_okq (⟨"ScratchLadderModel", "positiveOf", "(Z)Z"⟩, 41) := ⟨⟨by decide +kernel, by decide +kernel⟩, List.mem_of_getElem? (i := 1172) (by decide +kernel), List.mem_of_getElem? (i := 1514) (by decide +kernel), List.mem_of_getElem? (i := 1515) (by decide +kernel)⟩
theorem lw_p91 : lw_okq (⟨"ScratchLadderModel", "draws", "(I)I"⟩, 41) := ⟨⟨by decide +kernel, by decide +kernel⟩, List.mem_of_getElem? (i := 1172) (by decide +kernel), List.mem_of_getElem? (i := 1526) (by decide +kernel), List.mem_of_getElem? (i := 1527) (by decide +kernel)⟩
theorem lw_p92 : lw_okq (⟨"ScratchLadderModel", "keeps", "(IIIIIIII)V"⟩, 41) := ⟨⟨by decide +kernel, by decide +kernel⟩, List.mem_of_getElem? (i := 1172) (by decide +kernel), List.mem_of_getElem? (i := 1533) (by decide +kernel), List.mem_of_getElem? (i := 1534) (by decide +kernel)⟩
theorem lw_p93 : lw_okq (⟨"ScratchLadderModel", "isTrial", "(I)Z"⟩, 41) := ⟨⟨by decide +kernel, by decide +kernel⟩, List.mem_of_getElem? (i := 1172) (by decide +kernel), List.mem_of_getElem? (i := 1545) (by decide +kernel), List.mem_of_getElem? (i := 1546) (by decide +kernel)⟩
theorem lw_p94 : lw_okq (⟨"ScratchLadderModel", "trialOf", "(II)I"⟩, 41) := ⟨⟨by decide +kernel, by decide +kernel⟩, List.mem_of_getElem? (i := 1172) (by decide +kernel), List.mem_of_getElem? (i := 1549) (by decide +kernel), List.mem_of_getElem? (i := 1550) (by decide +kernel)⟩
theorem lw_p95 : lw_okq (⟨"ScratchLadderModel", "counts", "(I)Z"⟩, 41) := ⟨⟨by decide +kernel, by decide +kernel⟩, List.mem_of_getElem? (i := 1172) (by decide +kernel), List.mem_of_getElem? (i := 1561) (by decide +kernel), List.mem_of_getElem? (i := 1562) (by decide +kernel)⟩
def lw_privs_6 : List (MethodName × Nat) := [(⟨"ScratchLadderModel", "stoneOf", "(II)I"⟩, 41), (⟨"ScratchLadderModel", "codeAt", "(I)I"⟩, 41), (⟨"ScratchLadderModel", "sumOf", "(Z)J"⟩, 41), (⟨"ScratchLadderModel", "termOf", "(Z)J"⟩, 41), (⟨"ScratchLadderModel", "partOf", "(Z)J"⟩, 41), (⟨"ScratchLadderModel", "passes", "(I)Z"⟩, 41), (⟨"ScratchLadderModel", "bounded", "(JZ)J"⟩, 41), (⟨"ScratchLadderModel", "testOf", "(Z)Z"⟩, 41), (⟨"ScratchLadderModel", "bothOf", "(Z)Z"⟩, 41), (⟨"ScratchLadderModel", "plainOf", "(Z)Z"⟩, 41), (⟨"ScratchLadderModel", "positiveOf", "(Z)Z"⟩, 41), (⟨"ScratchLadderModel", "draws", "(I)I"⟩, 41), (⟨"ScratchLadderModel", "keeps", "(IIIIIIII)V"⟩, 41), (⟨"ScratchLadderModel", "isTrial", "(I)Z"⟩, 41), (⟨"ScratchLadderModel", "trialOf", "(II)I"⟩, 41), (⟨"ScratchLadderModel", "counts", "(I)Z"⟩, 41)]
theorem lw_r6 : ∀ q ∈ lw_privs_6, lw_okq q := List.forall_mem_cons.mpr ⟨lw_p80, List.forall_mem_cons.mpr ⟨lw_p81, List.forall_mem_cons.mpr ⟨lw_p82, List.forall_mem_cons.mpr ⟨lw_p83, List.forall_mem_cons.mpr ⟨lw_p84, List.forall_mem_cons.mpr ⟨lw_p85, List.forall_mem_cons.mpr ⟨lw_p86, List.forall_mem_cons.mpr ⟨lw_p87, List.forall_mem_cons.mpr ⟨lw_p88, List.forall_mem_cons.mpr ⟨lw_p89, List.forall_mem_cons.mpr ⟨lw_p90, List.forall_mem_cons.mpr ⟨lw_p91, List.forall_mem_cons.mpr ⟨lw_p92, List.forall_mem_cons.mpr ⟨lw_p93, List.forall_mem_cons.mpr ⟨lw_p94, List.forall_mem_cons.mpr ⟨lw_p95, fun _ h => absurd h List.not_mem_nil⟩⟩⟩⟩⟩⟩⟩⟩⟩⟩⟩⟩⟩⟩⟩⟩
theorem lw_p96 : lw_okq (⟨"ScratchLadderModel", "hears", "()V"⟩, 41) := ⟨⟨by decide +kernel, by decide +kernel⟩, List.mem_of_getElem? (i := 1172) (by decide +kernel), List.mem_of_getElem? (i := 1569) (by decide +kernel), List.mem_of_getElem? (i := 1570) (by decide +kernel)⟩
theorem lw_p97 : lw_okq (⟨"ScratchLadderModel", "speaks", "(I)Z"⟩, 41) := ⟨⟨by decide +kernel, by decide +kernel⟩, List.mem_of_getElem? (i := 1172) (by decide +kernel), List.mem_of_getElem? (i := 1573) (by decide +kernel), List.mem_of_getElem? (i := 1574) (by decide +kernel)⟩
theorem lw_p98 : lw_okq (⟨"ScratchLadderModel", "isOver", "(II)Z"⟩, 41) := ⟨⟨by decide +kernel, by decide +kernel⟩, List.mem_of_getElem? (i := 1172) (by decide +kernel), List.mem_of_getElem? (i := 1581) (by decide +kernel), List.mem_of_getElem? (i := 1582) (by decide +kernel)⟩
theorem lw_p99 : lw_okq (⟨"ScratchLadderModel", "ordersWith", "(II)I"⟩, 41) := ⟨⟨by decide +kernel, by decide +kernel⟩, List.mem_of_getElem? (i := 1172) (by decide +kernel), List.mem_of_getElem? (i := 1589) (by decide +kernel), List.mem_of_getElem? (i := 1590) (by decide +kernel)⟩
theorem lw_p100 : lw_okq (⟨"ScratchLadderModel", "against", "(II)I"⟩, 41) := ⟨⟨by decide +kernel, by decide +kernel⟩, List.mem_of_getElem? (i := 1172) (by decide +kernel), List.mem_of_getElem? (i := 1609) (by decide +kernel), List.mem_of_getElem? (i := 1610) (by decide +kernel)⟩
theorem lw_p101 : lw_okq (⟨"ScratchLadderModel", "isAgainst", "(I)Z"⟩, 41) := ⟨⟨by decide +kernel, by decide +kernel⟩, List.mem_of_getElem? (i := 1172) (by decide +kernel), List.mem_of_getElem? (i := 1621) (by decide +kernel), List.mem_of_getElem? (i := 1622) (by decide +kernel)⟩
theorem lw_p102 : lw_okq (⟨"ScratchLadderModel", "placeOf", "(I)I"⟩, 41) := ⟨⟨by decide +kernel, by decide +kernel⟩, List.mem_of_getElem? (i := 1172) (by decide +kernel), List.mem_of_getElem? (i := 1625) (by decide +kernel), List.mem_of_getElem? (i := 1626) (by decide +kernel)⟩
theorem lw_p103 : lw_okq (⟨"ScratchLadderModel", "spans", "(I)V"⟩, 41) := ⟨⟨by decide +kernel, by decide +kernel⟩, List.mem_of_getElem? (i := 1172) (by decide +kernel), List.mem_of_getElem? (i := 1633) (by decide +kernel), List.mem_of_getElem? (i := 1634) (by decide +kernel)⟩
theorem lw_p104 : lw_okq (⟨"ScratchLadderModel", "climbs", "()V"⟩, 41) := ⟨⟨by decide +kernel, by decide +kernel⟩, List.mem_of_getElem? (i := 1172) (by decide +kernel), List.mem_of_getElem? (i := 1637) (by decide +kernel), List.mem_of_getElem? (i := 1638) (by decide +kernel)⟩
theorem lw_p105 : lw_okq (⟨"ScratchLadderModel", "isBetween", "(II)Z"⟩, 41) := ⟨⟨by decide +kernel, by decide +kernel⟩, List.mem_of_getElem? (i := 1172) (by decide +kernel), List.mem_of_getElem? (i := 1645) (by decide +kernel), List.mem_of_getElem? (i := 1646) (by decide +kernel)⟩
theorem lw_p106 : lw_okq (⟨"ScratchLadderModel", "closed", "(I)I"⟩, 41) := ⟨⟨by decide +kernel, by decide +kernel⟩, List.mem_of_getElem? (i := 1172) (by decide +kernel), List.mem_of_getElem? (i := 1656) (by decide +kernel), List.mem_of_getElem? (i := 1657) (by decide +kernel)⟩
theorem lw_p107 : lw_okq (⟨"ScratchLadderModel", "fews", "(I)V"⟩, 41) := ⟨⟨by decide +kernel, by decide +kernel⟩, List.mem_of_getElem? (i := 1172) (by decide +kernel), List.mem_of_getElem? (i := 1660) (by decide +kernel), List.mem_of_getElem? (i := 1661) (by decide +kernel)⟩
theorem lw_p108 : lw_okq (⟨"ScratchLadderModel", "untold", "(II)I"⟩, 41) := ⟨⟨by decide +kernel, by decide +kernel⟩, List.mem_of_getElem? (i := 1172) (by decide +kernel), List.mem_of_getElem? (i := 1668) (by decide +kernel), List.mem_of_getElem? (i := 1669) (by decide +kernel)⟩
theorem lw_p109 : lw_okq (⟨"ScratchLadderModel", "lays", "(II)V"⟩, 41) := ⟨⟨by decide +kernel, by decide +kernel⟩, List.mem_of_getElem? (i := 1172) (by decide +kernel), List.mem_of_getElem? (i := 1672) (by decide +kernel), List.mem_of_getElem? (i := 1673) (by decide +kernel)⟩
theorem lw_p110 : lw_okq (⟨"ScratchLadderModel", "worst", "(IIII)I"⟩, 41) := ⟨⟨by decide +kernel, by decide +kernel⟩, List.mem_of_getElem? (i := 1172) (by decide +kernel), List.mem_of_getElem? (i := 1676) (by decide +kernel), List.mem_of_getElem? (i := 1677) (by decide +kernel)⟩
theorem lw_p111 : lw_okq (⟨"ScratchLadderModel", "with", "(IIII)I"⟩, 41) := ⟨⟨by decide +kernel, by decide +kernel⟩, List.mem_of_getElem? (i := 1172) (by decide +kernel), List.mem_of_getElem? (i := 1683) (by decide +kernel), List.mem_of_getElem? (i := 1684) (by decide +kernel)⟩
def lw_privs_7 : List (MethodName × Nat) := [(⟨"ScratchLadderModel", "hears", "()V"⟩, 41), (⟨"ScratchLadderModel", "speaks", "(I)Z"⟩, 41), (⟨"ScratchLadderModel", "isOver", "(II)Z"⟩, 41), (⟨"ScratchLadderModel", "ordersWith", "(II)I"⟩, 41), (⟨"ScratchLadderModel", "against", "(II)I"⟩, 41), (⟨"ScratchLadderModel", "isAgainst", "(I)Z"⟩, 41), (⟨"ScratchLadderModel", "placeOf", "(I)I"⟩, 41), (⟨"ScratchLadderModel", "spans", "(I)V"⟩, 41), (⟨"ScratchLadderModel", "climbs", "()V"⟩, 41), (⟨"ScratchLadderModel", "isBetween", "(II)Z"⟩, 41), (⟨"ScratchLadderModel", "closed", "(I)I"⟩, 41), (⟨"ScratchLadderModel", "fews", "(I)V"⟩, 41), (⟨"ScratchLadderModel", "untold", "(II)I"⟩, 41), (⟨"ScratchLadderModel", "lays", "(II)V"⟩, 41), (⟨"ScratchLadderModel", "worst", "(IIII)I"⟩, 41), (⟨"ScratchLadderModel", "with", "(IIII)I"⟩, 41)]
theorem lw_r7 : ∀ q ∈ lw_privs_7, lw_okq q := List.forall_mem_cons.mpr ⟨lw_p96, List.forall_mem_cons.mpr ⟨lw_p97, List.forall_mem_cons.mpr ⟨lw_p98, List.forall_mem_cons.mpr ⟨lw_p99, List.forall_mem_cons.mpr ⟨lw_p100, List.forall_mem_cons.mpr ⟨lw_p101, List.forall_mem_cons.mpr ⟨lw_p102, List.forall_mem_cons.mpr ⟨lw_p103, List.forall_mem_cons.mpr ⟨lw_p104, List.forall_mem_cons.mpr ⟨lw_p105, List.forall_mem_cons.mpr ⟨lw_p106, List.forall_mem_cons.mpr ⟨lw_p107, List.forall_mem_cons.mpr ⟨lw_p108, List.forall_mem_cons.mpr ⟨lw_p109, List.forall_mem_cons.mpr ⟨lw_p110, List.forall_mem_cons.mpr ⟨lw_p111, fun _ h => absurd h List.not_mem_nil⟩⟩⟩⟩⟩⟩⟩⟩⟩⟩⟩⟩⟩⟩⟩⟩
theorem lw_p112 : lw_okq (⟨"ScratchLadderModel", "isBestThere", "()Z"⟩, 41) := ⟨⟨by decide +kernel, by decide +kernel⟩, List.mem_of_getElem? (i := 1172) (by decide +kernel), List.mem_of_getElem? (i := 1691) (by decide +kernel), List.mem_of_getElem? (i := 1692) (by decide +kernel)⟩
theorem lw_p113 : lw_okq (⟨"ScratchLadderModel", "apart", "(I)I"⟩, 41) := ⟨⟨by decide +kernel, by decide +kernel⟩, List.mem_of_getElem? (i := 1172) (by decide +kernel), List.mem_of_getElem? (i := 1695) (by decide +kernel), List.mem_of_getElem? (i := 1696) (by decide +kernel)⟩
theorem lw_p114 : lw_okq (⟨"ScratchLadderModel", "dentsOf", "(I)V"⟩, 41) := ⟨⟨by decide +kernel, by decide +kernel⟩, List.mem_of_getElem? (i := 1172) (by decide +kernel), List.mem_of_getElem? (i := 1706) (by decide +kernel), List.mem_of_getElem? (i := 1707) (by decide +kernel)⟩
theorem lw_p115 : lw_okq (⟨"ScratchLadderModel", "standing", "(I)I"⟩, 41) := ⟨⟨by decide +kernel, by decide +kernel⟩, List.mem_of_getElem? (i := 1172) (by decide +kernel), List.mem_of_getElem? (i := 1710) (by decide +kernel), List.mem_of_getElem? (i := 1711) (by decide +kernel)⟩
theorem lw_p116 : lw_okq (⟨"ScratchLadderModel", "isAhead", "(II)Z"⟩, 41) := ⟨⟨by decide +kernel, by decide +kernel⟩, List.mem_of_getElem? (i := 1172) (by decide +kernel), List.mem_of_getElem? (i := 1714) (by decide +kernel), List.mem_of_getElem? (i := 1715) (by decide +kernel)⟩
theorem lw_p117 : lw_okq (⟨"ScratchLadderModel", "groovesOf", "()V"⟩, 41) := ⟨⟨by decide +kernel, by decide +kernel⟩, List.mem_of_getElem? (i := 1172) (by decide +kernel), List.mem_of_getElem? (i := 1722) (by decide +kernel), List.mem_of_getElem? (i := 1723) (by decide +kernel)⟩
theorem lw_p118 : lw_okq (⟨"ScratchLadderModel", "cutsOn", "(II)I"⟩, 41) := ⟨⟨by decide +kernel, by decide +kernel⟩, List.mem_of_getElem? (i := 1172) (by decide +kernel), List.mem_of_getElem? (i := 1742) (by decide +kernel), List.mem_of_getElem? (i := 1743) (by decide +kernel)⟩
theorem lw_p119 : lw_okq (⟨"ScratchLadderModel", "isRow", "(I)Z"⟩, 41) := ⟨⟨by decide +kernel, by decide +kernel⟩, List.mem_of_getElem? (i := 1172) (by decide +kernel), List.mem_of_getElem? (i := 1750) (by decide +kernel), List.mem_of_getElem? (i := 1751) (by decide +kernel)⟩
theorem lw_p120 : lw_okq (⟨"ScratchLadderModel", "knownOf", "(I)I"⟩, 41) := ⟨⟨by decide +kernel, by decide +kernel⟩, List.mem_of_getElem? (i := 1172) (by decide +kernel), List.mem_of_getElem? (i := 1754) (by decide +kernel), List.mem_of_getElem? (i := 1755) (by decide +kernel)⟩
theorem lw_p121 : lw_okq (⟨"ScratchLadderModel", "nextRow", "(I)Z"⟩, 41) := ⟨⟨by decide +kernel, by decide +kernel⟩, List.mem_of_getElem? (i := 1172) (by decide +kernel), List.mem_of_getElem? (i := 1758) (by decide +kernel), List.mem_of_getElem? (i := 1759) (by decide +kernel)⟩
def lw_privs_8 : List (MethodName × Nat) := [(⟨"ScratchLadderModel", "isBestThere", "()Z"⟩, 41), (⟨"ScratchLadderModel", "apart", "(I)I"⟩, 41), (⟨"ScratchLadderModel", "dentsOf", "(I)V"⟩, 41), (⟨"ScratchLadderModel", "standing", "(I)I"⟩, 41), (⟨"ScratchLadderModel", "isAhead", "(II)Z"⟩, 41), (⟨"ScratchLadderModel", "groovesOf", "()V"⟩, 41), (⟨"ScratchLadderModel", "cutsOn", "(II)I"⟩, 41), (⟨"ScratchLadderModel", "isRow", "(I)Z"⟩, 41), (⟨"ScratchLadderModel", "knownOf", "(I)I"⟩, 41), (⟨"ScratchLadderModel", "nextRow", "(I)Z"⟩, 41)]
theorem lw_r8 : ∀ q ∈ lw_privs_8, lw_okq q := List.forall_mem_cons.mpr ⟨lw_p112, List.forall_mem_cons.mpr ⟨lw_p113, List.forall_mem_cons.mpr ⟨lw_p114, List.forall_mem_cons.mpr ⟨lw_p115, List.forall_mem_cons.mpr ⟨lw_p116, List.forall_mem_cons.mpr ⟨lw_p117, List.forall_mem_cons.mpr ⟨lw_p118, List.forall_mem_cons.mpr ⟨lw_p119, List.forall_mem_cons.mpr ⟨lw_p120, List.forall_mem_cons.mpr ⟨lw_p121, fun _ h => absurd h List.not_mem_nil⟩⟩⟩⟩⟩⟩⟩⟩⟩⟩
def lw_privs : List (MethodName × Nat) := lw_privs_1 ++ (lw_privs_2 ++ (lw_privs_3 ++ (lw_privs_4 ++ (lw_privs_5 ++ (lw_privs_6 ++ (lw_privs_7 ++ (lw_privs_8)))))))
def lw_tbl : List Cond := k2_sels lw_privs ++ tables_1
theorem lw_privs_ok : ∀ q ∈ lw_privs, lw_okq q := by
  show ∀ q ∈ lw_privs_1 ++ (lw_privs_2 ++ (lw_privs_3 ++ (lw_privs_4 ++ (lw_privs_5 ++ (lw_privs_6 ++ (lw_privs_7 ++ (lw_privs_8))))))), lw_okq q
  exact List.forall_mem_append.mpr ⟨lw_r1, List.forall_mem_append.mpr ⟨lw_r2, List.forall_mem_append.mpr ⟨lw_r3, List.forall_mem_append.mpr ⟨lw_r4, List.forall_mem_append.mpr ⟨lw_r5, List.forall_mem_append.mpr ⟨lw_r6, List.forall_mem_append.mpr ⟨lw_r7, lw_r8⟩⟩⟩⟩⟩⟩⟩
-- ===== end of PART A; then your names; then what follows =====
end
section
/-! NUMBERS THAT A TABLE BOUNDS: forms a * symbol + b over symbols with a lowest and a highest value. Plain facts; nothing of the machine. -/
abbrev ck_L : Type := Nat × Int × Int
abbrev ck_I : Type := Int × Int × Nat × ck_L
def ck_ev (ν : Nat → Int) (f : ck_L) : Int := f.2.1 * ν f.1 + f.2.2
/-- a form speaks of symbols below n alone -/
def ck_wf (n : Nat) (f : ck_L) : Prop := f.2.1 = 0 ∨ f.1 < n
/-- the symbols are as the table says; 1: at least the form, 2: at most the form -/
def ck_gi (ν : Nat → Int) (I : List ck_I) : Prop := ∀ (j : Nat) (q : ck_I), I[j]? = some q → q.1 ≤ ν j ∧ ν j ≤ q.2.1 ∧ (q.2.2.1 = 1 → ck_wf I.length q.2.2.2 ∧ ck_ev ν q.2.2.2 ≤ ν j) ∧ (q.2.2.1 = 2 → ck_wf I.length q.2.2.2 ∧ ν j ≤ ck_ev ν q.2.2.2)
theorem ck_wf.mono {n n' : Nat} {f : ck_L} (h : ck_wf n f) (hn : n ≤ n') : ck_wf n' f := h.imp id (fun q => Nat.lt_of_lt_of_le q hn)
theorem ck_ev_congr {ν ν' : Nat → Int} {n : Nat} {f : ck_L} (hf : ck_wf n f) (h : ∀ j, j < n → ν' j = ν j) : ck_ev ν' f = ck_ev ν f := by
  unfold ck_ev
  rcases hf with h0 | h1
  · rw [h0, Int.zero_mul, Int.zero_mul]
  · rw [h _ h1]
/-- what an operation gives: a longer table, a form of the answer z; the old symbols stay -/
def ck_res (ν : Nat → Int) (I I' : List ck_I) (f : ck_L) (z : Int) : Prop := ∃ ν' : Nat → Int, (∀ j, j < I.length → ν' j = ν j) ∧ I.length ≤ I'.length ∧ ck_gi ν' I' ∧ ck_wf I'.length f ∧ ck_ev ν' f = z
theorem ck_same {ν : Nat → Int} {I : List ck_I} {f : ck_L} {z : Int} (h : ck_gi ν I) (hf : ck_wf I.length f) (hz : ck_ev ν f = z) : ck_res ν I I f z := ⟨ν, fun _ _ => rfl, Nat.le_refl _, h, hf, hz⟩
theorem ck_fresh {ν : Nat → Int} {I : List ck_I} {z : Int} (h : ck_gi ν I) (q : ck_I) (h1 : q.1 ≤ z) (h2 : z ≤ q.2.1) (h3 : q.2.2.1 = 1 → ck_wf I.length q.2.2.2 ∧ ck_ev ν q.2.2.2 ≤ z) (h4 : q.2.2.1 = 2 → ck_wf I.length q.2.2.2 ∧ z ≤ ck_ev ν q.2.2.2) : ck_res ν I (I ++ [q]) (I.length, 1, 0) z := by
  have hag : ∀ j, j < I.length → (fun j => if j = I.length then z else ν j) j = ν j := fun j hj => if_neg (Nat.ne_of_lt hj)
  have hlen : (I ++ [q]).length = I.length + 1 := by simp
  refine ⟨fun j => if j = I.length then z else ν j, hag, by omega, ?_, Or.inr (by show I.length < _; omega), by simp [ck_ev]⟩
  intro j r hr
  rw [hlen]
  rcases Nat.lt_trichotomy j I.length with hj | hj | hj
  · rw [List.getElem?_append_left hj] at hr
    obtain ⟨a1, a2, a3, a4⟩ := h j r hr
    rw [hag j hj]
    refine ⟨a1, a2, fun e => ?_, fun e => ?_⟩
    · obtain ⟨w, v⟩ := a3 e
      exact ⟨w.mono (by omega), by rw [ck_ev_congr w hag]; exact v⟩
    · obtain ⟨w, v⟩ := a4 e
      exact ⟨w.mono (by omega), by rw [ck_ev_congr w hag]; exact v⟩
  · subst hj
    have hq : r = q := by simpa using hr.symm
    subst hq
    simp only [if_true]
    refine ⟨h1, h2, fun e => ?_, fun e => ?_⟩
    · obtain ⟨w, v⟩ := h3 e
      exact ⟨w.mono (by omega), by rw [ck_ev_congr w hag]; exact v⟩
    · obtain ⟨w, v⟩ := h4 e
      exact ⟨w.mono (by omega), by rw [ck_ev_congr w hag]; exact v⟩
  · rw [List.getElem?_eq_none (by omega)] at hr
    cases hr
/-- lowest and highest value of a form that is an int -/
def ck_rng (I : List ck_I) (f : ck_L) : Int × Int :=
  if f.2.1 = 0 then (f.2.2, f.2.2) else
  match I[f.1]? with
  | none => (-2147483648, 2147483647)
  | some q => if 0 ≤ f.2.1 then (f.2.1 * q.1 + f.2.2, f.2.1 * q.2.1 + f.2.2) else (f.2.1 * q.2.1 + f.2.2, f.2.1 * q.1 + f.2.2)
theorem ck_i32 (x : Int32) : -2147483648 ≤ x.toInt ∧ x.toInt ≤ 2147483647 := by
  have h1 := x.le_toInt
  have h2 := x.toInt_lt
  omega
theorem ck_rng_ok {ν : Nat → Int} {I : List ck_I} {f : ck_L} {x : Int} (h : ck_gi ν I) (hx : x = ck_ev ν f) (hl : -2147483648 ≤ x ∧ x ≤ 2147483647) : (ck_rng I f).1 ≤ x ∧ x ≤ (ck_rng I f).2 := by
  unfold ck_rng
  by_cases h0 : f.2.1 = 0
  · rw [if_pos h0]
    unfold ck_ev at hx
    rw [h0, Int.zero_mul, Int.zero_add] at hx
    rw [hx]
    exact ⟨Int.le_refl _, Int.le_refl _⟩
  · rw [if_neg h0]
    cases hq : I[f.1]? with
    | none => exact hl
    | some q =>
      obtain ⟨a1, a2, -, -⟩ := h _ _ hq
      unfold ck_ev at hx
      dsimp only
      by_cases hp : 0 ≤ f.2.1
      · rw [if_pos hp]
        have b1 := Int.mul_le_mul_of_nonneg_left a1 hp
        have b2 := Int.mul_le_mul_of_nonneg_left a2 hp
        dsimp only
        omega
      · rw [if_neg hp]
        have hp' : f.2.1 ≤ 0 := by omega
        have b1 := Int.mul_le_mul_of_nonpos_left hp' a1
        have b2 := Int.mul_le_mul_of_nonpos_left hp' a2
        dsimp only
        omega
theorem ck_rng32 {ν : Nat → Int} {I : List ck_I} {f : ck_L} {x : Int32} (h : ck_gi ν I) (hx : x.toInt = ck_ev ν f) : (ck_rng I f).1 ≤ x.toInt ∧ x.toInt ≤ (ck_rng I f).2 := ck_rng_ok h hx (ck_i32 x)
def ck_full (I : List ck_I) : List ck_I × ck_L := (I ++ [(-2147483648, 2147483647, 0, (0, 0, 0))], (I.length, 1, 0))
theorem ck_full_ok {ν : Nat → Int} {I : List ck_I} (h : ck_gi ν I) (x : Int32) : ck_res ν I (ck_full I).1 (ck_full I).2 x.toInt :=
  ck_fresh h _ (ck_i32 x).1 (ck_i32 x).2 (fun e => by cases e) (fun e => by cases e)
def ck_btw (I : List ck_I) (lo hi : Int) : List ck_I × ck_L := (I ++ [(lo, hi, 0, (0, 0, 0))], (I.length, 1, 0))
theorem ck_btw_ok {ν : Nat → Int} {I : List ck_I} (h : ck_gi ν I) {lo hi z : Int} (h1 : lo ≤ z) (h2 : z ≤ hi) : ck_res ν I (ck_btw I lo hi).1 (ck_btw I lo hi).2 z :=
  ck_fresh h _ h1 h2 (fun e => by cases e) (fun e => by cases e)
def ck_k (z : Int) : ck_L := (0, 0, z)
theorem ck_k_ok {ν : Nat → Int} {I : List ck_I} (h : ck_gi ν I) (z : Int) : ck_res ν I I (ck_k z) z := ck_same h (Or.inl rfl) (by simp [ck_ev, ck_k])
theorem ck_bmod {z : Int} (h1 : -2147483648 ≤ z) (h2 : z ≤ 2147483647) : z.bmod (2 ^ 32) = z := Int.bmod_eq_of_le_mul_two (by omega) (by omega)
theorem ck_addI {x y : Int32} (h1 : -2147483648 ≤ x.toInt + y.toInt) (h2 : x.toInt + y.toInt ≤ 2147483647) : (x + y).toInt = x.toInt + y.toInt := by
  rw [Int32.toInt_add]; exact ck_bmod h1 h2
theorem ck_subI {x y : Int32} (h1 : -2147483648 ≤ x.toInt - y.toInt) (h2 : x.toInt - y.toInt ≤ 2147483647) : (x - y).toInt = x.toInt - y.toInt := by
  rw [Int32.toInt_sub]; exact ck_bmod h1 h2
theorem ck_mulI {x y : Int32} (h1 : -2147483648 ≤ x.toInt * y.toInt) (h2 : x.toInt * y.toInt ≤ 2147483647) : (x * y).toInt = x.toInt * y.toInt := by
  rw [Int32.toInt_mul]; exact ck_bmod h1 h2
theorem ck_negI {x : Int32} (h1 : -2147483648 ≤ -x.toInt) (h2 : -x.toInt ≤ 2147483647) : (-x).toInt = -x.toInt := by
  rw [Int32.toInt_neg]; exact ck_bmod h1 h2
def ck_in32 (z : Int × Int) : Bool := decide (-2147483648 ≤ z.1) && decide (z.2 ≤ 2147483647)
theorem ck_in32_ok {z : Int × Int} (h : ck_in32 z = true) : -2147483648 ≤ z.1 ∧ z.2 ≤ 2147483647 := by
  simpa [ck_in32] using h
/-- x + y -/
def ck_add (I : List ck_I) (f g : ck_L) : List ck_I × ck_L :=
  let a := ck_rng I f
  let b := ck_rng I g
  if ck_in32 (a.1 + b.1, a.2 + b.2) = true then
    if f.2.1 = 0 then (I, (g.1, g.2.1, f.2.2 + g.2.2))
    else if g.2.1 = 0 then (I, (f.1, f.2.1, f.2.2 + g.2.2))
    else if f.1 = g.1 then (I, (f.1, f.2.1 + g.2.1, f.2.2 + g.2.2))
    else if 0 ≤ b.1 then (I ++ [(a.1 + b.1, a.2 + b.2, 1, f)], (I.length, 1, 0))
    else if 0 ≤ a.1 then (I ++ [(a.1 + b.1, a.2 + b.2, 1, g)], (I.length, 1, 0))
    else ck_btw I (a.1 + b.1) (a.2 + b.2)
  else ck_full I
theorem ck_add_ok {ν : Nat → Int} {I : List ck_I} {f g : ck_L} {x y : Int32} (h : ck_gi ν I) (wf : ck_wf I.length f) (wg : ck_wf I.length g) (hx : x.toInt = ck_ev ν f) (hy : y.toInt = ck_ev ν g) : ck_res ν I (ck_add I f g).1 (ck_add I f g).2 (x + y).toInt := by
  have rx := ck_rng32 h hx
  have ry := ck_rng32 h hy
  unfold ck_add
  dsimp only
  by_cases hc : ck_in32 ((ck_rng I f).1 + (ck_rng I g).1, (ck_rng I f).2 + (ck_rng I g).2) = true
  · have hc' := ck_in32_ok hc
    dsimp only at hc'
    have e := ck_addI (x := x) (y := y) (by omega) (by omega)
    rw [if_pos hc, e]
    by_cases h0 : f.2.1 = 0
    · rw [if_pos h0]
      refine ck_same h wg ?_
      rw [hx, hy]; unfold ck_ev; dsimp only; rw [h0, Int.zero_mul]; omega
    · rw [if_neg h0]
      by_cases h1 : g.2.1 = 0
      · rw [if_pos h1]
        refine ck_same h wf ?_
        rw [hx, hy]; unfold ck_ev; dsimp only; rw [h1, Int.zero_mul]; omega
      · rw [if_neg h1]
        by_cases h2 : f.1 = g.1
        · rw [if_pos h2]
          refine ck_same h (wf.elim (fun q => absurd q h0) Or.inr) ?_
          rw [hx, hy]; unfold ck_ev; dsimp only; rw [h2, Int.add_mul]; omega
        · rw [if_neg h2]
          by_cases h3 : 0 ≤ (ck_rng I g).1
          · rw [if_pos h3]
            exact ck_fresh h _ (by dsimp only; omega) (by dsimp only; omega) (fun _ => ⟨wf, by dsimp only; omega⟩) (fun e => by cases e)
          · rw [if_neg h3]
            by_cases h4 : 0 ≤ (ck_rng I f).1
            · rw [if_pos h4]
              exact ck_fresh h _ (by dsimp only; omega) (by dsimp only; omega) (fun _ => ⟨wg, by dsimp only; omega⟩) (fun e => by cases e)
            · rw [if_neg h4]
              exact ck_btw_ok h (by omega) (by omega)
  · rw [if_neg hc]
    exact ck_full_ok h _
/-- x - y -/
def ck_sub (I : List ck_I) (f g : ck_L) : List ck_I × ck_L :=
  let a := ck_rng I f
  let b := ck_rng I g
  if ck_in32 (a.1 - b.2, a.2 - b.1) = true then
    if g.2.1 = 0 then (I, (f.1, f.2.1, f.2.2 - g.2.2))
    else if f.2.1 = 0 then (I, (g.1, -g.2.1, f.2.2 - g.2.2))
    else if f.1 = g.1 then (I, (f.1, f.2.1 - g.2.1, f.2.2 - g.2.2))
    else if 0 ≤ b.1 then (I ++ [(a.1 - b.2, a.2 - b.1, 2, f)], (I.length, 1, 0))
    else ck_btw I (a.1 - b.2) (a.2 - b.1)
  else ck_full I
theorem ck_sub_ok {ν : Nat → Int} {I : List ck_I} {f g : ck_L} {x y : Int32} (h : ck_gi ν I) (wf : ck_wf I.length f) (wg : ck_wf I.length g) (hx : x.toInt = ck_ev ν f) (hy : y.toInt = ck_ev ν g) : ck_res ν I (ck_sub I f g).1 (ck_sub I f g).2 (x - y).toInt := by
  have rx := ck_rng32 h hx
  have ry := ck_rng32 h hy
  unfold ck_sub
  dsimp only
  by_cases hc : ck_in32 ((ck_rng I f).1 - (ck_rng I g).2, (ck_rng I f).2 - (ck_rng I g).1) = true
  · have hc' := ck_in32_ok hc
    dsimp only at hc'
    have e := ck_subI (x := x) (y := y) (by omega) (by omega)
    rw [if_pos hc, e]
    by_cases h1 : g.2.1 = 0
    · rw [if_pos h1]
      refine ck_same h wf ?_
      rw [hx, hy]; unfold ck_ev; dsimp only; rw [h1, Int.zero_mul]; omega
    · rw [if_neg h1]
      by_cases h0 : f.2.1 = 0
      · rw [if_pos h0]
        refine ck_same h (wg.elim (fun q => absurd q h1) Or.inr) ?_
        rw [hx, hy]; unfold ck_ev; dsimp only; rw [h0, Int.zero_mul, Int.neg_mul]; omega
      · rw [if_neg h0]
        by_cases h2 : f.1 = g.1
        · rw [if_pos h2]
          refine ck_same h (wf.elim (fun q => absurd q h0) Or.inr) ?_
          rw [hx, hy]; unfold ck_ev; dsimp only; rw [h2, Int.sub_mul]; omega
        · rw [if_neg h2]
          by_cases h3 : 0 ≤ (ck_rng I g).1
          · rw [if_pos h3]
            exact ck_fresh h _ (by dsimp only; omega) (by dsimp only; omega) (fun e => by cases e) (fun _ => ⟨wf, by dsimp only; omega⟩)
          · rw [if_neg h3]
            exact ck_btw_ok h (by omega) (by omega)
  · rw [if_neg hc]
    exact ck_full_ok h _
theorem ck_corner {x y a b c d : Int} (h1 : a ≤ x) (h2 : x ≤ b) (h3 : c ≤ y) (h4 : y ≤ d) : min (min (a * c) (a * d)) (min (b * c) (b * d)) ≤ x * y ∧ x * y ≤ max (max (a * c) (a * d)) (max (b * c) (b * d)) := by
  have lo : ∀ t : Int, min (t * c) (t * d) ≤ t * y ∧ t * y ≤ max (t * c) (t * d) := fun t => by
    rcases Int.le_total 0 t with ht | ht
    · have := Int.mul_le_mul_of_nonneg_left h3 ht
      have := Int.mul_le_mul_of_nonneg_left h4 ht
      omega
    · have := Int.mul_le_mul_of_nonpos_left ht h3
      have := Int.mul_le_mul_of_nonpos_left ht h4
      omega
  have ha := lo a
  have hb := lo b
  rcases Int.le_total 0 y with hy | hy
  · have := Int.mul_le_mul_of_nonneg_right h1 hy
    have := Int.mul_le_mul_of_nonneg_right h2 hy
    omega
  · have := Int.mul_le_mul_of_nonpos_right h1 hy
    have := Int.mul_le_mul_of_nonpos_right h2 hy
    omega
/-- x * y -/
def ck_mul (I : List ck_I) (f g : ck_L) : List ck_I × ck_L :=
  let a := ck_rng I f
  let b := ck_rng I g
  let z : Int × Int := (min (min (a.1 * b.1) (a.1 * b.2)) (min (a.2 * b.1) (a.2 * b.2)), max (max (a.1 * b.1) (a.1 * b.2)) (max (a.2 * b.1) (a.2 * b.2)))
  if ck_in32 z = true then
    if f.2.1 = 0 then (I, (g.1, f.2.2 * g.2.1, f.2.2 * g.2.2))
    else if g.2.1 = 0 then (I, (f.1, g.2.2 * f.2.1, g.2.2 * f.2.2))
    else ck_btw I z.1 z.2
  else ck_full I
theorem ck_mul_ok {ν : Nat → Int} {I : List ck_I} {f g : ck_L} {x y : Int32} (h : ck_gi ν I) (wf : ck_wf I.length f) (wg : ck_wf I.length g) (hx : x.toInt = ck_ev ν f) (hy : y.toInt = ck_ev ν g) : ck_res ν I (ck_mul I f g).1 (ck_mul I f g).2 (x * y).toInt := by
  have rx := ck_rng32 h hx
  have ry := ck_rng32 h hy
  have hz := ck_corner rx.1 rx.2 ry.1 ry.2
  unfold ck_mul
  dsimp only
  split
  · rename_i hc
    have hc' := ck_in32_ok hc
    dsimp only at hc'
    have e := ck_mulI (x := x) (y := y) (Int.le_trans hc'.1 hz.1) (Int.le_trans hz.2 hc'.2)
    rw [e]
    by_cases h0 : f.2.1 = 0
    · rw [if_pos h0]
      refine ck_same h (wg.imp (fun q => by dsimp only; rw [q, Int.mul_zero]) id) ?_
      rw [hx, hy]; unfold ck_ev; dsimp only; rw [h0, Int.zero_mul, Int.zero_add, Int.mul_add, Int.mul_assoc]
    · rw [if_neg h0]
      by_cases h1 : g.2.1 = 0
      · rw [if_pos h1]
        refine ck_same h (wf.imp (fun q => by dsimp only; rw [q, Int.mul_zero]) id) ?_
        rw [hx, hy]; unfold ck_ev; dsimp only; rw [h1, Int.zero_mul, Int.zero_add, Int.mul_comm (f.2.1 * ν f.1 + f.2.2), Int.mul_add, Int.mul_assoc]
      · rw [if_neg h1]
        exact ck_btw_ok h hz.1 hz.2
  · exact ck_full_ok h _
/-- -x -/
def ck_neg (I : List ck_I) (f : ck_L) : List ck_I × ck_L :=
  let a := ck_rng I f
  if ck_in32 (-a.2, -a.1) = true then (I, (f.1, -f.2.1, -f.2.2)) else ck_full I
theorem ck_neg_ok {ν : Nat → Int} {I : List ck_I} {f : ck_L} {x : Int32} (h : ck_gi ν I) (wf : ck_wf I.length f) (hx : x.toInt = ck_ev ν f) : ck_res ν I (ck_neg I f).1 (ck_neg I f).2 (-x).toInt := by
  have rx := ck_rng32 h hx
  unfold ck_neg
  dsimp only
  by_cases hc : ck_in32 (-(ck_rng I f).2, -(ck_rng I f).1) = true
  · have hc' := ck_in32_ok hc
    dsimp only at hc'
    rw [if_pos hc, ck_negI (x := x) (by omega) (by omega)]
    refine ck_same h (wf.imp (fun q => by dsimp only; rw [q]; rfl) id) ?_
    rw [hx]; unfold ck_ev; dsimp only; rw [Int.neg_mul]; omega
  · rw [if_neg hc]
    exact ck_full_ok h _
/-- both are told numbers: the machine's own operation tells the answer -/
def ck_two (o : Int32 → Int32 → Int32) (I : List ck_I) (f g : ck_L) (r : List ck_I × ck_L) : List ck_I × ck_L :=
  if f.2.1 = 0 ∧ g.2.1 = 0 then (I, ck_k (o (Int32.ofInt f.2.2) (Int32.ofInt g.2.2)).toInt) else r
theorem ck_told {ν : Nat → Int} {f : ck_L} {x : Int32} (h0 : f.2.1 = 0) (hx : x.toInt = ck_ev ν f) : x = Int32.ofInt f.2.2 := by
  have e : x.toInt = f.2.2 := by rw [hx]; unfold ck_ev; rw [h0, Int.zero_mul, Int.zero_add]
  rw [← e, Int32.ofInt_toInt]
theorem ck_two_ok {o : Int32 → Int32 → Int32} {ν : Nat → Int} {I : List ck_I} {f g : ck_L} {x y : Int32} {r : List ck_I × ck_L} (h : ck_gi ν I) (hx : x.toInt = ck_ev ν f) (hy : y.toInt = ck_ev ν g) (hr : ck_res ν I r.1 r.2 (o x y).toInt) : ck_res ν I (ck_two o I f g r).1 (ck_two o I f g r).2 (o x y).toInt := by
  unfold ck_two
  by_cases hc : f.2.1 = 0 ∧ g.2.1 = 0
  · rw [if_pos hc, ck_told hc.1 hx, ck_told hc.2 hy]
    exact ck_k_ok h _
  · rw [if_neg hc]; exact hr
/-- x / y for y at least 1 -/
def ck_div (I : List ck_I) (f g : ck_L) : List ck_I × ck_L :=
  ck_two (fun x y => x / y) I f g (
    let a := ck_rng I f
    let b := ck_rng I g
    if 0 ≤ a.1 ∧ g.2.1 = 0 then ck_btw I (a.1 / g.2.2) (a.2 / g.2.2)
    else if 1 ≤ b.1 then ck_btw I (min a.1 0) (max a.2 0)
    else ck_full I)
theorem ck_tdiv {x y : Int} (hy : 1 ≤ y) : min x 0 ≤ x.tdiv y ∧ x.tdiv y ≤ max x 0 := by
  rcases Int.le_total 0 x with h | h
  · have h1 := Int.tdiv_nonneg h (show (0 : Int) ≤ y by omega)
    have h2 := Int.tdiv_le_self y h
    omega
  · have h' : 0 ≤ -x := by omega
    have h1 := Int.tdiv_nonneg h' (show (0 : Int) ≤ y by omega)
    have h2 := Int.tdiv_le_self y h'
    rw [Int.neg_tdiv] at h1 h2
    omega
theorem ck_divI {x y : Int32} (hy : 1 ≤ y.toInt) : (x / y).toInt = x.toInt.tdiv y.toInt := by
  rw [Int32.toInt_div]
  have h1 := ck_tdiv (x := x.toInt) hy
  have h2 := ck_i32 x
  exact ck_bmod (by omega) (by omega)
theorem ck_div_ok {ν : Nat → Int} {I : List ck_I} {f g : ck_L} {x y : Int32} (h : ck_gi ν I) (hx : x.toInt = ck_ev ν f) (hy : y.toInt = ck_ev ν g) (hp : 1 ≤ y.toInt) : ck_res ν I (ck_div I f g).1 (ck_div I f g).2 (x / y).toInt := by
  have rx := ck_rng32 h hx
  have ry := ck_rng32 h hy
  refine ck_two_ok (o := fun x y => x / y) h hx hy ?_
  dsimp only
  have e := ck_divI (x := x) hp
  have ht := ck_tdiv (x := x.toInt) hp
  by_cases hc : 0 ≤ (ck_rng I f).1 ∧ g.2.1 = 0
  · rw [if_pos hc, e, Int.tdiv_eq_ediv_of_nonneg (by omega)]
    have e2 : y.toInt = g.2.2 := by rw [hy]; unfold ck_ev; rw [hc.2, Int.zero_mul, Int.zero_add]
    rw [← e2]
    exact ck_btw_ok h (Int.ediv_le_ediv (by omega) rx.1) (Int.ediv_le_ediv (by omega) rx.2)
  · rw [if_neg hc]
    by_cases h1 : 1 ≤ (ck_rng I g).1
    · rw [if_pos h1, e]
      exact ck_btw_ok h (by omega) (by omega)
    · rw [if_neg h1]
      exact ck_full_ok h _
/-- the machine's remainder for y at least 1 -/
def ck_rem (I : List ck_I) (f g : ck_L) : List ck_I × ck_L :=
  ck_two (fun x y => x - x / y * y) I f g (
    let a := ck_rng I f
    let b := ck_rng I g
    if 0 ≤ a.1 then ck_btw I 0 (min a.2 (b.2 - 1)) else ck_btw I (1 - b.2) (b.2 - 1))
theorem ck_remI {x y : Int32} (hy : 1 ≤ y.toInt) : (x - x / y * y).toInt = x.toInt.tmod y.toInt := by
  have e := ck_divI (x := x) hy
  have h2 := ck_i32 x
  have h3 := ck_i32 y
  have ed := Int.mul_tdiv_add_tmod x.toInt y.toInt
  have em : y.toInt * x.toInt.tdiv y.toInt = x.toInt - x.toInt.tmod y.toInt := by omega
  have hm : -2147483648 ≤ x.toInt - x.toInt.tmod y.toInt ∧ x.toInt - x.toInt.tmod y.toInt ≤ 2147483647 := by
    rcases Int.le_total 0 x.toInt with h | h
    · have h1 := Int.tmod_nonneg y.toInt h
      have h4 := Int.tdiv_nonneg h (show (0 : Int) ≤ y.toInt by omega)
      have h5 : 0 ≤ y.toInt * x.toInt.tdiv y.toInt := Int.mul_nonneg (by omega) h4
      omega
    · have h1 := Int.tmod_nonneg y.toInt (show (0 : Int) ≤ -x.toInt by omega)
      have h4 := Int.tdiv_nonneg (show (0 : Int) ≤ -x.toInt by omega) (show (0 : Int) ≤ y.toInt by omega)
      rw [Int.neg_tmod] at h1
      rw [Int.neg_tdiv] at h4
      have h5 : 0 ≤ y.toInt * -x.toInt.tdiv y.toInt := Int.mul_nonneg (by omega) h4
      rw [Int.mul_neg] at h5
      omega
  have e1 : (x / y * y).toInt = x.toInt - x.toInt.tmod y.toInt := by
    rw [ck_mulI (by rw [e, Int.mul_comm]; omega) (by rw [e, Int.mul_comm]; omega), e, Int.mul_comm]
    exact em
  have h6 : -2147483648 ≤ x.toInt.tmod y.toInt ∧ x.toInt.tmod y.toInt ≤ 2147483647 := by
    rcases Int.le_total 0 x.toInt with h | h
    · have h1 := Int.tmod_nonneg y.toInt h
      have h4 := Int.tmod_lt_of_pos x.toInt (show (0 : Int) < y.toInt by omega)
      omega
    · have h1 := Int.tmod_nonneg y.toInt (show (0 : Int) ≤ -x.toInt by omega)
      have h4 := Int.tmod_lt_of_pos (-x.toInt) (show (0 : Int) < y.toInt by omega)
      rw [Int.neg_tmod] at h1 h4
      omega
  rw [ck_subI (by rw [e1]; omega) (by rw [e1]; omega), e1]
  omega
theorem ck_rem_ok {ν : Nat → Int} {I : List ck_I} {f g : ck_L} {x y : Int32} (h : ck_gi ν I) (hx : x.toInt = ck_ev ν f) (hy : y.toInt = ck_ev ν g) (hp : 1 ≤ y.toInt) : ck_res ν I (ck_rem I f g).1 (ck_rem I f g).2 (x - x / y * y).toInt := by
  have rx := ck_rng32 h hx
  have ry := ck_rng32 h hy
  refine ck_two_ok (o := fun x y => x - x / y * y) h hx hy ?_
  dsimp only
  rw [ck_remI hp]
  have h4 := Int.tmod_lt_of_pos x.toInt (show (0 : Int) < y.toInt by omega)
  have h5 := Int.tmod_lt_of_pos (-x.toInt) (show (0 : Int) < y.toInt by omega)
  rw [Int.neg_tmod] at h5
  by_cases hc : 0 ≤ (ck_rng I f).1
  · rw [if_pos hc]
    have h6 := Int.tmod_nonneg y.toInt (show (0 : Int) ≤ x.toInt by omega)
    have h7 : x.toInt.tmod y.toInt ≤ x.toInt := by
      rw [Int.tmod_eq_emod_of_nonneg (by omega)]
      have h8 := Int.emod_add_mul_ediv x.toInt y.toInt
      have h9 : 0 ≤ y.toInt * (x.toInt / y.toInt) := Int.mul_nonneg (by omega) (Int.ediv_nonneg (by omega) (by omega))
      omega
    exact ck_btw_ok h h6 (by omega)
  · rw [if_neg hc]
    exact ck_btw_ok h (by omega) (by omega)
end
section
/-! BITS OF BOUNDED NUMBERS, AND WHAT A COMPARISON TELLS -/
theorem ck_nat {x : Int32} (h : 0 ≤ x.toInt) : x.toInt = (x.toBitVec.toNat : Int) := by
  have e : x.toBitVec.toInt = x.toInt := Int32.toInt_toBitVec x
  rw [← e] at h ⊢
  have h2 := BitVec.toInt_eq_toNat_cond x.toBitVec
  have h3 := x.toBitVec.isLt
  split at h2 <;> omega
theorem ck_ofnat {x : Int32} (h : x.toBitVec.toNat ≤ 2147483647) : x.toInt = (x.toBitVec.toNat : Int) := by
  have e : x.toBitVec.toInt = x.toInt := Int32.toInt_toBitVec x
  rw [← e]
  have h2 := BitVec.toInt_eq_toNat_cond x.toBitVec
  split at h2 <;> omega
theorem ck_andN (x y : Int32) : (x &&& y).toBitVec.toNat = x.toBitVec.toNat &&& y.toBitVec.toNat := by
  rw [Int32.toBitVec_and, BitVec.toNat_and]
theorem ck_orN (x y : Int32) : (x ||| y).toBitVec.toNat = x.toBitVec.toNat ||| y.toBitVec.toNat := by
  rw [Int32.toBitVec_or, BitVec.toNat_or]
theorem ck_xorN (x y : Int32) : (x ^^^ y).toBitVec.toNat = x.toBitVec.toNat ^^^ y.toBitVec.toNat := by
  rw [Int32.toBitVec_xor, BitVec.toNat_xor]
theorem ck_andL {x : Int32} (y : Int32) (h : 0 ≤ x.toInt) : 0 ≤ (x &&& y).toInt ∧ (x &&& y).toInt ≤ x.toInt := by
  have e := ck_nat h
  have h2 := ck_i32 x
  have h3 : (x &&& y).toBitVec.toNat ≤ x.toBitVec.toNat := by rw [ck_andN]; exact Nat.and_le_left
  rw [ck_ofnat (x := x &&& y) (by omega)]
  omega
theorem ck_andR (x : Int32) {y : Int32} (h : 0 ≤ y.toInt) : 0 ≤ (x &&& y).toInt ∧ (x &&& y).toInt ≤ y.toInt := by
  have e := ck_nat h
  have h2 := ck_i32 y
  have h3 : (x &&& y).toBitVec.toNat ≤ y.toBitVec.toNat := by rw [ck_andN]; exact Nat.and_le_right
  rw [ck_ofnat (x := x &&& y) (by omega)]
  omega
/-- x & y -/
def ck_and (I : List ck_I) (f g : ck_L) : List ck_I × ck_L :=
  ck_two (fun x y => x &&& y) I f g (
    let a := ck_rng I f
    let b := ck_rng I g
    if 0 ≤ a.1 then
      if 0 ≤ b.1 then (I ++ [(0, min a.2 b.2, 2, f)], (I.length, 1, 0)) else (I ++ [(0, a.2, 2, f)], (I.length, 1, 0))
    else if 0 ≤ b.1 then (I ++ [(0, b.2, 2, g)], (I.length, 1, 0)) else ck_full I)
theorem ck_and_ok {ν : Nat → Int} {I : List ck_I} {f g : ck_L} {x y : Int32} (h : ck_gi ν I) (wf : ck_wf I.length f) (wg : ck_wf I.length g) (hx : x.toInt = ck_ev ν f) (hy : y.toInt = ck_ev ν g) : ck_res ν I (ck_and I f g).1 (ck_and I f g).2 (x &&& y).toInt := by
  have rx := ck_rng32 h hx
  have ry := ck_rng32 h hy
  refine ck_two_ok (o := fun x y => x &&& y) h hx hy ?_
  dsimp only
  by_cases ha : 0 ≤ (ck_rng I f).1
  · have hl := ck_andL y (show 0 ≤ x.toInt by omega)
    rw [if_pos ha]
    by_cases hb : 0 ≤ (ck_rng I g).1
    · have hr := ck_andR x (show 0 ≤ y.toInt by omega)
      rw [if_pos hb]
      exact ck_fresh h _ hl.1 (by dsimp only; omega) (fun e => by cases e) (fun _ => ⟨wf, by dsimp only; omega⟩)
    · rw [if_neg hb]
      exact ck_fresh h _ hl.1 (by dsimp only; omega) (fun e => by cases e) (fun _ => ⟨wf, by dsimp only; omega⟩)
  · rw [if_neg ha]
    by_cases hb : 0 ≤ (ck_rng I g).1
    · have hr := ck_andR x (show 0 ≤ y.toInt by omega)
      rw [if_pos hb]
      exact ck_fresh h _ hr.1 (by dsimp only; omega) (fun e => by cases e) (fun _ => ⟨wg, by dsimp only; omega⟩)
    · rw [if_neg hb]
      exact ck_full_ok h _
def ck_pow (a b : Int × Int) : Nat := (max a.2 b.2).toNat.log2 + 1
theorem ck_pow_ok {a b : Int × Int} {x y : Int32} (hx : x.toInt ≤ a.2) (hy : y.toInt ≤ b.2) (h0 : 0 ≤ x.toInt) (h1 : 0 ≤ y.toInt) : x.toBitVec.toNat < 2 ^ ck_pow a b ∧ y.toBitVec.toNat < 2 ^ ck_pow a b := by
  have e := ck_nat h0
  have e2 := ck_nat h1
  have h2 : (max a.2 b.2).toNat < 2 ^ ck_pow a b := Nat.lt_log2_self
  omega
/-- x | y -/
def ck_or (I : List ck_I) (f g : ck_L) : List ck_I × ck_L :=
  ck_two (fun x y => x ||| y) I f g (
    let a := ck_rng I f
    let b := ck_rng I g
    if 0 ≤ a.1 ∧ 0 ≤ b.1 ∧ ck_pow a b ≤ 31 then ck_btw I 0 (2 ^ ck_pow a b - 1) else ck_full I)
theorem ck_small {n k : Nat} (h : n < 2 ^ k) (hk : k ≤ 31) : n ≤ 2147483647 ∧ (n : Int) ≤ 2 ^ k - 1 := by
  have h1 : 2 ^ k ≤ 2 ^ 31 := Nat.pow_le_pow_right (by omega) hk
  have h2 : ((2 ^ k : Nat) : Int) = (2 : Int) ^ k := by simp
  omega
theorem ck_or_ok {ν : Nat → Int} {I : List ck_I} {f g : ck_L} {x y : Int32} (h : ck_gi ν I) (hx : x.toInt = ck_ev ν f) (hy : y.toInt = ck_ev ν g) : ck_res ν I (ck_or I f g).1 (ck_or I f g).2 (x ||| y).toInt := by
  have rx := ck_rng32 h hx
  have ry := ck_rng32 h hy
  refine ck_two_ok (o := fun x y => x ||| y) h hx hy ?_
  dsimp only
  by_cases hc : 0 ≤ (ck_rng I f).1 ∧ 0 ≤ (ck_rng I g).1 ∧ ck_pow (ck_rng I f) (ck_rng I g) ≤ 31
  · rw [if_pos hc]
    obtain ⟨p1, p2⟩ := ck_pow_ok rx.2 ry.2 (by omega) (by omega)
    have h3 : (x ||| y).toBitVec.toNat < 2 ^ ck_pow (ck_rng I f) (ck_rng I g) := by rw [ck_orN]; exact Nat.or_lt_two_pow p1 p2
    obtain ⟨s1, s2⟩ := ck_small h3 hc.2.2
    rw [ck_ofnat s1]
    exact ck_btw_ok h (by omega) s2
  · rw [if_neg hc]
    exact ck_full_ok h _
/-- x ^ y -/
def ck_xor (I : List ck_I) (f g : ck_L) : List ck_I × ck_L :=
  ck_two (fun x y => x ^^^ y) I f g (
    let a := ck_rng I f
    let b := ck_rng I g
    if 0 ≤ a.1 ∧ 0 ≤ b.1 ∧ ck_pow a b ≤ 31 then ck_btw I 0 (2 ^ ck_pow a b - 1) else ck_full I)
theorem ck_xor_ok {ν : Nat → Int} {I : List ck_I} {f g : ck_L} {x y : Int32} (h : ck_gi ν I) (hx : x.toInt = ck_ev ν f) (hy : y.toInt = ck_ev ν g) : ck_res ν I (ck_xor I f g).1 (ck_xor I f g).2 (x ^^^ y).toInt := by
  have rx := ck_rng32 h hx
  have ry := ck_rng32 h hy
  refine ck_two_ok (o := fun x y => x ^^^ y) h hx hy ?_
  dsimp only
  by_cases hc : 0 ≤ (ck_rng I f).1 ∧ 0 ≤ (ck_rng I g).1 ∧ ck_pow (ck_rng I f) (ck_rng I g) ≤ 31
  · rw [if_pos hc]
    obtain ⟨p1, p2⟩ := ck_pow_ok rx.2 ry.2 (by omega) (by omega)
    have h3 : (x ^^^ y).toBitVec.toNat < 2 ^ ck_pow (ck_rng I f) (ck_rng I g) := by rw [ck_xorN]; exact Nat.xor_lt_two_pow p1 p2
    obtain ⟨s1, s2⟩ := ck_small h3 hc.2.2
    rw [ck_ofnat s1]
    exact ck_btw_ok h (by omega) s2
  · rw [if_neg hc]
    exact ck_full_ok h _
theorem ck_sl : ∀ n, n < 32 → ((nI n &&& 31).toBitVec.smod 32).toNat = n := by decide +kernel
theorem ck_su : ∀ n, n < 32 → (((nI n).toUInt32 &&& Int32.toUInt32 31).toBitVec % 32).toNat = n := by decide +kernel
theorem ck_isnI {y : Int32} (h0 : 0 ≤ y.toInt) : y = nI y.toInt.toNat := by
  apply Int32.toInt_inj.mp
  have h2 := ck_i32 y
  rw [nI_toInt (by omega)]
  omega
/-- x << y -/
def ck_shl (I : List ck_I) (f g : ck_L) : List ck_I × ck_L :=
  ck_two (fun x y => x <<< (y &&& 31)) I f g (
    let a := ck_rng I f
    let b := ck_rng I g
    if 0 ≤ b.1 ∧ b.2 ≤ 31 ∧ 0 ≤ a.1 ∧ a.2 * 2 ^ b.2.toNat ≤ 2147483647 then ck_btw I (a.1 * 2 ^ b.1.toNat) (a.2 * 2 ^ b.2.toNat) else ck_full I)
theorem ck_powL {u w : Int} {m n : Nat} (hu : 0 ≤ u) (h : u ≤ w) (hm : m ≤ n) : u * 2 ^ m ≤ w * 2 ^ n := by
  have h1 : (2 : Int) ^ m ≤ 2 ^ n := by
    have h2 : 2 ^ m ≤ 2 ^ n := Nat.pow_le_pow_right (by omega) hm
    have h3 : ((2 ^ m : Nat) : Int) = (2 : Int) ^ m := by simp
    have h4 : ((2 ^ n : Nat) : Int) = (2 : Int) ^ n := by simp
    omega
  have h5 : (0 : Int) ≤ 2 ^ m := Int.pow_nonneg (by omega)
  exact Int.le_trans (Int.mul_le_mul_of_nonneg_left h1 hu) (Int.mul_le_mul_of_nonneg_right h (Int.le_trans h5 h1))
theorem ck_shlI {x y : Int32} (hx : 0 ≤ x.toInt) (hy : 0 ≤ y.toInt) (hy2 : y.toInt ≤ 31) (hs : x.toInt * 2 ^ y.toInt.toNat ≤ 2147483647) : (x <<< (y &&& 31)).toInt = x.toInt * 2 ^ y.toInt.toNat := by
  have ey := ck_isnI hy
  have e := pk_shl x (y &&& 31) y.toInt.toNat (by rw [ey, nI_toInt (by omega)]; exact ck_sl _ (by omega))
  have ex := ck_nat hx
  have h3 : ((x.toBitVec.toNat * 2 ^ y.toInt.toNat : Nat) : Int) = x.toInt * 2 ^ y.toInt.toNat := by rw [ex]; simp
  have h4 : x.toBitVec.toNat * 2 ^ y.toInt.toNat % 2 ^ 32 = x.toBitVec.toNat * 2 ^ y.toInt.toNat := Nat.mod_eq_of_lt (by omega)
  rw [h4] at e
  rw [ck_ofnat (by omega), e, h3]
theorem ck_shl_ok {ν : Nat → Int} {I : List ck_I} {f g : ck_L} {x y : Int32} (h : ck_gi ν I) (hx : x.toInt = ck_ev ν f) (hy : y.toInt = ck_ev ν g) : ck_res ν I (ck_shl I f g).1 (ck_shl I f g).2 (x <<< (y &&& 31)).toInt := by
  have rx := ck_rng32 h hx
  have ry := ck_rng32 h hy
  refine ck_two_ok (o := fun x y => x <<< (y &&& 31)) h hx hy ?_
  dsimp only
  split
  · rename_i hc
    obtain ⟨c1, c2, c3, c4⟩ := hc
    have u1 : x.toInt * 2 ^ y.toInt.toNat ≤ (ck_rng I f).2 * 2 ^ (ck_rng I g).2.toNat := ck_powL (by omega) rx.2 (by omega)
    have u2 : (ck_rng I f).1 * 2 ^ (ck_rng I g).1.toNat ≤ x.toInt * 2 ^ y.toInt.toNat := ck_powL c3 rx.1 (by omega)
    rw [ck_shlI (by omega) (by omega) (by omega) (Int.le_trans u1 c4)]
    exact ck_btw_ok h u2 u1
  · exact ck_full_ok h _
theorem ck_divP {u : Int} {n : Nat} (hu : 0 ≤ u) : 0 ≤ u / 2 ^ n ∧ u / 2 ^ n ≤ u := by
  have h5 : (0 : Int) ≤ 2 ^ n := Int.pow_nonneg (by omega)
  exact ⟨Int.ediv_nonneg hu h5, Int.ediv_le_self _ hu⟩
/-- x >> y -/
def ck_shr (I : List ck_I) (f g : ck_L) : List ck_I × ck_L :=
  ck_two (fun x y => x >>> (y &&& 31)) I f g (
    let a := ck_rng I f
    let b := ck_rng I g
    if 0 ≤ b.1 ∧ b.2 ≤ 31 ∧ 0 ≤ a.1 then (if g.2.1 = 0 then ck_btw I 0 (a.2 / 2 ^ g.2.2.toNat) else ck_btw I 0 a.2) else ck_full I)
theorem ck_shrI {x y : Int32} (hy : 0 ≤ y.toInt) (hy2 : y.toInt ≤ 31) : (x >>> (y &&& 31)).toInt = x.toInt / 2 ^ y.toInt.toNat := by
  have ey := ck_isnI hy
  rw [pk_shr x (y &&& 31) y.toInt.toNat (by rw [ey, nI_toInt (by omega)]; exact ck_sl _ (by omega)), Int.shiftRight_eq_div_pow]
  simp
theorem ck_shr_ok {ν : Nat → Int} {I : List ck_I} {f g : ck_L} {x y : Int32} (h : ck_gi ν I) (hx : x.toInt = ck_ev ν f) (hy : y.toInt = ck_ev ν g) : ck_res ν I (ck_shr I f g).1 (ck_shr I f g).2 (x >>> (y &&& 31)).toInt := by
  have rx := ck_rng32 h hx
  have ry := ck_rng32 h hy
  refine ck_two_ok (o := fun x y => x >>> (y &&& 31)) h hx hy ?_
  dsimp only
  by_cases hc : 0 ≤ (ck_rng I g).1 ∧ (ck_rng I g).2 ≤ 31 ∧ 0 ≤ (ck_rng I f).1
  · rw [if_pos hc, ck_shrI (by omega) (by omega)]
    have h1 := ck_divP (u := x.toInt) (n := y.toInt.toNat) (by omega)
    by_cases h0 : g.2.1 = 0
    · rw [if_pos h0]
      have e2 : y.toInt = g.2.2 := by rw [hy]; unfold ck_ev; rw [h0, Int.zero_mul, Int.zero_add]
      rw [← e2]
      refine ck_btw_ok h h1.1 (Int.ediv_le_ediv ?_ rx.2)
      exact Int.pow_pos (by omega)
    · rw [if_neg h0]
      exact ck_btw_ok h h1.1 (by omega)
  · rw [if_neg hc]
    exact ck_full_ok h _
/-- x >>> y -/
def ck_ushr (I : List ck_I) (f g : ck_L) : List ck_I × ck_L :=
  ck_two (fun x y => (x.toUInt32 >>> (y.toUInt32 &&& Int32.toUInt32 31)).toInt32) I f g (
    let a := ck_rng I f
    let b := ck_rng I g
    if 0 ≤ b.1 ∧ b.2 ≤ 31 ∧ 0 ≤ a.1 then ck_btw I 0 a.2 else ck_full I)
theorem ck_ushr_ok {ν : Nat → Int} {I : List ck_I} {f g : ck_L} {x y : Int32} (h : ck_gi ν I) (hx : x.toInt = ck_ev ν f) (hy : y.toInt = ck_ev ν g) : ck_res ν I (ck_ushr I f g).1 (ck_ushr I f g).2 (x.toUInt32 >>> (y.toUInt32 &&& Int32.toUInt32 31)).toInt32.toInt := by
  have rx := ck_rng32 h hx
  have ry := ck_rng32 h hy
  refine ck_two_ok (o := fun x y => (x.toUInt32 >>> (y.toUInt32 &&& Int32.toUInt32 31)).toInt32) h hx hy ?_
  dsimp only
  by_cases hc : 0 ≤ (ck_rng I g).1 ∧ (ck_rng I g).2 ≤ 31 ∧ 0 ≤ (ck_rng I f).1
  · rw [if_pos hc]
    have ey := ck_isnI (y := y) (by omega)
    have e := pk_ushr x y y.toInt.toNat (by rw [ey, nI_toInt (by omega)]; exact ck_su _ (by omega))
    have ex := ck_nat (x := x) (by omega)
    have h2 := ck_i32 x
    have h3 := Nat.div_le_self x.toBitVec.toNat (2 ^ y.toInt.toNat)
    rw [ck_ofnat (by omega), e]
    exact ck_btw_ok h (by omega) (by omega)
  · rw [if_neg hc]
    exact ck_full_ok h _
/-! what a comparison tells -/
def ck_cutHi (I : List ck_I) (s : Nat) (c : Int) : Option (List ck_I) :=
  match I[s]? with
  | none => some I
  | some q => if q.1 ≤ min q.2.1 c then some (I.set s (q.1, min q.2.1 c, q.2.2)) else none
def ck_cutLo (I : List ck_I) (s : Nat) (c : Int) : Option (List ck_I) :=
  match I[s]? with
  | none => some I
  | some q => if max q.1 c ≤ q.2.1 then some (I.set s (max q.1 c, q.2.1, q.2.2)) else none
theorem ck_gi_set {ν : Nat → Int} {I : List ck_I} {s : Nat} {q : ck_I} {lo hi : Int} (h : ck_gi ν I) (hq : I[s]? = some q) (h1 : lo ≤ ν s) (h2 : ν s ≤ hi) : ck_gi ν (I.set s (lo, hi, q.2.2)) := by
  intro j r hr
  rw [List.length_set]
  by_cases hj : s = j
  · subst hj
    obtain ⟨a1, a2, a3, a4⟩ := h _ _ hq
    have hs : s < I.length := (List.getElem?_eq_some_iff.mp hq).1
    rw [List.getElem?_set_self hs] at hr
    cases hr
    exact ⟨h1, h2, a3, a4⟩
  · rw [List.getElem?_set_ne hj] at hr
    exact h j r hr
theorem ck_cutHi_ok {ν : Nat → Int} {I : List ck_I} {s : Nat} {c : Int} (h : ck_gi ν I) (hc : ν s ≤ c) : ∃ I', ck_cutHi I s c = some I' ∧ ck_gi ν I' ∧ I'.length = I.length := by
  unfold ck_cutHi
  cases hq : I[s]? with
  | none => exact ⟨I, rfl, h, rfl⟩
  | some q =>
    obtain ⟨a1, a2, -, -⟩ := h _ _ hq
    dsimp only
    rw [if_pos (by omega)]
    exact ⟨_, rfl, ck_gi_set h hq a1 (by omega), List.length_set⟩
theorem ck_cutLo_ok {ν : Nat → Int} {I : List ck_I} {s : Nat} {c : Int} (h : ck_gi ν I) (hc : c ≤ ν s) : ∃ I', ck_cutLo I s c = some I' ∧ ck_gi ν I' ∧ I'.length = I.length := by
  unfold ck_cutLo
  cases hq : I[s]? with
  | none => exact ⟨I, rfl, h, rfl⟩
  | some q =>
    obtain ⟨a1, a2, -, -⟩ := h _ _ hq
    dsimp only
    rw [if_pos (by omega)]
    exact ⟨_, rfl, ck_gi_set h hq (by omega) a2, List.length_set⟩
/-- the form is at most c -/
def ck_le (I : List ck_I) (f : ck_L) (c : Int) : Option (List ck_I) :=
  if f.2.1 = 0 then (if f.2.2 ≤ c then some I else none)
  else if 0 < f.2.1 then ck_cutHi I f.1 ((c - f.2.2) / f.2.1)
  else ck_cutLo I f.1 (-((c - f.2.2) / (-f.2.1)))
theorem ck_le_ok {ν : Nat → Int} {I : List ck_I} {f : ck_L} {c : Int} (h : ck_gi ν I) (hc : ck_ev ν f ≤ c) : ∃ I', ck_le I f c = some I' ∧ ck_gi ν I' ∧ I'.length = I.length := by
  unfold ck_ev at hc
  unfold ck_le
  by_cases h0 : f.2.1 = 0
  · rw [if_pos h0, if_pos (by rw [h0, Int.zero_mul] at hc; omega)]
    exact ⟨I, rfl, h, rfl⟩
  · rw [if_neg h0]
    by_cases hp : 0 < f.2.1
    · rw [if_pos hp]
      refine ck_cutHi_ok h (Int.le_ediv_of_mul_le hp ?_)
      rw [Int.mul_comm]; omega
    · rw [if_neg hp]
      refine ck_cutLo_ok h ?_
      have h1 : -ν f.1 ≤ (c - f.2.2) / (-f.2.1) := by
        refine Int.le_ediv_of_mul_le (by omega) ?_
        rw [Int.neg_mul_neg, Int.mul_comm]; omega
      omega
def ck_ge (I : List ck_I) (f : ck_L) (c : Int) : Option (List ck_I) := ck_le I (f.1, -f.2.1, -f.2.2) (-c)
theorem ck_ge_ok {ν : Nat → Int} {I : List ck_I} {f : ck_L} {c : Int} (h : ck_gi ν I) (hc : c ≤ ck_ev ν f) : ∃ I', ck_ge I f c = some I' ∧ ck_gi ν I' ∧ I'.length = I.length := by
  refine ck_le_ok h ?_
  unfold ck_ev at hc ⊢
  dsimp only
  rw [Int.neg_mul]; omega
/-- x < y -/
def ck_lt2 (I : List ck_I) (f g : ck_L) : Option (List ck_I) := (ck_le I f ((ck_rng I g).2 - 1)).bind fun J => ck_ge J g ((ck_rng I f).1 + 1)
/-- x ≤ y -/
def ck_le2 (I : List ck_I) (f g : ck_L) : Option (List ck_I) := (ck_le I f (ck_rng I g).2).bind fun J => ck_ge J g (ck_rng I f).1
/-- x = y -/
def ck_eq2 (I : List ck_I) (f g : ck_L) : Option (List ck_I) := (ck_le2 I f g).bind fun J => ck_le2 J g f
/-- x ≠ y -/
def ck_ne2 (I : List ck_I) (f g : ck_L) : Option (List ck_I) :=
  let a := ck_rng I f
  let b := ck_rng I g
  if b.1 = b.2 then (if a.1 = b.1 then ck_ge I f (b.1 + 1) else if a.2 = b.1 then ck_le I f (b.1 - 1) else some I)
  else if a.1 = a.2 then (if b.1 = a.1 then ck_ge I g (a.1 + 1) else if b.2 = a.1 then ck_le I g (a.1 - 1) else some I)
  else some I
theorem ck_lt2_ok {ν : Nat → Int} {I : List ck_I} {f g : ck_L} {x y : Int32} (h : ck_gi ν I) (hx : x.toInt = ck_ev ν f) (hy : y.toInt = ck_ev ν g) (hc : x.toInt < y.toInt) : ∃ I', ck_lt2 I f g = some I' ∧ ck_gi ν I' ∧ I'.length = I.length := by
  have rx := ck_rng32 h hx
  have ry := ck_rng32 h hy
  obtain ⟨J, e1, h1, l1⟩ := ck_le_ok (f := f) (c := (ck_rng I g).2 - 1) h (by omega)
  obtain ⟨K, e2, h2, l2⟩ := ck_ge_ok (f := g) (c := (ck_rng I f).1 + 1) h1 (by omega)
  exact ⟨K, by unfold ck_lt2; rw [e1]; exact e2, h2, l2.trans l1⟩
theorem ck_le2_ok {ν : Nat → Int} {I : List ck_I} {f g : ck_L} {x y : Int32} (h : ck_gi ν I) (hx : x.toInt = ck_ev ν f) (hy : y.toInt = ck_ev ν g) (hc : x.toInt ≤ y.toInt) : ∃ I', ck_le2 I f g = some I' ∧ ck_gi ν I' ∧ I'.length = I.length := by
  have rx := ck_rng32 h hx
  have ry := ck_rng32 h hy
  obtain ⟨J, e1, h1, l1⟩ := ck_le_ok (f := f) (c := (ck_rng I g).2) h (by omega)
  obtain ⟨K, e2, h2, l2⟩ := ck_ge_ok (f := g) (c := (ck_rng I f).1) h1 (by omega)
  exact ⟨K, by unfold ck_le2; rw [e1]; exact e2, h2, l2.trans l1⟩
theorem ck_eq2_ok {ν : Nat → Int} {I : List ck_I} {f g : ck_L} {x y : Int32} (h : ck_gi ν I) (hx : x.toInt = ck_ev ν f) (hy : y.toInt = ck_ev ν g) (hc : x.toInt = y.toInt) : ∃ I', ck_eq2 I f g = some I' ∧ ck_gi ν I' ∧ I'.length = I.length := by
  obtain ⟨J, e1, h1, l1⟩ := ck_le2_ok h hx hy (by omega)
  obtain ⟨K, e2, h2, l2⟩ := ck_le2_ok h1 hy hx (by omega)
  exact ⟨K, by unfold ck_eq2; rw [e1]; exact e2, h2, l2.trans l1⟩
theorem ck_ne2_ok {ν : Nat → Int} {I : List ck_I} {f g : ck_L} {x y : Int32} (h : ck_gi ν I) (hx : x.toInt = ck_ev ν f) (hy : y.toInt = ck_ev ν g) (hc : x.toInt ≠ y.toInt) : ∃ I', ck_ne2 I f g = some I' ∧ ck_gi ν I' ∧ I'.length = I.length := by
  have rx := ck_rng32 h hx
  have ry := ck_rng32 h hy
  unfold ck_ne2
  dsimp only
  split
  · split
    · exact ck_ge_ok h (by omega)
    · split
      · exact ck_le_ok h (by omega)
      · exact ⟨I, rfl, h, rfl⟩
  · split
    · split
      · exact ck_ge_ok h (by omega)
      · split
        · exact ck_le_ok h (by omega)
        · exact ⟨I, rfl, h, rfl⟩
    · exact ⟨I, rfl, h, rfl⟩
end
section
/-! THE TABLE RUN, 1: what is known at a place of the code, and what that says of the machine's cells -/
abbrev ck_F : Type := (Int × Int) ⊕ (Nat × Nat)
abbrev ck_V : Type := ck_L ⊕ (Nat × Nat)
abbrev ck_D : Type := List ((Nat × Nat) × ck_F)
/-- symbols; numbered places of the frame; operand stack; slots; cells of the world, new cells, new slots so far -/
abbrev ck_S : Type := List ck_I × List (Nat × ck_V) × List ck_V × ck_D × Nat × Nat × Nat
/-- an object: its number in the list, how many fields; a row: its type, how long -/
abbrev ck_Sh : Type := (Nat × Nat) ⊕ (FieldType × Nat)
abbrev ck_Cn : Type := (Nat → Int32) ⊕ (Nat → Int64) ⊕ (Nat → UInt32) ⊕ (Nat → UInt64) ⊕ (Nat → Option Nat)
def ck_elem (c : ck_Cn) (q : Nat) : Value := match c with
  | .inl f => .int (f q)
  | .inr (.inl f) => .long (f q)
  | .inr (.inr (.inl f)) => .float (f q)
  | .inr (.inr (.inr (.inl f))) => .double (f q)
  | .inr (.inr (.inr (.inr f))) => va_rf (f q)
/-- v stands in slot j: of an object field k is slot k + 1; of a row 0 is any place, k + 1 the place k -/
def ck_slot (e : va_E) (j : Nat) (v : Value) : Prop := match e, j with
  | .inl x, 0 => ∃ q, q < x.2.1 ∧ v = ck_elem x.2.2 q
  | .inl x, k + 1 => k < x.2.1 ∧ v = ck_elem x.2.2 k
  | .inr _, 0 => False
  | .inr x, k + 1 => x.2[k]? = some v
/-- a value of a kind: a number between; 0 the cell i; 1 null; 2 the literal i; else anything -/
def ck_fv (st : Nat → Nat) (ws : va_W) (F : ck_F) (v : Value) : Prop := match F with
  | .inl z => ∃ x : Int32, v = .int x ∧ z.1 ≤ x.toInt ∧ x.toInt ≤ z.2
  | .inr (0, i) => ∃ q, ws[i]? = some q ∧ v = .ref q.1
  | .inr (1, _) => v = .null
  | .inr (2, i) => v = .ref (st i)
  | .inr (_, _) => True
def ck_gv (ν : Nat → Int) (st : Nat → Nat) (ws : va_W) (n : Nat) (V : ck_V) (v : Value) : Prop := match V with
  | .inl f => ck_wf n f ∧ ∃ x : Int32, v = .int x ∧ x.toInt = ck_ev ν f
  | .inr k => ck_fv st ws (.inr k) v
/-- the world goes on: the same addresses, perhaps more of them -/
def ck_on (ws ws' : va_W) : Prop := ∀ (i : Nat) (q : Nat × va_E), ws[i]? = some q → ∃ e, ws'[i]? = some (q.1, e)
theorem ck_on.rf {ws : va_W} : ck_on ws ws := fun i q h => ⟨q.2, h⟩
theorem ck_on.trans {a b c : va_W} (h1 : ck_on a b) (h2 : ck_on b c) : ck_on a c := fun i q h => by
  obtain ⟨e, h3⟩ := h1 i q h
  obtain ⟨e2, h4⟩ := h2 i _ h3
  exact ⟨e2, h4⟩
theorem ck_on.set {ws : va_W} {i : Nat} {a : Nat} {e e' : va_E} (h : ws[i]? = some (a, e)) : ck_on ws (ws.set i (a, e')) := fun j q hq => by
  by_cases hj : i = j
  · subst hj
    have hi : i < ws.length := (List.getElem?_eq_some_iff.mp h).1
    rw [List.getElem?_set_self hi]
    have e1 : q = (a, e) := Option.some.inj (hq.symm.trans h)
    exact ⟨e', by rw [e1]⟩
  · rw [List.getElem?_set_ne hj]
    exact ⟨q.2, hq⟩
theorem ck_on.push {ws : va_W} (x : Nat × va_E) : ck_on ws (ws ++ [x]) := fun j q hq => by
  have hj : j < ws.length := (List.getElem?_eq_some_iff.mp hq).1
  rw [List.getElem?_append_left hj]
  exact ⟨q.2, hq⟩
theorem ck_fv.on {st : Nat → Nat} {ws ws' : va_W} {F : ck_F} {v : Value} (h : ck_on ws ws') (hv : ck_fv st ws F v) : ck_fv st ws' F v := by
  rcases F with z | ⟨t, i⟩
  · exact hv
  · match t, hv with
    | 0, hv =>
      obtain ⟨q, h1, h2⟩ := hv
      obtain ⟨e, h3⟩ := h i q h1
      exact ⟨(q.1, e), h3, h2⟩
    | 1, hv => exact hv
    | 2, hv => exact hv
    | _ + 3, _ => trivial
theorem ck_gv.on {ν ν' : Nat → Int} {st : Nat → Nat} {ws ws' : va_W} {n n' : Nat} {V : ck_V} {v : Value} (h : ck_on ws ws') (hn : n ≤ n') (hν : ∀ j, j < n → ν' j = ν j) (hv : ck_gv ν st ws n V v) : ck_gv ν' st ws' n' V v := by
  cases V with
  | inl f =>
    obtain ⟨w, x, h1, h2⟩ := hv
    exact ⟨w.mono hn, x, h1, by rw [ck_ev_congr w hν]; exact h2⟩
  | inr k => exact ck_fv.on h hv
def ck_gs (ν : Nat → Int) (st : Nat → Nat) (ws : va_W) (n : Nat) : List ck_V → List Value → Prop
  | [], [] => True
  | V :: S, v :: vs => ck_gv ν st ws n V v ∧ ck_gs ν st ws n S vs
  | _, _ => False
theorem ck_gs.on {ν ν' : Nat → Int} {st : Nat → Nat} {ws ws' : va_W} {n n' : Nat} (h : ck_on ws ws') (hn : n ≤ n') (hν : ∀ j, j < n → ν' j = ν j) : ∀ {S : List ck_V} {vs : List Value}, ck_gs ν st ws n S vs → ck_gs ν' st ws' n' S vs
  | [], [], _ => trivial
  | _ :: _, _ :: _, hs => ⟨hs.1.on h hn hν, ck_gs.on h hn hν hs.2⟩
  | [], _ :: _, hs => hs.elim
  | _ :: _, [], hs => hs.elim
def ck_gl (ν : Nat → Int) (st : Nat → Nat) (ws : va_W) (n nL : Nat) (L : List (Nat × ck_V)) (ls : Array Slot) : Prop := ∃ lv : List (Nat × Value), lv_has ls nL lv ∧ ∀ q ∈ L, ∃ v, (q.1, v) ∈ lv ∧ ck_gv ν st ws n q.2 v
theorem ck_gl.on {ν ν' : Nat → Int} {st : Nat → Nat} {ws ws' : va_W} {n n' nL : Nat} {L : List (Nat × ck_V)} {ls : Array Slot} (h : ck_on ws ws') (hn : n ≤ n') (hν : ∀ j, j < n → ν' j = ν j) (hl : ck_gl ν st ws n nL L ls) : ck_gl ν' st ws' n' nL L ls := by
  obtain ⟨lv, h1, h2⟩ := hl
  refine ⟨lv, h1, fun q hq => ?_⟩
  obtain ⟨v, h3, h4⟩ := h2 q hq
  exact ⟨v, h3, h4.on h hn hν⟩
/-- of which place: the value's form -/
def ck_get (L : List (Nat × ck_V)) (j : Nat) : Option ck_V := (L.find? (fun q => q.1 == j)).map Prod.snd
theorem ck_get_mem {L : List (Nat × ck_V)} {j : Nat} {V : ck_V} (h : ck_get L j = some V) : (j, V) ∈ L := by
  unfold ck_get at h
  cases hq : L.find? (fun q => q.1 == j) with
  | none => rw [hq] at h; cases h
  | some q =>
    rw [hq] at h
    have h1 := List.mem_of_find?_eq_some hq
    have h2 := List.find?_some hq
    have e : q = (j, V) := by
      have h3 : q.1 = j := by simpa using h2
      have h4 : q.2 = V := Option.some.inj h
      rw [← h3, ← h4]
    rw [← e]; exact h1
theorem ck_gl.get {ν : Nat → Int} {st : Nat → Nat} {ws : va_W} {n nL : Nat} {L : List (Nat × ck_V)} {ls : Array Slot} {j : Nat} {V : ck_V} (hl : ck_gl ν st ws n nL L ls) (h : ck_get L j = some V) : ∃ v, ls[j]? = some (.val v) ∧ ck_gv ν st ws n V v := by
  obtain ⟨lv, h1, h2⟩ := hl
  obtain ⟨v, h3, h4⟩ := h2 _ (ck_get_mem h)
  exact ⟨v, h1.2.2 _ h3, h4⟩
/-- values of one word -/
def ck_one (V : ck_V) : Bool := match V with
  | .inl _ => true
  | .inr (0, _) => true
  | .inr (1, _) => true
  | .inr (2, _) => true
  | .inr (_, _) => false
theorem ck_one_cat {ν : Nat → Int} {st : Nat → Nat} {ws : va_W} {n : Nat} {V : ck_V} {v : Value} (h1 : ck_one V = true) (h : ck_gv ν st ws n V v) : v.category = 1 := by
  rcases V with f | ⟨t, i⟩
  · obtain ⟨-, x, rfl, -⟩ := h; rfl
  · match t, h1, h with
    | 0, _, h => obtain ⟨q, -, rfl⟩ := h; rfl
    | 1, _, h =>
      have e : v = .null := h
      rw [e]; rfl
    | 2, _, h =>
      have e : v = .ref (st i) := h
      rw [e]; rfl
    | _ + 3, h1, _ => cases h1
def ck_put (L : List (Nat × ck_V)) (j : Nat) (V : ck_V) : List (Nat × ck_V) := (j, V) :: L.filter (fun q => !(q.1 == j) && ck_one q.2)
theorem ck_gl.put {ν : Nat → Int} {st : Nat → Nat} {ws : va_W} {n nL : Nat} {L : List (Nat × ck_V)} {lv : List (Nat × Value)} {ls' : Array Slot} {j : Nat} {V : ck_V} {v : Value} (h2 : ∀ q ∈ L, ∃ v, (q.1, v) ∈ lv ∧ ck_gv ν st ws n q.2 v) (hv : ck_gv ν st ws n V v) (h : lv_has ls' nL ((j, v) :: lv.filter (fun q => !(q.1 == j) && !(q.1 + 1 == j && q.2.category == 2)))) : ck_gl ν st ws n nL (ck_put L j V) ls' := by
  refine ⟨_, h, fun q hq => ?_⟩
  rcases List.mem_cons.mp hq with e | hq
  · subst e
    exact ⟨v, List.mem_cons_self, hv⟩
  · obtain ⟨h3, h4⟩ := List.mem_filter.mp hq
    simp only [Bool.and_eq_true, Bool.not_eq_true'] at h4
    obtain ⟨w, h5, h6⟩ := h2 q h3
    refine ⟨w, List.mem_cons_of_mem _ (List.mem_filter.mpr ⟨h5, ?_⟩), h6⟩
    have hc := ck_one_cat h4.2 h6
    simp only [h4.1, hc]
    simp
/-! slots -/
def ck_gd (st : Nat → Nat) (ws : va_W) (X : ck_D) : Prop := ∀ x ∈ X, ∃ q, ws[x.1.1]? = some q ∧ ∀ v, ck_slot q.2 x.1.2 v → ck_fv st ws x.2 v
def ck_look (X : ck_D) (i j : Nat) : Option ck_F := (X.find? (fun x => x.1.1 == i && x.1.2 == j)).map Prod.snd
theorem ck_look_mem {X : ck_D} {i j : Nat} {F : ck_F} (h : ck_look X i j = some F) : ((i, j), F) ∈ X := by
  unfold ck_look at h
  cases hq : X.find? (fun x => x.1.1 == i && x.1.2 == j) with
  | none => rw [hq] at h; cases h
  | some q =>
    rw [hq] at h
    have h1 := List.mem_of_find?_eq_some hq
    have h2 := List.find?_some hq
    have e : q = ((i, j), F) := by
      simp only [Bool.and_eq_true, beq_iff_eq] at h2
      have h4 : q.2 = F := Option.some.inj h
      obtain ⟨⟨a, b⟩, c⟩ := q
      simp only at h2 h4
      rw [h2.1, h2.2, h4]
    rw [← e]; exact h1
/-- what the cells are: their shapes -/
def ck_cnt (ty : FieldType) (c : ck_Cn) : Prop := match ty, c with
  | .int, .inl _ => True
  | .boolean, .inl _ => True
  | .byte, .inl _ => True
  | .long, .inr (.inl _) => True
  | .object _, .inr (.inr (.inr (.inr _))) => True
  | _, _ => False
def ck_fit (tys : List (ClassId × FieldType)) (S : ck_Sh) (e : va_E) : Prop := match S, e with
  | .inl o, .inr x => x.1 = o.1 ∧ x.2.length = o.2
  | .inr r, .inl x => x.2.1 = r.2 ∧ (∃ t : Nat, tys[t]? = some (x.1, r.1)) ∧ ck_cnt r.1 x.2.2
  | _, _ => False
def ck_w (sh : List ck_Sh) (tys : List (ClassId × FieldType)) (ws : va_W) (nc : Nat) : Prop := ws.length = nc ∧ ∀ (i : Nat) (q : Nat × va_E), ws[i]? = some q → ∃ S, sh[i]? = some S ∧ ck_fit tys S q.2
theorem ck_fit.more {tys tys' : List (ClassId × FieldType)} {S : ck_Sh} {e : va_E} (h : ∀ (t : Nat) (x : ClassId × FieldType), tys[t]? = some x → ∃ t' : Nat, tys'[t']? = some x) (hf : ck_fit tys S e) : ck_fit tys' S e := by
  rcases S with o | r <;> rcases e with x | x
  · exact hf.elim
  · exact hf
  · obtain ⟨h1, ⟨t, h2⟩, h3⟩ := hf
    exact ⟨h1, h t _ h2, h3⟩
  · exact hf.elim
theorem ck_w.set {sh : List ck_Sh} {tys : List (ClassId × FieldType)} {ws : va_W} {nc i a : Nat} {e e' : va_E} (h : ck_w sh tys ws nc) (hi : ws[i]? = some (a, e)) (hf : ∀ S, ck_fit tys S e → ck_fit tys S e') : ck_w sh tys (ws.set i (a, e')) nc := by
  refine ⟨by rw [List.length_set]; exact h.1, fun j q hq => ?_⟩
  by_cases hj : i = j
  · subst hj
    have hl : i < ws.length := (List.getElem?_eq_some_iff.mp hi).1
    rw [List.getElem?_set_self hl] at hq
    cases hq
    obtain ⟨S, h1, h2⟩ := h.2 i _ hi
    exact ⟨S, h1, hf S h2⟩
  · rw [List.getElem?_set_ne hj] at hq
    exact h.2 j q hq
/-- the slots that are not in wr hold nothing that they didn't hold -/
def ck_fr (wr : List (Nat × Nat)) (ws0 ws : va_W) : Prop := ∀ (i : Nat) (q : Nat × va_E), ws0[i]? = some q → ∃ e, ws[i]? = some (q.1, e) ∧ ∀ j, (i, j) ∉ wr → (i, 0) ∉ wr → ∀ v, ck_slot e j v → ck_slot q.2 j v
theorem ck_fr.on {wr : List (Nat × Nat)} {ws0 ws : va_W} (h : ck_fr wr ws0 ws) : ck_on ws0 ws := fun i q hq => by
  obtain ⟨e, h1, -⟩ := h i q hq
  exact ⟨e, h1⟩
theorem ck_fr.rf {wr : List (Nat × Nat)} {ws : va_W} : ck_fr wr ws ws := fun i q h => ⟨q.2, h, fun _ _ _ _ hv => hv⟩
theorem ck_fr.trans {wr : List (Nat × Nat)} {a b c : va_W} (h1 : ck_fr wr a b) (h2 : ck_fr wr b c) : ck_fr wr a c := fun i q h => by
  obtain ⟨e, h3, h4⟩ := h1 i q h
  obtain ⟨e2, h5, h6⟩ := h2 i _ h3
  exact ⟨e2, h5, fun j hj h0 v hv => h4 j hj h0 v (h6 j hj h0 v hv)⟩
theorem ck_fr.wide {wr wr' : List (Nat × Nat)} {a b : va_W} (h : ck_fr wr a b) (hw : ∀ x ∈ wr, x ∈ wr') : ck_fr wr' a b := fun i q hq => by
  obtain ⟨e, h3, h4⟩ := h i q hq
  exact ⟨e, h3, fun j hj h0 v hv => h4 j (fun z => hj (hw _ z)) (fun z => h0 (hw _ z)) v hv⟩
theorem ck_fr.push {wr : List (Nat × Nat)} {ws : va_W} (x : Nat × va_E) : ck_fr wr ws (ws ++ [x]) := fun j q hq => by
  have hj : j < ws.length := (List.getElem?_eq_some_iff.mp hq).1
  rw [List.getElem?_append_left hj]
  exact ⟨q.2, hq, fun _ _ _ _ hv => hv⟩
theorem ck_fr.set {wr : List (Nat × Nat)} {ws : va_W} {i a : Nat} {e e' : va_E} (h : ws[i]? = some (a, e)) (hs : ∀ j, (i, j) ∉ wr → (i, 0) ∉ wr → ∀ v, ck_slot e' j v → ck_slot e j v) : ck_fr wr ws (ws.set i (a, e')) := fun j q hq => by
  by_cases hj : i = j
  · subst hj
    have hi : i < ws.length := (List.getElem?_eq_some_iff.mp h).1
    rw [List.getElem?_set_self hi]
    have e1 : q = (a, e) := Option.some.inj (hq.symm.trans h)
    subst e1
    exact ⟨e', rfl, hs⟩
  · rw [List.getElem?_set_ne hj]
    exact ⟨q.2, hq, fun _ _ _ _ hv => hv⟩
/-- what is known of slots outlives a change of others -/
theorem ck_gd.fr {st : Nat → Nat} {wr : List (Nat × Nat)} {ws ws' : va_W} {X : ck_D} (h : ck_fr wr ws ws') (hX : ck_gd st ws X) : ck_gd st ws' (X.filter (fun x => !(wr.contains x.1) && !(wr.contains (x.1.1, 0)))) := fun x hx => by
  obtain ⟨h1, h2⟩ := List.mem_filter.mp hx
  have hn : x.1 ∉ wr ∧ (x.1.1, 0) ∉ wr := by simpa using h2
  obtain ⟨q, hq, hv⟩ := hX x h1
  obtain ⟨e, h3, h4⟩ := h x.1.1 q hq
  exact ⟨(q.1, e), h3, fun v hs => (hv v (h4 x.1.2 hn.1 hn.2 v hs)).on h.on⟩
theorem ck_gd.sub {st : Nat → Nat} {ws : va_W} {X Y : ck_D} (h : ∀ x ∈ Y, x ∈ X) (hX : ck_gd st ws X) : ck_gd st ws Y := fun x hx => hX x (h x hx)
theorem ck_gd.app {st : Nat → Nat} {ws : va_W} {X Y : ck_D} (hX : ck_gd st ws X) (hY : ck_gd st ws Y) : ck_gd st ws (X ++ Y) := fun x hx => (List.mem_append.mp hx).elim (hX x) (hY x)
theorem ck_gd.push {st : Nat → Nat} {ws : va_W} {X : ck_D} (y : Nat × va_E) (hX : ck_gd st ws X) : ck_gd st (ws ++ [y]) X := fun x hx => by
  obtain ⟨q, hq, hv⟩ := hX x hx
  obtain ⟨e, h3, h4⟩ := ck_fr.push (wr := []) y x.1.1 q hq
  exact ⟨(q.1, e), h3, fun v hs => (hv v (h4 x.1.2 (by simp) (by simp) v hs)).on (ck_on.push y)⟩
end
section
/-! THE TABLE RUN, 2: steps that leave the cells as they are -/
section CKA
variable {p : Program} {l : Launch} {e : Env} {R : Room} {s : State} {m : MethodId} {args : Array Value} {below : List Frame} {meth : Method} {c : Code} {Q : State → Prop}
variable {cc : ByteArray} {D : va_G} {cl : List vw_C} {st : Nat → Nat} {sh : List ck_Sh} {A : Nat → Prop} {nL : Nat} {wr : List (Nat × Nat)} {ws0 : va_W}
/-- the machine is as the table says -/
def ck_G (D : va_G) (cl : List vw_C) (st : Nat → Nat) (sh : List ck_Sh) (A : Nat → Prop) (s : State) (nL : Nat) (wr : List (Nat × Nat)) (ws0 : va_W) (I : List ck_I) (L : List (Nat × ck_V)) (S : List ck_V) (X : ck_D) (nc : Nat) (ν : Nat → Int) (ws : va_W) (tys : List (ClassId × FieldType)) (H : Heap) (locs : List Loc) (ls : Array Slot) (vs : List Value) : Prop :=
  ck_gi ν I ∧ ck_gl ν st ws I.length nL L ls ∧ ck_gs ν st ws I.length S vs ∧ ck_gd st ws X ∧ ck_w sh tys ws nc ∧ va_K D cl tys s ∧ va_P D cl ws H ∧ va_D A ws ∧ va_S A s.heap H locs ∧ ck_fr wr ws0 ws
/-- from the place x on all goes well, whatever the old symbols I grew to -/
def ck_N (p : Program) (l : Launch) (e : Env) (R : Room) (s : State) (m : MethodId) (args : Array Value) (below : List Frame) (meth : Method) (c : Code) (Q : State → Prop) (D : va_G) (cl : List vw_C) (st : Nat → Nat) (sh : List ck_Sh) (A : Nat → Prop) (nL : Nat) (wr : List (Nat × Nat)) (ws0 : va_W) (n : Nat) (ν : Nat → Int) (x : Nat × ck_S) : Prop :=
  ∀ (ν' : Nat → Int) (ws' : va_W) (tys' : List (ClassId × FieldType)) (H' : Heap) (locs' : List Loc) (ls' : Array Slot) (vs' : List Value), (∀ j, j < n → ν' j = ν j) → ck_G D cl st sh A s nL wr ws0 x.2.1 x.2.2.1 x.2.2.2.1 x.2.2.2.2.1 x.2.2.2.2.2.1 ν' ws' tys' H' locs' ls' vs' → W p l e R s m args below meth c H' locs' x.2.2.2.2.2.2.1 x.2.2.2.2.2.2.2 Q (F0 m x.1 ls' vs')
variable {I I' : List ck_I} {L : List (Nat × ck_V)} {S S' : List ck_V} {X : ck_D} {nc mc ms n : Nat} {ν ν' : Nat → Int} {ws : va_W} {tys : List (ClassId × FieldType)} {H : Heap} {locs : List Loc} {ls : Array Slot} {vs vs' : List Value} {pc : Nat}
theorem ck_G.grow (h : ck_G D cl st sh A s nL wr ws0 I L S X nc ν ws tys H locs ls vs) (hν : ∀ j, j < I.length → ν' j = ν j) (hn : I.length ≤ I'.length) (hi : ck_gi ν' I') : ck_G D cl st sh A s nL wr ws0 I' L S X nc ν' ws tys H locs ls vs := by
  obtain ⟨h1, h2, h3, h4⟩ := h
  exact ⟨hi, h2.on ck_on.rf hn hν, h3.on ck_on.rf hn hν, h4⟩
theorem ck_G.stk (h : ck_G D cl st sh A s nL wr ws0 I L S X nc ν ws tys H locs ls vs) (hs : ck_gs ν st ws I.length S' vs') : ck_G D cl st sh A s nL wr ws0 I L S' X nc ν ws tys H locs ls vs' := by
  obtain ⟨h1, h2, h3, h4⟩ := h
  exact ⟨h1, h2, hs, h4⟩
theorem ck_G.gs (h : ck_G D cl st sh A s nL wr ws0 I L S X nc ν ws tys H locs ls vs) : ck_gs ν st ws I.length S vs := h.2.2.1
theorem ck_G.gi (h : ck_G D cl st sh A s nL wr ws0 I L S X nc ν ws tys H locs ls vs) : ck_gi ν I := h.1
theorem ck_G.cut (h : ck_G D cl st sh A s nL wr ws0 I L S X nc ν ws tys H locs ls vs) (hn : I'.length = I.length) (hi : ck_gi ν I') : ck_G D cl st sh A s nL wr ws0 I' L S X nc ν ws tys H locs ls vs := h.grow (fun _ _ => rfl) (by omega) hi
theorem ck_gs.pop {V : ck_V} (h : ck_gs ν st ws n (V :: S) vs) : ∃ v vs', vs = v :: vs' ∧ ck_gv ν st ws n V v ∧ ck_gs ν st ws n S vs' := by
  cases vs with
  | nil => exact h.elim
  | cons v vs' => exact ⟨v, vs', rfl, h.1, h.2⟩
/-- a number that an operation gave goes on the stack -/
theorem ck_pushv {f : ck_L} {x : Int32} (hG : ck_G D cl st sh A s nL wr ws0 I L S X nc ν ws tys H locs ls vs) (hn : n ≤ I.length) (hr : ck_res ν I I' f x.toInt) (K : ck_N p l e R s m args below meth c Q D cl st sh A nL wr ws0 n ν (pc, (I', L, .inl f :: S, X, nc, mc, ms))) : W p l e R s m args below meth c H locs mc ms Q (F0 m pc ls (.int x :: vs)) := by
  obtain ⟨ν', h1, h2, h3, h4, h5⟩ := hr
  have hG' := hG.grow h1 h2 h3
  exact K ν' ws tys H locs ls _ (fun j hj => h1 j (by omega)) (hG'.stk ⟨⟨h4, x, rfl, h5.symm⟩, hG'.gs⟩)
/-- a value whose form is there goes on the stack -/
theorem ck_pushV {V : ck_V} {v : Value} (hG : ck_G D cl st sh A s nL wr ws0 I L S X nc ν ws tys H locs ls vs) (hv : ck_gv ν st ws I.length V v) (K : ck_N p l e R s m args below meth c Q D cl st sh A nL wr ws0 n ν (pc, (I, L, V :: S, X, nc, mc, ms))) : W p l e R s m args below meth c H locs mc ms Q (F0 m pc ls (v :: vs)) :=
  K ν ws tys H locs ls _ (fun _ _ => rfl) (hG.stk ⟨hv, hG.gs⟩)
/-- a form of which the table knows the value is that number -/
def ck_norm (I : List ck_I) (f : ck_L) : ck_L := if (ck_rng I f).1 = (ck_rng I f).2 then ck_k (ck_rng I f).1 else f
theorem ck_norm_ok {f : ck_L} {x : Int32} (hi : ck_gi ν I) (w : ck_wf I.length f) (hx : x.toInt = ck_ev ν f) : ck_wf I.length (ck_norm I f) ∧ x.toInt = ck_ev ν (ck_norm I f) := by
  have rx := ck_rng32 hi hx
  unfold ck_norm
  split
  · refine ⟨Or.inl rfl, ?_⟩
    simp only [ck_ev, ck_k, Int.zero_mul, Int.zero_add]
    omega
  · exact ⟨w, hx⟩
/-- constants and loads -/
def ck_a (pc : Nat) (i : Instr × Nat) (I : List ck_I) (L : List (Nat × ck_V)) (S : List ck_V) (X : ck_D) (k : Nat × Nat × Nat) : Option (List (Nat × ck_S)) := match i with
  | (.iconst z, 1) => some [(pc + 1, (I, L, .inl (ck_k (Int32.ofInt z).toInt) :: S, X, k))]
  | (.bipush z, 2) => some [(pc + 2, (I, L, .inl (ck_k (Int8.ofInt z).toInt32.toInt) :: S, X, k))]
  | (.sipush z, 3) => some [(pc + 3, (I, L, .inl (ck_k (Int16.ofInt z).toInt32.toInt) :: S, X, k))]
  | (.aconst_null, 1) => some [(pc + 1, (I, L, .inr (1, 0) :: S, X, k))]
  | (.iload_n j, 1) => match ck_get L j.val with
    | some (.inl f) => some [(pc + 1, (I, L, .inl (ck_norm I f) :: S, X, k))]
    | _ => none
  | (.iload j, 2) => match ck_get L j with
    | some (.inl f) => some [(pc + 2, (I, L, .inl (ck_norm I f) :: S, X, k))]
    | _ => none
  | (.aload_n j, 1) => match ck_get L j.val with
    | some (.inr q) => if ck_one (.inr q) = true then some [(pc + 1, (I, L, .inr q :: S, X, k))] else none
    | _ => none
  | (.aload j, 2) => match ck_get L j with
    | some (.inr q) => if ck_one (.inr q) = true then some [(pc + 2, (I, L, .inr q :: S, X, k))] else none
    | _ => none
  | _ => none
theorem ck_refs {q : Nat × Nat} {v : Value} (h1 : ck_one (.inr q) = true) (h : ck_fv st ws (.inr q) v) : v = .null ∨ ∃ a, v = .ref a := by
  obtain ⟨t, i⟩ := q
  match t, h1, h with
  | 0, _, h => obtain ⟨q, -, rfl⟩ := h; exact Or.inr ⟨_, rfl⟩
  | 1, _, h => exact Or.inl h
  | 2, _, h => exact Or.inr ⟨_, h⟩
  | _ + 3, h1, _ => cases h1
theorem ck_a_ok {i : Instr × Nat} {xs : List (Nat × ck_S)} (hx : p.tables.exec = Jvm.exec) (hb : c.code = cc) (hd : decode cc pc = .ok i) (h : ck_a pc i I L S X (nc, mc, ms) = some xs) (hn : n ≤ I.length) (hG : ck_G D cl st sh A s nL wr ws0 I L S X nc ν ws tys H locs ls vs)
    (K : ∀ x ∈ xs, ck_N p l e R s m args below meth c Q D cl st sh A nL wr ws0 n ν x) : W p l e R s m args below meth c H locs mc ms Q (F0 m pc ls vs) := by
  unfold ck_a at h
  split at h
  · cases h
    exact lv_iconst hx hb hd rfl (ck_pushv hG hn (ck_k_ok hG.gi _) (K _ List.mem_cons_self))
  · cases h
    exact lv_bipush hx hb hd rfl (ck_pushv hG hn (ck_k_ok hG.gi _) (K _ List.mem_cons_self))
  · cases h
    exact lv_sipush hx hb hd rfl (ck_pushv hG hn (ck_k_ok hG.gi _) (K _ List.mem_cons_self))
  · cases h
    exact lv_null hx hb hd (ck_pushV (V := .inr (1, 0)) hG rfl (K _ List.mem_cons_self))
  · split at h
    · rename_i hg
      cases h
      obtain ⟨v, h1, h2⟩ := hG.2.1.get hg
      obtain ⟨w, x, rfl, h3⟩ := id h2
      exact lv_iload_n hx hb hd rfl h1 (ck_pushV (V := .inl (ck_norm I _)) hG ⟨(ck_norm_ok hG.gi w h3).1, x, rfl, (ck_norm_ok hG.gi w h3).2⟩ (K _ List.mem_cons_self))
    · cases h
  · split at h
    · rename_i hg
      cases h
      obtain ⟨v, h1, h2⟩ := hG.2.1.get hg
      obtain ⟨w, x, rfl, h3⟩ := id h2
      exact lv_iload hx hb hd h1 (ck_pushV (V := .inl (ck_norm I _)) hG ⟨(ck_norm_ok hG.gi w h3).1, x, rfl, (ck_norm_ok hG.gi w h3).2⟩ (K _ List.mem_cons_self))
    · cases h
  · split at h
    · rename_i hg
      split at h
      · rename_i ho
        cases h
        obtain ⟨v, h1, h2⟩ := hG.2.1.get hg
        rcases ck_refs ho h2 with rfl | ⟨a, rfl⟩
        · exact lv_aload_nN hx hb hd rfl h1 (ck_pushV hG h2 (K _ List.mem_cons_self))
        · exact lv_aload_n hx hb hd rfl h1 (ck_pushV hG h2 (K _ List.mem_cons_self))
      · cases h
    · cases h
  · split at h
    · rename_i hg
      split at h
      · rename_i ho
        cases h
        obtain ⟨v, h1, h2⟩ := hG.2.1.get hg
        rcases ck_refs ho h2 with rfl | ⟨a, rfl⟩
        · exact lv_aloadN hx hb hd h1 (ck_pushV hG h2 (K _ List.mem_cons_self))
        · exact lv_aload hx hb hd h1 (ck_pushV hG h2 (K _ List.mem_cons_self))
      · cases h
    · cases h
  · cases h
/-- stores -/
def ck_b (nL : Nat) (pc : Nat) (i : Instr × Nat) (I : List ck_I) (L : List (Nat × ck_V)) (S : List ck_V) (X : ck_D) (k : Nat × Nat × Nat) : Option (List (Nat × ck_S)) := match i, S with
  | (.istore_n j, 1), .inl f :: S => if j.val < nL then some [(pc + 1, (I, ck_put L j.val (.inl f), S, X, k))] else none
  | (.istore j, 2), .inl f :: S => if j < nL then some [(pc + 2, (I, ck_put L j (.inl f), S, X, k))] else none
  | (.astore_n j, 1), .inr q :: S => if j.val < nL ∧ ck_one (.inr q) = true then some [(pc + 1, (I, ck_put L j.val (.inr q), S, X, k))] else none
  | (.astore j, 2), .inr q :: S => if j < nL ∧ ck_one (.inr q) = true then some [(pc + 2, (I, ck_put L j (.inr q), S, X, k))] else none
  | (.iinc j z, 3), S => match ck_get L j with
    | some (.inl f) => if j < nL then let r := ck_add I f (ck_k (Int32.ofInt z).toInt); some [(pc + 3, (r.1, ck_put L j (.inl r.2), S, X, k))] else none
    | _ => none
  | _, _ => none
theorem ck_G.put {V : ck_V} {v : Value} {j : Nat} {lv : List (Nat × Value)} {ls' : Array Slot} (hG : ck_G D cl st sh A s nL wr ws0 I L S X nc ν ws tys H locs ls vs) (h2 : ∀ q ∈ L, ∃ v, (q.1, v) ∈ lv ∧ ck_gv ν st ws I.length q.2 v) (hv : ck_gv ν st ws I.length V v) (h : lv_has ls' nL ((j, v) :: lv.filter (fun q => !(q.1 == j) && !(q.1 + 1 == j && q.2.category == 2)))) : ck_G D cl st sh A s nL wr ws0 I (ck_put L j V) S X nc ν ws tys H locs ls' vs :=
  ⟨hG.1, ck_gl.put h2 hv h, hG.2.2⟩
theorem ck_b_ok {i : Instr × Nat} {xs : List (Nat × ck_S)} (hx : p.tables.exec = Jvm.exec) (hb : c.code = cc) (hd : decode cc pc = .ok i) (h : ck_b nL pc i I L S X (nc, mc, ms) = some xs) (hn : n ≤ I.length) (hG : ck_G D cl st sh A s nL wr ws0 I L S X nc ν ws tys H locs ls vs)
    (K : ∀ x ∈ xs, ck_N p l e R s m args below meth c Q D cl st sh A nL wr ws0 n ν x) : W p l e R s m args below meth c H locs mc ms Q (F0 m pc ls vs) := by
  unfold ck_b at h
  split at h
  · split at h
    · rename_i hj
      cases h
      obtain ⟨v, vs', rfl, h1, h2⟩ := hG.gs.pop
      obtain ⟨w, x, rfl, h3⟩ := id h1
      obtain ⟨lv, hl, hm⟩ := hG.2.1
      exact lv_istore_n hx hb hd rfl hl hj rfl (fun ls' hl' => K _ List.mem_cons_self ν ws tys H locs ls' _ (fun _ _ => rfl) ((hG.stk h2).put hm h1 hl'))
    · cases h
  · split at h
    · rename_i hj
      cases h
      obtain ⟨v, vs', rfl, h1, h2⟩ := hG.gs.pop
      obtain ⟨w, x, rfl, h3⟩ := id h1
      obtain ⟨lv, hl, hm⟩ := hG.2.1
      exact lv_istore hx hb hd hl hj rfl (fun ls' hl' => K _ List.mem_cons_self ν ws tys H locs ls' _ (fun _ _ => rfl) ((hG.stk h2).put hm h1 hl'))
    · cases h
  · split at h
    · rename_i hj
      cases h
      obtain ⟨v, vs', rfl, h1, h2⟩ := hG.gs.pop
      obtain ⟨lv, hl, hm⟩ := hG.2.1
      rcases ck_refs hj.2 h1 with rfl | ⟨a, rfl⟩
      · exact lv_astore_nN hx hb hd rfl hl hj.1 rfl (fun ls' hl' => K _ List.mem_cons_self ν ws tys H locs ls' _ (fun _ _ => rfl) ((hG.stk h2).put hm h1 hl'))
      · exact lv_astore_n hx hb hd rfl hl hj.1 rfl (fun ls' hl' => K _ List.mem_cons_self ν ws tys H locs ls' _ (fun _ _ => rfl) ((hG.stk h2).put hm h1 hl'))
    · cases h
  · split at h
    · rename_i hj
      cases h
      obtain ⟨v, vs', rfl, h1, h2⟩ := hG.gs.pop
      obtain ⟨lv, hl, hm⟩ := hG.2.1
      rcases ck_refs hj.2 h1 with rfl | ⟨a, rfl⟩
      · exact lv_astoreN hx hb hd hl hj.1 rfl (fun ls' hl' => K _ List.mem_cons_self ν ws tys H locs ls' _ (fun _ _ => rfl) ((hG.stk h2).put hm h1 hl'))
      · exact lv_astore hx hb hd hl hj.1 rfl (fun ls' hl' => K _ List.mem_cons_self ν ws tys H locs ls' _ (fun _ _ => rfl) ((hG.stk h2).put hm h1 hl'))
    · cases h
  · split at h
    · rename_i f hg
      split at h
      · rename_i hj
        cases h
        obtain ⟨lv, hl, hm⟩ := hG.2.1
        obtain ⟨v, h1, w, x, rfl, h3⟩ := hm _ (ck_get_mem hg)
        obtain ⟨k, hk⟩ := List.getElem?_of_mem h1
        obtain ⟨ν', a1, a2, a3, a4, a5⟩ := ck_add_ok (y := Int32.ofInt _) hG.gi w (Or.inl rfl) h3 (show (Int32.ofInt _).toInt = ck_ev ν (ck_k _) by simp only [ck_ev, ck_k, Int.zero_mul, Int.zero_add]; rfl)
        refine lv_iinc hx hb hd hl hk rfl hj rfl (fun ls' hl' => K _ List.mem_cons_self ν' ws tys H locs ls' _ (fun j hj => a1 j (by omega)) ?_)
        have hG' := hG.grow a1 a2 a3
        exact hG'.put (fun q hq => by obtain ⟨v, b1, b2⟩ := hm q hq; exact ⟨v, b1, b2.on ck_on.rf a2 a1⟩) ⟨a4, _, rfl, a5.symm⟩ hl'
      · cases h
    · cases h
  · cases h
/-- numbers of two -/
def ck_bop (i : Instr) : Option ((Int32 → Int32 → Int32) × (List ck_I → ck_L → ck_L → List ck_I × ck_L)) := match i with
  | .iadd => some (fun x y => x + y, ck_add)
  | .isub => some (fun x y => x - y, ck_sub)
  | .imul => some (fun x y => x * y, ck_mul)
  | .iand => some (fun x y => x &&& y, ck_and)
  | .ior => some (fun x y => x ||| y, ck_or)
  | .ixor => some (fun x y => x ^^^ y, ck_xor)
  | .ishl => some (fun x y => x <<< (y &&& 31), ck_shl)
  | .ishr => some (fun x y => x >>> (y &&& 31), ck_shr)
  | .iushr => some (fun x y => (x.toUInt32 >>> (y.toUInt32 &&& Int32.toUInt32 31)).toInt32, ck_ushr)
  | _ => none
theorem ck_bop_ok {i : Instr} {o : Int32 → Int32 → Int32} {g : List ck_I → ck_L → ck_L → List ck_I × ck_L} (h : ck_bop i = some (o, g)) {f f' : ck_L} {x y : Int32} (hi : ck_gi ν I) (wf : ck_wf I.length f) (wg : ck_wf I.length f') (hx : x.toInt = ck_ev ν f) (hy : y.toInt = ck_ev ν f') : ck_res ν I (g I f f').1 (g I f f').2 (o x y).toInt := by
  unfold ck_bop at h
  split at h <;> cases h
  · exact ck_add_ok hi wf wg hx hy
  · exact ck_sub_ok hi wf wg hx hy
  · exact ck_mul_ok hi wf wg hx hy
  · exact ck_and_ok hi wf wg hx hy
  · exact ck_or_ok hi hx hy
  · exact ck_xor_ok hi hx hy
  · exact ck_shl_ok hi hx hy
  · exact ck_shr_ok hi hx hy
  · exact ck_ushr_ok hi hx hy
theorem ck_bop_row {i : Instr} {o : Int32 → Int32 → Int32} {g : List ck_I → ck_L → ck_L → List ck_I × ck_L} (h : ck_bop i = some (o, g)) (hx : p.tables.exec = Jvm.exec) (hb : c.code = cc) (hd : decode cc pc = .ok (i, 1)) {x y : Int32} (K : W p l e R s m args below meth c H locs mc ms Q (F0 m (pc + 1) ls (.int (o x y) :: vs))) : W p l e R s m args below meth c H locs mc ms Q (F0 m pc ls (.int y :: .int x :: vs)) := by
  unfold ck_bop at h
  split at h <;> cases h
  · exact lv_iadd hx hb hd K
  · exact lv_isub hx hb hd K
  · exact lv_imul hx hb hd K
  · exact lv_iand hx hb hd K
  · exact lv_ior hx hb hd K
  · exact lv_ixor hx hb hd K
  · exact lv_ishl hx hb hd K
  · exact lv_ishr hx hb hd K
  · exact lv_iushr hx hb hd rfl K
/-- x to a byte -/
def ck_i2b (I : List ck_I) (f : ck_L) : List ck_I × ck_L := let a := ck_rng I f; if -128 ≤ a.1 ∧ a.2 ≤ 127 then (I, f) else ck_btw I (-128) 127
theorem ck_byteI {x : Int32} (h1 : -128 ≤ x.toInt) (h2 : x.toInt ≤ 127) : x.toInt8.toInt32 = x := by
  apply Int32.toInt_inj.mp
  rw [Int8.toInt_toInt32, Int32.toInt_toInt8]
  exact Int.bmod_eq_of_le_mul_two (by omega) (by omega)
theorem ck_byteR (x : Int32) : -128 ≤ x.toInt8.toInt32.toInt ∧ x.toInt8.toInt32.toInt ≤ 127 := by
  rw [Int8.toInt_toInt32]
  have h1 := x.toInt8.le_toInt
  have h2 := x.toInt8.toInt_lt
  omega
theorem ck_i2b_ok {f : ck_L} {x : Int32} (hi : ck_gi ν I) (wf : ck_wf I.length f) (hx : x.toInt = ck_ev ν f) : ck_res ν I (ck_i2b I f).1 (ck_i2b I f).2 x.toInt8.toInt32.toInt := by
  have rx := ck_rng32 hi hx
  unfold ck_i2b
  dsimp only
  split
  · rename_i hc
    rw [ck_byteI (by omega) (by omega)]
    exact ck_same hi wf hx.symm
  · exact ck_btw_ok hi (ck_byteR x).1 (ck_byteR x).2
def ck_c (pc : Nat) (i : Instr × Nat) (I : List ck_I) (L : List (Nat × ck_V)) (S : List ck_V) (X : ck_D) (k : Nat × Nat × Nat) : Option (List (Nat × ck_S)) := match i, S with
  | (.idiv, 1), .inl g :: .inl f :: S => if 1 ≤ (ck_rng I g).1 then let r := ck_div I f g; some [(pc + 1, (r.1, L, .inl r.2 :: S, X, k))] else none
  | (.irem, 1), .inl g :: .inl f :: S => if 1 ≤ (ck_rng I g).1 then let r := ck_rem I f g; some [(pc + 1, (r.1, L, .inl r.2 :: S, X, k))] else none
  | (.ineg, 1), .inl f :: S => let r := ck_neg I f; some [(pc + 1, (r.1, L, .inl r.2 :: S, X, k))]
  | (.i2b, 1), .inl f :: S => let r := ck_i2b I f; some [(pc + 1, (r.1, L, .inl r.2 :: S, X, k))]
  | (j, 1), .inl g :: .inl f :: S => match ck_bop j with
    | some o => let r := o.2 I f g; some [(pc + 1, (r.1, L, .inl r.2 :: S, X, k))]
    | none => none
  | _, _ => none
theorem ck_c_ok {i : Instr × Nat} {xs : List (Nat × ck_S)} (hx : p.tables.exec = Jvm.exec) (hb : c.code = cc) (hd : decode cc pc = .ok i) (h : ck_c pc i I L S X (nc, mc, ms) = some xs) (hn : n ≤ I.length) (hG : ck_G D cl st sh A s nL wr ws0 I L S X nc ν ws tys H locs ls vs)
    (K : ∀ x ∈ xs, ck_N p l e R s m args below meth c Q D cl st sh A nL wr ws0 n ν x) : W p l e R s m args below meth c H locs mc ms Q (F0 m pc ls vs) := by
  unfold ck_c at h
  split at h
  · split at h
    · rename_i hp
      cases h
      obtain ⟨v, vs', rfl, ⟨w1, y, rfl, e1⟩, h2⟩ := hG.gs.pop
      obtain ⟨v, vs', rfl, ⟨w2, x, rfl, e2⟩, h4⟩ := h2.pop
      have hy := (ck_rng32 hG.gi e1).1
      exact lv_idiv hx hb hd (fun q => by rw [q] at hy; have : (0 : Int32).toInt = 0 := rfl; omega) (ck_pushv (hG.stk h4) hn (ck_div_ok hG.gi e2 e1 (by omega)) (K _ List.mem_cons_self))
    · cases h
  · split at h
    · rename_i hp
      cases h
      obtain ⟨v, vs', rfl, ⟨w1, y, rfl, e1⟩, h2⟩ := hG.gs.pop
      obtain ⟨v, vs', rfl, ⟨w2, x, rfl, e2⟩, h4⟩ := h2.pop
      have hy := (ck_rng32 hG.gi e1).1
      exact lv_irem hx hb hd (fun q => by rw [q] at hy; have : (0 : Int32).toInt = 0 := rfl; omega) (ck_pushv (hG.stk h4) hn (ck_rem_ok hG.gi e2 e1 (by omega)) (K _ List.mem_cons_self))
    · cases h
  · cases h
    obtain ⟨v, vs', rfl, ⟨w1, x, rfl, e1⟩, h2⟩ := hG.gs.pop
    exact lv_ineg hx hb hd (ck_pushv (hG.stk h2) hn (ck_neg_ok hG.gi w1 e1) (K _ List.mem_cons_self))
  · cases h
    obtain ⟨v, vs', rfl, ⟨w1, x, rfl, e1⟩, h2⟩ := hG.gs.pop
    exact lv_i2b hx hb hd rfl (ck_pushv (hG.stk h2) hn (ck_i2b_ok hG.gi w1 e1) (K _ List.mem_cons_self))
  · split at h
    · rename_i o ho
      cases h
      obtain ⟨v, vs', rfl, ⟨w1, y, rfl, e1⟩, h2⟩ := hG.gs.pop
      obtain ⟨v, vs', rfl, ⟨w2, x, rfl, e2⟩, h4⟩ := h2.pop
      exact ck_bop_row ho hx hb hd (ck_pushv (hG.stk h4) hn (ck_bop_ok ho hG.gi w2 w1 e2 e1) (K _ List.mem_cons_self))
    · cases h
  · cases h
/-- the stack's own -/
def ck_d (pc : Nat) (i : Instr × Nat) (I : List ck_I) (L : List (Nat × ck_V)) (S : List ck_V) (X : ck_D) (k : Nat × Nat × Nat) : Option (List (Nat × ck_S)) := match i, S with
  | (.dup, 1), V :: S => if ck_one V = true then some [(pc + 1, (I, L, V :: V :: S, X, k))] else none
  | (.pop, 1), V :: S => if ck_one V = true then some [(pc + 1, (I, L, S, X, k))] else none
  | (.dup_x1, 1), V :: V' :: S => if ck_one V = true ∧ ck_one V' = true then some [(pc + 1, (I, L, V :: V' :: V :: S, X, k))] else none
  | (.dup2, 1), V :: V' :: S => if ck_one V = true ∧ ck_one V' = true then some [(pc + 1, (I, L, V :: V' :: V :: V' :: S, X, k))] else none
  | _, _ => none
theorem ck_d_ok {i : Instr × Nat} {xs : List (Nat × ck_S)} (hx : p.tables.exec = Jvm.exec) (hb : c.code = cc) (hd : decode cc pc = .ok i) (h : ck_d pc i I L S X (nc, mc, ms) = some xs) (hG : ck_G D cl st sh A s nL wr ws0 I L S X nc ν ws tys H locs ls vs)
    (K : ∀ x ∈ xs, ck_N p l e R s m args below meth c Q D cl st sh A nL wr ws0 n ν x) : W p l e R s m args below meth c H locs mc ms Q (F0 m pc ls vs) := by
  unfold ck_d at h
  split at h
  · split at h
    · rename_i ho
      cases h
      obtain ⟨v, vs', rfl, h1, h2⟩ := hG.gs.pop
      exact lv_dup hx hb hd (ck_one_cat ho h1) (K _ List.mem_cons_self ν ws tys H locs ls _ (fun _ _ => rfl) (hG.stk ⟨h1, h1, h2⟩))
    · cases h
  · split at h
    · rename_i ho
      cases h
      obtain ⟨v, vs', rfl, h1, h2⟩ := hG.gs.pop
      exact lv_pop hx hb hd (ck_one_cat ho h1) (K _ List.mem_cons_self ν ws tys H locs ls _ (fun _ _ => rfl) (hG.stk h2))
    · cases h
  · split at h
    · rename_i ho
      cases h
      obtain ⟨v, vs', rfl, h1, h2⟩ := hG.gs.pop
      obtain ⟨v', vs', rfl, h3, h4⟩ := h2.pop
      exact lv_dup_x1 hx hb hd (ck_one_cat ho.1 h1) (ck_one_cat ho.2 h3) (K _ List.mem_cons_self ν ws tys H locs ls _ (fun _ _ => rfl) (hG.stk ⟨h1, h3, h1, h4⟩))
    · cases h
  · split at h
    · rename_i ho
      cases h
      obtain ⟨v, vs', rfl, h1, h2⟩ := hG.gs.pop
      obtain ⟨v', vs', rfl, h3, h4⟩ := h2.pop
      exact lv_dup2_11 hx hb hd (ck_one_cat ho.1 h1) (ck_one_cat ho.2 h3) (K _ List.mem_cons_self ν ws tys H locs ls _ (fun _ _ => rfl) (hG.stk ⟨h1, h3, h1, h3, h4⟩))
    · cases h
  · cases h
end CKA
end
section
/-! THE TABLE RUN, 3: branches, fields, rows -/
section CKB
variable {p : Program} {l : Launch} {e : Env} {R : Room} {s : State} {m : MethodId} {args : Array Value} {below : List Frame} {meth : Method} {c : Code} {Q : State → Prop}
variable {cc : ByteArray} {D : va_G} {cl : List vw_C} {st : Nat → Nat} {sh : List ck_Sh} {A : Nat → Prop} {nL : Nat} {wr : List (Nat × Nat)} {ws0 : va_W}
variable {I I' : List ck_I} {L : List (Nat × ck_V)} {S S' : List ck_V} {X : ck_D} {nc mc ms n : Nat} {ν ν' : Nat → Int} {ws : va_W} {tys : List (ClassId × FieldType)} {H : Heap} {locs : List Loc} {ls : Array Slot} {vs vs' : List Value} {pc : Nat}
def ck_cref (o : Jvm.ClassFile.Cond) (I : List ck_I) (f g : ck_L) : Option (List ck_I) := match o with
  | .eq => ck_eq2 I f g
  | .ne => ck_ne2 I f g
  | .lt => ck_lt2 I f g
  | .ge => ck_le2 I g f
  | .gt => ck_lt2 I g f
  | .le => ck_le2 I f g
def ck_cneg (o : Jvm.ClassFile.Cond) : Jvm.ClassFile.Cond := match o with
  | .eq => .ne
  | .ne => .eq
  | .lt => .ge
  | .ge => .lt
  | .gt => .le
  | .le => .gt
def ck_chold (o : Jvm.ClassFile.Cond) (x y : Int32) : Prop := match o with
  | .eq => x.toInt = y.toInt
  | .ne => x.toInt ≠ y.toInt
  | .lt => x.toInt < y.toInt
  | .ge => y.toInt ≤ x.toInt
  | .gt => y.toInt < x.toInt
  | .le => x.toInt ≤ y.toInt
theorem ck_cref_ok {o : Jvm.ClassFile.Cond} {f g : ck_L} {x y : Int32} (h : ck_gi ν I) (hx : x.toInt = ck_ev ν f) (hy : y.toInt = ck_ev ν g) (hc : ck_chold o x y) : ∃ I', ck_cref o I f g = some I' ∧ ck_gi ν I' ∧ I'.length = I.length := by
  cases o
  · exact ck_eq2_ok h hx hy hc
  · exact ck_ne2_ok h hx hy hc
  · exact ck_lt2_ok h hx hy hc
  · exact ck_le2_ok h hy hx hc
  · exact ck_lt2_ok h hy hx hc
  · exact ck_le2_ok h hx hy hc
theorem ck_icmp_row {o : Jvm.ClassFile.Cond} {off : Int} {tgt : Nat} {x y : Int32} (hx : p.tables.exec = Jvm.exec) (hb : c.code = cc) (hd : decode cc pc = .ok (.if_icmp o off, 3)) (ht : (pc : Int) + off = (tgt : Int))
    (kt : ck_chold o x y → W p l e R s m args below meth c H locs mc ms Q (F0 m tgt ls vs)) (kf : ck_chold (ck_cneg o) x y → W p l e R s m args below meth c H locs mc ms Q (F0 m (pc + 3) ls vs)) : W p l e R s m args below meth c H locs mc ms Q (F0 m pc ls (.int y :: .int x :: vs)) := by
  cases o
  · exact lv_icmp_eq hx hb hd ht (fun q => kt (by rw [q]; exact rfl)) (fun q => kf (fun z => q (Int32.toInt_inj.mp z)))
  · exact lv_icmp_ne hx hb hd ht (fun q => kt (fun z => q (Int32.toInt_inj.mp z))) (fun q => kf (by rw [q]; exact rfl))
  · exact lv_icmp_lt hx hb hd ht (fun q => kt (Int32.lt_iff_toInt_lt.mp q)) (fun q => kf (Int.not_lt.mp (fun z => q (Int32.lt_iff_toInt_lt.mpr z))))
  · exact lv_icmp_ge hx hb hd ht (fun q => kt (Int32.le_iff_toInt_le.mp q)) (fun q => kf (Int.not_le.mp (fun z => q (Int32.le_iff_toInt_le.mpr z))))
  · exact lv_icmp_gt hx hb hd ht (fun q => kt (Int32.lt_iff_toInt_lt.mp q)) (fun q => kf (Int.not_lt.mp (fun z => q (Int32.lt_iff_toInt_lt.mpr z))))
  · exact lv_icmp_le hx hb hd ht (fun q => kt (Int32.le_iff_toInt_le.mp q)) (fun q => kf (Int.not_le.mp (fun z => q (Int32.le_iff_toInt_le.mpr z))))
theorem ck_if_row {o : Jvm.ClassFile.Cond} {off : Int} {tgt : Nat} {x : Int32} (hx : p.tables.exec = Jvm.exec) (hb : c.code = cc) (hd : decode cc pc = .ok (.ifCond o off, 3)) (ht : (pc : Int) + off = (tgt : Int))
    (kt : ck_chold o x 0 → W p l e R s m args below meth c H locs mc ms Q (F0 m tgt ls vs)) (kf : ck_chold (ck_cneg o) x 0 → W p l e R s m args below meth c H locs mc ms Q (F0 m (pc + 3) ls vs)) : W p l e R s m args below meth c H locs mc ms Q (F0 m pc ls (.int x :: vs)) := by
  cases o
  · exact lv_if_eq hx hb hd ht (fun q => kt (by rw [q]; exact rfl)) (fun q => kf (fun z => q (Int32.toInt_inj.mp z)))
  · exact lv_if_ne hx hb hd ht (fun q => kt (fun z => q (Int32.toInt_inj.mp z))) (fun q => kf (by rw [q]; exact rfl))
  · exact lv_if_lt hx hb hd ht (fun q => kt (Int32.lt_iff_toInt_lt.mp q)) (fun q => kf (Int.not_lt.mp (fun z => q (Int32.lt_iff_toInt_lt.mpr z))))
  · exact lv_if_ge hx hb hd ht (fun q => kt (Int32.le_iff_toInt_le.mp q)) (fun q => kf (Int.not_le.mp (fun z => q (Int32.le_iff_toInt_le.mpr z))))
  · exact lv_if_gt hx hb hd ht (fun q => kt (Int32.lt_iff_toInt_lt.mp q)) (fun q => kf (Int.not_lt.mp (fun z => q (Int32.lt_iff_toInt_lt.mpr z))))
  · exact lv_if_le hx hb hd ht (fun q => kt (Int32.le_iff_toInt_le.mp q)) (fun q => kf (Int.not_le.mp (fun z => q (Int32.le_iff_toInt_le.mpr z))))
def ck_br (J : Option (List ck_I)) (t : Nat) (L : List (Nat × ck_V)) (S : List ck_V) (X : ck_D) (k : Nat × Nat × Nat) : List (Nat × ck_S) := match J with
  | some I => [(t, (I, L, S, X, k))]
  | none => []
theorem ck_br_ok {J : Option (List ck_I)} {t : Nat} (hG : ck_G D cl st sh A s nL wr ws0 I L S X nc ν ws tys H locs ls vs) (hJ : ∃ I', J = some I' ∧ ck_gi ν I' ∧ I'.length = I.length)
    (K : ∀ x ∈ ck_br J t L S X (nc, mc, ms), ck_N p l e R s m args below meth c Q D cl st sh A nL wr ws0 n ν x) : W p l e R s m args below meth c H locs mc ms Q (F0 m t ls vs) := by
  obtain ⟨I', rfl, h1, h2⟩ := hJ
  exact K _ List.mem_cons_self ν ws tys H locs ls vs (fun _ _ => rfl) (hG.cut h2 h1)
def ck_tg (pc : Nat) (off : Int) : Nat := ((pc : Int) + off).toNat
theorem ck_tg_ok {pc : Nat} {off : Int} (h : 0 ≤ (pc : Int) + off) : (pc : Int) + off = (ck_tg pc off : Int) := by unfold ck_tg; omega
def ck_sw (pc : Nat) (lo : Int) (I : List ck_I) (f : ck_L) (L : List (Nat × ck_V)) (S : List ck_V) (X : ck_D) (k : Nat × Nat × Nat) : Nat → List Int → List (Nat × ck_S)
  | _, [] => []
  | j, o :: os => ck_br ((ck_ge I f (lo + j)).bind fun J => ck_le J f (lo + j)) (ck_tg pc o) L S X k ++ ck_sw pc lo I f L S X k (j + 1) os
theorem ck_sw_in {lo : Int} {f : ck_L} {k : Nat × Nat × Nat} {o : Int} : ∀ (os : List Int) (b j : Nat), os[j]? = some o → ∀ x, x ∈ ck_br ((ck_ge I f (lo + ((b + j : Nat) : Int))).bind fun J => ck_le J f (lo + ((b + j : Nat) : Int))) (ck_tg pc o) L S X k → x ∈ ck_sw pc lo I f L S X k b os
  | [], _, _, h, _, _ => by simp at h
  | a :: os, b, 0, h, x, hx => by
    have e : a = o := by simpa using h
    subst e
    exact List.mem_append_left _ hx
  | a :: os, b, j + 1, h, x, hx => by
    refine List.mem_append_right _ (ck_sw_in os (b + 1) j (by simpa using h) x ?_)
    have e : b + 1 + j = b + (j + 1) := by omega
    rw [e]; exact hx
def ck_e (pc : Nat) (i : Instr × Nat) (I : List ck_I) (L : List (Nat × ck_V)) (S : List ck_V) (X : ck_D) (k : Nat × Nat × Nat) : Option (List (Nat × ck_S)) := match i, S with
  | (.if_icmp o off, 3), .inl g :: .inl f :: S => if 0 ≤ (pc : Int) + off then some (ck_br (ck_cref o I f g) (ck_tg pc off) L S X k ++ ck_br (ck_cref (ck_cneg o) I f g) (pc + 3) L S X k) else none
  | (.ifCond o off, 3), .inl f :: S => if 0 ≤ (pc : Int) + off then some (ck_br (ck_cref o I f (ck_k 0)) (ck_tg pc off) L S X k ++ ck_br (ck_cref (ck_cneg o) I f (ck_k 0)) (pc + 3) L S X k) else none
  | (.goto off, 3), S => if 0 ≤ (pc : Int) + off then some [(ck_tg pc off, (I, L, S, X, k))] else none
  | (.ifnull off, 3), .inr (1, _) :: S => if 0 ≤ (pc : Int) + off then some [(ck_tg pc off, (I, L, S, X, k))] else none
  | (.ifnull _, 3), .inr (0, _) :: S => some [(pc + 3, (I, L, S, X, k))]
  | (.ifnonnull _, 3), .inr (1, _) :: S => some [(pc + 3, (I, L, S, X, k))]
  | (.ifnonnull off, 3), .inr (0, _) :: S => if 0 ≤ (pc : Int) + off then some [(ck_tg pc off, (I, L, S, X, k))] else none
  | (.tableswitch dflt lo hi offs, _), .inl f :: S => if (offs.toList.length : Int) = hi - lo + 1 ∧ 0 ≤ (pc : Int) + dflt ∧ offs.toList.all (fun o => decide (0 ≤ (pc : Int) + o)) = true then some (ck_br (ck_le I f (lo - 1)) (ck_tg pc dflt) L S X k ++ (ck_br (ck_ge I f (hi + 1)) (ck_tg pc dflt) L S X k ++ ck_sw pc lo I f L S X k 0 offs.toList)) else none
  | _, _ => none
theorem ck_e_ok {i : Instr × Nat} {xs : List (Nat × ck_S)} (hx : p.tables.exec = Jvm.exec) (hb : c.code = cc) (hd : decode cc pc = .ok i) (h : ck_e pc i I L S X (nc, mc, ms) = some xs) (hG : ck_G D cl st sh A s nL wr ws0 I L S X nc ν ws tys H locs ls vs)
    (K : ∀ x ∈ xs, ck_N p l e R s m args below meth c Q D cl st sh A nL wr ws0 n ν x) : W p l e R s m args below meth c H locs mc ms Q (F0 m pc ls vs) := by
  unfold ck_e at h
  split at h
  · split at h
    · rename_i ho
      cases h
      obtain ⟨v, vs', rfl, ⟨w1, y, rfl, e1⟩, h2⟩ := hG.gs.pop
      obtain ⟨v, vs', rfl, ⟨w2, x, rfl, e2⟩, h4⟩ := h2.pop
      exact ck_icmp_row hx hb hd (ck_tg_ok ho) (fun q => ck_br_ok (hG.stk h4) (ck_cref_ok hG.gi e2 e1 q) (fun x hx => K x (List.mem_append_left _ hx))) (fun q => ck_br_ok (hG.stk h4) (ck_cref_ok hG.gi e2 e1 q) (fun x hx => K x (List.mem_append_right _ hx)))
    · cases h
  · split at h
    · rename_i ho
      cases h
      obtain ⟨v, vs', rfl, ⟨w1, x, rfl, e1⟩, h2⟩ := hG.gs.pop
      have e0 : (0 : Int32).toInt = ck_ev ν (ck_k 0) := by simp [ck_ev, ck_k]
      exact ck_if_row hx hb hd (ck_tg_ok ho) (fun q => ck_br_ok (hG.stk h2) (ck_cref_ok hG.gi e1 e0 q) (fun x hx => K x (List.mem_append_left _ hx))) (fun q => ck_br_ok (hG.stk h2) (ck_cref_ok hG.gi e1 e0 q) (fun x hx => K x (List.mem_append_right _ hx)))
    · cases h
  · split at h
    · rename_i ho
      cases h
      exact lv_goto hx hb hd (ck_tg_ok ho) (K _ List.mem_cons_self ν ws tys H locs ls vs (fun _ _ => rfl) hG)
    · cases h
  · split at h
    · rename_i ho
      cases h
      obtain ⟨v, vs', rfl, h1, h2⟩ := hG.gs.pop
      have e1 : v = .null := h1
      subst e1
      exact lv_ifnullN hx hb hd (ck_tg_ok ho) (K _ List.mem_cons_self ν ws tys H locs ls _ (fun _ _ => rfl) (hG.stk h2))
    · cases h
  · cases h
    obtain ⟨v, vs', rfl, ⟨q, h1, rfl⟩, h2⟩ := hG.gs.pop
    exact lv_ifnull hx hb hd (K _ List.mem_cons_self ν ws tys H locs ls _ (fun _ _ => rfl) (hG.stk h2))
  · cases h
    obtain ⟨v, vs', rfl, h1, h2⟩ := hG.gs.pop
    have e1 : v = .null := h1
    subst e1
    exact lv_ifnonnullN hx hb hd (K _ List.mem_cons_self ν ws tys H locs ls _ (fun _ _ => rfl) (hG.stk h2))
  · split at h
    · rename_i ho
      cases h
      obtain ⟨v, vs', rfl, ⟨q, h1, rfl⟩, h2⟩ := hG.gs.pop
      exact lv_ifnonnull hx hb hd (ck_tg_ok ho) (K _ List.mem_cons_self ν ws tys H locs ls _ (fun _ _ => rfl) (hG.stk h2))
    · cases h
  · split at h
    · rename_i dflt lo hi offs len f S' ho
      obtain ⟨o1, o2, o3⟩ := ho
      cases h
      obtain ⟨v, vs', rfl, ⟨w1, x, rfl, e1⟩, h2⟩ := hG.gs.pop
      rcases Int.lt_or_le x.toInt lo with q | q
      · exact lv_tableOut hx hb hd (Or.inl q) (ck_tg_ok o2) (ck_br_ok (hG.stk h2) (ck_le_ok hG.gi (by omega)) (fun x hx => K x (List.mem_append_left _ hx)))
      · rcases Int.lt_or_le hi x.toInt with q2 | q2
        · exact lv_tableOut hx hb hd (Or.inr q2) (ck_tg_ok o2) (ck_br_ok (hG.stk h2) (ck_ge_ok hG.gi (by omega)) (fun x hx => K x (List.mem_append_right _ (List.mem_append_left _ hx))))
        · have hj : (x.toInt - lo).toNat < offs.toList.length := by omega
          have hg : offs.toList[(x.toInt - lo).toNat]? = some offs.toList[(x.toInt - lo).toNat] := List.getElem?_eq_getElem hj
          have ht := ck_tg_ok (of_decide_eq_true (List.all_eq_true.mp o3 _ (List.getElem_mem hj)))
          have ev : ck_ev ν f = lo + ((0 + (x.toInt - lo).toNat : Nat) : Int) := by rw [← e1]; omega
          refine lv_tableIn hx hb hd (by omega) (by omega) (by rw [← Array.getElem?_toList]; exact hg) ht (ck_br_ok (hG.stk h2) ?_ (fun x hx => K x (List.mem_append_right _ (List.mem_append_right _ (ck_sw_in _ 0 _ hg x hx)))))
          obtain ⟨J, j1, j2, j3⟩ := ck_ge_ok (f := f) (c := lo + ((0 + (x.toInt - lo).toNat : Nat) : Int)) hG.gi (by omega)
          obtain ⟨J2, k1, k2, k3⟩ := ck_le_ok (f := f) (c := lo + ((0 + (x.toInt - lo).toNat : Nat) : Int)) j2 (by omega)
          exact ⟨J2, by rw [j1]; exact k1, k2, k3.trans j3⟩
    · cases h
  · cases h
end CKB
end
section
/-! THE TABLE RUN, 4: fields and rows -/
section CKC
variable {p : Program} {l : Launch} {e : Env} {R : Room} {s : State} {m : MethodId} {args : Array Value} {below : List Frame} {meth : Method} {c : Code} {Q : State → Prop}
variable {cc : ByteArray} {D : va_G} {cl : List vw_C} {st : Nat → Nat} {sh : List ck_Sh} {A : Nat → Prop} {nL : Nat} {wr : List (Nat × Nat)} {ws0 : va_W}
variable {I I' : List ck_I} {L : List (Nat × ck_V)} {S S' : List ck_V} {X : ck_D} {nc mc ms n : Nat} {ν ν' : Nat → Int} {ws : va_W} {tys : List (ClassId × FieldType)} {H : Heap} {locs : List Loc} {ls : Array Slot} {vs vs' : List Value} {pc : Nat}
variable {Ts : List Cond} {own : String}
/-- a link to a field: pool number, object kind, field, its type (char: it is only read here), whether it is written once -/
abbrev ck_FL : Type := Nat × Nat × Nat × FieldType × Bool
def ck_okF (cl : List vw_C) (Ts : List Cond) (own : String) (q : ck_FL) : Prop := ∃ (C : String) (T : u_T) (N : Nat), cl[q.2.1]? = some (C, T, N) ∧ q.2.2.1 < N ∧ Cond.fieldLink own q.1 (T q.2.2.1).1 (T q.2.2.1).2.1 (T q.2.2.1).2.2.1 ∈ Ts ∧ (q.2.2.2.1 = .char ∨ (parseFieldDescriptor (T q.2.2.1).2.2.1 = some q.2.2.2.1 ∧ (T q.2.2.1).2.2.2 = q.2.2.2.2 ∧ (q.2.2.2.2 = true → (T q.2.2.1).1 = own)))
def ck_okC (cl : List vw_C) (Ts : List Cond) : Prop := ∀ (ci : Nat) (C : String) (T : u_T) (N : Nat), cl[ci]? = some (C, T, N) → (∀ w ∈ u_ws C T N, w ∈ Ts) ∧ (∃ ty : Nat → FieldType, ∀ k, k < N → parseFieldDescriptor (T k).2.2.1 = some (ty k)) ∧ (∀ a, a < N → ∀ b, b < N → a ≠ b → (T a).2.1 ≠ (T b).2.1)
def ck_num (I : List ck_I) (z : Int × Int) : List ck_I × ck_L := if z.1 = z.2 then (I, ck_k z.1) else ck_btw I z.1 z.2
theorem ck_num_ok {z : Int × Int} {x : Int} (h : ck_gi ν I) (h1 : z.1 ≤ x) (h2 : x ≤ z.2) : ck_res ν I (ck_num I z).1 (ck_num I z).2 x := by
  unfold ck_num
  split
  · have e : x = z.1 := by omega
    rw [e]; exact ck_k_ok h _
  · exact ck_btw_ok h h1 h2
def ck_pushF (I : List ck_I) (F : ck_F) : Option (List ck_I × ck_V) := match F with
  | .inl z => some ((ck_num I z).1, .inl (ck_num I z).2)
  | .inr q => if ck_one (.inr q) = true then some (I, .inr q) else none
theorem ck_pushF_ok {F : ck_F} {v : Value} {r : List ck_I × ck_V} (hG : ck_G D cl st sh A s nL wr ws0 I L S X nc ν ws tys H locs ls vs) (hn : n ≤ I.length) (hv : ck_fv st ws F v) (h : ck_pushF I F = some r) (K : ck_N p l e R s m args below meth c Q D cl st sh A nL wr ws0 n ν (pc, (r.1, L, r.2 :: S, X, nc, mc, ms))) : W p l e R s m args below meth c H locs mc ms Q (F0 m pc ls (v :: vs)) := by
  rcases F with z | q
  · cases h
    obtain ⟨x, rfl, h1, h2⟩ := hv
    exact ck_pushv hG hn (ck_num_ok hG.gi h1 h2) K
  · by_cases ho : ck_one (.inr q) = true
    · rw [ck_pushF, if_pos ho] at h
      cases h
      exact ck_pushV (V := .inr q) hG hv K
    · rw [ck_pushF, if_neg ho] at h
      cases h
def ck_toF (I : List ck_I) (V : ck_V) : ck_F := match V with
  | .inl f => .inl (ck_rng I f)
  | .inr q => .inr q
theorem ck_toF_ok {V : ck_V} {v : Value} (hi : ck_gi ν I) (h : ck_gv ν st ws I.length V v) : ck_fv st ws (ck_toF I V) v := by
  cases V with
  | inl f =>
    obtain ⟨-, x, rfl, h1⟩ := h
    exact ⟨x, rfl, ck_rng32 hi h1⟩
  | inr q => exact h
def ck_tyok (ty : FieldType) (V : ck_V) : Bool := match ty, V with
  | .int, .inl _ => true
  | .object _, .inr q => ck_one (.inr q)
  | .array _, .inr q => ck_one (.inr q)
  | _, _ => false
theorem ck_tychar {V : ck_V} (h : ck_tyok .char V = true) : False := by
  cases V <;> cases h
theorem ck_tyok_ok {ty : FieldType} {V : ck_V} {v : Value} (h : ck_tyok ty V = true) (hv : ck_gv ν st ws I.length V v) : narrow ty v = v ∧ fits ty v = true := by
  unfold ck_tyok at h
  split at h
  · obtain ⟨-, x, rfl, -⟩ := hv
    exact ⟨rfl, rfl⟩
  · rcases ck_refs h hv with rfl | ⟨a, rfl⟩ <;> exact ⟨rfl, rfl⟩
  · rcases ck_refs h hv with rfl | ⟨a, rfl⟩ <;> exact ⟨rfl, rfl⟩
  · cases h
def ck_obj (sh : List ck_Sh) (i : Nat) : Option (Nat × Nat) := match sh[i]? with
  | some (.inl o) => some o
  | _ => none
def ck_row (sh : List ck_Sh) (i : Nat) : Option (FieldType × Nat) := match sh[i]? with
  | some (.inr r) => some r
  | _ => none
theorem ck_obj_ok {i : Nat} {o : Nat × Nat} {q : Nat × va_E} (h : ck_obj sh i = some o) (hw : ck_w sh tys ws nc) (hq : ws[i]? = some q) : ∃ fs : List Value, q.2 = .inr (o.1, fs) ∧ fs.length = o.2 := by
  obtain ⟨S, h1, h2⟩ := hw.2 i q hq
  unfold ck_obj at h
  rw [h1] at h
  rcases S with o' | r
  · cases h
    obtain ⟨a, e⟩ := q
    rcases e with x | ⟨ci, fs⟩
    · exact h2.elim
    · obtain ⟨h3, h4⟩ := h2
      exact ⟨fs, by rw [← h3], h4⟩
  · cases h
theorem ck_row_ok {i : Nat} {r : FieldType × Nat} {q : Nat × va_E} (h : ck_row sh i = some r) (hw : ck_w sh tys ws nc) (hq : ws[i]? = some q) : ∃ (cA : ClassId) (cn : ck_Cn) (t : Nat), q.2 = .inl (cA, r.2, cn) ∧ tys[t]? = some (cA, r.1) ∧ ck_cnt r.1 cn := by
  obtain ⟨S, h1, h2⟩ := hw.2 i q hq
  unfold ck_row at h
  rw [h1] at h
  rcases S with o' | r
  · cases h
  · cases h
    obtain ⟨a, e⟩ := q
    rcases e with ⟨cA, n, cn⟩ | x
    · obtain ⟨h3, ⟨t, h4⟩, h5⟩ := h2
      exact ⟨cA, cn, t, by rw [← h3], h4, h5⟩
    · exact h2.elim
theorem ck_look_ok {i j : Nat} {F : ck_F} {q : Nat × va_E} {v : Value} (h : ck_look X i j = some F) (hX : ck_gd st ws X) (hq : ws[i]? = some q) (hv : ck_slot q.2 j v) : ck_fv st ws F v := by
  obtain ⟨q', h1, h2⟩ := hX _ (ck_look_mem h)
  have e : q' = q := Option.some.inj (h1.symm.trans hq)
  subst e
  exact h2 v hv
def ck_fld (fl : List ck_FL) (x : Nat) : Option ck_FL := fl.find? (fun q => q.1 == x)
theorem ck_fld_ok {fl : List ck_FL} {x : Nat} {q : ck_FL} (h : ck_fld fl x = some q) (hF : ∀ q ∈ fl, ck_okF cl Ts own q) : q.1 = x ∧ ck_okF cl Ts own q := ⟨by simpa using List.find?_some h, hF _ (List.mem_of_find?_eq_some h)⟩
def ck_putX (X : ck_D) (i j : Nat) (F : ck_F) : ck_D := ((i, j), F) :: X.filter (fun x => !(x.1.1 == i && x.1.2 == j))
def ck_f (fl : List ck_FL) (sh : List ck_Sh) (wr : List (Nat × Nat)) (ini : Bool) (pc : Nat) (i : Instr × Nat) (I : List ck_I) (L : List (Nat × ck_V)) (S : List ck_V) (X : ck_D) (k : Nat × Nat × Nat) : Option (List (Nat × ck_S)) := match i, S with
  | (.getfield x, 3), .inr (0, i) :: S => match ck_fld fl x, ck_obj sh i with
    | some q, some o => if o.1 = q.2.1 ∧ q.2.2.1 < o.2 then (match ck_look X i (q.2.2.1 + 1) with
      | some F => (match ck_pushF I F with
        | some r => some [(pc + 3, (r.1, L, r.2 :: S, X, k))]
        | none => none)
      | none => none) else none
    | _, _ => none
  | (.putfield x, 3), V :: .inr (0, i) :: S => match ck_fld fl x, ck_obj sh i with
    | some q, some o => if o.1 = q.2.1 ∧ q.2.2.1 < o.2 ∧ ck_tyok q.2.2.2.1 V = true ∧ wr.contains (i, q.2.2.1 + 1) = true ∧ (q.2.2.2.2 = true → ini = true) then some [(pc + 3, (I, L, S, ck_putX X i (q.2.2.1 + 1) (ck_toF I V), k))] else none
    | _, _ => none
  | _, _ => none
theorem ck_setobj {i a ci k : Nat} {fs : List Value} {v : Value} {F : ck_F} (hG : ck_G D cl st sh A s nL wr ws0 I L S X nc ν ws tys H locs ls vs) (hi : ws[i]? = some (a, .inr (ci, fs))) (hk : k < fs.length) (hv : ck_fv st ws F v) (hwr : (i, k + 1) ∈ wr) {H1 : Heap} {locs1 : List Loc} (hP : va_P D cl (ws.set i (a, .inr (ci, fs.set k v))) H1) (hD : va_D A (ws.set i (a, .inr (ci, fs.set k v)))) (hS : va_S A s.heap H1 locs1) : ck_G D cl st sh A s nL wr ws0 I L S (ck_putX X i (k + 1) F) nc ν (ws.set i (a, .inr (ci, fs.set k v))) tys H1 locs1 ls vs := by
  obtain ⟨h1, h2, h3, h4, h5, h6, h7, h8, h9, h10⟩ := hG
  have ho := ck_on.set (e' := .inr (ci, fs.set k v)) hi
  have hfr : ck_fr wr ws (ws.set i (a, .inr (ci, fs.set k v))) := ck_fr.set hi (fun j hj h0 w hw => by
    match j, hj, hw with
    | 0, _, hw => exact hw
    | j + 1, hj, hw =>
      have hne : k ≠ j := fun z => hj (by rw [← z]; exact hwr)
      have hw' : (fs.set k v)[j]? = some w := hw
      rw [List.getElem?_set_ne hne] at hw'
      exact hw')
  refine ⟨h1, h2.on ho (Nat.le_refl _) (fun _ _ => rfl), h3.on ho (Nat.le_refl _) (fun _ _ => rfl), ?_, h5.set hi ?_, h6, hP, hD, hS, h10.trans hfr⟩
  · intro x hx
    rcases List.mem_cons.mp hx with rfl | hx
    · refine ⟨(a, .inr (ci, fs.set k v)), List.getElem?_set_self (List.getElem?_eq_some_iff.mp hi).1, fun w hw => ?_⟩
      have hw' : (fs.set k v)[k]? = some w := hw
      rw [List.getElem?_set_self hk] at hw'
      have e : v = w := Option.some.inj hw'
      rw [← e]; exact hv.on ho
    · obtain ⟨g1, g2⟩ := List.mem_filter.mp hx
      obtain ⟨q, hq, hv'⟩ := h4 x g1
      by_cases hc : i = x.1.1
      · have hne : x.1.2 ≠ k + 1 := fun z => by simp [hc.symm, z] at g2
        rw [← hc] at hq
        have e : q = (a, .inr (ci, fs)) := Option.some.inj (hq.symm.trans hi)
        subst e
        refine ⟨(a, .inr (ci, fs.set k v)), by rw [← hc]; exact List.getElem?_set_self (List.getElem?_eq_some_iff.mp hi).1, fun w hw => (hv' w ?_).on ho⟩
        match hj : x.1.2, hw with
        | 0, hw => exact hw.elim
        | j + 1, hw =>
          have hne2 : k ≠ j := fun z => hne (by rw [hj, z])
          have hw' : (fs.set k v)[j]? = some w := hw
          rw [List.getElem?_set_ne hne2] at hw'
          exact hw'
      · exact ⟨q, by rw [List.getElem?_set_ne hc]; exact hq, fun w hw => (hv' w hw).on ho⟩
  · intro S hf
    rcases S with o | r
    · exact ⟨hf.1, by show (fs.set k v).length = _; rw [List.length_set]; exact hf.2⟩
    · exact hf.elim
theorem ck_f_ok {fl : List ck_FL} {ini : Bool} {i : Instr × Nat} {xs : List (Nat × ck_S)} (hx : p.tables.exec = Jvm.exec) (hb : c.code = cc) (hown : s.vm.findClass own = some m.cls) (hts : ∀ w ∈ Ts, w.before args s = true) (hC : ck_okC cl Ts) (hF : ∀ q ∈ fl, ck_okF cl Ts own q) (hini : ini = true → meth.name = "<init>") (hd : decode cc pc = .ok i) (h : ck_f fl sh wr ini pc i I L S X (nc, mc, ms) = some xs) (hn : n ≤ I.length) (hG : ck_G D cl st sh A s nL wr ws0 I L S X nc ν ws tys H locs ls vs)
    (K : ∀ x ∈ xs, ck_N p l e R s m args below meth c Q D cl st sh A nL wr ws0 n ν x) : W p l e R s m args below meth c H locs mc ms Q (F0 m pc ls vs) := by
  unfold ck_f at h
  split at h
  · split at h
    · rename_i q o hq ho
      split at h
      · rename_i hc
        split at h
        · rename_i F hF'
          split at h
          · rename_i r hr
            cases h
            obtain ⟨v, vs', rfl, ⟨a, h1, rfl⟩, h2⟩ := hG.gs.pop
            obtain ⟨fs, h3, h4⟩ := ck_obj_ok ho hG.2.2.2.2.1 h1
            obtain ⟨e1, C, T, N, g1, g2, g3, g4⟩ := ck_fld_ok hq hF
            obtain ⟨a, e⟩ := a
            simp only at h3
            subst h3
            rw [e1] at g3
            rw [hc.1] at h1
            have hk : q.2.2.1 < fs.length := by omega
            refine va_get hx hb hts (hC _ _ _ _ g1).1 hown hG.2.2.2.2.2.1 hG.2.2.2.2.2.2.1 _ h1 g1 _ g2 (hts _ g3) (fun _ z => z) (List.getElem?_eq_getElem hk) hd ?_
            exact ck_pushF_ok (hG.stk h2) hn (ck_look_ok hF' hG.2.2.2.1 h1 (List.getElem?_eq_getElem hk)) hr (K _ List.mem_cons_self)
          · cases h
        · cases h
      · cases h
    · cases h
  · split at h
    · rename_i q o hq ho
      split at h
      · rename_i hc
        obtain ⟨c1, c2, c3, c4, c5⟩ := hc
        cases h
        obtain ⟨v, vs', rfl, hv, h2⟩ := hG.gs.pop
        obtain ⟨w, vs2, rfl, ⟨a, h1, rfl⟩, h5⟩ := h2.pop
        obtain ⟨fs, h3, h4⟩ := ck_obj_ok ho hG.2.2.2.2.1 h1
        obtain ⟨e1, C, T, N, g1, g2, g3, g456⟩ := ck_fld_ok hq hF
        obtain ⟨g4, g5, g6⟩ := g456.resolve_left (fun z => by rw [z] at c3; exact ck_tychar c3)
        obtain ⟨a, e⟩ := a
        simp only at h3
        subst h3
        rw [e1] at g3
        rw [c1] at h1
        have hk : q.2.2.1 < fs.length := by omega
        obtain ⟨t1, t2⟩ := ck_tyok_ok c3 hv
        obtain ⟨b1, ⟨ty0, b2⟩, b3⟩ := hC _ _ _ _ g1
        have hwr : (_, q.2.2.1 + 1) ∈ wr := List.contains_iff_mem.mp c4
        have KK := fun (H1 : Heap) (locs1 : List Loc) hP hD hS => K _ List.mem_cons_self ν (ws.set _ (a, .inr (q.2.1, fs.set q.2.2.1 v))) tys H1 locs1 ls vs2 (fun _ _ => rfl) (ck_setobj (hG.stk h5) h1 hk (ck_toF_ok hG.gi hv) hwr hP hD hS)
        cases hfin : q.2.2.2.2 with
        | false => exact va_put hx hb hts b1 ty0 b2 b3 hown hG.2.2.2.2.2.1 hG.2.2.2.2.2.2.1 hG.2.2.2.2.2.2.2.1 hG.2.2.2.2.2.2.2.2.1 _ h1 g1 _ g2 (hts _ g3) (fun _ z => z) (g5.trans hfin) g4 t1 t2 hk hd KK
        | true => exact va_putF hx hb hts b1 ty0 b2 b3 hown hG.2.2.2.2.2.1 hG.2.2.2.2.2.2.1 hG.2.2.2.2.2.2.2.1 hG.2.2.2.2.2.2.2.2.1 _ h1 g1 _ g2 (hts _ g3) (fun _ z => z) (g5.trans hfin) (hini (c5 hfin)) (g6 hfin) g4 t1 t2 hk hd KK
      · cases h
    · cases h
  · cases h
end CKC
end
section
/-! THE TABLE RUN, 5: rows read and written -/
section CKR
variable {p : Program} {l : Launch} {e : Env} {R : Room} {s : State} {m : MethodId} {args : Array Value} {below : List Frame} {meth : Method} {c : Code} {Q : State → Prop}
variable {cc : ByteArray} {D : va_G} {cl : List vw_C} {st : Nat → Nat} {sh : List ck_Sh} {A : Nat → Prop} {nL : Nat} {wr : List (Nat × Nat)} {ws0 : va_W}
variable {I I' : List ck_I} {L : List (Nat × ck_V)} {S S' : List ck_V} {X : ck_D} {nc mc ms n : Nat} {ν ν' : Nat → Int} {ws : va_W} {tys : List (ClassId × FieldType)} {H : Heap} {locs : List Loc} {ls : Array Slot} {vs vs' : List Value} {pc : Nat}
def ck_inR (I : List ck_I) (f : ck_L) (n : Nat) : Bool := decide (0 ≤ (ck_rng I f).1) && decide ((ck_rng I f).2 < (n : Int))
theorem ck_inR_ok {f : ck_L} {N : Nat} {x : Int32} (h : ck_inR I f N = true) (hi : ck_gi ν I) (hx : x.toInt = ck_ev ν f) : vp_in x N ∧ x.toNatClampNeg < N ∧ x.toNatClampNeg = x.toInt.toNat ∧ 0 ≤ x.toInt := by
  have rx := ck_rng32 hi hx
  simp only [ck_inR, Bool.and_eq_true, decide_eq_true_eq] at h
  have e : x.toNatClampNeg = x.toInt.toNat := rfl
  refine ⟨vp_in_iff.mpr ⟨by omega, by omega⟩, by omega, e, by omega⟩
def ck_lookA (X : ck_D) (i : Nat) (f : ck_L) : Option ck_F := if f.2.1 = 0 then (match ck_look X i (f.2.2.toNat + 1) with
  | some F => some F
  | none => ck_look X i 0) else ck_look X i 0
theorem ck_lookA_ok {i N j : Nat} {f : ck_L} {F : ck_F} {q : Nat × va_E} {cA : ClassId} {cn : ck_Cn} {x : Int32} (h : ck_lookA X i f = some F) (hX : ck_gd st ws X) (hq : ws[i]? = some q) (e : q.2 = .inl (cA, N, cn)) (hx : x.toInt = ck_ev ν f) (hj : j = x.toInt.toNat) (hN : j < N) : ck_fv st ws F (ck_elem cn j) := by
  have any : ∀ G, ck_look X i 0 = some G → ck_fv st ws G (ck_elem cn j) := fun G hG => ck_look_ok hG hX hq (by rw [e]; exact ⟨j, hN, rfl⟩)
  unfold ck_lookA at h
  split at h
  · rename_i h0
    have ex : x.toInt = f.2.2 := by rw [hx]; unfold ck_ev; rw [h0, Int.zero_mul, Int.zero_add]
    split at h
    · rename_i G hG
      cases h
      refine ck_look_ok hG hX hq ?_
      rw [e, ← ex, ← hj]
      exact ⟨hN, rfl⟩
    · exact any _ h
  · exact any _ h
def ck_join (F G : ck_F) : Option ck_F := match F, G with
  | .inl a, .inl b => some (.inl (min a.1 b.1, max a.2 b.2))
  | .inr a, .inr b => if a = b then some (.inr a) else none
  | _, _ => none
theorem ck_join_ok {F G K : ck_F} {v : Value} (h : ck_join F G = some K) (hv : ck_fv st ws F v ∨ ck_fv st ws G v) : ck_fv st ws K v := by
  unfold ck_join at h
  split at h
  · cases h
    rcases hv with ⟨x, rfl, h1, h2⟩ | ⟨x, rfl, h1, h2⟩
    · exact ⟨x, rfl, by dsimp only; omega, by dsimp only; omega⟩
    · exact ⟨x, rfl, by dsimp only; omega, by dsimp only; omega⟩
  · split at h
    · rename_i e
      cases h
      subst e
      exact hv.elim id id
    · cases h
  · cases h
def ck_wrA (X : ck_D) (i : Nat) (f : ck_L) (F : ck_F) : ck_D := X.filterMap fun x =>
  if x.1.1 = i then (if f.2.1 = 0 ∧ x.1.2 ≠ 0 then (if x.1.2 = f.2.2.toNat + 1 then some (x.1, F) else some x) else (ck_join x.2 F).map fun G => (x.1, G)) else some x
theorem ck_setrow {i a N j : Nat} {cA : ClassId} {cn cn' : ck_Cn} {v : Value} {F : ck_F} {f : ck_L} (hG : ck_G D cl st sh A s nL wr ws0 I L S X nc ν ws tys H locs ls vs) (hi : ws[i]? = some (a, .inl (cA, N, cn))) (hel : ∀ q, ck_elem cn' q = if q = j then v else ck_elem cn q) (hcn : ∀ ty, ck_cnt ty cn → ck_cnt ty cn') (hf : f.2.1 = 0 → j = f.2.2.toNat) (hv : ck_fv st ws F v) (hwr : (i, 0) ∈ wr) {H1 : Heap} {locs1 : List Loc} (hP : va_P D cl (ws.set i (a, .inl (cA, N, cn'))) H1) (hD : va_D A (ws.set i (a, .inl (cA, N, cn')))) (hS : va_S A s.heap H1 locs1) : ck_G D cl st sh A s nL wr ws0 I L S (ck_wrA X i f F) nc ν (ws.set i (a, .inl (cA, N, cn'))) tys H1 locs1 ls vs := by
  obtain ⟨h1, h2, h3, h4, h5, h6, h7, h8, h9, h10⟩ := hG
  have ho := ck_on.set (e' := .inl (cA, N, cn')) hi
  have hfr : ck_fr wr ws (ws.set i (a, .inl (cA, N, cn'))) := ck_fr.set hi (fun j hj h0 w hw => absurd hwr h0)
  refine ⟨h1, h2.on ho (Nat.le_refl _) (fun _ _ => rfl), h3.on ho (Nat.le_refl _) (fun _ _ => rfl), ?_, h5.set hi ?_, h6, hP, hD, hS, h10.trans hfr⟩
  · intro y hy
    obtain ⟨x, hx, hxy⟩ := List.mem_filterMap.mp hy
    obtain ⟨q, hq, hv'⟩ := h4 x hx
    by_cases hc : x.1.1 = i
    · rw [if_pos hc] at hxy
      rw [hc] at hq
      have eq : q = (a, .inl (cA, N, cn)) := Option.some.inj (hq.symm.trans hi)
      subst eq
      have hnew : (ws.set i (a, .inl (cA, N, cn')))[i]? = some (a, .inl (cA, N, cn')) := List.getElem?_set_self (List.getElem?_eq_some_iff.mp hi).1
      by_cases hz : f.2.1 = 0 ∧ x.1.2 ≠ 0
      · rw [if_pos hz] at hxy
        have ej := hf hz.1
        obtain ⟨k, hk⟩ : ∃ k, x.1.2 = k + 1 := ⟨x.1.2 - 1, by omega⟩
        by_cases hs : x.1.2 = f.2.2.toNat + 1
        · rw [if_pos hs] at hxy
          cases hxy
          refine ⟨_, by rw [hc]; exact hnew, fun w hw => ?_⟩
          dsimp only at hw
          rw [hk] at hw
          obtain ⟨-, ew⟩ := hw
          rw [ew, hel k, if_pos (by omega)]
          exact hv.on ho
        · rw [if_neg hs] at hxy
          cases hxy
          refine ⟨_, by rw [hc]; exact hnew, fun w hw => (hv' w ?_).on ho⟩
          dsimp only at hw ⊢
          rw [hk] at hw ⊢
          obtain ⟨hl, ew⟩ := hw
          rw [hel k, if_neg (by omega)] at ew
          exact ⟨hl, ew⟩
      · rw [if_neg hz] at hxy
        cases hjn : ck_join x.2 F with
        | none => rw [hjn] at hxy; cases hxy
        | some G =>
          rw [hjn] at hxy
          cases hxy
          refine ⟨_, by rw [hc]; exact hnew, fun w hw => ?_⟩
          dsimp only at hw
          have key : ∀ k, k < N → w = ck_elem cn' k → (ck_slot (.inl (cA, N, cn)) x.1.2 (ck_elem cn k)) → ck_fv st (ws.set i (a, .inl (cA, N, cn'))) G w := fun k hk ew hs => by
            rw [hel k] at ew
            by_cases hkj : k = j
            · rw [if_pos hkj] at ew
              rw [ew]
              exact (ck_join_ok hjn (Or.inr hv)).on ho
            · rw [if_neg hkj] at ew
              rw [ew]
              exact (ck_join_ok hjn (Or.inl (hv' _ hs))).on ho
          match hx2 : x.1.2, hw with
          | 0, hw =>
            obtain ⟨k, hk, ew⟩ := hw
            exact key k hk ew (by rw [hx2]; exact ⟨k, hk, rfl⟩)
          | k + 1, hw =>
            obtain ⟨hk, ew⟩ := hw
            exact key k hk ew (by rw [hx2]; exact ⟨hk, rfl⟩)
    · rw [if_neg hc] at hxy
      cases hxy
      exact ⟨q, by rw [List.getElem?_set_ne (fun z => hc z.symm)]; exact hq, fun w hw => (hv' w hw).on ho⟩
  · intro S hs
    rcases S with o | r
    · exact hs.elim
    · exact ⟨hs.1, hs.2.1, hcn _ hs.2.2⟩
def ck_boolF (I : List ck_I) (f : ck_L) : Option ck_F := let a := ck_rng I f; if 0 ≤ a.1 ∧ a.2 ≤ 1 then some (.inl a) else none
theorem ck_boolI {x : Int32} (h0 : 0 ≤ x.toInt) (h1 : x.toInt ≤ 1) : vp_nar .boolean x = x := by
  rcases (show x.toInt = 0 ∨ x.toInt = 1 by omega) with q | q
  · have e : x = 0 := Int32.toInt_inj.mp q
    rw [e]; rfl
  · have e : x = 1 := Int32.toInt_inj.mp q
    rw [e]; rfl
def ck_byteF (I : List ck_I) (f : ck_L) : ck_F := let a := ck_rng I f; if -128 ≤ a.1 ∧ a.2 ≤ 127 then .inl a else .inl (-128, 127)
theorem ck_byteF_ok {f : ck_L} {x : Int32} (hi : ck_gi ν I) (hx : x.toInt = ck_ev ν f) : ck_fv st ws (ck_byteF I f) (.int (vp_nar .byte x)) := by
  have rx := ck_rng32 hi hx
  rw [vp_nar_byte]
  unfold ck_byteF
  dsimp only
  split
  · rw [ck_byteI (by omega) (by omega)]
    exact ⟨x, rfl, rx⟩
  · exact ⟨_, rfl, ck_byteR x⟩
theorem ck_upd_el (f : Nat → Int32) (j : Nat) (x : Int32) (q : Nat) : ck_elem (.inl (upd f j x)) q = if q = j then .int x else ck_elem (.inl f) q := by
  show Value.int (if q = j then x else f q) = _
  split <;> rfl
theorem ck_up_el (f : Nat → Option Nat) (j : Nat) (x : Option Nat) (q : Nat) : ck_elem (.inr (.inr (.inr (.inr (va_up f j x))))) q = if q = j then va_rf x else ck_elem (.inr (.inr (.inr (.inr f)))) q := by
  show va_rf (if q = j then x else f q) = _
  split <;> rfl
def ck_ld (sh : List ck_Sh) (pc : Nat) (i : Instr × Nat) (I : List ck_I) (L : List (Nat × ck_V)) (S : List ck_V) (X : ck_D) (k : Nat × Nat × Nat) : Option (List (Nat × ck_S)) := match i, S with
  | (.iaload, 1), .inl f :: .inr (0, i) :: S => match ck_row sh i, ck_lookA X i f with
    | some (.int, N), some F => if ck_inR I f N = true then (match ck_pushF I F with
      | some r => some [(pc + 1, (r.1, L, r.2 :: S, X, k))]
      | none => none) else none
    | _, _ => none
  | (.baload, 1), .inl f :: .inr (0, i) :: S => match ck_row sh i, ck_lookA X i f with
    | some (.byte, N), some F => if ck_inR I f N = true then (match ck_pushF I F with
      | some r => some [(pc + 1, (r.1, L, r.2 :: S, X, k))]
      | none => none) else none
    | some (.boolean, N), some F => if ck_inR I f N = true then (match ck_pushF I F with
      | some r => some [(pc + 1, (r.1, L, r.2 :: S, X, k))]
      | none => none) else none
    | _, _ => none
  | (.aaload, 1), .inl f :: .inr (0, i) :: S => match ck_row sh i, ck_lookA X i f with
    | some (.object _, N), some F => if ck_inR I f N = true then (match ck_pushF I F with
      | some r => some [(pc + 1, (r.1, L, r.2 :: S, X, k))]
      | none => none) else none
    | _, _ => none
  | (.arraylength, 1), .inr (0, i) :: S => match ck_row sh i with
    | some r => if r.2 < 2147483648 then some [(pc + 1, (I, L, .inl (ck_k r.2) :: S, X, k))] else none
    | none => none
  | _, _ => none
theorem ck_ld_ok {i : Instr × Nat} {xs : List (Nat × ck_S)} (hx : p.tables.exec = Jvm.exec) (hb : c.code = cc) (hd : decode cc pc = .ok i) (h : ck_ld sh pc i I L S X (nc, mc, ms) = some xs) (hn : n ≤ I.length) (hG : ck_G D cl st sh A s nL wr ws0 I L S X nc ν ws tys H locs ls vs)
    (K : ∀ x ∈ xs, ck_N p l e R s m args below meth c Q D cl st sh A nL wr ws0 n ν x) : W p l e R s m args below meth c H locs mc ms Q (F0 m pc ls vs) := by
  have hK := hG.2.2.2.2.2.1
  have hP := hG.2.2.2.2.2.2.1
  unfold ck_ld at h
  split at h
  · split at h
    · rename_i N F hr hF
      split at h
      · rename_i hin
        split at h
        · rename_i r hpu
          cases h
          obtain ⟨v, vs', rfl, ⟨w1, x, rfl, e1⟩, h2⟩ := hG.gs.pop
          obtain ⟨v, vs2, rfl, ⟨⟨a, ee⟩, h1, rfl⟩, h5⟩ := h2.pop
          obtain ⟨cA, cn, t, h3, h4, h6⟩ := ck_row_ok hr hG.2.2.2.2.1 h1
          obtain ⟨b1, b2, b3, b4⟩ := ck_inR_ok hin hG.gi e1
          have hfv := ck_lookA_ok hF hG.2.2.2.1 h1 h3 e1 b3 b2
          dsimp only at h3 h4
          subst h3
          rcases cn with g | cn
          · exact va_iald hx hb hK hP _ t h1 h4 b1 hd (ck_pushF_ok (hG.stk h5) hn hfv hpu (K _ List.mem_cons_self))
          · exact h6.elim
        · cases h
      · cases h
    · cases h
  · split at h
    · rename_i N F hr hF
      split at h
      · rename_i hin
        split at h
        · rename_i r hpu
          cases h
          obtain ⟨v, vs', rfl, ⟨w1, x, rfl, e1⟩, h2⟩ := hG.gs.pop
          obtain ⟨v, vs2, rfl, ⟨⟨a, ee⟩, h1, rfl⟩, h5⟩ := h2.pop
          obtain ⟨cA, cn, t, h3, h4, h6⟩ := ck_row_ok hr hG.2.2.2.2.1 h1
          obtain ⟨b1, b2, b3, b4⟩ := ck_inR_ok hin hG.gi e1
          have hfv := ck_lookA_ok hF hG.2.2.2.1 h1 h3 e1 b3 b2
          dsimp only at h3 h4
          subst h3
          rcases cn with g | cn
          · exact va_bald hx hb hK hP _ t h1 h4 b1 hd (ck_pushF_ok (hG.stk h5) hn hfv hpu (K _ List.mem_cons_self))
          · exact h6.elim
        · cases h
      · cases h
    · rename_i N F hr hF
      split at h
      · rename_i hin
        split at h
        · rename_i r hpu
          cases h
          obtain ⟨v, vs', rfl, ⟨w1, x, rfl, e1⟩, h2⟩ := hG.gs.pop
          obtain ⟨v, vs2, rfl, ⟨⟨a, ee⟩, h1, rfl⟩, h5⟩ := h2.pop
          obtain ⟨cA, cn, t, h3, h4, h6⟩ := ck_row_ok hr hG.2.2.2.2.1 h1
          obtain ⟨b1, b2, b3, b4⟩ := ck_inR_ok hin hG.gi e1
          have hfv := ck_lookA_ok hF hG.2.2.2.1 h1 h3 e1 b3 b2
          dsimp only at h3 h4
          subst h3
          rcases cn with g | cn
          · exact va_zald hx hb hK hP _ t h1 h4 b1 hd (ck_pushF_ok (hG.stk h5) hn hfv hpu (K _ List.mem_cons_self))
          · exact h6.elim
        · cases h
      · cases h
    · cases h
  · split at h
    · rename_i C N F hr hF
      split at h
      · rename_i hin
        split at h
        · rename_i r hpu
          cases h
          obtain ⟨v, vs', rfl, ⟨w1, x, rfl, e1⟩, h2⟩ := hG.gs.pop
          obtain ⟨v, vs2, rfl, ⟨⟨a, ee⟩, h1, rfl⟩, h5⟩ := h2.pop
          obtain ⟨cA, cn, t, h3, h4, h6⟩ := ck_row_ok hr hG.2.2.2.2.1 h1
          obtain ⟨b1, b2, b3, b4⟩ := ck_inR_ok hin hG.gi e1
          have hfv := ck_lookA_ok hF hG.2.2.2.1 h1 h3 e1 b3 b2
          dsimp only at h3 h4
          subst h3
          rcases cn with g | g | g | g | g
          · exact h6.elim
          · exact h6.elim
          · exact h6.elim
          · exact h6.elim
          · exact va_aldq hx hb hK hP _ t h1 h4 b1 hd (ck_pushF_ok (hG.stk h5) hn hfv hpu (K _ List.mem_cons_self))
        · cases h
      · cases h
    · cases h
  · split at h
    · rename_i r hr
      split at h
      · rename_i hlt
        cases h
        obtain ⟨v, vs', rfl, ⟨⟨a, ee⟩, h1, rfl⟩, h5⟩ := hG.gs.pop
        obtain ⟨cA, cn, t, h3, h4, h6⟩ := ck_row_ok hr hG.2.2.2.2.1 h1
        dsimp only at h3 h4
        subst h3
        refine va_alen hx hb hK hP _ t h1 h4 rfl hd (ck_pushv (hG.stk h5) hn (f := ck_k r.2) ?_ (K _ List.mem_cons_self))
        have e1 : (Int32.ofNat r.2).toInt = (r.2 : Int) := nI_toInt (n := r.2) (by omega)
        rw [e1]
        exact ck_k_ok hG.gi _
      · cases h
    · cases h
  · cases h
def ck_sr (cl : List vw_C) (sh : List ck_Sh) (wr : List (Nat × Nat)) (pc : Nat) (i : Instr × Nat) (I : List ck_I) (L : List (Nat × ck_V)) (S : List ck_V) (X : ck_D) (k : Nat × Nat × Nat) : Option (List (Nat × ck_S)) := match i, S with
  | (.iastore, 1), .inl g :: .inl f :: .inr (0, i) :: S => match ck_row sh i with
    | some (.int, N) => if ck_inR I f N = true ∧ wr.contains (i, 0) = true then some [(pc + 1, (I, L, S, ck_wrA X i f (.inl (ck_rng I g)), k))] else none
    | _ => none
  | (.bastore, 1), .inl g :: .inl f :: .inr (0, i) :: S => match ck_row sh i with
    | some (.byte, N) => if ck_inR I f N = true ∧ wr.contains (i, 0) = true then some [(pc + 1, (I, L, S, ck_wrA X i f (ck_byteF I g), k))] else none
    | some (.boolean, N) => if ck_inR I f N = true ∧ wr.contains (i, 0) = true ∧ 0 ≤ (ck_rng I g).1 ∧ (ck_rng I g).2 ≤ 1 then some [(pc + 1, (I, L, S, ck_wrA X i f (.inl (ck_rng I g)), k))] else none
    | _ => none
  | (.aastore, 1), .inr (1, z) :: .inl f :: .inr (0, i) :: S => match ck_row sh i with
    | some (.object _, N) => if ck_inR I f N = true ∧ wr.contains (i, 0) = true then some [(pc + 1, (I, L, S, ck_wrA X i f (.inr (1, z)), k))] else none
    | _ => none
  | (.aastore, 1), .inr (0, z) :: .inl f :: .inr (0, i) :: S => match ck_row sh i, ck_obj sh z with
    | some (.object C, N), some o => match cl[o.1]? with
      | some r => if r.1 = C ∧ ck_inR I f N = true ∧ wr.contains (i, 0) = true then some [(pc + 1, (I, L, S, ck_wrA X i f (.inr (0, z)), k))] else none
      | none => none
    | _, _ => none
  | _, _ => none
theorem ck_sr_ok {i : Instr × Nat} {xs : List (Nat × ck_S)} (hx : p.tables.exec = Jvm.exec) (hb : c.code = cc) (hd : decode cc pc = .ok i) (h : ck_sr cl sh wr pc i I L S X (nc, mc, ms) = some xs) (hG : ck_G D cl st sh A s nL wr ws0 I L S X nc ν ws tys H locs ls vs)
    (K : ∀ x ∈ xs, ck_N p l e R s m args below meth c Q D cl st sh A nL wr ws0 n ν x) : W p l e R s m args below meth c H locs mc ms Q (F0 m pc ls vs) := by
  have hK := hG.2.2.2.2.2.1
  have hP := hG.2.2.2.2.2.2.1
  have hD := hG.2.2.2.2.2.2.2.1
  have hS := hG.2.2.2.2.2.2.2.2.1
  have hcst : ∀ {f : ck_L} {x : Int32} {j : Nat}, x.toInt = ck_ev ν f → j = x.toInt.toNat → f.2.1 = 0 → j = f.2.2.toNat := fun {f x j} e1 e2 e3 => by
    rw [e2, e1]; unfold ck_ev; rw [e3, Int.zero_mul, Int.zero_add]
  unfold ck_sr at h
  split at h
  · split at h
    · rename_i N hr
      split at h
      · rename_i hin
        cases h
        obtain ⟨v, vs', rfl, ⟨w0, y, rfl, e0⟩, h0⟩ := hG.gs.pop
        obtain ⟨v, vs', rfl, ⟨w1, x, rfl, e1⟩, h2⟩ := h0.pop
        obtain ⟨v, vs2, rfl, ⟨⟨a, ee⟩, h1, rfl⟩, h5⟩ := h2.pop
        obtain ⟨cA, cn, t, h3, h4, h6⟩ := ck_row_ok hr hG.2.2.2.2.1 h1
        obtain ⟨b1, b2, b3, b4⟩ := ck_inR_ok hin.1 hG.gi e1
        dsimp only at h3 h4
        subst h3
        rcases cn with g | cn
        · have hfv : ck_fv st ws (.inl (ck_rng I _)) (.int y) := ⟨y, rfl, ck_rng32 hG.gi e0⟩
          exact va_iast hx hb hK hP hD hS _ t h1 h4 b1 hd (fun H1 locs1 hP1 hD1 hS1 => K _ List.mem_cons_self ν _ tys H1 locs1 ls vs2 (fun _ _ => rfl) (ck_setrow (hG.stk h5) h1 (ck_upd_el g _ _) (fun ty hty => by cases ty <;> exact hty) (hcst e1 b3) hfv (List.contains_iff_mem.mp hin.2) hP1 hD1 hS1))
        · exact h6.elim
      · cases h
    · cases h
  · split at h
    · rename_i N hr
      split at h
      · rename_i hin
        cases h
        obtain ⟨v, vs', rfl, ⟨w0, y, rfl, e0⟩, h0⟩ := hG.gs.pop
        obtain ⟨v, vs', rfl, ⟨w1, x, rfl, e1⟩, h2⟩ := h0.pop
        obtain ⟨v, vs2, rfl, ⟨⟨a, ee⟩, h1, rfl⟩, h5⟩ := h2.pop
        obtain ⟨cA, cn, t, h3, h4, h6⟩ := ck_row_ok hr hG.2.2.2.2.1 h1
        obtain ⟨b1, b2, b3, b4⟩ := ck_inR_ok hin.1 hG.gi e1
        dsimp only at h3 h4
        subst h3
        rcases cn with g | cn
        · exact va_bast hx hb hK hP hD hS _ t h1 h4 b1 hd (fun H1 locs1 hP1 hD1 hS1 => K _ List.mem_cons_self ν _ tys H1 locs1 ls vs2 (fun _ _ => rfl) (ck_setrow (hG.stk h5) h1 (ck_upd_el g _ _) (fun ty hty => by cases ty <;> exact hty) (hcst e1 b3) (ck_byteF_ok hG.gi e0) (List.contains_iff_mem.mp hin.2) hP1 hD1 hS1))
        · exact h6.elim
      · cases h
    · rename_i N hr
      split at h
      · rename_i hin
        cases h
        obtain ⟨v, vs', rfl, ⟨w0, y, rfl, e0⟩, h0⟩ := hG.gs.pop
        obtain ⟨v, vs', rfl, ⟨w1, x, rfl, e1⟩, h2⟩ := h0.pop
        obtain ⟨v, vs2, rfl, ⟨⟨a, ee⟩, h1, rfl⟩, h5⟩ := h2.pop
        obtain ⟨cA, cn, t, h3, h4, h6⟩ := ck_row_ok hr hG.2.2.2.2.1 h1
        obtain ⟨b1, b2, b3, b4⟩ := ck_inR_ok hin.1 hG.gi e1
        have ry := ck_rng32 hG.gi e0
        dsimp only at h3 h4
        subst h3
        rcases cn with g | cn
        · exact va_zast hx hb hK hP hD hS _ t h1 h4 b1 hd (fun H1 locs1 hP1 hD1 hS1 => K _ List.mem_cons_self ν _ tys H1 locs1 ls vs2 (fun _ _ => rfl) (ck_setrow (hG.stk h5) h1 (ck_upd_el g _ _) (fun ty hty => by cases ty <;> exact hty) (hcst e1 b3) (by rw [ck_boolI (by omega) (by omega)]; exact ⟨y, rfl, ry⟩) (List.contains_iff_mem.mp hin.2.1) hP1 hD1 hS1))
        · exact h6.elim
      · cases h
    · cases h
  · split at h
    · rename_i C N hr
      split at h
      · rename_i hin
        cases h
        obtain ⟨v, vs', rfl, hv, h0⟩ := hG.gs.pop
        have ev : v = .null := hv
        subst ev
        have hv2 : ∀ z, ck_fv st ws (.inr (1, z)) Value.null := fun _ => rfl
        obtain ⟨v, vs', rfl, ⟨w1, x, rfl, e1⟩, h2⟩ := h0.pop
        obtain ⟨v, vs2, rfl, ⟨⟨a, ee⟩, h1, rfl⟩, h5⟩ := h2.pop
        obtain ⟨cA, cn, t, h3, h4, h6⟩ := ck_row_ok hr hG.2.2.2.2.1 h1
        obtain ⟨b1, b2, b3, b4⟩ := ck_inR_ok hin.1 hG.gi e1
        dsimp only at h3 h4
        subst h3
        rcases cn with g | g | g | g | g
        · exact h6.elim
        · exact h6.elim
        · exact h6.elim
        · exact h6.elim
        · exact va_astqN hx hb hK hP hD hS _ t h1 h4 b1 hd (fun H1 locs1 hP1 hD1 hS1 => K _ List.mem_cons_self ν _ tys H1 locs1 ls vs2 (fun _ _ => rfl) (ck_setrow (hG.stk h5) h1 (ck_up_el g _ _) (fun ty hty => by cases ty <;> exact hty) (hcst e1 b3) (hv2 _) (List.contains_iff_mem.mp hin.2) hP1 hD1 hS1))
      · cases h
    · cases h
  · split at h
    · rename_i C N o hr ho
      split at h
      · rename_i r hcl
        split at h
        · rename_i hin
          obtain ⟨hC, hin⟩ := hin
          cases h
          obtain ⟨v, vs', rfl, hv, h0⟩ := hG.gs.pop
          have hv2 : ck_fv st ws (.inr (0, _)) v := hv
          obtain ⟨⟨b, be⟩, hq, rfl⟩ := hv
          obtain ⟨fs, hq2, -⟩ := ck_obj_ok ho hG.2.2.2.2.1 hq
          obtain ⟨v, vs', rfl, ⟨w1, x, rfl, e1⟩, h2⟩ := h0.pop
          obtain ⟨v, vs2, rfl, ⟨⟨a, ee⟩, h1, rfl⟩, h5⟩ := h2.pop
          obtain ⟨cA, cn, t, h3, h4, h6⟩ := ck_row_ok hr hG.2.2.2.2.1 h1
          obtain ⟨b1, b2, b3, b4⟩ := ck_inR_ok hin.1 hG.gi e1
          dsimp only at h3 h4 hq2
          subst h3
          subst hq2
          subst hC
          rcases cn with g | g | g | g | g
          · exact h6.elim
          · exact h6.elim
          · exact h6.elim
          · exact h6.elim
          · exact va_astq hx hb hK hP hD hS _ t _ _ h1 h4 hq hcl b1 hd (fun H1 locs1 hP1 hD1 hS1 => K _ List.mem_cons_self ν _ tys H1 locs1 ls vs2 (fun _ _ => rfl) (ck_setrow (hG.stk h5) h1 (ck_up_el g _ _) (fun ty hty => by cases ty <;> exact hty) (hcst e1 b3) hv2 (List.contains_iff_mem.mp hin.2) hP1 hD1 hS1))
        · cases h
      · cases h
    · cases h
  · cases h
end CKR
end
section
/-! THE TABLE RUN, 6: what is made, constants -/
section CKM
variable {p : Program} {l : Launch} {e : Env} {R : Room} {s : State} {m : MethodId} {args : Array Value} {below : List Frame} {meth : Method} {c : Code} {Q : State → Prop}
variable {cc : ByteArray} {D : va_G} {cl : List vw_C} {st : Nat → Nat} {sh : List ck_Sh} {A : Nat → Prop} {nL : Nat} {wr : List (Nat × Nat)} {ws0 : va_W}
variable {I I' : List ck_I} {L : List (Nat × ck_V)} {S S' : List ck_V} {X : ck_D} {nc mc ms n : Nat} {ν ν' : Nat → Int} {ws : va_W} {tys : List (ClassId × FieldType)} {H : Heap} {locs : List Loc} {ls : Array Slot} {vs vs' : List Value} {pc : Nat}
variable {Ts : List Cond} {AO : List String} {own : String}
def ck_okN (cl : List vw_C) (Ts : List Cond) (own : String) (q : Nat × Nat) : Prop := ∃ (C : String) (T : u_T) (N : Nat), cl[q.2]? = some (C, T, N) ∧ Cond.classLink own q.1 C ∈ Ts ∧ Cond.instantiable C N ∈ Ts ∧ Cond.initialized C ∈ Ts
def ck_okD (cl : List vw_C) (dt : List (List FieldType)) : Prop := ∀ (ci : Nat) (tl : List FieldType), dt[ci]? = some tl → ∃ (C : String) (T : u_T), cl[ci]? = some (C, T, tl.length) ∧ ∀ (k : Nat) (t : FieldType), tl[k]? = some t → parseFieldDescriptor (T k).2.2.1 = some t
def ck_okA (Ts : List Cond) (AO : List String) (own : String) (q : Nat × String) : Prop := Cond.classLink own q.1 q.2 ∈ Ts ∧ q.2 ∈ AO
def ck_dfl (t : FieldType) : ck_F := match t with
  | .int => .inl (0, 0)
  | .boolean => .inl (0, 0)
  | .byte => .inl (0, 0)
  | .object _ => .inr (1, 0)
  | .array _ => .inr (1, 0)
  | _ => .inr (9, 0)
theorem ck_dfl_ok (t : FieldType) : ck_fv st ws (ck_dfl t) (defaultValue t) := by
  unfold ck_dfl
  split
  · exact ⟨0, rfl, Int.le_refl _, Int.le_refl _⟩
  · exact ⟨0, rfl, Int.le_refl _, Int.le_refl _⟩
  · exact ⟨0, rfl, Int.le_refl _, Int.le_refl _⟩
  · exact rfl
  · exact rfl
  · trivial
def ck_newX (nc : Nat) : Nat → List FieldType → ck_D
  | _, [] => []
  | k, t :: tl => ((nc, k + 1), ck_dfl t) :: ck_newX nc (k + 1) tl
theorem ck_newX_mem {x : (Nat × Nat) × ck_F} : ∀ (tl : List FieldType) (k : Nat), x ∈ ck_newX nc k tl → ∃ (j : Nat) (t : FieldType), tl[j]? = some t ∧ x = ((nc, k + j + 1), ck_dfl t)
  | [], _, h => by cases h
  | t :: tl, k, h => by
    rcases List.mem_cons.mp h with e | h
    · exact ⟨0, t, rfl, e⟩
    · obtain ⟨j, t', h1, h2⟩ := ck_newX_mem tl (k + 1) h
      exact ⟨j + 1, t', by simpa using h1, by rw [h2]; congr 2; congr 1; omega⟩
/-- the world with one more cell -/
theorem ck_G.more {S2 : ck_Sh} {q : Nat} {x : va_E} {Y : ck_D} {tys' : List (ClassId × FieldType)} {H1 : Heap} (hG : ck_G D cl st sh A s nL wr ws0 I L S X nc ν ws tys H locs ls vs) (hsh : sh[nc]? = some S2) (hf : ck_fit tys' S2 x) (htys : ∀ (t : Nat) (y : ClassId × FieldType), tys[t]? = some y → ∃ t' : Nat, tys'[t']? = some y) (hY : ck_gd st (ws ++ [(q, x)]) Y) (hK : va_K D cl tys' s) (hP : va_P D cl (ws ++ [(q, x)]) H1) (hD : va_D A (ws ++ [(q, x)])) (hS : va_S A s.heap H1 locs) : ck_G D cl st sh A s nL wr ws0 I L (.inr (0, nc) :: S) (Y ++ X) (nc + 1) ν (ws ++ [(q, x)]) tys' H1 locs ls (.ref q :: vs) := by
  obtain ⟨h1, h2, h3, h4, h5, h6, h7, h8, h9, h10⟩ := hG
  have ho := ck_on.push (ws := ws) (q, x)
  have hl : ws.length = nc := h5.1
  have hat : (ws ++ [(q, x)])[nc]? = some (q, x) := by rw [← hl]; simp
  refine ⟨h1, h2.on ho (Nat.le_refl _) (fun _ _ => rfl), ⟨⟨(q, x), hat, rfl⟩, h3.on ho (Nat.le_refl _) (fun _ _ => rfl)⟩, hY.app (h4.push _), ⟨by simp [hl], fun i r hr => ?_⟩, hK, hP, hD, hS, h10.trans (ck_fr.push _)⟩
  rcases Nat.lt_trichotomy i ws.length with hi | hi | hi
  · rw [List.getElem?_append_left hi] at hr
    obtain ⟨S3, a1, a2⟩ := h5.2 i r hr
    exact ⟨S3, a1, a2.more htys⟩
  · rw [hi, hl, hat] at hr
    cases hr
    exact ⟨S2, by rw [hi, hl]; exact hsh, hf⟩
  · rw [List.getElem?_eq_none (by simp; omega)] at hr
    cases hr
def ck_rowX (nc : Nat) (F : ck_F) (tr : List (Nat × List Nat)) : ck_D := ((nc, 0), F) :: (match tr.find? (fun q => q.1 == nc) with
  | some q => q.2.map (fun j => ((nc, j + 1), F))
  | none => [])
theorem ck_rowX_ok {F : ck_F} {tr : List (Nat × List Nat)} {q N : Nat} {cA : ClassId} {cn : ck_Cn} (hl : ws.length = nc) (hv : ∀ j, ck_fv st (ws ++ [(q, .inl (cA, N, cn))]) F (ck_elem cn j)) : ck_gd st (ws ++ [(q, .inl (cA, N, cn))]) (ck_rowX nc F tr) := by
  have hat : (ws ++ [(q, (.inl (cA, N, cn) : va_E))])[nc]? = some (q, .inl (cA, N, cn)) := by rw [← hl]; simp
  intro x hx
  rcases List.mem_cons.mp hx with rfl | hx
  · exact ⟨_, hat, fun v hs => by obtain ⟨j, -, rfl⟩ := hs; exact hv j⟩
  · split at hx
    · obtain ⟨j, -, rfl⟩ := List.mem_map.mp hx
      exact ⟨_, hat, fun v hs => by obtain ⟨-, rfl⟩ := hs; exact hv j⟩
    · cases hx
theorem ck_tysapp {y : ClassId × FieldType} : ∀ (t : Nat) (z : ClassId × FieldType), tys[t]? = some z → ∃ t' : Nat, (tys ++ [y])[t']? = some z := fun t z h => ⟨t, by rw [List.getElem?_append_left (List.getElem?_eq_some_iff.mp h).1]; exact h⟩
theorem ck_tyslast {y : ClassId × FieldType} : ∃ t : Nat, (tys ++ [y])[t]? = some y := ⟨tys.length, by simp⟩
/-- what is made: objects, rows of numbers, rows of objects -/
def ck_n (nl : List (Nat × Nat)) (dt : List (List FieldType)) (ats : List FieldType) (al : List (Nat × String)) (tr : List (Nat × List Nat)) (sh : List ck_Sh) (CM SM : Nat) (pc : Nat) (i : Instr × Nat) (I : List ck_I) (L : List (Nat × ck_V)) (S : List ck_V) (X : ck_D) (k : Nat × Nat × Nat) : Option (List (Nat × ck_S)) := match i, S with
  | (.new x, 3), S => match nl.find? (fun q => q.1 == x), ck_obj sh k.1 with
    | some q, some o => match dt[o.1]? with
      | some tl => if o.1 = q.2 ∧ tl.length = o.2 ∧ k.2.1 + 1 ≤ CM ∧ k.2.2 + o.2 ≤ SM then some [(pc + 3, (I, L, .inr (0, k.1) :: S, ck_newX k.1 0 tl ++ X, k.1 + 1, k.2.1 + 1, k.2.2 + o.2))] else none
      | none => none
    | _, _ => none
  | (.newarray a, 2), .inl f :: S => match ck_row sh k.1 with
    | some r => if newarray.typeOf a = r.1 ∧ ats.contains r.1 = true ∧ f.2.1 = 0 ∧ f.2.2 = (r.2 : Int) ∧ r.2 * componentBytes r.1 ≤ 536870912 ∧ k.2.1 + 1 ≤ CM ∧ k.2.2 + r.2 ≤ SM then (match r.1 with
      | .int => some [(pc + 2, (I, L, .inr (0, k.1) :: S, ck_rowX k.1 (.inl (0, 0)) tr ++ X, k.1 + 1, k.2.1 + 1, k.2.2 + r.2))]
      | .byte => some [(pc + 2, (I, L, .inr (0, k.1) :: S, ck_rowX k.1 (.inl (0, 0)) tr ++ X, k.1 + 1, k.2.1 + 1, k.2.2 + r.2))]
      | .boolean => some [(pc + 2, (I, L, .inr (0, k.1) :: S, ck_rowX k.1 (.inl (0, 0)) tr ++ X, k.1 + 1, k.2.1 + 1, k.2.2 + r.2))]
      | .long => some [(pc + 2, (I, L, .inr (0, k.1) :: S, [] ++ X, k.1 + 1, k.2.1 + 1, k.2.2 + r.2))]
      | _ => none) else none
    | none => none
  | (.anewarray x, 3), .inl f :: S => match al.find? (fun q => q.1 == x), ck_row sh k.1 with
    | some q, some (.object C, N) => if q.2 = C ∧ f.2.1 = 0 ∧ f.2.2 = (N : Int) ∧ N * 4 ≤ 536870912 ∧ k.2.1 + 1 ≤ CM ∧ k.2.2 + N ≤ SM then some [(pc + 3, (I, L, .inr (0, k.1) :: S, ck_rowX k.1 (.inr (1, 0)) tr ++ X, k.1 + 1, k.2.1 + 1, k.2.2 + N))] else none
    | _, _ => none
  | _, _ => none
theorem ck_found {α : Type} {ql : List (Nat × α)} {x : Nat} {q : Nat × α} (h : ql.find? (fun q => q.1 == x) = some q) : q ∈ ql ∧ q.1 = x := ⟨List.mem_of_find?_eq_some h, by simpa using List.find?_some h⟩
theorem ck_told2 {f : ck_L} {x : Int32} {N : Nat} (h0 : f.2.1 = 0) (h1 : f.2.2 = (N : Int)) (hx : x.toInt = ck_ev ν f) : ¬ x < 0 ∧ x.toNatClampNeg = N := by
  have e : x.toInt = (N : Int) := by rw [hx]; unfold ck_ev; rw [h0, Int.zero_mul, Int.zero_add, h1]
  refine ⟨fun z => ?_, ?_⟩
  · have z2 := Int32.lt_iff_toInt_lt.mp z
    have z3 : (0 : Int32).toInt = 0 := rfl
    omega
  · show x.toInt.toNat = N
    omega
theorem ck_sh_obj {i : Nat} {o : Nat × Nat} (h : ck_obj sh i = some o) : sh[i]? = some (.inl o) := by
  unfold ck_obj at h
  split at h
  · rename_i e; cases h; exact e
  · cases h
theorem ck_sh_row {i : Nat} {r : FieldType × Nat} (h : ck_row sh i = some r) : sh[i]? = some (.inr r) := by
  unfold ck_row at h
  split at h
  · rename_i e; cases h; exact e
  · cases h
theorem ck_n_ok {nl : List (Nat × Nat)} {dt : List (List FieldType)} {ats : List FieldType} {al : List (Nat × String)} {tr : List (Nat × List Nat)} {CM SM : Nat} {i : Instr × Nat} {xs : List (Nat × ck_S)} (hx : p.tables.exec = Jvm.exec) (hb : c.code = cc) (hown : s.vm.findClass own = some m.cls) (hts : ∀ w ∈ Ts, w.before args s = true) (hAO : ∀ C ∈ AO, va_AO C s) (hC : ck_okC cl Ts) (hN : ∀ q ∈ nl, ck_okN cl Ts own q) (hDt : ck_okD cl dt) (hAt : ∀ t ∈ ats, Cond.arrayClass t ∈ Ts) (hAl : ∀ q ∈ al, ck_okA Ts AO own q) (hA : ∀ q, s.heap.size ≤ q → A q) (hRc : R.cells = CM) (hRs : R.slots = SM) (hd : decode cc pc = .ok i) (h : ck_n nl dt ats al tr sh CM SM pc i I L S X (nc, mc, ms) = some xs) (hG : ck_G D cl st sh A s nL wr ws0 I L S X nc ν ws tys H locs ls vs)
    (K : ∀ x ∈ xs, ck_N p l e R s m args below meth c Q D cl st sh A nL wr ws0 n ν x) : W p l e R s m args below meth c H locs mc ms Q (F0 m pc ls vs) := by
  have hK := hG.2.2.2.2.2.1
  have hP := hG.2.2.2.2.2.2.1
  have hD := hG.2.2.2.2.2.2.2.1
  have hS := hG.2.2.2.2.2.2.2.2.1
  have hl : ws.length = nc := hG.2.2.2.2.1.1
  unfold ck_n at h
  split at h
  · split at h
    · rename_i q o hq ho
      split at h
      · rename_i tl htl
        split at h
        · rename_i hc
          obtain ⟨c1, c2, c3, c4⟩ := hc
          cases h
          obtain ⟨hmem, e1⟩ := ck_found hq
          obtain ⟨C, T, N, g1, g2, g3, g4⟩ := hN _ hmem
          obtain ⟨C', T', g5, g6⟩ := hDt _ _ htl
          rw [c1] at g5
          have g7 := Option.some.inj (g1.symm.trans g5)
          cases g7
          rw [e1] at g2
          have hsz : tl.length = o.2 := c2
          refine va_new hx hb hts (hC _ _ _ _ g1).1 (fun k => tl.getD k .int) (fun k hk => g6 k _ (by simp [List.getD_eq_getElem?_getD, hk])) hown (hts _ g2) (hts _ g3) (hts _ g4) hK hP hD hS hA g1 (fs := tl.map defaultValue) (fun j hj => by simp [vp_V, List.getD_eq_getElem?_getD, hj]) (by rw [hRc]; exact c3) (by rw [hRs, hsz]; exact c4) hd (fun a H1 hP1 hD1 hS1 => ?_)
          rw [hsz]
          refine K _ List.mem_cons_self ν _ tys H1 locs ls _ (fun _ _ => rfl) (hG.more (x := .inr (q.2, tl.map defaultValue)) (ck_sh_obj ho) (show ck_fit tys (.inl o) (.inr (q.2, tl.map defaultValue)) from ⟨c1.symm, by simp [hsz]⟩) (fun t y h => ⟨t, h⟩) ?_ hK hP1 hD1 hS1)
          intro x hx
          obtain ⟨j, t, b1, rfl⟩ := ck_newX_mem tl 0 hx
          refine ⟨(a, .inr (q.2, tl.map defaultValue)), by rw [← hl]; simp, fun v hv => ?_⟩
          have hv' : (tl.map defaultValue)[0 + j]? = some v := hv
          rw [Nat.zero_add, List.getElem?_map, b1] at hv'
          have ev : defaultValue t = v := Option.some.inj hv'
          rw [← ev]
          exact ck_dfl_ok t
        · cases h
      · cases h
    · cases h
  · split at h
    · rename_i r hr
      split at h
      · rename_i hc
        obtain ⟨c1, c2, c3, c4, c5, c6, c7⟩ := hc
        obtain ⟨v, vs', rfl, ⟨w1, x, rfl, e1⟩, h2⟩ := hG.gs.pop
        obtain ⟨n1, n2⟩ := ck_told2 c3 c4 e1
        have harr := hts _ (hAt _ (List.contains_iff_mem.mp c2))
        have hrow := ck_sh_row hr
        obtain ⟨ty, N⟩ := r
        dsimp only at h c1 c2 c4 c5 c7 n2 harr
        split at h
        · cases h
          exact va_newa hx hb (by rw [c1]; exact harr) c1 hK hP hD hS hA (a0 := (N, .inl (fun _ => 0))) (fun cA => rfl) n1 n2 c5 (by rw [hRc]; exact c6) (by rw [hRs]; exact c7) hd (fun a cA H1 hK1 hP1 hD1 hS1 => K _ List.mem_cons_self ν _ _ H1 locs ls _ (fun _ _ => rfl) ((hG.stk h2).more hrow (show ck_fit _ (.inr (.int, N)) (.inl (cA, N, .inl (fun _ => 0))) from ⟨rfl, ck_tyslast, trivial⟩) ck_tysapp (ck_rowX_ok hl (fun j => ⟨0, rfl, Int.le_refl _, Int.le_refl _⟩)) hK1 hP1 hD1 hS1))
        · cases h
          exact va_newa hx hb (by rw [c1]; exact harr) c1 hK hP hD hS hA (a0 := (N, .inl (fun _ => 0))) (fun cA => rfl) n1 n2 c5 (by rw [hRc]; exact c6) (by rw [hRs]; exact c7) hd (fun a cA H1 hK1 hP1 hD1 hS1 => K _ List.mem_cons_self ν _ _ H1 locs ls _ (fun _ _ => rfl) ((hG.stk h2).more hrow (show ck_fit _ (.inr (.byte, N)) (.inl (cA, N, .inl (fun _ => 0))) from ⟨rfl, ck_tyslast, trivial⟩) ck_tysapp (ck_rowX_ok hl (fun j => ⟨0, rfl, Int.le_refl _, Int.le_refl _⟩)) hK1 hP1 hD1 hS1))
        · cases h
          exact va_newa hx hb (by rw [c1]; exact harr) c1 hK hP hD hS hA (a0 := (N, .inl (fun _ => 0))) (fun cA => rfl) n1 n2 c5 (by rw [hRc]; exact c6) (by rw [hRs]; exact c7) hd (fun a cA H1 hK1 hP1 hD1 hS1 => K _ List.mem_cons_self ν _ _ H1 locs ls _ (fun _ _ => rfl) ((hG.stk h2).more hrow (show ck_fit _ (.inr (.boolean, N)) (.inl (cA, N, .inl (fun _ => 0))) from ⟨rfl, ck_tyslast, trivial⟩) ck_tysapp (ck_rowX_ok hl (fun j => ⟨0, rfl, Int.le_refl _, Int.le_refl _⟩)) hK1 hP1 hD1 hS1))
        · cases h
          exact va_newa hx hb (by rw [c1]; exact harr) c1 hK hP hD hS hA (a0 := (N, .inr (.inl (fun _ => 0)))) (fun cA => rfl) n1 n2 c5 (by rw [hRc]; exact c6) (by rw [hRs]; exact c7) hd (fun a cA H1 hK1 hP1 hD1 hS1 => K _ List.mem_cons_self ν _ _ H1 locs ls _ (fun _ _ => rfl) ((hG.stk h2).more hrow (show ck_fit _ (.inr (.long, N)) (.inl (cA, N, .inr (.inl (fun _ => 0)))) from ⟨rfl, ck_tyslast, trivial⟩) ck_tysapp (fun x hx => by cases hx) hK1 hP1 hD1 hS1))
        · cases h
      · cases h
    · cases h
  · split at h
    · rename_i q C N hq hr
      split at h
      · rename_i hc
        obtain ⟨c1, c3, c4, c5, c6, c7⟩ := hc
        cases h
        obtain ⟨v, vs', rfl, ⟨w1, x, rfl, e1⟩, h2⟩ := hG.gs.pop
        obtain ⟨n1, n2⟩ := ck_told2 c3 c4 e1
        obtain ⟨hmem, e2⟩ := ck_found hq
        obtain ⟨g1, g2⟩ := hAl _ hmem
        rw [c1] at g1 g2
        rw [e2] at g1
        exact va_newq hx hb hown (hts _ g1) (hAO _ g2) hK hP hD hS hA n1 n2 c5 (by rw [hRc]; exact c6) (by rw [hRs]; exact c7) hd (fun a cA H1 hK1 hP1 hD1 hS1 => K _ List.mem_cons_self ν _ _ H1 locs ls _ (fun _ _ => rfl) ((hG.stk h2).more (ck_sh_row hr) (show ck_fit _ (.inr (.object C, N)) (.inl (cA, N, .inr (.inr (.inr (.inr (fun _ => none)))))) from ⟨rfl, ck_tyslast, trivial⟩) ck_tysapp (ck_rowX_ok hl (fun j => rfl)) hK1 hP1 hD1 hS1))
      · cases h
    · cases h
  · cases h
/-- constants of the pool, literals -/
def ck_ldc (kl : List (Nat × Int)) (sl : List (Nat × Nat)) (pc : Nat) (i : Instr × Nat) (I : List ck_I) (L : List (Nat × ck_V)) (S : List ck_V) (X : ck_D) (k : Nat × Nat × Nat) : Option (List (Nat × ck_S)) := match i with
  | (.ldc x, 2) => match kl.find? (fun q => q.1 == x), sl.find? (fun q => q.1 == x) with
    | some q, _ => some [(pc + 2, (I, L, .inl (ck_k (Int32.ofInt q.2).toInt) :: S, X, k))]
    | none, some q => some [(pc + 2, (I, L, .inr (2, q.2) :: S, X, k))]
    | _, _ => none
  | (.ldc_w x, 3) => match kl.find? (fun q => q.1 == x) with
    | some q => some [(pc + 3, (I, L, .inl (ck_k (Int32.ofInt q.2).toInt) :: S, X, k))]
    | none => none
  | _ => none
theorem ck_ldc_ok {kl : List (Nat × Int)} {sl : List (Nat × Nat)} {i : Instr × Nat} {xs : List (Nat × ck_S)} (hx : p.tables.exec = Jvm.exec) (hb : c.code = cc) (hown : s.vm.findClass own = some m.cls) (hts : ∀ w ∈ Ts, w.before args s = true) (hkl : ∀ q ∈ kl, Cond.constant own q.1 (Int32.ofInt q.2) ∈ Ts) (hsl : ∀ q ∈ sl, ∃ tx, vk_R own q.1 tx (st q.2) s) (hd : decode cc pc = .ok i) (h : ck_ldc kl sl pc i I L S X (nc, mc, ms) = some xs) (hn : n ≤ I.length) (hG : ck_G D cl st sh A s nL wr ws0 I L S X nc ν ws tys H locs ls vs)
    (K : ∀ x ∈ xs, ck_N p l e R s m args below meth c Q D cl st sh A nL wr ws0 n ν x) : W p l e R s m args below meth c H locs mc ms Q (F0 m pc ls vs) := by
  unfold ck_ldc at h
  split at h
  · split at h
    · rename_i q hq
      cases h
      obtain ⟨hmem, e1⟩ := ck_found hq
      have g := hkl _ hmem
      rw [e1] at g
      exact lv_ldc hx hb hown (hts _ g) hd (ck_pushv hG hn (ck_k_ok hG.gi _) (K _ List.mem_cons_self))
    · rename_i q hq0 hq
      cases h
      obtain ⟨hmem, e1⟩ := ck_found hq
      obtain ⟨tx, g⟩ := hsl _ hmem
      rw [e1] at g
      exact va_ldcS hx hb hown g hd (ck_pushV (V := .inr (2, q.2)) hG rfl (K _ List.mem_cons_self))
    · cases h
  · split at h
    · rename_i q hq
      cases h
      obtain ⟨hmem, e1⟩ := ck_found hq
      have g := hkl _ hmem
      rw [e1] at g
      exact lv_ldcw hx hb hown (hts _ g) hd (ck_pushv hG hn (ck_k_ok hG.gi _) (K _ List.mem_cons_self))
    · cases h
  · cases h
end CKM
end
section
/-! THE TABLE RUN, 7: what a method is known to do, calls, returns -/
abbrev ck_O : Type := Option ck_F × List (Int × Int) × ck_D × Nat
/-- method, cells at its entry, its arguments, slots that it reads, slots that it may write, its ends; frames, words, cells, slots -/
abbrev ck_C : Type := Nat × Nat × List ck_F × ck_D × List (Nat × Nat) × List ck_O × Nat × Nat × Nat × Nat
/-- name, bytes, places of its frame, what it gives back, how many arguments its descriptor has -/
abbrev ck_MT : Type := MethodName × ByteArray × Nat × Option FieldType × Nat
def ck_av (st : Nat → Nat) (ws : va_W) : List ck_F → List Value → Prop
  | [], [] => True
  | F :: Fs, v :: vs => ck_fv st ws F v ∧ ck_av st ws Fs vs
  | _, _ => False
def ck_ints : List Value → List Int32
  | [] => []
  | .int x :: vs => x :: ck_ints vs
  | _ :: vs => ck_ints vs
def ck_iv : List (Int × Int) → List Int32 → Prop
  | [], [] => True
  | z :: zs, x :: xs => z.1 ≤ x.toInt ∧ x.toInt ≤ z.2 ∧ ck_iv zs xs
  | _, _ => False
def ck_amb (NM : List (String × Nat × MethodName × String)) (AO : List String) (SL : List (String × Nat × Nat)) (st : Nat → Nat) (U : State) : Prop := (∀ q ∈ NM, va_Nw (.methodLinkNest q.1 q.2.1 q.2.2.1 q.2.2.2) U) ∧ (∀ C ∈ AO, va_AO C U) ∧ ∀ q ∈ SL, ∃ tx, vk_R q.1 q.2.1 tx (st q.2.2) U
theorem ck_amb.warm {NM : List (String × Nat × MethodName × String)} {AO : List String} {SL : List (String × Nat × Nat)} {st : Nat → Nat} {s U : State} (h : ck_amb NM AO SL st s) (hW : s.WarmedH U.vm) : ck_amb NM AO SL st U :=
  ⟨fun q hq => va_Nw.warmM hW (h.1 q hq), fun C hC => va_AO.moved hW.alike (h.2.1 C hC), fun q hq => by obtain ⟨tx, h1⟩ := h.2.2 q hq; exact ⟨tx, h1.warm hW⟩⟩
theorem ck_amb.same {NM : List (String × Nat × MethodName × String)} {AO : List String} {SL : List (String × Nat × Nat)} {st : Nat → Nat} {u U : State} (h : ck_amb NM AO SL st u) (hv : U.vm = u.vm) : ck_amb NM AO SL st U :=
  ⟨fun q hq => va_Nw.same rfl hv.symm (h.1 q hq), fun C hC => va_AO.moved (by rw [hv]; exact Vm.Alike.refl _) (h.2.1 C hC), fun q hq => by obtain ⟨tx, h1⟩ := h.2.2 q hq; exact ⟨tx, h1.same hv⟩⟩
def ck_Pre (D : va_G) (cl : List vw_C) (NM : List (String × Nat × MethodName × String)) (AO : List String) (SL : List (String × Nat × Nat)) (st : Nat → Nat) (tys : List (ClassId × FieldType)) (ws : va_W) (sz : Nat) : State → Prop := fun U => U.heap.size = sz ∧ va_P D cl ws U.heap ∧ va_K D cl tys U ∧ va_D (fun _ => True) ws ∧ ck_amb NM AO SL st U
def ck_rv (st : Nat → Nat) (ws : va_W) : Option ck_F → Option Value → Prop
  | none, none => True
  | some F, some v => ck_fv st ws F v
  | _, _ => False
def ck_Post (D : va_G) (cl : List vw_C) (st : Nat → Nat) (sh : List ck_Sh) (c : ck_C) (ws : va_W) (vs : List Value) (A : Nat → Prop) : Array Value → State → Outcome → State → Prop := fun _ s0 oc t => (∃ o ∈ c.2.2.2.2.2.1, ∃ (r : Option Value) (ws' : va_W) (tys' : List (ClassId × FieldType)), oc = .returned r ∧ ck_rv st ws' o.1 r ∧ ck_iv o.2.1 (ck_ints vs) ∧ ck_gd st ws' o.2.2.1 ∧ ck_w sh tys' ws' o.2.2.2 ∧ ck_fr c.2.2.2.2.1 ws ws' ∧ va_P D cl ws' t.heap ∧ va_K D cl tys' t ∧ va_D A ws') ∧ va_F A s0 t
def ck_rm (c : ck_C) : Room := { frames := c.2.2.2.2.2.2.1, cells := c.2.2.2.2.2.2.2.2.1, slots := c.2.2.2.2.2.2.2.2.2, locals := c.2.2.2.2.2.2.2.1 }
def ck_Met (l : Launch) (Ts : List Cond) (mts : List ck_MT) (D : va_G) (cl : List vw_C) (NM : List (String × Nat × MethodName × String)) (AO : List String) (SL : List (String × Nat × Nat)) (st : Nat → Nat) (sh : List ck_Sh) (c : ck_C) : Prop := ∀ (M : ck_MT), mts[c.1]? = some M → ∀ (ws : va_W) (tys : List (ClassId × FieldType)) (vs : List Value) (sz : Nat), ck_w sh tys ws c.2.1 → ck_av st ws c.2.2.1 vs → ck_gd st ws c.2.2.2.1 → Met l M.1 (Cond.code M.1 M.2.1 M.2.2.1 M.2.2.2.1 :: Ts) (ck_rm c) (va_Pc vs (ck_Pre D cl NM AO SL st tys ws sz)) (ck_Post D cl st sh c ws vs (va_A ws sz)) c.2.2.2.2.2.2.2.2.1 c.2.2.2.2.2.2.2.2.2 (va_A ws sz)
theorem ck_blind {D : va_G} {cl : List vw_C} {NM : List (String × Nat × MethodName × String)} {AO : List String} {SL : List (String × Nat × Nat)} {st : Nat → Nat} {tys : List (ClassId × FieldType)} {ws : va_W} {sz : Nat} {vs : List Value} : FrameBlind (va_Pc vs (ck_Pre D cl NM AO SL st tys ws sz)) := fun a U g mk q => by
  obtain ⟨q0, q1, qP, qK, qD, qA⟩ := q
  exact ⟨q0, q1, qP, va_K.moved (u := U) (U := U.calling g mk a) (Vm.Alike.refl U.vm) qK, qD, qA.same rfl⟩
def ck_subF (G F : ck_F) : Bool := match G, F with
  | .inl a, .inl b => decide (b.1 ≤ a.1) && decide (a.2 ≤ b.2)
  | .inr a, .inr b => decide (a = b)
  | _, _ => false
theorem ck_subF_ok {st : Nat → Nat} {ws : va_W} {G F : ck_F} {v : Value} (h : ck_subF G F = true) (hv : ck_fv st ws G v) : ck_fv st ws F v := by
  unfold ck_subF at h
  split at h
  · simp only [Bool.and_eq_true, decide_eq_true_eq] at h
    obtain ⟨x, rfl, h1, h2⟩ := hv
    exact ⟨x, rfl, by omega, by omega⟩
  · have e := of_decide_eq_true h
    rw [← e]; exact hv
  · cases h
def ck_subD (X Y : ck_D) : Bool := Y.all fun x => match ck_look X x.1.1 x.1.2 with
  | some G => ck_subF G x.2
  | none => false
theorem ck_subD_ok {st : Nat → Nat} {ws : va_W} {X Y : ck_D} (h : ck_subD X Y = true) (hX : ck_gd st ws X) : ck_gd st ws Y := fun x hx => by
  have h1 := List.all_eq_true.mp h x hx
  split at h1
  · rename_i G hG
    obtain ⟨q, hq, hv⟩ := hX _ (ck_look_mem hG)
    exact ⟨q, hq, fun v hs => ck_subF_ok h1 (hv v hs)⟩
  · cases h1
section CKL
variable {p : Program} {l : Launch} {e : Env} {R : Room} {s : State} {m : MethodId} {args : Array Value} {below : List Frame} {meth : Method} {c : Code} {Q : State → Prop}
variable {cc : ByteArray} {D : va_G} {cl : List vw_C} {st : Nat → Nat} {sh : List ck_Sh} {A : Nat → Prop} {nL : Nat} {wr : List (Nat × Nat)} {ws0 : va_W}
variable {I I' : List ck_I} {L : List (Nat × ck_V)} {S S' : List ck_V} {X : ck_D} {nc mc ms n : Nat} {ν ν' : Nat → Int} {ws : va_W} {tys : List (ClassId × FieldType)} {H : Heap} {locs : List Loc} {ls : Array Slot} {vs vs' : List Value} {pc : Nat}
variable {Ts : List Cond} {AO : List String} {own : String} {NM : List (String × Nat × MethodName × String)} {SL : List (String × Nat × Nat)} {mts : List ck_MT}
/-- numbers among what was handed over: their forms -/
def ck_forms : List ck_V → List ck_L
  | [] => []
  | .inl f :: Vs => f :: ck_forms Vs
  | .inr _ :: Vs => ck_forms Vs
def ck_cutZ : List ck_I → List ck_L → List (Int × Int) → Option (List ck_I)
  | I, [], [] => some I
  | I, f :: fs, z :: zs => (ck_ge I f z.1).bind fun J => (ck_le J f z.2).bind fun K => ck_cutZ K fs zs
  | _, _, _ => none
theorem ck_cutZ_ok : ∀ {fs : List ck_L} {zs : List (Int × Int)} {xs : List Int32} {I : List ck_I}, ck_gi ν I → ck_iv zs xs → (∀ (j : Nat) (f : ck_L), fs[j]? = some f → ∃ x, xs[j]? = some x ∧ x.toInt = ck_ev ν f) → fs.length = xs.length → ∃ I', ck_cutZ I fs zs = some I' ∧ ck_gi ν I' ∧ I'.length = I.length
  | [], [], [], I, hi, _, _, _ => ⟨I, rfl, hi, rfl⟩
  | f :: fs, z :: zs, x :: xs, I, hi, hz, hf, hlen => by
    obtain ⟨y, h1, h2⟩ := hf 0 f rfl
    have e : x = y := by simpa using h1
    subst e
    obtain ⟨J, j1, j2, j3⟩ := ck_ge_ok (f := f) (c := z.1) hi (by rw [← h2]; exact hz.1)
    obtain ⟨K, k1, k2, k3⟩ := ck_le_ok (f := f) (c := z.2) j2 (by rw [← h2]; exact hz.2.1)
    obtain ⟨I', a1, a2, a3⟩ := ck_cutZ_ok (fs := fs) (zs := zs) (xs := xs) k2 hz.2.2 (fun j g hg => hf (j + 1) g (by simpa using hg)) (by simpa using hlen)
    exact ⟨I', by unfold ck_cutZ; rw [j1]; show (ck_le J f z.2).bind _ = _; rw [k1]; exact a1, a2, by rw [a3, k3, j3]⟩
  | [], z :: zs, [], _, _, hz, _, _ => hz.elim
  | _ :: _, _, [], _, _, _, _, hl => by simp at hl
  | [], _, _ :: _, _, _, _, _, hl => by simp at hl
  | _ :: _, [], _ :: _, _, _, hz, _, _ => hz.elim
def ck_okL (Ts : List Cond) (NM : List (String × Nat × MethodName × String)) (mts : List ck_MT) (own : String) (q : Nat × Nat × Nat) : Prop := ∃ M, mts[q.2.2]? = some M ∧ Cond.code M.1 M.2.1 M.2.2.1 M.2.2.2.1 ∈ Ts ∧ Cond.initialized M.1.cls ∈ Ts ∧ (M.1.cls ≠ "java/lang/invoke/MethodHandle" ∧ M.1.cls ≠ "java/lang/invoke/VarHandle") ∧ (parseMethodDescriptor M.1.desc).map (fun d => d.parameters.length) = some M.2.2.2.2 ∧ (match q.2.1 with
  | 0 => Cond.methodLink own q.1 M.1 ∈ Ts ∧ Cond.instanceMethod M.1 ∈ Ts ∧ Cond.selects M.1.cls M.1 M.1 ∈ Ts
  | 1 => Cond.methodLink own q.1 M.1 ∈ Ts ∧ Cond.static M.1 ∈ Ts
  | 2 => Cond.methodLink own q.1 M.1 ∈ Ts ∧ Cond.instanceMethod M.1 ∈ Ts ∧ M.1.name = "<init>" ∧ M.2.2.2.1 = none
  | 3 => ∃ h, (own, q.1, M.1, h) ∈ NM ∧ Cond.instanceMethod M.1 ∈ Ts ∧ Cond.selects M.1.cls M.1 M.1 ∈ Ts
  | 4 => ∃ h, (own, q.1, M.1, h) ∈ NM ∧ Cond.static M.1 ∈ Ts
  | 5 => ∃ h, (own, q.1, M.1, h) ∈ NM ∧ Cond.instanceMethod M.1 ∈ Ts ∧ M.1.name = "<init>" ∧ M.2.2.2.1 = none
  | _ => False)
def ck_avb (I : List ck_I) : List ck_V → List ck_F → Bool
  | [], [] => true
  | V :: Vs, F :: Fs => ck_subF (ck_toF I V) F && ck_avb I Vs Fs
  | _, _ => false
theorem ck_avb_ok : ∀ {Vs : List ck_V} {Fs : List ck_F} {vs : List Value}, ck_avb I Vs Fs = true → ck_gi ν I → ck_gs ν st ws I.length Vs vs → ck_av st ws Fs vs
  | [], [], [], _, _, _ => trivial
  | V :: Vs, F :: Fs, v :: vs, h, hi, hs => by
    simp only [ck_avb, Bool.and_eq_true] at h
    exact ⟨ck_subF_ok h.1 (ck_toF_ok hi hs.1), ck_avb_ok h.2 hi hs.2⟩
  | [], _ :: _, _, h, _, _ => by simp [ck_avb] at h
  | _ :: _, [], _, h, _, _ => by simp [ck_avb] at h
  | [], [], _ :: _, _, _, hs => hs.elim
  | _ :: _, _ :: _, [], _, _, hs => hs.elim
theorem ck_forms_ok : ∀ {Vs : List ck_V} {vs : List Value}, Vs.all ck_one = true → ck_gs ν st ws n Vs vs → (ck_forms Vs).length = (ck_ints vs).length ∧ ∀ (j : Nat) (f : ck_L), (ck_forms Vs)[j]? = some f → ∃ x, (ck_ints vs)[j]? = some x ∧ x.toInt = ck_ev ν f
  | [], [], _, _ => ⟨rfl, fun j f h => by simp [ck_forms] at h⟩
  | .inl f :: Vs, v :: vs, h1, hs => by
    obtain ⟨⟨w, x, rfl, e1⟩, h2⟩ := hs
    simp only [List.all_cons, Bool.and_eq_true] at h1
    obtain ⟨a1, a2⟩ := ck_forms_ok h1.2 h2
    refine ⟨by simp [ck_forms, ck_ints, a1], fun j g hg => ?_⟩
    match j, hg with
    | 0, hg =>
      have e : f = g := by simpa [ck_forms] using hg
      exact ⟨x, rfl, by rw [← e]; exact e1⟩
    | j + 1, hg =>
      obtain ⟨y, b1, b2⟩ := a2 j g (by simpa [ck_forms] using hg)
      exact ⟨y, by simpa [ck_ints] using b1, b2⟩
  | .inr q :: Vs, v :: vs, h1, hs => by
    obtain ⟨hq, h2⟩ := hs
    simp only [List.all_cons, Bool.and_eq_true] at h1
    obtain ⟨a1, a2⟩ := ck_forms_ok h1.2 h2
    rcases ck_refs h1.1 hq with rfl | ⟨a, rfl⟩ <;> exact ⟨a1, a2⟩
  | [], _ :: _, _, hs => hs.elim
  | _ :: _, [], _, hs => hs.elim
theorem ck_gs.split : ∀ {Vs S : List ck_V} {us : List Value}, ck_gs ν st ws n (Vs ++ S) us → ∃ as rest, us = as ++ rest ∧ ck_gs ν st ws n Vs as ∧ ck_gs ν st ws n S rest
  | [], S, us, h => ⟨[], us, rfl, trivial, h⟩
  | V :: Vs, S, [], h => h.elim
  | V :: Vs, S, v :: us, h => by
    obtain ⟨as, rest, h1, h2, h3⟩ := ck_gs.split h.2
    exact ⟨v :: as, rest, by rw [h1]; rfl, ⟨h.1, h2⟩, h3⟩
theorem ck_gs.app : ∀ {Vs S : List ck_V} {as bs : List Value}, ck_gs ν st ws n Vs as → ck_gs ν st ws n S bs → ck_gs ν st ws n (Vs ++ S) (as ++ bs)
  | [], S, [], bs, _, h => h
  | [], S, _ :: _, bs, h, _ => h.elim
  | _ :: _, S, [], bs, h, _ => h.elim
  | V :: Vs, S, v :: as, bs, h, h2 => ⟨h.1, ck_gs.app h.2 h2⟩
theorem ck_gs.rev : ∀ {Vs : List ck_V} {as : List Value}, ck_gs ν st ws n Vs as → ck_gs ν st ws n Vs.reverse as.reverse
  | [], [], h => h
  | [], _ :: _, h => h.elim
  | _ :: _, [], h => h.elim
  | V :: Vs, v :: as, h => by
    rw [List.reverse_cons, List.reverse_cons]
    exact ck_gs.app (ck_gs.rev h.2) ⟨h.1, trivial⟩
theorem ck_gs.len : ∀ {Vs : List ck_V} {as : List Value}, ck_gs ν st ws n Vs as → Vs.length = as.length
  | [], [], _ => rfl
  | [], _ :: _, h => h.elim
  | _ :: _, [], h => h.elim
  | V :: Vs, v :: as, h => by simp [ck_gs.len h.2]
theorem ck_words : ∀ {Vs : List ck_V} {as : List Value}, Vs.all ck_one = true → ck_gs ν st ws n Vs as → (as.map fun v => v.category).sum = Vs.length
  | [], [], _, _ => rfl
  | [], _ :: _, _, h => h.elim
  | _ :: _, [], _, h => h.elim
  | V :: Vs, v :: as, h1, h => by
    simp only [List.all_cons, Bool.and_eq_true] at h1
    simp only [List.map_cons, List.sum_cons, List.length_cons, ck_one_cat h1.1 h.1, ck_words h1.2 h.2]
    omega
/-- one end of a call, seen from the caller -/
def ck_after (co : ck_C) (pc : Nat) (fs : List ck_L) (I : List ck_I) (L : List (Nat × ck_V)) (S : List ck_V) (X : ck_D) (k : Nat × Nat × Nat) (o : ck_O) : Option (List (Nat × ck_S)) :=
  match ck_cutZ I fs o.2.1 with
  | none => some []
  | some J => match o.1 with
    | none => some [(pc + 3, (J, L, S, o.2.2.1 ++ X.filter (fun x => !(co.2.2.2.2.1.contains x.1) && !(co.2.2.2.2.1.contains (x.1.1, 0))), o.2.2.2, k.2.1 + co.2.2.2.2.2.2.2.2.1, k.2.2 + co.2.2.2.2.2.2.2.2.2))]
    | some F => match ck_pushF J F with
      | some r => some [(pc + 3, (r.1, L, r.2 :: S, o.2.2.1 ++ X.filter (fun x => !(co.2.2.2.2.1.contains x.1) && !(co.2.2.2.2.1.contains (x.1.1, 0))), o.2.2.2, k.2.1 + co.2.2.2.2.2.2.2.2.1, k.2.2 + co.2.2.2.2.2.2.2.2.2))]
      | none => none
def ck_ends (co : ck_C) (pc : Nat) (fs : List ck_L) (I : List ck_I) (L : List (Nat × ck_V)) (S : List ck_V) (X : ck_D) (k : Nat × Nat × Nat) : List ck_O → Option (List (Nat × ck_S))
  | [] => some []
  | o :: os => match ck_after co pc fs I L S X k o, ck_ends co pc fs I L S X k os with
    | some a, some b => some (a ++ b)
    | _, _ => none
theorem ck_ends_ok {co : ck_C} {fs : List ck_L} {k : Nat × Nat × Nat} {o : ck_O} : ∀ {os : List ck_O} {xs : List (Nat × ck_S)}, ck_ends co pc fs I L S X k os = some xs → o ∈ os → ∃ a, ck_after co pc fs I L S X k o = some a ∧ ∀ x ∈ a, x ∈ xs
  | [], _, _, ho => by cases ho
  | q :: os, xs, h, ho => by
    unfold ck_ends at h
    split at h
    · rename_i a b ha hb
      cases h
      rcases List.mem_cons.mp ho with rfl | ho
      · exact ⟨a, ha, fun x hx => List.mem_append_left _ hx⟩
      · obtain ⟨a', h1, h2⟩ := ck_ends_ok hb ho
        exact ⟨a', h1, fun x hx => List.mem_append_right _ (h2 x hx)⟩
    · cases h
/-- behind the call -/
theorem ck_behind {co : ck_C} {Vs : List ck_V} {as rest st0 : List Value} {xs : List (Nat × ck_S)} (hone : Vs.all ck_one = true) (hn : n ≤ I.length) (hVs : ck_gs ν st ws I.length Vs as) (hG : ck_G D cl st sh A s nL wr ws0 I L S X nc ν ws tys H locs ls rest) (hwr : ∀ x ∈ co.2.2.2.2.1, x ∈ wr) (hA : ∀ q, s.heap.size ≤ q → A q)
    (hr : va_Run p l e R s m args below meth c H locs mc ms co.2.2.2.2.2.2.2.2.1 co.2.2.2.2.2.2.2.2.2 (F0 m pc ls st0) rest (ck_Post D cl st sh co ws as (va_A ws H.size) as.toArray) (va_A ws H.size))
    (hx : ck_ends co pc (ck_forms Vs) I L S X (nc, mc, ms) co.2.2.2.2.2.1 = some xs) (K : ∀ x ∈ xs, ck_N p l e R s m args below meth c Q D cl st sh A nL wr ws0 n ν x) : W p l e R s m args below meth c H locs mc ms Q (F0 m pc ls st0) := by
  intro T hT Xs
  obtain ⟨v, s0, t, T', Ls, h0, X', hL, e1, e2, ⟨⟨o, ho, r, ws', tys', hv, hrv, hiv, hgd, hw, hfr, hP', hK', hD'⟩, hz, hk⟩, go⟩ := hr T hT Xs
  cases hv
  rw [h0] at hz hk
  obtain ⟨g1, g2, g3, g4, g5, g6, g7, g8, g9, g10⟩ := hG
  obtain ⟨f1, f2⟩ := ck_forms_ok hone hVs
  obtain ⟨J, j1, j2, j3⟩ := ck_cutZ_ok g1 hiv f2 f1
  have hAA : ∀ q, va_A ws H.size q → A q := fun q hq => by
    rcases hq with ⟨k, ee, h⟩ | h
    · exact g8.2 k _ h
    · exact hA q (Nat.le_trans g9.1 h)
  have hal : s.vm.Alike t.vm := by rw [← e2]; exact X'.warmed.alike
  have hS' : va_S A s.heap T'.heap (locs ++ Ls) := ⟨Nat.le_trans g9.1 (by rw [e1]; exact hz), fun q h1 h2 => by
    rw [e1, hk q (Nat.lt_of_lt_of_le h1 g9.1) (fun z => h2 (hAA q z))]; exact g9.2.1 q h1 h2, fun q hq => by
    rcases List.mem_append.mp hq with h | h
    · exact g9.2.2 q h
    · exact hAA _ (hL q h)⟩
  have hG' : ck_G D cl st sh A s nL wr ws0 J L S (o.2.2.1 ++ X.filter (fun x => !(co.2.2.2.2.1.contains x.1) && !(co.2.2.2.2.1.contains (x.1.1, 0)))) o.2.2.2 ν ws' tys' T'.heap (locs ++ Ls) ls rest :=
    ⟨j2, g2.on hfr.on (by omega) (fun _ _ => rfl), g3.on hfr.on (by omega) (fun _ _ => rfl), hgd.app (g4.fr hfr), hw, va_K.moved hal.symm hK', by rw [e1]; exact hP', hD'.weaken (fun _ q _ h => hAA q.1 h), hS', g10.trans (hfr.wide hwr)⟩
  obtain ⟨a, ha, hsub⟩ := ck_ends_ok hx ho
  unfold ck_after at ha
  rw [j1] at ha
  have hn2 : n ≤ J.length := by omega
  obtain ⟨t2, a1, b1⟩ : ∃ t2, Steps p.tables e below (T'.setTop { F0 m pc ls st0 with pc := pc + 3, stack := v.toList ++ rest }) t2 ∧ Q t2 := by
    split at ha
    · rename_i hq0
      cases hq0
    · rename_i J' hJ'
      cases hJ'
      split at ha
      · rename_i ho1
        cases ha
        rw [ho1] at hrv
        cases v with
        | none => exact K _ (hsub _ List.mem_cons_self) ν ws' tys' T'.heap (locs ++ Ls) ls rest (fun _ _ => rfl) hG' T' rfl X'
        | some v => exact hrv.elim
      · rename_i F ho1
        rw [ho1] at hrv
        split at ha
        · rename_i r hpu
          cases ha
          cases v with
          | none => exact hrv.elim
          | some v => exact ck_pushF_ok (pc := pc + 3) hG' hn2 hrv hpu (K _ (hsub _ List.mem_cons_self)) T' rfl X'
        · cases ha
  exact ⟨t2, go t2 a1, b1⟩
end CKL
end
section
/-! THE TABLE RUN, 8: the call itself, the copy of rows, the first constructor -/
section CKI
variable {p : Program} {l : Launch} {e : Env} {R : Room} {s : State} {m : MethodId} {args : Array Value} {below : List Frame} {meth : Method} {c : Code} {Q : State → Prop}
variable {cc : ByteArray} {D : va_G} {cl : List vw_C} {st : Nat → Nat} {sh : List ck_Sh} {A : Nat → Prop} {nL : Nat} {wr : List (Nat × Nat)} {ws0 : va_W}
variable {I I' : List ck_I} {L : List (Nat × ck_V)} {S S' : List ck_V} {X : ck_D} {nc mc ms n : Nat} {ν ν' : Nat → Int} {ws : va_W} {tys : List (ClassId × FieldType)} {H : Heap} {locs : List Loc} {ls : Array Slot} {vs vs' : List Value} {pc : Nat}
variable {Ts : List Cond} {AO : List String} {own : String} {NM : List (String × Nat × MethodName × String)} {SL : List (String × Nat × Nat)} {mts : List ck_MT}
def ck_inv (i : Instr × Nat) : Option (Nat × Nat) := match i with
  | (.invokevirtual x, 3) => some (x, 0)
  | (.invokestatic x, 3) => some (x, 1)
  | (.invokespecial x, 3) => some (x, 2)
  | _ => none
def ck_fitC (co : ck_C) (I : List ck_I) (S : List ck_V) (X : ck_D) (nc : Nat) : Bool := decide (co.2.1 = nc) && ck_avb I (S.take co.2.2.1.length).reverse co.2.2.1 && ck_subD X co.2.2.2.1
/-- the callee's own object: its cell, and that it is of the class that the method is of -/
def ck_self (cl : List vw_C) (sh : List ck_Sh) (M : ck_MT) (o : Nat) (Vs : List ck_V) : Bool := match o, Vs with
  | 1, Vs => decide (Vs.length = M.2.2.2.2)
  | 0, .inr (0, i) :: Vs => decide (Vs.length = M.2.2.2.2) && (match ck_obj sh i with
    | some ob => (match cl[ob.1]? with
      | some r => decide (r.1 = M.1.cls)
      | none => false)
    | none => false)
  | 2, .inr (0, _) :: Vs => decide (Vs.length = M.2.2.2.2)
  | _, _ => false
theorem ck_self0 {M : ck_MT} : ∀ {Vs : List ck_V}, ck_self cl sh M 0 Vs = true → ∃ Us i0, Vs = .inr (0, i0) :: Us ∧ Us.length = M.2.2.2.2 ∧ ∃ ob, ck_obj sh i0 = some ob ∧ ∃ r0, cl[ob.1]? = some r0 ∧ r0.1 = M.1.cls
  | .inr (0, i0) :: Us, h => by
    simp only [ck_self, Bool.and_eq_true, decide_eq_true_eq] at h
    obtain ⟨h1, h2⟩ := h
    split at h2
    · rename_i ob hob
      split at h2
      · rename_i r0 hr0
        exact ⟨Us, i0, rfl, h1, ob, hob, r0, hr0, of_decide_eq_true h2⟩
      · cases h2
    · cases h2
  | [], h => by simp [ck_self] at h
  | .inl _ :: _, h => by simp [ck_self] at h
  | .inr (_ + 1, _) :: _, h => by simp [ck_self] at h
theorem ck_self2 {M : ck_MT} : ∀ {Vs : List ck_V}, ck_self cl sh M 2 Vs = true → ∃ Us i0, Vs = .inr (0, i0) :: Us ∧ Us.length = M.2.2.2.2
  | .inr (0, i0) :: Us, h => ⟨Us, i0, rfl, of_decide_eq_true h⟩
  | [], h => by simp [ck_self] at h
  | .inl _ :: _, h => by simp [ck_self] at h
  | .inr (_ + 1, _) :: _, h => by simp [ck_self] at h
def ck_cal (cl : List vw_C) (mts : List ck_MT) (ml : List (Nat × Nat × Nat)) (cs : List ck_C) (sh : List ck_Sh) (wr : List (Nat × Nat)) (CM SM FM LM : Nat) (pc : Nat) (i : Instr × Nat) (I : List ck_I) (L : List (Nat × ck_V)) (S : List ck_V) (X : ck_D) (k : Nat × Nat × Nat) : Option (List (Nat × ck_S)) := match ck_inv i with
  | none => none
  | some xo => match ml.find? (fun q => q.1 == xo.1) with
    | none => none
    | some q => match mts[q.2.2]? with
      | none => none
      | some M => match cs.find? (fun co => decide (co.1 = q.2.2) && ck_fitC co I S X k.1) with
        | none => none
        | some co => if q.2.1 < 6 ∧ q.2.1 % 3 = xo.2 ∧ ck_self cl sh M xo.2 (S.take co.2.2.1.length).reverse = true ∧ (S.take co.2.2.1.length).all ck_one = true ∧ (S.drop co.2.2.1.length).all ck_one = true ∧ (S.drop co.2.2.1.length).length ≤ 8 ∧ co.2.2.2.2.2.2.1 + 1 ≤ FM ∧ 8 + (M.2.2.1 + 11) + co.2.2.2.2.2.2.2.1 ≤ LM ∧ k.2.1 + co.2.2.2.2.2.2.2.2.1 ≤ CM ∧ k.2.2 + co.2.2.2.2.2.2.2.2.2 ≤ SM ∧ co.2.2.2.2.1.all (fun x => wr.contains x) = true then ck_ends co pc (ck_forms (S.take co.2.2.1.length).reverse) I L (S.drop co.2.2.1.length) X k co.2.2.2.2.2.1 else none
theorem ck_cal_ok {ml : List (Nat × Nat × Nat)} {cs : List ck_C} {CM SM FM LM : Nat} {i : Instr × Nat} {xs : List (Nat × ck_S)} (hx : p.tables.exec = Jvm.exec) (hb : c.code = cc) (hml : c.maxLocals = nL) (hown : s.vm.findClass own = some m.cls) (hts : ∀ w ∈ Ts, w.before args s = true) (hgood : GoodIn Ts Ts) (hamb : ck_amb NM AO SL st s) (hL : ∀ q ∈ ml, q.2.1 < 6 → ck_okL Ts NM mts own q) (hCs : ∀ co ∈ cs, ck_Met l Ts mts D cl NM AO SL st sh co) (hA : ∀ q, s.heap.size ≤ q → A q) (hRc : R.cells = CM) (hRs : R.slots = SM) (hRf : R.frames = FM) (hRl : R.locals = LM) (hd : decode cc pc = .ok i) (h : ck_cal cl mts ml cs sh wr CM SM FM LM pc i I L S X (nc, mc, ms) = some xs) (hn : n ≤ I.length) (hG : ck_G D cl st sh A s nL wr ws0 I L S X nc ν ws tys H locs ls vs)
    (K : ∀ x ∈ xs, ck_N p l e R s m args below meth c Q D cl st sh A nL wr ws0 n ν x) : W p l e R s m args below meth c H locs mc ms Q (F0 m pc ls vs) := by
  have hK := hG.2.2.2.2.2.1
  have hP := hG.2.2.2.2.2.2.1
  have hD := hG.2.2.2.2.2.2.2.1
  unfold ck_cal at h
  split at h
  · cases h
  · rename_i xo hxo
    split at h
    · cases h
    · rename_i q hq
      split at h
      · cases h
      · rename_i M hM
        split at h
        · cases h
        · rename_i co hco
          split at h
          · rename_i hc
            obtain ⟨c0, c1, c2, c3, c4, c5, c6, c7, c8, c9, c10⟩ := hc
            obtain ⟨hmem, e1⟩ := ck_found hq
            have hcm := List.mem_of_find?_eq_some hco
            have hcf := List.find?_some hco
            simp only [Bool.and_eq_true, decide_eq_true_eq, ck_fitC] at hcf
            obtain ⟨hmt, ⟨hnc, hav⟩, hsd⟩ := hcf
            obtain ⟨M', hM', w1, w2, w3, w4, w5⟩ := hL q hmem c0
            have eM : M' = M := Option.some.inj (hM'.symm.trans hM)
            subst eM
            have hgs := hG.gs
            rw [← List.take_append_drop co.2.2.1.length S] at hgs
            obtain ⟨ar, rest, hvs, ga, gr⟩ := hgs.split
            subst hvs
            have gas := ga.rev
            have hone : ((S.take co.2.2.1.length).reverse).all ck_one = true := by rw [List.all_reverse]; exact c3
            have hG' := hG.stk gr
            have hwords := ck_words c4 gr
            have hMet := hCs co hcm M' (by rw [hmt]; exact hM') ws tys ar.reverse H.size (by rw [hnc]; exact hG.2.2.2.2.1) (ck_avb_ok hav hG.gi gas) (ck_subD_ok hsd hG.2.2.2.1)
            have hwr : ∀ x ∈ co.2.2.2.2.1, x ∈ wr := fun x hx => List.contains_iff_mem.mp (List.all_eq_true.mp c10 x hx)
            have hGI : GoodIn Ts (Cond.code M'.1 M'.2.1 M'.2.2.1 M'.2.2.2.1 :: Ts) := fun w hw => by
              rcases List.mem_cons.mp hw with rfl | hw
              · exact hgood _ w1
              · exact hgood _ hw
            have hpre : ∀ U : State, U.heap = H → s.WarmedH U.vm → va_Pc ar.reverse (ck_Pre D cl NM AO SL st tys ws H.size) ar.reverse.toArray U := fun U hU hW => ⟨rfl, by rw [hU], by rw [hU]; exact hP, va_K.moved hW.alike hK, hD.weaken (fun _ _ _ _ => trivial), hamb.warm hW⟩
            have hfit : mc + co.2.2.2.2.2.2.2.2.1 ≤ R.cells ∧ ms + co.2.2.2.2.2.2.2.2.2 ≤ R.slots := ⟨by rw [hRc]; exact c8, by rw [hRs]; exact c9⟩
            have hroom : (ck_rm co).frames + 1 ≤ R.frames ∧ 8 + (M'.2.2.1 + 11) + (ck_rm co).locals ≤ R.locals := ⟨by rw [hRf]; exact c6, by rw [hRl]; exact c7⟩
            have hsz : ls.size = nL := by obtain ⟨lv, hl, -⟩ := hG.2.1; exact hl.1
            have hwd : (rest.map fun v => v.category).sum ≤ 8 := by rw [hwords]; exact c5
            have hst : ∀ (b : Addr) (As : List Value), ar.reverse = .ref b :: As → ar ++ rest = As.reverse ++ .ref b :: rest := fun b As hh => by
              have h1 : ar = (Value.ref b :: As).reverse := by rw [← hh, List.reverse_reverse]
              rw [h1]; simp
            have B : ∀ (y : Nat), CallB R s args own y M'.1 M'.2.1 M'.2.2.1 M'.2.2.2.1 (Cond.code M'.1 M'.2.1 M'.2.2.1 M'.2.2.2.1 :: Ts) (ck_rm co) co.2.2.2.2.2.2.2.2.1 co.2.2.2.2.2.2.2.2.2 M'.2.2.2.2 ∨ ¬ Cond.methodLink own y M'.1 ∈ Ts := fun y => by
              by_cases hm : Cond.methodLink own y M'.1 ∈ Ts
              · exact Or.inl (callB_of M'.2.2.2.2 hts hGI rfl rfl rfl (hts _ w2) (hts _ hm) ⟨w3.1, w3.2, w4⟩ hroom)
              · exact Or.inr hm
            have BN : ∀ (y : Nat) (host : String), (own, y, M'.1, host) ∈ NM → va_CN R s args own y M'.1 host M'.2.1 M'.2.2.1 M'.2.2.2.1 (Cond.code M'.1 M'.2.1 M'.2.2.1 M'.2.2.2.1 :: Ts) (ck_rm co) co.2.2.2.2.2.2.2.2.1 co.2.2.2.2.2.2.2.2.2 M'.2.2.2.2 := fun y host hm => va_cnB M'.2.2.2.2 hts hGI rfl rfl rfl (hamb.1 _ hm) (hts _ w2) ⟨w3.1, w3.2, w4⟩ hroom
            have hfix : CallFix p m c cc nL s args Ts own := ⟨hx, hb, hml, hown, hts⟩
            unfold ck_inv at hxo
            split at hxo
            · cases hxo
              dsimp only at c1 c2 e1
              obtain ⟨Vs, i0, hV, hlenV, ob, hob, r0, hr0, hcls⟩ : ∃ Vs i0, (S.take co.2.2.1.length).reverse = .inr (0, i0) :: Vs ∧ Vs.length = M'.2.2.2.2 ∧ ∃ ob, ck_obj sh i0 = some ob ∧ ∃ r0, cl[ob.1]? = some r0 ∧ r0.1 = M'.1.cls := ck_self0 c2
              have gas2 := gas
              rw [hV] at gas2
              obtain ⟨v, As, hA1, ⟨⟨b, be⟩, hb1, rfl⟩, hA2⟩ := gas2.pop
              obtain ⟨fs, hfs, -⟩ := ck_obj_ok hob hG.2.2.2.2.1 hb1
              dsimp only at hfs
              subst hfs
              have hrec := va_recv hK hP hr0 hb1
              rw [hcls] at hrec
              have hpre2 := hpre
              rw [hA1] at hMet hpre2
              have hlA : As.length = M'.2.2.2.2 := by rw [← hlenV]; exact hA2.len.symm
              rcases (show q.2.1 = 0 ∨ q.2.1 = 3 by omega) with hk0 | hk0
              · rw [hk0] at w5
                obtain ⟨z1, z2, z3⟩ := w5
                rw [e1] at z1
                have cb := (B _).resolve_right (fun z => z z1)
                refine ck_behind (co := co) hone hn gas hG' hwr hA ?_ h K
                rw [hA1]
                exact va_runV hfix hMet ⟨cb, hts _ z2, hts _ z3⟩ ⟨ck_blind, hrec, hpre2⟩ rfl hlA hsz (hst b As hA1) (lv_room hwd) hd hfit
              · rw [hk0] at w5
                obtain ⟨host, z1, z2, z3⟩ := w5
                rw [e1] at z1
                refine ck_behind (co := co) hone hn gas hG' hwr hA ?_ h K
                rw [hA1]
                exact va_runVN hfix hMet ⟨BN _ _ z1, hts _ z2, hts _ z3⟩ ⟨ck_blind, hrec, hpre2⟩ rfl hlA hsz (hst b As hA1) (lv_room hwd) hd hfit
            · cases hxo
              dsimp only at c1 c2 e1
              have hlA : ar.reverse.length = M'.2.2.2.2 := by
                have c3' : (S.take co.2.2.1.length).reverse.length = M'.2.2.2.2 := of_decide_eq_true c2
                rw [← c3']; exact gas.len.symm
              rcases (show q.2.1 = 1 ∨ q.2.1 = 4 by omega) with hk0 | hk0
              · rw [hk0] at w5
                obtain ⟨z1, z2⟩ := w5
                rw [e1] at z1
                have cb := (B _).resolve_right (fun z => z z1)
                exact ck_behind (co := co) hone hn gas hG' hwr hA (va_runS hfix hMet ⟨cb, hts _ z2⟩ ⟨ck_blind, hpre⟩ rfl hlA hsz (by show ar ++ rest = ar.reverse.reverse ++ rest; rw [List.reverse_reverse]) (lv_room hwd) hd hfit) h K
              · rw [hk0] at w5
                obtain ⟨host, z1, z2⟩ := w5
                rw [e1] at z1
                exact ck_behind (co := co) hone hn gas hG' hwr hA (va_runSN hfix hMet ⟨BN _ _ z1, hts _ z2, trivial⟩ ⟨ck_blind, hpre⟩ rfl hlA hsz (by show ar ++ rest = ar.reverse.reverse ++ rest; rw [List.reverse_reverse]) (lv_room hwd) hd hfit) h K
            · cases hxo
              dsimp only at c1 c2 e1
              obtain ⟨Vs, i0, hV, hlenV⟩ : ∃ Vs i0, (S.take co.2.2.1.length).reverse = .inr (0, i0) :: Vs ∧ Vs.length = M'.2.2.2.2 := ck_self2 c2
              have gas2 := gas
              rw [hV] at gas2
              obtain ⟨v, As, hA1, ⟨⟨b, be⟩, hb1, rfl⟩, hA2⟩ := gas2.pop
              have hpre2 := hpre
              rw [hA1] at hMet hpre2
              have hlA : As.length = M'.2.2.2.2 := by rw [← hlenV]; exact hA2.len.symm
              rcases (show q.2.1 = 2 ∨ q.2.1 = 5 by omega) with hk0 | hk0
              · rw [hk0] at w5
                obtain ⟨z1, z2, z3, z4⟩ := w5
                rw [e1] at z1
                have cb := (B _).resolve_right (fun z => z z1)
                rw [z4] at hMet cb
                refine ck_behind (co := co) hone hn gas hG' hwr hA ?_ h K
                rw [hA1]
                exact va_runI hfix hMet ⟨cb, z3, hts _ z2⟩ ⟨ck_blind, hpre2⟩ rfl hlA hsz (hst b As hA1) (lv_room hwd) hd hfit
              · rw [hk0] at w5
                obtain ⟨host, z1, z2, z3, z4⟩ := w5
                rw [e1] at z1
                have cb := BN _ _ z1
                rw [z4] at hMet cb
                refine ck_behind (co := co) hone hn gas hG' hwr hA ?_ h K
                rw [hA1]
                exact va_runIN hfix hMet ⟨cb, z3, hts _ z2⟩ ⟨ck_blind, hpre2⟩ rfl hlA hsz (hst b As hA1) (lv_room hwd) hd hfit
            · cases hxo
          · cases h
end CKI
end
section
/-! THE TABLE RUN, 9: the copy of rows, the first constructor, returns -/
section CKE
variable {p : Program} {l : Launch} {e : Env} {R : Room} {s : State} {m : MethodId} {args : Array Value} {below : List Frame} {meth : Method} {c : Code} {Q : State → Prop}
variable {cc : ByteArray} {D : va_G} {cl : List vw_C} {st : Nat → Nat} {sh : List ck_Sh} {A : Nat → Prop} {nL : Nat} {wr : List (Nat × Nat)} {ws0 : va_W}
variable {I I' : List ck_I} {L : List (Nat × ck_V)} {S S' : List ck_V} {X : ck_D} {nc mc ms n : Nat} {ν ν' : Nat → Int} {ws : va_W} {tys : List (ClassId × FieldType)} {H : Heap} {locs : List Loc} {ls : Array Slot} {vs vs' : List Value} {pc : Nat}
variable {Ts : List Cond} {own : String}
def ck_cpX (X : ck_D) (a b : Nat) : ck_D := X.filterMap fun x => if x.1.1 = b then (match ck_look X a 0 with
  | some F => (ck_join x.2 F).map fun G => (x.1, G)
  | none => none) else some x
theorem ck_setany {i a0 a N : Nat} {cA : ClassId} {cn cn' : ck_Cn} (hG : ck_G D cl st sh A s nL wr ws0 I L S X nc ν ws tys H locs ls vs) (hi : ws[i]? = some (a, .inl (cA, N, cn))) (hel : ∀ q, q < N → ck_elem cn' q = ck_elem cn q ∨ ∀ F, ck_look X a0 0 = some F → ck_fv st ws F (ck_elem cn' q)) (hcn : ∀ ty, ck_cnt ty cn → ck_cnt ty cn') (hwr : (i, 0) ∈ wr) {H1 : Heap} {locs1 : List Loc} (hP : va_P D cl (ws.set i (a, .inl (cA, N, cn'))) H1) (hD : va_D A (ws.set i (a, .inl (cA, N, cn')))) (hS : va_S A s.heap H1 locs1) : ck_G D cl st sh A s nL wr ws0 I L S (ck_cpX X a0 i) nc ν (ws.set i (a, .inl (cA, N, cn'))) tys H1 locs1 ls vs := by
  obtain ⟨h1, h2, h3, h4, h5, h6, h7, h8, h9, h10⟩ := hG
  have ho := ck_on.set (e' := .inl (cA, N, cn')) hi
  have hfr : ck_fr wr ws (ws.set i (a, .inl (cA, N, cn'))) := ck_fr.set hi (fun j hj h0 w hw => absurd hwr h0)
  refine ⟨h1, h2.on ho (Nat.le_refl _) (fun _ _ => rfl), h3.on ho (Nat.le_refl _) (fun _ _ => rfl), ?_, h5.set hi ?_, h6, hP, hD, hS, h10.trans hfr⟩
  · intro y hy
    obtain ⟨x, hx, hxy⟩ := List.mem_filterMap.mp hy
    obtain ⟨q, hq, hv'⟩ := h4 x hx
    by_cases hc : x.1.1 = i
    · rw [if_pos hc] at hxy
      rw [hc] at hq
      have eq : q = (a, .inl (cA, N, cn)) := Option.some.inj (hq.symm.trans hi)
      subst eq
      have hnew : (ws.set i (a, .inl (cA, N, cn')))[i]? = some (a, .inl (cA, N, cn')) := List.getElem?_set_self (List.getElem?_eq_some_iff.mp hi).1
      cases hF : ck_look X a0 0 with
      | none => rw [hF] at hxy; cases hxy
      | some F =>
        rw [hF] at hxy
        dsimp only at hxy
        cases hjn : ck_join x.2 F with
        | none => rw [hjn] at hxy; cases hxy
        | some G =>
          rw [hjn] at hxy
          cases hxy
          refine ⟨_, by rw [hc]; exact hnew, fun w hw => ?_⟩
          dsimp only at hw
          have key : ∀ k, k < N → w = ck_elem cn' k → (ck_slot (.inl (cA, N, cn)) x.1.2 (ck_elem cn k)) → ck_fv st (ws.set i (a, .inl (cA, N, cn'))) G w := fun k hk ew hs => by
            rw [ew]
            rcases hel k hk with z | z
            · rw [z]
              exact (ck_join_ok hjn (Or.inl (hv' _ hs))).on ho
            · exact (ck_join_ok hjn (Or.inr (z F hF))).on ho
          match hx2 : x.1.2, hw with
          | 0, hw =>
            obtain ⟨k, hk, ew⟩ := hw
            exact key k hk ew (by rw [hx2]; exact ⟨k, hk, rfl⟩)
          | k + 1, hw =>
            obtain ⟨hk, ew⟩ := hw
            exact key k hk ew (by rw [hx2]; exact ⟨hk, rfl⟩)
    · rw [if_neg hc] at hxy
      cases hxy
      exact ⟨q, by rw [List.getElem?_set_ne (fun z => hc z.symm)]; exact hq, fun w hw => (hv' w hw).on ho⟩
  · intro S hs
    rcases S with o | r
    · exact hs.elim
    · exact ⟨hs.1, hs.2.1, hcn _ hs.2.2⟩
def ck_okY (Ts : List Cond) (own : String) (q : Nat × Nat × Nat) : Prop := (q.2.1 = 6 → Cond.methodLink own q.1 arraycopyName ∈ Ts ∧ Cond.native arraycopyName ∈ Ts ∧ Cond.static arraycopyName ∈ Ts ∧ Cond.initialized "java/lang/System" ∈ Ts) ∧ (q.2.1 = 7 → Cond.methodLink own q.1 Lib.objectInit ∈ Ts ∧ Cond.instanceMethod Lib.objectInit ∈ Ts ∧ Cond.code Lib.objectInit ⟨#[0xb1]⟩ 1 none ∈ Ts) ∧ (q.2.1 = 8 → Cond.methodLink own q.1 Lib.Math.min.name ∈ Ts ∧ Cond.static Lib.Math.min.name ∈ Ts ∧ Cond.initialized "java/lang/Math" ∈ Ts ∧ Cond.code Lib.Math.min.name Lib.Math.min.code 2 (some .int) ∈ Ts)
/-- the less of two -/
def ck_min (I : List ck_I) (f g : ck_L) : List ck_I × ck_L := ck_two (fun x y => if y < x then y else x) I f g (ck_btw I (min (ck_rng I f).1 (ck_rng I g).1) (min (ck_rng I f).2 (ck_rng I g).2))
theorem ck_min_ok {f g : ck_L} {x y : Int32} (h : ck_gi ν I) (hx : x.toInt = ck_ev ν f) (hy : y.toInt = ck_ev ν g) : ck_res ν I (ck_min I f g).1 (ck_min I f g).2 (if y < x then y else x).toInt := by
  have rx := ck_rng32 h hx
  have ry := ck_rng32 h hy
  refine ck_two_ok (o := fun x y => if y < x then y else x) h hx hy ?_
  show ck_res ν I _ _ (if y < x then y else x).toInt
  by_cases hc : y < x
  · have hc' := Int32.lt_iff_toInt_lt.mp hc
    rw [if_pos hc]
    exact ck_btw_ok h (by omega) (by omega)
  · have hc' : ¬ y.toInt < x.toInt := fun q => hc (Int32.lt_iff_toInt_lt.mpr q)
    rw [if_neg hc]
    exact ck_btw_ok h (by omega) (by omega)
def ck_y (ml : List (Nat × Nat × Nat)) (sh : List ck_Sh) (wr : List (Nat × Nat)) (CM SM FM LM : Nat) (pc : Nat) (i : Instr × Nat) (I : List ck_I) (L : List (Nat × ck_V)) (S : List ck_V) (X : ck_D) (k : Nat × Nat × Nat) : Option (List (Nat × ck_S)) := match i, S with
  | (.invokestatic x, 3), .inl g :: .inl f2 :: .inr (0, b) :: .inl f1 :: .inr (0, a) :: S => match ml.find? (fun q => q.1 == x), ck_row sh a, ck_row sh b with
    | some q, some (.int, n0), some (.int, n1) => if q.2.1 = 6 ∧ 0 ≤ (ck_rng I g).1 ∧ 0 ≤ (ck_rng I f1).1 ∧ 0 ≤ (ck_rng I f2).1 ∧ (ck_rng I f1).2 + (ck_rng I g).2 ≤ (n0 : Int) ∧ (ck_rng I f2).2 + (ck_rng I g).2 ≤ (n1 : Int) ∧ wr.contains (b, 0) = true ∧ 1 ≤ FM ∧ S.all ck_one = true ∧ S.length + (nativeFrameWords "java/lang/System" "arraycopy" 5 + 11) ≤ LM then some [(pc + 3, (I, L, S, ck_cpX X a b, k))] else none
    | _, _, _ => none
  | (.invokespecial x, 3), .inr (0, _) :: S => match ml.find? (fun q => q.1 == x) with
    | some q => if q.2.1 = 7 ∧ 1 ≤ FM ∧ S.all ck_one = true ∧ S.length + 12 ≤ LM then some [(pc + 3, (I, L, S, X, k))] else none
    | none => none
  | (.invokestatic x, 3), .inl g :: .inl f :: S => match ml.find? (fun q => q.1 == x) with
    | some q => if q.2.1 = 8 ∧ 1 ≤ FM ∧ S.all ck_one = true ∧ S.length + 13 ≤ LM ∧ k.2.1 ≤ CM ∧ k.2.2 ≤ SM then some [(pc + 3, ((ck_min I f g).1, L, .inl (ck_min I f g).2 :: S, X, k))] else none
    | none => none
  | _, _ => none
theorem ck_y_ok {ml : List (Nat × Nat × Nat)} {CM SM FM LM : Nat} {i : Instr × Nat} {xs : List (Nat × ck_S)} (hx : p.tables.exec = Jvm.exec) (hb : c.code = cc) (hml : c.maxLocals = nL) (hown : s.vm.findClass own = some m.cls) (hts : ∀ w ∈ Ts, w.before args s = true) (hY : ∀ q ∈ ml, ck_okY Ts own q) (hRc : R.cells = CM) (hRs : R.slots = SM) (hRf : R.frames = FM) (hRl : R.locals = LM) (hd : decode cc pc = .ok i) (h : ck_y ml sh wr CM SM FM LM pc i I L S X (nc, mc, ms) = some xs) (hn : n ≤ I.length) (hG : ck_G D cl st sh A s nL wr ws0 I L S X nc ν ws tys H locs ls vs)
    (K : ∀ x ∈ xs, ck_N p l e R s m args below meth c Q D cl st sh A nL wr ws0 n ν x) : W p l e R s m args below meth c H locs mc ms Q (F0 m pc ls vs) := by
  have hK := hG.2.2.2.2.2.1
  have hP := hG.2.2.2.2.2.2.1
  have hD := hG.2.2.2.2.2.2.2.1
  have hS := hG.2.2.2.2.2.2.2.2.1
  have hsz : ls.size = nL := by obtain ⟨lv, hl, -⟩ := hG.2.1; exact hl.1
  unfold ck_y at h
  split at h
  · split at h
    · rename_i q n0 n1 hq hr0 hr1
      split at h
      · rename_i hc
        obtain ⟨c0, c1, c2, c3, c4, c5, c6, c7, c8, c9⟩ := hc
        cases h
        obtain ⟨hmem, e1⟩ := ck_found hq
        obtain ⟨y1, y2, y3, y4⟩ := (hY q hmem).1 c0
        rw [e1] at y1
        obtain ⟨v, vs1, rfl, ⟨w1, z, rfl, ez⟩, g1⟩ := hG.gs.pop
        obtain ⟨v, vs2, rfl, ⟨w2, dp, rfl, ed⟩, g2⟩ := g1.pop
        obtain ⟨v, vs3, rfl, ⟨⟨ab, eb⟩, hb1, rfl⟩, g3⟩ := g2.pop
        obtain ⟨v, vs4, rfl, ⟨w4, sp, rfl, es⟩, g4⟩ := g3.pop
        obtain ⟨v, vs5, rfl, ⟨⟨aa, ea⟩, ha1, rfl⟩, g5⟩ := g4.pop
        obtain ⟨cA0, cn0, t0, p1, p2, p3⟩ := ck_row_ok hr0 hG.2.2.2.2.1 ha1
        obtain ⟨cA1, cn1, t1, q1, q2, q3⟩ := ck_row_ok hr1 hG.2.2.2.2.1 hb1
        dsimp only at p1 p2 q1 q2
        subst p1
        subst q1
        have rz := ck_rng32 hG.gi ez
        have rd := ck_rng32 hG.gi ed
        have rs := ck_rng32 hG.gi es
        rcases cn0 with f | cn0
        · rcases cn1 with g | cn1
          · have z0 : (0 : Int32).toInt = 0 := rfl
            have nn : ∀ {x : Int32}, 0 ≤ x.toInt → ¬ x < 0 := fun hx0 hx1 => by have := Int32.lt_iff_toInt_lt.mp hx1; omega
            have tc : ∀ x : Int32, x.toNatClampNeg = x.toInt.toNat := fun _ => rfl
            have hw := ck_words c8 g5
            refine va_copyi hx hb (hml.trans hsz.symm) hown (hts _ y1) (hts _ y2) (hts _ y3) (hts _ y4) hK hP hD hS _ _ t0 t1 ha1 hb1 p2 q2 rfl (nn (by omega)) (nn (by omega)) (nn (by omega)) (by rw [tc, tc]; omega) (by rw [tc, tc]; omega) (fun _ _ => rfl) (by rw [hRf]; exact c7) (by rw [hRl, hw]; exact c9) hd (fun H1 locs1 hP1 hD1 hS1 => K _ List.mem_cons_self ν _ tys H1 locs1 ls vs5 (fun _ _ => rfl) (ck_setany (hG.stk g5) hb1 ?_ (fun ty hty => by cases ty <;> exact hty) (List.contains_iff_mem.mp c6) hP1 hD1 hS1))
            intro j hj
            by_cases hin : dp.toNatClampNeg ≤ j ∧ j < dp.toNatClampNeg + z.toNatClampNeg
            · refine Or.inr (fun F hF => ?_)
              show ck_fv st ws F (.int (va_cpy f g _ _ _ j))
              rw [pk_cpy_in hin.1 hin.2]
              refine ck_look_ok hF hG.2.2.2.1 ha1 ⟨sp.toNatClampNeg + (j - dp.toNatClampNeg), ?_, rfl⟩
              rw [tc, tc] at hin
              show _ < n0
              rw [tc, tc]
              omega
            · refine Or.inl ?_
              show Value.int (va_cpy f g _ _ _ j) = .int (g j)
              rw [pk_cpy_out (by omega)]
          · exact q3.elim
        · exact p3.elim
      · cases h
    · cases h
  · split at h
    · rename_i q hq
      split at h
      · rename_i hc
        obtain ⟨c0, c7, c8, c9⟩ := hc
        cases h
        obtain ⟨hmem, e1⟩ := ck_found hq
        obtain ⟨y1, y2, y3⟩ := (hY q hmem).2.1 c0
        rw [e1] at y1
        obtain ⟨v, vs1, rfl, ⟨a, ha, rfl⟩, g1⟩ := hG.gs.pop
        have hw := ck_words c8 g1
        have hroom : 2 * (F0 m pc ls (Value.ref a.1 :: vs1)).monitorRoom + (vs1.map fun v => v.category).sum + 12 ≤ R.locals := by
          rw [hw, hRl]
          show 2 * 0 + _ + 12 ≤ _
          omega
        exact W.objInit hx hb hown (hts _ y1) (hts _ y2) (hts _ y3) rfl (hsz.trans hml.symm) rfl hd (by rw [hRf]; exact c7) hroom (K _ List.mem_cons_self ν ws tys H locs ls vs1 (fun _ _ => rfl) (hG.stk g1))
      · cases h
    · cases h
  · split at h
    · rename_i q hq
      split at h
      · rename_i hc
        obtain ⟨c0, c7, c8, c9, c10, c11⟩ := hc
        cases h
        obtain ⟨hmem, e1⟩ := ck_found hq
        obtain ⟨y1, y2, y3, y4⟩ := (hY q hmem).2.2 c0
        rw [e1] at y1
        obtain ⟨v, vs1, rfl, ⟨w1, y, rfl, ey⟩, g1⟩ := hG.gs.pop
        obtain ⟨v, vs2, rfl, ⟨w2, x, rfl, ex⟩, g2⟩ := g1.pop
        have hw := ck_words c8 g2
        exact va_mmin hx hb (hml.trans hsz.symm) hown (hts _ y1) (hts _ y2) (hts _ y3) (hts _ y4) (by rw [hRf]; exact c7) (by rw [hRl, hw]; exact c9) (by rw [hRc]; exact c10) (by rw [hRs]; exact c11) hd (ck_pushv (hG.stk g2) hn (ck_min_ok hG.gi ex ey) (K _ List.mem_cons_self))
      · cases h
    · cases h
  · cases h
/-! returns -/
def ck_intsOk (I : List ck_I) : Nat → List (Int × Int) → Bool
  | _, [] => true
  | k, z :: zs => (match I[k]? with
    | some q => decide (z.1 ≤ q.1) && decide (q.2.1 ≤ z.2)
    | none => false) && ck_intsOk I (k + 1) zs
theorem ck_intsOk_ok : ∀ {zs : List (Int × Int)} {xs : List Int32} {k : Nat}, ck_intsOk I k zs = true → ck_gi ν I → zs.length = xs.length → (∀ (j : Nat) (x : Int32), xs[j]? = some x → ν (k + j) = x.toInt) → ck_iv zs xs
  | [], [], _, _, _, _, _ => trivial
  | z :: zs, x :: xs, k, h, hi, hl, hν => by
    simp only [ck_intsOk, Bool.and_eq_true] at h
    obtain ⟨h1, h2⟩ := h
    have e : ν k = x.toInt := by simpa using hν 0 x rfl
    split at h1
    · rename_i q hq
      simp only [Bool.and_eq_true, decide_eq_true_eq] at h1
      obtain ⟨a1, a2, -, -⟩ := hi k q hq
      refine ⟨by omega, by omega, ck_intsOk_ok h2 hi (by simpa using hl) (fun j y hy => ?_)⟩
      have := hν (j + 1) y (by simpa using hy)
      rw [← this]; congr 1; omega
    · cases h1
  | [], _ :: _, _, _, _, hl, _ => by simp at hl
  | _ :: _, [], _, _, _, hl, _ => by simp at hl
def ck_end (outs : List ck_O) (n0 : Nat) (I : List ck_I) (V : Option ck_V) (X : ck_D) (nc : Nat) : Bool := outs.any fun o => decide (o.2.2.2 = nc) && decide (o.2.1.length = n0) && (match V, o.1 with
  | none, none => true
  | some V, some F => ck_subF (ck_toF I V) F
  | _, _ => false) && ck_intsOk I 0 o.2.1 && ck_subD X o.2.2.1
def ck_ret (co : ck_C) (ret : Option FieldType) (n0 : Nat) (i : Instr × Nat) (I : List ck_I) (S : List ck_V) (X : ck_D) (k : Nat × Nat × Nat) : Bool := match i, S with
  | (.ireturn, 1), [.inl f] => (match ret with
    | some .int => true
    | some .boolean => decide (0 ≤ (ck_rng I f).1) && decide ((ck_rng I f).2 ≤ 1)
    | _ => false) && ck_end co.2.2.2.2.2.1 n0 I (some (.inl f)) X k.1 && decide (k.2.1 ≤ co.2.2.2.2.2.2.2.2.1) && decide (k.2.2 ≤ co.2.2.2.2.2.2.2.2.2)
  | (.areturn, 1), [.inr q] => (match ret with
    | some (.object _) => true
    | some (.array _) => true
    | _ => false) && ck_one (.inr q) && ck_end co.2.2.2.2.2.1 n0 I (some (.inr q)) X k.1 && decide (k.2.1 ≤ co.2.2.2.2.2.2.2.2.1) && decide (k.2.2 ≤ co.2.2.2.2.2.2.2.2.2)
  | (.return_, 1), [] => (match ret with
    | none => true
    | _ => false) && ck_end co.2.2.2.2.2.1 n0 I none X k.1 && decide (k.2.1 ≤ co.2.2.2.2.2.2.2.2.1) && decide (k.2.2 ≤ co.2.2.2.2.2.2.2.2.2)
  | _, _ => false
theorem ck_end_ok {co : ck_C} {n0 : Nat} {V : Option ck_V} {v : Option Value} {as : List Value} (h : ck_end co.2.2.2.2.2.1 n0 I V X nc = true) (hG : ck_G D cl st sh (va_A ws0 s.heap.size) s nL co.2.2.2.2.1 ws0 I L S X nc ν ws tys H locs ls vs) (hV : match V, v with
    | none, none => True
    | some V, some v => ck_gv ν st ws I.length V v
    | _, _ => False) (hn0 : (ck_ints as).length = n0) (hν : ∀ (j : Nat) (x : Int32), (ck_ints as)[j]? = some x → ν j = x.toInt) {t : State} (ht : t.heap = H) (hW : s.WarmedH t.vm) (args' : Array Value) : ck_Post D cl st sh co ws0 as (va_A ws0 s.heap.size) args' s (.returned v) t := by
  obtain ⟨o, ho, hh⟩ := List.any_eq_true.mp h
  simp only [Bool.and_eq_true, decide_eq_true_eq] at hh
  obtain ⟨⟨⟨⟨h1, h2⟩, h3⟩, h4⟩, h5⟩ := hh
  obtain ⟨g1, g2, g3, g4, g5, g6, g7, g8, g9, g10⟩ := hG
  refine ⟨⟨o, ho, v, ws, tys, rfl, ?_, ck_intsOk_ok h4 g1 (by omega) (fun j x hx => by rw [Nat.zero_add]; exact hν j x hx), ck_subD_ok h5 g4, by rw [h1]; exact g5, g10, by rw [ht]; exact g7, va_K.moved hW.alike g6, g8⟩, by rw [ht]; exact g9.1, fun q hq hA => by rw [ht]; exact g9.2.1 q hq hA⟩
  cases V with
  | none =>
    cases v with
    | none =>
      cases ho1 : o.1 with
      | none => trivial
      | some F => rw [ho1] at h3; cases h3
    | some v => exact hV.elim
  | some V =>
    cases v with
    | none => exact hV.elim
    | some v =>
      cases ho1 : o.1 with
      | none => rw [ho1] at h3; cases h3
      | some F =>
        rw [ho1] at h3
        exact ck_subF_ok h3 (ck_toF_ok g1 hV)
theorem ck_ret_ok {co : ck_C} {ret : Option FieldType} {n0 : Nat} {i : Instr × Nat} {as : List Value} (hx : p.tables.exec = Jvm.exec) (hb : c.code = cc) (hr : meth.sig.returnType = ret) (hlocks : meth.locks = false) (hn0 : (ck_ints as).length = n0) (hd : decode cc pc = .ok i) (h : ck_ret co ret n0 i I S X (nc, mc, ms) = true) (hν : ∀ (j : Nat) (x : Int32), (ck_ints as)[j]? = some x → ν j = x.toInt) (hG : ck_G D cl st sh (va_A ws0 s.heap.size) s nL co.2.2.2.2.1 ws0 I L S X nc ν ws tys H locs ls vs) :
    W p l e R s m args below meth c H locs mc ms (MQ below (ck_Post D cl st sh co ws0 as (va_A ws0 s.heap.size)) args s co.2.2.2.2.2.2.2.2.1 co.2.2.2.2.2.2.2.2.2 (va_A ws0 s.heap.size)) (F0 m pc ls vs) := by
  have hf : ∀ q ∈ locs, va_A ws0 s.heap.size q.base := hG.2.2.2.2.2.2.2.2.1.2.2
  unfold ck_ret at h
  split at h
  · simp only [Bool.and_eq_true, decide_eq_true_eq] at h
    obtain ⟨⟨⟨h1, h2⟩, h3⟩, h4⟩ := h
    obtain ⟨v, vs1, rfl, hv, g1⟩ := hG.gs.pop
    have hv' := hv
    obtain ⟨w, x, rfl, e1⟩ := hv'
    cases vs1 with
    | cons a b => exact g1.elim
    | nil =>
      refine W.widen h3 h4 ?_
      have rx := ck_rng32 hG.gi e1
      split at h1
      · exact W.zret hx hb hr rfl (fun t ht hW => ck_end_ok h2 hG hv hn0 hν ht hW _) hf hd hlocks
      · simp only [Bool.and_eq_true, decide_eq_true_eq] at h1
        refine W.zret hx hb hr ?_ (fun t ht hW => ck_end_ok h2 hG hv hn0 hν ht hW _) hf hd hlocks
        rcases (show x.toInt = 0 ∨ x.toInt = 1 by omega) with q | q
        · have ex : x = 0 := Int32.toInt_inj.mp q
          rw [ex]; rfl
        · have ex : x = 1 := Int32.toInt_inj.mp q
          rw [ex]; rfl
      · cases h1
  · simp only [Bool.and_eq_true, decide_eq_true_eq] at h
    obtain ⟨⟨⟨⟨h1, h0⟩, h2⟩, h3⟩, h4⟩ := h
    obtain ⟨v, vs1, rfl, hv, g1⟩ := hG.gs.pop
    cases vs1 with
    | cons a b => exact g1.elim
    | nil =>
      refine W.widen h3 h4 ?_
      split at h1
      · exact W.aret hx hb hr (Or.inl ⟨_, rfl⟩) (ck_refs h0 hv) (fun t ht hW => ck_end_ok h2 hG hv hn0 hν ht hW _) hf hd hlocks
      · exact W.aret hx hb hr (Or.inr ⟨_, rfl⟩) (ck_refs h0 hv) (fun t ht hW => ck_end_ok h2 hG hv hn0 hν ht hW _) hf hd hlocks
      · cases h1
  · simp only [Bool.and_eq_true, decide_eq_true_eq] at h
    obtain ⟨⟨⟨h1, h2⟩, h3⟩, h4⟩ := h
    have g1 := hG.gs
    cases vs with
    | cons a b => exact g1.elim
    | nil =>
      refine W.widen h3 h4 ?_
      split at h1
      · exact W.vret hx hb hr (fun t ht hW => ck_end_ok (V := none) (v := none) h2 hG trivial hn0 hν ht hW _) hf hd hlocks
      · cases h1
  · cases h
end CKE
end
section
/-! THE TABLE RUN, 10: the run itself, with loops by their heads -/
/-- a head: its place, what is known there, the symbol that goes up (0) or down (1); 2: no loop, only a place to begin anew -/
abbrev ck_Hd : Type := Nat × ck_S × Nat × Nat
/-- tables of a method: fields, objects, types of fields, rows, rows of objects, places of rows looked at one by one, constants, literals, methods linked -/
abbrev ck_T : Type := List ck_FL × List (Nat × Nat) × List (List FieldType) × List FieldType × List (Nat × String) × List (Nat × List Nat) × List (Nat × Int) × List (Nat × Nat) × List (Nat × Nat × Nat)
def ck_step (cl : List vw_C) (mts : List ck_MT) (sh : List ck_Sh) (T : ck_T) (cs : List ck_C) (wr : List (Nat × Nat)) (ini : Bool) (nL CM SM FM LM : Nat) (rt : Instr × Nat → List ck_I → List ck_V → ck_D → Nat × Nat × Nat → Bool) (cc : ByteArray) (pc : Nat) (I : List ck_I) (L : List (Nat × ck_V)) (S : List ck_V) (X : ck_D) (k : Nat × Nat × Nat) : Option (List (Nat × ck_S)) := match decode cc pc with
  | .ok i => match ck_a pc i I L S X k with
    | some xs => some xs
    | none => match ck_b nL pc i I L S X k with
      | some xs => some xs
      | none => match ck_c pc i I L S X k with
        | some xs => some xs
        | none => match ck_d pc i I L S X k with
          | some xs => some xs
          | none => match ck_e pc i I L S X k with
            | some xs => some xs
            | none => match ck_f T.1 sh wr ini pc i I L S X k with
              | some xs => some xs
              | none => match ck_ld sh pc i I L S X k with
                | some xs => some xs
                | none => match ck_sr cl sh wr pc i I L S X k with
                  | some xs => some xs
                  | none => match ck_cal cl mts T.2.2.2.2.2.2.2.2 cs sh wr CM SM FM LM pc i I L S X k with
                    | some xs => some xs
                    | none => match ck_y T.2.2.2.2.2.2.2.2 sh wr CM SM FM LM pc i I L S X k with
                      | some xs => some xs
                      | none => match ck_n T.2.1 T.2.2.1 T.2.2.2.1 T.2.2.2.2.1 T.2.2.2.2.2.1 sh CM SM pc i I L S X k with
                        | some xs => some xs
                        | none => match ck_ldc T.2.2.2.2.2.2.1 T.2.2.2.2.2.2.2.1 pc i I L S X k with
                          | some xs => some xs
                          | none => if rt i I S X k = true then some [] else none
  | _ => none
/-- what the places of a head's table are, told by the table that comes to it -/
def ck_uni (t : List (Option ck_L)) (Vh V : ck_V) : Option (List (Option ck_L)) := match Vh, V with
  | .inr a, .inr b => if a = b then some t else none
  | .inl h, .inl f => if h.2.1 = 0 then (if f.2.1 = 0 ∧ f.2.2 = h.2.2 then some t else none)
    else if h.2.1 = 1 ∧ h.2.2 = 0 then (match t[h.1]? with
      | some none => some (t.set h.1 (some f))
      | some (some g) => if g = f then some t else none
      | none => none)
    else none
  | _, _ => none
def ck_uniL (L : List (Nat × ck_V)) : List (Option ck_L) → List (Nat × ck_V) → Option (List (Option ck_L))
  | t, [] => some t
  | t, q :: Lh => match ck_get L q.1 with
    | some V => match ck_uni t q.2 V with
      | some t' => ck_uniL L t' Lh
      | none => none
    | none => none
def ck_uniS : List (Option ck_L) → List ck_V → List ck_V → Option (List (Option ck_L))
  | t, [], [] => some t
  | t, Vh :: Sh, V :: S => match ck_uni t Vh V with
    | some t' => ck_uniS t' Sh S
    | none => none
  | _, _, _ => none
def ck_id (n : Nat) : List (Option ck_L) := (List.range n).map fun j => some (j, 1, 0)
def ck_bnd (I : List ck_I) : List ck_I → List (Option ck_L) → Bool
  | [], [] => true
  | q :: Ih, some f :: t => decide (q.2.2.1 = 0) && decide (q.1 ≤ (ck_rng I f).1) && decide ((ck_rng I f).2 ≤ q.2.1) && ck_bnd I Ih t
  | _, _ => false
def ck_wfT (n : Nat) (t : List (Option ck_L)) : Bool := t.all fun o => match o with
  | some f => decide (f.2.1 = 0) || decide (f.1 < n)
  | none => false
/-- the table σ is one of those that the head's table speaks of, the first n symbols being the same -/
def ck_subS (n : Nat) (σ h : ck_S) : Option (List (Option ck_L)) := match ck_uniL σ.2.1 (ck_id n ++ List.replicate (h.1.length - n) none) h.2.1 with
  | some t => match ck_uniS t h.2.2.1 σ.2.2.1 with
    | some t => if n ≤ h.1.length ∧ ck_bnd σ.1 h.1 t = true ∧ ck_wfT σ.1.length t = true ∧ ck_subD σ.2.2.2.1 h.2.2.2.1 = true ∧ σ.2.2.2.2.1 = h.2.2.2.2.1 ∧ σ.2.2.2.2.2.1 ≤ h.2.2.2.2.2.1 ∧ σ.2.2.2.2.2.2 ≤ h.2.2.2.2.2.2 then some t else none
    | none => none
  | none => none
/-- the loop's symbol has moved on -/
def ck_more (I : List ck_I) (μ d : Nat) (t : List (Option ck_L)) : Bool := match t[μ]? with
  | some (some f) => decide (f.2.1 = 1) && (if f.1 = μ then (if d = 0 then decide (1 ≤ f.2.2) else decide (f.2.2 ≤ -1)) else (match I[f.1]? with
    | some q => decide (q.2.2.2.1 = μ) && decide (q.2.2.2.2.1 = 1) && (if d = 0 then decide (q.2.2.1 = 1) && decide (1 ≤ f.2.2 + q.2.2.2.2.2) else decide (q.2.2.1 = 2) && decide (f.2.2 + q.2.2.2.2.2 ≤ -1))
    | none => false))
  | _ => false
def ck_run (step : Nat → List ck_I → List (Nat × ck_V) → List ck_V → ck_D → Nat × Nat × Nat → Option (List (Nat × ck_S))) (hs : List ck_Hd) (sp : List (Nat × Nat × Int)) (lv : List (Nat × ck_S)) : Nat → List (ck_Hd × Nat) → Nat → Nat → ck_S → Bool
  | 0, _, _, _, _ => false
  | fuel + 1, Γ, kp, pc, σ => decide (kp ≤ σ.1.length) && match lv.find? (fun x => x.1 == pc) with
    | some x => (ck_subS kp σ x.2).isSome
    | none => match sp.find? (fun q => q.1 == pc && (match σ.1[q.2.1]? with
      | some r => decide (r.1 ≤ q.2.2) && decide (q.2.2 < r.2.1)
      | none => false)) with
    | some q => (match ck_cutHi σ.1 q.2.1 q.2.2 with
        | some J => ck_run step hs sp lv fuel Γ kp pc (J, σ.2)
        | none => true) && (match ck_cutLo σ.1 q.2.1 (q.2.2 + 1) with
        | some J => ck_run step hs sp lv fuel Γ kp pc (J, σ.2)
        | none => true)
    | none => match Γ.find? (fun g => g.1.1 == pc) with
      | some g => (match ck_subS g.2 σ g.1.2.1 with
        | some t => ck_more σ.1 g.1.2.2.1 g.1.2.2.2 t
        | none => false)
      | none => match hs.find? (fun h => h.1 == pc) with
        | some h => (match ck_subS kp σ h.2.1 with
          | some _ => (match step pc h.2.1.1 h.2.1.2.1 h.2.1.2.2.1 h.2.1.2.2.2.1 h.2.1.2.2.2.2 with
            | some xs => decide (h.2.2.2 ≤ 2) && xs.all (fun x => if h.2.2.2 = 2 then ck_run step hs sp lv fuel Γ kp x.1 x.2 else decide (h.2.2.1 < h.2.1.1.length) && ck_run step hs sp lv fuel ((h, kp) :: Γ) h.2.1.1.length x.1 x.2)
            | none => false)
          | none => false)
        | none => match step pc σ.1 σ.2.1 σ.2.2.1 σ.2.2.2.1 σ.2.2.2.2 with
          | some xs => xs.all (fun x => ck_run step hs sp lv fuel Γ kp x.1 x.2)
          | none => false
section CKT
variable {p : Program} {l : Launch} {e : Env} {R : Room} {s : State} {m : MethodId} {args : Array Value} {below : List Frame} {meth : Method} {c : Code} {Q : State → Prop}
variable {cc : ByteArray} {D : va_G} {cl : List vw_C} {st : Nat → Nat} {sh : List ck_Sh} {A : Nat → Prop} {nL : Nat} {wr : List (Nat × Nat)} {ws0 : va_W}
variable {I I' : List ck_I} {L : List (Nat × ck_V)} {S S' : List ck_V} {X : ck_D} {nc mc ms n : Nat} {ν ν' : Nat → Int} {ws : va_W} {tys : List (ClassId × FieldType)} {H : Heap} {locs : List Loc} {ls : Array Slot} {vs vs' : List Value} {pc : Nat}
def ck_evT (ν : Nat → Int) (t : List (Option ck_L)) (j : Nat) : Int := match t[j]? with
  | some (some f) => ck_ev ν f
  | _ => 0
/-- t' only says more than t -/
def ck_ext (t t' : List (Option ck_L)) : Prop := t'.length = t.length ∧ ∀ (j : Nat) (f : ck_L), t[j]? = some (some f) → t'[j]? = some (some f)
theorem ck_ext.rf {t : List (Option ck_L)} : ck_ext t t := ⟨rfl, fun _ _ h => h⟩
theorem ck_ext.trans {a b d : List (Option ck_L)} (h1 : ck_ext a b) (h2 : ck_ext b d) : ck_ext a d := ⟨h2.1.trans h1.1, fun j f h => h2.2 j f (h1.2 j f h)⟩
theorem ck_uni_ok {t t' : List (Option ck_L)} {Vh V : ck_V} (h : ck_uni t Vh V = some t') : ck_ext t t' ∧ ∀ {t2 : List (Option ck_L)} {nh : Nat}, ck_ext t' t2 → t2.length = nh → ∀ {n : Nat} {v : Value}, ck_gv ν st ws n V v → ck_gv (ck_evT ν t2) st ws nh Vh v := by
  unfold ck_uni at h
  split at h
  · split at h
    · rename_i a b e
      cases h
      subst e
      exact ⟨ck_ext.rf, fun {t2 nh} _ _ {n v} hv => hv⟩
    · cases h
  · rename_i h0 f
    split at h
    · rename_i ha
      split at h
      · rename_i hb
        cases h
        refine ⟨ck_ext.rf, fun {t2 nh} _ _ {n v} hv => ?_⟩
        obtain ⟨w, x, rfl, e1⟩ := hv
        refine ⟨Or.inl ha, x, rfl, ?_⟩
        rw [e1]; unfold ck_ev; rw [ha, hb.1, Int.zero_mul, Int.zero_mul, hb.2]
      · cases h
    · split at h
      · rename_i hab
        have fin : ∀ {t2 : List (Option ck_L)} {nh : Nat}, t2[h0.1]? = some (some f) → t2.length = nh → ∀ {n : Nat} {v : Value}, ck_gv ν st ws n (.inl f) v → ck_gv (ck_evT ν t2) st ws nh (.inl h0) v := fun {t2 nh} h1 h2 {n v} hv => by
          obtain ⟨w, x, rfl, e1⟩ := hv
          refine ⟨Or.inr (by rw [← h2]; exact (List.getElem?_eq_some_iff.mp h1).1), x, rfl, ?_⟩
          rw [e1]
          show _ = h0.2.1 * ck_evT ν t2 h0.1 + h0.2.2
          unfold ck_evT
          rw [h1, hab.1, hab.2, Int.one_mul, Int.add_zero]
        split at h
        · rename_i hn
          cases h
          have hl : h0.1 < t.length := (List.getElem?_eq_some_iff.mp hn).1
          refine ⟨⟨List.length_set, fun j g hg => ?_⟩, fun {t2 nh} h1 h2 {n v} hv => fin (h1.2 _ _ (List.getElem?_set_self hl)) h2 hv⟩
          by_cases hj : h0.1 = j
          · rw [← hj, hn] at hg; cases hg
          · rw [List.getElem?_set_ne hj]; exact hg
        · rename_i g hg
          split at h
          · rename_i e
            cases h
            subst e
            exact ⟨ck_ext.rf, fun {t2 nh} h1 h2 {n v} hv => fin (h1.2 _ _ hg) h2 hv⟩
          · cases h
        · cases h
      · cases h
  · cases h
theorem ck_uniL_ok {ls : Array Slot} : ∀ {Lh : List (Nat × ck_V)} {t t' : List (Option ck_L)}, ck_uniL L t Lh = some t' → ck_ext t t' ∧ ∀ {t2 : List (Option ck_L)} {nh : Nat}, ck_ext t' t2 → t2.length = nh → ∀ {n : Nat}, ck_gl ν st ws n nL L ls → ck_gl (ck_evT ν t2) st ws nh nL Lh ls
  | [], t, t', h => by
    cases h
    exact ⟨ck_ext.rf, fun {t2 nh} _ _ {n} hl => by obtain ⟨lv, h1, -⟩ := hl; exact ⟨lv, h1, fun q hq => by cases hq⟩⟩
  | q :: Lh, t, t', h => by
    unfold ck_uniL at h
    split at h
    · rename_i V hV
      split at h
      · rename_i t1 ht1
        obtain ⟨a1, a2⟩ := ck_uni_ok (ν := ν) (st := st) (ws := ws) ht1
        obtain ⟨b1, b2⟩ := ck_uniL_ok (ls := ls) h
        refine ⟨a1.trans b1, fun {t2 nh} h1 h2 {n} hl => ?_⟩
        obtain ⟨lv, c1, c2⟩ := id hl
        obtain ⟨lv', d1, d2⟩ := b2 h1 h2 hl
        obtain ⟨v, c3, c4⟩ := c2 _ (ck_get_mem hV)
        refine ⟨lv ++ lv', ⟨c1.1, c1.2.1, fun r hr => (List.mem_append.mp hr).elim (c1.2.2 r) (d1.2.2 r)⟩, fun r hr => ?_⟩
        rcases List.mem_cons.mp hr with rfl | hr
        · exact ⟨v, List.mem_append_left _ c3, a2 (b1.trans h1) h2 c4⟩
        · obtain ⟨w, e1, e2⟩ := d2 r hr
          exact ⟨w, List.mem_append_right _ e1, e2⟩
      · cases h
    · cases h
theorem ck_uniS_ok : ∀ {Sh S : List ck_V} {vs : List Value} {t t' : List (Option ck_L)}, ck_uniS t Sh S = some t' → ck_ext t t' ∧ ∀ {t2 : List (Option ck_L)} {nh : Nat}, ck_ext t' t2 → t2.length = nh → ∀ {n : Nat}, ck_gs ν st ws n S vs → ck_gs (ck_evT ν t2) st ws nh Sh vs
  | [], [], vs, t, t', h => by
    cases h
    refine ⟨ck_ext.rf, fun {t2 nh} _ _ {n} hs => ?_⟩
    cases vs with
    | nil => trivial
    | cons a b => exact hs.elim
  | Vh :: Sh, V :: S, vs, t, t', h => by
    unfold ck_uniS at h
    split at h
    · rename_i t1 ht1
      obtain ⟨a1, a2⟩ := ck_uni_ok (ν := ν) (st := st) (ws := ws) ht1
      refine ⟨a1.trans (ck_uniS_ok (vs := []) h).1, fun {t2 nh} h1 h2 {n} hs => ?_⟩
      obtain ⟨v, vs', rfl, g1, g2⟩ := hs.pop
      obtain ⟨b1, b2⟩ := ck_uniS_ok (vs := vs') h
      exact ⟨a2 (b1.trans h1) h2 g1, b2 h1 h2 g2⟩
    · cases h
  | [], _ :: _, _, _, _, h => by simp [ck_uniS] at h
  | _ :: _, [], _, _, _, h => by simp [ck_uniS] at h
theorem ck_bnd_ok : ∀ {Ih : List ck_I} {t : List (Option ck_L)}, ck_bnd I Ih t = true → Ih.length = t.length ∧ ∀ (j : Nat) (q : ck_I), Ih[j]? = some q → q.2.2.1 = 0 ∧ ∃ f, t[j]? = some (some f) ∧ q.1 ≤ (ck_rng I f).1 ∧ (ck_rng I f).2 ≤ q.2.1
  | [], [], _ => ⟨rfl, fun j q h => by simp at h⟩
  | q :: Ih, some f :: t, h => by
    simp only [ck_bnd, Bool.and_eq_true, decide_eq_true_eq] at h
    obtain ⟨⟨⟨h1, h2⟩, h3⟩, h4⟩ := h
    obtain ⟨a1, a2⟩ := ck_bnd_ok h4
    refine ⟨by simp [a1], fun j r hr => ?_⟩
    match j, hr with
    | 0, hr =>
      have e : q = r := by simpa using hr
      subst e
      exact ⟨h1, f, rfl, h2, h3⟩
    | j + 1, hr =>
      obtain ⟨b1, g, b2, b3⟩ := a2 j r (by simpa using hr)
      exact ⟨b1, g, by simpa using b2, b3⟩
  | q :: Ih, none :: t, h => by simp [ck_bnd] at h
  | [], _ :: _, h => by simp [ck_bnd] at h
  | _ :: _, [], h => by simp [ck_bnd] at h
/-- a form within the table's symbols whose range lies in an int is an int: its value lies in its range -/
theorem ck_rngT {f : ck_L} (hi : ck_gi ν I) (hw : ck_wf I.length f) : (ck_rng I f).1 ≤ ck_ev ν f ∧ ck_ev ν f ≤ (ck_rng I f).2 := by
  by_cases h0 : f.2.1 = 0
  · unfold ck_rng ck_ev
    rw [if_pos h0, h0, Int.zero_mul, Int.zero_add]
    exact ⟨Int.le_refl _, Int.le_refl _⟩
  · have hl : f.1 < I.length := hw.resolve_left h0
    obtain ⟨a1, a2, -, -⟩ := hi f.1 _ (List.getElem?_eq_getElem hl)
    unfold ck_rng ck_ev
    rw [if_neg h0, List.getElem?_eq_getElem hl]
    dsimp only
    split
    · rename_i hp
      have b1 := Int.mul_le_mul_of_nonneg_left a1 hp
      have b2 := Int.mul_le_mul_of_nonneg_left a2 hp
      dsimp only
      omega
    · rename_i hp
      have hp' : f.2.1 ≤ 0 := by omega
      have b1 := Int.mul_le_mul_of_nonpos_left hp' a1
      have b2 := Int.mul_le_mul_of_nonpos_left hp' a2
      dsimp only
      omega
theorem ck_subS_ok {σ h : ck_S} {t : List (Option ck_L)} (hs : ck_subS n σ h = some t) (hG : ck_G D cl st sh A s nL wr ws0 σ.1 σ.2.1 σ.2.2.1 σ.2.2.2.1 σ.2.2.2.2.1 ν ws tys H locs ls vs) : ck_G D cl st sh A s nL wr ws0 h.1 h.2.1 h.2.2.1 h.2.2.2.1 h.2.2.2.2.1 (ck_evT ν t) ws tys H locs ls vs ∧ (∀ j, j < n → ck_evT ν t j = ν j) ∧ n ≤ h.1.length ∧ σ.2.2.2.2.2.1 ≤ h.2.2.2.2.2.1 ∧ σ.2.2.2.2.2.2 ≤ h.2.2.2.2.2.2 ∧ (∀ (j : Nat) (f : ck_L), t[j]? = some (some f) → ck_wf σ.1.length f) := by
  unfold ck_subS at hs
  split at hs
  · rename_i t1 ht1
    split at hs
    · rename_i t2 ht2
      split at hs
      · rename_i hc
        obtain ⟨c0, c1, c2, c3, c4, c5, c6⟩ := hc
        cases hs
        obtain ⟨g1, g2, g3, g4, g5, g6, g7, g8, g9, g10⟩ := hG
        obtain ⟨a1, a2⟩ := ck_uniL_ok (ν := ν) (st := st) (ws := ws) (nL := nL) (ls := ls) ht1
        obtain ⟨b1, b2⟩ := ck_uniS_ok (ν := ν) (st := st) (ws := ws) (vs := vs) ht2
        obtain ⟨d1, d2⟩ := ck_bnd_ok c1
        have hwf : ∀ (j : Nat) (f : ck_L), t[j]? = some (some f) → ck_wf σ.1.length f := fun j f hf => by
          have := List.all_eq_true.mp c2 _ (List.mem_of_getElem? hf)
          simp only [Bool.or_eq_true, decide_eq_true_eq] at this
          exact this
        refine ⟨⟨?_, a2 b1 d1.symm g2, b2 ck_ext.rf d1.symm g3, ck_subD_ok c3 g4, by rw [← c4]; exact g5, g6, g7, g8, g9, g10⟩, ?_, c0, c5, c6, hwf⟩
        · intro j q hq
          obtain ⟨e0, f, e1, e2, e3⟩ := d2 j q hq
          have hr := ck_rngT g1 (hwf j f e1)
          have ev : ck_evT ν t j = ck_ev ν f := by unfold ck_evT; rw [e1]
          rw [ev]
          exact ⟨by omega, by omega, fun z => by omega, fun z => by omega⟩
        · intro j hj
          have h1 : (ck_id n ++ List.replicate (h.1.length - n) (none : Option ck_L))[j]? = some (some (j, 1, 0)) := by
            rw [List.getElem?_append_left (by simp [ck_id]; exact hj)]
            simp [ck_id, hj]
          have h2 := (a1.trans b1).2 _ _ h1
          unfold ck_evT
          rw [h2]
          simp [ck_ev]
      · cases hs
    · cases hs
  · cases hs
theorem ck_more_ok {μ d : Nat} {t : List (Option ck_L)} (h : ck_more I μ d t = true) (hi : ck_gi ν I) : if d = 0 then ν μ < ck_evT ν t μ else ck_evT ν t μ < ν μ := by
  unfold ck_more at h
  split at h
  · rename_i f hf
    have ev : ck_evT ν t μ = ck_ev ν f := by unfold ck_evT; rw [hf]
    rw [ev]
    simp only [Bool.and_eq_true, decide_eq_true_eq] at h
    obtain ⟨h1, h2⟩ := h
    unfold ck_ev
    rw [h1, Int.one_mul]
    split at h2
    · rename_i hm
      rw [hm]
      split at h2
      · rename_i hd
        rw [if_pos hd]
        have := of_decide_eq_true h2
        omega
      · rename_i hd
        rw [if_neg hd]
        have := of_decide_eq_true h2
        omega
    · split at h2
      · rename_i q hq
        obtain ⟨-, -, a3, a4⟩ := hi _ _ hq
        simp only [Bool.and_eq_true, decide_eq_true_eq] at h2
        obtain ⟨⟨k1, k2⟩, k3⟩ := h2
        split at k3
        · rename_i hd
          rw [if_pos hd]
          simp only [Bool.and_eq_true, decide_eq_true_eq] at k3
          have := (a3 k3.1).2
          unfold ck_ev at this
          rw [k1, k2, Int.one_mul] at this
          omega
        · rename_i hd
          rw [if_neg hd]
          simp only [Bool.and_eq_true, decide_eq_true_eq] at k3
          have := (a4 k3.1).2
          unfold ck_ev at this
          rw [k1, k2, Int.one_mul] at this
          omega
      · cases h2
  · cases h
theorem ck_decU {a b w : Int} {N : Nat} (h1 : b < a) (h2 : a ≤ w) (hN : (w - b).toNat < N + 1) : (w - a).toNat < N := by omega
theorem ck_decD {a b w : Int} {N : Nat} (h1 : a < b) (h2 : w ≤ a) (hN : (b - w).toNat < N + 1) : (a - w).toNat < N := by omega
/-- what a loop's head promises while its body is walked: from the head on all goes well once its symbol has moved -/
def ck_PG (p : Program) (l : Launch) (e : Env) (R : Room) (s : State) (m : MethodId) (args : Array Value) (below : List Frame) (meth : Method) (c : Code) (Q : State → Prop) (D : va_G) (cl : List vw_C) (st : Nat → Nat) (sh : List ck_Sh) (A : Nat → Prop) (nL : Nat) (wr : List (Nat × Nat)) (ws0 : va_W) (n0 : Nat) (ν0 ν : Nat → Int) (g : ck_Hd × Nat) : Prop :=
  ∃ νg : Nat → Int, (∀ j, j < g.1.2.1.1.length → ν j = νg j) ∧ n0 ≤ g.2 ∧ (∀ j, j < n0 → νg j = ν0 j) ∧ g.1.2.2.1 < g.1.2.1.1.length ∧ ∀ (ν' : Nat → Int) (ws' : va_W) (tys' : List (ClassId × FieldType)) (H' : Heap) (locs' : List Loc) (ls' : Array Slot) (vs' : List Value), (∀ j, j < g.2 → ν' j = νg j) → (if g.1.2.2.2 = 0 then νg g.1.2.2.1 < ν' g.1.2.2.1 else ν' g.1.2.2.1 < νg g.1.2.2.1) → ck_G D cl st sh A s nL wr ws0 g.1.2.1.1 g.1.2.1.2.1 g.1.2.1.2.2.1 g.1.2.1.2.2.2.1 g.1.2.1.2.2.2.2.1 ν' ws' tys' H' locs' ls' vs' → W p l e R s m args below meth c H' locs' g.1.2.1.2.2.2.2.2.1 g.1.2.1.2.2.2.2.2.2 Q (F0 m g.1.1 ls' vs')
theorem ck_run_ok {step : Nat → List ck_I → List (Nat × ck_V) → List ck_V → ck_D → Nat × Nat × Nat → Option (List (Nat × ck_S))} {hs : List ck_Hd} {sp : List (Nat × Nat × Int)} {lv : List (Nat × ck_S)} {n0 : Nat} {ν0 : Nat → Int}
    (hstep : ∀ (n pc : Nat) (I : List ck_I) (L : List (Nat × ck_V)) (S : List ck_V) (X : ck_D) (nc mc ms : Nat) (xs : List (Nat × ck_S)) (ν : Nat → Int) (ws : va_W) (tys : List (ClassId × FieldType)) (H : Heap) (locs : List Loc) (ls : Array Slot) (vs : List Value), step pc I L S X (nc, mc, ms) = some xs → n ≤ I.length → (∀ j, j < n0 → ν j = ν0 j) → ck_G D cl st sh A s nL wr ws0 I L S X nc ν ws tys H locs ls vs → (∀ x ∈ xs, ck_N p l e R s m args below meth c Q D cl st sh A nL wr ws0 n ν x) → W p l e R s m args below meth c H locs mc ms Q (F0 m pc ls vs))
    (hlv : ∀ x ∈ lv, ∀ (ν : Nat → Int) (ws : va_W) (tys : List (ClassId × FieldType)) (H : Heap) (locs : List Loc) (ls : Array Slot) (vs : List Value), (∀ j, j < n0 → ν j = ν0 j) → ck_G D cl st sh A s nL wr ws0 x.2.1 x.2.2.1 x.2.2.2.1 x.2.2.2.2.1 x.2.2.2.2.2.1 ν ws tys H locs ls vs → W p l e R s m args below meth c H locs x.2.2.2.2.2.2.1 x.2.2.2.2.2.2.2 Q (F0 m x.1 ls vs)) :
    ∀ (fuel : Nat) (Γ : List (ck_Hd × Nat)) (kp pc : Nat) (σ : ck_S), ck_run step hs sp lv fuel Γ kp pc σ = true → ∀ (ν : Nat → Int) (ws : va_W) (tys : List (ClassId × FieldType)) (H : Heap) (locs : List Loc) (ls : Array Slot) (vs : List Value), n0 ≤ kp → (∀ j, j < n0 → ν j = ν0 j) → (∀ g ∈ Γ, g.1.2.1.1.length ≤ kp ∧ ck_PG p l e R s m args below meth c Q D cl st sh A nL wr ws0 n0 ν0 ν g) → ck_G D cl st sh A s nL wr ws0 σ.1 σ.2.1 σ.2.2.1 σ.2.2.2.1 σ.2.2.2.2.1 ν ws tys H locs ls vs → W p l e R s m args below meth c H locs σ.2.2.2.2.2.1 σ.2.2.2.2.2.2 Q (F0 m pc ls vs)
  | 0, _, _, _, _, h => by simp [ck_run] at h
  | fuel + 1, Γ, kp, pc, σ, h => by
    intro ν ws tys H locs ls vs hn0 hν hΓ hG
    have ih := ck_run_ok (hs := hs) (sp := sp) hstep hlv fuel
    -- where a successor's table stands when the same heads are open
    have next : ∀ {n : Nat} {ν1 : Nat → Int} {Γ' : List (ck_Hd × Nat)} {kp' : Nat} {x : Nat × ck_S}, n = kp' → n0 ≤ kp' → (∀ j, j < n0 → ν1 j = ν0 j) → (∀ g ∈ Γ', g.1.2.1.1.length ≤ kp' ∧ ck_PG p l e R s m args below meth c Q D cl st sh A nL wr ws0 n0 ν0 ν1 g) → ck_run step hs sp lv fuel Γ' kp' x.1 x.2 = true → ck_N p l e R s m args below meth c Q D cl st sh A nL wr ws0 n ν1 x := fun {n ν1 Γ' kp' x} e1 e2 e3 e4 e6 => by
      intro ν' ws' tys' H' locs' ls' vs' hag hG'
      subst e1
      refine ih Γ' _ x.1 x.2 e6 ν' ws' tys' H' locs' ls' vs' e2 (fun j hj => by rw [hag j (by omega)]; exact e3 j hj) (fun g hg => ?_) hG'
      obtain ⟨l1, νg, b1, b2⟩ := e4 g hg
      exact ⟨l1, νg, fun j hj => by rw [hag j (by omega)]; exact b1 j hj, b2⟩
    unfold ck_run at h
    rw [Bool.and_eq_true] at h
    obtain ⟨hkp0, h⟩ := h
    have hkp := of_decide_eq_true hkp0
    split at h
    · rename_i y hy
      have hyp : y.1 = pc := by simpa using List.find?_some hy
      cases ht : ck_subS kp σ y.2 with
      | none => rw [ht] at h; cases h
      | some t =>
        obtain ⟨s1, s2, s3, s4, s5, s6⟩ := ck_subS_ok ht hG
        refine W.widen s4 s5 ?_
        rw [← hyp]
        exact hlv y (List.mem_of_find?_eq_some hy) _ ws tys H locs ls vs (fun j hj => by rw [s2 j (by omega)]; exact hν j hj) s1
    split at h
    · rename_i q hq
      simp only [Bool.and_eq_true] at h
      obtain ⟨hA1, hB1⟩ := h
      rcases Int.lt_or_le q.2.2 (ν q.2.1) with hc | hc
      · obtain ⟨J, j1, j2, j3⟩ := ck_cutLo_ok (s := q.2.1) (c := q.2.2 + 1) hG.gi (by omega)
        rw [j1] at hB1
        exact ih Γ kp pc (J, σ.2) hB1 ν ws tys H locs ls vs hn0 hν hΓ (hG.cut j3 j2)
      · obtain ⟨J, j1, j2, j3⟩ := ck_cutHi_ok (s := q.2.1) (c := q.2.2) hG.gi hc
        rw [j1] at hA1
        exact ih Γ kp pc (J, σ.2) hA1 ν ws tys H locs ls vs hn0 hν hΓ (hG.cut j3 j2)
    · split at h
      · rename_i g hg
        have hgm := List.mem_of_find?_eq_some hg
        have hgp : g.1.1 = pc := by simpa using List.find?_some hg
        split at h
        · rename_i t ht
          obtain ⟨s1, s2, s3, s4, s5, s6⟩ := ck_subS_ok ht hG
          obtain ⟨l1, νg, b1, b2, b3, b4, b5⟩ := hΓ g hgm
          have hm := ck_more_ok h hG.gi
          refine W.widen s4 s5 ?_
          rw [← hgp]
          refine b5 (ck_evT ν t) ws tys H locs ls vs (fun j hj => ?_) ?_ s1
          · rw [s2 j hj]; exact b1 j (by omega)
          · have e1 := b1 g.1.2.2.1 b4
            rw [← e1]; exact hm
        · cases h
      · split at h
        · rename_i hd hhd
          have hpc : hd.1 = pc := by simpa using List.find?_some hhd
          split at h
          · rename_i t ht
            split at h
            · rename_i xs hxs
              simp only [Bool.and_eq_true, decide_eq_true_eq] at h
              obtain ⟨hdir, hall⟩ := h
              obtain ⟨s1, s2, s3, s4, s5, s6⟩ := ck_subS_ok ht hG
              refine W.widen s4 s5 ?_
              have hν1 : ∀ j, j < n0 → ck_evT ν t j = ν0 j := fun j hj => by rw [s2 j (by omega)]; exact hν j hj
              have hΓ1 : ∀ {ν1 : Nat → Int}, (∀ j, j < kp → ν1 j = ν j) → ∀ g ∈ Γ, g.1.2.1.1.length ≤ kp ∧ ck_PG p l e R s m args below meth c Q D cl st sh A nL wr ws0 n0 ν0 ν1 g := fun {ν1} hag g hg => by
                obtain ⟨l1, νg, b1, b2⟩ := hΓ g hg
                exact ⟨l1, νg, fun j hj => by rw [hag j (by omega)]; exact b1 j hj, b2⟩
              by_cases h2 : hd.2.2.2 = 2
              · have hk : ∀ x ∈ xs, ck_N p l e R s m args below meth c Q D cl st sh A nL wr ws0 kp (ck_evT ν t) x := fun x hx => by
                  have hr := List.all_eq_true.mp hall x hx
                  rw [if_pos h2] at hr
                  exact next rfl hn0 hν1 (hΓ1 s2) hr
                exact hstep kp pc _ _ _ _ _ _ _ xs _ ws tys H locs ls vs hxs s3 hν1 s1 hk
              · -- a loop: by how far its symbol still can go
                have key : ∀ (N : Nat) (ν1 : Nat → Int) (ws1 : va_W) (tys1 : List (ClassId × FieldType)) (H1 : Heap) (locs1 : List Loc) (ls1 : Array Slot) (vs1 : List Value), (∀ j, j < kp → ν1 j = ν j) → (if hd.2.2.2 = 0 then (match hd.2.1.1[hd.2.2.1]? with
                    | some q => (q.2.1 - ν1 hd.2.2.1).toNat
                    | none => 0) else (match hd.2.1.1[hd.2.2.1]? with
                    | some q => (ν1 hd.2.2.1 - q.1).toNat
                    | none => 0)) < N → ck_G D cl st sh A s nL wr ws0 hd.2.1.1 hd.2.1.2.1 hd.2.1.2.2.1 hd.2.1.2.2.2.1 hd.2.1.2.2.2.2.1 ν1 ws1 tys1 H1 locs1 ls1 vs1 → W p l e R s m args below meth c H1 locs1 hd.2.1.2.2.2.2.2.1 hd.2.1.2.2.2.2.2.2 Q (F0 m pc ls1 vs1) := by
                  intro N
                  induction N with
                  | zero => intro ν1 ws1 tys1 H1 locs1 ls1 vs1 _ hN; omega
                  | succ N ihN =>
                    intro ν1 ws1 tys1 H1 locs1 ls1 vs1 hag hN hG1
                    have hν2 : ∀ j, j < n0 → ν1 j = ν0 j := fun j hj => by rw [hag j (by omega)]; exact hν j hj
                    have hk : ∀ x ∈ xs, ck_N p l e R s m args below meth c Q D cl st sh A nL wr ws0 hd.2.1.1.length ν1 x := fun x hx => by
                      have hr := List.all_eq_true.mp hall x hx
                      rw [if_neg h2] at hr
                      simp only [Bool.and_eq_true, decide_eq_true_eq] at hr
                      obtain ⟨hμ, hr⟩ := hr
                      refine next (n := hd.2.1.1.length) rfl (by omega) hν2 (fun g hg => ?_) hr
                      · rcases List.mem_cons.mp hg with rfl | hg
                        · refine ⟨Nat.le_refl _, ν1, fun _ _ => rfl, hn0, hν2, hμ, fun ν3 ws3 tys3 H3 locs3 ls3 vs3 hag3 hm3 hG3 => ?_⟩
                          show W p l e R s m args below meth c H3 locs3 hd.2.1.2.2.2.2.2.1 hd.2.1.2.2.2.2.2.2 Q (F0 m hd.1 ls3 vs3)
                          rw [hpc]
                          refine ihN ν3 ws3 tys3 H3 locs3 ls3 vs3 (fun j hj => by rw [hag3 j hj]; exact hag j hj) ?_ hG3
                          have hq1 := List.getElem?_eq_getElem hμ
                          obtain ⟨u1, u2, -, -⟩ := hG1.1 _ _ hq1
                          obtain ⟨u3, u4, -, -⟩ := hG3.1 _ _ hq1
                          rw [hq1] at hN ⊢
                          dsimp only at hN hm3 ⊢
                          by_cases hd0 : hd.2.2.2 = 0
                          · rw [if_pos hd0] at hN hm3 ⊢
                            exact ck_decU hm3 u4 hN
                          · rw [if_neg hd0] at hN hm3 ⊢
                            exact ck_decD hm3 u3 hN
                        · obtain ⟨l1, l2⟩ := hΓ1 hag g hg
                          exact ⟨by omega, l2⟩
                    exact hstep hd.2.1.1.length pc _ _ _ _ _ _ _ xs _ ws1 tys1 H1 locs1 ls1 vs1 hxs (Nat.le_refl _) hν2 hG1 hk
                exact key _ (ck_evT ν t) ws tys H locs ls vs s2 (Nat.lt_succ_self _) s1
            · cases h
          · cases h
        · split at h
          · rename_i xs hxs
            refine hstep kp pc _ _ _ _ _ _ _ xs ν ws tys H locs ls vs hxs hkp hν hG (fun x hx => ?_)
            have hr := List.all_eq_true.mp h x hx
            exact next rfl hn0 hν hΓ hr
          · cases h
end CKT
end
section
/-! THE TABLE RUN, 11: a method checked is a method met -/
def ck_okT (cl : List vw_C) (Ts : List Cond) (NM : List (String × Nat × MethodName × String)) (AO : List String) (SL : List (String × Nat × Nat)) (mts : List ck_MT) (own : String) (T : ck_T) : Prop :=
  (∀ q ∈ T.1, ck_okF cl Ts own q) ∧ (∀ q ∈ T.2.1, ck_okN cl Ts own q) ∧ ck_okD cl T.2.2.1 ∧ (∀ t ∈ T.2.2.2.1, Cond.arrayClass t ∈ Ts) ∧ (∀ q ∈ T.2.2.2.2.1, ck_okA Ts AO own q) ∧ (∀ q ∈ T.2.2.2.2.2.2.1, Cond.constant own q.1 (Int32.ofInt q.2) ∈ Ts) ∧ (∀ q ∈ T.2.2.2.2.2.2.2.1, (own, q.1, q.2) ∈ SL) ∧ (∀ q ∈ T.2.2.2.2.2.2.2.2, q.2.1 < 6 → ck_okL Ts NM mts own q) ∧ ∀ q ∈ T.2.2.2.2.2.2.2.2, ck_okY Ts own q
section CKH
variable {p : Program} {l : Launch} {e : Env} {R : Room} {s : State} {m : MethodId} {args : Array Value} {below : List Frame} {meth : Method} {c : Code} {Q : State → Prop}
variable {cc : ByteArray} {D : va_G} {cl : List vw_C} {st : Nat → Nat} {sh : List ck_Sh} {A : Nat → Prop} {nL : Nat} {wr : List (Nat × Nat)} {ws0 : va_W}
variable {I I' : List ck_I} {L : List (Nat × ck_V)} {S S' : List ck_V} {X : ck_D} {nc mc ms n : Nat} {ν ν' : Nat → Int} {ws : va_W} {tys : List (ClassId × FieldType)} {H : Heap} {locs : List Loc} {ls : Array Slot} {vs vs' : List Value} {pc : Nat}
variable {Ts : List Cond} {AO : List String} {own : String} {NM : List (String × Nat × MethodName × String)} {SL : List (String × Nat × Nat)} {mts : List ck_MT}
theorem ck_step_ok {T : ck_T} {cs : List ck_C} {ini : Bool} {CM SM FM LM : Nat} {rt : Instr × Nat → List ck_I → List ck_V → ck_D → Nat × Nat × Nat → Bool} {xs : List (Nat × ck_S)} (hx : p.tables.exec = Jvm.exec) (hb : c.code = cc) (hml : c.maxLocals = nL) (hown : s.vm.findClass own = some m.cls) (hts : ∀ w ∈ Ts, w.before args s = true) (hgood : GoodIn Ts Ts) (hamb : ck_amb NM AO SL st s) (hC : ck_okC cl Ts) (hT : ck_okT cl Ts NM AO SL mts own T) (hCs : ∀ co ∈ cs, ck_Met l Ts mts D cl NM AO SL st sh co) (hA : ∀ q, s.heap.size ≤ q → A q) (hini : ini = true → meth.name = "<init>") (hRc : R.cells = CM) (hRs : R.slots = SM) (hRf : R.frames = FM) (hRl : R.locals = LM)
    (hrt : ∀ i, decode cc pc = .ok i → rt i I S X (nc, mc, ms) = true → ck_G D cl st sh A s nL wr ws0 I L S X nc ν ws tys H locs ls vs → W p l e R s m args below meth c H locs mc ms Q (F0 m pc ls vs))
    (h : ck_step cl mts sh T cs wr ini nL CM SM FM LM rt cc pc I L S X (nc, mc, ms) = some xs) (hn : n ≤ I.length) (hG : ck_G D cl st sh A s nL wr ws0 I L S X nc ν ws tys H locs ls vs)
    (K : ∀ x ∈ xs, ck_N p l e R s m args below meth c Q D cl st sh A nL wr ws0 n ν x) : W p l e R s m args below meth c H locs mc ms Q (F0 m pc ls vs) := by
  obtain ⟨t1, t2, t3, t4, t5, t6, t7, t8, t9⟩ := hT
  unfold ck_step at h
  split at h
  · rename_i i hd
    split at h
    · rename_i ys hy; cases h; exact ck_a_ok hx hb hd hy hn hG K
    split at h
    · rename_i ys hy; cases h; exact ck_b_ok hx hb hd hy hn hG K
    split at h
    · rename_i ys hy; cases h; exact ck_c_ok hx hb hd hy hn hG K
    split at h
    · rename_i ys hy; cases h; exact ck_d_ok hx hb hd hy hG K
    split at h
    · rename_i ys hy; cases h; exact ck_e_ok hx hb hd hy hG K
    split at h
    · rename_i ys hy; cases h; exact ck_f_ok hx hb hown hts hC t1 hini hd hy hn hG K
    split at h
    · rename_i ys hy; cases h; exact ck_ld_ok hx hb hd hy hn hG K
    split at h
    · rename_i ys hy; cases h; exact ck_sr_ok hx hb hd hy hG K
    split at h
    · rename_i ys hy; cases h; exact ck_cal_ok hx hb hml hown hts hgood hamb t8 hCs hA hRc hRs hRf hRl hd hy hn hG K
    split at h
    · rename_i ys hy; cases h; exact ck_y_ok hx hb hml hown hts t9 hRc hRs hRf hRl hd hy hn hG K
    split at h
    · rename_i ys hy; cases h; exact ck_n_ok hx hb hown hts hamb.2.1 hC t2 t3 t4 t5 hA hRc hRs hd hy hG K
    split at h
    · rename_i ys hy; cases h; exact ck_ldc_ok hx hb hown hts t6 (fun q hq => hamb.2.2 _ (t7 q hq)) hd hy hn hG K
    split at h
    · rename_i hr; exact hrt i hd hr hG
    · cases h
  · cases h
/-- the table at a method's entry -/
def ck_entI : List ck_F → List ck_I
  | [] => []
  | .inl z :: Fs => (z.1, z.2, 0, (0, 0, 0)) :: ck_entI Fs
  | .inr _ :: Fs => ck_entI Fs
def ck_entL : Nat → Nat → List ck_F → List (Nat × ck_V)
  | _, _, [] => []
  | j, k, .inl _ :: Fs => (j, .inl (k, 1, 0)) :: ck_entL (j + 1) (k + 1) Fs
  | j, k, .inr q :: Fs => (j, .inr q) :: ck_entL (j + 1) k Fs
def ck_oneF (F : ck_F) : Bool := match F with
  | .inl _ => true
  | .inr q => ck_one (.inr q)
def ck_check (cl : List vw_C) (mts : List ck_MT) (sh : List ck_Sh) (T : ck_T) (cs : List ck_C) (co : ck_C) (hs : List ck_Hd) (sp : List (Nat × Nat × Int)) (fuel : Nat) : Bool := match mts[co.1]? with
  | none => false
  | some M => plainName M.1.cls && co.2.2.1.all ck_oneF && decide (co.2.2.1.length ≤ M.2.2.1) && ck_run (ck_step cl mts sh T cs co.2.2.2.2.1 (decide (M.1.name = "<init>")) M.2.2.1 co.2.2.2.2.2.2.2.2.1 co.2.2.2.2.2.2.2.2.2 co.2.2.2.2.2.2.1 co.2.2.2.2.2.2.2.1 (ck_ret co M.2.2.2.1 (ck_entI co.2.2.1).length) M.2.1) hs sp [] fuel [] (ck_entI co.2.2.1).length 0 (ck_entI co.2.2.1, ck_entL 0 0 co.2.2.1, [], co.2.2.2.1, co.2.1, 0, 0)
def ck_nu (xs : List Int32) (j : Nat) : Int := match xs[j]? with
  | some x => x.toInt
  | none => 0
theorem ck_ent_one : ∀ {Fs : List ck_F} {vs : List Value}, Fs.all ck_oneF = true → ck_av st ws Fs vs → (∀ v ∈ vs, v.category = 1) ∧ Fs.length = vs.length
  | [], [], _, _ => ⟨fun _ h => absurd h List.not_mem_nil, rfl⟩
  | F :: Fs, v :: vs, h1, h => by
    simp only [List.all_cons, Bool.and_eq_true] at h1
    obtain ⟨a1, a2⟩ := ck_ent_one h1.2 h.2
    refine ⟨fun w hw => ?_, by simp [a2]⟩
    rcases List.mem_cons.mp hw with rfl | hw
    · rcases F with z | q
      · obtain ⟨x, rfl, -⟩ := h.1; rfl
      · rcases ck_refs h1.1 h.1 with rfl | ⟨a, rfl⟩ <;> rfl
    · exact a1 w hw
  | [], _ :: _, _, h => h.elim
  | _ :: _, [], _, h => h.elim
theorem ck_ent_ints : ∀ {Fs : List ck_F} {vs : List Value}, Fs.all ck_oneF = true → ck_av st ws Fs vs → (ck_entI Fs).length = (ck_ints vs).length ∧ ∀ (j : Nat) (q : ck_I), (ck_entI Fs)[j]? = some q → q.2.2.1 = 0 ∧ ∃ x, (ck_ints vs)[j]? = some x ∧ q.1 ≤ x.toInt ∧ x.toInt ≤ q.2.1
  | [], [], _, _ => ⟨rfl, fun j q h => by simp [ck_entI] at h⟩
  | .inl z :: Fs, v :: vs, h1, h => by
    simp only [List.all_cons, Bool.and_eq_true] at h1
    obtain ⟨⟨x, rfl, z1, z2⟩, h2⟩ := h
    obtain ⟨a1, a2⟩ := ck_ent_ints h1.2 h2
    refine ⟨by simp [ck_entI, ck_ints, a1], fun j q hq => ?_⟩
    match j, hq with
    | 0, hq =>
      have e : ((z.1, z.2, 0, (0, 0, 0)) : ck_I) = q := by simpa [ck_entI] using hq
      subst e
      exact ⟨rfl, x, rfl, z1, z2⟩
    | j + 1, hq =>
      obtain ⟨b0, y, b1, b2⟩ := a2 j q (by simpa [ck_entI] using hq)
      exact ⟨b0, y, by simpa [ck_ints] using b1, b2⟩
  | .inr q :: Fs, v :: vs, h1, h => by
    simp only [List.all_cons, Bool.and_eq_true] at h1
    obtain ⟨hq, h2⟩ := h
    obtain ⟨a1, a2⟩ := ck_ent_ints h1.2 h2
    rcases ck_refs h1.1 hq with rfl | ⟨a, rfl⟩ <;> exact ⟨a1, a2⟩
  | [], _ :: _, _, h => h.elim
  | _ :: _, [], _, h => h.elim
theorem ck_ent_vals {ys : List Int32} {N : Nat} : ∀ {Fs : List ck_F} {vs : List Value} {j k : Nat}, Fs.all ck_oneF = true → ck_av st ws Fs vs → (∀ i, k + i < ys.length ↔ i < (ck_ints vs).length) → (∀ i x, (ck_ints vs)[i]? = some x → ys[k + i]? = some x) → ys.length ≤ N → ∀ q ∈ ck_entL j k Fs, ∃ v, (q.1, v) ∈ lv_args j vs ∧ ck_gv (ck_nu ys) st ws N q.2 v
  | [], [], _, _, _, _, _, _, _ => fun q hq => by cases hq
  | .inl z :: Fs, v :: vs, j, k, h1, h, hk, hy, hN => by
    simp only [List.all_cons, Bool.and_eq_true] at h1
    obtain ⟨⟨x, rfl, z1, z2⟩, h2⟩ := h
    have ih := ck_ent_vals (ys := ys) (N := N) (j := j + 1) (k := k + 1) h1.2 h2 (fun i => by have := hk (i + 1); simp [ck_ints] at this; rw [← this]; omega) (fun i y hi => by have := hy (i + 1) y (by simpa [ck_ints] using hi); rw [← this]; congr 1; omega) hN
    intro q hq
    rcases List.mem_cons.mp hq with rfl | hq
    · have hx : ys[k]? = some x := by simpa using hy 0 x rfl
      have hl := (List.getElem?_eq_some_iff.mp hx).1
      refine ⟨.int x, List.mem_cons_self, Or.inr (by show k < N; omega), x, rfl, ?_⟩
      simp [ck_ev, ck_nu, hx]
    · obtain ⟨w, a1, a2⟩ := ih q hq
      exact ⟨w, List.mem_cons_of_mem _ a1, a2⟩
  | .inr r :: Fs, v :: vs, j, k, h1, h, hk, hy, hN => by
    simp only [List.all_cons, Bool.and_eq_true] at h1
    obtain ⟨hr, h2⟩ := h
    have hc : v.category = 1 := ck_one_cat (ν := ck_nu ys) (n := N) h1.1 hr
    have hint : ck_ints (v :: vs) = ck_ints vs := by rcases ck_refs h1.1 hr with rfl | ⟨a, rfl⟩ <;> rfl
    rw [hint] at hk hy
    have ih := ck_ent_vals (ys := ys) (N := N) (j := j + 1) (k := k) h1.2 h2 hk hy hN
    have hcons : lv_args j (v :: vs) = (j, v) :: lv_args (j + 1) vs := by
      show (j, v) :: lv_args (if v.category = 2 then j + 2 else j + 1) vs = _
      rw [if_neg (by omega)]
    rw [hcons]
    intro q hq
    rcases List.mem_cons.mp hq with rfl | hq
    · exact ⟨v, List.mem_cons_self, hr⟩
    · obtain ⟨w, a1, a2⟩ := ih q hq
      exact ⟨w, List.mem_cons_of_mem _ a1, a2⟩
  | [], _ :: _, _, _, _, h, _, _, _ => h.elim
  | _ :: _, [], _, _, _, h, _, _, _ => h.elim
theorem ck_slots : ∀ {vs : List Value}, (∀ v ∈ vs, v.category = 1) → (lg_sl vs).length = vs.length
  | [], _ => rfl
  | v :: vs, h => by
    have ih := ck_slots (vs := vs) (fun w hw => h w (List.mem_cons_of_mem _ hw))
    have hc := h v List.mem_cons_self
    cases v <;> simp_all [lg_sl, Value.category]
theorem ck_sound {T : ck_T} {cs : List ck_C} {co : ck_C} {hs : List ck_Hd} {sp : List (Nat × Nat × Int)} {fuel : Nat} (l : Launch) (hgood : GoodIn Ts Ts) (hC : ck_okC cl Ts) (hT : ∀ M, mts[co.1]? = some M → ck_okT cl Ts NM AO SL mts M.1.cls T) (hCs : ∀ c ∈ cs, ck_Met l Ts mts D cl NM AO SL st sh c) (h : ck_check cl mts sh T cs co hs sp fuel = true) : ck_Met l Ts mts D cl NM AO SL st sh co := by
  intro M hM ws tys vs sz hw hav hgd
  unfold ck_check at h
  rw [hM] at h
  simp only [Bool.and_eq_true, decide_eq_true_eq] at h
  obtain ⟨⟨⟨h1, h2⟩, h3⟩, h4⟩ := h
  refine Met.ofW (cc := M.2.1) (maxL := M.2.2.1) (ret := M.2.2.2.1) h1 rfl ?_
  intro p e s m args below meth c s₁ B hml hv
  obtain ⟨rfl, hsz, hP, hK, hD0, hamb⟩ := hv
  subst hsz
  have hx := B.exec
  have hb := B.bytes
  have hr := B.returns
  have hts0 := atoms_spec (ws := Cond.code M.1 M.2.1 M.2.2.1 M.2.2.2.1 :: Ts) B.pre
  have hts : ∀ w ∈ Ts, w.before vs.toArray s = true := fun w hw => hts0 w (List.mem_cons_of_mem _ hw)
  have hown : s.vm.findClass M.1.cls = some m.cls := findClass_of_methodNamed B.named
  have hlocks := B.notSynchronized
  obtain ⟨e1, e2⟩ := ck_ent_one h2 hav
  obtain ⟨i1, i2⟩ := ck_ent_ints h2 hav
  have hslots := ck_slots e1
  have hl := lv_entry vs (n := M.2.2.1) (by omega)
  rw [lg_entry_eq]
  generalize (lg_sl vs ++ List.replicate (M.2.2.1 - (lg_sl vs).length) Slot.unset).toArray = ls at hl ⊢
  have hvals := ck_ent_vals (st := st) (ws := ws) (ys := ck_ints vs) (N := (ck_entI co.2.2.1).length) (j := 0) (k := 0) h2 hav (fun i => by rw [Nat.zero_add]) (fun i x hi => by rw [Nat.zero_add]; exact hi) (by omega)
  have hG : ck_G D cl st sh (va_A ws s.heap.size) s M.2.2.1 co.2.2.2.2.1 ws (ck_entI co.2.2.1) (ck_entL 0 0 co.2.2.1) [] co.2.2.2.1 co.2.1 (ck_nu (ck_ints vs)) ws tys s.heap [] ls [] := by
    refine ⟨fun j q hq => ?_, ⟨_, hl, hvals⟩, trivial, hgd, hw, hK, hP, hD0.self, va_S.rf, ck_fr.rf⟩
    obtain ⟨b0, x, b1, b2, b3⟩ := i2 j q hq
    have ev : ck_nu (ck_ints vs) j = x.toInt := by unfold ck_nu; rw [b1]
    rw [ev]
    exact ⟨b2, b3, fun z => by omega, fun z => by omega⟩
  refine ck_run_ok (n0 := (ck_entI co.2.2.1).length) (ν0 := ck_nu (ck_ints vs)) ?_ (fun x hx => by cases hx) fuel [] _ 0 _ h4 (ck_nu (ck_ints vs)) ws tys s.heap [] ls [] (Nat.le_refl _) (fun _ _ => rfl) (fun g hg => by cases hg) hG
  intro n pc I L S X nc mc ms xs ν ws1 tys1 H1 locs1 ls1 vs1 hst hn hν hG1 K
  refine ck_step_ok hx hb hml hown hts hgood hamb hC (hT M hM) hCs (fun q hq => Or.inr hq) (fun hi => ?_) rfl rfl rfl rfl (fun i hd hrr hGG => ?_) hst hn hG1 K
  · have hname : M.1.name = "<init>" := of_decide_eq_true hi
    rw [← hname]
    exact (name_of_methodNamed B.named B.method).1
  · refine ck_ret_ok (as := vs) hx hb hr hlocks i1.symm hd hrr (fun j x hj => ?_) hGG
    have hjl : j < (ck_entI co.2.2.1).length := by rw [i1]; exact (List.getElem?_eq_some_iff.mp hj).1
    rw [hν j hjl]
    unfold ck_nu
    rw [hj]
end CKH
end
section
/-! THE CLAIM OUT OF ONE WALK OF THE LAW'S BODY. Your part is whole_start (and what it stands on); all else here is the same for every law, but numbers. -/
def R_law : String := "ScratchLadderLaw"
def lw_P (b : Addr) (xs : List Int32) (args : Array Value) (s : State) : Prop := args = #[.ref b] ∧ s.IntsAt b xs ∧ xs.length ≤ 7 ∧ (Jvm.Cond.and given_1 narrow_1).before args s = true
def lw_Q (_ : Array Value) (s : State) (o : Outcome) (t : State) : Prop := o = .returned (some (.int 1)) ∧ Framed s o t [] 600000 7302250
def lw_Z (below : List Frame) (a : Array Value) (s : State) : State → Prop := fun t => ∃ o, t.status = .running ∧ Ended t below o ∧ lw_Q a s o t
/-- the law's own end, with 1 on the stack, nothing written that was there before, its room as the claim has it -/
theorem lw_ret {p : Program} {l : Launch} {e : Env} {s : State} {m : MethodId} {below : List Frame} {meth : Method} {c : Code} {b : Nat} (hx : p.tables.exec = Jvm.exec) (hb : c.code = code) (hr : meth.sig.returnType = ret) (hlocks : meth.locks = false) {pc : Nat} {H : Heap} {ls : Array Slot} (hdg : decode code pc = .ok (.ireturn, 1)) : W p l e room_1 s m #[Value.ref b] below meth c H [] 600000 7302250 (lw_Z below #[Value.ref b] s) (F0 m pc ls [.int 1]) := by
  intro T hT X
  obtain ⟨fs, hret, hrun, hended, hW, hframe⟩ := X.leave (v := some (.int 1)) (hlocks := hlocks) (fun h => by rw [hr] at h; cases h)
  have hmeth' : T.vm.method? m = some meth := X.method'
  refine ⟨T.setFrames fs, ?_, .returned (some (.int 1)), hrun, hended, rfl, ⟨_, rfl⟩, hW, hframe⟩
  jvm_step X.here [X.here.top, hx, hb, hdg, hmeth', hr, ret, narrow_b1]
  (try refine ⟨rfl, ?_⟩); (try refine ⟨rfl, ?_⟩)
  first | (intro acts; rw [hret _ acts rfl rfl rfl]) | rw [hret _ _ rfl rfl rfl]
  exact Steps.refl _
/-- what holds at the law's entry: the machine, the code, the tables' words (any of lw_tbl by 'hts w (by decide +kernel)'), the script of L ints xs at the cell b, what the Statement gives of the start (any of its parts by flat_of_before) -/
def lw_At (p : Program) (s : State) (m : MethodId) (meth : Method) (c : Code) (b L : Nat) (xs : Nat → Int32) : Prop :=
  p.tables.exec = Jvm.exec ∧ c.code = code ∧ meth.sig.returnType = ret ∧ c.maxLocals = 4 ∧ s.vm.findClass R_law = some m.cls ∧ (∀ w ∈ lw_tbl, w.before #[Value.ref b] s = true) ∧ va_X b L xs s s.heap ∧ b < s.heap.size ∧ meth.locks = false ∧ (Jvm.Cond.and given_1 narrow_1).before #[Value.ref b] s = true
/-! the law's own run: the script's numbers are the first symbols -/
/-- the script z of n numbers: what stands in it, how long it is -/
def ck_scr (zz n : Nat) (pc : Nat) (i : Instr × Nat) (I : List ck_I) (L : List (Nat × ck_V)) (S : List ck_V) (X : ck_D) (k : Nat × Nat × Nat) : Option (List (Nat × ck_S)) := match i, S with
  | (.iaload, 1), .inl f :: .inr (2, z) :: S => if z = zz ∧ f.2.1 = 0 ∧ 0 ≤ f.2.2 ∧ f.2.2 < (n : Int) ∧ n ≤ I.length then some [(pc + 1, (I, L, .inl (f.2.2.toNat, 1, 0) :: S, X, k))] else none
  | (.arraylength, 1), .inr (2, z) :: S => if z = zz ∧ n < 2147483648 then some [(pc + 1, (I, L, .inl (ck_k n) :: S, X, k))] else none
  | _, _ => none
def ck_rtL (i : Instr × Nat) (I : List ck_I) (S : List ck_V) (_ : ck_D) (k : Nat × Nat × Nat) : Bool := match i, S with
  | (.ireturn, 1), [.inl f] => decide ((ck_rng I f).1 = 1) && decide ((ck_rng I f).2 = 1) && decide (k.2.1 ≤ 600000) && decide (k.2.2 ≤ 7302250)
  | _, _ => false
def ck_stepL (cl : List vw_C) (mts : List ck_MT) (sh : List ck_Sh) (T : ck_T) (cs : List ck_C) (wr : List (Nat × Nat)) (zz n : Nat) (pc : Nat) (I : List ck_I) (L : List (Nat × ck_V)) (S : List ck_V) (X : ck_D) (k : Nat × Nat × Nat) : Option (List (Nat × ck_S)) := match decode code pc with
  | .ok i => match ck_scr zz n pc i I L S X k with
    | some xs => some xs
    | none => ck_step cl mts sh T cs wr false 4 600000 7302250 2048 84000 ck_rtL code pc I L S X k
  | _ => none
section CKW
variable {p : Program} {l : Launch} {e : Env} {s : State} {m : MethodId} {below : List Frame} {meth : Method} {c : Code}
variable {D : va_G} {cl : List vw_C} {st : Nat → Nat} {sh : List ck_Sh} {wr : List (Nat × Nat)} {ws0 : va_W}
variable {Ts : List Cond} {AO : List String} {NM : List (String × Nat × MethodName × String)} {SL : List (String × Nat × Nat)} {mts : List ck_MT}
theorem ck_stepL_ok {T : ck_T} {cs : List ck_C} {b Ln zz n0 : Nat} {xsc : Nat → Int32} {ν0 : Nat → Int} (C0 : lw_At p s m meth c b Ln xsc) (hzz : st zz = b) (hν0 : ∀ j, j < n0 → ν0 j = (xsc j).toInt) (hLn : Ln ≤ n0) (hts : ∀ w ∈ Ts, w.before #[Value.ref b] s = true) (hgood : GoodIn Ts Ts) (hamb : ck_amb NM AO SL st s) (hC : ck_okC cl Ts) (hT : ck_okT cl Ts NM AO SL mts R_law T) (hCs : ∀ co ∈ cs, ck_Met l Ts mts D cl NM AO SL st sh co)
    (n pc : Nat) (I : List ck_I) (L : List (Nat × ck_V)) (S : List ck_V) (X : ck_D) (nc mc ms : Nat) (xs : List (Nat × ck_S)) (ν : Nat → Int) (ws : va_W) (tys : List (ClassId × FieldType)) (H : Heap) (locs : List Loc) (ls : Array Slot) (vs : List Value) (h : ck_stepL cl mts sh T cs wr zz Ln pc I L S X (nc, mc, ms) = some xs) (hn : n ≤ I.length) (hν : ∀ j, j < n0 → ν j = ν0 j) (hG : ck_G D cl st sh (fun q : Nat => s.heap.size ≤ q) s 4 wr ws0 I L S X nc ν ws tys H locs ls vs) (K : ∀ x ∈ xs, ck_N p l e room_1 s m #[Value.ref b] below meth c (lw_Z below #[Value.ref b] s) D cl st sh (fun q : Nat => s.heap.size ≤ q) 4 wr ws0 n ν x) : W p l e room_1 s m #[Value.ref b] below meth c H locs mc ms (lw_Z below #[Value.ref b] s) (F0 m pc ls vs) := by
  obtain ⟨hx, hb, hr, hml, hown, -, hX, hbl, hlocks, -⟩ := C0
  have hbA : ¬ (fun q : Nat => s.heap.size ≤ q) b := Nat.not_le.mpr hbl
  have hS := hG.2.2.2.2.2.2.2.2.1
  unfold ck_stepL at h
  split at h
  · rename_i i hd
    split at h
    · rename_i ys hy
      cases h
      unfold ck_scr at hy
      split at hy
      · rename_i f0 z0 S0
        split at hy
        · rename_i hc
          obtain ⟨c1, c2, c3, c4, c5⟩ := hc
          cases hy
          obtain ⟨v, vs', rfl, ⟨w1, x, rfl, e1⟩, h2⟩ := hG.gs.pop
          obtain ⟨v, vs2, rfl, hv, h5⟩ := h2.pop
          have ev : v = .ref (st _) := hv
          subst ev
          rw [c1, hzz]
          have ex : x.toInt = f0.2.2 := by rw [e1]; unfold ck_ev; rw [c2, Int.zero_mul, Int.zero_add]
          have ec : x.toNatClampNeg = x.toInt.toNat := rfl
          refine va_sld hx hb hX hbl hbA hS (vp_in_iff.mpr ⟨by omega, by omega⟩) hd ?_
          have hj : x.toNatClampNeg < n0 := by omega
          refine ck_pushV (V := .inl (f0.2.2.toNat, 1, 0)) (hG.stk h5) ⟨Or.inr ?_, _, rfl, ?_⟩ (K _ List.mem_cons_self)
          · show f0.2.2.toNat < I.length
            omega
          · show _ = 1 * ν f0.2.2.toNat + 0
            rw [← ex, ← ec, hν _ hj, hν0 _ hj]
            omega
        · cases hy
      · split at hy
        · rename_i hc
          obtain ⟨c1, c2⟩ := hc
          cases hy
          obtain ⟨v, vs2, rfl, hv, h5⟩ := hG.gs.pop
          have ev : v = .ref (st _) := hv
          subst ev
          rw [c1, hzz]
          refine va_slen hx hb hX hbl hbA hS hd (ck_pushv (hG.stk h5) hn (f := ck_k Ln) ?_ (K _ List.mem_cons_self))
          have e2 : (Int32.ofNat Ln).toInt = (Ln : Int) := nI_toInt (n := Ln) (by omega)
          rw [e2]
          exact ck_k_ok hG.gi _
        · cases hy
      · cases hy
    · refine ck_step_ok hx hb hml hown hts hgood hamb hC hT hCs (fun q hq => hq) (fun z => by cases z) rfl rfl rfl rfl (fun i hd hrr hGG => ?_) h hn hG K
      unfold ck_rtL at hrr
      split at hrr
      · simp only [Bool.and_eq_true, decide_eq_true_eq] at hrr
        obtain ⟨⟨⟨r1, r2⟩, r3⟩, r4⟩ := hrr
        obtain ⟨v, vs2, rfl, ⟨w1, x, rfl, e1⟩, h5⟩ := hGG.gs.pop
        cases vs2 with
        | cons a b => exact h5.elim
        | nil =>
          have rx := ck_rng32 hGG.gi e1
          have ex : x = 1 := Int32.toInt_inj.mp (by have : (1 : Int32).toInt = 1 := rfl; omega)
          subst ex
          refine va_forget (fun q hq => hGG.2.2.2.2.2.2.2.2.1.2.2 q hq) ?_
          refine W.widen r3 r4 ?_
          exact lw_ret hx hb hr hlocks hd
      · cases hrr
  · cases h
end CKW
end
section
/-! THE TABLES OF THIS PROGRAM: written by wip/gen/pr.py out of what TURN printed -/
def RX0 : String := "ScratchLadder$Bench"
def TX0 : u_T := fun k => match k with
  | 0 => ("ScratchLadder$Bench", "stones", "I", false)
  | 1 => ("ScratchLadder$Bench", "names", "[I", true)
  | 2 => ("ScratchLadder$Bench", "pieces", "[I", true)
  | 3 => ("ScratchLadder$Bench", "uses", "[I", true)
  | 4 => ("ScratchLadder$Bench", "points", "[I", true)
  | 5 => ("ScratchLadder$Bench", "planes", "[I", true)
  | 6 => ("ScratchLadder$Bench", "knownAs", "[I", true)
  | 7 => ("ScratchLadder$Bench", "slipOf", "[I", true)
  | 8 => ("ScratchLadder$Bench", "dustOf", "[I", true)
  | 9 => ("ScratchLadder$Bench", "drawn", "I", false)
  | 10 => ("ScratchLadder$Bench", "law", "I", false)
  | 11 => ("ScratchLadder$Bench", "texts", "I", false)
  | 12 => ("ScratchLadder$Bench", "written", "[LScratchLadder$Text;", true)
  | 13 => ("ScratchLadder$Bench", "noLaw", "LScratchLadder$Text;", true)
  | 14 => ("ScratchLadder$Bench", "trials", "I", false)
  | 15 => ("ScratchLadder$Bench", "columns", "[I", true)
  | 16 => ("ScratchLadder$Bench", "facesSeen", "I", false)
  | 17 => ("ScratchLadder$Bench", "waysSeen", "I", false)
  | _ => ("ScratchLadder$Bench", "handsSeen", "I", false)
def tyX0 : Nat → FieldType := fun k => match k with
  | 0 => .int
  | 1 => .array .int
  | 2 => .array .int
  | 3 => .array .int
  | 4 => .array .int
  | 5 => .array .int
  | 6 => .array .int
  | 7 => .array .int
  | 8 => .array .int
  | 9 => .int
  | 10 => .int
  | 11 => .int
  | 12 => .array (.object "ScratchLadder$Text")
  | 13 => .object "ScratchLadder$Text"
  | 14 => .int
  | 15 => .array .int
  | 16 => .int
  | 17 => .int
  | _ => .int
theorem nmX0 : ∀ a, a < 19 → ∀ b, b < 19 → a ≠ b → (TX0 a).2.1 ≠ (TX0 b).2.1 := by decide +kernel
theorem tyX0_ok : ∀ k, k < 19 → parseFieldDescriptor (TX0 k).2.2.1 = some (tyX0 k) := by decide +kernel
def RX1 : String := "ScratchLadder$Lineup"
def TX1 : u_T := fun k => match k with
  | 0 => ("ScratchLadder$Lineup", "bench", "LScratchLadder$Bench;", true)
  | 1 => ("ScratchLadder$Lineup", "question", "LScratchLadder$Question;", true)
  | 2 => ("ScratchLadder$Lineup", "keys", "[I", true)
  | 3 => ("ScratchLadder$Lineup", "depths", "[I", true)
  | 4 => ("ScratchLadder$Lineup", "loads", "[I", true)
  | _ => ("ScratchLadder$Lineup", "stoneAt", "[I", true)
def tyX1 : Nat → FieldType := fun k => match k with
  | 0 => .object "ScratchLadder$Bench"
  | 1 => .object "ScratchLadder$Question"
  | 2 => .array .int
  | 3 => .array .int
  | 4 => .array .int
  | _ => .array .int
theorem nmX1 : ∀ a, a < 6 → ∀ b, b < 6 → a ≠ b → (TX1 a).2.1 ≠ (TX1 b).2.1 := by decide +kernel
theorem tyX1_ok : ∀ k, k < 6 → parseFieldDescriptor (TX1 k).2.2.1 = some (tyX1 k) := by decide +kernel
def RX2 : String := "ScratchLadder$Naming"
def TX2 : u_T := fun k => match k with
  | 0 => ("ScratchLadder$Naming", "bench", "LScratchLadder$Bench;", true)
  | 1 => ("ScratchLadder$Naming", "ties", "LScratchLadder$Ties;", true)
  | _ => ("ScratchLadder$Naming", "rows", "[I", true)
def tyX2 : Nat → FieldType := fun k => match k with
  | 0 => .object "ScratchLadder$Bench"
  | 1 => .object "ScratchLadder$Ties"
  | _ => .array .int
theorem nmX2 : ∀ a, a < 3 → ∀ b, b < 3 → a ≠ b → (TX2 a).2.1 ≠ (TX2 b).2.1 := by decide +kernel
theorem tyX2_ok : ∀ k, k < 3 → parseFieldDescriptor (TX2 k).2.2.1 = some (tyX2 k) := by decide +kernel
def RX3 : String := "ScratchLadder$Orders"
def TX3 : u_T := fun k => match k with
  | 0 => ("ScratchLadder$Orders", "bench", "LScratchLadder$Bench;", true)
  | 1 => ("ScratchLadder$Orders", "table", "[I", true)
  | 2 => ("ScratchLadder$Orders", "againstLow", "[I", true)
  | 3 => ("ScratchLadder$Orders", "againstHigh", "[I", true)
  | 4 => ("ScratchLadder$Orders", "size", "I", false)
  | 5 => ("ScratchLadder$Orders", "best", "[I", true)
  | _ => ("ScratchLadder$Orders", "placeInBest", "[I", true)
def tyX3 : Nat → FieldType := fun k => match k with
  | 0 => .object "ScratchLadder$Bench"
  | 1 => .array .int
  | 2 => .array .int
  | 3 => .array .int
  | 4 => .int
  | 5 => .array .int
  | _ => .array .int
theorem nmX3 : ∀ a, a < 7 → ∀ b, b < 7 → a ≠ b → (TX3 a).2.1 ≠ (TX3 b).2.1 := by decide +kernel
theorem tyX3_ok : ∀ k, k < 7 → parseFieldDescriptor (TX3 k).2.2.1 = some (tyX3 k) := by decide +kernel
def RX4 : String := "ScratchLadder$Question"
def TX4 : u_T := fun k => match k with
  | 0 => ("ScratchLadder$Question", "bench", "LScratchLadder$Bench;", true)
  | 1 => ("ScratchLadder$Question", "stack", "[J", true)
  | _ => ("ScratchLadder$Question", "words", "[I", true)
def tyX4 : Nat → FieldType := fun k => match k with
  | 0 => .object "ScratchLadder$Bench"
  | 1 => .array .long
  | _ => .array .int
theorem nmX4 : ∀ a, a < 3 → ∀ b, b < 3 → a ≠ b → (TX4 a).2.1 ≠ (TX4 b).2.1 := by decide +kernel
theorem tyX4_ok : ∀ k, k < 3 → parseFieldDescriptor (TX4 k).2.2.1 = some (tyX4 k) := by decide +kernel
def RX5 : String := "ScratchLadder$Reader"
def TX5 : u_T := fun k => match k with
  | 0 => ("ScratchLadder$Reader", "tape", "LScratchLadder$Tape;", true)
  | 1 => ("ScratchLadder$Reader", "clauses", "[I", true)
  | 2 => ("ScratchLadder$Reader", "clauseCount", "I", false)
  | 3 => ("ScratchLadder$Reader", "steps", "[I", true)
  | 4 => ("ScratchLadder$Reader", "stepCount", "I", false)
  | 5 => ("ScratchLadder$Reader", "parts", "I", false)
  | 6 => ("ScratchLadder$Reader", "brackets", "I", false)
  | 7 => ("ScratchLadder$Reader", "tokenKind", "I", false)
  | 8 => ("ScratchLadder$Reader", "tokenStart", "I", false)
  | 9 => ("ScratchLadder$Reader", "tokenEnd", "I", false)
  | _ => ("ScratchLadder$Reader", "tokenNumber", "I", false)
def tyX5 : Nat → FieldType := fun k => match k with
  | 0 => .object "ScratchLadder$Tape"
  | 1 => .array .int
  | 2 => .int
  | 3 => .array .int
  | 4 => .int
  | 5 => .int
  | 6 => .int
  | 7 => .int
  | 8 => .int
  | 9 => .int
  | _ => .int
theorem nmX5 : ∀ a, a < 11 → ∀ b, b < 11 → a ≠ b → (TX5 a).2.1 ≠ (TX5 b).2.1 := by decide +kernel
theorem tyX5_ok : ∀ k, k < 11 → parseFieldDescriptor (TX5 k).2.2.1 = some (tyX5 k) := by decide +kernel
def RX6 : String := "ScratchLadder$Rungs"
def TX6 : u_T := fun k => match k with
  | 0 => ("ScratchLadder$Rungs", "bench", "LScratchLadder$Bench;", true)
  | _ => ("ScratchLadder$Rungs", "ties", "LScratchLadder$Ties;", true)
def tyX6 : Nat → FieldType := fun k => match k with
  | 0 => .object "ScratchLadder$Bench"
  | _ => .object "ScratchLadder$Ties"
theorem nmX6 : ∀ a, a < 2 → ∀ b, b < 2 → a ≠ b → (TX6 a).2.1 ≠ (TX6 b).2.1 := by decide +kernel
theorem tyX6_ok : ∀ k, k < 2 → parseFieldDescriptor (TX6 k).2.2.1 = some (tyX6 k) := by decide +kernel
def RX7 : String := "ScratchLadder$Sorter"
def TX7 : u_T := fun k => match k with
  | 0 => ("ScratchLadder$Sorter", "told", "[I", true)
  | 1 => ("ScratchLadder$Sorter", "rows", "[I", true)
  | 2 => ("ScratchLadder$Sorter", "size", "I", false)
  | 3 => ("ScratchLadder$Sorter", "start", "I", false)
  | _ => ("ScratchLadder$Sorter", "firstPair", "I", false)
def tyX7 : Nat → FieldType := fun k => match k with
  | 0 => .array .int
  | 1 => .array .int
  | 2 => .int
  | 3 => .int
  | _ => .int
theorem nmX7 : ∀ a, a < 5 → ∀ b, b < 5 → a ≠ b → (TX7 a).2.1 ≠ (TX7 b).2.1 := by decide +kernel
theorem tyX7_ok : ∀ k, k < 5 → parseFieldDescriptor (TX7 k).2.2.1 = some (tyX7 k) := by decide +kernel
def RX8 : String := "ScratchLadder$Tape"
def TX8 : u_T := fun k => match k with
  | 0 => ("ScratchLadder$Tape", "bytes", "[I", true)
  | _ => ("ScratchLadder$Tape", "length", "I", false)
def tyX8 : Nat → FieldType := fun k => match k with
  | 0 => .array .int
  | _ => .int
theorem nmX8 : ∀ a, a < 2 → ∀ b, b < 2 → a ≠ b → (TX8 a).2.1 ≠ (TX8 b).2.1 := by decide +kernel
theorem tyX8_ok : ∀ k, k < 2 → parseFieldDescriptor (TX8 k).2.2.1 = some (tyX8 k) := by decide +kernel
def RX9 : String := "ScratchLadder$Text"
def TX9 : u_T := fun k => match k with
  | 0 => ("ScratchLadder$Text", "clauses", "[I", true)
  | _ => ("ScratchLadder$Text", "steps", "[I", true)
def tyX9 : Nat → FieldType := fun k => match k with
  | 0 => .array .int
  | _ => .array .int
theorem nmX9 : ∀ a, a < 2 → ∀ b, b < 2 → a ≠ b → (TX9 a).2.1 ≠ (TX9 b).2.1 := by decide +kernel
theorem tyX9_ok : ∀ k, k < 2 → parseFieldDescriptor (TX9 k).2.2.1 = some (tyX9 k) := by decide +kernel
def RX10 : String := "ScratchLadder$Ties"
def TX10 : u_T := fun k => match k with
  | 0 => ("ScratchLadder$Ties", "bench", "LScratchLadder$Bench;", true)
  | 1 => ("ScratchLadder$Ties", "said", "[I", true)
  | 2 => ("ScratchLadder$Ties", "above", "[I", true)
  | 3 => ("ScratchLadder$Ties", "below", "[I", true)
  | 4 => ("ScratchLadder$Ties", "under", "[I", true)
  | _ => ("ScratchLadder$Ties", "tried", "[I", true)
def tyX10 : Nat → FieldType := fun k => match k with
  | 0 => .object "ScratchLadder$Bench"
  | 1 => .array .int
  | 2 => .array .int
  | 3 => .array .int
  | 4 => .array .int
  | _ => .array .int
theorem nmX10 : ∀ a, a < 6 → ∀ b, b < 6 → a ≠ b → (TX10 a).2.1 ≠ (TX10 b).2.1 := by decide +kernel
theorem tyX10_ok : ∀ k, k < 6 → parseFieldDescriptor (TX10 k).2.2.1 = some (tyX10 k) := by decide +kernel
def RX11 : String := "ScratchLadder"
def TX11 : u_T := fun k => match k with
  | 0 => ("ScratchLadder", "now", "LScratchLadder$Bench;", true)
  | 1 => ("ScratchLadder", "images", "[LScratchLadder$Bench;", true)
  | 2 => ("ScratchLadder", "imageKept", "[Z", true)
  | 3 => ("ScratchLadder", "tape", "LScratchLadder$Tape;", true)
  | 4 => ("ScratchLadder", "reader", "LScratchLadder$Reader;", true)
  | 5 => ("ScratchLadder", "question", "LScratchLadder$Question;", true)
  | 6 => ("ScratchLadder", "ties", "LScratchLadder$Ties;", true)
  | 7 => ("ScratchLadder", "ladder", "LScratchLadder$Orders;", true)
  | 8 => ("ScratchLadder", "lineup", "LScratchLadder$Lineup;", true)
  | 9 => ("ScratchLadder", "rungs", "LScratchLadder$Rungs;", true)
  | 10 => ("ScratchLadder", "sorter", "LScratchLadder$Sorter;", true)
  | 11 => ("ScratchLadder", "naming", "LScratchLadder$Naming;", true)
  | 12 => ("ScratchLadder", "newTrial", "[I", true)
  | 13 => ("ScratchLadder", "latestFault", "I", false)
  | _ => ("ScratchLadder", "latestRefusal", "I", false)
def tyX11 : Nat → FieldType := fun k => match k with
  | 0 => .object "ScratchLadder$Bench"
  | 1 => .array (.object "ScratchLadder$Bench")
  | 2 => .array .boolean
  | 3 => .object "ScratchLadder$Tape"
  | 4 => .object "ScratchLadder$Reader"
  | 5 => .object "ScratchLadder$Question"
  | 6 => .object "ScratchLadder$Ties"
  | 7 => .object "ScratchLadder$Orders"
  | 8 => .object "ScratchLadder$Lineup"
  | 9 => .object "ScratchLadder$Rungs"
  | 10 => .object "ScratchLadder$Sorter"
  | 11 => .object "ScratchLadder$Naming"
  | 12 => .array .int
  | 13 => .int
  | _ => .int
theorem nmX11 : ∀ a, a < 15 → ∀ b, b < 15 → a ≠ b → (TX11 a).2.1 ≠ (TX11 b).2.1 := by decide +kernel
theorem tyX11_ok : ∀ k, k < 15 → parseFieldDescriptor (TX11 k).2.2.1 = some (tyX11 k) := by decide +kernel
def RX12 : String := "ScratchLadderModel"
def TX12 : u_T := fun k => match k with
  | 0 => ("ScratchLadderModel", "status", "I", false)
  | 1 => ("ScratchLadderModel", "kept", "[I", true)
  | 2 => ("ScratchLadderModel", "images", "[I", true)
  | 3 => ("ScratchLadderModel", "hasImage", "[Z", true)
  | 4 => ("ScratchLadderModel", "words", "[B", true)
  | 5 => ("ScratchLadderModel", "tape", "[B", true)
  | 6 => ("ScratchLadderModel", "five", "[I", true)
  | 7 => ("ScratchLadderModel", "taped", "I", false)
  | 8 => ("ScratchLadderModel", "fault", "I", false)
  | 9 => ("ScratchLadderModel", "code", "[I", true)
  | 10 => ("ScratchLadderModel", "value", "[I", true)
  | 11 => ("ScratchLadderModel", "placed", "[I", true)
  | 12 => ("ScratchLadderModel", "tokens", "I", false)
  | 13 => ("ScratchLadderModel", "token", "I", false)
  | 14 => ("ScratchLadderModel", "leaves", "I", false)
  | 15 => ("ScratchLadderModel", "bad", "I", false)
  | 16 => ("ScratchLadderModel", "go", "I", false)
  | 17 => ("ScratchLadderModel", "goEnd", "I", false)
  | 18 => ("ScratchLadderModel", "broken", "Z", false)
  | 19 => ("ScratchLadderModel", "asked", "[I", true)
  | 20 => ("ScratchLadderModel", "cutsIt", "Z", false)
  | 21 => ("ScratchLadderModel", "bothOfIt", "Z", false)
  | 22 => ("ScratchLadderModel", "depth", "I", false)
  | 23 => ("ScratchLadderModel", "dent", "I", false)
  | 24 => ("ScratchLadderModel", "said", "[I", true)
  | 25 => ("ScratchLadderModel", "over", "[I", true)
  | 26 => ("ScratchLadderModel", "ways", "[I", true)
  | 27 => ("ScratchLadderModel", "least", "[I", true)
  | 28 => ("ScratchLadderModel", "bestRow", "[I", true)
  | 29 => ("ScratchLadderModel", "bestMany", "I", false)
  | 30 => ("ScratchLadderModel", "rungStone", "[I", true)
  | 31 => ("ScratchLadderModel", "rungNumber", "[I", true)
  | 32 => ("ScratchLadderModel", "rungs", "I", false)
  | 33 => ("ScratchLadderModel", "low", "I", false)
  | 34 => ("ScratchLadderModel", "high", "I", false)
  | 35 => ("ScratchLadderModel", "few", "[B", true)
  | 36 => ("ScratchLadderModel", "hasFew", "[Z", true)
  | 37 => ("ScratchLadderModel", "lies", "[I", true)
  | 38 => ("ScratchLadderModel", "chosen", "[I", true)
  | 39 => ("ScratchLadderModel", "has", "[I", true)
  | _ => ("ScratchLadderModel", "given", "[I", true)
def tyX12 : Nat → FieldType := fun k => match k with
  | 0 => .int
  | 1 => .array .int
  | 2 => .array .int
  | 3 => .array .boolean
  | 4 => .array .byte
  | 5 => .array .byte
  | 6 => .array .int
  | 7 => .int
  | 8 => .int
  | 9 => .array .int
  | 10 => .array .int
  | 11 => .array .int
  | 12 => .int
  | 13 => .int
  | 14 => .int
  | 15 => .int
  | 16 => .int
  | 17 => .int
  | 18 => .boolean
  | 19 => .array .int
  | 20 => .boolean
  | 21 => .boolean
  | 22 => .int
  | 23 => .int
  | 24 => .array .int
  | 25 => .array .int
  | 26 => .array .int
  | 27 => .array .int
  | 28 => .array .int
  | 29 => .int
  | 30 => .array .int
  | 31 => .array .int
  | 32 => .int
  | 33 => .int
  | 34 => .int
  | 35 => .array .byte
  | 36 => .array .boolean
  | 37 => .array .int
  | 38 => .array .int
  | 39 => .array .int
  | _ => .array .int
theorem nmX12 : ∀ a, a < 41 → ∀ b, b < 41 → a ≠ b → (TX12 a).2.1 ≠ (TX12 b).2.1 := by decide +kernel
theorem tyX12_ok : ∀ k, k < 41 → parseFieldDescriptor (TX12 k).2.2.1 = some (tyX12 k) := by decide +kernel
abbrev vwCl : List vw_C := [(RX0, TX0, 19), (RX1, TX1, 6), (RX2, TX2, 3), (RX3, TX3, 7), (RX4, TX4, 3), (RX5, TX5, 11), (RX6, TX6, 2), (RX7, TX7, 5), (RX8, TX8, 2), (RX9, TX9, 2), (RX10, TX10, 6), (RX11, TX11, 15), (RX12, TX12, 41)]
def ck_TS : List Cond := lw_tbl.filter goodWord
theorem ck_mem {w : Cond} (i : Nat) (h : lw_tbl[i]? = some w) (hg : goodWord w = true) : w ∈ ck_TS := List.mem_filter.mpr ⟨List.mem_of_getElem? h, hg⟩
theorem ck_TSgood : GoodIn ck_TS ck_TS := fun w hw => ⟨hw, good_of_word (List.mem_filter.mp hw).2⟩
theorem ck_nil {α : Type} {P : α → Prop} : ∀ c ∈ ([] : List α), P c := fun _ h => absurd h List.not_mem_nil
theorem ck_cons {α : Type} {P : α → Prop} {a : α} {l : List α} (h : P a) (t : ∀ c ∈ l, P c) : ∀ c ∈ a :: l, P c := fun c hc => (List.mem_cons.mp hc).elim (fun e => e ▸ h) (t c)
theorem ck_in0 : ∀ w ∈ u_ws RX0 TX0 19, w ∈ ck_TS := fun w h => List.mem_filter.mpr ⟨(show ∀ w ∈ u_ws RX0 TX0 19, w ∈ lw_tbl by decide +kernel) w h, List.all_eq_true.mp (show (u_ws RX0 TX0 19).all goodWord = true by decide +kernel) w h⟩
theorem ck_in1 : ∀ w ∈ u_ws RX1 TX1 6, w ∈ ck_TS := fun w h => List.mem_filter.mpr ⟨(show ∀ w ∈ u_ws RX1 TX1 6, w ∈ lw_tbl by decide +kernel) w h, List.all_eq_true.mp (show (u_ws RX1 TX1 6).all goodWord = true by decide +kernel) w h⟩
theorem ck_in2 : ∀ w ∈ u_ws RX2 TX2 3, w ∈ ck_TS := fun w h => List.mem_filter.mpr ⟨(show ∀ w ∈ u_ws RX2 TX2 3, w ∈ lw_tbl by decide +kernel) w h, List.all_eq_true.mp (show (u_ws RX2 TX2 3).all goodWord = true by decide +kernel) w h⟩
theorem ck_in3 : ∀ w ∈ u_ws RX3 TX3 7, w ∈ ck_TS := fun w h => List.mem_filter.mpr ⟨(show ∀ w ∈ u_ws RX3 TX3 7, w ∈ lw_tbl by decide +kernel) w h, List.all_eq_true.mp (show (u_ws RX3 TX3 7).all goodWord = true by decide +kernel) w h⟩
theorem ck_in4 : ∀ w ∈ u_ws RX4 TX4 3, w ∈ ck_TS := fun w h => List.mem_filter.mpr ⟨(show ∀ w ∈ u_ws RX4 TX4 3, w ∈ lw_tbl by decide +kernel) w h, List.all_eq_true.mp (show (u_ws RX4 TX4 3).all goodWord = true by decide +kernel) w h⟩
theorem ck_in5 : ∀ w ∈ u_ws RX5 TX5 11, w ∈ ck_TS := fun w h => List.mem_filter.mpr ⟨(show ∀ w ∈ u_ws RX5 TX5 11, w ∈ lw_tbl by decide +kernel) w h, List.all_eq_true.mp (show (u_ws RX5 TX5 11).all goodWord = true by decide +kernel) w h⟩
theorem ck_in6 : ∀ w ∈ u_ws RX6 TX6 2, w ∈ ck_TS := fun w h => List.mem_filter.mpr ⟨(show ∀ w ∈ u_ws RX6 TX6 2, w ∈ lw_tbl by decide +kernel) w h, List.all_eq_true.mp (show (u_ws RX6 TX6 2).all goodWord = true by decide +kernel) w h⟩
theorem ck_in7 : ∀ w ∈ u_ws RX7 TX7 5, w ∈ ck_TS := fun w h => List.mem_filter.mpr ⟨(show ∀ w ∈ u_ws RX7 TX7 5, w ∈ lw_tbl by decide +kernel) w h, List.all_eq_true.mp (show (u_ws RX7 TX7 5).all goodWord = true by decide +kernel) w h⟩
theorem ck_in8 : ∀ w ∈ u_ws RX8 TX8 2, w ∈ ck_TS := fun w h => List.mem_filter.mpr ⟨(show ∀ w ∈ u_ws RX8 TX8 2, w ∈ lw_tbl by decide +kernel) w h, List.all_eq_true.mp (show (u_ws RX8 TX8 2).all goodWord = true by decide +kernel) w h⟩
theorem ck_in9 : ∀ w ∈ u_ws RX9 TX9 2, w ∈ ck_TS := fun w h => List.mem_filter.mpr ⟨(show ∀ w ∈ u_ws RX9 TX9 2, w ∈ lw_tbl by decide +kernel) w h, List.all_eq_true.mp (show (u_ws RX9 TX9 2).all goodWord = true by decide +kernel) w h⟩
theorem ck_in10 : ∀ w ∈ u_ws RX10 TX10 6, w ∈ ck_TS := fun w h => List.mem_filter.mpr ⟨(show ∀ w ∈ u_ws RX10 TX10 6, w ∈ lw_tbl by decide +kernel) w h, List.all_eq_true.mp (show (u_ws RX10 TX10 6).all goodWord = true by decide +kernel) w h⟩
theorem ck_in11 : ∀ w ∈ u_ws RX11 TX11 15, w ∈ ck_TS := fun w h => List.mem_filter.mpr ⟨(show ∀ w ∈ u_ws RX11 TX11 15, w ∈ lw_tbl by decide +kernel) w h, List.all_eq_true.mp (show (u_ws RX11 TX11 15).all goodWord = true by decide +kernel) w h⟩
theorem ck_in12 : ∀ w ∈ u_ws RX12 TX12 41, w ∈ ck_TS := fun w h => List.mem_filter.mpr ⟨(show ∀ w ∈ u_ws RX12 TX12 41, w ∈ lw_tbl by decide +kernel) w h, List.all_eq_true.mp (show (u_ws RX12 TX12 41).all goodWord = true by decide +kernel) w h⟩
theorem ck_okCl : ck_okC vwCl ck_TS := by
  intro ci C T N h
  match ci, h with
  | 0, h => cases h; exact ⟨ck_in0, ⟨tyX0, tyX0_ok⟩, nmX0⟩
  | 1, h => cases h; exact ⟨ck_in1, ⟨tyX1, tyX1_ok⟩, nmX1⟩
  | 2, h => cases h; exact ⟨ck_in2, ⟨tyX2, tyX2_ok⟩, nmX2⟩
  | 3, h => cases h; exact ⟨ck_in3, ⟨tyX3, tyX3_ok⟩, nmX3⟩
  | 4, h => cases h; exact ⟨ck_in4, ⟨tyX4, tyX4_ok⟩, nmX4⟩
  | 5, h => cases h; exact ⟨ck_in5, ⟨tyX5, tyX5_ok⟩, nmX5⟩
  | 6, h => cases h; exact ⟨ck_in6, ⟨tyX6, tyX6_ok⟩, nmX6⟩
  | 7, h => cases h; exact ⟨ck_in7, ⟨tyX7, tyX7_ok⟩, nmX7⟩
  | 8, h => cases h; exact ⟨ck_in8, ⟨tyX8, tyX8_ok⟩, nmX8⟩
  | 9, h => cases h; exact ⟨ck_in9, ⟨tyX9, tyX9_ok⟩, nmX9⟩
  | 10, h => cases h; exact ⟨ck_in10, ⟨tyX10, tyX10_ok⟩, nmX10⟩
  | 11, h => cases h; exact ⟨ck_in11, ⟨tyX11, tyX11_ok⟩, nmX11⟩
  | 12, h => cases h; exact ⟨ck_in12, ⟨tyX12, tyX12_ok⟩, nmX12⟩
  | k + 13, h => simp [vwCl] at h
def ck_dt : List (List FieldType) := [[.int, (.array .int), (.array .int), (.array .int), (.array .int), (.array .int), (.array .int), (.array .int), (.array .int), .int, .int, .int, (.array (.object "ScratchLadder$Text")), (.object "ScratchLadder$Text"), .int, (.array .int), .int, .int, .int], [(.object "ScratchLadder$Bench"), (.object "ScratchLadder$Question"), (.array .int), (.array .int), (.array .int), (.array .int)], [(.object "ScratchLadder$Bench"), (.object "ScratchLadder$Ties"), (.array .int)], [(.object "ScratchLadder$Bench"), (.array .int), (.array .int), (.array .int), .int, (.array .int), (.array .int)], [(.object "ScratchLadder$Bench"), (.array .long), (.array .int)], [(.object "ScratchLadder$Tape"), (.array .int), .int, (.array .int), .int, .int, .int, .int, .int, .int, .int], [(.object "ScratchLadder$Bench"), (.object "ScratchLadder$Ties")], [(.array .int), (.array .int), .int, .int, .int], [(.array .int), .int], [(.array .int), (.array .int)], [(.object "ScratchLadder$Bench"), (.array .int), (.array .int), (.array .int), (.array .int), (.array .int)], [(.object "ScratchLadder$Bench"), (.array (.object "ScratchLadder$Bench")), (.array .boolean), (.object "ScratchLadder$Tape"), (.object "ScratchLadder$Reader"), (.object "ScratchLadder$Question"), (.object "ScratchLadder$Ties"), (.object "ScratchLadder$Orders"), (.object "ScratchLadder$Lineup"), (.object "ScratchLadder$Rungs"), (.object "ScratchLadder$Sorter"), (.object "ScratchLadder$Naming"), (.array .int), .int, .int], [.int, (.array .int), (.array .int), (.array .boolean), (.array .byte), (.array .byte), (.array .int), .int, .int, (.array .int), (.array .int), (.array .int), .int, .int, .int, .int, .int, .int, .boolean, (.array .int), .boolean, .boolean, .int, .int, (.array .int), (.array .int), (.array .int), (.array .int), (.array .int), .int, (.array .int), (.array .int), .int, .int, .int, (.array .byte), (.array .boolean), (.array .int), (.array .int), (.array .int), (.array .int)]]
theorem ck_okDt : ck_okD vwCl ck_dt := by
  intro ci tl h
  match ci, h with
  | 0, h =>
    cases h
    refine ⟨RX0, TX0, rfl, fun k t hk => ?_⟩
    have hl : k < 19 := (List.getElem?_eq_some_iff.mp hk).1
    have h1 := tyX0_ok k hl
    have h2 : ∀ k, k < 19 → ([.int, (.array .int), (.array .int), (.array .int), (.array .int), (.array .int), (.array .int), (.array .int), (.array .int), .int, .int, .int, (.array (.object "ScratchLadder$Text")), (.object "ScratchLadder$Text"), .int, (.array .int), .int, .int, .int] : List FieldType)[k]? = some (tyX0 k) := by decide +kernel
    rw [h1, ← Option.some.inj ((h2 k hl).symm.trans hk)]
  | 1, h =>
    cases h
    refine ⟨RX1, TX1, rfl, fun k t hk => ?_⟩
    have hl : k < 6 := (List.getElem?_eq_some_iff.mp hk).1
    have h1 := tyX1_ok k hl
    have h2 : ∀ k, k < 6 → ([(.object "ScratchLadder$Bench"), (.object "ScratchLadder$Question"), (.array .int), (.array .int), (.array .int), (.array .int)] : List FieldType)[k]? = some (tyX1 k) := by decide +kernel
    rw [h1, ← Option.some.inj ((h2 k hl).symm.trans hk)]
  | 2, h =>
    cases h
    refine ⟨RX2, TX2, rfl, fun k t hk => ?_⟩
    have hl : k < 3 := (List.getElem?_eq_some_iff.mp hk).1
    have h1 := tyX2_ok k hl
    have h2 : ∀ k, k < 3 → ([(.object "ScratchLadder$Bench"), (.object "ScratchLadder$Ties"), (.array .int)] : List FieldType)[k]? = some (tyX2 k) := by decide +kernel
    rw [h1, ← Option.some.inj ((h2 k hl).symm.trans hk)]
  | 3, h =>
    cases h
    refine ⟨RX3, TX3, rfl, fun k t hk => ?_⟩
    have hl : k < 7 := (List.getElem?_eq_some_iff.mp hk).1
    have h1 := tyX3_ok k hl
    have h2 : ∀ k, k < 7 → ([(.object "ScratchLadder$Bench"), (.array .int), (.array .int), (.array .int), .int, (.array .int), (.array .int)] : List FieldType)[k]? = some (tyX3 k) := by decide +kernel
    rw [h1, ← Option.some.inj ((h2 k hl).symm.trans hk)]
  | 4, h =>
    cases h
    refine ⟨RX4, TX4, rfl, fun k t hk => ?_⟩
    have hl : k < 3 := (List.getElem?_eq_some_iff.mp hk).1
    have h1 := tyX4_ok k hl
    have h2 : ∀ k, k < 3 → ([(.object "ScratchLadder$Bench"), (.array .long), (.array .int)] : List FieldType)[k]? = some (tyX4 k) := by decide +kernel
    rw [h1, ← Option.some.inj ((h2 k hl).symm.trans hk)]
  | 5, h =>
    cases h
    refine ⟨RX5, TX5, rfl, fun k t hk => ?_⟩
    have hl : k < 11 := (List.getElem?_eq_some_iff.mp hk).1
    have h1 := tyX5_ok k hl
    have h2 : ∀ k, k < 11 → ([(.object "ScratchLadder$Tape"), (.array .int), .int, (.array .int), .int, .int, .int, .int, .int, .int, .int] : List FieldType)[k]? = some (tyX5 k) := by decide +kernel
    rw [h1, ← Option.some.inj ((h2 k hl).symm.trans hk)]
  | 6, h =>
    cases h
    refine ⟨RX6, TX6, rfl, fun k t hk => ?_⟩
    have hl : k < 2 := (List.getElem?_eq_some_iff.mp hk).1
    have h1 := tyX6_ok k hl
    have h2 : ∀ k, k < 2 → ([(.object "ScratchLadder$Bench"), (.object "ScratchLadder$Ties")] : List FieldType)[k]? = some (tyX6 k) := by decide +kernel
    rw [h1, ← Option.some.inj ((h2 k hl).symm.trans hk)]
  | 7, h =>
    cases h
    refine ⟨RX7, TX7, rfl, fun k t hk => ?_⟩
    have hl : k < 5 := (List.getElem?_eq_some_iff.mp hk).1
    have h1 := tyX7_ok k hl
    have h2 : ∀ k, k < 5 → ([(.array .int), (.array .int), .int, .int, .int] : List FieldType)[k]? = some (tyX7 k) := by decide +kernel
    rw [h1, ← Option.some.inj ((h2 k hl).symm.trans hk)]
  | 8, h =>
    cases h
    refine ⟨RX8, TX8, rfl, fun k t hk => ?_⟩
    have hl : k < 2 := (List.getElem?_eq_some_iff.mp hk).1
    have h1 := tyX8_ok k hl
    have h2 : ∀ k, k < 2 → ([(.array .int), .int] : List FieldType)[k]? = some (tyX8 k) := by decide +kernel
    rw [h1, ← Option.some.inj ((h2 k hl).symm.trans hk)]
  | 9, h =>
    cases h
    refine ⟨RX9, TX9, rfl, fun k t hk => ?_⟩
    have hl : k < 2 := (List.getElem?_eq_some_iff.mp hk).1
    have h1 := tyX9_ok k hl
    have h2 : ∀ k, k < 2 → ([(.array .int), (.array .int)] : List FieldType)[k]? = some (tyX9 k) := by decide +kernel
    rw [h1, ← Option.some.inj ((h2 k hl).symm.trans hk)]
  | 10, h =>
    cases h
    refine ⟨RX10, TX10, rfl, fun k t hk => ?_⟩
    have hl : k < 6 := (List.getElem?_eq_some_iff.mp hk).1
    have h1 := tyX10_ok k hl
    have h2 : ∀ k, k < 6 → ([(.object "ScratchLadder$Bench"), (.array .int), (.array .int), (.array .int), (.array .int), (.array .int)] : List FieldType)[k]? = some (tyX10 k) := by decide +kernel
    rw [h1, ← Option.some.inj ((h2 k hl).symm.trans hk)]
  | 11, h =>
    cases h
    refine ⟨RX11, TX11, rfl, fun k t hk => ?_⟩
    have hl : k < 15 := (List.getElem?_eq_some_iff.mp hk).1
    have h1 := tyX11_ok k hl
    have h2 : ∀ k, k < 15 → ([(.object "ScratchLadder$Bench"), (.array (.object "ScratchLadder$Bench")), (.array .boolean), (.object "ScratchLadder$Tape"), (.object "ScratchLadder$Reader"), (.object "ScratchLadder$Question"), (.object "ScratchLadder$Ties"), (.object "ScratchLadder$Orders"), (.object "ScratchLadder$Lineup"), (.object "ScratchLadder$Rungs"), (.object "ScratchLadder$Sorter"), (.object "ScratchLadder$Naming"), (.array .int), .int, .int] : List FieldType)[k]? = some (tyX11 k) := by decide +kernel
    rw [h1, ← Option.some.inj ((h2 k hl).symm.trans hk)]
  | 12, h =>
    cases h
    refine ⟨RX12, TX12, rfl, fun k t hk => ?_⟩
    have hl : k < 41 := (List.getElem?_eq_some_iff.mp hk).1
    have h1 := tyX12_ok k hl
    have h2 : ∀ k, k < 41 → ([.int, (.array .int), (.array .int), (.array .boolean), (.array .byte), (.array .byte), (.array .int), .int, .int, (.array .int), (.array .int), (.array .int), .int, .int, .int, .int, .int, .int, .boolean, (.array .int), .boolean, .boolean, .int, .int, (.array .int), (.array .int), (.array .int), (.array .int), (.array .int), .int, (.array .int), (.array .int), .int, .int, .int, (.array .byte), (.array .boolean), (.array .int), (.array .int), (.array .int), (.array .int)] : List FieldType)[k]? = some (tyX12 k) := by decide +kernel
    rw [h1, ← Option.some.inj ((h2 k hl).symm.trans hk)]
  | k + 13, h => simp [ck_dt] at h
def ck_m0 : ck_MT := (⟨"", "", ""⟩, ⟨#[]⟩, 0, none, 0)
def ck_m1 : ck_MT := (⟨"ScratchLadder", "<init>", "()V"⟩, prog_1_method_1_code, 1, none, 0)
def ck_m2 : ck_MT := (⟨"ScratchLadder$Bench", "<init>", "()V"⟩, prog_2_method_1_code, 1, none, 0)
def ck_m3 : ck_MT := (⟨"ScratchLadder$Text", "<init>", "([I[I)V"⟩, prog_11_method_1_code, 3, none, 2)
def ck_m4 : ck_MT := (⟨"ScratchLadder$Tape", "<init>", "()V"⟩, prog_10_method_1_code, 1, none, 0)
def ck_m5 : ck_MT := (⟨"ScratchLadder$Reader", "<init>", "(LScratchLadder$Tape;)V"⟩, prog_7_method_1_code, 2, none, 1)
def ck_m6 : ck_MT := (⟨"ScratchLadder$Question", "<init>", "(LScratchLadder$Bench;)V"⟩, prog_6_method_1_code, 2, none, 1)
def ck_m7 : ck_MT := (⟨"ScratchLadder$Ties", "<init>", "(LScratchLadder$Bench;)V"⟩, prog_12_method_1_code, 2, none, 1)
def ck_m8 : ck_MT := (⟨"ScratchLadder$Orders", "<init>", "(LScratchLadder$Bench;)V"⟩, prog_5_method_1_code, 2, none, 1)
def ck_m9 : ck_MT := (⟨"java/util/Arrays", "fill", "([II)V"⟩, prog_22_method_103_code, 4, none, 2)
def ck_m10 : ck_MT := (⟨"ScratchLadder$Lineup", "<init>", "(LScratchLadder$Bench;LScratchLadder$Question;)V"⟩, prog_3_method_1_code, 3, none, 2)
def ck_m11 : ck_MT := (⟨"ScratchLadder$Rungs", "<init>", "(LScratchLadder$Bench;LScratchLadder$Ties;)V"⟩, prog_8_method_1_code, 3, none, 2)
def ck_m12 : ck_MT := (⟨"ScratchLadder$Sorter", "<init>", "()V"⟩, prog_9_method_1_code, 1, none, 0)
def ck_m13 : ck_MT := (⟨"ScratchLadder$Naming", "<init>", "(LScratchLadder$Bench;LScratchLadder$Ties;)V"⟩, prog_4_method_1_code, 3, none, 2)
def ck_m14 : ck_MT := (⟨"ScratchLadderModel", "<init>", "()V"⟩, prog_14_method_4_code, 1, none, 0)
def ck_m15 : ck_MT := (⟨"ScratchLadder", "stone", "(III)I"⟩, prog_1_method_2_code, 4, (some .int), 3)
def ck_m16 : ck_MT := (⟨"ScratchLadder", "within", "(III)Z"⟩, prog_1_method_51_code, 3, (some .boolean), 3)
def ck_m17 : ck_MT := (⟨"ScratchLadder", "refuse", "(I)I"⟩, prog_1_method_44_code, 2, (some .int), 1)
def ck_m18 : ck_MT := (⟨"ScratchLadder$Bench", "addStone", "(III)I"⟩, prog_2_method_4_code, 5, (some .int), 3)
def ck_m19 : ck_MT := (⟨"ScratchLadder", "accept", "(I)I"⟩, prog_1_method_45_code, 2, (some .int), 1)
def ck_m20 : ck_MT := (⟨"ScratchLadderModel", "stone", "(III)I"⟩, prog_14_method_11_code, 6, (some .int), 3)
def ck_m21 : ck_MT := (⟨"ScratchLadderModel", "in", "(III)Z"⟩, prog_14_method_1_code, 3, (some .boolean), 3)
def ck_m22 : ck_MT := (⟨"ScratchLadderModel", "refuses", "(I)I"⟩, prog_14_method_2_code, 2, (some .int), 1)
def ck_m23 : ck_MT := (⟨"ScratchLadderModel", "many", "()I"⟩, prog_14_method_7_code, 1, (some .int), 0)
def ck_m24 : ck_MT := (⟨"ScratchLadderModel", "good", "(I)I"⟩, prog_14_method_3_code, 2, (some .int), 1)
def ck_m25 : ck_MT := (⟨"ScratchLadder", "plane", "(IIII)I"⟩, prog_1_method_3_code, 5, (some .int), 4)
def ck_m26 : ck_MT := (⟨"ScratchLadder", "isSpot", "(II)Z"⟩, prog_1_method_49_code, 2, (some .boolean), 2)
def ck_m27 : ck_MT := (⟨"ScratchLadder$Bench", "hasStone", "(I)Z"⟩, prog_2_method_5_code, 2, (some .boolean), 1)
def ck_m28 : ck_MT := (⟨"ScratchLadderModel", "plane", "(IIII)I"⟩, prog_14_method_13_code, 5, (some .int), 4)
def ck_m29 : ck_MT := (⟨"ScratchLadderModel", "isStone", "(I)Z"⟩, prog_14_method_8_code, 2, (some .boolean), 1)
def ck_m30 : ck_MT := (⟨"ScratchLadder", "point", "(II)I"⟩, prog_1_method_4_code, 3, (some .int), 2)
def ck_m31 : ck_MT := (⟨"ScratchLadderModel", "point", "(II)I"⟩, prog_14_method_14_code, 3, (some .int), 2)
def ck_m32 : ck_MT := (⟨"ScratchLadder", "known", "(II)I"⟩, prog_1_method_5_code, 3, (some .int), 2)
def ck_m33 : ck_MT := (⟨"ScratchLadder", "exchange", "([III)I"⟩, prog_1_method_48_code, 4, (some .int), 3)
def ck_m34 : ck_MT := (⟨"ScratchLadderModel", "known", "(II)I"⟩, prog_14_method_15_code, 3, (some .int), 2)
def ck_m35 : ck_MT := (⟨"ScratchLadderModel", "replaces", "(II)I"⟩, prog_14_method_12_code, 4, (some .int), 2)
def ck_m36 : ck_MT := (⟨"ScratchLadder", "hand", "(III)I"⟩, prog_1_method_6_code, 4, (some .int), 3)
def ck_m37 : ck_MT := (⟨"ScratchLadder", "isHand", "(I)Z"⟩, prog_1_method_50_code, 1, (some .boolean), 1)
def ck_m38 : ck_MT := (⟨"ScratchLadderModel", "hand", "(III)I"⟩, prog_14_method_16_code, 4, (some .int), 3)
def ck_m39 : ck_MT := (⟨"ScratchLadder", "seed", "(I)I"⟩, prog_1_method_7_code, 2, (some .int), 1)
def ck_m40 : ck_MT := (⟨"ScratchLadderModel", "seed", "(I)I"⟩, prog_14_method_17_code, 2, (some .int), 1)
def ck_m41 : ck_MT := (⟨"ScratchLadder", "feed", "(IIIII)I"⟩, prog_1_method_8_code, 6, (some .int), 5)
def ck_m42 : ck_MT := (⟨"ScratchLadder$Tape", "append", "(I)V"⟩, prog_10_method_2_code, 3, none, 1)
def ck_m43 : ck_MT := (⟨"ScratchLadderModel", "feed", "(IIIII)I"⟩, prog_14_method_19_code, 7, (some .int), 5)
def ck_m44 : ck_MT := (⟨"ScratchLadder", "end", "(I)I"⟩, prog_1_method_9_code, 2, (some .int), 1)
def ck_m45 : ck_MT := (⟨"ScratchLadderModel", "end", "(I)I"⟩, prog_14_method_20_code, 2, (some .int), 1)
def ck_m46 : ck_MT := (⟨"ScratchLadder", "text", "()I"⟩, prog_1_method_10_code, 2, (some .int), 0)
def ck_m47 : ck_MT := (⟨"ScratchLadder$Reader", "read", "()LScratchLadder$Text;"⟩, prog_7_method_2_code, 2, (some (.object "ScratchLadder$Text")), 0)
def ck_m48 : ck_MT := (⟨"ScratchLadder$Reader", "advance", "()V"⟩, prog_7_method_4_code, 3, none, 0)
def ck_m49 : ck_MT := (⟨"ScratchLadder$Reader", "kindAt", "(I)I"⟩, prog_7_method_5_code, 3, (some .int), 1)
def ck_m50 : ck_MT := (⟨"ScratchLadder$Reader", "readClause", "()Z"⟩, prog_7_method_11_code, 4, (some .boolean), 0)
def ck_m51 : ck_MT := (⟨"ScratchLadder$Reader", "passWord", "(Ljava/lang/String;)Z"⟩, prog_7_method_7_code, 3, (some .boolean), 1)
def ck_m52 : ck_MT := (⟨"ScratchLadder$Reader", "isWord", "(Ljava/lang/String;)Z"⟩, prog_7_method_6_code, 3, (some .boolean), 1)
def ck_m53 : ck_MT := (⟨"ScratchLadder$Reader", "headKind", "()I"⟩, prog_7_method_12_code, 1, (some .int), 0)
def ck_m54 : ck_MT := (⟨"ScratchLadder$Reader", "placeReached", "()I"⟩, prog_7_method_3_code, 1, (some .int), 0)
def ck_m55 : ck_MT := (⟨"ScratchLadderModel", "text", "()I"⟩, prog_14_method_40_code, 3, (some .int), 0)
def ck_m56 : ck_MT := (⟨"ScratchLadderModel", "reads", "()Z"⟩, prog_14_method_39_code, 2, (some .boolean), 0)
def ck_m57 : ck_MT := (⟨"ScratchLadderModel", "splits", "(I)V"⟩, prog_14_method_24_code, 6, none, 1)
def ck_m58 : ck_MT := (⟨"ScratchLadderModel", "readClause", "()V"⟩, prog_14_method_32_code, 1, none, 0)
def ck_m59 : ck_MT := (⟨"ScratchLadderModel", "takes", "(I)Z"⟩, prog_14_method_27_code, 3, (some .boolean), 1)
def ck_m60 : ck_MT := (⟨"ScratchLadderModel", "fine", "()Z"⟩, prog_14_method_25_code, 1, (some .boolean), 0)
def ck_m61 : ck_MT := (⟨"ScratchLadderModel", "must", "(I)V"⟩, prog_14_method_28_code, 2, none, 1)
def ck_m62 : ck_MT := (⟨"ScratchLadderModel", "faults", "()V"⟩, prog_14_method_26_code, 1, none, 0)
def ck_m63 : ck_MT := (⟨"ScratchLadderModel", "sign", "(C)I"⟩, prog_14_method_30_code, 1, (some .int), 1)
def ck_m64 : ck_MT := (⟨"ScratchLadder", "fault", "()I"⟩, prog_1_method_11_code, 1, (some .int), 0)
def ck_m65 : ck_MT := (⟨"ScratchLadderModel", "fault", "()I"⟩, prog_14_method_41_code, 1, (some .int), 0)
def ck_m66 : ck_MT := (⟨"ScratchLadder", "law", "(I)I"⟩, prog_1_method_12_code, 3, (some .int), 1)
def ck_m67 : ck_MT := (⟨"ScratchLadderModel", "law", "(I)I"⟩, prog_14_method_42_code, 2, (some .int), 1)
def ck_m68 : ck_MT := (⟨"ScratchLadderModel", "isText", "(I)Z"⟩, prog_14_method_9_code, 2, (some .boolean), 1)
def ck_m69 : ck_MT := (⟨"ScratchLadder", "cuts", "(IIII)I"⟩, prog_1_method_13_code, 5, (some .int), 4)
def ck_m70 : ck_MT := (⟨"ScratchLadderModel", "cuts", "(IIII)I"⟩, prog_14_method_57_code, 5, (some .int), 4)
def ck_m71 : ck_MT := (⟨"ScratchLadder", "trial", "(IIIIII)I"⟩, prog_1_method_14_code, 8, (some .int), 6)
def ck_m72 : ck_MT := (⟨"ScratchLadderModel", "trial", "(IIIIII)I"⟩, prog_14_method_61_code, 11, (some .int), 6)
def ck_m73 : ck_MT := (⟨"ScratchLadderModel", "isSpot", "(II)Z"⟩, prog_14_method_56_code, 2, (some .boolean), 2)
def ck_m74 : ck_MT := (⟨"ScratchLadder", "row", "()I"⟩, prog_1_method_15_code, 3, (some .int), 0)
def ck_m75 : ck_MT := (⟨"ScratchLadderModel", "row", "()I"⟩, prog_14_method_62_code, 7, (some .int), 0)
def ck_m76 : ck_MT := (⟨"ScratchLadder", "of", "(II)I"⟩, prog_1_method_16_code, 3, (some .int), 2)
def ck_m77 : ck_MT := (⟨"ScratchLadder$Bench", "hasTrial", "(I)Z"⟩, prog_2_method_13_code, 2, (some .boolean), 1)
def ck_m78 : ck_MT := (⟨"ScratchLadderModel", "of", "(II)I"⟩, prog_14_method_63_code, 3, (some .int), 2)
def ck_m79 : ck_MT := (⟨"ScratchLadderModel", "isTrial", "(I)Z"⟩, prog_14_method_59_code, 2, (some .boolean), 1)
def ck_m80 : ck_MT := (⟨"ScratchLadder", "found", "(I)I"⟩, prog_1_method_17_code, 2, (some .int), 1)
def ck_m81 : ck_MT := (⟨"ScratchLadderModel", "found", "(I)I"⟩, prog_14_method_64_code, 2, (some .int), 1)
def ck_m82 : ck_MT := (⟨"ScratchLadder", "view", "(III)I"⟩, prog_1_method_18_code, 6, (some .int), 3)
def ck_m83 : ck_MT := (⟨"ScratchLadderModel", "view", "(III)I"⟩, prog_14_method_67_code, 6, (some .int), 3)
def ck_m84 : ck_MT := (⟨"ScratchLadder", "says", "(II)I"⟩, prog_1_method_19_code, 3, (some .int), 2)
def ck_m85 : ck_MT := (⟨"ScratchLadder", "areTwo", "(II)Z"⟩, prog_1_method_47_code, 3, (some .boolean), 2)
def ck_m86 : ck_MT := (⟨"ScratchLadderModel", "says", "(II)I"⟩, prog_14_method_70_code, 3, (some .int), 2)
def ck_m87 : ck_MT := (⟨"ScratchLadder", "over", "(II)I"⟩, prog_1_method_20_code, 3, (some .int), 2)
def ck_m88 : ck_MT := (⟨"ScratchLadderModel", "over", "(II)I"⟩, prog_14_method_71_code, 3, (some .int), 2)
def ck_m89 : ck_MT := (⟨"ScratchLadder", "orders", "()I"⟩, prog_1_method_21_code, 1, (some .int), 0)
def ck_m90 : ck_MT := (⟨"ScratchLadder$Ties", "look", "()V"⟩, prog_12_method_2_code, 2, none, 0)
def ck_m91 : ck_MT := (⟨"ScratchLadder$Ties", "close", "()V"⟩, prog_12_method_4_code, 3, none, 0)
def ck_m92 : ck_MT := (⟨"ScratchLadder$Orders", "fitting", "([I)I"⟩, prog_5_method_2_code, 4, (some .int), 1)
def ck_m93 : ck_MT := (⟨"java/util/Arrays", "fill", "([IIII)V"⟩, prog_22_method_104_code, 5, none, 4)
def ck_m94 : ck_MT := (⟨"java/util/Arrays", "rangeCheck", "(III)V"⟩, prog_22_method_30_code, 3, none, 3)
def ck_m95 : ck_MT := (⟨"ScratchLadderModel", "orders", "()I"⟩, prog_14_method_73_code, 1, (some .int), 0)
def ck_m96 : ck_MT := (⟨"ScratchLadderModel", "hears", "()V"⟩, prog_14_method_68_code, 3, none, 0)
def ck_m97 : ck_MT := (⟨"ScratchLadderModel", "ordersWith", "(II)I"⟩, prog_14_method_72_code, 8, (some .int), 2)
def ck_m98 : ck_MT := (⟨"ScratchLadder", "ahead", "(II)I"⟩, prog_1_method_22_code, 3, (some .int), 2)
def ck_m99 : ck_MT := (⟨"ScratchLadderModel", "ahead", "(II)I"⟩, prog_14_method_74_code, 3, (some .int), 2)
def ck_m100 : ck_MT := (⟨"ScratchLadder", "ring", "(I)I"⟩, prog_1_method_23_code, 2, (some .int), 1)
def ck_m101 : ck_MT := (⟨"ScratchLadderModel", "ring", "(I)I"⟩, prog_14_method_75_code, 7, (some .int), 1)
def ck_m102 : ck_MT := (⟨"ScratchLadder", "untried", "()I"⟩, prog_1_method_24_code, 3, (some .int), 0)
def ck_m103 : ck_MT := (⟨"ScratchLadderModel", "untried", "()I"⟩, prog_14_method_76_code, 6, (some .int), 0)
def ck_m104 : ck_MT := (⟨"ScratchLadder", "best", "()I"⟩, prog_1_method_25_code, 1, (some .int), 0)
def ck_m105 : ck_MT := (⟨"ScratchLadder$Orders", "findBest", "([I)I"⟩, prog_5_method_4_code, 4, (some .int), 1)
def ck_m106 : ck_MT := (⟨"ScratchLadder$Orders", "countHalves", "([I)V"⟩, prog_5_method_5_code, 7, none, 1)
def ck_m107 : ck_MT := (⟨"ScratchLadder$Orders", "keepBest", "(I)V"⟩, prog_5_method_8_code, 5, none, 1)
def ck_m108 : ck_MT := (⟨"ScratchLadderModel", "best", "()I"⟩, prog_14_method_78_code, 5, (some .int), 0)
def ck_m109 : ck_MT := (⟨"ScratchLadder", "place", "(I)I"⟩, prog_1_method_26_code, 2, (some .int), 1)
def ck_m110 : ck_MT := (⟨"ScratchLadderModel", "place", "(I)I"⟩, prog_14_method_79_code, 2, (some .int), 1)
def ck_m111 : ck_MT := (⟨"ScratchLadder", "drop", "(I)I"⟩, prog_1_method_27_code, 4, (some .int), 1)
def ck_m112 : ck_MT := (⟨"ScratchLadderModel", "drop", "(I)I"⟩, prog_14_method_82_code, 4, (some .int), 1)
def ck_m113 : ck_MT := (⟨"ScratchLadder", "span", "(II)I"⟩, prog_1_method_28_code, 3, (some .int), 2)
def ck_m114 : ck_MT := (⟨"ScratchLadderModel", "span", "(II)I"⟩, prog_14_method_85_code, 3, (some .int), 2)
def ck_m115 : ck_MT := (⟨"ScratchLadder", "settle", "(I)I"⟩, prog_1_method_29_code, 2, (some .int), 1)
def ck_m116 : ck_MT := (⟨"ScratchLadderModel", "settle", "(I)I"⟩, prog_14_method_87_code, 6, (some .int), 1)
def ck_m117 : ck_MT := (⟨"ScratchLadder", "fewest", "(II)I"⟩, prog_1_method_30_code, 4, (some .int), 2)
def ck_m118 : ck_MT := (⟨"java/lang/Integer", "bitCount", "(I)I"⟩, prog_16_method_49_code, 1, (some .int), 1)
def ck_m119 : ck_MT := (⟨"ScratchLadderModel", "fewest", "(II)I"⟩, prog_14_method_97_code, 8, (some .int), 2)
def ck_m120 : ck_MT := (⟨"ScratchLadderModel", "ones", "(I)I"⟩, prog_14_method_96_code, 3, (some .int), 1)
def ck_m121 : ck_MT := (⟨"ScratchLadder", "choice", "(II)I"⟩, prog_1_method_31_code, 4, (some .int), 2)
def ck_m122 : ck_MT := (⟨"ScratchLadderModel", "choice", "(II)I"⟩, prog_14_method_101_code, 7, (some .int), 2)
def ck_m123 : ck_MT := (⟨"ScratchLadderModel", "isBestThere", "()Z"⟩, prog_14_method_98_code, 2, (some .boolean), 0)
def ck_m124 : ck_MT := (⟨"ScratchLadder", "dents", "(II)I"⟩, prog_1_method_32_code, 3, (some .int), 2)
def ck_m125 : ck_MT := (⟨"ScratchLadderModel", "dents", "(II)I"⟩, prog_14_method_106_code, 3, (some .int), 2)
def ck_m126 : ck_MT := (⟨"ScratchLadderModel", "dentsOf", "(I)V"⟩, prog_14_method_102_code, 3, none, 1)
def ck_m127 : ck_MT := (⟨"ScratchLadderModel", "standing", "(I)I"⟩, prog_14_method_105_code, 5, (some .int), 1)
def ck_m128 : ck_MT := (⟨"ScratchLadder", "grooves", "(I)I"⟩, prog_1_method_33_code, 2, (some .int), 1)
def ck_m129 : ck_MT := (⟨"ScratchLadderModel", "grooves", "(I)I"⟩, prog_14_method_107_code, 2, (some .int), 1)
def ck_m130 : ck_MT := (⟨"ScratchLadderModel", "groovesOf", "()V"⟩, prog_14_method_103_code, 5, none, 0)
def ck_m131 : ck_MT := (⟨"ScratchLadder", "otherwise", "(I)I"⟩, prog_1_method_34_code, 2, (some .int), 1)
def ck_m132 : ck_MT := (⟨"ScratchLadder$Lineup", "byDents", "(I)V"⟩, prog_3_method_2_code, 3, none, 1)
def ck_m133 : ck_MT := (⟨"ScratchLadder$Lineup", "sort", "()V"⟩, prog_3_method_4_code, 3, none, 0)
def ck_m134 : ck_MT := (⟨"ScratchLadder$Lineup", "pairsOtherwise", "(LScratchLadder$Orders;)I"⟩, prog_3_method_5_code, 5, (some .int), 1)
def ck_m135 : ck_MT := (⟨"ScratchLadder$Lineup", "byGrooves", "()V"⟩, prog_3_method_3_code, 3, none, 0)
def ck_m136 : ck_MT := (⟨"ScratchLadderModel", "otherwise", "(I)I"⟩, prog_14_method_108_code, 5, (some .int), 1)
def ck_m137 : ck_MT := (⟨"ScratchLadder", "shapes", "(II)I"⟩, prog_1_method_35_code, 5, (some .int), 2)
def ck_m138 : ck_MT := (⟨"ScratchLadderModel", "shapes", "(II)I"⟩, prog_14_method_109_code, 8, (some .int), 2)
def ck_m139 : ck_MT := (⟨"ScratchLadder", "slips", "(II)I"⟩, prog_1_method_36_code, 5, (some .int), 2)
def ck_m140 : ck_MT := (⟨"ScratchLadderModel", "slips", "(II)I"⟩, prog_14_method_110_code, 5, (some .int), 2)
def ck_m141 : ck_MT := (⟨"ScratchLadder", "glass", "(III)I"⟩, prog_1_method_37_code, 8, (some .int), 3)
def ck_m142 : ck_MT := (⟨"ScratchLadderModel", "glass", "(III)I"⟩, prog_14_method_112_code, 8, (some .int), 3)
def ck_m143 : ck_MT := (⟨"ScratchLadder", "called", "(I)I"⟩, prog_1_method_38_code, 2, (some .int), 1)
def ck_m144 : ck_MT := (⟨"ScratchLadderModel", "called", "(I)I"⟩, prog_14_method_116_code, 9, (some .int), 1)
def ck_m145 : ck_MT := (⟨"ScratchLadder", "lose", "()I"⟩, prog_1_method_39_code, 3, (some .int), 0)
def ck_m146 : ck_MT := (⟨"ScratchLadderModel", "lose", "()I"⟩, prog_14_method_117_code, 3, (some .int), 0)
def ck_m147 : ck_MT := (⟨"ScratchLadder", "image", "(I)I"⟩, prog_1_method_40_code, 2, (some .int), 1)
def ck_m148 : ck_MT := (⟨"ScratchLadder$Bench", "copyFrom", "(LScratchLadder$Bench;)V"⟩, prog_2_method_2_code, 3, none, 1)
def ck_m149 : ck_MT := (⟨"ScratchLadder$Bench", "copyRow", "([I[I)V"⟩, prog_2_method_3_code, 2, none, 2)
def ck_m150 : ck_MT := (⟨"ScratchLadderModel", "image", "(I)I"⟩, prog_14_method_5_code, 3, (some .int), 1)
def ck_m151 : ck_MT := (⟨"ScratchLadder", "back", "(I)I"⟩, prog_1_method_41_code, 2, (some .int), 1)
def ck_m152 : ck_MT := (⟨"ScratchLadderModel", "back", "(I)I"⟩, prog_14_method_6_code, 3, (some .int), 1)
def ck_m153 : ck_MT := (⟨"ScratchLadder", "count", "(I)I"⟩, prog_1_method_42_code, 2, (some .int), 1)
def ck_m154 : ck_MT := (⟨"ScratchLadder$Bench", "usesLeft", "()I"⟩, prog_2_method_7_code, 3, (some .int), 0)
def ck_m155 : ck_MT := (⟨"ScratchLadderModel", "count", "(I)I"⟩, prog_14_method_118_code, 4, (some .int), 1)
def ck_m156 : ck_MT := (⟨"ScratchLadder", "status", "()I"⟩, prog_1_method_43_code, 1, (some .int), 0)
def ck_m157 : ck_MT := (⟨"ScratchLadderModel", "status", "()I"⟩, prog_14_method_119_code, 1, (some .int), 0)
def ck_mts : List ck_MT := [ck_m0, ck_m1, ck_m2, ck_m3, ck_m4, ck_m5, ck_m6, ck_m7, ck_m8, ck_m9, ck_m10, ck_m11, ck_m12, ck_m13, ck_m14, ck_m15, ck_m16, ck_m17, ck_m18, ck_m19, ck_m20, ck_m21, ck_m22, ck_m23, ck_m24, ck_m25, ck_m26, ck_m27, ck_m28, ck_m29, ck_m30, ck_m31, ck_m32, ck_m33, ck_m34, ck_m35, ck_m36, ck_m37, ck_m38, ck_m39, ck_m40, ck_m41, ck_m42, ck_m43, ck_m44, ck_m45, ck_m46, ck_m47, ck_m48, ck_m49, ck_m50, ck_m51, ck_m52, ck_m53, ck_m54, ck_m55, ck_m56, ck_m57, ck_m58, ck_m59, ck_m60, ck_m61, ck_m62, ck_m63, ck_m64, ck_m65, ck_m66, ck_m67, ck_m68, ck_m69, ck_m70, ck_m71, ck_m72, ck_m73, ck_m74, ck_m75, ck_m76, ck_m77, ck_m78, ck_m79, ck_m80, ck_m81, ck_m82, ck_m83, ck_m84, ck_m85, ck_m86, ck_m87, ck_m88, ck_m89, ck_m90, ck_m91, ck_m92, ck_m93, ck_m94, ck_m95, ck_m96, ck_m97, ck_m98, ck_m99, ck_m100, ck_m101, ck_m102, ck_m103, ck_m104, ck_m105, ck_m106, ck_m107, ck_m108, ck_m109, ck_m110, ck_m111, ck_m112, ck_m113, ck_m114, ck_m115, ck_m116, ck_m117, ck_m118, ck_m119, ck_m120, ck_m121, ck_m122, ck_m123, ck_m124, ck_m125, ck_m126, ck_m127, ck_m128, ck_m129, ck_m130, ck_m131, ck_m132, ck_m133, ck_m134, ck_m135, ck_m136, ck_m137, ck_m138, ck_m139, ck_m140, ck_m141, ck_m142, ck_m143, ck_m144, ck_m145, ck_m146, ck_m147, ck_m148, ck_m149, ck_m150, ck_m151, ck_m152, ck_m153, ck_m154, ck_m155, ck_m156, ck_m157]
def ck_NM : List (String × Nat × MethodName × String) := [("ScratchLadder", 11, ⟨"ScratchLadder$Bench", "<init>", "()V"⟩, "ScratchLadder"), ("ScratchLadder", 26, ⟨"ScratchLadder$Tape", "<init>", "()V"⟩, "ScratchLadder"), ("ScratchLadder", 83, ⟨"ScratchLadder$Sorter", "<init>", "()V"⟩, "ScratchLadder"), ("ScratchLadder$Bench", 92, ⟨"ScratchLadder", "within", "(III)Z"⟩, "ScratchLadder")]
def ck_AO : List String := ["ScratchLadder$Bench", "ScratchLadder$Text"]
def ck_SL : List (String × Nat × Nat) := [("ScratchLadder$Reader", 104, 0), ("ScratchLadder$Reader", 127, 1), ("ScratchLadder$Reader", 129, 2), ("ScratchLadder$Reader", 131, 3), ("ScratchLadder$Reader", 133, 4)]
def ck_sh : List ck_Sh := [.inl (11, 15), .inl (0, 19), .inr (.int, 12), .inr (.int, 12), .inr (.int, 12), .inr (.int, 12), .inr (.int, 144), .inr (.int, 12), .inr (.int, 4), .inr (.int, 4), .inr ((.object "ScratchLadder$Text"), 10), .inl (9, 2), .inr (.int, 0), .inr (.int, 0), .inr (.int, 1080), .inr ((.object "ScratchLadder$Bench"), 2), .inl (0, 19), .inr (.int, 12), .inr (.int, 12), .inr (.int, 12), .inr (.int, 12), .inr (.int, 144), .inr (.int, 12), .inr (.int, 4), .inr (.int, 4), .inr ((.object "ScratchLadder$Text"), 10), .inl (9, 2), .inr (.int, 0), .inr (.int, 0), .inr (.int, 1080), .inl (0, 19), .inr (.int, 12), .inr (.int, 12), .inr (.int, 12), .inr (.int, 12), .inr (.int, 144), .inr (.int, 12), .inr (.int, 4), .inr (.int, 4), .inr ((.object "ScratchLadder$Text"), 10), .inl (9, 2), .inr (.int, 0), .inr (.int, 0), .inr (.int, 1080), .inr (.boolean, 2), .inl (8, 2), .inr (.int, 400), .inl (5, 11), .inr (.int, 48), .inr (.int, 800), .inl (4, 3), .inr (.long, 51), .inr (.int, 8), .inl (10, 6), .inr (.int, 144), .inr (.int, 12), .inr (.int, 12), .inr (.int, 12), .inr (.int, 12), .inl (3, 7), .inr (.int, 4096), .inr (.int, 768), .inr (.int, 768), .inr (.int, 12), .inr (.int, 12), .inl (1, 6), .inr (.int, 12), .inr (.int, 12), .inr (.int, 12), .inr (.int, 12), .inl (6, 2), .inl (7, 5), .inr (.int, 5), .inr (.int, 32), .inl (2, 3), .inr (.int, 256), .inr (.int, 9), .inl (12, 41), .inr (.int, 9310), .inr (.int, 18620), .inr (.boolean, 2), .inr (.byte, 86), .inr (.byte, 400), .inr (.int, 5), .inr (.int, 401), .inr (.int, 401), .inr (.int, 401), .inr (.int, 8), .inr (.int, 144), .inr (.int, 12), .inr (.int, 4096), .inr (.int, 4096), .inr (.int, 12), .inr (.int, 12), .inr (.int, 12), .inr (.byte, 59808), .inr (.boolean, 6), .inr (.int, 25), .inr (.int, 12), .inr (.int, 12), .inr (.int, 8)]
def ck_ats : List FieldType := [.byte, .int, .long, .boolean]
theorem ck_okAt : ∀ t ∈ ck_ats, Cond.arrayClass t ∈ ck_TS := (ck_cons (ck_mem 783 (by decide +kernel) (by decide +kernel)) (ck_cons (ck_mem 173 (by decide +kernel) (by decide +kernel)) (ck_cons (ck_mem 332 (by decide +kernel) (by decide +kernel)) (ck_cons (ck_mem 275 (by decide +kernel) (by decide +kernel)) ck_nil))))
def ck_tr : List (Nat × List Nat) := [(15, [0, 1]), (60, [0]), (78, [192, 193, 194, 195, 196, 197, 198, 199, 200, 201, 202, 203, 1292, 1293, 1294]), (90, [0]), (91, [0])]
end
section
/-! THE LINKS OF THE CLASSES: pool numbers, and that the tables say them -/
set_option maxRecDepth 100000 in
theorem ck_mw1 : Cond.code ck_m1.1 ck_m1.2.1 ck_m1.2.2.1 ck_m1.2.2.2.1 ∈ ck_TS ∧ Cond.initialized ck_m1.1.cls ∈ ck_TS ∧ (ck_m1.1.cls ≠ "java/lang/invoke/MethodHandle" ∧ ck_m1.1.cls ≠ "java/lang/invoke/VarHandle") ∧ (parseMethodDescriptor ck_m1.1.desc).map (fun d => d.parameters.length) = some ck_m1.2.2.2.2 := ⟨ck_mem 148 rfl (by decide +kernel), (ck_mem 123 (by decide +kernel) (by decide +kernel)), by decide +kernel, by decide +kernel⟩
theorem ck_mi1 : Cond.instanceMethod ck_m1.1 ∈ ck_TS ∧ ck_m1.1.name = "<init>" ∧ ck_m1.2.2.2.1 = none := ⟨(ck_mem 147 (by decide +kernel) (by decide +kernel)), rfl, rfl⟩
set_option maxRecDepth 100000 in
theorem ck_mw2 : Cond.code ck_m2.1 ck_m2.2.1 ck_m2.2.2.1 ck_m2.2.2.2.1 ∈ ck_TS ∧ Cond.initialized ck_m2.1.cls ∈ ck_TS ∧ (ck_m2.1.cls ≠ "java/lang/invoke/MethodHandle" ∧ ck_m2.1.cls ≠ "java/lang/invoke/VarHandle") ∧ (parseMethodDescriptor ck_m2.1.desc).map (fun d => d.parameters.length) = some ck_m2.2.2.2.2 := ⟨ck_mem 156 rfl (by decide +kernel), (ck_mem 124 (by decide +kernel) (by decide +kernel)), by decide +kernel, by decide +kernel⟩
theorem ck_mi2 : Cond.instanceMethod ck_m2.1 ∈ ck_TS ∧ ck_m2.1.name = "<init>" ∧ ck_m2.2.2.2.1 = none := ⟨(ck_mem 155 (by decide +kernel) (by decide +kernel)), rfl, rfl⟩
set_option maxRecDepth 100000 in
theorem ck_mw3 : Cond.code ck_m3.1 ck_m3.2.1 ck_m3.2.2.1 ck_m3.2.2.2.1 ∈ ck_TS ∧ Cond.initialized ck_m3.1.cls ∈ ck_TS ∧ (ck_m3.1.cls ≠ "java/lang/invoke/MethodHandle" ∧ ck_m3.1.cls ≠ "java/lang/invoke/VarHandle") ∧ (parseMethodDescriptor ck_m3.1.desc).map (fun d => d.parameters.length) = some ck_m3.2.2.2.2 := ⟨ck_mem 163 rfl (by decide +kernel), (ck_mem 125 (by decide +kernel) (by decide +kernel)), by decide +kernel, by decide +kernel⟩
theorem ck_mi3 : Cond.instanceMethod ck_m3.1 ∈ ck_TS ∧ ck_m3.1.name = "<init>" ∧ ck_m3.2.2.2.1 = none := ⟨(ck_mem 162 (by decide +kernel) (by decide +kernel)), rfl, rfl⟩
set_option maxRecDepth 100000 in
theorem ck_mw4 : Cond.code ck_m4.1 ck_m4.2.1 ck_m4.2.2.1 ck_m4.2.2.2.1 ∈ ck_TS ∧ Cond.initialized ck_m4.1.cls ∈ ck_TS ∧ (ck_m4.1.cls ≠ "java/lang/invoke/MethodHandle" ∧ ck_m4.1.cls ≠ "java/lang/invoke/VarHandle") ∧ (parseMethodDescriptor ck_m4.1.desc).map (fun d => d.parameters.length) = some ck_m4.2.2.2.2 := ⟨ck_mem 262 rfl (by decide +kernel), (ck_mem 126 (by decide +kernel) (by decide +kernel)), by decide +kernel, by decide +kernel⟩
theorem ck_mi4 : Cond.instanceMethod ck_m4.1 ∈ ck_TS ∧ ck_m4.1.name = "<init>" ∧ ck_m4.2.2.2.1 = none := ⟨(ck_mem 261 (by decide +kernel) (by decide +kernel)), rfl, rfl⟩
set_option maxRecDepth 100000 in
theorem ck_mw5 : Cond.code ck_m5.1 ck_m5.2.1 ck_m5.2.2.1 ck_m5.2.2.2.1 ∈ ck_TS ∧ Cond.initialized ck_m5.1.cls ∈ ck_TS ∧ (ck_m5.1.cls ≠ "java/lang/invoke/MethodHandle" ∧ ck_m5.1.cls ≠ "java/lang/invoke/VarHandle") ∧ (parseMethodDescriptor ck_m5.1.desc).map (fun d => d.parameters.length) = some ck_m5.2.2.2.2 := ⟨ck_mem 280 rfl (by decide +kernel), (ck_mem 127 (by decide +kernel) (by decide +kernel)), by decide +kernel, by decide +kernel⟩
theorem ck_mi5 : Cond.instanceMethod ck_m5.1 ∈ ck_TS ∧ ck_m5.1.name = "<init>" ∧ ck_m5.2.2.2.1 = none := ⟨(ck_mem 279 (by decide +kernel) (by decide +kernel)), rfl, rfl⟩
set_option maxRecDepth 100000 in
theorem ck_mw6 : Cond.code ck_m6.1 ck_m6.2.1 ck_m6.2.2.1 ck_m6.2.2.2.1 ∈ ck_TS ∧ Cond.initialized ck_m6.1.cls ∈ ck_TS ∧ (ck_m6.1.cls ≠ "java/lang/invoke/MethodHandle" ∧ ck_m6.1.cls ≠ "java/lang/invoke/VarHandle") ∧ (parseMethodDescriptor ck_m6.1.desc).map (fun d => d.parameters.length) = some ck_m6.2.2.2.2 := ⟨ck_mem 320 rfl (by decide +kernel), (ck_mem 128 (by decide +kernel) (by decide +kernel)), by decide +kernel, by decide +kernel⟩
theorem ck_mi6 : Cond.instanceMethod ck_m6.1 ∈ ck_TS ∧ ck_m6.1.name = "<init>" ∧ ck_m6.2.2.2.1 = none := ⟨(ck_mem 319 (by decide +kernel) (by decide +kernel)), rfl, rfl⟩
set_option maxRecDepth 100000 in
theorem ck_mw7 : Cond.code ck_m7.1 ck_m7.2.1 ck_m7.2.2.1 ck_m7.2.2.2.1 ∈ ck_TS ∧ Cond.initialized ck_m7.1.cls ∈ ck_TS ∧ (ck_m7.1.cls ≠ "java/lang/invoke/MethodHandle" ∧ ck_m7.1.cls ≠ "java/lang/invoke/VarHandle") ∧ (parseMethodDescriptor ck_m7.1.desc).map (fun d => d.parameters.length) = some ck_m7.2.2.2.2 := ⟨ck_mem 337 rfl (by decide +kernel), (ck_mem 129 (by decide +kernel) (by decide +kernel)), by decide +kernel, by decide +kernel⟩
theorem ck_mi7 : Cond.instanceMethod ck_m7.1 ∈ ck_TS ∧ ck_m7.1.name = "<init>" ∧ ck_m7.2.2.2.1 = none := ⟨(ck_mem 336 (by decide +kernel) (by decide +kernel)), rfl, rfl⟩
set_option maxRecDepth 100000 in
theorem ck_mw8 : Cond.code ck_m8.1 ck_m8.2.1 ck_m8.2.2.1 ck_m8.2.2.2.1 ∈ ck_TS ∧ Cond.initialized ck_m8.1.cls ∈ ck_TS ∧ (ck_m8.1.cls ≠ "java/lang/invoke/MethodHandle" ∧ ck_m8.1.cls ≠ "java/lang/invoke/VarHandle") ∧ (parseMethodDescriptor ck_m8.1.desc).map (fun d => d.parameters.length) = some ck_m8.2.2.2.2 := ⟨ck_mem 366 rfl (by decide +kernel), (ck_mem 130 (by decide +kernel) (by decide +kernel)), by decide +kernel, by decide +kernel⟩
theorem ck_mi8 : Cond.instanceMethod ck_m8.1 ∈ ck_TS ∧ ck_m8.1.name = "<init>" ∧ ck_m8.2.2.2.1 = none := ⟨(ck_mem 365 (by decide +kernel) (by decide +kernel)), rfl, rfl⟩
set_option maxRecDepth 100000 in
theorem ck_mw9 : Cond.code ck_m9.1 ck_m9.2.1 ck_m9.2.2.1 ck_m9.2.2.2.1 ∈ ck_TS ∧ Cond.initialized ck_m9.1.cls ∈ ck_TS ∧ (ck_m9.1.cls ≠ "java/lang/invoke/MethodHandle" ∧ ck_m9.1.cls ≠ "java/lang/invoke/VarHandle") ∧ (parseMethodDescriptor ck_m9.1.desc).map (fun d => d.parameters.length) = some ck_m9.2.2.2.2 := ⟨ck_mem 370 rfl (by decide +kernel), (ck_mem 131 (by decide +kernel) (by decide +kernel)), by decide +kernel, by decide +kernel⟩
theorem ck_mst9 : Cond.static ck_m9.1 ∈ ck_TS := (ck_mem 369 (by decide +kernel) (by decide +kernel))
set_option maxRecDepth 100000 in
theorem ck_mw10 : Cond.code ck_m10.1 ck_m10.2.1 ck_m10.2.2.1 ck_m10.2.2.2.1 ∈ ck_TS ∧ Cond.initialized ck_m10.1.cls ∈ ck_TS ∧ (ck_m10.1.cls ≠ "java/lang/invoke/MethodHandle" ∧ ck_m10.1.cls ≠ "java/lang/invoke/VarHandle") ∧ (parseMethodDescriptor ck_m10.1.desc).map (fun d => d.parameters.length) = some ck_m10.2.2.2.2 := ⟨ck_mem 399 rfl (by decide +kernel), (ck_mem 132 (by decide +kernel) (by decide +kernel)), by decide +kernel, by decide +kernel⟩
theorem ck_mi10 : Cond.instanceMethod ck_m10.1 ∈ ck_TS ∧ ck_m10.1.name = "<init>" ∧ ck_m10.2.2.2.1 = none := ⟨(ck_mem 398 (by decide +kernel) (by decide +kernel)), rfl, rfl⟩
set_option maxRecDepth 100000 in
theorem ck_mw11 : Cond.code ck_m11.1 ck_m11.2.1 ck_m11.2.2.1 ck_m11.2.2.2.1 ∈ ck_TS ∧ Cond.initialized ck_m11.1.cls ∈ ck_TS ∧ (ck_m11.1.cls ≠ "java/lang/invoke/MethodHandle" ∧ ck_m11.1.cls ≠ "java/lang/invoke/VarHandle") ∧ (parseMethodDescriptor ck_m11.1.desc).map (fun d => d.parameters.length) = some ck_m11.2.2.2.2 := ⟨ck_mem 425 rfl (by decide +kernel), (ck_mem 133 (by decide +kernel) (by decide +kernel)), by decide +kernel, by decide +kernel⟩
theorem ck_mi11 : Cond.instanceMethod ck_m11.1 ∈ ck_TS ∧ ck_m11.1.name = "<init>" ∧ ck_m11.2.2.2.1 = none := ⟨(ck_mem 424 (by decide +kernel) (by decide +kernel)), rfl, rfl⟩
set_option maxRecDepth 100000 in
theorem ck_mw12 : Cond.code ck_m12.1 ck_m12.2.1 ck_m12.2.2.1 ck_m12.2.2.2.1 ∈ ck_TS ∧ Cond.initialized ck_m12.1.cls ∈ ck_TS ∧ (ck_m12.1.cls ≠ "java/lang/invoke/MethodHandle" ∧ ck_m12.1.cls ≠ "java/lang/invoke/VarHandle") ∧ (parseMethodDescriptor ck_m12.1.desc).map (fun d => d.parameters.length) = some ck_m12.2.2.2.2 := ⟨ck_mem 438 rfl (by decide +kernel), (ck_mem 134 (by decide +kernel) (by decide +kernel)), by decide +kernel, by decide +kernel⟩
theorem ck_mi12 : Cond.instanceMethod ck_m12.1 ∈ ck_TS ∧ ck_m12.1.name = "<init>" ∧ ck_m12.2.2.2.1 = none := ⟨(ck_mem 437 (by decide +kernel) (by decide +kernel)), rfl, rfl⟩
set_option maxRecDepth 100000 in
theorem ck_mw13 : Cond.code ck_m13.1 ck_m13.2.1 ck_m13.2.2.1 ck_m13.2.2.2.1 ∈ ck_TS ∧ Cond.initialized ck_m13.1.cls ∈ ck_TS ∧ (ck_m13.1.cls ≠ "java/lang/invoke/MethodHandle" ∧ ck_m13.1.cls ≠ "java/lang/invoke/VarHandle") ∧ (parseMethodDescriptor ck_m13.1.desc).map (fun d => d.parameters.length) = some ck_m13.2.2.2.2 := ⟨ck_mem 460 rfl (by decide +kernel), (ck_mem 135 (by decide +kernel) (by decide +kernel)), by decide +kernel, by decide +kernel⟩
theorem ck_mi13 : Cond.instanceMethod ck_m13.1 ∈ ck_TS ∧ ck_m13.1.name = "<init>" ∧ ck_m13.2.2.2.1 = none := ⟨(ck_mem 459 (by decide +kernel) (by decide +kernel)), rfl, rfl⟩
set_option maxRecDepth 100000 in
theorem ck_mw14 : Cond.code ck_m14.1 ck_m14.2.1 ck_m14.2.2.1 ck_m14.2.2.2.1 ∈ ck_TS ∧ Cond.initialized ck_m14.1.cls ∈ ck_TS ∧ (ck_m14.1.cls ≠ "java/lang/invoke/MethodHandle" ∧ ck_m14.1.cls ≠ "java/lang/invoke/VarHandle") ∧ (parseMethodDescriptor ck_m14.1.desc).map (fun d => d.parameters.length) = some ck_m14.2.2.2.2 := ⟨ck_mem 1297 rfl (by decide +kernel), (ck_mem 136 (by decide +kernel) (by decide +kernel)), by decide +kernel, by decide +kernel⟩
theorem ck_mi14 : Cond.instanceMethod ck_m14.1 ∈ ck_TS ∧ ck_m14.1.name = "<init>" ∧ ck_m14.2.2.2.1 = none := ⟨(ck_mem 1296 (by decide +kernel) (by decide +kernel)), rfl, rfl⟩
set_option maxRecDepth 100000 in
theorem ck_mw15 : Cond.code ck_m15.1 ck_m15.2.1 ck_m15.2.2.1 ck_m15.2.2.2.1 ∈ ck_TS ∧ Cond.initialized ck_m15.1.cls ∈ ck_TS ∧ (ck_m15.1.cls ≠ "java/lang/invoke/MethodHandle" ∧ ck_m15.1.cls ≠ "java/lang/invoke/VarHandle") ∧ (parseMethodDescriptor ck_m15.1.desc).map (fun d => d.parameters.length) = some ck_m15.2.2.2.2 := ⟨ck_mem 521 rfl (by decide +kernel), (ck_mem 123 (by decide +kernel) (by decide +kernel)), by decide +kernel, by decide +kernel⟩
theorem ck_mv15 : Cond.instanceMethod ck_m15.1 ∈ ck_TS ∧ Cond.selects ck_m15.1.cls ck_m15.1 ck_m15.1 ∈ ck_TS := ⟨(ck_mem 519 (by decide +kernel) (by decide +kernel)), (ck_mem 520 (by decide +kernel) (by decide +kernel))⟩
set_option maxRecDepth 100000 in
theorem ck_mw16 : Cond.code ck_m16.1 ck_m16.2.1 ck_m16.2.2.1 ck_m16.2.2.2.1 ∈ ck_TS ∧ Cond.initialized ck_m16.1.cls ∈ ck_TS ∧ (ck_m16.1.cls ≠ "java/lang/invoke/MethodHandle" ∧ ck_m16.1.cls ≠ "java/lang/invoke/VarHandle") ∧ (parseMethodDescriptor ck_m16.1.desc).map (fun d => d.parameters.length) = some ck_m16.2.2.2.2 := ⟨ck_mem 524 rfl (by decide +kernel), (ck_mem 123 (by decide +kernel) (by decide +kernel)), by decide +kernel, by decide +kernel⟩
theorem ck_mst16 : Cond.static ck_m16.1 ∈ ck_TS := (ck_mem 523 (by decide +kernel) (by decide +kernel))
set_option maxRecDepth 100000 in
theorem ck_mw17 : Cond.code ck_m17.1 ck_m17.2.1 ck_m17.2.2.1 ck_m17.2.2.2.1 ∈ ck_TS ∧ Cond.initialized ck_m17.1.cls ∈ ck_TS ∧ (ck_m17.1.cls ≠ "java/lang/invoke/MethodHandle" ∧ ck_m17.1.cls ≠ "java/lang/invoke/VarHandle") ∧ (parseMethodDescriptor ck_m17.1.desc).map (fun d => d.parameters.length) = some ck_m17.2.2.2.2 := ⟨ck_mem 528 rfl (by decide +kernel), (ck_mem 123 (by decide +kernel) (by decide +kernel)), by decide +kernel, by decide +kernel⟩
theorem ck_mv17 : Cond.instanceMethod ck_m17.1 ∈ ck_TS ∧ Cond.selects ck_m17.1.cls ck_m17.1 ck_m17.1 ∈ ck_TS := ⟨(ck_mem 527 (by decide +kernel) (by decide +kernel)), (ck_mem 0 (by decide +kernel) (by decide +kernel))⟩
set_option maxRecDepth 100000 in
theorem ck_mw18 : Cond.code ck_m18.1 ck_m18.2.1 ck_m18.2.2.1 ck_m18.2.2.2.1 ∈ ck_TS ∧ Cond.initialized ck_m18.1.cls ∈ ck_TS ∧ (ck_m18.1.cls ≠ "java/lang/invoke/MethodHandle" ∧ ck_m18.1.cls ≠ "java/lang/invoke/VarHandle") ∧ (parseMethodDescriptor ck_m18.1.desc).map (fun d => d.parameters.length) = some ck_m18.2.2.2.2 := ⟨ck_mem 532 rfl (by decide +kernel), (ck_mem 124 (by decide +kernel) (by decide +kernel)), by decide +kernel, by decide +kernel⟩
theorem ck_mv18 : Cond.instanceMethod ck_m18.1 ∈ ck_TS ∧ Cond.selects ck_m18.1.cls ck_m18.1 ck_m18.1 ∈ ck_TS := ⟨(ck_mem 530 (by decide +kernel) (by decide +kernel)), (ck_mem 531 (by decide +kernel) (by decide +kernel))⟩
set_option maxRecDepth 100000 in
theorem ck_mw19 : Cond.code ck_m19.1 ck_m19.2.1 ck_m19.2.2.1 ck_m19.2.2.2.1 ∈ ck_TS ∧ Cond.initialized ck_m19.1.cls ∈ ck_TS ∧ (ck_m19.1.cls ≠ "java/lang/invoke/MethodHandle" ∧ ck_m19.1.cls ≠ "java/lang/invoke/VarHandle") ∧ (parseMethodDescriptor ck_m19.1.desc).map (fun d => d.parameters.length) = some ck_m19.2.2.2.2 := ⟨ck_mem 536 rfl (by decide +kernel), (ck_mem 123 (by decide +kernel) (by decide +kernel)), by decide +kernel, by decide +kernel⟩
theorem ck_mv19 : Cond.instanceMethod ck_m19.1 ∈ ck_TS ∧ Cond.selects ck_m19.1.cls ck_m19.1 ck_m19.1 ∈ ck_TS := ⟨(ck_mem 535 (by decide +kernel) (by decide +kernel)), (ck_mem 1 (by decide +kernel) (by decide +kernel))⟩
set_option maxRecDepth 100000 in
theorem ck_mw20 : Cond.code ck_m20.1 ck_m20.2.1 ck_m20.2.2.1 ck_m20.2.2.2.1 ∈ ck_TS ∧ Cond.initialized ck_m20.1.cls ∈ ck_TS ∧ (ck_m20.1.cls ≠ "java/lang/invoke/MethodHandle" ∧ ck_m20.1.cls ≠ "java/lang/invoke/VarHandle") ∧ (parseMethodDescriptor ck_m20.1.desc).map (fun d => d.parameters.length) = some ck_m20.2.2.2.2 := ⟨ck_mem 1446 rfl (by decide +kernel), (ck_mem 136 (by decide +kernel) (by decide +kernel)), by decide +kernel, by decide +kernel⟩
theorem ck_mv20 : Cond.instanceMethod ck_m20.1 ∈ ck_TS ∧ Cond.selects ck_m20.1.cls ck_m20.1 ck_m20.1 ∈ ck_TS := ⟨(ck_mem 1444 (by decide +kernel) (by decide +kernel)), (ck_mem 1445 (by decide +kernel) (by decide +kernel))⟩
set_option maxRecDepth 100000 in
theorem ck_mw21 : Cond.code ck_m21.1 ck_m21.2.1 ck_m21.2.2.1 ck_m21.2.2.2.1 ∈ ck_TS ∧ Cond.initialized ck_m21.1.cls ∈ ck_TS ∧ (ck_m21.1.cls ≠ "java/lang/invoke/MethodHandle" ∧ ck_m21.1.cls ≠ "java/lang/invoke/VarHandle") ∧ (parseMethodDescriptor ck_m21.1.desc).map (fun d => d.parameters.length) = some ck_m21.2.2.2.2 := ⟨ck_mem 1430 rfl (by decide +kernel), (ck_mem 136 (by decide +kernel) (by decide +kernel)), by decide +kernel, by decide +kernel⟩
theorem ck_mst21 : Cond.static ck_m21.1 ∈ ck_TS := (ck_mem 1429 (by decide +kernel) (by decide +kernel))
set_option maxRecDepth 100000 in
theorem ck_mw22 : Cond.code ck_m22.1 ck_m22.2.1 ck_m22.2.2.1 ck_m22.2.2.2.1 ∈ ck_TS ∧ Cond.initialized ck_m22.1.cls ∈ ck_TS ∧ (ck_m22.1.cls ≠ "java/lang/invoke/MethodHandle" ∧ ck_m22.1.cls ≠ "java/lang/invoke/VarHandle") ∧ (parseMethodDescriptor ck_m22.1.desc).map (fun d => d.parameters.length) = some ck_m22.2.2.2.2 := ⟨ck_mem 1434 rfl (by decide +kernel), (ck_mem 136 (by decide +kernel) (by decide +kernel)), by decide +kernel, by decide +kernel⟩
theorem ck_mv22 : Cond.instanceMethod ck_m22.1 ∈ ck_TS ∧ Cond.selects ck_m22.1.cls ck_m22.1 ck_m22.1 ∈ ck_TS := ⟨(ck_mem 1433 (by decide +kernel) (by decide +kernel)), (ck_mem 56 (by decide +kernel) (by decide +kernel))⟩
set_option maxRecDepth 100000 in
theorem ck_mw23 : Cond.code ck_m23.1 ck_m23.2.1 ck_m23.2.2.1 ck_m23.2.2.2.1 ∈ ck_TS ∧ Cond.initialized ck_m23.1.cls ∈ ck_TS ∧ (ck_m23.1.cls ≠ "java/lang/invoke/MethodHandle" ∧ ck_m23.1.cls ≠ "java/lang/invoke/VarHandle") ∧ (parseMethodDescriptor ck_m23.1.desc).map (fun d => d.parameters.length) = some ck_m23.2.2.2.2 := ⟨ck_mem 1450 rfl (by decide +kernel), (ck_mem 136 (by decide +kernel) (by decide +kernel)), by decide +kernel, by decide +kernel⟩
theorem ck_mv23 : Cond.instanceMethod ck_m23.1 ∈ ck_TS ∧ Cond.selects ck_m23.1.cls ck_m23.1 ck_m23.1 ∈ ck_TS := ⟨(ck_mem 1449 (by decide +kernel) (by decide +kernel)), (ck_mem 58 (by decide +kernel) (by decide +kernel))⟩
set_option maxRecDepth 100000 in
theorem ck_mw24 : Cond.code ck_m24.1 ck_m24.2.1 ck_m24.2.2.1 ck_m24.2.2.2.1 ∈ ck_TS ∧ Cond.initialized ck_m24.1.cls ∈ ck_TS ∧ (ck_m24.1.cls ≠ "java/lang/invoke/MethodHandle" ∧ ck_m24.1.cls ≠ "java/lang/invoke/VarHandle") ∧ (parseMethodDescriptor ck_m24.1.desc).map (fun d => d.parameters.length) = some ck_m24.2.2.2.2 := ⟨ck_mem 1438 rfl (by decide +kernel), (ck_mem 136 (by decide +kernel) (by decide +kernel)), by decide +kernel, by decide +kernel⟩
theorem ck_mv24 : Cond.instanceMethod ck_m24.1 ∈ ck_TS ∧ Cond.selects ck_m24.1.cls ck_m24.1 ck_m24.1 ∈ ck_TS := ⟨(ck_mem 1437 (by decide +kernel) (by decide +kernel)), (ck_mem 57 (by decide +kernel) (by decide +kernel))⟩
set_option maxRecDepth 100000 in
theorem ck_mw25 : Cond.code ck_m25.1 ck_m25.2.1 ck_m25.2.2.1 ck_m25.2.2.2.1 ∈ ck_TS ∧ Cond.initialized ck_m25.1.cls ∈ ck_TS ∧ (ck_m25.1.cls ≠ "java/lang/invoke/MethodHandle" ∧ ck_m25.1.cls ≠ "java/lang/invoke/VarHandle") ∧ (parseMethodDescriptor ck_m25.1.desc).map (fun d => d.parameters.length) = some ck_m25.2.2.2.2 := ⟨ck_mem 540 rfl (by decide +kernel), (ck_mem 123 (by decide +kernel) (by decide +kernel)), by decide +kernel, by decide +kernel⟩
theorem ck_mv25 : Cond.instanceMethod ck_m25.1 ∈ ck_TS ∧ Cond.selects ck_m25.1.cls ck_m25.1 ck_m25.1 ∈ ck_TS := ⟨(ck_mem 538 (by decide +kernel) (by decide +kernel)), (ck_mem 539 (by decide +kernel) (by decide +kernel))⟩
set_option maxRecDepth 100000 in
theorem ck_mw26 : Cond.code ck_m26.1 ck_m26.2.1 ck_m26.2.2.1 ck_m26.2.2.2.1 ∈ ck_TS ∧ Cond.initialized ck_m26.1.cls ∈ ck_TS ∧ (ck_m26.1.cls ≠ "java/lang/invoke/MethodHandle" ∧ ck_m26.1.cls ≠ "java/lang/invoke/VarHandle") ∧ (parseMethodDescriptor ck_m26.1.desc).map (fun d => d.parameters.length) = some ck_m26.2.2.2.2 := ⟨ck_mem 543 rfl (by decide +kernel), (ck_mem 123 (by decide +kernel) (by decide +kernel)), by decide +kernel, by decide +kernel⟩
theorem ck_mst26 : Cond.static ck_m26.1 ∈ ck_TS := (ck_mem 542 (by decide +kernel) (by decide +kernel))
set_option maxRecDepth 100000 in
theorem ck_mw27 : Cond.code ck_m27.1 ck_m27.2.1 ck_m27.2.2.1 ck_m27.2.2.2.1 ∈ ck_TS ∧ Cond.initialized ck_m27.1.cls ∈ ck_TS ∧ (ck_m27.1.cls ≠ "java/lang/invoke/MethodHandle" ∧ ck_m27.1.cls ≠ "java/lang/invoke/VarHandle") ∧ (parseMethodDescriptor ck_m27.1.desc).map (fun d => d.parameters.length) = some ck_m27.2.2.2.2 := ⟨ck_mem 547 rfl (by decide +kernel), (ck_mem 124 (by decide +kernel) (by decide +kernel)), by decide +kernel, by decide +kernel⟩
theorem ck_mv27 : Cond.instanceMethod ck_m27.1 ∈ ck_TS ∧ Cond.selects ck_m27.1.cls ck_m27.1 ck_m27.1 ∈ ck_TS := ⟨(ck_mem 545 (by decide +kernel) (by decide +kernel)), (ck_mem 546 (by decide +kernel) (by decide +kernel))⟩
set_option maxRecDepth 100000 in
theorem ck_mw28 : Cond.code ck_m28.1 ck_m28.2.1 ck_m28.2.2.1 ck_m28.2.2.2.1 ∈ ck_TS ∧ Cond.initialized ck_m28.1.cls ∈ ck_TS ∧ (ck_m28.1.cls ≠ "java/lang/invoke/MethodHandle" ∧ ck_m28.1.cls ≠ "java/lang/invoke/VarHandle") ∧ (parseMethodDescriptor ck_m28.1.desc).map (fun d => d.parameters.length) = some ck_m28.2.2.2.2 := ⟨ck_mem 1454 rfl (by decide +kernel), (ck_mem 136 (by decide +kernel) (by decide +kernel)), by decide +kernel, by decide +kernel⟩
theorem ck_mv28 : Cond.instanceMethod ck_m28.1 ∈ ck_TS ∧ Cond.selects ck_m28.1.cls ck_m28.1 ck_m28.1 ∈ ck_TS := ⟨(ck_mem 1452 (by decide +kernel) (by decide +kernel)), (ck_mem 1453 (by decide +kernel) (by decide +kernel))⟩
set_option maxRecDepth 100000 in
theorem ck_mw29 : Cond.code ck_m29.1 ck_m29.2.1 ck_m29.2.2.1 ck_m29.2.2.2.1 ∈ ck_TS ∧ Cond.initialized ck_m29.1.cls ∈ ck_TS ∧ (ck_m29.1.cls ≠ "java/lang/invoke/MethodHandle" ∧ ck_m29.1.cls ≠ "java/lang/invoke/VarHandle") ∧ (parseMethodDescriptor ck_m29.1.desc).map (fun d => d.parameters.length) = some ck_m29.2.2.2.2 := ⟨ck_mem 1458 rfl (by decide +kernel), (ck_mem 136 (by decide +kernel) (by decide +kernel)), by decide +kernel, by decide +kernel⟩
theorem ck_mv29 : Cond.instanceMethod ck_m29.1 ∈ ck_TS ∧ Cond.selects ck_m29.1.cls ck_m29.1 ck_m29.1 ∈ ck_TS := ⟨(ck_mem 1457 (by decide +kernel) (by decide +kernel)), (ck_mem 59 (by decide +kernel) (by decide +kernel))⟩
set_option maxRecDepth 100000 in
theorem ck_mw30 : Cond.code ck_m30.1 ck_m30.2.1 ck_m30.2.2.1 ck_m30.2.2.2.1 ∈ ck_TS ∧ Cond.initialized ck_m30.1.cls ∈ ck_TS ∧ (ck_m30.1.cls ≠ "java/lang/invoke/MethodHandle" ∧ ck_m30.1.cls ≠ "java/lang/invoke/VarHandle") ∧ (parseMethodDescriptor ck_m30.1.desc).map (fun d => d.parameters.length) = some ck_m30.2.2.2.2 := ⟨ck_mem 558 rfl (by decide +kernel), (ck_mem 123 (by decide +kernel) (by decide +kernel)), by decide +kernel, by decide +kernel⟩
theorem ck_mv30 : Cond.instanceMethod ck_m30.1 ∈ ck_TS ∧ Cond.selects ck_m30.1.cls ck_m30.1 ck_m30.1 ∈ ck_TS := ⟨(ck_mem 556 (by decide +kernel) (by decide +kernel)), (ck_mem 557 (by decide +kernel) (by decide +kernel))⟩
set_option maxRecDepth 100000 in
theorem ck_mw31 : Cond.code ck_m31.1 ck_m31.2.1 ck_m31.2.2.1 ck_m31.2.2.2.1 ∈ ck_TS ∧ Cond.initialized ck_m31.1.cls ∈ ck_TS ∧ (ck_m31.1.cls ≠ "java/lang/invoke/MethodHandle" ∧ ck_m31.1.cls ≠ "java/lang/invoke/VarHandle") ∧ (parseMethodDescriptor ck_m31.1.desc).map (fun d => d.parameters.length) = some ck_m31.2.2.2.2 := ⟨ck_mem 1466 rfl (by decide +kernel), (ck_mem 136 (by decide +kernel) (by decide +kernel)), by decide +kernel, by decide +kernel⟩
theorem ck_mv31 : Cond.instanceMethod ck_m31.1 ∈ ck_TS ∧ Cond.selects ck_m31.1.cls ck_m31.1 ck_m31.1 ∈ ck_TS := ⟨(ck_mem 1464 (by decide +kernel) (by decide +kernel)), (ck_mem 1465 (by decide +kernel) (by decide +kernel))⟩
set_option maxRecDepth 100000 in
theorem ck_mw32 : Cond.code ck_m32.1 ck_m32.2.1 ck_m32.2.2.1 ck_m32.2.2.2.1 ∈ ck_TS ∧ Cond.initialized ck_m32.1.cls ∈ ck_TS ∧ (ck_m32.1.cls ≠ "java/lang/invoke/MethodHandle" ∧ ck_m32.1.cls ≠ "java/lang/invoke/VarHandle") ∧ (parseMethodDescriptor ck_m32.1.desc).map (fun d => d.parameters.length) = some ck_m32.2.2.2.2 := ⟨ck_mem 562 rfl (by decide +kernel), (ck_mem 123 (by decide +kernel) (by decide +kernel)), by decide +kernel, by decide +kernel⟩
theorem ck_mv32 : Cond.instanceMethod ck_m32.1 ∈ ck_TS ∧ Cond.selects ck_m32.1.cls ck_m32.1 ck_m32.1 ∈ ck_TS := ⟨(ck_mem 560 (by decide +kernel) (by decide +kernel)), (ck_mem 561 (by decide +kernel) (by decide +kernel))⟩
set_option maxRecDepth 100000 in
theorem ck_mw33 : Cond.code ck_m33.1 ck_m33.2.1 ck_m33.2.2.1 ck_m33.2.2.2.1 ∈ ck_TS ∧ Cond.initialized ck_m33.1.cls ∈ ck_TS ∧ (ck_m33.1.cls ≠ "java/lang/invoke/MethodHandle" ∧ ck_m33.1.cls ≠ "java/lang/invoke/VarHandle") ∧ (parseMethodDescriptor ck_m33.1.desc).map (fun d => d.parameters.length) = some ck_m33.2.2.2.2 := ⟨ck_mem 554 rfl (by decide +kernel), (ck_mem 123 (by decide +kernel) (by decide +kernel)), by decide +kernel, by decide +kernel⟩
theorem ck_mst33 : Cond.static ck_m33.1 ∈ ck_TS := (ck_mem 553 (by decide +kernel) (by decide +kernel))
set_option maxRecDepth 100000 in
theorem ck_mw34 : Cond.code ck_m34.1 ck_m34.2.1 ck_m34.2.2.1 ck_m34.2.2.2.1 ∈ ck_TS ∧ Cond.initialized ck_m34.1.cls ∈ ck_TS ∧ (ck_m34.1.cls ≠ "java/lang/invoke/MethodHandle" ∧ ck_m34.1.cls ≠ "java/lang/invoke/VarHandle") ∧ (parseMethodDescriptor ck_m34.1.desc).map (fun d => d.parameters.length) = some ck_m34.2.2.2.2 := ⟨ck_mem 1470 rfl (by decide +kernel), (ck_mem 136 (by decide +kernel) (by decide +kernel)), by decide +kernel, by decide +kernel⟩
theorem ck_mv34 : Cond.instanceMethod ck_m34.1 ∈ ck_TS ∧ Cond.selects ck_m34.1.cls ck_m34.1 ck_m34.1 ∈ ck_TS := ⟨(ck_mem 1468 (by decide +kernel) (by decide +kernel)), (ck_mem 1469 (by decide +kernel) (by decide +kernel))⟩
set_option maxRecDepth 100000 in
theorem ck_mw35 : Cond.code ck_m35.1 ck_m35.2.1 ck_m35.2.2.1 ck_m35.2.2.2.1 ∈ ck_TS ∧ Cond.initialized ck_m35.1.cls ∈ ck_TS ∧ (ck_m35.1.cls ≠ "java/lang/invoke/MethodHandle" ∧ ck_m35.1.cls ≠ "java/lang/invoke/VarHandle") ∧ (parseMethodDescriptor ck_m35.1.desc).map (fun d => d.parameters.length) = some ck_m35.2.2.2.2 := ⟨ck_mem 1462 rfl (by decide +kernel), (ck_mem 136 (by decide +kernel) (by decide +kernel)), by decide +kernel, by decide +kernel⟩
theorem ck_mv35 : Cond.instanceMethod ck_m35.1 ∈ ck_TS ∧ Cond.selects ck_m35.1.cls ck_m35.1 ck_m35.1 ∈ ck_TS := ⟨(ck_mem 1461 (by decide +kernel) (by decide +kernel)), (ck_mem 60 (by decide +kernel) (by decide +kernel))⟩
set_option maxRecDepth 100000 in
theorem ck_mw36 : Cond.code ck_m36.1 ck_m36.2.1 ck_m36.2.2.1 ck_m36.2.2.2.1 ∈ ck_TS ∧ Cond.initialized ck_m36.1.cls ∈ ck_TS ∧ (ck_m36.1.cls ≠ "java/lang/invoke/MethodHandle" ∧ ck_m36.1.cls ≠ "java/lang/invoke/VarHandle") ∧ (parseMethodDescriptor ck_m36.1.desc).map (fun d => d.parameters.length) = some ck_m36.2.2.2.2 := ⟨ck_mem 566 rfl (by decide +kernel), (ck_mem 123 (by decide +kernel) (by decide +kernel)), by decide +kernel, by decide +kernel⟩
theorem ck_mv36 : Cond.instanceMethod ck_m36.1 ∈ ck_TS ∧ Cond.selects ck_m36.1.cls ck_m36.1 ck_m36.1 ∈ ck_TS := ⟨(ck_mem 564 (by decide +kernel) (by decide +kernel)), (ck_mem 565 (by decide +kernel) (by decide +kernel))⟩
set_option maxRecDepth 100000 in
theorem ck_mw37 : Cond.code ck_m37.1 ck_m37.2.1 ck_m37.2.2.1 ck_m37.2.2.2.1 ∈ ck_TS ∧ Cond.initialized ck_m37.1.cls ∈ ck_TS ∧ (ck_m37.1.cls ≠ "java/lang/invoke/MethodHandle" ∧ ck_m37.1.cls ≠ "java/lang/invoke/VarHandle") ∧ (parseMethodDescriptor ck_m37.1.desc).map (fun d => d.parameters.length) = some ck_m37.2.2.2.2 := ⟨ck_mem 569 rfl (by decide +kernel), (ck_mem 123 (by decide +kernel) (by decide +kernel)), by decide +kernel, by decide +kernel⟩
theorem ck_mst37 : Cond.static ck_m37.1 ∈ ck_TS := (ck_mem 568 (by decide +kernel) (by decide +kernel))
set_option maxRecDepth 100000 in
theorem ck_mw38 : Cond.code ck_m38.1 ck_m38.2.1 ck_m38.2.2.1 ck_m38.2.2.2.1 ∈ ck_TS ∧ Cond.initialized ck_m38.1.cls ∈ ck_TS ∧ (ck_m38.1.cls ≠ "java/lang/invoke/MethodHandle" ∧ ck_m38.1.cls ≠ "java/lang/invoke/VarHandle") ∧ (parseMethodDescriptor ck_m38.1.desc).map (fun d => d.parameters.length) = some ck_m38.2.2.2.2 := ⟨ck_mem 1474 rfl (by decide +kernel), (ck_mem 136 (by decide +kernel) (by decide +kernel)), by decide +kernel, by decide +kernel⟩
theorem ck_mv38 : Cond.instanceMethod ck_m38.1 ∈ ck_TS ∧ Cond.selects ck_m38.1.cls ck_m38.1 ck_m38.1 ∈ ck_TS := ⟨(ck_mem 1472 (by decide +kernel) (by decide +kernel)), (ck_mem 1473 (by decide +kernel) (by decide +kernel))⟩
set_option maxRecDepth 100000 in
theorem ck_mw39 : Cond.code ck_m39.1 ck_m39.2.1 ck_m39.2.2.1 ck_m39.2.2.2.1 ∈ ck_TS ∧ Cond.initialized ck_m39.1.cls ∈ ck_TS ∧ (ck_m39.1.cls ≠ "java/lang/invoke/MethodHandle" ∧ ck_m39.1.cls ≠ "java/lang/invoke/VarHandle") ∧ (parseMethodDescriptor ck_m39.1.desc).map (fun d => d.parameters.length) = some ck_m39.2.2.2.2 := ⟨ck_mem 573 rfl (by decide +kernel), (ck_mem 123 (by decide +kernel) (by decide +kernel)), by decide +kernel, by decide +kernel⟩
theorem ck_mv39 : Cond.instanceMethod ck_m39.1 ∈ ck_TS ∧ Cond.selects ck_m39.1.cls ck_m39.1 ck_m39.1 ∈ ck_TS := ⟨(ck_mem 571 (by decide +kernel) (by decide +kernel)), (ck_mem 572 (by decide +kernel) (by decide +kernel))⟩
set_option maxRecDepth 100000 in
theorem ck_mw40 : Cond.code ck_m40.1 ck_m40.2.1 ck_m40.2.2.1 ck_m40.2.2.2.1 ∈ ck_TS ∧ Cond.initialized ck_m40.1.cls ∈ ck_TS ∧ (ck_m40.1.cls ≠ "java/lang/invoke/MethodHandle" ∧ ck_m40.1.cls ≠ "java/lang/invoke/VarHandle") ∧ (parseMethodDescriptor ck_m40.1.desc).map (fun d => d.parameters.length) = some ck_m40.2.2.2.2 := ⟨ck_mem 1478 rfl (by decide +kernel), (ck_mem 136 (by decide +kernel) (by decide +kernel)), by decide +kernel, by decide +kernel⟩
theorem ck_mv40 : Cond.instanceMethod ck_m40.1 ∈ ck_TS ∧ Cond.selects ck_m40.1.cls ck_m40.1 ck_m40.1 ∈ ck_TS := ⟨(ck_mem 1476 (by decide +kernel) (by decide +kernel)), (ck_mem 1477 (by decide +kernel) (by decide +kernel))⟩
set_option maxRecDepth 100000 in
theorem ck_mw41 : Cond.code ck_m41.1 ck_m41.2.1 ck_m41.2.2.1 ck_m41.2.2.2.1 ∈ ck_TS ∧ Cond.initialized ck_m41.1.cls ∈ ck_TS ∧ (ck_m41.1.cls ≠ "java/lang/invoke/MethodHandle" ∧ ck_m41.1.cls ≠ "java/lang/invoke/VarHandle") ∧ (parseMethodDescriptor ck_m41.1.desc).map (fun d => d.parameters.length) = some ck_m41.2.2.2.2 := ⟨ck_mem 578 rfl (by decide +kernel), (ck_mem 123 (by decide +kernel) (by decide +kernel)), by decide +kernel, by decide +kernel⟩
theorem ck_mv41 : Cond.instanceMethod ck_m41.1 ∈ ck_TS ∧ Cond.selects ck_m41.1.cls ck_m41.1 ck_m41.1 ∈ ck_TS := ⟨(ck_mem 576 (by decide +kernel) (by decide +kernel)), (ck_mem 577 (by decide +kernel) (by decide +kernel))⟩
set_option maxRecDepth 100000 in
theorem ck_mw42 : Cond.code ck_m42.1 ck_m42.2.1 ck_m42.2.2.1 ck_m42.2.2.2.1 ∈ ck_TS ∧ Cond.initialized ck_m42.1.cls ∈ ck_TS ∧ (ck_m42.1.cls ≠ "java/lang/invoke/MethodHandle" ∧ ck_m42.1.cls ≠ "java/lang/invoke/VarHandle") ∧ (parseMethodDescriptor ck_m42.1.desc).map (fun d => d.parameters.length) = some ck_m42.2.2.2.2 := ⟨ck_mem 582 rfl (by decide +kernel), (ck_mem 126 (by decide +kernel) (by decide +kernel)), by decide +kernel, by decide +kernel⟩
theorem ck_mv42 : Cond.instanceMethod ck_m42.1 ∈ ck_TS ∧ Cond.selects ck_m42.1.cls ck_m42.1 ck_m42.1 ∈ ck_TS := ⟨(ck_mem 580 (by decide +kernel) (by decide +kernel)), (ck_mem 581 (by decide +kernel) (by decide +kernel))⟩
set_option maxRecDepth 100000 in
theorem ck_mw43 : Cond.code ck_m43.1 ck_m43.2.1 ck_m43.2.2.1 ck_m43.2.2.2.1 ∈ ck_TS ∧ Cond.initialized ck_m43.1.cls ∈ ck_TS ∧ (ck_m43.1.cls ≠ "java/lang/invoke/MethodHandle" ∧ ck_m43.1.cls ≠ "java/lang/invoke/VarHandle") ∧ (parseMethodDescriptor ck_m43.1.desc).map (fun d => d.parameters.length) = some ck_m43.2.2.2.2 := ⟨ck_mem 1483 rfl (by decide +kernel), (ck_mem 136 (by decide +kernel) (by decide +kernel)), by decide +kernel, by decide +kernel⟩
theorem ck_mv43 : Cond.instanceMethod ck_m43.1 ∈ ck_TS ∧ Cond.selects ck_m43.1.cls ck_m43.1 ck_m43.1 ∈ ck_TS := ⟨(ck_mem 1481 (by decide +kernel) (by decide +kernel)), (ck_mem 1482 (by decide +kernel) (by decide +kernel))⟩
set_option maxRecDepth 100000 in
theorem ck_mw44 : Cond.code ck_m44.1 ck_m44.2.1 ck_m44.2.2.1 ck_m44.2.2.2.1 ∈ ck_TS ∧ Cond.initialized ck_m44.1.cls ∈ ck_TS ∧ (ck_m44.1.cls ≠ "java/lang/invoke/MethodHandle" ∧ ck_m44.1.cls ≠ "java/lang/invoke/VarHandle") ∧ (parseMethodDescriptor ck_m44.1.desc).map (fun d => d.parameters.length) = some ck_m44.2.2.2.2 := ⟨ck_mem 586 rfl (by decide +kernel), (ck_mem 123 (by decide +kernel) (by decide +kernel)), by decide +kernel, by decide +kernel⟩
theorem ck_mv44 : Cond.instanceMethod ck_m44.1 ∈ ck_TS ∧ Cond.selects ck_m44.1.cls ck_m44.1 ck_m44.1 ∈ ck_TS := ⟨(ck_mem 584 (by decide +kernel) (by decide +kernel)), (ck_mem 585 (by decide +kernel) (by decide +kernel))⟩
set_option maxRecDepth 100000 in
theorem ck_mw45 : Cond.code ck_m45.1 ck_m45.2.1 ck_m45.2.2.1 ck_m45.2.2.2.1 ∈ ck_TS ∧ Cond.initialized ck_m45.1.cls ∈ ck_TS ∧ (ck_m45.1.cls ≠ "java/lang/invoke/MethodHandle" ∧ ck_m45.1.cls ≠ "java/lang/invoke/VarHandle") ∧ (parseMethodDescriptor ck_m45.1.desc).map (fun d => d.parameters.length) = some ck_m45.2.2.2.2 := ⟨ck_mem 1487 rfl (by decide +kernel), (ck_mem 136 (by decide +kernel) (by decide +kernel)), by decide +kernel, by decide +kernel⟩
theorem ck_mv45 : Cond.instanceMethod ck_m45.1 ∈ ck_TS ∧ Cond.selects ck_m45.1.cls ck_m45.1 ck_m45.1 ∈ ck_TS := ⟨(ck_mem 1485 (by decide +kernel) (by decide +kernel)), (ck_mem 1486 (by decide +kernel) (by decide +kernel))⟩
set_option maxRecDepth 100000 in
theorem ck_mw46 : Cond.code ck_m46.1 ck_m46.2.1 ck_m46.2.2.1 ck_m46.2.2.2.1 ∈ ck_TS ∧ Cond.initialized ck_m46.1.cls ∈ ck_TS ∧ (ck_m46.1.cls ≠ "java/lang/invoke/MethodHandle" ∧ ck_m46.1.cls ≠ "java/lang/invoke/VarHandle") ∧ (parseMethodDescriptor ck_m46.1.desc).map (fun d => d.parameters.length) = some ck_m46.2.2.2.2 := ⟨ck_mem 590 rfl (by decide +kernel), (ck_mem 123 (by decide +kernel) (by decide +kernel)), by decide +kernel, by decide +kernel⟩
theorem ck_mv46 : Cond.instanceMethod ck_m46.1 ∈ ck_TS ∧ Cond.selects ck_m46.1.cls ck_m46.1 ck_m46.1 ∈ ck_TS := ⟨(ck_mem 588 (by decide +kernel) (by decide +kernel)), (ck_mem 589 (by decide +kernel) (by decide +kernel))⟩
set_option maxRecDepth 100000 in
theorem ck_mw47 : Cond.code ck_m47.1 ck_m47.2.1 ck_m47.2.2.1 ck_m47.2.2.2.1 ∈ ck_TS ∧ Cond.initialized ck_m47.1.cls ∈ ck_TS ∧ (ck_m47.1.cls ≠ "java/lang/invoke/MethodHandle" ∧ ck_m47.1.cls ≠ "java/lang/invoke/VarHandle") ∧ (parseMethodDescriptor ck_m47.1.desc).map (fun d => d.parameters.length) = some ck_m47.2.2.2.2 := ⟨ck_mem 594 rfl (by decide +kernel), (ck_mem 127 (by decide +kernel) (by decide +kernel)), by decide +kernel, by decide +kernel⟩
theorem ck_mv47 : Cond.instanceMethod ck_m47.1 ∈ ck_TS ∧ Cond.selects ck_m47.1.cls ck_m47.1 ck_m47.1 ∈ ck_TS := ⟨(ck_mem 592 (by decide +kernel) (by decide +kernel)), (ck_mem 593 (by decide +kernel) (by decide +kernel))⟩
set_option maxRecDepth 100000 in
theorem ck_mw48 : Cond.code ck_m48.1 ck_m48.2.1 ck_m48.2.2.1 ck_m48.2.2.2.1 ∈ ck_TS ∧ Cond.initialized ck_m48.1.cls ∈ ck_TS ∧ (ck_m48.1.cls ≠ "java/lang/invoke/MethodHandle" ∧ ck_m48.1.cls ≠ "java/lang/invoke/VarHandle") ∧ (parseMethodDescriptor ck_m48.1.desc).map (fun d => d.parameters.length) = some ck_m48.2.2.2.2 := ⟨ck_mem 598 rfl (by decide +kernel), (ck_mem 127 (by decide +kernel) (by decide +kernel)), by decide +kernel, by decide +kernel⟩
theorem ck_mv48 : Cond.instanceMethod ck_m48.1 ∈ ck_TS ∧ Cond.selects ck_m48.1.cls ck_m48.1 ck_m48.1 ∈ ck_TS := ⟨(ck_mem 597 (by decide +kernel) (by decide +kernel)), (ck_mem 2 (by decide +kernel) (by decide +kernel))⟩
set_option maxRecDepth 100000 in
theorem ck_mw49 : Cond.code ck_m49.1 ck_m49.2.1 ck_m49.2.2.1 ck_m49.2.2.2.1 ∈ ck_TS ∧ Cond.initialized ck_m49.1.cls ∈ ck_TS ∧ (ck_m49.1.cls ≠ "java/lang/invoke/MethodHandle" ∧ ck_m49.1.cls ≠ "java/lang/invoke/VarHandle") ∧ (parseMethodDescriptor ck_m49.1.desc).map (fun d => d.parameters.length) = some ck_m49.2.2.2.2 := ⟨ck_mem 602 rfl (by decide +kernel), (ck_mem 127 (by decide +kernel) (by decide +kernel)), by decide +kernel, by decide +kernel⟩
theorem ck_mv49 : Cond.instanceMethod ck_m49.1 ∈ ck_TS ∧ Cond.selects ck_m49.1.cls ck_m49.1 ck_m49.1 ∈ ck_TS := ⟨(ck_mem 601 (by decide +kernel) (by decide +kernel)), (ck_mem 3 (by decide +kernel) (by decide +kernel))⟩
set_option maxRecDepth 100000 in
theorem ck_mw50 : Cond.code ck_m50.1 ck_m50.2.1 ck_m50.2.2.1 ck_m50.2.2.2.1 ∈ ck_TS ∧ Cond.initialized ck_m50.1.cls ∈ ck_TS ∧ (ck_m50.1.cls ≠ "java/lang/invoke/MethodHandle" ∧ ck_m50.1.cls ≠ "java/lang/invoke/VarHandle") ∧ (parseMethodDescriptor ck_m50.1.desc).map (fun d => d.parameters.length) = some ck_m50.2.2.2.2 := ⟨ck_mem 610 rfl (by decide +kernel), (ck_mem 127 (by decide +kernel) (by decide +kernel)), by decide +kernel, by decide +kernel⟩
theorem ck_mv50 : Cond.instanceMethod ck_m50.1 ∈ ck_TS ∧ Cond.selects ck_m50.1.cls ck_m50.1 ck_m50.1 ∈ ck_TS := ⟨(ck_mem 609 (by decide +kernel) (by decide +kernel)), (ck_mem 4 (by decide +kernel) (by decide +kernel))⟩
set_option maxRecDepth 100000 in
theorem ck_mw51 : Cond.code ck_m51.1 ck_m51.2.1 ck_m51.2.2.1 ck_m51.2.2.2.1 ∈ ck_TS ∧ Cond.initialized ck_m51.1.cls ∈ ck_TS ∧ (ck_m51.1.cls ≠ "java/lang/invoke/MethodHandle" ∧ ck_m51.1.cls ≠ "java/lang/invoke/VarHandle") ∧ (parseMethodDescriptor ck_m51.1.desc).map (fun d => d.parameters.length) = some ck_m51.2.2.2.2 := ⟨ck_mem 615 rfl (by decide +kernel), (ck_mem 127 (by decide +kernel) (by decide +kernel)), by decide +kernel, by decide +kernel⟩
theorem ck_mv51 : Cond.instanceMethod ck_m51.1 ∈ ck_TS ∧ Cond.selects ck_m51.1.cls ck_m51.1 ck_m51.1 ∈ ck_TS := ⟨(ck_mem 614 (by decide +kernel) (by decide +kernel)), (ck_mem 5 (by decide +kernel) (by decide +kernel))⟩
set_option maxRecDepth 100000 in
theorem ck_mw52 : Cond.code ck_m52.1 ck_m52.2.1 ck_m52.2.2.1 ck_m52.2.2.2.1 ∈ ck_TS ∧ Cond.initialized ck_m52.1.cls ∈ ck_TS ∧ (ck_m52.1.cls ≠ "java/lang/invoke/MethodHandle" ∧ ck_m52.1.cls ≠ "java/lang/invoke/VarHandle") ∧ (parseMethodDescriptor ck_m52.1.desc).map (fun d => d.parameters.length) = some ck_m52.2.2.2.2 := ⟨ck_mem 619 rfl (by decide +kernel), (ck_mem 127 (by decide +kernel) (by decide +kernel)), by decide +kernel, by decide +kernel⟩
theorem ck_mv52 : Cond.instanceMethod ck_m52.1 ∈ ck_TS ∧ Cond.selects ck_m52.1.cls ck_m52.1 ck_m52.1 ∈ ck_TS := ⟨(ck_mem 618 (by decide +kernel) (by decide +kernel)), (ck_mem 6 (by decide +kernel) (by decide +kernel))⟩
set_option maxRecDepth 100000 in
theorem ck_mw53 : Cond.code ck_m53.1 ck_m53.2.1 ck_m53.2.2.1 ck_m53.2.2.2.1 ∈ ck_TS ∧ Cond.initialized ck_m53.1.cls ∈ ck_TS ∧ (ck_m53.1.cls ≠ "java/lang/invoke/MethodHandle" ∧ ck_m53.1.cls ≠ "java/lang/invoke/VarHandle") ∧ (parseMethodDescriptor ck_m53.1.desc).map (fun d => d.parameters.length) = some ck_m53.2.2.2.2 := ⟨ck_mem 684 rfl (by decide +kernel), (ck_mem 127 (by decide +kernel) (by decide +kernel)), by decide +kernel, by decide +kernel⟩
theorem ck_mv53 : Cond.instanceMethod ck_m53.1 ∈ ck_TS ∧ Cond.selects ck_m53.1.cls ck_m53.1 ck_m53.1 ∈ ck_TS := ⟨(ck_mem 683 (by decide +kernel) (by decide +kernel)), (ck_mem 10 (by decide +kernel) (by decide +kernel))⟩
set_option maxRecDepth 100000 in
theorem ck_mw54 : Cond.code ck_m54.1 ck_m54.2.1 ck_m54.2.2.1 ck_m54.2.2.2.1 ∈ ck_TS ∧ Cond.initialized ck_m54.1.cls ∈ ck_TS ∧ (ck_m54.1.cls ≠ "java/lang/invoke/MethodHandle" ∧ ck_m54.1.cls ≠ "java/lang/invoke/VarHandle") ∧ (parseMethodDescriptor ck_m54.1.desc).map (fun d => d.parameters.length) = some ck_m54.2.2.2.2 := ⟨ck_mem 782 rfl (by decide +kernel), (ck_mem 127 (by decide +kernel) (by decide +kernel)), by decide +kernel, by decide +kernel⟩
theorem ck_mv54 : Cond.instanceMethod ck_m54.1 ∈ ck_TS ∧ Cond.selects ck_m54.1.cls ck_m54.1 ck_m54.1 ∈ ck_TS := ⟨(ck_mem 780 (by decide +kernel) (by decide +kernel)), (ck_mem 781 (by decide +kernel) (by decide +kernel))⟩
set_option maxRecDepth 100000 in
theorem ck_mw55 : Cond.code ck_m55.1 ck_m55.2.1 ck_m55.2.2.1 ck_m55.2.2.2.1 ∈ ck_TS ∧ Cond.initialized ck_m55.1.cls ∈ ck_TS ∧ (ck_m55.1.cls ≠ "java/lang/invoke/MethodHandle" ∧ ck_m55.1.cls ≠ "java/lang/invoke/VarHandle") ∧ (parseMethodDescriptor ck_m55.1.desc).map (fun d => d.parameters.length) = some ck_m55.2.2.2.2 := ⟨ck_mem 1491 rfl (by decide +kernel), (ck_mem 136 (by decide +kernel) (by decide +kernel)), by decide +kernel, by decide +kernel⟩
theorem ck_mv55 : Cond.instanceMethod ck_m55.1 ∈ ck_TS ∧ Cond.selects ck_m55.1.cls ck_m55.1 ck_m55.1 ∈ ck_TS := ⟨(ck_mem 1489 (by decide +kernel) (by decide +kernel)), (ck_mem 1490 (by decide +kernel) (by decide +kernel))⟩
set_option maxRecDepth 100000 in
theorem ck_mw56 : Cond.code ck_m56.1 ck_m56.2.1 ck_m56.2.2.1 ck_m56.2.2.2.1 ∈ ck_TS ∧ Cond.initialized ck_m56.1.cls ∈ ck_TS ∧ (ck_m56.1.cls ≠ "java/lang/invoke/MethodHandle" ∧ ck_m56.1.cls ≠ "java/lang/invoke/VarHandle") ∧ (parseMethodDescriptor ck_m56.1.desc).map (fun d => d.parameters.length) = some ck_m56.2.2.2.2 := ⟨ck_mem 1495 rfl (by decide +kernel), (ck_mem 136 (by decide +kernel) (by decide +kernel)), by decide +kernel, by decide +kernel⟩
theorem ck_mv56 : Cond.instanceMethod ck_m56.1 ∈ ck_TS ∧ Cond.selects ck_m56.1.cls ck_m56.1 ck_m56.1 ∈ ck_TS := ⟨(ck_mem 1494 (by decide +kernel) (by decide +kernel)), (ck_mem 61 (by decide +kernel) (by decide +kernel))⟩
set_option maxRecDepth 100000 in
theorem ck_mw57 : Cond.code ck_m57.1 ck_m57.2.1 ck_m57.2.2.1 ck_m57.2.2.2.1 ∈ ck_TS ∧ Cond.initialized ck_m57.1.cls ∈ ck_TS ∧ (ck_m57.1.cls ≠ "java/lang/invoke/MethodHandle" ∧ ck_m57.1.cls ≠ "java/lang/invoke/VarHandle") ∧ (parseMethodDescriptor ck_m57.1.desc).map (fun d => d.parameters.length) = some ck_m57.2.2.2.2 := ⟨ck_mem 1499 rfl (by decide +kernel), (ck_mem 136 (by decide +kernel) (by decide +kernel)), by decide +kernel, by decide +kernel⟩
theorem ck_mv57 : Cond.instanceMethod ck_m57.1 ∈ ck_TS ∧ Cond.selects ck_m57.1.cls ck_m57.1 ck_m57.1 ∈ ck_TS := ⟨(ck_mem 1498 (by decide +kernel) (by decide +kernel)), (ck_mem 62 (by decide +kernel) (by decide +kernel))⟩
set_option maxRecDepth 100000 in
theorem ck_mw58 : Cond.code ck_m58.1 ck_m58.2.1 ck_m58.2.2.1 ck_m58.2.2.2.1 ∈ ck_TS ∧ Cond.initialized ck_m58.1.cls ∈ ck_TS ∧ (ck_m58.1.cls ≠ "java/lang/invoke/MethodHandle" ∧ ck_m58.1.cls ≠ "java/lang/invoke/VarHandle") ∧ (parseMethodDescriptor ck_m58.1.desc).map (fun d => d.parameters.length) = some ck_m58.2.2.2.2 := ⟨ck_mem 1513 rfl (by decide +kernel), (ck_mem 136 (by decide +kernel) (by decide +kernel)), by decide +kernel, by decide +kernel⟩
theorem ck_mv58 : Cond.instanceMethod ck_m58.1 ∈ ck_TS ∧ Cond.selects ck_m58.1.cls ck_m58.1 ck_m58.1 ∈ ck_TS := ⟨(ck_mem 1512 (by decide +kernel) (by decide +kernel)), (ck_mem 64 (by decide +kernel) (by decide +kernel))⟩
set_option maxRecDepth 100000 in
theorem ck_mw59 : Cond.code ck_m59.1 ck_m59.2.1 ck_m59.2.2.1 ck_m59.2.2.2.1 ∈ ck_TS ∧ Cond.initialized ck_m59.1.cls ∈ ck_TS ∧ (ck_m59.1.cls ≠ "java/lang/invoke/MethodHandle" ∧ ck_m59.1.cls ≠ "java/lang/invoke/VarHandle") ∧ (parseMethodDescriptor ck_m59.1.desc).map (fun d => d.parameters.length) = some ck_m59.2.2.2.2 := ⟨ck_mem 1517 rfl (by decide +kernel), (ck_mem 136 (by decide +kernel) (by decide +kernel)), by decide +kernel, by decide +kernel⟩
theorem ck_mv59 : Cond.instanceMethod ck_m59.1 ∈ ck_TS ∧ Cond.selects ck_m59.1.cls ck_m59.1 ck_m59.1 ∈ ck_TS := ⟨(ck_mem 1516 (by decide +kernel) (by decide +kernel)), (ck_mem 65 (by decide +kernel) (by decide +kernel))⟩
set_option maxRecDepth 100000 in
theorem ck_mw60 : Cond.code ck_m60.1 ck_m60.2.1 ck_m60.2.2.1 ck_m60.2.2.2.1 ∈ ck_TS ∧ Cond.initialized ck_m60.1.cls ∈ ck_TS ∧ (ck_m60.1.cls ≠ "java/lang/invoke/MethodHandle" ∧ ck_m60.1.cls ≠ "java/lang/invoke/VarHandle") ∧ (parseMethodDescriptor ck_m60.1.desc).map (fun d => d.parameters.length) = some ck_m60.2.2.2.2 := ⟨ck_mem 1521 rfl (by decide +kernel), (ck_mem 136 (by decide +kernel) (by decide +kernel)), by decide +kernel, by decide +kernel⟩
theorem ck_mv60 : Cond.instanceMethod ck_m60.1 ∈ ck_TS ∧ Cond.selects ck_m60.1.cls ck_m60.1 ck_m60.1 ∈ ck_TS := ⟨(ck_mem 1520 (by decide +kernel) (by decide +kernel)), (ck_mem 66 (by decide +kernel) (by decide +kernel))⟩
set_option maxRecDepth 100000 in
theorem ck_mw61 : Cond.code ck_m61.1 ck_m61.2.1 ck_m61.2.2.1 ck_m61.2.2.2.1 ∈ ck_TS ∧ Cond.initialized ck_m61.1.cls ∈ ck_TS ∧ (ck_m61.1.cls ≠ "java/lang/invoke/MethodHandle" ∧ ck_m61.1.cls ≠ "java/lang/invoke/VarHandle") ∧ (parseMethodDescriptor ck_m61.1.desc).map (fun d => d.parameters.length) = some ck_m61.2.2.2.2 := ⟨ck_mem 1533 rfl (by decide +kernel), (ck_mem 136 (by decide +kernel) (by decide +kernel)), by decide +kernel, by decide +kernel⟩
theorem ck_mv61 : Cond.instanceMethod ck_m61.1 ∈ ck_TS ∧ Cond.selects ck_m61.1.cls ck_m61.1 ck_m61.1 ∈ ck_TS := ⟨(ck_mem 1532 (by decide +kernel) (by decide +kernel)), (ck_mem 69 (by decide +kernel) (by decide +kernel))⟩
set_option maxRecDepth 100000 in
theorem ck_mw62 : Cond.code ck_m62.1 ck_m62.2.1 ck_m62.2.2.1 ck_m62.2.2.2.1 ∈ ck_TS ∧ Cond.initialized ck_m62.1.cls ∈ ck_TS ∧ (ck_m62.1.cls ≠ "java/lang/invoke/MethodHandle" ∧ ck_m62.1.cls ≠ "java/lang/invoke/VarHandle") ∧ (parseMethodDescriptor ck_m62.1.desc).map (fun d => d.parameters.length) = some ck_m62.2.2.2.2 := ⟨ck_mem 1529 rfl (by decide +kernel), (ck_mem 136 (by decide +kernel) (by decide +kernel)), by decide +kernel, by decide +kernel⟩
theorem ck_mv62 : Cond.instanceMethod ck_m62.1 ∈ ck_TS ∧ Cond.selects ck_m62.1.cls ck_m62.1 ck_m62.1 ∈ ck_TS := ⟨(ck_mem 1528 (by decide +kernel) (by decide +kernel)), (ck_mem 68 (by decide +kernel) (by decide +kernel))⟩
set_option maxRecDepth 100000 in
theorem ck_mw63 : Cond.code ck_m63.1 ck_m63.2.1 ck_m63.2.2.1 ck_m63.2.2.2.1 ∈ ck_TS ∧ Cond.initialized ck_m63.1.cls ∈ ck_TS ∧ (ck_m63.1.cls ≠ "java/lang/invoke/MethodHandle" ∧ ck_m63.1.cls ≠ "java/lang/invoke/VarHandle") ∧ (parseMethodDescriptor ck_m63.1.desc).map (fun d => d.parameters.length) = some ck_m63.2.2.2.2 := ⟨ck_mem 1548 rfl (by decide +kernel), (ck_mem 136 (by decide +kernel) (by decide +kernel)), by decide +kernel, by decide +kernel⟩
theorem ck_mst63 : Cond.static ck_m63.1 ∈ ck_TS := (ck_mem 1547 (by decide +kernel) (by decide +kernel))
set_option maxRecDepth 100000 in
theorem ck_mw64 : Cond.code ck_m64.1 ck_m64.2.1 ck_m64.2.2.1 ck_m64.2.2.2.1 ∈ ck_TS ∧ Cond.initialized ck_m64.1.cls ∈ ck_TS ∧ (ck_m64.1.cls ≠ "java/lang/invoke/MethodHandle" ∧ ck_m64.1.cls ≠ "java/lang/invoke/VarHandle") ∧ (parseMethodDescriptor ck_m64.1.desc).map (fun d => d.parameters.length) = some ck_m64.2.2.2.2 := ⟨ck_mem 787 rfl (by decide +kernel), (ck_mem 123 (by decide +kernel) (by decide +kernel)), by decide +kernel, by decide +kernel⟩
theorem ck_mv64 : Cond.instanceMethod ck_m64.1 ∈ ck_TS ∧ Cond.selects ck_m64.1.cls ck_m64.1 ck_m64.1 ∈ ck_TS := ⟨(ck_mem 785 (by decide +kernel) (by decide +kernel)), (ck_mem 786 (by decide +kernel) (by decide +kernel))⟩
set_option maxRecDepth 100000 in
theorem ck_mw65 : Cond.code ck_m65.1 ck_m65.2.1 ck_m65.2.2.1 ck_m65.2.2.2.1 ∈ ck_TS ∧ Cond.initialized ck_m65.1.cls ∈ ck_TS ∧ (ck_m65.1.cls ≠ "java/lang/invoke/MethodHandle" ∧ ck_m65.1.cls ≠ "java/lang/invoke/VarHandle") ∧ (parseMethodDescriptor ck_m65.1.desc).map (fun d => d.parameters.length) = some ck_m65.2.2.2.2 := ⟨ck_mem 1569 rfl (by decide +kernel), (ck_mem 136 (by decide +kernel) (by decide +kernel)), by decide +kernel, by decide +kernel⟩
theorem ck_mv65 : Cond.instanceMethod ck_m65.1 ∈ ck_TS ∧ Cond.selects ck_m65.1.cls ck_m65.1 ck_m65.1 ∈ ck_TS := ⟨(ck_mem 1567 (by decide +kernel) (by decide +kernel)), (ck_mem 1568 (by decide +kernel) (by decide +kernel))⟩
set_option maxRecDepth 100000 in
theorem ck_mw66 : Cond.code ck_m66.1 ck_m66.2.1 ck_m66.2.2.1 ck_m66.2.2.2.1 ∈ ck_TS ∧ Cond.initialized ck_m66.1.cls ∈ ck_TS ∧ (ck_m66.1.cls ≠ "java/lang/invoke/MethodHandle" ∧ ck_m66.1.cls ≠ "java/lang/invoke/VarHandle") ∧ (parseMethodDescriptor ck_m66.1.desc).map (fun d => d.parameters.length) = some ck_m66.2.2.2.2 := ⟨ck_mem 791 rfl (by decide +kernel), (ck_mem 123 (by decide +kernel) (by decide +kernel)), by decide +kernel, by decide +kernel⟩
theorem ck_mv66 : Cond.instanceMethod ck_m66.1 ∈ ck_TS ∧ Cond.selects ck_m66.1.cls ck_m66.1 ck_m66.1 ∈ ck_TS := ⟨(ck_mem 789 (by decide +kernel) (by decide +kernel)), (ck_mem 790 (by decide +kernel) (by decide +kernel))⟩
set_option maxRecDepth 100000 in
theorem ck_mw67 : Cond.code ck_m67.1 ck_m67.2.1 ck_m67.2.2.1 ck_m67.2.2.2.1 ∈ ck_TS ∧ Cond.initialized ck_m67.1.cls ∈ ck_TS ∧ (ck_m67.1.cls ≠ "java/lang/invoke/MethodHandle" ∧ ck_m67.1.cls ≠ "java/lang/invoke/VarHandle") ∧ (parseMethodDescriptor ck_m67.1.desc).map (fun d => d.parameters.length) = some ck_m67.2.2.2.2 := ⟨ck_mem 1573 rfl (by decide +kernel), (ck_mem 136 (by decide +kernel) (by decide +kernel)), by decide +kernel, by decide +kernel⟩
theorem ck_mv67 : Cond.instanceMethod ck_m67.1 ∈ ck_TS ∧ Cond.selects ck_m67.1.cls ck_m67.1 ck_m67.1 ∈ ck_TS := ⟨(ck_mem 1571 (by decide +kernel) (by decide +kernel)), (ck_mem 1572 (by decide +kernel) (by decide +kernel))⟩
set_option maxRecDepth 100000 in
theorem ck_mw68 : Cond.code ck_m68.1 ck_m68.2.1 ck_m68.2.2.1 ck_m68.2.2.2.1 ∈ ck_TS ∧ Cond.initialized ck_m68.1.cls ∈ ck_TS ∧ (ck_m68.1.cls ≠ "java/lang/invoke/MethodHandle" ∧ ck_m68.1.cls ≠ "java/lang/invoke/VarHandle") ∧ (parseMethodDescriptor ck_m68.1.desc).map (fun d => d.parameters.length) = some ck_m68.2.2.2.2 := ⟨ck_mem 1577 rfl (by decide +kernel), (ck_mem 136 (by decide +kernel) (by decide +kernel)), by decide +kernel, by decide +kernel⟩
theorem ck_mv68 : Cond.instanceMethod ck_m68.1 ∈ ck_TS ∧ Cond.selects ck_m68.1.cls ck_m68.1 ck_m68.1 ∈ ck_TS := ⟨(ck_mem 1576 (by decide +kernel) (by decide +kernel)), (ck_mem 77 (by decide +kernel) (by decide +kernel))⟩
set_option maxRecDepth 100000 in
theorem ck_mw69 : Cond.code ck_m69.1 ck_m69.2.1 ck_m69.2.2.1 ck_m69.2.2.2.1 ∈ ck_TS ∧ Cond.initialized ck_m69.1.cls ∈ ck_TS ∧ (ck_m69.1.cls ≠ "java/lang/invoke/MethodHandle" ∧ ck_m69.1.cls ≠ "java/lang/invoke/VarHandle") ∧ (parseMethodDescriptor ck_m69.1.desc).map (fun d => d.parameters.length) = some ck_m69.2.2.2.2 := ⟨ck_mem 795 rfl (by decide +kernel), (ck_mem 123 (by decide +kernel) (by decide +kernel)), by decide +kernel, by decide +kernel⟩
theorem ck_mv69 : Cond.instanceMethod ck_m69.1 ∈ ck_TS ∧ Cond.selects ck_m69.1.cls ck_m69.1 ck_m69.1 ∈ ck_TS := ⟨(ck_mem 793 (by decide +kernel) (by decide +kernel)), (ck_mem 794 (by decide +kernel) (by decide +kernel))⟩
set_option maxRecDepth 100000 in
theorem ck_mw70 : Cond.code ck_m70.1 ck_m70.2.1 ck_m70.2.2.1 ck_m70.2.2.2.1 ∈ ck_TS ∧ Cond.initialized ck_m70.1.cls ∈ ck_TS ∧ (ck_m70.1.cls ≠ "java/lang/invoke/MethodHandle" ∧ ck_m70.1.cls ≠ "java/lang/invoke/VarHandle") ∧ (parseMethodDescriptor ck_m70.1.desc).map (fun d => d.parameters.length) = some ck_m70.2.2.2.2 := ⟨ck_mem 1581 rfl (by decide +kernel), (ck_mem 136 (by decide +kernel) (by decide +kernel)), by decide +kernel, by decide +kernel⟩
theorem ck_mv70 : Cond.instanceMethod ck_m70.1 ∈ ck_TS ∧ Cond.selects ck_m70.1.cls ck_m70.1 ck_m70.1 ∈ ck_TS := ⟨(ck_mem 1579 (by decide +kernel) (by decide +kernel)), (ck_mem 1580 (by decide +kernel) (by decide +kernel))⟩
set_option maxRecDepth 100000 in
theorem ck_mw71 : Cond.code ck_m71.1 ck_m71.2.1 ck_m71.2.2.1 ck_m71.2.2.2.1 ∈ ck_TS ∧ Cond.initialized ck_m71.1.cls ∈ ck_TS ∧ (ck_m71.1.cls ≠ "java/lang/invoke/MethodHandle" ∧ ck_m71.1.cls ≠ "java/lang/invoke/VarHandle") ∧ (parseMethodDescriptor ck_m71.1.desc).map (fun d => d.parameters.length) = some ck_m71.2.2.2.2 := ⟨ck_mem 842 rfl (by decide +kernel), (ck_mem 123 (by decide +kernel) (by decide +kernel)), by decide +kernel, by decide +kernel⟩
theorem ck_mv71 : Cond.instanceMethod ck_m71.1 ∈ ck_TS ∧ Cond.selects ck_m71.1.cls ck_m71.1 ck_m71.1 ∈ ck_TS := ⟨(ck_mem 840 (by decide +kernel) (by decide +kernel)), (ck_mem 841 (by decide +kernel) (by decide +kernel))⟩
set_option maxRecDepth 100000 in
theorem ck_mw72 : Cond.code ck_m72.1 ck_m72.2.1 ck_m72.2.2.1 ck_m72.2.2.2.1 ∈ ck_TS ∧ Cond.initialized ck_m72.1.cls ∈ ck_TS ∧ (ck_m72.1.cls ≠ "java/lang/invoke/MethodHandle" ∧ ck_m72.1.cls ≠ "java/lang/invoke/VarHandle") ∧ (parseMethodDescriptor ck_m72.1.desc).map (fun d => d.parameters.length) = some ck_m72.2.2.2.2 := ⟨ck_mem 1646 rfl (by decide +kernel), (ck_mem 136 (by decide +kernel) (by decide +kernel)), by decide +kernel, by decide +kernel⟩
theorem ck_mv72 : Cond.instanceMethod ck_m72.1 ∈ ck_TS ∧ Cond.selects ck_m72.1.cls ck_m72.1 ck_m72.1 ∈ ck_TS := ⟨(ck_mem 1644 (by decide +kernel) (by decide +kernel)), (ck_mem 1645 (by decide +kernel) (by decide +kernel))⟩
set_option maxRecDepth 100000 in
theorem ck_mw73 : Cond.code ck_m73.1 ck_m73.2.1 ck_m73.2.2.1 ck_m73.2.2.2.1 ∈ ck_TS ∧ Cond.initialized ck_m73.1.cls ∈ ck_TS ∧ (ck_m73.1.cls ≠ "java/lang/invoke/MethodHandle" ∧ ck_m73.1.cls ≠ "java/lang/invoke/VarHandle") ∧ (parseMethodDescriptor ck_m73.1.desc).map (fun d => d.parameters.length) = some ck_m73.2.2.2.2 := ⟨ck_mem 1584 rfl (by decide +kernel), (ck_mem 136 (by decide +kernel) (by decide +kernel)), by decide +kernel, by decide +kernel⟩
theorem ck_mst73 : Cond.static ck_m73.1 ∈ ck_TS := (ck_mem 1583 (by decide +kernel) (by decide +kernel))
set_option maxRecDepth 100000 in
theorem ck_mw74 : Cond.code ck_m74.1 ck_m74.2.1 ck_m74.2.2.1 ck_m74.2.2.2.1 ∈ ck_TS ∧ Cond.initialized ck_m74.1.cls ∈ ck_TS ∧ (ck_m74.1.cls ≠ "java/lang/invoke/MethodHandle" ∧ ck_m74.1.cls ≠ "java/lang/invoke/VarHandle") ∧ (parseMethodDescriptor ck_m74.1.desc).map (fun d => d.parameters.length) = some ck_m74.2.2.2.2 := ⟨ck_mem 873 rfl (by decide +kernel), (ck_mem 123 (by decide +kernel) (by decide +kernel)), by decide +kernel, by decide +kernel⟩
theorem ck_mv74 : Cond.instanceMethod ck_m74.1 ∈ ck_TS ∧ Cond.selects ck_m74.1.cls ck_m74.1 ck_m74.1 ∈ ck_TS := ⟨(ck_mem 871 (by decide +kernel) (by decide +kernel)), (ck_mem 872 (by decide +kernel) (by decide +kernel))⟩
set_option maxRecDepth 100000 in
theorem ck_mw75 : Cond.code ck_m75.1 ck_m75.2.1 ck_m75.2.2.1 ck_m75.2.2.2.1 ∈ ck_TS ∧ Cond.initialized ck_m75.1.cls ∈ ck_TS ∧ (ck_m75.1.cls ≠ "java/lang/invoke/MethodHandle" ∧ ck_m75.1.cls ≠ "java/lang/invoke/VarHandle") ∧ (parseMethodDescriptor ck_m75.1.desc).map (fun d => d.parameters.length) = some ck_m75.2.2.2.2 := ⟨ck_mem 1661 rfl (by decide +kernel), (ck_mem 136 (by decide +kernel) (by decide +kernel)), by decide +kernel, by decide +kernel⟩
theorem ck_mv75 : Cond.instanceMethod ck_m75.1 ∈ ck_TS ∧ Cond.selects ck_m75.1.cls ck_m75.1 ck_m75.1 ∈ ck_TS := ⟨(ck_mem 1659 (by decide +kernel) (by decide +kernel)), (ck_mem 1660 (by decide +kernel) (by decide +kernel))⟩
set_option maxRecDepth 100000 in
theorem ck_mw76 : Cond.code ck_m76.1 ck_m76.2.1 ck_m76.2.2.1 ck_m76.2.2.2.1 ∈ ck_TS ∧ Cond.initialized ck_m76.1.cls ∈ ck_TS ∧ (ck_m76.1.cls ≠ "java/lang/invoke/MethodHandle" ∧ ck_m76.1.cls ≠ "java/lang/invoke/VarHandle") ∧ (parseMethodDescriptor ck_m76.1.desc).map (fun d => d.parameters.length) = some ck_m76.2.2.2.2 := ⟨ck_mem 885 rfl (by decide +kernel), (ck_mem 123 (by decide +kernel) (by decide +kernel)), by decide +kernel, by decide +kernel⟩
theorem ck_mv76 : Cond.instanceMethod ck_m76.1 ∈ ck_TS ∧ Cond.selects ck_m76.1.cls ck_m76.1 ck_m76.1 ∈ ck_TS := ⟨(ck_mem 883 (by decide +kernel) (by decide +kernel)), (ck_mem 884 (by decide +kernel) (by decide +kernel))⟩
set_option maxRecDepth 100000 in
theorem ck_mw77 : Cond.code ck_m77.1 ck_m77.2.1 ck_m77.2.2.1 ck_m77.2.2.2.1 ∈ ck_TS ∧ Cond.initialized ck_m77.1.cls ∈ ck_TS ∧ (ck_m77.1.cls ≠ "java/lang/invoke/MethodHandle" ∧ ck_m77.1.cls ≠ "java/lang/invoke/VarHandle") ∧ (parseMethodDescriptor ck_m77.1.desc).map (fun d => d.parameters.length) = some ck_m77.2.2.2.2 := ⟨ck_mem 889 rfl (by decide +kernel), (ck_mem 124 (by decide +kernel) (by decide +kernel)), by decide +kernel, by decide +kernel⟩
theorem ck_mv77 : Cond.instanceMethod ck_m77.1 ∈ ck_TS ∧ Cond.selects ck_m77.1.cls ck_m77.1 ck_m77.1 ∈ ck_TS := ⟨(ck_mem 887 (by decide +kernel) (by decide +kernel)), (ck_mem 888 (by decide +kernel) (by decide +kernel))⟩
set_option maxRecDepth 100000 in
theorem ck_mw78 : Cond.code ck_m78.1 ck_m78.2.1 ck_m78.2.2.1 ck_m78.2.2.2.1 ∈ ck_TS ∧ Cond.initialized ck_m78.1.cls ∈ ck_TS ∧ (ck_m78.1.cls ≠ "java/lang/invoke/MethodHandle" ∧ ck_m78.1.cls ≠ "java/lang/invoke/VarHandle") ∧ (parseMethodDescriptor ck_m78.1.desc).map (fun d => d.parameters.length) = some ck_m78.2.2.2.2 := ⟨ck_mem 1665 rfl (by decide +kernel), (ck_mem 136 (by decide +kernel) (by decide +kernel)), by decide +kernel, by decide +kernel⟩
theorem ck_mv78 : Cond.instanceMethod ck_m78.1 ∈ ck_TS ∧ Cond.selects ck_m78.1.cls ck_m78.1 ck_m78.1 ∈ ck_TS := ⟨(ck_mem 1663 (by decide +kernel) (by decide +kernel)), (ck_mem 1664 (by decide +kernel) (by decide +kernel))⟩
set_option maxRecDepth 100000 in
theorem ck_mw79 : Cond.code ck_m79.1 ck_m79.2.1 ck_m79.2.2.1 ck_m79.2.2.2.1 ∈ ck_TS ∧ Cond.initialized ck_m79.1.cls ∈ ck_TS ∧ (ck_m79.1.cls ≠ "java/lang/invoke/MethodHandle" ∧ ck_m79.1.cls ≠ "java/lang/invoke/VarHandle") ∧ (parseMethodDescriptor ck_m79.1.desc).map (fun d => d.parameters.length) = some ck_m79.2.2.2.2 := ⟨ck_mem 1669 rfl (by decide +kernel), (ck_mem 136 (by decide +kernel) (by decide +kernel)), by decide +kernel, by decide +kernel⟩
theorem ck_mv79 : Cond.instanceMethod ck_m79.1 ∈ ck_TS ∧ Cond.selects ck_m79.1.cls ck_m79.1 ck_m79.1 ∈ ck_TS := ⟨(ck_mem 1668 (by decide +kernel) (by decide +kernel)), (ck_mem 93 (by decide +kernel) (by decide +kernel))⟩
set_option maxRecDepth 100000 in
theorem ck_mw80 : Cond.code ck_m80.1 ck_m80.2.1 ck_m80.2.2.1 ck_m80.2.2.2.1 ∈ ck_TS ∧ Cond.initialized ck_m80.1.cls ∈ ck_TS ∧ (ck_m80.1.cls ≠ "java/lang/invoke/MethodHandle" ∧ ck_m80.1.cls ≠ "java/lang/invoke/VarHandle") ∧ (parseMethodDescriptor ck_m80.1.desc).map (fun d => d.parameters.length) = some ck_m80.2.2.2.2 := ⟨ck_mem 897 rfl (by decide +kernel), (ck_mem 123 (by decide +kernel) (by decide +kernel)), by decide +kernel, by decide +kernel⟩
theorem ck_mv80 : Cond.instanceMethod ck_m80.1 ∈ ck_TS ∧ Cond.selects ck_m80.1.cls ck_m80.1 ck_m80.1 ∈ ck_TS := ⟨(ck_mem 895 (by decide +kernel) (by decide +kernel)), (ck_mem 896 (by decide +kernel) (by decide +kernel))⟩
set_option maxRecDepth 100000 in
theorem ck_mw81 : Cond.code ck_m81.1 ck_m81.2.1 ck_m81.2.2.1 ck_m81.2.2.2.1 ∈ ck_TS ∧ Cond.initialized ck_m81.1.cls ∈ ck_TS ∧ (ck_m81.1.cls ≠ "java/lang/invoke/MethodHandle" ∧ ck_m81.1.cls ≠ "java/lang/invoke/VarHandle") ∧ (parseMethodDescriptor ck_m81.1.desc).map (fun d => d.parameters.length) = some ck_m81.2.2.2.2 := ⟨ck_mem 1677 rfl (by decide +kernel), (ck_mem 136 (by decide +kernel) (by decide +kernel)), by decide +kernel, by decide +kernel⟩
theorem ck_mv81 : Cond.instanceMethod ck_m81.1 ∈ ck_TS ∧ Cond.selects ck_m81.1.cls ck_m81.1 ck_m81.1 ∈ ck_TS := ⟨(ck_mem 1675 (by decide +kernel) (by decide +kernel)), (ck_mem 1676 (by decide +kernel) (by decide +kernel))⟩
set_option maxRecDepth 100000 in
theorem ck_mw82 : Cond.code ck_m82.1 ck_m82.2.1 ck_m82.2.2.1 ck_m82.2.2.2.1 ∈ ck_TS ∧ Cond.initialized ck_m82.1.cls ∈ ck_TS ∧ (ck_m82.1.cls ≠ "java/lang/invoke/MethodHandle" ∧ ck_m82.1.cls ≠ "java/lang/invoke/VarHandle") ∧ (parseMethodDescriptor ck_m82.1.desc).map (fun d => d.parameters.length) = some ck_m82.2.2.2.2 := ⟨ck_mem 905 rfl (by decide +kernel), (ck_mem 123 (by decide +kernel) (by decide +kernel)), by decide +kernel, by decide +kernel⟩
theorem ck_mv82 : Cond.instanceMethod ck_m82.1 ∈ ck_TS ∧ Cond.selects ck_m82.1.cls ck_m82.1 ck_m82.1 ∈ ck_TS := ⟨(ck_mem 903 (by decide +kernel) (by decide +kernel)), (ck_mem 904 (by decide +kernel) (by decide +kernel))⟩
set_option maxRecDepth 100000 in
theorem ck_mw83 : Cond.code ck_m83.1 ck_m83.2.1 ck_m83.2.2.1 ck_m83.2.2.2.1 ∈ ck_TS ∧ Cond.initialized ck_m83.1.cls ∈ ck_TS ∧ (ck_m83.1.cls ≠ "java/lang/invoke/MethodHandle" ∧ ck_m83.1.cls ≠ "java/lang/invoke/VarHandle") ∧ (parseMethodDescriptor ck_m83.1.desc).map (fun d => d.parameters.length) = some ck_m83.2.2.2.2 := ⟨ck_mem 1681 rfl (by decide +kernel), (ck_mem 136 (by decide +kernel) (by decide +kernel)), by decide +kernel, by decide +kernel⟩
theorem ck_mv83 : Cond.instanceMethod ck_m83.1 ∈ ck_TS ∧ Cond.selects ck_m83.1.cls ck_m83.1 ck_m83.1 ∈ ck_TS := ⟨(ck_mem 1679 (by decide +kernel) (by decide +kernel)), (ck_mem 1680 (by decide +kernel) (by decide +kernel))⟩
set_option maxRecDepth 100000 in
theorem ck_mw84 : Cond.code ck_m84.1 ck_m84.2.1 ck_m84.2.2.1 ck_m84.2.2.2.1 ∈ ck_TS ∧ Cond.initialized ck_m84.1.cls ∈ ck_TS ∧ (ck_m84.1.cls ≠ "java/lang/invoke/MethodHandle" ∧ ck_m84.1.cls ≠ "java/lang/invoke/VarHandle") ∧ (parseMethodDescriptor ck_m84.1.desc).map (fun d => d.parameters.length) = some ck_m84.2.2.2.2 := ⟨ck_mem 914 rfl (by decide +kernel), (ck_mem 123 (by decide +kernel) (by decide +kernel)), by decide +kernel, by decide +kernel⟩
theorem ck_mv84 : Cond.instanceMethod ck_m84.1 ∈ ck_TS ∧ Cond.selects ck_m84.1.cls ck_m84.1 ck_m84.1 ∈ ck_TS := ⟨(ck_mem 912 (by decide +kernel) (by decide +kernel)), (ck_mem 913 (by decide +kernel) (by decide +kernel))⟩
set_option maxRecDepth 100000 in
theorem ck_mw85 : Cond.code ck_m85.1 ck_m85.2.1 ck_m85.2.2.1 ck_m85.2.2.2.1 ∈ ck_TS ∧ Cond.initialized ck_m85.1.cls ∈ ck_TS ∧ (ck_m85.1.cls ≠ "java/lang/invoke/MethodHandle" ∧ ck_m85.1.cls ≠ "java/lang/invoke/VarHandle") ∧ (parseMethodDescriptor ck_m85.1.desc).map (fun d => d.parameters.length) = some ck_m85.2.2.2.2 := ⟨ck_mem 918 rfl (by decide +kernel), (ck_mem 123 (by decide +kernel) (by decide +kernel)), by decide +kernel, by decide +kernel⟩
theorem ck_mv85 : Cond.instanceMethod ck_m85.1 ∈ ck_TS ∧ Cond.selects ck_m85.1.cls ck_m85.1 ck_m85.1 ∈ ck_TS := ⟨(ck_mem 917 (by decide +kernel) (by decide +kernel)), (ck_mem 29 (by decide +kernel) (by decide +kernel))⟩
set_option maxRecDepth 100000 in
theorem ck_mw86 : Cond.code ck_m86.1 ck_m86.2.1 ck_m86.2.2.1 ck_m86.2.2.2.1 ∈ ck_TS ∧ Cond.initialized ck_m86.1.cls ∈ ck_TS ∧ (ck_m86.1.cls ≠ "java/lang/invoke/MethodHandle" ∧ ck_m86.1.cls ≠ "java/lang/invoke/VarHandle") ∧ (parseMethodDescriptor ck_m86.1.desc).map (fun d => d.parameters.length) = some ck_m86.2.2.2.2 := ⟨ck_mem 1689 rfl (by decide +kernel), (ck_mem 136 (by decide +kernel) (by decide +kernel)), by decide +kernel, by decide +kernel⟩
theorem ck_mv86 : Cond.instanceMethod ck_m86.1 ∈ ck_TS ∧ Cond.selects ck_m86.1.cls ck_m86.1 ck_m86.1 ∈ ck_TS := ⟨(ck_mem 1687 (by decide +kernel) (by decide +kernel)), (ck_mem 1688 (by decide +kernel) (by decide +kernel))⟩
set_option maxRecDepth 100000 in
theorem ck_mw87 : Cond.code ck_m87.1 ck_m87.2.1 ck_m87.2.2.1 ck_m87.2.2.2.1 ∈ ck_TS ∧ Cond.initialized ck_m87.1.cls ∈ ck_TS ∧ (ck_m87.1.cls ≠ "java/lang/invoke/MethodHandle" ∧ ck_m87.1.cls ≠ "java/lang/invoke/VarHandle") ∧ (parseMethodDescriptor ck_m87.1.desc).map (fun d => d.parameters.length) = some ck_m87.2.2.2.2 := ⟨ck_mem 943 rfl (by decide +kernel), (ck_mem 123 (by decide +kernel) (by decide +kernel)), by decide +kernel, by decide +kernel⟩
theorem ck_mv87 : Cond.instanceMethod ck_m87.1 ∈ ck_TS ∧ Cond.selects ck_m87.1.cls ck_m87.1 ck_m87.1 ∈ ck_TS := ⟨(ck_mem 941 (by decide +kernel) (by decide +kernel)), (ck_mem 942 (by decide +kernel) (by decide +kernel))⟩
set_option maxRecDepth 100000 in
theorem ck_mw88 : Cond.code ck_m88.1 ck_m88.2.1 ck_m88.2.2.1 ck_m88.2.2.2.1 ∈ ck_TS ∧ Cond.initialized ck_m88.1.cls ∈ ck_TS ∧ (ck_m88.1.cls ≠ "java/lang/invoke/MethodHandle" ∧ ck_m88.1.cls ≠ "java/lang/invoke/VarHandle") ∧ (parseMethodDescriptor ck_m88.1.desc).map (fun d => d.parameters.length) = some ck_m88.2.2.2.2 := ⟨ck_mem 1701 rfl (by decide +kernel), (ck_mem 136 (by decide +kernel) (by decide +kernel)), by decide +kernel, by decide +kernel⟩
theorem ck_mv88 : Cond.instanceMethod ck_m88.1 ∈ ck_TS ∧ Cond.selects ck_m88.1.cls ck_m88.1 ck_m88.1 ∈ ck_TS := ⟨(ck_mem 1699 (by decide +kernel) (by decide +kernel)), (ck_mem 1700 (by decide +kernel) (by decide +kernel))⟩
set_option maxRecDepth 100000 in
theorem ck_mw89 : Cond.code ck_m89.1 ck_m89.2.1 ck_m89.2.2.1 ck_m89.2.2.2.1 ∈ ck_TS ∧ Cond.initialized ck_m89.1.cls ∈ ck_TS ∧ (ck_m89.1.cls ≠ "java/lang/invoke/MethodHandle" ∧ ck_m89.1.cls ≠ "java/lang/invoke/VarHandle") ∧ (parseMethodDescriptor ck_m89.1.desc).map (fun d => d.parameters.length) = some ck_m89.2.2.2.2 := ⟨ck_mem 951 rfl (by decide +kernel), (ck_mem 123 (by decide +kernel) (by decide +kernel)), by decide +kernel, by decide +kernel⟩
theorem ck_mv89 : Cond.instanceMethod ck_m89.1 ∈ ck_TS ∧ Cond.selects ck_m89.1.cls ck_m89.1 ck_m89.1 ∈ ck_TS := ⟨(ck_mem 949 (by decide +kernel) (by decide +kernel)), (ck_mem 950 (by decide +kernel) (by decide +kernel))⟩
set_option maxRecDepth 100000 in
theorem ck_mw90 : Cond.code ck_m90.1 ck_m90.2.1 ck_m90.2.2.1 ck_m90.2.2.2.1 ∈ ck_TS ∧ Cond.initialized ck_m90.1.cls ∈ ck_TS ∧ (ck_m90.1.cls ≠ "java/lang/invoke/MethodHandle" ∧ ck_m90.1.cls ≠ "java/lang/invoke/VarHandle") ∧ (parseMethodDescriptor ck_m90.1.desc).map (fun d => d.parameters.length) = some ck_m90.2.2.2.2 := ⟨ck_mem 922 rfl (by decide +kernel), (ck_mem 129 (by decide +kernel) (by decide +kernel)), by decide +kernel, by decide +kernel⟩
theorem ck_mv90 : Cond.instanceMethod ck_m90.1 ∈ ck_TS ∧ Cond.selects ck_m90.1.cls ck_m90.1 ck_m90.1 ∈ ck_TS := ⟨(ck_mem 920 (by decide +kernel) (by decide +kernel)), (ck_mem 921 (by decide +kernel) (by decide +kernel))⟩
set_option maxRecDepth 100000 in
theorem ck_mw91 : Cond.code ck_m91.1 ck_m91.2.1 ck_m91.2.2.1 ck_m91.2.2.2.1 ∈ ck_TS ∧ Cond.initialized ck_m91.1.cls ∈ ck_TS ∧ (ck_m91.1.cls ≠ "java/lang/invoke/MethodHandle" ∧ ck_m91.1.cls ≠ "java/lang/invoke/VarHandle") ∧ (parseMethodDescriptor ck_m91.1.desc).map (fun d => d.parameters.length) = some ck_m91.2.2.2.2 := ⟨ck_mem 938 rfl (by decide +kernel), (ck_mem 129 (by decide +kernel) (by decide +kernel)), by decide +kernel, by decide +kernel⟩
theorem ck_mv91 : Cond.instanceMethod ck_m91.1 ∈ ck_TS ∧ Cond.selects ck_m91.1.cls ck_m91.1 ck_m91.1 ∈ ck_TS := ⟨(ck_mem 937 (by decide +kernel) (by decide +kernel)), (ck_mem 31 (by decide +kernel) (by decide +kernel))⟩
set_option maxRecDepth 100000 in
theorem ck_mw92 : Cond.code ck_m92.1 ck_m92.2.1 ck_m92.2.2.1 ck_m92.2.2.2.1 ∈ ck_TS ∧ Cond.initialized ck_m92.1.cls ∈ ck_TS ∧ (ck_m92.1.cls ≠ "java/lang/invoke/MethodHandle" ∧ ck_m92.1.cls ≠ "java/lang/invoke/VarHandle") ∧ (parseMethodDescriptor ck_m92.1.desc).map (fun d => d.parameters.length) = some ck_m92.2.2.2.2 := ⟨ck_mem 955 rfl (by decide +kernel), (ck_mem 130 (by decide +kernel) (by decide +kernel)), by decide +kernel, by decide +kernel⟩
theorem ck_mv92 : Cond.instanceMethod ck_m92.1 ∈ ck_TS ∧ Cond.selects ck_m92.1.cls ck_m92.1 ck_m92.1 ∈ ck_TS := ⟨(ck_mem 953 (by decide +kernel) (by decide +kernel)), (ck_mem 954 (by decide +kernel) (by decide +kernel))⟩
set_option maxRecDepth 100000 in
theorem ck_mw93 : Cond.code ck_m93.1 ck_m93.2.1 ck_m93.2.2.1 ck_m93.2.2.2.1 ∈ ck_TS ∧ Cond.initialized ck_m93.1.cls ∈ ck_TS ∧ (ck_m93.1.cls ≠ "java/lang/invoke/MethodHandle" ∧ ck_m93.1.cls ≠ "java/lang/invoke/VarHandle") ∧ (parseMethodDescriptor ck_m93.1.desc).map (fun d => d.parameters.length) = some ck_m93.2.2.2.2 := ⟨ck_mem 958 rfl (by decide +kernel), (ck_mem 131 (by decide +kernel) (by decide +kernel)), by decide +kernel, by decide +kernel⟩
theorem ck_mst93 : Cond.static ck_m93.1 ∈ ck_TS := (ck_mem 957 (by decide +kernel) (by decide +kernel))
set_option maxRecDepth 100000 in
theorem ck_mw94 : Cond.code ck_m94.1 ck_m94.2.1 ck_m94.2.2.1 ck_m94.2.2.2.1 ∈ ck_TS ∧ Cond.initialized ck_m94.1.cls ∈ ck_TS ∧ (ck_m94.1.cls ≠ "java/lang/invoke/MethodHandle" ∧ ck_m94.1.cls ≠ "java/lang/invoke/VarHandle") ∧ (parseMethodDescriptor ck_m94.1.desc).map (fun d => d.parameters.length) = some ck_m94.2.2.2.2 := ⟨ck_mem 961 rfl (by decide +kernel), (ck_mem 131 (by decide +kernel) (by decide +kernel)), by decide +kernel, by decide +kernel⟩
theorem ck_mst94 : Cond.static ck_m94.1 ∈ ck_TS := (ck_mem 960 (by decide +kernel) (by decide +kernel))
set_option maxRecDepth 100000 in
theorem ck_mw95 : Cond.code ck_m95.1 ck_m95.2.1 ck_m95.2.2.1 ck_m95.2.2.2.1 ∈ ck_TS ∧ Cond.initialized ck_m95.1.cls ∈ ck_TS ∧ (ck_m95.1.cls ≠ "java/lang/invoke/MethodHandle" ∧ ck_m95.1.cls ≠ "java/lang/invoke/VarHandle") ∧ (parseMethodDescriptor ck_m95.1.desc).map (fun d => d.parameters.length) = some ck_m95.2.2.2.2 := ⟨ck_mem 1709 rfl (by decide +kernel), (ck_mem 136 (by decide +kernel) (by decide +kernel)), by decide +kernel, by decide +kernel⟩
theorem ck_mv95 : Cond.instanceMethod ck_m95.1 ∈ ck_TS ∧ Cond.selects ck_m95.1.cls ck_m95.1 ck_m95.1 ∈ ck_TS := ⟨(ck_mem 1707 (by decide +kernel) (by decide +kernel)), (ck_mem 1708 (by decide +kernel) (by decide +kernel))⟩
set_option maxRecDepth 100000 in
theorem ck_mw96 : Cond.code ck_m96.1 ck_m96.2.1 ck_m96.2.2.1 ck_m96.2.2.2.1 ∈ ck_TS ∧ Cond.initialized ck_m96.1.cls ∈ ck_TS ∧ (ck_m96.1.cls ≠ "java/lang/invoke/MethodHandle" ∧ ck_m96.1.cls ≠ "java/lang/invoke/VarHandle") ∧ (parseMethodDescriptor ck_m96.1.desc).map (fun d => d.parameters.length) = some ck_m96.2.2.2.2 := ⟨ck_mem 1693 rfl (by decide +kernel), (ck_mem 136 (by decide +kernel) (by decide +kernel)), by decide +kernel, by decide +kernel⟩
theorem ck_mv96 : Cond.instanceMethod ck_m96.1 ∈ ck_TS ∧ Cond.selects ck_m96.1.cls ck_m96.1 ck_m96.1 ∈ ck_TS := ⟨(ck_mem 1692 (by decide +kernel) (by decide +kernel)), (ck_mem 96 (by decide +kernel) (by decide +kernel))⟩
set_option maxRecDepth 100000 in
theorem ck_mw97 : Cond.code ck_m97.1 ck_m97.2.1 ck_m97.2.2.1 ck_m97.2.2.2.1 ∈ ck_TS ∧ Cond.initialized ck_m97.1.cls ∈ ck_TS ∧ (ck_m97.1.cls ≠ "java/lang/invoke/MethodHandle" ∧ ck_m97.1.cls ≠ "java/lang/invoke/VarHandle") ∧ (parseMethodDescriptor ck_m97.1.desc).map (fun d => d.parameters.length) = some ck_m97.2.2.2.2 := ⟨ck_mem 1713 rfl (by decide +kernel), (ck_mem 136 (by decide +kernel) (by decide +kernel)), by decide +kernel, by decide +kernel⟩
theorem ck_mv97 : Cond.instanceMethod ck_m97.1 ∈ ck_TS ∧ Cond.selects ck_m97.1.cls ck_m97.1 ck_m97.1 ∈ ck_TS := ⟨(ck_mem 1712 (by decide +kernel) (by decide +kernel)), (ck_mem 99 (by decide +kernel) (by decide +kernel))⟩
set_option maxRecDepth 100000 in
theorem ck_mw98 : Cond.code ck_m98.1 ck_m98.2.1 ck_m98.2.2.1 ck_m98.2.2.2.1 ∈ ck_TS ∧ Cond.initialized ck_m98.1.cls ∈ ck_TS ∧ (ck_m98.1.cls ≠ "java/lang/invoke/MethodHandle" ∧ ck_m98.1.cls ≠ "java/lang/invoke/VarHandle") ∧ (parseMethodDescriptor ck_m98.1.desc).map (fun d => d.parameters.length) = some ck_m98.2.2.2.2 := ⟨ck_mem 969 rfl (by decide +kernel), (ck_mem 123 (by decide +kernel) (by decide +kernel)), by decide +kernel, by decide +kernel⟩
theorem ck_mv98 : Cond.instanceMethod ck_m98.1 ∈ ck_TS ∧ Cond.selects ck_m98.1.cls ck_m98.1 ck_m98.1 ∈ ck_TS := ⟨(ck_mem 967 (by decide +kernel) (by decide +kernel)), (ck_mem 968 (by decide +kernel) (by decide +kernel))⟩
set_option maxRecDepth 100000 in
theorem ck_mw99 : Cond.code ck_m99.1 ck_m99.2.1 ck_m99.2.2.1 ck_m99.2.2.2.1 ∈ ck_TS ∧ Cond.initialized ck_m99.1.cls ∈ ck_TS ∧ (ck_m99.1.cls ≠ "java/lang/invoke/MethodHandle" ∧ ck_m99.1.cls ≠ "java/lang/invoke/VarHandle") ∧ (parseMethodDescriptor ck_m99.1.desc).map (fun d => d.parameters.length) = some ck_m99.2.2.2.2 := ⟨ck_mem 1717 rfl (by decide +kernel), (ck_mem 136 (by decide +kernel) (by decide +kernel)), by decide +kernel, by decide +kernel⟩
theorem ck_mv99 : Cond.instanceMethod ck_m99.1 ∈ ck_TS ∧ Cond.selects ck_m99.1.cls ck_m99.1 ck_m99.1 ∈ ck_TS := ⟨(ck_mem 1715 (by decide +kernel) (by decide +kernel)), (ck_mem 1716 (by decide +kernel) (by decide +kernel))⟩
set_option maxRecDepth 100000 in
theorem ck_mw100 : Cond.code ck_m100.1 ck_m100.2.1 ck_m100.2.2.1 ck_m100.2.2.2.1 ∈ ck_TS ∧ Cond.initialized ck_m100.1.cls ∈ ck_TS ∧ (ck_m100.1.cls ≠ "java/lang/invoke/MethodHandle" ∧ ck_m100.1.cls ≠ "java/lang/invoke/VarHandle") ∧ (parseMethodDescriptor ck_m100.1.desc).map (fun d => d.parameters.length) = some ck_m100.2.2.2.2 := ⟨ck_mem 973 rfl (by decide +kernel), (ck_mem 123 (by decide +kernel) (by decide +kernel)), by decide +kernel, by decide +kernel⟩
theorem ck_mv100 : Cond.instanceMethod ck_m100.1 ∈ ck_TS ∧ Cond.selects ck_m100.1.cls ck_m100.1 ck_m100.1 ∈ ck_TS := ⟨(ck_mem 971 (by decide +kernel) (by decide +kernel)), (ck_mem 972 (by decide +kernel) (by decide +kernel))⟩
set_option maxRecDepth 100000 in
theorem ck_mw101 : Cond.code ck_m101.1 ck_m101.2.1 ck_m101.2.2.1 ck_m101.2.2.2.1 ∈ ck_TS ∧ Cond.initialized ck_m101.1.cls ∈ ck_TS ∧ (ck_m101.1.cls ≠ "java/lang/invoke/MethodHandle" ∧ ck_m101.1.cls ≠ "java/lang/invoke/VarHandle") ∧ (parseMethodDescriptor ck_m101.1.desc).map (fun d => d.parameters.length) = some ck_m101.2.2.2.2 := ⟨ck_mem 1721 rfl (by decide +kernel), (ck_mem 136 (by decide +kernel) (by decide +kernel)), by decide +kernel, by decide +kernel⟩
theorem ck_mv101 : Cond.instanceMethod ck_m101.1 ∈ ck_TS ∧ Cond.selects ck_m101.1.cls ck_m101.1 ck_m101.1 ∈ ck_TS := ⟨(ck_mem 1719 (by decide +kernel) (by decide +kernel)), (ck_mem 1720 (by decide +kernel) (by decide +kernel))⟩
set_option maxRecDepth 100000 in
theorem ck_mw102 : Cond.code ck_m102.1 ck_m102.2.1 ck_m102.2.2.1 ck_m102.2.2.2.1 ∈ ck_TS ∧ Cond.initialized ck_m102.1.cls ∈ ck_TS ∧ (ck_m102.1.cls ≠ "java/lang/invoke/MethodHandle" ∧ ck_m102.1.cls ≠ "java/lang/invoke/VarHandle") ∧ (parseMethodDescriptor ck_m102.1.desc).map (fun d => d.parameters.length) = some ck_m102.2.2.2.2 := ⟨ck_mem 985 rfl (by decide +kernel), (ck_mem 123 (by decide +kernel) (by decide +kernel)), by decide +kernel, by decide +kernel⟩
theorem ck_mv102 : Cond.instanceMethod ck_m102.1 ∈ ck_TS ∧ Cond.selects ck_m102.1.cls ck_m102.1 ck_m102.1 ∈ ck_TS := ⟨(ck_mem 983 (by decide +kernel) (by decide +kernel)), (ck_mem 984 (by decide +kernel) (by decide +kernel))⟩
set_option maxRecDepth 100000 in
theorem ck_mw103 : Cond.code ck_m103.1 ck_m103.2.1 ck_m103.2.2.1 ck_m103.2.2.2.1 ∈ ck_TS ∧ Cond.initialized ck_m103.1.cls ∈ ck_TS ∧ (ck_m103.1.cls ≠ "java/lang/invoke/MethodHandle" ∧ ck_m103.1.cls ≠ "java/lang/invoke/VarHandle") ∧ (parseMethodDescriptor ck_m103.1.desc).map (fun d => d.parameters.length) = some ck_m103.2.2.2.2 := ⟨ck_mem 1725 rfl (by decide +kernel), (ck_mem 136 (by decide +kernel) (by decide +kernel)), by decide +kernel, by decide +kernel⟩
theorem ck_mv103 : Cond.instanceMethod ck_m103.1 ∈ ck_TS ∧ Cond.selects ck_m103.1.cls ck_m103.1 ck_m103.1 ∈ ck_TS := ⟨(ck_mem 1723 (by decide +kernel) (by decide +kernel)), (ck_mem 1724 (by decide +kernel) (by decide +kernel))⟩
set_option maxRecDepth 100000 in
theorem ck_mw104 : Cond.code ck_m104.1 ck_m104.2.1 ck_m104.2.2.1 ck_m104.2.2.2.1 ∈ ck_TS ∧ Cond.initialized ck_m104.1.cls ∈ ck_TS ∧ (ck_m104.1.cls ≠ "java/lang/invoke/MethodHandle" ∧ ck_m104.1.cls ≠ "java/lang/invoke/VarHandle") ∧ (parseMethodDescriptor ck_m104.1.desc).map (fun d => d.parameters.length) = some ck_m104.2.2.2.2 := ⟨ck_mem 995 rfl (by decide +kernel), (ck_mem 123 (by decide +kernel) (by decide +kernel)), by decide +kernel, by decide +kernel⟩
theorem ck_mv104 : Cond.instanceMethod ck_m104.1 ∈ ck_TS ∧ Cond.selects ck_m104.1.cls ck_m104.1 ck_m104.1 ∈ ck_TS := ⟨(ck_mem 993 (by decide +kernel) (by decide +kernel)), (ck_mem 994 (by decide +kernel) (by decide +kernel))⟩
set_option maxRecDepth 100000 in
theorem ck_mw105 : Cond.code ck_m105.1 ck_m105.2.1 ck_m105.2.2.1 ck_m105.2.2.2.1 ∈ ck_TS ∧ Cond.initialized ck_m105.1.cls ∈ ck_TS ∧ (ck_m105.1.cls ≠ "java/lang/invoke/MethodHandle" ∧ ck_m105.1.cls ≠ "java/lang/invoke/VarHandle") ∧ (parseMethodDescriptor ck_m105.1.desc).map (fun d => d.parameters.length) = some ck_m105.2.2.2.2 := ⟨ck_mem 999 rfl (by decide +kernel), (ck_mem 130 (by decide +kernel) (by decide +kernel)), by decide +kernel, by decide +kernel⟩
theorem ck_mv105 : Cond.instanceMethod ck_m105.1 ∈ ck_TS ∧ Cond.selects ck_m105.1.cls ck_m105.1 ck_m105.1 ∈ ck_TS := ⟨(ck_mem 997 (by decide +kernel) (by decide +kernel)), (ck_mem 998 (by decide +kernel) (by decide +kernel))⟩
set_option maxRecDepth 100000 in
theorem ck_mw106 : Cond.code ck_m106.1 ck_m106.2.1 ck_m106.2.2.1 ck_m106.2.2.2.1 ∈ ck_TS ∧ Cond.initialized ck_m106.1.cls ∈ ck_TS ∧ (ck_m106.1.cls ≠ "java/lang/invoke/MethodHandle" ∧ ck_m106.1.cls ≠ "java/lang/invoke/VarHandle") ∧ (parseMethodDescriptor ck_m106.1.desc).map (fun d => d.parameters.length) = some ck_m106.2.2.2.2 := ⟨ck_mem 1003 rfl (by decide +kernel), (ck_mem 130 (by decide +kernel) (by decide +kernel)), by decide +kernel, by decide +kernel⟩
theorem ck_mv106 : Cond.instanceMethod ck_m106.1 ∈ ck_TS ∧ Cond.selects ck_m106.1.cls ck_m106.1 ck_m106.1 ∈ ck_TS := ⟨(ck_mem 1002 (by decide +kernel) (by decide +kernel)), (ck_mem 34 (by decide +kernel) (by decide +kernel))⟩
set_option maxRecDepth 100000 in
theorem ck_mw107 : Cond.code ck_m107.1 ck_m107.2.1 ck_m107.2.2.1 ck_m107.2.2.2.1 ∈ ck_TS ∧ Cond.initialized ck_m107.1.cls ∈ ck_TS ∧ (ck_m107.1.cls ≠ "java/lang/invoke/MethodHandle" ∧ ck_m107.1.cls ≠ "java/lang/invoke/VarHandle") ∧ (parseMethodDescriptor ck_m107.1.desc).map (fun d => d.parameters.length) = some ck_m107.2.2.2.2 := ⟨ck_mem 1018 rfl (by decide +kernel), (ck_mem 130 (by decide +kernel) (by decide +kernel)), by decide +kernel, by decide +kernel⟩
theorem ck_mv107 : Cond.instanceMethod ck_m107.1 ∈ ck_TS ∧ Cond.selects ck_m107.1.cls ck_m107.1 ck_m107.1 ∈ ck_TS := ⟨(ck_mem 1017 (by decide +kernel) (by decide +kernel)), (ck_mem 37 (by decide +kernel) (by decide +kernel))⟩
set_option maxRecDepth 100000 in
theorem ck_mw108 : Cond.code ck_m108.1 ck_m108.2.1 ck_m108.2.2.1 ck_m108.2.2.2.1 ∈ ck_TS ∧ Cond.initialized ck_m108.1.cls ∈ ck_TS ∧ (ck_m108.1.cls ≠ "java/lang/invoke/MethodHandle" ∧ ck_m108.1.cls ≠ "java/lang/invoke/VarHandle") ∧ (parseMethodDescriptor ck_m108.1.desc).map (fun d => d.parameters.length) = some ck_m108.2.2.2.2 := ⟨ck_mem 1729 rfl (by decide +kernel), (ck_mem 136 (by decide +kernel) (by decide +kernel)), by decide +kernel, by decide +kernel⟩
theorem ck_mv108 : Cond.instanceMethod ck_m108.1 ∈ ck_TS ∧ Cond.selects ck_m108.1.cls ck_m108.1 ck_m108.1 ∈ ck_TS := ⟨(ck_mem 1727 (by decide +kernel) (by decide +kernel)), (ck_mem 1728 (by decide +kernel) (by decide +kernel))⟩
set_option maxRecDepth 100000 in
theorem ck_mw109 : Cond.code ck_m109.1 ck_m109.2.1 ck_m109.2.2.1 ck_m109.2.2.2.1 ∈ ck_TS ∧ Cond.initialized ck_m109.1.cls ∈ ck_TS ∧ (ck_m109.1.cls ≠ "java/lang/invoke/MethodHandle" ∧ ck_m109.1.cls ≠ "java/lang/invoke/VarHandle") ∧ (parseMethodDescriptor ck_m109.1.desc).map (fun d => d.parameters.length) = some ck_m109.2.2.2.2 := ⟨ck_mem 1026 rfl (by decide +kernel), (ck_mem 123 (by decide +kernel) (by decide +kernel)), by decide +kernel, by decide +kernel⟩
theorem ck_mv109 : Cond.instanceMethod ck_m109.1 ∈ ck_TS ∧ Cond.selects ck_m109.1.cls ck_m109.1 ck_m109.1 ∈ ck_TS := ⟨(ck_mem 1024 (by decide +kernel) (by decide +kernel)), (ck_mem 1025 (by decide +kernel) (by decide +kernel))⟩
set_option maxRecDepth 100000 in
theorem ck_mw110 : Cond.code ck_m110.1 ck_m110.2.1 ck_m110.2.2.1 ck_m110.2.2.2.1 ∈ ck_TS ∧ Cond.initialized ck_m110.1.cls ∈ ck_TS ∧ (ck_m110.1.cls ≠ "java/lang/invoke/MethodHandle" ∧ ck_m110.1.cls ≠ "java/lang/invoke/VarHandle") ∧ (parseMethodDescriptor ck_m110.1.desc).map (fun d => d.parameters.length) = some ck_m110.2.2.2.2 := ⟨ck_mem 1737 rfl (by decide +kernel), (ck_mem 136 (by decide +kernel) (by decide +kernel)), by decide +kernel, by decide +kernel⟩
theorem ck_mv110 : Cond.instanceMethod ck_m110.1 ∈ ck_TS ∧ Cond.selects ck_m110.1.cls ck_m110.1 ck_m110.1 ∈ ck_TS := ⟨(ck_mem 1735 (by decide +kernel) (by decide +kernel)), (ck_mem 1736 (by decide +kernel) (by decide +kernel))⟩
set_option maxRecDepth 100000 in
theorem ck_mw111 : Cond.code ck_m111.1 ck_m111.2.1 ck_m111.2.2.1 ck_m111.2.2.2.1 ∈ ck_TS ∧ Cond.initialized ck_m111.1.cls ∈ ck_TS ∧ (ck_m111.1.cls ≠ "java/lang/invoke/MethodHandle" ∧ ck_m111.1.cls ≠ "java/lang/invoke/VarHandle") ∧ (parseMethodDescriptor ck_m111.1.desc).map (fun d => d.parameters.length) = some ck_m111.2.2.2.2 := ⟨ck_mem 1030 rfl (by decide +kernel), (ck_mem 123 (by decide +kernel) (by decide +kernel)), by decide +kernel, by decide +kernel⟩
theorem ck_mv111 : Cond.instanceMethod ck_m111.1 ∈ ck_TS ∧ Cond.selects ck_m111.1.cls ck_m111.1 ck_m111.1 ∈ ck_TS := ⟨(ck_mem 1028 (by decide +kernel) (by decide +kernel)), (ck_mem 1029 (by decide +kernel) (by decide +kernel))⟩
set_option maxRecDepth 100000 in
theorem ck_mw112 : Cond.code ck_m112.1 ck_m112.2.1 ck_m112.2.2.1 ck_m112.2.2.2.1 ∈ ck_TS ∧ Cond.initialized ck_m112.1.cls ∈ ck_TS ∧ (ck_m112.1.cls ≠ "java/lang/invoke/MethodHandle" ∧ ck_m112.1.cls ≠ "java/lang/invoke/VarHandle") ∧ (parseMethodDescriptor ck_m112.1.desc).map (fun d => d.parameters.length) = some ck_m112.2.2.2.2 := ⟨ck_mem 1741 rfl (by decide +kernel), (ck_mem 136 (by decide +kernel) (by decide +kernel)), by decide +kernel, by decide +kernel⟩
theorem ck_mv112 : Cond.instanceMethod ck_m112.1 ∈ ck_TS ∧ Cond.selects ck_m112.1.cls ck_m112.1 ck_m112.1 ∈ ck_TS := ⟨(ck_mem 1739 (by decide +kernel) (by decide +kernel)), (ck_mem 1740 (by decide +kernel) (by decide +kernel))⟩
set_option maxRecDepth 100000 in
theorem ck_mw113 : Cond.code ck_m113.1 ck_m113.2.1 ck_m113.2.2.1 ck_m113.2.2.2.1 ∈ ck_TS ∧ Cond.initialized ck_m113.1.cls ∈ ck_TS ∧ (ck_m113.1.cls ≠ "java/lang/invoke/MethodHandle" ∧ ck_m113.1.cls ≠ "java/lang/invoke/VarHandle") ∧ (parseMethodDescriptor ck_m113.1.desc).map (fun d => d.parameters.length) = some ck_m113.2.2.2.2 := ⟨ck_mem 1044 rfl (by decide +kernel), (ck_mem 123 (by decide +kernel) (by decide +kernel)), by decide +kernel, by decide +kernel⟩
theorem ck_mv113 : Cond.instanceMethod ck_m113.1 ∈ ck_TS ∧ Cond.selects ck_m113.1.cls ck_m113.1 ck_m113.1 ∈ ck_TS := ⟨(ck_mem 1042 (by decide +kernel) (by decide +kernel)), (ck_mem 1043 (by decide +kernel) (by decide +kernel))⟩
set_option maxRecDepth 100000 in
theorem ck_mw114 : Cond.code ck_m114.1 ck_m114.2.1 ck_m114.2.2.1 ck_m114.2.2.2.1 ∈ ck_TS ∧ Cond.initialized ck_m114.1.cls ∈ ck_TS ∧ (ck_m114.1.cls ≠ "java/lang/invoke/MethodHandle" ∧ ck_m114.1.cls ≠ "java/lang/invoke/VarHandle") ∧ (parseMethodDescriptor ck_m114.1.desc).map (fun d => d.parameters.length) = some ck_m114.2.2.2.2 := ⟨ck_mem 1753 rfl (by decide +kernel), (ck_mem 136 (by decide +kernel) (by decide +kernel)), by decide +kernel, by decide +kernel⟩
theorem ck_mv114 : Cond.instanceMethod ck_m114.1 ∈ ck_TS ∧ Cond.selects ck_m114.1.cls ck_m114.1 ck_m114.1 ∈ ck_TS := ⟨(ck_mem 1751 (by decide +kernel) (by decide +kernel)), (ck_mem 1752 (by decide +kernel) (by decide +kernel))⟩
set_option maxRecDepth 100000 in
theorem ck_mw115 : Cond.code ck_m115.1 ck_m115.2.1 ck_m115.2.2.1 ck_m115.2.2.2.1 ∈ ck_TS ∧ Cond.initialized ck_m115.1.cls ∈ ck_TS ∧ (ck_m115.1.cls ≠ "java/lang/invoke/MethodHandle" ∧ ck_m115.1.cls ≠ "java/lang/invoke/VarHandle") ∧ (parseMethodDescriptor ck_m115.1.desc).map (fun d => d.parameters.length) = some ck_m115.2.2.2.2 := ⟨ck_mem 1073 rfl (by decide +kernel), (ck_mem 123 (by decide +kernel) (by decide +kernel)), by decide +kernel, by decide +kernel⟩
theorem ck_mv115 : Cond.instanceMethod ck_m115.1 ∈ ck_TS ∧ Cond.selects ck_m115.1.cls ck_m115.1 ck_m115.1 ∈ ck_TS := ⟨(ck_mem 1071 (by decide +kernel) (by decide +kernel)), (ck_mem 1072 (by decide +kernel) (by decide +kernel))⟩
set_option maxRecDepth 100000 in
theorem ck_mw116 : Cond.code ck_m116.1 ck_m116.2.1 ck_m116.2.2.1 ck_m116.2.2.2.1 ∈ ck_TS ∧ Cond.initialized ck_m116.1.cls ∈ ck_TS ∧ (ck_m116.1.cls ≠ "java/lang/invoke/MethodHandle" ∧ ck_m116.1.cls ≠ "java/lang/invoke/VarHandle") ∧ (parseMethodDescriptor ck_m116.1.desc).map (fun d => d.parameters.length) = some ck_m116.2.2.2.2 := ⟨ck_mem 1765 rfl (by decide +kernel), (ck_mem 136 (by decide +kernel) (by decide +kernel)), by decide +kernel, by decide +kernel⟩
theorem ck_mv116 : Cond.instanceMethod ck_m116.1 ∈ ck_TS ∧ Cond.selects ck_m116.1.cls ck_m116.1 ck_m116.1 ∈ ck_TS := ⟨(ck_mem 1763 (by decide +kernel) (by decide +kernel)), (ck_mem 1764 (by decide +kernel) (by decide +kernel))⟩
set_option maxRecDepth 100000 in
theorem ck_mw117 : Cond.code ck_m117.1 ck_m117.2.1 ck_m117.2.2.1 ck_m117.2.2.2.1 ∈ ck_TS ∧ Cond.initialized ck_m117.1.cls ∈ ck_TS ∧ (ck_m117.1.cls ≠ "java/lang/invoke/MethodHandle" ∧ ck_m117.1.cls ≠ "java/lang/invoke/VarHandle") ∧ (parseMethodDescriptor ck_m117.1.desc).map (fun d => d.parameters.length) = some ck_m117.2.2.2.2 := ⟨ck_mem 1091 rfl (by decide +kernel), (ck_mem 123 (by decide +kernel) (by decide +kernel)), by decide +kernel, by decide +kernel⟩
theorem ck_mv117 : Cond.instanceMethod ck_m117.1 ∈ ck_TS ∧ Cond.selects ck_m117.1.cls ck_m117.1 ck_m117.1 ∈ ck_TS := ⟨(ck_mem 1089 (by decide +kernel) (by decide +kernel)), (ck_mem 1090 (by decide +kernel) (by decide +kernel))⟩
set_option maxRecDepth 100000 in
theorem ck_mw118 : Cond.code ck_m118.1 ck_m118.2.1 ck_m118.2.2.1 ck_m118.2.2.2.1 ∈ ck_TS ∧ Cond.initialized ck_m118.1.cls ∈ ck_TS ∧ (ck_m118.1.cls ≠ "java/lang/invoke/MethodHandle" ∧ ck_m118.1.cls ≠ "java/lang/invoke/VarHandle") ∧ (parseMethodDescriptor ck_m118.1.desc).map (fun d => d.parameters.length) = some ck_m118.2.2.2.2 := ⟨ck_mem 988 rfl (by decide +kernel), (ck_mem 143 (by decide +kernel) (by decide +kernel)), by decide +kernel, by decide +kernel⟩
theorem ck_mst118 : Cond.static ck_m118.1 ∈ ck_TS := (ck_mem 987 (by decide +kernel) (by decide +kernel))
set_option maxRecDepth 100000 in
theorem ck_mw119 : Cond.code ck_m119.1 ck_m119.2.1 ck_m119.2.2.1 ck_m119.2.2.2.1 ∈ ck_TS ∧ Cond.initialized ck_m119.1.cls ∈ ck_TS ∧ (ck_m119.1.cls ≠ "java/lang/invoke/MethodHandle" ∧ ck_m119.1.cls ≠ "java/lang/invoke/VarHandle") ∧ (parseMethodDescriptor ck_m119.1.desc).map (fun d => d.parameters.length) = some ck_m119.2.2.2.2 := ⟨ck_mem 1773 rfl (by decide +kernel), (ck_mem 136 (by decide +kernel) (by decide +kernel)), by decide +kernel, by decide +kernel⟩
theorem ck_mv119 : Cond.instanceMethod ck_m119.1 ∈ ck_TS ∧ Cond.selects ck_m119.1.cls ck_m119.1 ck_m119.1 ∈ ck_TS := ⟨(ck_mem 1771 (by decide +kernel) (by decide +kernel)), (ck_mem 1772 (by decide +kernel) (by decide +kernel))⟩
set_option maxRecDepth 100000 in
theorem ck_mw120 : Cond.code ck_m120.1 ck_m120.2.1 ck_m120.2.2.1 ck_m120.2.2.2.1 ∈ ck_TS ∧ Cond.initialized ck_m120.1.cls ∈ ck_TS ∧ (ck_m120.1.cls ≠ "java/lang/invoke/MethodHandle" ∧ ck_m120.1.cls ≠ "java/lang/invoke/VarHandle") ∧ (parseMethodDescriptor ck_m120.1.desc).map (fun d => d.parameters.length) = some ck_m120.2.2.2.2 := ⟨ck_mem 1776 rfl (by decide +kernel), (ck_mem 136 (by decide +kernel) (by decide +kernel)), by decide +kernel, by decide +kernel⟩
theorem ck_mst120 : Cond.static ck_m120.1 ∈ ck_TS := (ck_mem 1775 (by decide +kernel) (by decide +kernel))
set_option maxRecDepth 100000 in
theorem ck_mw121 : Cond.code ck_m121.1 ck_m121.2.1 ck_m121.2.2.1 ck_m121.2.2.2.1 ∈ ck_TS ∧ Cond.initialized ck_m121.1.cls ∈ ck_TS ∧ (ck_m121.1.cls ≠ "java/lang/invoke/MethodHandle" ∧ ck_m121.1.cls ≠ "java/lang/invoke/VarHandle") ∧ (parseMethodDescriptor ck_m121.1.desc).map (fun d => d.parameters.length) = some ck_m121.2.2.2.2 := ⟨ck_mem 1132 rfl (by decide +kernel), (ck_mem 123 (by decide +kernel) (by decide +kernel)), by decide +kernel, by decide +kernel⟩
theorem ck_mv121 : Cond.instanceMethod ck_m121.1 ∈ ck_TS ∧ Cond.selects ck_m121.1.cls ck_m121.1 ck_m121.1 ∈ ck_TS := ⟨(ck_mem 1130 (by decide +kernel) (by decide +kernel)), (ck_mem 1131 (by decide +kernel) (by decide +kernel))⟩
set_option maxRecDepth 100000 in
theorem ck_mw122 : Cond.code ck_m122.1 ck_m122.2.1 ck_m122.2.2.1 ck_m122.2.2.2.1 ∈ ck_TS ∧ Cond.initialized ck_m122.1.cls ∈ ck_TS ∧ (ck_m122.1.cls ≠ "java/lang/invoke/MethodHandle" ∧ ck_m122.1.cls ≠ "java/lang/invoke/VarHandle") ∧ (parseMethodDescriptor ck_m122.1.desc).map (fun d => d.parameters.length) = some ck_m122.2.2.2.2 := ⟨ck_mem 1811 rfl (by decide +kernel), (ck_mem 136 (by decide +kernel) (by decide +kernel)), by decide +kernel, by decide +kernel⟩
theorem ck_mv122 : Cond.instanceMethod ck_m122.1 ∈ ck_TS ∧ Cond.selects ck_m122.1.cls ck_m122.1 ck_m122.1 ∈ ck_TS := ⟨(ck_mem 1809 (by decide +kernel) (by decide +kernel)), (ck_mem 1810 (by decide +kernel) (by decide +kernel))⟩
set_option maxRecDepth 100000 in
theorem ck_mw123 : Cond.code ck_m123.1 ck_m123.2.1 ck_m123.2.2.1 ck_m123.2.2.2.1 ∈ ck_TS ∧ Cond.initialized ck_m123.1.cls ∈ ck_TS ∧ (ck_m123.1.cls ≠ "java/lang/invoke/MethodHandle" ∧ ck_m123.1.cls ≠ "java/lang/invoke/VarHandle") ∧ (parseMethodDescriptor ck_m123.1.desc).map (fun d => d.parameters.length) = some ck_m123.2.2.2.2 := ⟨ck_mem 1815 rfl (by decide +kernel), (ck_mem 136 (by decide +kernel) (by decide +kernel)), by decide +kernel, by decide +kernel⟩
theorem ck_mv123 : Cond.instanceMethod ck_m123.1 ∈ ck_TS ∧ Cond.selects ck_m123.1.cls ck_m123.1 ck_m123.1 ∈ ck_TS := ⟨(ck_mem 1814 (by decide +kernel) (by decide +kernel)), (ck_mem 112 (by decide +kernel) (by decide +kernel))⟩
set_option maxRecDepth 100000 in
theorem ck_mw124 : Cond.code ck_m124.1 ck_m124.2.1 ck_m124.2.2.1 ck_m124.2.2.2.1 ∈ ck_TS ∧ Cond.initialized ck_m124.1.cls ∈ ck_TS ∧ (ck_m124.1.cls ≠ "java/lang/invoke/MethodHandle" ∧ ck_m124.1.cls ≠ "java/lang/invoke/VarHandle") ∧ (parseMethodDescriptor ck_m124.1.desc).map (fun d => d.parameters.length) = some ck_m124.2.2.2.2 := ⟨ck_mem 1153 rfl (by decide +kernel), (ck_mem 123 (by decide +kernel) (by decide +kernel)), by decide +kernel, by decide +kernel⟩
theorem ck_mv124 : Cond.instanceMethod ck_m124.1 ∈ ck_TS ∧ Cond.selects ck_m124.1.cls ck_m124.1 ck_m124.1 ∈ ck_TS := ⟨(ck_mem 1151 (by decide +kernel) (by decide +kernel)), (ck_mem 1152 (by decide +kernel) (by decide +kernel))⟩
set_option maxRecDepth 100000 in
theorem ck_mw125 : Cond.code ck_m125.1 ck_m125.2.1 ck_m125.2.2.1 ck_m125.2.2.2.1 ∈ ck_TS ∧ Cond.initialized ck_m125.1.cls ∈ ck_TS ∧ (ck_m125.1.cls ≠ "java/lang/invoke/MethodHandle" ∧ ck_m125.1.cls ≠ "java/lang/invoke/VarHandle") ∧ (parseMethodDescriptor ck_m125.1.desc).map (fun d => d.parameters.length) = some ck_m125.2.2.2.2 := ⟨ck_mem 1826 rfl (by decide +kernel), (ck_mem 136 (by decide +kernel) (by decide +kernel)), by decide +kernel, by decide +kernel⟩
theorem ck_mv125 : Cond.instanceMethod ck_m125.1 ∈ ck_TS ∧ Cond.selects ck_m125.1.cls ck_m125.1 ck_m125.1 ∈ ck_TS := ⟨(ck_mem 1824 (by decide +kernel) (by decide +kernel)), (ck_mem 1825 (by decide +kernel) (by decide +kernel))⟩
set_option maxRecDepth 100000 in
theorem ck_mw126 : Cond.code ck_m126.1 ck_m126.2.1 ck_m126.2.2.1 ck_m126.2.2.2.1 ∈ ck_TS ∧ Cond.initialized ck_m126.1.cls ∈ ck_TS ∧ (ck_m126.1.cls ≠ "java/lang/invoke/MethodHandle" ∧ ck_m126.1.cls ≠ "java/lang/invoke/VarHandle") ∧ (parseMethodDescriptor ck_m126.1.desc).map (fun d => d.parameters.length) = some ck_m126.2.2.2.2 := ⟨ck_mem 1830 rfl (by decide +kernel), (ck_mem 136 (by decide +kernel) (by decide +kernel)), by decide +kernel, by decide +kernel⟩
theorem ck_mv126 : Cond.instanceMethod ck_m126.1 ∈ ck_TS ∧ Cond.selects ck_m126.1.cls ck_m126.1 ck_m126.1 ∈ ck_TS := ⟨(ck_mem 1829 (by decide +kernel) (by decide +kernel)), (ck_mem 114 (by decide +kernel) (by decide +kernel))⟩
set_option maxRecDepth 100000 in
theorem ck_mw127 : Cond.code ck_m127.1 ck_m127.2.1 ck_m127.2.2.1 ck_m127.2.2.2.1 ∈ ck_TS ∧ Cond.initialized ck_m127.1.cls ∈ ck_TS ∧ (ck_m127.1.cls ≠ "java/lang/invoke/MethodHandle" ∧ ck_m127.1.cls ≠ "java/lang/invoke/VarHandle") ∧ (parseMethodDescriptor ck_m127.1.desc).map (fun d => d.parameters.length) = some ck_m127.2.2.2.2 := ⟨ck_mem 1834 rfl (by decide +kernel), (ck_mem 136 (by decide +kernel) (by decide +kernel)), by decide +kernel, by decide +kernel⟩
theorem ck_mv127 : Cond.instanceMethod ck_m127.1 ∈ ck_TS ∧ Cond.selects ck_m127.1.cls ck_m127.1 ck_m127.1 ∈ ck_TS := ⟨(ck_mem 1833 (by decide +kernel) (by decide +kernel)), (ck_mem 115 (by decide +kernel) (by decide +kernel))⟩
set_option maxRecDepth 100000 in
theorem ck_mw128 : Cond.code ck_m128.1 ck_m128.2.1 ck_m128.2.2.1 ck_m128.2.2.2.1 ∈ ck_TS ∧ Cond.initialized ck_m128.1.cls ∈ ck_TS ∧ (ck_m128.1.cls ≠ "java/lang/invoke/MethodHandle" ∧ ck_m128.1.cls ≠ "java/lang/invoke/VarHandle") ∧ (parseMethodDescriptor ck_m128.1.desc).map (fun d => d.parameters.length) = some ck_m128.2.2.2.2 := ⟨ck_mem 1167 rfl (by decide +kernel), (ck_mem 123 (by decide +kernel) (by decide +kernel)), by decide +kernel, by decide +kernel⟩
theorem ck_mv128 : Cond.instanceMethod ck_m128.1 ∈ ck_TS ∧ Cond.selects ck_m128.1.cls ck_m128.1 ck_m128.1 ∈ ck_TS := ⟨(ck_mem 1165 (by decide +kernel) (by decide +kernel)), (ck_mem 1166 (by decide +kernel) (by decide +kernel))⟩
set_option maxRecDepth 100000 in
theorem ck_mw129 : Cond.code ck_m129.1 ck_m129.2.1 ck_m129.2.2.1 ck_m129.2.2.2.1 ∈ ck_TS ∧ Cond.initialized ck_m129.1.cls ∈ ck_TS ∧ (ck_m129.1.cls ≠ "java/lang/invoke/MethodHandle" ∧ ck_m129.1.cls ≠ "java/lang/invoke/VarHandle") ∧ (parseMethodDescriptor ck_m129.1.desc).map (fun d => d.parameters.length) = some ck_m129.2.2.2.2 := ⟨ck_mem 1842 rfl (by decide +kernel), (ck_mem 136 (by decide +kernel) (by decide +kernel)), by decide +kernel, by decide +kernel⟩
theorem ck_mv129 : Cond.instanceMethod ck_m129.1 ∈ ck_TS ∧ Cond.selects ck_m129.1.cls ck_m129.1 ck_m129.1 ∈ ck_TS := ⟨(ck_mem 1840 (by decide +kernel) (by decide +kernel)), (ck_mem 1841 (by decide +kernel) (by decide +kernel))⟩
set_option maxRecDepth 100000 in
theorem ck_mw130 : Cond.code ck_m130.1 ck_m130.2.1 ck_m130.2.2.1 ck_m130.2.2.2.1 ∈ ck_TS ∧ Cond.initialized ck_m130.1.cls ∈ ck_TS ∧ (ck_m130.1.cls ≠ "java/lang/invoke/MethodHandle" ∧ ck_m130.1.cls ≠ "java/lang/invoke/VarHandle") ∧ (parseMethodDescriptor ck_m130.1.desc).map (fun d => d.parameters.length) = some ck_m130.2.2.2.2 := ⟨ck_mem 1846 rfl (by decide +kernel), (ck_mem 136 (by decide +kernel) (by decide +kernel)), by decide +kernel, by decide +kernel⟩
theorem ck_mv130 : Cond.instanceMethod ck_m130.1 ∈ ck_TS ∧ Cond.selects ck_m130.1.cls ck_m130.1 ck_m130.1 ∈ ck_TS := ⟨(ck_mem 1845 (by decide +kernel) (by decide +kernel)), (ck_mem 117 (by decide +kernel) (by decide +kernel))⟩
set_option maxRecDepth 100000 in
theorem ck_mw131 : Cond.code ck_m131.1 ck_m131.2.1 ck_m131.2.2.1 ck_m131.2.2.2.1 ∈ ck_TS ∧ Cond.initialized ck_m131.1.cls ∈ ck_TS ∧ (ck_m131.1.cls ≠ "java/lang/invoke/MethodHandle" ∧ ck_m131.1.cls ≠ "java/lang/invoke/VarHandle") ∧ (parseMethodDescriptor ck_m131.1.desc).map (fun d => d.parameters.length) = some ck_m131.2.2.2.2 := ⟨ck_mem 1179 rfl (by decide +kernel), (ck_mem 123 (by decide +kernel) (by decide +kernel)), by decide +kernel, by decide +kernel⟩
theorem ck_mv131 : Cond.instanceMethod ck_m131.1 ∈ ck_TS ∧ Cond.selects ck_m131.1.cls ck_m131.1 ck_m131.1 ∈ ck_TS := ⟨(ck_mem 1177 (by decide +kernel) (by decide +kernel)), (ck_mem 1178 (by decide +kernel) (by decide +kernel))⟩
set_option maxRecDepth 100000 in
theorem ck_mw132 : Cond.code ck_m132.1 ck_m132.2.1 ck_m132.2.2.1 ck_m132.2.2.2.1 ∈ ck_TS ∧ Cond.initialized ck_m132.1.cls ∈ ck_TS ∧ (ck_m132.1.cls ≠ "java/lang/invoke/MethodHandle" ∧ ck_m132.1.cls ≠ "java/lang/invoke/VarHandle") ∧ (parseMethodDescriptor ck_m132.1.desc).map (fun d => d.parameters.length) = some ck_m132.2.2.2.2 := ⟨ck_mem 1157 rfl (by decide +kernel), (ck_mem 132 (by decide +kernel) (by decide +kernel)), by decide +kernel, by decide +kernel⟩
theorem ck_mv132 : Cond.instanceMethod ck_m132.1 ∈ ck_TS ∧ Cond.selects ck_m132.1.cls ck_m132.1 ck_m132.1 ∈ ck_TS := ⟨(ck_mem 1155 (by decide +kernel) (by decide +kernel)), (ck_mem 1156 (by decide +kernel) (by decide +kernel))⟩
set_option maxRecDepth 100000 in
theorem ck_mw133 : Cond.code ck_m133.1 ck_m133.2.1 ck_m133.2.2.1 ck_m133.2.2.2.1 ∈ ck_TS ∧ Cond.initialized ck_m133.1.cls ∈ ck_TS ∧ (ck_m133.1.cls ≠ "java/lang/invoke/MethodHandle" ∧ ck_m133.1.cls ≠ "java/lang/invoke/VarHandle") ∧ (parseMethodDescriptor ck_m133.1.desc).map (fun d => d.parameters.length) = some ck_m133.2.2.2.2 := ⟨ck_mem 1163 rfl (by decide +kernel), (ck_mem 132 (by decide +kernel) (by decide +kernel)), by decide +kernel, by decide +kernel⟩
theorem ck_mv133 : Cond.instanceMethod ck_m133.1 ∈ ck_TS ∧ Cond.selects ck_m133.1.cls ck_m133.1 ck_m133.1 ∈ ck_TS := ⟨(ck_mem 1162 (by decide +kernel) (by decide +kernel)), (ck_mem 48 (by decide +kernel) (by decide +kernel))⟩
set_option maxRecDepth 100000 in
theorem ck_mw134 : Cond.code ck_m134.1 ck_m134.2.1 ck_m134.2.2.1 ck_m134.2.2.2.1 ∈ ck_TS ∧ Cond.initialized ck_m134.1.cls ∈ ck_TS ∧ (ck_m134.1.cls ≠ "java/lang/invoke/MethodHandle" ∧ ck_m134.1.cls ≠ "java/lang/invoke/VarHandle") ∧ (parseMethodDescriptor ck_m134.1.desc).map (fun d => d.parameters.length) = some ck_m134.2.2.2.2 := ⟨ck_mem 1183 rfl (by decide +kernel), (ck_mem 132 (by decide +kernel) (by decide +kernel)), by decide +kernel, by decide +kernel⟩
theorem ck_mv134 : Cond.instanceMethod ck_m134.1 ∈ ck_TS ∧ Cond.selects ck_m134.1.cls ck_m134.1 ck_m134.1 ∈ ck_TS := ⟨(ck_mem 1181 (by decide +kernel) (by decide +kernel)), (ck_mem 1182 (by decide +kernel) (by decide +kernel))⟩
set_option maxRecDepth 100000 in
theorem ck_mw135 : Cond.code ck_m135.1 ck_m135.2.1 ck_m135.2.2.1 ck_m135.2.2.2.1 ∈ ck_TS ∧ Cond.initialized ck_m135.1.cls ∈ ck_TS ∧ (ck_m135.1.cls ≠ "java/lang/invoke/MethodHandle" ∧ ck_m135.1.cls ≠ "java/lang/invoke/VarHandle") ∧ (parseMethodDescriptor ck_m135.1.desc).map (fun d => d.parameters.length) = some ck_m135.2.2.2.2 := ⟨ck_mem 1171 rfl (by decide +kernel), (ck_mem 132 (by decide +kernel) (by decide +kernel)), by decide +kernel, by decide +kernel⟩
theorem ck_mv135 : Cond.instanceMethod ck_m135.1 ∈ ck_TS ∧ Cond.selects ck_m135.1.cls ck_m135.1 ck_m135.1 ∈ ck_TS := ⟨(ck_mem 1169 (by decide +kernel) (by decide +kernel)), (ck_mem 1170 (by decide +kernel) (by decide +kernel))⟩
set_option maxRecDepth 100000 in
theorem ck_mw136 : Cond.code ck_m136.1 ck_m136.2.1 ck_m136.2.2.1 ck_m136.2.2.2.1 ∈ ck_TS ∧ Cond.initialized ck_m136.1.cls ∈ ck_TS ∧ (ck_m136.1.cls ≠ "java/lang/invoke/MethodHandle" ∧ ck_m136.1.cls ≠ "java/lang/invoke/VarHandle") ∧ (parseMethodDescriptor ck_m136.1.desc).map (fun d => d.parameters.length) = some ck_m136.2.2.2.2 := ⟨ck_mem 1850 rfl (by decide +kernel), (ck_mem 136 (by decide +kernel) (by decide +kernel)), by decide +kernel, by decide +kernel⟩
theorem ck_mv136 : Cond.instanceMethod ck_m136.1 ∈ ck_TS ∧ Cond.selects ck_m136.1.cls ck_m136.1 ck_m136.1 ∈ ck_TS := ⟨(ck_mem 1848 (by decide +kernel) (by decide +kernel)), (ck_mem 1849 (by decide +kernel) (by decide +kernel))⟩
set_option maxRecDepth 100000 in
theorem ck_mw137 : Cond.code ck_m137.1 ck_m137.2.1 ck_m137.2.2.1 ck_m137.2.2.2.1 ∈ ck_TS ∧ Cond.initialized ck_m137.1.cls ∈ ck_TS ∧ (ck_m137.1.cls ≠ "java/lang/invoke/MethodHandle" ∧ ck_m137.1.cls ≠ "java/lang/invoke/VarHandle") ∧ (parseMethodDescriptor ck_m137.1.desc).map (fun d => d.parameters.length) = some ck_m137.2.2.2.2 := ⟨ck_mem 1188 rfl (by decide +kernel), (ck_mem 123 (by decide +kernel) (by decide +kernel)), by decide +kernel, by decide +kernel⟩
theorem ck_mv137 : Cond.instanceMethod ck_m137.1 ∈ ck_TS ∧ Cond.selects ck_m137.1.cls ck_m137.1 ck_m137.1 ∈ ck_TS := ⟨(ck_mem 1186 (by decide +kernel) (by decide +kernel)), (ck_mem 1187 (by decide +kernel) (by decide +kernel))⟩
set_option maxRecDepth 100000 in
theorem ck_mw138 : Cond.code ck_m138.1 ck_m138.2.1 ck_m138.2.2.1 ck_m138.2.2.2.1 ∈ ck_TS ∧ Cond.initialized ck_m138.1.cls ∈ ck_TS ∧ (ck_m138.1.cls ≠ "java/lang/invoke/MethodHandle" ∧ ck_m138.1.cls ≠ "java/lang/invoke/VarHandle") ∧ (parseMethodDescriptor ck_m138.1.desc).map (fun d => d.parameters.length) = some ck_m138.2.2.2.2 := ⟨ck_mem 1854 rfl (by decide +kernel), (ck_mem 136 (by decide +kernel) (by decide +kernel)), by decide +kernel, by decide +kernel⟩
theorem ck_mv138 : Cond.instanceMethod ck_m138.1 ∈ ck_TS ∧ Cond.selects ck_m138.1.cls ck_m138.1 ck_m138.1 ∈ ck_TS := ⟨(ck_mem 1852 (by decide +kernel) (by decide +kernel)), (ck_mem 1853 (by decide +kernel) (by decide +kernel))⟩
set_option maxRecDepth 100000 in
theorem ck_mw139 : Cond.code ck_m139.1 ck_m139.2.1 ck_m139.2.2.1 ck_m139.2.2.2.1 ∈ ck_TS ∧ Cond.initialized ck_m139.1.cls ∈ ck_TS ∧ (ck_m139.1.cls ≠ "java/lang/invoke/MethodHandle" ∧ ck_m139.1.cls ≠ "java/lang/invoke/VarHandle") ∧ (parseMethodDescriptor ck_m139.1.desc).map (fun d => d.parameters.length) = some ck_m139.2.2.2.2 := ⟨ck_mem 1201 rfl (by decide +kernel), (ck_mem 123 (by decide +kernel) (by decide +kernel)), by decide +kernel, by decide +kernel⟩
theorem ck_mv139 : Cond.instanceMethod ck_m139.1 ∈ ck_TS ∧ Cond.selects ck_m139.1.cls ck_m139.1 ck_m139.1 ∈ ck_TS := ⟨(ck_mem 1199 (by decide +kernel) (by decide +kernel)), (ck_mem 1200 (by decide +kernel) (by decide +kernel))⟩
set_option maxRecDepth 100000 in
theorem ck_mw140 : Cond.code ck_m140.1 ck_m140.2.1 ck_m140.2.2.1 ck_m140.2.2.2.1 ∈ ck_TS ∧ Cond.initialized ck_m140.1.cls ∈ ck_TS ∧ (ck_m140.1.cls ≠ "java/lang/invoke/MethodHandle" ∧ ck_m140.1.cls ≠ "java/lang/invoke/VarHandle") ∧ (parseMethodDescriptor ck_m140.1.desc).map (fun d => d.parameters.length) = some ck_m140.2.2.2.2 := ⟨ck_mem 1858 rfl (by decide +kernel), (ck_mem 136 (by decide +kernel) (by decide +kernel)), by decide +kernel, by decide +kernel⟩
theorem ck_mv140 : Cond.instanceMethod ck_m140.1 ∈ ck_TS ∧ Cond.selects ck_m140.1.cls ck_m140.1 ck_m140.1 ∈ ck_TS := ⟨(ck_mem 1856 (by decide +kernel) (by decide +kernel)), (ck_mem 1857 (by decide +kernel) (by decide +kernel))⟩
set_option maxRecDepth 100000 in
theorem ck_mw141 : Cond.code ck_m141.1 ck_m141.2.1 ck_m141.2.2.1 ck_m141.2.2.2.1 ∈ ck_TS ∧ Cond.initialized ck_m141.1.cls ∈ ck_TS ∧ (ck_m141.1.cls ≠ "java/lang/invoke/MethodHandle" ∧ ck_m141.1.cls ≠ "java/lang/invoke/VarHandle") ∧ (parseMethodDescriptor ck_m141.1.desc).map (fun d => d.parameters.length) = some ck_m141.2.2.2.2 := ⟨ck_mem 1205 rfl (by decide +kernel), (ck_mem 123 (by decide +kernel) (by decide +kernel)), by decide +kernel, by decide +kernel⟩
theorem ck_mv141 : Cond.instanceMethod ck_m141.1 ∈ ck_TS ∧ Cond.selects ck_m141.1.cls ck_m141.1 ck_m141.1 ∈ ck_TS := ⟨(ck_mem 1203 (by decide +kernel) (by decide +kernel)), (ck_mem 1204 (by decide +kernel) (by decide +kernel))⟩
set_option maxRecDepth 100000 in
theorem ck_mw142 : Cond.code ck_m142.1 ck_m142.2.1 ck_m142.2.2.1 ck_m142.2.2.2.1 ∈ ck_TS ∧ Cond.initialized ck_m142.1.cls ∈ ck_TS ∧ (ck_m142.1.cls ≠ "java/lang/invoke/MethodHandle" ∧ ck_m142.1.cls ≠ "java/lang/invoke/VarHandle") ∧ (parseMethodDescriptor ck_m142.1.desc).map (fun d => d.parameters.length) = some ck_m142.2.2.2.2 := ⟨ck_mem 1862 rfl (by decide +kernel), (ck_mem 136 (by decide +kernel) (by decide +kernel)), by decide +kernel, by decide +kernel⟩
theorem ck_mv142 : Cond.instanceMethod ck_m142.1 ∈ ck_TS ∧ Cond.selects ck_m142.1.cls ck_m142.1 ck_m142.1 ∈ ck_TS := ⟨(ck_mem 1860 (by decide +kernel) (by decide +kernel)), (ck_mem 1861 (by decide +kernel) (by decide +kernel))⟩
set_option maxRecDepth 100000 in
theorem ck_mw143 : Cond.code ck_m143.1 ck_m143.2.1 ck_m143.2.2.1 ck_m143.2.2.2.1 ∈ ck_TS ∧ Cond.initialized ck_m143.1.cls ∈ ck_TS ∧ (ck_m143.1.cls ≠ "java/lang/invoke/MethodHandle" ∧ ck_m143.1.cls ≠ "java/lang/invoke/VarHandle") ∧ (parseMethodDescriptor ck_m143.1.desc).map (fun d => d.parameters.length) = some ck_m143.2.2.2.2 := ⟨ck_mem 1214 rfl (by decide +kernel), (ck_mem 123 (by decide +kernel) (by decide +kernel)), by decide +kernel, by decide +kernel⟩
theorem ck_mv143 : Cond.instanceMethod ck_m143.1 ∈ ck_TS ∧ Cond.selects ck_m143.1.cls ck_m143.1 ck_m143.1 ∈ ck_TS := ⟨(ck_mem 1212 (by decide +kernel) (by decide +kernel)), (ck_mem 1213 (by decide +kernel) (by decide +kernel))⟩
set_option maxRecDepth 100000 in
theorem ck_mw144 : Cond.code ck_m144.1 ck_m144.2.1 ck_m144.2.2.1 ck_m144.2.2.2.1 ∈ ck_TS ∧ Cond.initialized ck_m144.1.cls ∈ ck_TS ∧ (ck_m144.1.cls ≠ "java/lang/invoke/MethodHandle" ∧ ck_m144.1.cls ≠ "java/lang/invoke/VarHandle") ∧ (parseMethodDescriptor ck_m144.1.desc).map (fun d => d.parameters.length) = some ck_m144.2.2.2.2 := ⟨ck_mem 1870 rfl (by decide +kernel), (ck_mem 136 (by decide +kernel) (by decide +kernel)), by decide +kernel, by decide +kernel⟩
theorem ck_mv144 : Cond.instanceMethod ck_m144.1 ∈ ck_TS ∧ Cond.selects ck_m144.1.cls ck_m144.1 ck_m144.1 ∈ ck_TS := ⟨(ck_mem 1868 (by decide +kernel) (by decide +kernel)), (ck_mem 1869 (by decide +kernel) (by decide +kernel))⟩
set_option maxRecDepth 100000 in
theorem ck_mw145 : Cond.code ck_m145.1 ck_m145.2.1 ck_m145.2.2.1 ck_m145.2.2.2.1 ∈ ck_TS ∧ Cond.initialized ck_m145.1.cls ∈ ck_TS ∧ (ck_m145.1.cls ≠ "java/lang/invoke/MethodHandle" ∧ ck_m145.1.cls ≠ "java/lang/invoke/VarHandle") ∧ (parseMethodDescriptor ck_m145.1.desc).map (fun d => d.parameters.length) = some ck_m145.2.2.2.2 := ⟨ck_mem 1263 rfl (by decide +kernel), (ck_mem 123 (by decide +kernel) (by decide +kernel)), by decide +kernel, by decide +kernel⟩
theorem ck_mv145 : Cond.instanceMethod ck_m145.1 ∈ ck_TS ∧ Cond.selects ck_m145.1.cls ck_m145.1 ck_m145.1 ∈ ck_TS := ⟨(ck_mem 1261 (by decide +kernel) (by decide +kernel)), (ck_mem 1262 (by decide +kernel) (by decide +kernel))⟩
set_option maxRecDepth 100000 in
theorem ck_mw146 : Cond.code ck_m146.1 ck_m146.2.1 ck_m146.2.2.1 ck_m146.2.2.2.1 ∈ ck_TS ∧ Cond.initialized ck_m146.1.cls ∈ ck_TS ∧ (ck_m146.1.cls ≠ "java/lang/invoke/MethodHandle" ∧ ck_m146.1.cls ≠ "java/lang/invoke/VarHandle") ∧ (parseMethodDescriptor ck_m146.1.desc).map (fun d => d.parameters.length) = some ck_m146.2.2.2.2 := ⟨ck_mem 1886 rfl (by decide +kernel), (ck_mem 136 (by decide +kernel) (by decide +kernel)), by decide +kernel, by decide +kernel⟩
theorem ck_mv146 : Cond.instanceMethod ck_m146.1 ∈ ck_TS ∧ Cond.selects ck_m146.1.cls ck_m146.1 ck_m146.1 ∈ ck_TS := ⟨(ck_mem 1884 (by decide +kernel) (by decide +kernel)), (ck_mem 1885 (by decide +kernel) (by decide +kernel))⟩
set_option maxRecDepth 100000 in
theorem ck_mw147 : Cond.code ck_m147.1 ck_m147.2.1 ck_m147.2.2.1 ck_m147.2.2.2.1 ∈ ck_TS ∧ Cond.initialized ck_m147.1.cls ∈ ck_TS ∧ (ck_m147.1.cls ≠ "java/lang/invoke/MethodHandle" ∧ ck_m147.1.cls ≠ "java/lang/invoke/VarHandle") ∧ (parseMethodDescriptor ck_m147.1.desc).map (fun d => d.parameters.length) = some ck_m147.2.2.2.2 := ⟨ck_mem 1268 rfl (by decide +kernel), (ck_mem 123 (by decide +kernel) (by decide +kernel)), by decide +kernel, by decide +kernel⟩
theorem ck_mv147 : Cond.instanceMethod ck_m147.1 ∈ ck_TS ∧ Cond.selects ck_m147.1.cls ck_m147.1 ck_m147.1 ∈ ck_TS := ⟨(ck_mem 1266 (by decide +kernel) (by decide +kernel)), (ck_mem 1267 (by decide +kernel) (by decide +kernel))⟩
set_option maxRecDepth 100000 in
theorem ck_mw148 : Cond.code ck_m148.1 ck_m148.2.1 ck_m148.2.2.1 ck_m148.2.2.2.1 ∈ ck_TS ∧ Cond.initialized ck_m148.1.cls ∈ ck_TS ∧ (ck_m148.1.cls ≠ "java/lang/invoke/MethodHandle" ∧ ck_m148.1.cls ≠ "java/lang/invoke/VarHandle") ∧ (parseMethodDescriptor ck_m148.1.desc).map (fun d => d.parameters.length) = some ck_m148.2.2.2.2 := ⟨ck_mem 1272 rfl (by decide +kernel), (ck_mem 124 (by decide +kernel) (by decide +kernel)), by decide +kernel, by decide +kernel⟩
theorem ck_mv148 : Cond.instanceMethod ck_m148.1 ∈ ck_TS ∧ Cond.selects ck_m148.1.cls ck_m148.1 ck_m148.1 ∈ ck_TS := ⟨(ck_mem 1270 (by decide +kernel) (by decide +kernel)), (ck_mem 1271 (by decide +kernel) (by decide +kernel))⟩
set_option maxRecDepth 100000 in
theorem ck_mw149 : Cond.code ck_m149.1 ck_m149.2.1 ck_m149.2.2.1 ck_m149.2.2.2.1 ∈ ck_TS ∧ Cond.initialized ck_m149.1.cls ∈ ck_TS ∧ (ck_m149.1.cls ≠ "java/lang/invoke/MethodHandle" ∧ ck_m149.1.cls ≠ "java/lang/invoke/VarHandle") ∧ (parseMethodDescriptor ck_m149.1.desc).map (fun d => d.parameters.length) = some ck_m149.2.2.2.2 := ⟨ck_mem 1275 rfl (by decide +kernel), (ck_mem 124 (by decide +kernel) (by decide +kernel)), by decide +kernel, by decide +kernel⟩
theorem ck_mst149 : Cond.static ck_m149.1 ∈ ck_TS := (ck_mem 1274 (by decide +kernel) (by decide +kernel))
set_option maxRecDepth 100000 in
theorem ck_mw150 : Cond.code ck_m150.1 ck_m150.2.1 ck_m150.2.2.1 ck_m150.2.2.2.1 ∈ ck_TS ∧ Cond.initialized ck_m150.1.cls ∈ ck_TS ∧ (ck_m150.1.cls ≠ "java/lang/invoke/MethodHandle" ∧ ck_m150.1.cls ≠ "java/lang/invoke/VarHandle") ∧ (parseMethodDescriptor ck_m150.1.desc).map (fun d => d.parameters.length) = some ck_m150.2.2.2.2 := ⟨ck_mem 1427 rfl (by decide +kernel), (ck_mem 136 (by decide +kernel) (by decide +kernel)), by decide +kernel, by decide +kernel⟩
theorem ck_mv150 : Cond.instanceMethod ck_m150.1 ∈ ck_TS ∧ Cond.selects ck_m150.1.cls ck_m150.1 ck_m150.1 ∈ ck_TS := ⟨(ck_mem 1425 (by decide +kernel) (by decide +kernel)), (ck_mem 1426 (by decide +kernel) (by decide +kernel))⟩
set_option maxRecDepth 100000 in
theorem ck_mw151 : Cond.code ck_m151.1 ck_m151.2.1 ck_m151.2.2.1 ck_m151.2.2.2.1 ∈ ck_TS ∧ Cond.initialized ck_m151.1.cls ∈ ck_TS ∧ (ck_m151.1.cls ≠ "java/lang/invoke/MethodHandle" ∧ ck_m151.1.cls ≠ "java/lang/invoke/VarHandle") ∧ (parseMethodDescriptor ck_m151.1.desc).map (fun d => d.parameters.length) = some ck_m151.2.2.2.2 := ⟨ck_mem 1280 rfl (by decide +kernel), (ck_mem 123 (by decide +kernel) (by decide +kernel)), by decide +kernel, by decide +kernel⟩
theorem ck_mv151 : Cond.instanceMethod ck_m151.1 ∈ ck_TS ∧ Cond.selects ck_m151.1.cls ck_m151.1 ck_m151.1 ∈ ck_TS := ⟨(ck_mem 1278 (by decide +kernel) (by decide +kernel)), (ck_mem 1279 (by decide +kernel) (by decide +kernel))⟩
set_option maxRecDepth 100000 in
theorem ck_mw152 : Cond.code ck_m152.1 ck_m152.2.1 ck_m152.2.2.1 ck_m152.2.2.2.1 ∈ ck_TS ∧ Cond.initialized ck_m152.1.cls ∈ ck_TS ∧ (ck_m152.1.cls ≠ "java/lang/invoke/MethodHandle" ∧ ck_m152.1.cls ≠ "java/lang/invoke/VarHandle") ∧ (parseMethodDescriptor ck_m152.1.desc).map (fun d => d.parameters.length) = some ck_m152.2.2.2.2 := ⟨ck_mem 1442 rfl (by decide +kernel), (ck_mem 136 (by decide +kernel) (by decide +kernel)), by decide +kernel, by decide +kernel⟩
theorem ck_mv152 : Cond.instanceMethod ck_m152.1 ∈ ck_TS ∧ Cond.selects ck_m152.1.cls ck_m152.1 ck_m152.1 ∈ ck_TS := ⟨(ck_mem 1440 (by decide +kernel) (by decide +kernel)), (ck_mem 1441 (by decide +kernel) (by decide +kernel))⟩
set_option maxRecDepth 100000 in
theorem ck_mw153 : Cond.code ck_m153.1 ck_m153.2.1 ck_m153.2.2.1 ck_m153.2.2.2.1 ∈ ck_TS ∧ Cond.initialized ck_m153.1.cls ∈ ck_TS ∧ (ck_m153.1.cls ≠ "java/lang/invoke/MethodHandle" ∧ ck_m153.1.cls ≠ "java/lang/invoke/VarHandle") ∧ (parseMethodDescriptor ck_m153.1.desc).map (fun d => d.parameters.length) = some ck_m153.2.2.2.2 := ⟨ck_mem 1284 rfl (by decide +kernel), (ck_mem 123 (by decide +kernel) (by decide +kernel)), by decide +kernel, by decide +kernel⟩
theorem ck_mv153 : Cond.instanceMethod ck_m153.1 ∈ ck_TS ∧ Cond.selects ck_m153.1.cls ck_m153.1 ck_m153.1 ∈ ck_TS := ⟨(ck_mem 1282 (by decide +kernel) (by decide +kernel)), (ck_mem 1283 (by decide +kernel) (by decide +kernel))⟩
set_option maxRecDepth 100000 in
theorem ck_mw154 : Cond.code ck_m154.1 ck_m154.2.1 ck_m154.2.2.1 ck_m154.2.2.2.1 ∈ ck_TS ∧ Cond.initialized ck_m154.1.cls ∈ ck_TS ∧ (ck_m154.1.cls ≠ "java/lang/invoke/MethodHandle" ∧ ck_m154.1.cls ≠ "java/lang/invoke/VarHandle") ∧ (parseMethodDescriptor ck_m154.1.desc).map (fun d => d.parameters.length) = some ck_m154.2.2.2.2 := ⟨ck_mem 1288 rfl (by decide +kernel), (ck_mem 124 (by decide +kernel) (by decide +kernel)), by decide +kernel, by decide +kernel⟩
theorem ck_mv154 : Cond.instanceMethod ck_m154.1 ∈ ck_TS ∧ Cond.selects ck_m154.1.cls ck_m154.1 ck_m154.1 ∈ ck_TS := ⟨(ck_mem 1286 (by decide +kernel) (by decide +kernel)), (ck_mem 1287 (by decide +kernel) (by decide +kernel))⟩
set_option maxRecDepth 100000 in
theorem ck_mw155 : Cond.code ck_m155.1 ck_m155.2.1 ck_m155.2.2.1 ck_m155.2.2.2.1 ∈ ck_TS ∧ Cond.initialized ck_m155.1.cls ∈ ck_TS ∧ (ck_m155.1.cls ≠ "java/lang/invoke/MethodHandle" ∧ ck_m155.1.cls ≠ "java/lang/invoke/VarHandle") ∧ (parseMethodDescriptor ck_m155.1.desc).map (fun d => d.parameters.length) = some ck_m155.2.2.2.2 := ⟨ck_mem 1890 rfl (by decide +kernel), (ck_mem 136 (by decide +kernel) (by decide +kernel)), by decide +kernel, by decide +kernel⟩
theorem ck_mv155 : Cond.instanceMethod ck_m155.1 ∈ ck_TS ∧ Cond.selects ck_m155.1.cls ck_m155.1 ck_m155.1 ∈ ck_TS := ⟨(ck_mem 1888 (by decide +kernel) (by decide +kernel)), (ck_mem 1889 (by decide +kernel) (by decide +kernel))⟩
set_option maxRecDepth 100000 in
theorem ck_mw156 : Cond.code ck_m156.1 ck_m156.2.1 ck_m156.2.2.1 ck_m156.2.2.2.1 ∈ ck_TS ∧ Cond.initialized ck_m156.1.cls ∈ ck_TS ∧ (ck_m156.1.cls ≠ "java/lang/invoke/MethodHandle" ∧ ck_m156.1.cls ≠ "java/lang/invoke/VarHandle") ∧ (parseMethodDescriptor ck_m156.1.desc).map (fun d => d.parameters.length) = some ck_m156.2.2.2.2 := ⟨ck_mem 1292 rfl (by decide +kernel), (ck_mem 123 (by decide +kernel) (by decide +kernel)), by decide +kernel, by decide +kernel⟩
theorem ck_mv156 : Cond.instanceMethod ck_m156.1 ∈ ck_TS ∧ Cond.selects ck_m156.1.cls ck_m156.1 ck_m156.1 ∈ ck_TS := ⟨(ck_mem 1290 (by decide +kernel) (by decide +kernel)), (ck_mem 1291 (by decide +kernel) (by decide +kernel))⟩
set_option maxRecDepth 100000 in
theorem ck_mw157 : Cond.code ck_m157.1 ck_m157.2.1 ck_m157.2.2.1 ck_m157.2.2.2.1 ∈ ck_TS ∧ Cond.initialized ck_m157.1.cls ∈ ck_TS ∧ (ck_m157.1.cls ≠ "java/lang/invoke/MethodHandle" ∧ ck_m157.1.cls ≠ "java/lang/invoke/VarHandle") ∧ (parseMethodDescriptor ck_m157.1.desc).map (fun d => d.parameters.length) = some ck_m157.2.2.2.2 := ⟨ck_mem 1894 rfl (by decide +kernel), (ck_mem 136 (by decide +kernel) (by decide +kernel)), by decide +kernel, by decide +kernel⟩
theorem ck_mv157 : Cond.instanceMethod ck_m157.1 ∈ ck_TS ∧ Cond.selects ck_m157.1.cls ck_m157.1 ck_m157.1 ∈ ck_TS := ⟨(ck_mem 1892 (by decide +kernel) (by decide +kernel)), (ck_mem 1893 (by decide +kernel) (by decide +kernel))⟩
def ck_T0 : ck_T := ([(12, 11, 0, (.object "ScratchLadder$Bench"), true), (16, 11, 1, (.array (.object "ScratchLadder$Bench")), true), (20, 11, 2, (.array .boolean), true), (27, 11, 3, (.object "ScratchLadder$Tape"), true), (36, 11, 4, (.object "ScratchLadder$Reader"), true), (45, 11, 5, (.object "ScratchLadder$Question"), true), (52, 11, 6, (.object "ScratchLadder$Ties"), true), (59, 11, 7, (.object "ScratchLadder$Orders"), true), (68, 11, 8, (.object "ScratchLadder$Lineup"), true), (77, 11, 9, (.object "ScratchLadder$Rungs"), true), (84, 11, 10, (.object "ScratchLadder$Sorter"), true), (91, 11, 11, (.object "ScratchLadder$Naming"), true), (95, 11, 12, (.array .int), true), (99, 11, 13, .int, false), (103, 11, 14, .int, false), (114, 0, 0, .int, false), (145, 0, 6, .char, true), (151, 0, 7, .char, true), (154, 0, 8, .char, true), (158, 0, 9, .int, false), (161, 8, 1, .int, false), (168, 0, 11, .int, false), (193, 0, 14, .int, false), (233, 0, 16, .int, false), (236, 0, 17, .int, false), (239, 0, 18, .int, false), (251, 10, 1, .char, true), (257, 10, 2, .char, true), (278, 3, 4, .int, false)], [(9, 0), (24, 8), (31, 5), (40, 4), (49, 10), (56, 3), (63, 1), (72, 6), (81, 7), (88, 2)], ck_dt, ck_ats, [(9, "ScratchLadder$Bench")], ck_tr, [(157, 1000000)], [], [(3, 7, 0), (11, 5, 2), (26, 5, 4), (33, 2, 5), (42, 2, 6), (51, 2, 7), (58, 2, 8), (65, 2, 10), (74, 2, 11), (83, 5, 12), (90, 2, 13), (106, 1, 16), (110, 0, 17), (117, 0, 18), (121, 0, 19), (124, 1, 26), (128, 0, 27), (138, 1, 33), (148, 1, 37), (164, 0, 42), (171, 0, 47), (175, 0, 54), (223, 0, 77), (245, 0, 85), (248, 0, 90), (260, 0, 92), (270, 1, 118), (275, 0, 105), (318, 0, 132), (324, 0, 135), (327, 0, 134), (349, 0, 148), (352, 0, 154)])
set_option maxRecDepth 100000 in
theorem ck_tF0 : ∀ q ∈ ck_T0.1, ck_okF vwCl ck_TS "ScratchLadder" q := (ck_cons ⟨RX11, TX11, 15, rfl, by decide, (ck_mem 472 (by decide +kernel) (by decide +kernel)), Or.inr ⟨by decide +kernel, rfl, fun h => rfl⟩⟩ (ck_cons ⟨RX11, TX11, 15, rfl, by decide, (ck_mem 473 (by decide +kernel) (by decide +kernel)), Or.inr ⟨by decide +kernel, rfl, fun h => rfl⟩⟩ (ck_cons ⟨RX11, TX11, 15, rfl, by decide, (ck_mem 474 (by decide +kernel) (by decide +kernel)), Or.inr ⟨by decide +kernel, rfl, fun h => rfl⟩⟩ (ck_cons ⟨RX11, TX11, 15, rfl, by decide, (ck_mem 475 (by decide +kernel) (by decide +kernel)), Or.inr ⟨by decide +kernel, rfl, fun h => rfl⟩⟩ (ck_cons ⟨RX11, TX11, 15, rfl, by decide, (ck_mem 476 (by decide +kernel) (by decide +kernel)), Or.inr ⟨by decide +kernel, rfl, fun h => rfl⟩⟩ (ck_cons ⟨RX11, TX11, 15, rfl, by decide, (ck_mem 477 (by decide +kernel) (by decide +kernel)), Or.inr ⟨by decide +kernel, rfl, fun h => rfl⟩⟩ (ck_cons ⟨RX11, TX11, 15, rfl, by decide, (ck_mem 478 (by decide +kernel) (by decide +kernel)), Or.inr ⟨by decide +kernel, rfl, fun h => rfl⟩⟩ (ck_cons ⟨RX11, TX11, 15, rfl, by decide, (ck_mem 479 (by decide +kernel) (by decide +kernel)), Or.inr ⟨by decide +kernel, rfl, fun h => rfl⟩⟩ (ck_cons ⟨RX11, TX11, 15, rfl, by decide, (ck_mem 480 (by decide +kernel) (by decide +kernel)), Or.inr ⟨by decide +kernel, rfl, fun h => rfl⟩⟩ (ck_cons ⟨RX11, TX11, 15, rfl, by decide, (ck_mem 481 (by decide +kernel) (by decide +kernel)), Or.inr ⟨by decide +kernel, rfl, fun h => rfl⟩⟩ (ck_cons ⟨RX11, TX11, 15, rfl, by decide, (ck_mem 482 (by decide +kernel) (by decide +kernel)), Or.inr ⟨by decide +kernel, rfl, fun h => rfl⟩⟩ (ck_cons ⟨RX11, TX11, 15, rfl, by decide, (ck_mem 483 (by decide +kernel) (by decide +kernel)), Or.inr ⟨by decide +kernel, rfl, fun h => rfl⟩⟩ (ck_cons ⟨RX11, TX11, 15, rfl, by decide, (ck_mem 484 (by decide +kernel) (by decide +kernel)), Or.inr ⟨by decide +kernel, rfl, fun h => rfl⟩⟩ (ck_cons ⟨RX11, TX11, 15, rfl, by decide, (ck_mem 485 (by decide +kernel) (by decide +kernel)), Or.inr ⟨by decide +kernel, rfl, fun h => absurd h (by decide)⟩⟩ (ck_cons ⟨RX11, TX11, 15, rfl, by decide, (ck_mem 486 (by decide +kernel) (by decide +kernel)), Or.inr ⟨by decide +kernel, rfl, fun h => absurd h (by decide)⟩⟩ (ck_cons ⟨RX0, TX0, 19, rfl, by decide, (ck_mem 177 (by decide +kernel) (by decide +kernel)), Or.inr ⟨by decide +kernel, rfl, fun h => absurd h (by decide)⟩⟩ (ck_cons ⟨RX0, TX0, 19, rfl, by decide, (ck_mem 193 (by decide +kernel) (by decide +kernel)), Or.inl rfl⟩ (ck_cons ⟨RX0, TX0, 19, rfl, by decide, (ck_mem 195 (by decide +kernel) (by decide +kernel)), Or.inl rfl⟩ (ck_cons ⟨RX0, TX0, 19, rfl, by decide, (ck_mem 197 (by decide +kernel) (by decide +kernel)), Or.inl rfl⟩ (ck_cons ⟨RX0, TX0, 19, rfl, by decide, (ck_mem 199 (by decide +kernel) (by decide +kernel)), Or.inr ⟨by decide +kernel, rfl, fun h => absurd h (by decide)⟩⟩ (ck_cons ⟨RX8, TX8, 2, rfl, by decide, (ck_mem 269 (by decide +kernel) (by decide +kernel)), Or.inr ⟨by decide +kernel, rfl, fun h => absurd h (by decide)⟩⟩ (ck_cons ⟨RX0, TX0, 19, rfl, by decide, (ck_mem 203 (by decide +kernel) (by decide +kernel)), Or.inr ⟨by decide +kernel, rfl, fun h => absurd h (by decide)⟩⟩ (ck_cons ⟨RX0, TX0, 19, rfl, by decide, (ck_mem 210 (by decide +kernel) (by decide +kernel)), Or.inr ⟨by decide +kernel, rfl, fun h => absurd h (by decide)⟩⟩ (ck_cons ⟨RX0, TX0, 19, rfl, by decide, (ck_mem 213 (by decide +kernel) (by decide +kernel)), Or.inr ⟨by decide +kernel, rfl, fun h => absurd h (by decide)⟩⟩ (ck_cons ⟨RX0, TX0, 19, rfl, by decide, (ck_mem 215 (by decide +kernel) (by decide +kernel)), Or.inr ⟨by decide +kernel, rfl, fun h => absurd h (by decide)⟩⟩ (ck_cons ⟨RX0, TX0, 19, rfl, by decide, (ck_mem 217 (by decide +kernel) (by decide +kernel)), Or.inr ⟨by decide +kernel, rfl, fun h => absurd h (by decide)⟩⟩ (ck_cons ⟨RX10, TX10, 6, rfl, by decide, (ck_mem 341 (by decide +kernel) (by decide +kernel)), Or.inl rfl⟩ (ck_cons ⟨RX10, TX10, 6, rfl, by decide, (ck_mem 343 (by decide +kernel) (by decide +kernel)), Or.inl rfl⟩ (ck_cons ⟨RX3, TX3, 7, rfl, by decide, (ck_mem 376 (by decide +kernel) (by decide +kernel)), Or.inr ⟨by decide +kernel, rfl, fun h => absurd h (by decide)⟩⟩ ck_nil)))))))))))))))))))))))))))))
set_option maxRecDepth 100000 in
theorem ck_tN0 : ∀ q ∈ ck_T0.2.1, ck_okN vwCl ck_TS "ScratchLadder" q := (ck_cons ⟨RX0, TX0, 19, rfl, (ck_mem 152 (by decide +kernel) (by decide +kernel)), (ck_mem 153 (by decide +kernel) (by decide +kernel)), (ck_mem 124 (by decide +kernel) (by decide +kernel))⟩ (ck_cons ⟨RX8, TX8, 2, rfl, (ck_mem 258 (by decide +kernel) (by decide +kernel)), (ck_mem 259 (by decide +kernel) (by decide +kernel)), (ck_mem 126 (by decide +kernel) (by decide +kernel))⟩ (ck_cons ⟨RX5, TX5, 11, rfl, (ck_mem 276 (by decide +kernel) (by decide +kernel)), (ck_mem 277 (by decide +kernel) (by decide +kernel)), (ck_mem 127 (by decide +kernel) (by decide +kernel))⟩ (ck_cons ⟨RX4, TX4, 3, rfl, (ck_mem 316 (by decide +kernel) (by decide +kernel)), (ck_mem 317 (by decide +kernel) (by decide +kernel)), (ck_mem 128 (by decide +kernel) (by decide +kernel))⟩ (ck_cons ⟨RX10, TX10, 6, rfl, (ck_mem 333 (by decide +kernel) (by decide +kernel)), (ck_mem 334 (by decide +kernel) (by decide +kernel)), (ck_mem 129 (by decide +kernel) (by decide +kernel))⟩ (ck_cons ⟨RX3, TX3, 7, rfl, (ck_mem 362 (by decide +kernel) (by decide +kernel)), (ck_mem 363 (by decide +kernel) (by decide +kernel)), (ck_mem 130 (by decide +kernel) (by decide +kernel))⟩ (ck_cons ⟨RX1, TX1, 6, rfl, (ck_mem 395 (by decide +kernel) (by decide +kernel)), (ck_mem 396 (by decide +kernel) (by decide +kernel)), (ck_mem 132 (by decide +kernel) (by decide +kernel))⟩ (ck_cons ⟨RX6, TX6, 2, rfl, (ck_mem 421 (by decide +kernel) (by decide +kernel)), (ck_mem 422 (by decide +kernel) (by decide +kernel)), (ck_mem 133 (by decide +kernel) (by decide +kernel))⟩ (ck_cons ⟨RX7, TX7, 5, rfl, (ck_mem 434 (by decide +kernel) (by decide +kernel)), (ck_mem 435 (by decide +kernel) (by decide +kernel)), (ck_mem 134 (by decide +kernel) (by decide +kernel))⟩ (ck_cons ⟨RX2, TX2, 3, rfl, (ck_mem 456 (by decide +kernel) (by decide +kernel)), (ck_mem 457 (by decide +kernel) (by decide +kernel)), (ck_mem 135 (by decide +kernel) (by decide +kernel))⟩ ck_nil))))))))))
set_option maxRecDepth 100000 in
theorem ck_tA0 : ∀ q ∈ ck_T0.2.2.2.2.1, ck_okA ck_TS ck_AO "ScratchLadder" q := (ck_cons ⟨(ck_mem 152 (by decide +kernel) (by decide +kernel)), by decide⟩ ck_nil)
set_option maxRecDepth 100000 in
theorem ck_tK0 : ∀ q ∈ ck_T0.2.2.2.2.2.2.1, Cond.constant "ScratchLadder" q.1 (Int32.ofInt q.2) ∈ ck_TS := (ck_cons (ck_mem 574 (by decide +kernel) (by decide +kernel)) ck_nil)
set_option maxRecDepth 100000 in
theorem ck_tS0 : ∀ q ∈ ck_T0.2.2.2.2.2.2.2.1, (("ScratchLadder", q.1, q.2) : String × Nat × Nat) ∈ ck_SL := ck_nil
set_option maxRecDepth 100000 in
theorem ck_tM0 : ∀ q ∈ ck_T0.2.2.2.2.2.2.2.2, q.2.1 < 6 → ck_okL ck_TS ck_NM ck_mts "ScratchLadder" q := (ck_cons (fun h => absurd h (by decide)) (ck_cons (fun _ => ⟨ck_m2, rfl, ck_mw2.1, ck_mw2.2.1, ck_mw2.2.2.1, ck_mw2.2.2.2, "ScratchLadder", by decide, ck_mi2.1, ck_mi2.2.1, ck_mi2.2.2⟩) (ck_cons (fun _ => ⟨ck_m4, rfl, ck_mw4.1, ck_mw4.2.1, ck_mw4.2.2.1, ck_mw4.2.2.2, "ScratchLadder", by decide, ck_mi4.1, ck_mi4.2.1, ck_mi4.2.2⟩) (ck_cons (fun _ => ⟨ck_m5, rfl, ck_mw5.1, ck_mw5.2.1, ck_mw5.2.2.1, ck_mw5.2.2.2, (ck_mem 278 (by decide +kernel) (by decide +kernel)), ck_mi5.1, ck_mi5.2.1, ck_mi5.2.2⟩) (ck_cons (fun _ => ⟨ck_m6, rfl, ck_mw6.1, ck_mw6.2.1, ck_mw6.2.2.1, ck_mw6.2.2.2, (ck_mem 318 (by decide +kernel) (by decide +kernel)), ck_mi6.1, ck_mi6.2.1, ck_mi6.2.2⟩) (ck_cons (fun _ => ⟨ck_m7, rfl, ck_mw7.1, ck_mw7.2.1, ck_mw7.2.2.1, ck_mw7.2.2.2, (ck_mem 335 (by decide +kernel) (by decide +kernel)), ck_mi7.1, ck_mi7.2.1, ck_mi7.2.2⟩) (ck_cons (fun _ => ⟨ck_m8, rfl, ck_mw8.1, ck_mw8.2.1, ck_mw8.2.2.1, ck_mw8.2.2.2, (ck_mem 364 (by decide +kernel) (by decide +kernel)), ck_mi8.1, ck_mi8.2.1, ck_mi8.2.2⟩) (ck_cons (fun _ => ⟨ck_m10, rfl, ck_mw10.1, ck_mw10.2.1, ck_mw10.2.2.1, ck_mw10.2.2.2, (ck_mem 397 (by decide +kernel) (by decide +kernel)), ck_mi10.1, ck_mi10.2.1, ck_mi10.2.2⟩) (ck_cons (fun _ => ⟨ck_m11, rfl, ck_mw11.1, ck_mw11.2.1, ck_mw11.2.2.1, ck_mw11.2.2.2, (ck_mem 423 (by decide +kernel) (by decide +kernel)), ck_mi11.1, ck_mi11.2.1, ck_mi11.2.2⟩) (ck_cons (fun _ => ⟨ck_m12, rfl, ck_mw12.1, ck_mw12.2.1, ck_mw12.2.2.1, ck_mw12.2.2.2, "ScratchLadder", by decide, ck_mi12.1, ck_mi12.2.1, ck_mi12.2.2⟩) (ck_cons (fun _ => ⟨ck_m13, rfl, ck_mw13.1, ck_mw13.2.1, ck_mw13.2.2.1, ck_mw13.2.2.2, (ck_mem 458 (by decide +kernel) (by decide +kernel)), ck_mi13.1, ck_mi13.2.1, ck_mi13.2.2⟩) (ck_cons (fun _ => ⟨ck_m16, rfl, ck_mw16.1, ck_mw16.2.1, ck_mw16.2.2.1, ck_mw16.2.2.2, (ck_mem 522 (by decide +kernel) (by decide +kernel)), ck_mst16⟩) (ck_cons (fun _ => ⟨ck_m17, rfl, ck_mw17.1, ck_mw17.2.1, ck_mw17.2.2.1, ck_mw17.2.2.2, (ck_mem 525 (by decide +kernel) (by decide +kernel)), ck_mv17.1, ck_mv17.2⟩) (ck_cons (fun _ => ⟨ck_m18, rfl, ck_mw18.1, ck_mw18.2.1, ck_mw18.2.2.1, ck_mw18.2.2.2, (ck_mem 529 (by decide +kernel) (by decide +kernel)), ck_mv18.1, ck_mv18.2⟩) (ck_cons (fun _ => ⟨ck_m19, rfl, ck_mw19.1, ck_mw19.2.1, ck_mw19.2.2.1, ck_mw19.2.2.2, (ck_mem 533 (by decide +kernel) (by decide +kernel)), ck_mv19.1, ck_mv19.2⟩) (ck_cons (fun _ => ⟨ck_m26, rfl, ck_mw26.1, ck_mw26.2.1, ck_mw26.2.2.1, ck_mw26.2.2.2, (ck_mem 541 (by decide +kernel) (by decide +kernel)), ck_mst26⟩) (ck_cons (fun _ => ⟨ck_m27, rfl, ck_mw27.1, ck_mw27.2.1, ck_mw27.2.2.1, ck_mw27.2.2.2, (ck_mem 544 (by decide +kernel) (by decide +kernel)), ck_mv27.1, ck_mv27.2⟩) (ck_cons (fun _ => ⟨ck_m33, rfl, ck_mw33.1, ck_mw33.2.1, ck_mw33.2.2.1, ck_mw33.2.2.2, (ck_mem 552 (by decide +kernel) (by decide +kernel)), ck_mst33⟩) (ck_cons (fun _ => ⟨ck_m37, rfl, ck_mw37.1, ck_mw37.2.1, ck_mw37.2.2.1, ck_mw37.2.2.2, (ck_mem 567 (by decide +kernel) (by decide +kernel)), ck_mst37⟩) (ck_cons (fun _ => ⟨ck_m42, rfl, ck_mw42.1, ck_mw42.2.1, ck_mw42.2.2.1, ck_mw42.2.2.2, (ck_mem 579 (by decide +kernel) (by decide +kernel)), ck_mv42.1, ck_mv42.2⟩) (ck_cons (fun _ => ⟨ck_m47, rfl, ck_mw47.1, ck_mw47.2.1, ck_mw47.2.2.1, ck_mw47.2.2.2, (ck_mem 591 (by decide +kernel) (by decide +kernel)), ck_mv47.1, ck_mv47.2⟩) (ck_cons (fun _ => ⟨ck_m54, rfl, ck_mw54.1, ck_mw54.2.1, ck_mw54.2.2.1, ck_mw54.2.2.2, (ck_mem 779 (by decide +kernel) (by decide +kernel)), ck_mv54.1, ck_mv54.2⟩) (ck_cons (fun _ => ⟨ck_m77, rfl, ck_mw77.1, ck_mw77.2.1, ck_mw77.2.2.1, ck_mw77.2.2.2, (ck_mem 886 (by decide +kernel) (by decide +kernel)), ck_mv77.1, ck_mv77.2⟩) (ck_cons (fun _ => ⟨ck_m85, rfl, ck_mw85.1, ck_mw85.2.1, ck_mw85.2.2.1, ck_mw85.2.2.2, (ck_mem 915 (by decide +kernel) (by decide +kernel)), ck_mv85.1, ck_mv85.2⟩) (ck_cons (fun _ => ⟨ck_m90, rfl, ck_mw90.1, ck_mw90.2.1, ck_mw90.2.2.1, ck_mw90.2.2.2, (ck_mem 919 (by decide +kernel) (by decide +kernel)), ck_mv90.1, ck_mv90.2⟩) (ck_cons (fun _ => ⟨ck_m92, rfl, ck_mw92.1, ck_mw92.2.1, ck_mw92.2.2.1, ck_mw92.2.2.2, (ck_mem 952 (by decide +kernel) (by decide +kernel)), ck_mv92.1, ck_mv92.2⟩) (ck_cons (fun _ => ⟨ck_m118, rfl, ck_mw118.1, ck_mw118.2.1, ck_mw118.2.2.1, ck_mw118.2.2.2, (ck_mem 986 (by decide +kernel) (by decide +kernel)), ck_mst118⟩) (ck_cons (fun _ => ⟨ck_m105, rfl, ck_mw105.1, ck_mw105.2.1, ck_mw105.2.2.1, ck_mw105.2.2.2, (ck_mem 996 (by decide +kernel) (by decide +kernel)), ck_mv105.1, ck_mv105.2⟩) (ck_cons (fun _ => ⟨ck_m132, rfl, ck_mw132.1, ck_mw132.2.1, ck_mw132.2.2.1, ck_mw132.2.2.2, (ck_mem 1154 (by decide +kernel) (by decide +kernel)), ck_mv132.1, ck_mv132.2⟩) (ck_cons (fun _ => ⟨ck_m135, rfl, ck_mw135.1, ck_mw135.2.1, ck_mw135.2.2.1, ck_mw135.2.2.2, (ck_mem 1168 (by decide +kernel) (by decide +kernel)), ck_mv135.1, ck_mv135.2⟩) (ck_cons (fun _ => ⟨ck_m134, rfl, ck_mw134.1, ck_mw134.2.1, ck_mw134.2.2.1, ck_mw134.2.2.2, (ck_mem 1180 (by decide +kernel) (by decide +kernel)), ck_mv134.1, ck_mv134.2⟩) (ck_cons (fun _ => ⟨ck_m148, rfl, ck_mw148.1, ck_mw148.2.1, ck_mw148.2.2.1, ck_mw148.2.2.2, (ck_mem 1269 (by decide +kernel) (by decide +kernel)), ck_mv148.1, ck_mv148.2⟩) (ck_cons (fun _ => ⟨ck_m154, rfl, ck_mw154.1, ck_mw154.2.1, ck_mw154.2.2.1, ck_mw154.2.2.2, (ck_mem 1285 (by decide +kernel) (by decide +kernel)), ck_mv154.1, ck_mv154.2⟩) ck_nil)))))))))))))))))))))))))))))))))
set_option maxRecDepth 100000 in
theorem ck_tY0 : ∀ q ∈ ck_T0.2.2.2.2.2.2.2.2, ck_okY ck_TS "ScratchLadder" q := (ck_cons ⟨fun h => absurd h (by decide), fun _ => ⟨(ck_mem 149 (by decide +kernel) (by decide +kernel)), (ck_mem 150 (by decide +kernel) (by decide +kernel)), ck_mem 151 rfl (by decide +kernel)⟩, fun h => absurd h (by decide)⟩ (ck_cons ⟨fun h => absurd h (by decide), fun h => absurd h (by decide), fun h => absurd h (by decide)⟩ (ck_cons ⟨fun h => absurd h (by decide), fun h => absurd h (by decide), fun h => absurd h (by decide)⟩ (ck_cons ⟨fun h => absurd h (by decide), fun h => absurd h (by decide), fun h => absurd h (by decide)⟩ (ck_cons ⟨fun h => absurd h (by decide), fun h => absurd h (by decide), fun h => absurd h (by decide)⟩ (ck_cons ⟨fun h => absurd h (by decide), fun h => absurd h (by decide), fun h => absurd h (by decide)⟩ (ck_cons ⟨fun h => absurd h (by decide), fun h => absurd h (by decide), fun h => absurd h (by decide)⟩ (ck_cons ⟨fun h => absurd h (by decide), fun h => absurd h (by decide), fun h => absurd h (by decide)⟩ (ck_cons ⟨fun h => absurd h (by decide), fun h => absurd h (by decide), fun h => absurd h (by decide)⟩ (ck_cons ⟨fun h => absurd h (by decide), fun h => absurd h (by decide), fun h => absurd h (by decide)⟩ (ck_cons ⟨fun h => absurd h (by decide), fun h => absurd h (by decide), fun h => absurd h (by decide)⟩ (ck_cons ⟨fun h => absurd h (by decide), fun h => absurd h (by decide), fun h => absurd h (by decide)⟩ (ck_cons ⟨fun h => absurd h (by decide), fun h => absurd h (by decide), fun h => absurd h (by decide)⟩ (ck_cons ⟨fun h => absurd h (by decide), fun h => absurd h (by decide), fun h => absurd h (by decide)⟩ (ck_cons ⟨fun h => absurd h (by decide), fun h => absurd h (by decide), fun h => absurd h (by decide)⟩ (ck_cons ⟨fun h => absurd h (by decide), fun h => absurd h (by decide), fun h => absurd h (by decide)⟩ (ck_cons ⟨fun h => absurd h (by decide), fun h => absurd h (by decide), fun h => absurd h (by decide)⟩ (ck_cons ⟨fun h => absurd h (by decide), fun h => absurd h (by decide), fun h => absurd h (by decide)⟩ (ck_cons ⟨fun h => absurd h (by decide), fun h => absurd h (by decide), fun h => absurd h (by decide)⟩ (ck_cons ⟨fun h => absurd h (by decide), fun h => absurd h (by decide), fun h => absurd h (by decide)⟩ (ck_cons ⟨fun h => absurd h (by decide), fun h => absurd h (by decide), fun h => absurd h (by decide)⟩ (ck_cons ⟨fun h => absurd h (by decide), fun h => absurd h (by decide), fun h => absurd h (by decide)⟩ (ck_cons ⟨fun h => absurd h (by decide), fun h => absurd h (by decide), fun h => absurd h (by decide)⟩ (ck_cons ⟨fun h => absurd h (by decide), fun h => absurd h (by decide), fun h => absurd h (by decide)⟩ (ck_cons ⟨fun h => absurd h (by decide), fun h => absurd h (by decide), fun h => absurd h (by decide)⟩ (ck_cons ⟨fun h => absurd h (by decide), fun h => absurd h (by decide), fun h => absurd h (by decide)⟩ (ck_cons ⟨fun h => absurd h (by decide), fun h => absurd h (by decide), fun h => absurd h (by decide)⟩ (ck_cons ⟨fun h => absurd h (by decide), fun h => absurd h (by decide), fun h => absurd h (by decide)⟩ (ck_cons ⟨fun h => absurd h (by decide), fun h => absurd h (by decide), fun h => absurd h (by decide)⟩ (ck_cons ⟨fun h => absurd h (by decide), fun h => absurd h (by decide), fun h => absurd h (by decide)⟩ (ck_cons ⟨fun h => absurd h (by decide), fun h => absurd h (by decide), fun h => absurd h (by decide)⟩ (ck_cons ⟨fun h => absurd h (by decide), fun h => absurd h (by decide), fun h => absurd h (by decide)⟩ (ck_cons ⟨fun h => absurd h (by decide), fun h => absurd h (by decide), fun h => absurd h (by decide)⟩ ck_nil)))))))))))))))))))))))))))))))))
theorem ck_okT0 : ck_okT vwCl ck_TS ck_NM ck_AO ck_SL ck_mts "ScratchLadder" ck_T0 := ⟨ck_tF0, ck_tN0, ck_okDt, ck_okAt, ck_tA0, ck_tK0, ck_tS0, ck_tM0, ck_tY0⟩
def ck_T1 : ck_T := ([(9, 0, 0, .int, false), (15, 0, 1, (.array .int), true), (19, 0, 2, (.array .int), true), (22, 0, 3, (.array .int), true), (25, 0, 4, (.array .int), true), (28, 0, 5, (.array .int), true), (31, 0, 6, (.array .int), true), (34, 0, 7, (.array .int), true), (37, 0, 8, (.array .int), true), (40, 0, 9, .int, false), (43, 0, 10, .int, false), (46, 0, 11, .int, false), (51, 0, 12, (.array (.object "ScratchLadder$Text")), true), (58, 0, 13, (.object "ScratchLadder$Text"), true), (62, 0, 14, .int, false), (65, 0, 15, (.array .int), true), (68, 0, 16, .int, false), (71, 0, 17, .int, false), (74, 0, 18, .int, false)], [(49, 9)], ck_dt, ck_ats, [(49, "ScratchLadder$Text")], ck_tr, [], [], [(3, 7, 0), (55, 2, 3), (77, 1, 149), (80, 8, 0), (86, 6, 0), (92, 4, 16)])
set_option maxRecDepth 100000 in
theorem ck_tF1 : ∀ q ∈ ck_T1.1, ck_okF vwCl ck_TS "ScratchLadder$Bench" q := (ck_cons ⟨RX0, TX0, 19, rfl, by decide, (ck_mem 174 (by decide +kernel) (by decide +kernel)), Or.inr ⟨by decide +kernel, rfl, fun h => absurd h (by decide)⟩⟩ (ck_cons ⟨RX0, TX0, 19, rfl, by decide, (ck_mem 180 (by decide +kernel) (by decide +kernel)), Or.inr ⟨by decide +kernel, rfl, fun h => rfl⟩⟩ (ck_cons ⟨RX0, TX0, 19, rfl, by decide, (ck_mem 182 (by decide +kernel) (by decide +kernel)), Or.inr ⟨by decide +kernel, rfl, fun h => rfl⟩⟩ (ck_cons ⟨RX0, TX0, 19, rfl, by decide, (ck_mem 184 (by decide +kernel) (by decide +kernel)), Or.inr ⟨by decide +kernel, rfl, fun h => rfl⟩⟩ (ck_cons ⟨RX0, TX0, 19, rfl, by decide, (ck_mem 186 (by decide +kernel) (by decide +kernel)), Or.inr ⟨by decide +kernel, rfl, fun h => rfl⟩⟩ (ck_cons ⟨RX0, TX0, 19, rfl, by decide, (ck_mem 189 (by decide +kernel) (by decide +kernel)), Or.inr ⟨by decide +kernel, rfl, fun h => rfl⟩⟩ (ck_cons ⟨RX0, TX0, 19, rfl, by decide, (ck_mem 192 (by decide +kernel) (by decide +kernel)), Or.inr ⟨by decide +kernel, rfl, fun h => rfl⟩⟩ (ck_cons ⟨RX0, TX0, 19, rfl, by decide, (ck_mem 194 (by decide +kernel) (by decide +kernel)), Or.inr ⟨by decide +kernel, rfl, fun h => rfl⟩⟩ (ck_cons ⟨RX0, TX0, 19, rfl, by decide, (ck_mem 196 (by decide +kernel) (by decide +kernel)), Or.inr ⟨by decide +kernel, rfl, fun h => rfl⟩⟩ (ck_cons ⟨RX0, TX0, 19, rfl, by decide, (ck_mem 198 (by decide +kernel) (by decide +kernel)), Or.inr ⟨by decide +kernel, rfl, fun h => absurd h (by decide)⟩⟩ (ck_cons ⟨RX0, TX0, 19, rfl, by decide, (ck_mem 200 (by decide +kernel) (by decide +kernel)), Or.inr ⟨by decide +kernel, rfl, fun h => absurd h (by decide)⟩⟩ (ck_cons ⟨RX0, TX0, 19, rfl, by decide, (ck_mem 202 (by decide +kernel) (by decide +kernel)), Or.inr ⟨by decide +kernel, rfl, fun h => absurd h (by decide)⟩⟩ (ck_cons ⟨RX0, TX0, 19, rfl, by decide, (ck_mem 204 (by decide +kernel) (by decide +kernel)), Or.inr ⟨by decide +kernel, rfl, fun h => rfl⟩⟩ (ck_cons ⟨RX0, TX0, 19, rfl, by decide, (ck_mem 206 (by decide +kernel) (by decide +kernel)), Or.inr ⟨by decide +kernel, rfl, fun h => rfl⟩⟩ (ck_cons ⟨RX0, TX0, 19, rfl, by decide, (ck_mem 207 (by decide +kernel) (by decide +kernel)), Or.inr ⟨by decide +kernel, rfl, fun h => absurd h (by decide)⟩⟩ (ck_cons ⟨RX0, TX0, 19, rfl, by decide, (ck_mem 211 (by decide +kernel) (by decide +kernel)), Or.inr ⟨by decide +kernel, rfl, fun h => rfl⟩⟩ (ck_cons ⟨RX0, TX0, 19, rfl, by decide, (ck_mem 212 (by decide +kernel) (by decide +kernel)), Or.inr ⟨by decide +kernel, rfl, fun h => absurd h (by decide)⟩⟩ (ck_cons ⟨RX0, TX0, 19, rfl, by decide, (ck_mem 214 (by decide +kernel) (by decide +kernel)), Or.inr ⟨by decide +kernel, rfl, fun h => absurd h (by decide)⟩⟩ (ck_cons ⟨RX0, TX0, 19, rfl, by decide, (ck_mem 216 (by decide +kernel) (by decide +kernel)), Or.inr ⟨by decide +kernel, rfl, fun h => absurd h (by decide)⟩⟩ ck_nil)))))))))))))))))))
set_option maxRecDepth 100000 in
theorem ck_tN1 : ∀ q ∈ ck_T1.2.1, ck_okN vwCl ck_TS "ScratchLadder$Bench" q := (ck_cons ⟨RX9, TX9, 2, rfl, (ck_mem 158 (by decide +kernel) (by decide +kernel)), (ck_mem 160 (by decide +kernel) (by decide +kernel)), (ck_mem 125 (by decide +kernel) (by decide +kernel))⟩ ck_nil)
set_option maxRecDepth 100000 in
theorem ck_tA1 : ∀ q ∈ ck_T1.2.2.2.2.1, ck_okA ck_TS ck_AO "ScratchLadder$Bench" q := (ck_cons ⟨(ck_mem 158 (by decide +kernel) (by decide +kernel)), by decide⟩ ck_nil)
set_option maxRecDepth 100000 in
theorem ck_tK1 : ∀ q ∈ ck_T1.2.2.2.2.2.2.1, Cond.constant "ScratchLadder$Bench" q.1 (Int32.ofInt q.2) ∈ ck_TS := ck_nil
set_option maxRecDepth 100000 in
theorem ck_tS1 : ∀ q ∈ ck_T1.2.2.2.2.2.2.2.1, (("ScratchLadder$Bench", q.1, q.2) : String × Nat × Nat) ∈ ck_SL := ck_nil
set_option maxRecDepth 100000 in
theorem ck_tM1 : ∀ q ∈ ck_T1.2.2.2.2.2.2.2.2, q.2.1 < 6 → ck_okL ck_TS ck_NM ck_mts "ScratchLadder$Bench" q := (ck_cons (fun h => absurd h (by decide)) (ck_cons (fun _ => ⟨ck_m3, rfl, ck_mw3.1, ck_mw3.2.1, ck_mw3.2.2.1, ck_mw3.2.2.2, (ck_mem 161 (by decide +kernel) (by decide +kernel)), ck_mi3.1, ck_mi3.2.1, ck_mi3.2.2⟩) (ck_cons (fun _ => ⟨ck_m149, rfl, ck_mw149.1, ck_mw149.2.1, ck_mw149.2.2.1, ck_mw149.2.2.2, (ck_mem 1273 (by decide +kernel) (by decide +kernel)), ck_mst149⟩) (ck_cons (fun h => absurd h (by decide)) (ck_cons (fun h => absurd h (by decide)) (ck_cons (fun _ => ⟨ck_m16, rfl, ck_mw16.1, ck_mw16.2.1, ck_mw16.2.2.1, ck_mw16.2.2.2, "ScratchLadder", by decide, ck_mst16⟩) ck_nil))))))
set_option maxRecDepth 100000 in
theorem ck_tY1 : ∀ q ∈ ck_T1.2.2.2.2.2.2.2.2, ck_okY ck_TS "ScratchLadder$Bench" q := (ck_cons ⟨fun h => absurd h (by decide), fun _ => ⟨(ck_mem 157 (by decide +kernel) (by decide +kernel)), (ck_mem 150 (by decide +kernel) (by decide +kernel)), ck_mem 151 rfl (by decide +kernel)⟩, fun h => absurd h (by decide)⟩ (ck_cons ⟨fun h => absurd h (by decide), fun h => absurd h (by decide), fun h => absurd h (by decide)⟩ (ck_cons ⟨fun h => absurd h (by decide), fun h => absurd h (by decide), fun h => absurd h (by decide)⟩ (ck_cons ⟨fun h => absurd h (by decide), fun h => absurd h (by decide), fun _ => ⟨(ck_mem 1276 (by decide +kernel) (by decide +kernel)), (ck_mem 605 (by decide +kernel) (by decide +kernel)), (ck_mem 137 (by decide +kernel) (by decide +kernel)), ck_mem 606 rfl (by decide +kernel)⟩⟩ (ck_cons ⟨fun _ => ⟨(ck_mem 869 (by decide +kernel) (by decide +kernel)), (ck_mem 777 (by decide +kernel) (by decide +kernel)), (ck_mem 776 (by decide +kernel) (by decide +kernel)), (ck_mem 142 (by decide +kernel) (by decide +kernel))⟩, fun h => absurd h (by decide), fun h => absurd h (by decide)⟩ (ck_cons ⟨fun h => absurd h (by decide), fun h => absurd h (by decide), fun h => absurd h (by decide)⟩ ck_nil))))))
theorem ck_okT1 : ck_okT vwCl ck_TS ck_NM ck_AO ck_SL ck_mts "ScratchLadder$Bench" ck_T1 := ⟨ck_tF1, ck_tN1, ck_okDt, ck_okAt, ck_tA1, ck_tK1, ck_tS1, ck_tM1, ck_tY1⟩
def ck_T2 : ck_T := ([(9, 1, 2, (.array .int), true), (15, 1, 3, (.array .int), true), (18, 1, 4, (.array .int), true), (21, 1, 5, (.array .int), true), (24, 1, 0, (.object "ScratchLadder$Bench"), true), (28, 1, 1, (.object "ScratchLadder$Question"), true), (32, 0, 0, .int, false), (57, 0, 14, .int, false)], [], ck_dt, ck_ats, [], ck_tr, [], [], [(3, 7, 0), (48, 0, 133), (51, 1, 9)])
set_option maxRecDepth 100000 in
theorem ck_tF2 : ∀ q ∈ ck_T2.1, ck_okF vwCl ck_TS "ScratchLadder$Lineup" q := (ck_cons ⟨RX1, TX1, 6, rfl, by decide, (ck_mem 403 (by decide +kernel) (by decide +kernel)), Or.inr ⟨by decide +kernel, rfl, fun h => rfl⟩⟩ (ck_cons ⟨RX1, TX1, 6, rfl, by decide, (ck_mem 404 (by decide +kernel) (by decide +kernel)), Or.inr ⟨by decide +kernel, rfl, fun h => rfl⟩⟩ (ck_cons ⟨RX1, TX1, 6, rfl, by decide, (ck_mem 405 (by decide +kernel) (by decide +kernel)), Or.inr ⟨by decide +kernel, rfl, fun h => rfl⟩⟩ (ck_cons ⟨RX1, TX1, 6, rfl, by decide, (ck_mem 406 (by decide +kernel) (by decide +kernel)), Or.inr ⟨by decide +kernel, rfl, fun h => rfl⟩⟩ (ck_cons ⟨RX1, TX1, 6, rfl, by decide, (ck_mem 401 (by decide +kernel) (by decide +kernel)), Or.inr ⟨by decide +kernel, rfl, fun h => rfl⟩⟩ (ck_cons ⟨RX1, TX1, 6, rfl, by decide, (ck_mem 402 (by decide +kernel) (by decide +kernel)), Or.inr ⟨by decide +kernel, rfl, fun h => rfl⟩⟩ (ck_cons ⟨RX0, TX0, 19, rfl, by decide, (ck_mem 176 (by decide +kernel) (by decide +kernel)), Or.inr ⟨by decide +kernel, rfl, fun h => absurd h (by decide)⟩⟩ (ck_cons ⟨RX0, TX0, 19, rfl, by decide, (ck_mem 209 (by decide +kernel) (by decide +kernel)), Or.inr ⟨by decide +kernel, rfl, fun h => absurd h (by decide)⟩⟩ ck_nil))))))))
set_option maxRecDepth 100000 in
theorem ck_tN2 : ∀ q ∈ ck_T2.2.1, ck_okN vwCl ck_TS "ScratchLadder$Lineup" q := ck_nil
set_option maxRecDepth 100000 in
theorem ck_tA2 : ∀ q ∈ ck_T2.2.2.2.2.1, ck_okA ck_TS ck_AO "ScratchLadder$Lineup" q := ck_nil
set_option maxRecDepth 100000 in
theorem ck_tK2 : ∀ q ∈ ck_T2.2.2.2.2.2.2.1, Cond.constant "ScratchLadder$Lineup" q.1 (Int32.ofInt q.2) ∈ ck_TS := ck_nil
set_option maxRecDepth 100000 in
theorem ck_tS2 : ∀ q ∈ ck_T2.2.2.2.2.2.2.2.1, (("ScratchLadder$Lineup", q.1, q.2) : String × Nat × Nat) ∈ ck_SL := ck_nil
set_option maxRecDepth 100000 in
theorem ck_tM2 : ∀ q ∈ ck_T2.2.2.2.2.2.2.2.2, q.2.1 < 6 → ck_okL ck_TS ck_NM ck_mts "ScratchLadder$Lineup" q := (ck_cons (fun h => absurd h (by decide)) (ck_cons (fun _ => ⟨ck_m133, rfl, ck_mw133.1, ck_mw133.2.1, ck_mw133.2.2.1, ck_mw133.2.2.2, (ck_mem 1160 (by decide +kernel) (by decide +kernel)), ck_mv133.1, ck_mv133.2⟩) (ck_cons (fun _ => ⟨ck_m9, rfl, ck_mw9.1, ck_mw9.2.1, ck_mw9.2.2.1, ck_mw9.2.2.2, (ck_mem 1172 (by decide +kernel) (by decide +kernel)), ck_mst9⟩) ck_nil)))
set_option maxRecDepth 100000 in
theorem ck_tY2 : ∀ q ∈ ck_T2.2.2.2.2.2.2.2.2, ck_okY ck_TS "ScratchLadder$Lineup" q := (ck_cons ⟨fun h => absurd h (by decide), fun _ => ⟨(ck_mem 400 (by decide +kernel) (by decide +kernel)), (ck_mem 150 (by decide +kernel) (by decide +kernel)), ck_mem 151 rfl (by decide +kernel)⟩, fun h => absurd h (by decide)⟩ (ck_cons ⟨fun h => absurd h (by decide), fun h => absurd h (by decide), fun h => absurd h (by decide)⟩ (ck_cons ⟨fun h => absurd h (by decide), fun h => absurd h (by decide), fun h => absurd h (by decide)⟩ ck_nil)))
theorem ck_okT2 : ck_okT vwCl ck_TS ck_NM ck_AO ck_SL ck_mts "ScratchLadder$Lineup" ck_T2 := ⟨ck_tF2, ck_tN2, ck_okDt, ck_okAt, ck_tA2, ck_tK2, ck_tS2, ck_tM2, ck_tY2⟩
def ck_T3 : ck_T := ([(9, 2, 2, (.array .int), true), (15, 2, 0, (.object "ScratchLadder$Bench"), true), (19, 2, 1, (.object "ScratchLadder$Ties"), true)], [], ck_dt, ck_ats, [], ck_tr, [], [], [(3, 7, 0)])
set_option maxRecDepth 100000 in
theorem ck_tF3 : ∀ q ∈ ck_T3.1, ck_okF vwCl ck_TS "ScratchLadder$Naming" q := (ck_cons ⟨RX2, TX2, 3, rfl, by decide, (ck_mem 464 (by decide +kernel) (by decide +kernel)), Or.inr ⟨by decide +kernel, rfl, fun h => rfl⟩⟩ (ck_cons ⟨RX2, TX2, 3, rfl, by decide, (ck_mem 462 (by decide +kernel) (by decide +kernel)), Or.inr ⟨by decide +kernel, rfl, fun h => rfl⟩⟩ (ck_cons ⟨RX2, TX2, 3, rfl, by decide, (ck_mem 463 (by decide +kernel) (by decide +kernel)), Or.inr ⟨by decide +kernel, rfl, fun h => rfl⟩⟩ ck_nil)))
set_option maxRecDepth 100000 in
theorem ck_tN3 : ∀ q ∈ ck_T3.2.1, ck_okN vwCl ck_TS "ScratchLadder$Naming" q := ck_nil
set_option maxRecDepth 100000 in
theorem ck_tA3 : ∀ q ∈ ck_T3.2.2.2.2.1, ck_okA ck_TS ck_AO "ScratchLadder$Naming" q := ck_nil
set_option maxRecDepth 100000 in
theorem ck_tK3 : ∀ q ∈ ck_T3.2.2.2.2.2.2.1, Cond.constant "ScratchLadder$Naming" q.1 (Int32.ofInt q.2) ∈ ck_TS := ck_nil
set_option maxRecDepth 100000 in
theorem ck_tS3 : ∀ q ∈ ck_T3.2.2.2.2.2.2.2.1, (("ScratchLadder$Naming", q.1, q.2) : String × Nat × Nat) ∈ ck_SL := ck_nil
set_option maxRecDepth 100000 in
theorem ck_tM3 : ∀ q ∈ ck_T3.2.2.2.2.2.2.2.2, q.2.1 < 6 → ck_okL ck_TS ck_NM ck_mts "ScratchLadder$Naming" q := (ck_cons (fun h => absurd h (by decide)) ck_nil)
set_option maxRecDepth 100000 in
theorem ck_tY3 : ∀ q ∈ ck_T3.2.2.2.2.2.2.2.2, ck_okY ck_TS "ScratchLadder$Naming" q := (ck_cons ⟨fun h => absurd h (by decide), fun _ => ⟨(ck_mem 461 (by decide +kernel) (by decide +kernel)), (ck_mem 150 (by decide +kernel) (by decide +kernel)), ck_mem 151 rfl (by decide +kernel)⟩, fun h => absurd h (by decide)⟩ ck_nil)
theorem ck_okT3 : ck_okT vwCl ck_TS ck_NM ck_AO ck_SL ck_mts "ScratchLadder$Naming" ck_T3 := ⟨ck_tF3, ck_tN3, ck_okDt, ck_okAt, ck_tA3, ck_tK3, ck_tS3, ck_tM3, ck_tY3⟩
def ck_T4 : ck_T := ([(11, 3, 1, (.array .int), true), (15, 3, 2, (.array .int), true), (18, 3, 3, (.array .int), true), (21, 3, 4, .int, false), (25, 3, 5, (.array .int), true), (28, 3, 6, (.array .int), true), (31, 3, 0, (.object "ScratchLadder$Bench"), true), (41, 0, 0, .int, false)], [], ck_dt, ck_ats, [], ck_tr, [], [], [(5, 7, 0), (35, 1, 9), (46, 1, 93), (53, 0, 106), (61, 0, 107)])
set_option maxRecDepth 100000 in
theorem ck_tF4 : ∀ q ∈ ck_T4.1, ck_okF vwCl ck_TS "ScratchLadder$Orders" q := (ck_cons ⟨RX3, TX3, 7, rfl, by decide, (ck_mem 372 (by decide +kernel) (by decide +kernel)), Or.inr ⟨by decide +kernel, rfl, fun h => rfl⟩⟩ (ck_cons ⟨RX3, TX3, 7, rfl, by decide, (ck_mem 373 (by decide +kernel) (by decide +kernel)), Or.inr ⟨by decide +kernel, rfl, fun h => rfl⟩⟩ (ck_cons ⟨RX3, TX3, 7, rfl, by decide, (ck_mem 374 (by decide +kernel) (by decide +kernel)), Or.inr ⟨by decide +kernel, rfl, fun h => rfl⟩⟩ (ck_cons ⟨RX3, TX3, 7, rfl, by decide, (ck_mem 375 (by decide +kernel) (by decide +kernel)), Or.inr ⟨by decide +kernel, rfl, fun h => absurd h (by decide)⟩⟩ (ck_cons ⟨RX3, TX3, 7, rfl, by decide, (ck_mem 377 (by decide +kernel) (by decide +kernel)), Or.inr ⟨by decide +kernel, rfl, fun h => rfl⟩⟩ (ck_cons ⟨RX3, TX3, 7, rfl, by decide, (ck_mem 379 (by decide +kernel) (by decide +kernel)), Or.inr ⟨by decide +kernel, rfl, fun h => rfl⟩⟩ (ck_cons ⟨RX3, TX3, 7, rfl, by decide, (ck_mem 371 (by decide +kernel) (by decide +kernel)), Or.inr ⟨by decide +kernel, rfl, fun h => rfl⟩⟩ (ck_cons ⟨RX0, TX0, 19, rfl, by decide, (ck_mem 175 (by decide +kernel) (by decide +kernel)), Or.inr ⟨by decide +kernel, rfl, fun h => absurd h (by decide)⟩⟩ ck_nil))))))))
set_option maxRecDepth 100000 in
theorem ck_tN4 : ∀ q ∈ ck_T4.2.1, ck_okN vwCl ck_TS "ScratchLadder$Orders" q := ck_nil
set_option maxRecDepth 100000 in
theorem ck_tA4 : ∀ q ∈ ck_T4.2.2.2.2.1, ck_okA ck_TS ck_AO "ScratchLadder$Orders" q := ck_nil
set_option maxRecDepth 100000 in
theorem ck_tK4 : ∀ q ∈ ck_T4.2.2.2.2.2.2.1, Cond.constant "ScratchLadder$Orders" q.1 (Int32.ofInt q.2) ∈ ck_TS := ck_nil
set_option maxRecDepth 100000 in
theorem ck_tS4 : ∀ q ∈ ck_T4.2.2.2.2.2.2.2.1, (("ScratchLadder$Orders", q.1, q.2) : String × Nat × Nat) ∈ ck_SL := ck_nil
set_option maxRecDepth 100000 in
theorem ck_tM4 : ∀ q ∈ ck_T4.2.2.2.2.2.2.2.2, q.2.1 < 6 → ck_okL ck_TS ck_NM ck_mts "ScratchLadder$Orders" q := (ck_cons (fun h => absurd h (by decide)) (ck_cons (fun _ => ⟨ck_m9, rfl, ck_mw9.1, ck_mw9.2.1, ck_mw9.2.2.1, ck_mw9.2.2.2, (ck_mem 368 (by decide +kernel) (by decide +kernel)), ck_mst9⟩) (ck_cons (fun _ => ⟨ck_m93, rfl, ck_mw93.1, ck_mw93.2.1, ck_mw93.2.2.1, ck_mw93.2.2.2, (ck_mem 956 (by decide +kernel) (by decide +kernel)), ck_mst93⟩) (ck_cons (fun _ => ⟨ck_m106, rfl, ck_mw106.1, ck_mw106.2.1, ck_mw106.2.2.1, ck_mw106.2.2.2, (ck_mem 1000 (by decide +kernel) (by decide +kernel)), ck_mv106.1, ck_mv106.2⟩) (ck_cons (fun _ => ⟨ck_m107, rfl, ck_mw107.1, ck_mw107.2.1, ck_mw107.2.2.1, ck_mw107.2.2.2, (ck_mem 1015 (by decide +kernel) (by decide +kernel)), ck_mv107.1, ck_mv107.2⟩) ck_nil)))))
set_option maxRecDepth 100000 in
theorem ck_tY4 : ∀ q ∈ ck_T4.2.2.2.2.2.2.2.2, ck_okY ck_TS "ScratchLadder$Orders" q := (ck_cons ⟨fun h => absurd h (by decide), fun _ => ⟨(ck_mem 367 (by decide +kernel) (by decide +kernel)), (ck_mem 150 (by decide +kernel) (by decide +kernel)), ck_mem 151 rfl (by decide +kernel)⟩, fun h => absurd h (by decide)⟩ (ck_cons ⟨fun h => absurd h (by decide), fun h => absurd h (by decide), fun h => absurd h (by decide)⟩ (ck_cons ⟨fun h => absurd h (by decide), fun h => absurd h (by decide), fun h => absurd h (by decide)⟩ (ck_cons ⟨fun h => absurd h (by decide), fun h => absurd h (by decide), fun h => absurd h (by decide)⟩ (ck_cons ⟨fun h => absurd h (by decide), fun h => absurd h (by decide), fun h => absurd h (by decide)⟩ ck_nil)))))
theorem ck_okT4 : ck_okT vwCl ck_TS ck_NM ck_AO ck_SL ck_mts "ScratchLadder$Orders" ck_T4 := ⟨ck_tF4, ck_tN4, ck_okDt, ck_okAt, ck_tA4, ck_tK4, ck_tS4, ck_tM4, ck_tY4⟩
def ck_T5 : ck_T := ([(9, 4, 1, (.array .long), true), (17, 4, 2, (.array .int), true), (21, 4, 0, (.object "ScratchLadder$Bench"), true)], [], ck_dt, ck_ats, [], ck_tr, [], [], [(3, 7, 0)])
set_option maxRecDepth 100000 in
theorem ck_tF5 : ∀ q ∈ ck_T5.1, ck_okF vwCl ck_TS "ScratchLadder$Question" q := (ck_cons ⟨RX4, TX4, 3, rfl, by decide, (ck_mem 323 (by decide +kernel) (by decide +kernel)), Or.inr ⟨by decide +kernel, rfl, fun h => rfl⟩⟩ (ck_cons ⟨RX4, TX4, 3, rfl, by decide, (ck_mem 324 (by decide +kernel) (by decide +kernel)), Or.inr ⟨by decide +kernel, rfl, fun h => rfl⟩⟩ (ck_cons ⟨RX4, TX4, 3, rfl, by decide, (ck_mem 322 (by decide +kernel) (by decide +kernel)), Or.inr ⟨by decide +kernel, rfl, fun h => rfl⟩⟩ ck_nil)))
set_option maxRecDepth 100000 in
theorem ck_tN5 : ∀ q ∈ ck_T5.2.1, ck_okN vwCl ck_TS "ScratchLadder$Question" q := ck_nil
set_option maxRecDepth 100000 in
theorem ck_tA5 : ∀ q ∈ ck_T5.2.2.2.2.1, ck_okA ck_TS ck_AO "ScratchLadder$Question" q := ck_nil
set_option maxRecDepth 100000 in
theorem ck_tK5 : ∀ q ∈ ck_T5.2.2.2.2.2.2.1, Cond.constant "ScratchLadder$Question" q.1 (Int32.ofInt q.2) ∈ ck_TS := ck_nil
set_option maxRecDepth 100000 in
theorem ck_tS5 : ∀ q ∈ ck_T5.2.2.2.2.2.2.2.1, (("ScratchLadder$Question", q.1, q.2) : String × Nat × Nat) ∈ ck_SL := ck_nil
set_option maxRecDepth 100000 in
theorem ck_tM5 : ∀ q ∈ ck_T5.2.2.2.2.2.2.2.2, q.2.1 < 6 → ck_okL ck_TS ck_NM ck_mts "ScratchLadder$Question" q := (ck_cons (fun h => absurd h (by decide)) ck_nil)
set_option maxRecDepth 100000 in
theorem ck_tY5 : ∀ q ∈ ck_T5.2.2.2.2.2.2.2.2, ck_okY ck_TS "ScratchLadder$Question" q := (ck_cons ⟨fun h => absurd h (by decide), fun _ => ⟨(ck_mem 321 (by decide +kernel) (by decide +kernel)), (ck_mem 150 (by decide +kernel) (by decide +kernel)), ck_mem 151 rfl (by decide +kernel)⟩, fun h => absurd h (by decide)⟩ ck_nil)
theorem ck_okT5 : ck_okT vwCl ck_TS ck_NM ck_AO ck_SL ck_mts "ScratchLadder$Question" ck_T5 := ⟨ck_tF5, ck_tN5, ck_okDt, ck_okAt, ck_tA5, ck_tK5, ck_tS5, ck_tM5, ck_tY5⟩
def ck_T6 : ck_T := ([(11, 5, 1, (.array .int), true), (17, 5, 3, (.array .int), true), (20, 5, 0, (.object "ScratchLadder$Tape"), true), (24, 5, 2, .int, false), (28, 5, 4, .int, false), (31, 5, 5, .int, false), (34, 5, 6, .int, false), (37, 5, 9, .int, false), (47, 5, 7, .int, false), (63, 5, 8, .int, false), (66, 8, 1, .int, false), (74, 5, 10, .int, false)], [], ck_dt, ck_ats, [], ck_tr, [], [(104, 0), (127, 1), (129, 2), (131, 3), (133, 4)], [(3, 7, 0), (40, 0, 48), (43, 0, 50), (77, 0, 49), (97, 0, 52), (106, 0, 51), (112, 0, 53)])
set_option maxRecDepth 100000 in
theorem ck_tF6 : ∀ q ∈ ck_T6.1, ck_okF vwCl ck_TS "ScratchLadder$Reader" q := (ck_cons ⟨RX5, TX5, 11, rfl, by decide, (ck_mem 283 (by decide +kernel) (by decide +kernel)), Or.inr ⟨by decide +kernel, rfl, fun h => rfl⟩⟩ (ck_cons ⟨RX5, TX5, 11, rfl, by decide, (ck_mem 285 (by decide +kernel) (by decide +kernel)), Or.inr ⟨by decide +kernel, rfl, fun h => rfl⟩⟩ (ck_cons ⟨RX5, TX5, 11, rfl, by decide, (ck_mem 282 (by decide +kernel) (by decide +kernel)), Or.inr ⟨by decide +kernel, rfl, fun h => rfl⟩⟩ (ck_cons ⟨RX5, TX5, 11, rfl, by decide, (ck_mem 284 (by decide +kernel) (by decide +kernel)), Or.inr ⟨by decide +kernel, rfl, fun h => absurd h (by decide)⟩⟩ (ck_cons ⟨RX5, TX5, 11, rfl, by decide, (ck_mem 286 (by decide +kernel) (by decide +kernel)), Or.inr ⟨by decide +kernel, rfl, fun h => absurd h (by decide)⟩⟩ (ck_cons ⟨RX5, TX5, 11, rfl, by decide, (ck_mem 287 (by decide +kernel) (by decide +kernel)), Or.inr ⟨by decide +kernel, rfl, fun h => absurd h (by decide)⟩⟩ (ck_cons ⟨RX5, TX5, 11, rfl, by decide, (ck_mem 288 (by decide +kernel) (by decide +kernel)), Or.inr ⟨by decide +kernel, rfl, fun h => absurd h (by decide)⟩⟩ (ck_cons ⟨RX5, TX5, 11, rfl, by decide, (ck_mem 291 (by decide +kernel) (by decide +kernel)), Or.inr ⟨by decide +kernel, rfl, fun h => absurd h (by decide)⟩⟩ (ck_cons ⟨RX5, TX5, 11, rfl, by decide, (ck_mem 289 (by decide +kernel) (by decide +kernel)), Or.inr ⟨by decide +kernel, rfl, fun h => absurd h (by decide)⟩⟩ (ck_cons ⟨RX5, TX5, 11, rfl, by decide, (ck_mem 290 (by decide +kernel) (by decide +kernel)), Or.inr ⟨by decide +kernel, rfl, fun h => absurd h (by decide)⟩⟩ (ck_cons ⟨RX8, TX8, 2, rfl, by decide, (ck_mem 268 (by decide +kernel) (by decide +kernel)), Or.inr ⟨by decide +kernel, rfl, fun h => absurd h (by decide)⟩⟩ (ck_cons ⟨RX5, TX5, 11, rfl, by decide, (ck_mem 292 (by decide +kernel) (by decide +kernel)), Or.inr ⟨by decide +kernel, rfl, fun h => absurd h (by decide)⟩⟩ ck_nil))))))))))))
set_option maxRecDepth 100000 in
theorem ck_tN6 : ∀ q ∈ ck_T6.2.1, ck_okN vwCl ck_TS "ScratchLadder$Reader" q := ck_nil
set_option maxRecDepth 100000 in
theorem ck_tA6 : ∀ q ∈ ck_T6.2.2.2.2.1, ck_okA ck_TS ck_AO "ScratchLadder$Reader" q := ck_nil
set_option maxRecDepth 100000 in
theorem ck_tK6 : ∀ q ∈ ck_T6.2.2.2.2.2.2.1, Cond.constant "ScratchLadder$Reader" q.1 (Int32.ofInt q.2) ∈ ck_TS := ck_nil
set_option maxRecDepth 100000 in
theorem ck_tS6 : ∀ q ∈ ck_T6.2.2.2.2.2.2.2.1, (("ScratchLadder$Reader", q.1, q.2) : String × Nat × Nat) ∈ ck_SL := (ck_cons (by decide) (ck_cons (by decide) (ck_cons (by decide) (ck_cons (by decide) (ck_cons (by decide) ck_nil)))))
set_option maxRecDepth 100000 in
theorem ck_tM6 : ∀ q ∈ ck_T6.2.2.2.2.2.2.2.2, q.2.1 < 6 → ck_okL ck_TS ck_NM ck_mts "ScratchLadder$Reader" q := (ck_cons (fun h => absurd h (by decide)) (ck_cons (fun _ => ⟨ck_m48, rfl, ck_mw48.1, ck_mw48.2.1, ck_mw48.2.2.1, ck_mw48.2.2.2, (ck_mem 595 (by decide +kernel) (by decide +kernel)), ck_mv48.1, ck_mv48.2⟩) (ck_cons (fun _ => ⟨ck_m50, rfl, ck_mw50.1, ck_mw50.2.1, ck_mw50.2.2.1, ck_mw50.2.2.2, (ck_mem 607 (by decide +kernel) (by decide +kernel)), ck_mv50.1, ck_mv50.2⟩) (ck_cons (fun _ => ⟨ck_m49, rfl, ck_mw49.1, ck_mw49.2.1, ck_mw49.2.2.1, ck_mw49.2.2.2, (ck_mem 599 (by decide +kernel) (by decide +kernel)), ck_mv49.1, ck_mv49.2⟩) (ck_cons (fun _ => ⟨ck_m52, rfl, ck_mw52.1, ck_mw52.2.1, ck_mw52.2.2.1, ck_mw52.2.2.2, (ck_mem 616 (by decide +kernel) (by decide +kernel)), ck_mv52.1, ck_mv52.2⟩) (ck_cons (fun _ => ⟨ck_m51, rfl, ck_mw51.1, ck_mw51.2.1, ck_mw51.2.2.1, ck_mw51.2.2.2, (ck_mem 612 (by decide +kernel) (by decide +kernel)), ck_mv51.1, ck_mv51.2⟩) (ck_cons (fun _ => ⟨ck_m53, rfl, ck_mw53.1, ck_mw53.2.1, ck_mw53.2.2.1, ck_mw53.2.2.2, (ck_mem 681 (by decide +kernel) (by decide +kernel)), ck_mv53.1, ck_mv53.2⟩) ck_nil)))))))
set_option maxRecDepth 100000 in
theorem ck_tY6 : ∀ q ∈ ck_T6.2.2.2.2.2.2.2.2, ck_okY ck_TS "ScratchLadder$Reader" q := (ck_cons ⟨fun h => absurd h (by decide), fun _ => ⟨(ck_mem 281 (by decide +kernel) (by decide +kernel)), (ck_mem 150 (by decide +kernel) (by decide +kernel)), ck_mem 151 rfl (by decide +kernel)⟩, fun h => absurd h (by decide)⟩ (ck_cons ⟨fun h => absurd h (by decide), fun h => absurd h (by decide), fun h => absurd h (by decide)⟩ (ck_cons ⟨fun h => absurd h (by decide), fun h => absurd h (by decide), fun h => absurd h (by decide)⟩ (ck_cons ⟨fun h => absurd h (by decide), fun h => absurd h (by decide), fun h => absurd h (by decide)⟩ (ck_cons ⟨fun h => absurd h (by decide), fun h => absurd h (by decide), fun h => absurd h (by decide)⟩ (ck_cons ⟨fun h => absurd h (by decide), fun h => absurd h (by decide), fun h => absurd h (by decide)⟩ (ck_cons ⟨fun h => absurd h (by decide), fun h => absurd h (by decide), fun h => absurd h (by decide)⟩ ck_nil)))))))
theorem ck_okT6 : ck_okT vwCl ck_TS ck_NM ck_AO ck_SL ck_mts "ScratchLadder$Reader" ck_T6 := ⟨ck_tF6, ck_tN6, ck_okDt, ck_okAt, ck_tA6, ck_tK6, ck_tS6, ck_tM6, ck_tY6⟩
def ck_T7 : ck_T := ([(9, 6, 0, (.object "ScratchLadder$Bench"), true), (15, 6, 1, (.object "ScratchLadder$Ties"), true)], [], ck_dt, ck_ats, [], ck_tr, [], [], [(3, 7, 0)])
set_option maxRecDepth 100000 in
theorem ck_tF7 : ∀ q ∈ ck_T7.1, ck_okF vwCl ck_TS "ScratchLadder$Rungs" q := (ck_cons ⟨RX6, TX6, 2, rfl, by decide, (ck_mem 427 (by decide +kernel) (by decide +kernel)), Or.inr ⟨by decide +kernel, rfl, fun h => rfl⟩⟩ (ck_cons ⟨RX6, TX6, 2, rfl, by decide, (ck_mem 428 (by decide +kernel) (by decide +kernel)), Or.inr ⟨by decide +kernel, rfl, fun h => rfl⟩⟩ ck_nil))
set_option maxRecDepth 100000 in
theorem ck_tN7 : ∀ q ∈ ck_T7.2.1, ck_okN vwCl ck_TS "ScratchLadder$Rungs" q := ck_nil
set_option maxRecDepth 100000 in
theorem ck_tA7 : ∀ q ∈ ck_T7.2.2.2.2.1, ck_okA ck_TS ck_AO "ScratchLadder$Rungs" q := ck_nil
set_option maxRecDepth 100000 in
theorem ck_tK7 : ∀ q ∈ ck_T7.2.2.2.2.2.2.1, Cond.constant "ScratchLadder$Rungs" q.1 (Int32.ofInt q.2) ∈ ck_TS := ck_nil
set_option maxRecDepth 100000 in
theorem ck_tS7 : ∀ q ∈ ck_T7.2.2.2.2.2.2.2.1, (("ScratchLadder$Rungs", q.1, q.2) : String × Nat × Nat) ∈ ck_SL := ck_nil
set_option maxRecDepth 100000 in
theorem ck_tM7 : ∀ q ∈ ck_T7.2.2.2.2.2.2.2.2, q.2.1 < 6 → ck_okL ck_TS ck_NM ck_mts "ScratchLadder$Rungs" q := (ck_cons (fun h => absurd h (by decide)) ck_nil)
set_option maxRecDepth 100000 in
theorem ck_tY7 : ∀ q ∈ ck_T7.2.2.2.2.2.2.2.2, ck_okY ck_TS "ScratchLadder$Rungs" q := (ck_cons ⟨fun h => absurd h (by decide), fun _ => ⟨(ck_mem 426 (by decide +kernel) (by decide +kernel)), (ck_mem 150 (by decide +kernel) (by decide +kernel)), ck_mem 151 rfl (by decide +kernel)⟩, fun h => absurd h (by decide)⟩ ck_nil)
theorem ck_okT7 : ck_okT vwCl ck_TS ck_NM ck_AO ck_SL ck_mts "ScratchLadder$Rungs" ck_T7 := ⟨ck_tF7, ck_tN7, ck_okDt, ck_okAt, ck_tA7, ck_tK7, ck_tS7, ck_tM7, ck_tY7⟩
def ck_T8 : ck_T := ([(9, 7, 0, (.array .int), true), (15, 7, 1, (.array .int), true), (18, 7, 2, .int, false), (22, 7, 3, .int, false), (25, 7, 4, .int, false)], [], ck_dt, ck_ats, [], ck_tr, [], [], [(3, 7, 0)])
set_option maxRecDepth 100000 in
theorem ck_tF8 : ∀ q ∈ ck_T8.1, ck_okF vwCl ck_TS "ScratchLadder$Sorter" q := (ck_cons ⟨RX7, TX7, 5, rfl, by decide, (ck_mem 440 (by decide +kernel) (by decide +kernel)), Or.inr ⟨by decide +kernel, rfl, fun h => rfl⟩⟩ (ck_cons ⟨RX7, TX7, 5, rfl, by decide, (ck_mem 441 (by decide +kernel) (by decide +kernel)), Or.inr ⟨by decide +kernel, rfl, fun h => rfl⟩⟩ (ck_cons ⟨RX7, TX7, 5, rfl, by decide, (ck_mem 442 (by decide +kernel) (by decide +kernel)), Or.inr ⟨by decide +kernel, rfl, fun h => absurd h (by decide)⟩⟩ (ck_cons ⟨RX7, TX7, 5, rfl, by decide, (ck_mem 443 (by decide +kernel) (by decide +kernel)), Or.inr ⟨by decide +kernel, rfl, fun h => absurd h (by decide)⟩⟩ (ck_cons ⟨RX7, TX7, 5, rfl, by decide, (ck_mem 444 (by decide +kernel) (by decide +kernel)), Or.inr ⟨by decide +kernel, rfl, fun h => absurd h (by decide)⟩⟩ ck_nil)))))
set_option maxRecDepth 100000 in
theorem ck_tN8 : ∀ q ∈ ck_T8.2.1, ck_okN vwCl ck_TS "ScratchLadder$Sorter" q := ck_nil
set_option maxRecDepth 100000 in
theorem ck_tA8 : ∀ q ∈ ck_T8.2.2.2.2.1, ck_okA ck_TS ck_AO "ScratchLadder$Sorter" q := ck_nil
set_option maxRecDepth 100000 in
theorem ck_tK8 : ∀ q ∈ ck_T8.2.2.2.2.2.2.1, Cond.constant "ScratchLadder$Sorter" q.1 (Int32.ofInt q.2) ∈ ck_TS := ck_nil
set_option maxRecDepth 100000 in
theorem ck_tS8 : ∀ q ∈ ck_T8.2.2.2.2.2.2.2.1, (("ScratchLadder$Sorter", q.1, q.2) : String × Nat × Nat) ∈ ck_SL := ck_nil
set_option maxRecDepth 100000 in
theorem ck_tM8 : ∀ q ∈ ck_T8.2.2.2.2.2.2.2.2, q.2.1 < 6 → ck_okL ck_TS ck_NM ck_mts "ScratchLadder$Sorter" q := (ck_cons (fun h => absurd h (by decide)) ck_nil)
set_option maxRecDepth 100000 in
theorem ck_tY8 : ∀ q ∈ ck_T8.2.2.2.2.2.2.2.2, ck_okY ck_TS "ScratchLadder$Sorter" q := (ck_cons ⟨fun h => absurd h (by decide), fun _ => ⟨(ck_mem 439 (by decide +kernel) (by decide +kernel)), (ck_mem 150 (by decide +kernel) (by decide +kernel)), ck_mem 151 rfl (by decide +kernel)⟩, fun h => absurd h (by decide)⟩ ck_nil)
theorem ck_okT8 : ck_okT vwCl ck_TS ck_NM ck_AO ck_SL ck_mts "ScratchLadder$Sorter" ck_T8 := ⟨ck_tF8, ck_tN8, ck_okDt, ck_okAt, ck_tA8, ck_tK8, ck_tS8, ck_tM8, ck_tY8⟩
def ck_T9 : ck_T := ([(9, 8, 0, (.array .int), true), (15, 8, 1, .int, false)], [], ck_dt, ck_ats, [], ck_tr, [], [], [(3, 7, 0)])
set_option maxRecDepth 100000 in
theorem ck_tF9 : ∀ q ∈ ck_T9.1, ck_okF vwCl ck_TS "ScratchLadder$Tape" q := (ck_cons ⟨RX8, TX8, 2, rfl, by decide, (ck_mem 264 (by decide +kernel) (by decide +kernel)), Or.inr ⟨by decide +kernel, rfl, fun h => rfl⟩⟩ (ck_cons ⟨RX8, TX8, 2, rfl, by decide, (ck_mem 267 (by decide +kernel) (by decide +kernel)), Or.inr ⟨by decide +kernel, rfl, fun h => absurd h (by decide)⟩⟩ ck_nil))
set_option maxRecDepth 100000 in
theorem ck_tN9 : ∀ q ∈ ck_T9.2.1, ck_okN vwCl ck_TS "ScratchLadder$Tape" q := ck_nil
set_option maxRecDepth 100000 in
theorem ck_tA9 : ∀ q ∈ ck_T9.2.2.2.2.1, ck_okA ck_TS ck_AO "ScratchLadder$Tape" q := ck_nil
set_option maxRecDepth 100000 in
theorem ck_tK9 : ∀ q ∈ ck_T9.2.2.2.2.2.2.1, Cond.constant "ScratchLadder$Tape" q.1 (Int32.ofInt q.2) ∈ ck_TS := ck_nil
set_option maxRecDepth 100000 in
theorem ck_tS9 : ∀ q ∈ ck_T9.2.2.2.2.2.2.2.1, (("ScratchLadder$Tape", q.1, q.2) : String × Nat × Nat) ∈ ck_SL := ck_nil
set_option maxRecDepth 100000 in
theorem ck_tM9 : ∀ q ∈ ck_T9.2.2.2.2.2.2.2.2, q.2.1 < 6 → ck_okL ck_TS ck_NM ck_mts "ScratchLadder$Tape" q := (ck_cons (fun h => absurd h (by decide)) ck_nil)
set_option maxRecDepth 100000 in
theorem ck_tY9 : ∀ q ∈ ck_T9.2.2.2.2.2.2.2.2, ck_okY ck_TS "ScratchLadder$Tape" q := (ck_cons ⟨fun h => absurd h (by decide), fun _ => ⟨(ck_mem 263 (by decide +kernel) (by decide +kernel)), (ck_mem 150 (by decide +kernel) (by decide +kernel)), ck_mem 151 rfl (by decide +kernel)⟩, fun h => absurd h (by decide)⟩ ck_nil)
theorem ck_okT9 : ck_okT vwCl ck_TS ck_NM ck_AO ck_SL ck_mts "ScratchLadder$Tape" ck_T9 := ⟨ck_tF9, ck_tN9, ck_okDt, ck_okAt, ck_tA9, ck_tK9, ck_tS9, ck_tM9, ck_tY9⟩
def ck_T10 : ck_T := ([(9, 9, 0, (.array .int), true), (15, 9, 1, (.array .int), true)], [], ck_dt, ck_ats, [], ck_tr, [], [], [(3, 7, 0)])
set_option maxRecDepth 100000 in
theorem ck_tF10 : ∀ q ∈ ck_T10.1, ck_okF vwCl ck_TS "ScratchLadder$Text" q := (ck_cons ⟨RX9, TX9, 2, rfl, by decide, (ck_mem 165 (by decide +kernel) (by decide +kernel)), Or.inr ⟨by decide +kernel, rfl, fun h => rfl⟩⟩ (ck_cons ⟨RX9, TX9, 2, rfl, by decide, (ck_mem 166 (by decide +kernel) (by decide +kernel)), Or.inr ⟨by decide +kernel, rfl, fun h => rfl⟩⟩ ck_nil))
set_option maxRecDepth 100000 in
theorem ck_tN10 : ∀ q ∈ ck_T10.2.1, ck_okN vwCl ck_TS "ScratchLadder$Text" q := ck_nil
set_option maxRecDepth 100000 in
theorem ck_tA10 : ∀ q ∈ ck_T10.2.2.2.2.1, ck_okA ck_TS ck_AO "ScratchLadder$Text" q := ck_nil
set_option maxRecDepth 100000 in
theorem ck_tK10 : ∀ q ∈ ck_T10.2.2.2.2.2.2.1, Cond.constant "ScratchLadder$Text" q.1 (Int32.ofInt q.2) ∈ ck_TS := ck_nil
set_option maxRecDepth 100000 in
theorem ck_tS10 : ∀ q ∈ ck_T10.2.2.2.2.2.2.2.1, (("ScratchLadder$Text", q.1, q.2) : String × Nat × Nat) ∈ ck_SL := ck_nil
set_option maxRecDepth 100000 in
theorem ck_tM10 : ∀ q ∈ ck_T10.2.2.2.2.2.2.2.2, q.2.1 < 6 → ck_okL ck_TS ck_NM ck_mts "ScratchLadder$Text" q := (ck_cons (fun h => absurd h (by decide)) ck_nil)
set_option maxRecDepth 100000 in
theorem ck_tY10 : ∀ q ∈ ck_T10.2.2.2.2.2.2.2.2, ck_okY ck_TS "ScratchLadder$Text" q := (ck_cons ⟨fun h => absurd h (by decide), fun _ => ⟨(ck_mem 164 (by decide +kernel) (by decide +kernel)), (ck_mem 150 (by decide +kernel) (by decide +kernel)), ck_mem 151 rfl (by decide +kernel)⟩, fun h => absurd h (by decide)⟩ ck_nil)
theorem ck_okT10 : ck_okT vwCl ck_TS ck_NM ck_AO ck_SL ck_mts "ScratchLadder$Text" ck_T10 := ⟨ck_tF10, ck_tN10, ck_okDt, ck_okAt, ck_tA10, ck_tK10, ck_tS10, ck_tM10, ck_tY10⟩
def ck_T11 : ck_T := ([(9, 10, 1, (.array .int), true), (15, 10, 2, (.array .int), true), (18, 10, 3, (.array .int), true), (21, 10, 4, (.array .int), true), (24, 10, 5, (.array .int), true), (27, 10, 0, (.object "ScratchLadder$Bench"), true), (37, 0, 14, .int, false), (67, 0, 0, .int, false)], [], ck_dt, ck_ats, [], ck_tr, [], [], [(3, 7, 0), (31, 1, 9), (51, 0, 91), (61, 6, 0)])
set_option maxRecDepth 100000 in
theorem ck_tF11 : ∀ q ∈ ck_T11.1, ck_okF vwCl ck_TS "ScratchLadder$Ties" q := (ck_cons ⟨RX10, TX10, 6, rfl, by decide, (ck_mem 340 (by decide +kernel) (by decide +kernel)), Or.inr ⟨by decide +kernel, rfl, fun h => rfl⟩⟩ (ck_cons ⟨RX10, TX10, 6, rfl, by decide, (ck_mem 342 (by decide +kernel) (by decide +kernel)), Or.inr ⟨by decide +kernel, rfl, fun h => rfl⟩⟩ (ck_cons ⟨RX10, TX10, 6, rfl, by decide, (ck_mem 344 (by decide +kernel) (by decide +kernel)), Or.inr ⟨by decide +kernel, rfl, fun h => rfl⟩⟩ (ck_cons ⟨RX10, TX10, 6, rfl, by decide, (ck_mem 346 (by decide +kernel) (by decide +kernel)), Or.inr ⟨by decide +kernel, rfl, fun h => rfl⟩⟩ (ck_cons ⟨RX10, TX10, 6, rfl, by decide, (ck_mem 347 (by decide +kernel) (by decide +kernel)), Or.inr ⟨by decide +kernel, rfl, fun h => rfl⟩⟩ (ck_cons ⟨RX10, TX10, 6, rfl, by decide, (ck_mem 339 (by decide +kernel) (by decide +kernel)), Or.inr ⟨by decide +kernel, rfl, fun h => rfl⟩⟩ (ck_cons ⟨RX0, TX0, 19, rfl, by decide, (ck_mem 208 (by decide +kernel) (by decide +kernel)), Or.inr ⟨by decide +kernel, rfl, fun h => absurd h (by decide)⟩⟩ (ck_cons ⟨RX0, TX0, 19, rfl, by decide, (ck_mem 179 (by decide +kernel) (by decide +kernel)), Or.inr ⟨by decide +kernel, rfl, fun h => absurd h (by decide)⟩⟩ ck_nil))))))))
set_option maxRecDepth 100000 in
theorem ck_tN11 : ∀ q ∈ ck_T11.2.1, ck_okN vwCl ck_TS "ScratchLadder$Ties" q := ck_nil
set_option maxRecDepth 100000 in
theorem ck_tA11 : ∀ q ∈ ck_T11.2.2.2.2.1, ck_okA ck_TS ck_AO "ScratchLadder$Ties" q := ck_nil
set_option maxRecDepth 100000 in
theorem ck_tK11 : ∀ q ∈ ck_T11.2.2.2.2.2.2.1, Cond.constant "ScratchLadder$Ties" q.1 (Int32.ofInt q.2) ∈ ck_TS := ck_nil
set_option maxRecDepth 100000 in
theorem ck_tS11 : ∀ q ∈ ck_T11.2.2.2.2.2.2.2.1, (("ScratchLadder$Ties", q.1, q.2) : String × Nat × Nat) ∈ ck_SL := ck_nil
set_option maxRecDepth 100000 in
theorem ck_tM11 : ∀ q ∈ ck_T11.2.2.2.2.2.2.2.2, q.2.1 < 6 → ck_okL ck_TS ck_NM ck_mts "ScratchLadder$Ties" q := (ck_cons (fun h => absurd h (by decide)) (ck_cons (fun _ => ⟨ck_m9, rfl, ck_mw9.1, ck_mw9.2.1, ck_mw9.2.2.1, ck_mw9.2.2.2, (ck_mem 923 (by decide +kernel) (by decide +kernel)), ck_mst9⟩) (ck_cons (fun _ => ⟨ck_m91, rfl, ck_mw91.1, ck_mw91.2.1, ck_mw91.2.2.1, ck_mw91.2.2.2, (ck_mem 935 (by decide +kernel) (by decide +kernel)), ck_mv91.1, ck_mv91.2⟩) (ck_cons (fun h => absurd h (by decide)) ck_nil))))
set_option maxRecDepth 100000 in
theorem ck_tY11 : ∀ q ∈ ck_T11.2.2.2.2.2.2.2.2, ck_okY ck_TS "ScratchLadder$Ties" q := (ck_cons ⟨fun h => absurd h (by decide), fun _ => ⟨(ck_mem 338 (by decide +kernel) (by decide +kernel)), (ck_mem 150 (by decide +kernel) (by decide +kernel)), ck_mem 151 rfl (by decide +kernel)⟩, fun h => absurd h (by decide)⟩ (ck_cons ⟨fun h => absurd h (by decide), fun h => absurd h (by decide), fun h => absurd h (by decide)⟩ (ck_cons ⟨fun h => absurd h (by decide), fun h => absurd h (by decide), fun h => absurd h (by decide)⟩ (ck_cons ⟨fun _ => ⟨(ck_mem 939 (by decide +kernel) (by decide +kernel)), (ck_mem 777 (by decide +kernel) (by decide +kernel)), (ck_mem 776 (by decide +kernel) (by decide +kernel)), (ck_mem 142 (by decide +kernel) (by decide +kernel))⟩, fun h => absurd h (by decide), fun h => absurd h (by decide)⟩ ck_nil))))
theorem ck_okT11 : ck_okT vwCl ck_TS ck_NM ck_AO ck_SL ck_mts "ScratchLadder$Ties" ck_T11 := ⟨ck_tF11, ck_tN11, ck_okDt, ck_okAt, ck_tA11, ck_tK11, ck_tS11, ck_tM11, ck_tY11⟩
def ck_T12 : ck_T := ([], [(7, 11), (10, 12)], ck_dt, ck_ats, [], ck_tr, [], [], [(9, 2, 1), (12, 2, 14), (13, 0, 15), (17, 0, 20), (18, 0, 25), (22, 0, 28), (23, 0, 30), (27, 0, 31), (28, 0, 32), (31, 0, 34), (32, 0, 36), (35, 0, 38), (36, 0, 39), (40, 0, 40), (41, 0, 41), (45, 0, 43), (46, 0, 44), (49, 0, 45), (50, 0, 46), (54, 0, 55), (55, 0, 64), (58, 0, 65), (59, 0, 66), (62, 0, 67), (63, 0, 69), (66, 0, 70), (67, 0, 71), (71, 0, 72), (72, 0, 74), (75, 0, 75), (76, 0, 76), (79, 0, 78), (80, 0, 80), (83, 0, 81), (84, 0, 82), (87, 0, 83), (88, 0, 84), (91, 0, 86), (92, 0, 87), (95, 0, 88), (96, 0, 89), (99, 0, 95), (100, 0, 98), (103, 0, 99), (104, 0, 100), (107, 0, 101), (108, 0, 102), (111, 0, 103), (112, 0, 104), (115, 0, 108), (116, 0, 109), (119, 0, 110), (120, 0, 111), (123, 0, 112), (124, 0, 113), (127, 0, 114), (128, 0, 115), (131, 0, 116), (132, 0, 117), (135, 0, 119), (136, 0, 121), (139, 0, 122), (140, 0, 124), (143, 0, 125), (144, 0, 128), (147, 0, 129), (148, 0, 131), (151, 0, 136), (152, 0, 137), (155, 0, 138), (156, 0, 139), (159, 0, 140), (160, 0, 141), (163, 0, 142), (164, 0, 143), (167, 0, 144), (168, 0, 145), (171, 0, 146), (172, 0, 147), (175, 0, 150), (176, 0, 151), (179, 0, 152), (180, 0, 153), (183, 0, 155), (184, 0, 156), (187, 0, 157)])
set_option maxRecDepth 100000 in
theorem ck_tF12 : ∀ q ∈ ck_T12.1, ck_okF vwCl ck_TS "ScratchLadderLaw" q := ck_nil
set_option maxRecDepth 100000 in
theorem ck_tN12 : ∀ q ∈ ck_T12.2.1, ck_okN vwCl ck_TS "ScratchLadderLaw" q := (ck_cons ⟨RX11, TX11, 15, rfl, (ck_mem 144 (by decide +kernel) (by decide +kernel)), (ck_mem 145 (by decide +kernel) (by decide +kernel)), (ck_mem 123 (by decide +kernel) (by decide +kernel))⟩ (ck_cons ⟨RX12, TX12, 41, rfl, (ck_mem 1293 (by decide +kernel) (by decide +kernel)), (ck_mem 1294 (by decide +kernel) (by decide +kernel)), (ck_mem 136 (by decide +kernel) (by decide +kernel))⟩ ck_nil))
set_option maxRecDepth 100000 in
theorem ck_tA12 : ∀ q ∈ ck_T12.2.2.2.2.1, ck_okA ck_TS ck_AO "ScratchLadderLaw" q := ck_nil
set_option maxRecDepth 100000 in
theorem ck_tK12 : ∀ q ∈ ck_T12.2.2.2.2.2.2.1, Cond.constant "ScratchLadderLaw" q.1 (Int32.ofInt q.2) ∈ ck_TS := ck_nil
set_option maxRecDepth 100000 in
theorem ck_tS12 : ∀ q ∈ ck_T12.2.2.2.2.2.2.2.1, (("ScratchLadderLaw", q.1, q.2) : String × Nat × Nat) ∈ ck_SL := ck_nil
set_option maxRecDepth 100000 in
theorem ck_tM12 : ∀ q ∈ ck_T12.2.2.2.2.2.2.2.2, q.2.1 < 6 → ck_okL ck_TS ck_NM ck_mts "ScratchLadderLaw" q := (ck_cons (fun _ => ⟨ck_m1, rfl, ck_mw1.1, ck_mw1.2.1, ck_mw1.2.2.1, ck_mw1.2.2.2, (ck_mem 146 (by decide +kernel) (by decide +kernel)), ck_mi1.1, ck_mi1.2.1, ck_mi1.2.2⟩) (ck_cons (fun _ => ⟨ck_m14, rfl, ck_mw14.1, ck_mw14.2.1, ck_mw14.2.2.1, ck_mw14.2.2.2, (ck_mem 1295 (by decide +kernel) (by decide +kernel)), ck_mi14.1, ck_mi14.2.1, ck_mi14.2.2⟩) (ck_cons (fun _ => ⟨ck_m15, rfl, ck_mw15.1, ck_mw15.2.1, ck_mw15.2.2.1, ck_mw15.2.2.2, (ck_mem 518 (by decide +kernel) (by decide +kernel)), ck_mv15.1, ck_mv15.2⟩) (ck_cons (fun _ => ⟨ck_m20, rfl, ck_mw20.1, ck_mw20.2.1, ck_mw20.2.2.1, ck_mw20.2.2.2, (ck_mem 1443 (by decide +kernel) (by decide +kernel)), ck_mv20.1, ck_mv20.2⟩) (ck_cons (fun _ => ⟨ck_m25, rfl, ck_mw25.1, ck_mw25.2.1, ck_mw25.2.2.1, ck_mw25.2.2.2, (ck_mem 537 (by decide +kernel) (by decide +kernel)), ck_mv25.1, ck_mv25.2⟩) (ck_cons (fun _ => ⟨ck_m28, rfl, ck_mw28.1, ck_mw28.2.1, ck_mw28.2.2.1, ck_mw28.2.2.2, (ck_mem 1451 (by decide +kernel) (by decide +kernel)), ck_mv28.1, ck_mv28.2⟩) (ck_cons (fun _ => ⟨ck_m30, rfl, ck_mw30.1, ck_mw30.2.1, ck_mw30.2.2.1, ck_mw30.2.2.2, (ck_mem 555 (by decide +kernel) (by decide +kernel)), ck_mv30.1, ck_mv30.2⟩) (ck_cons (fun _ => ⟨ck_m31, rfl, ck_mw31.1, ck_mw31.2.1, ck_mw31.2.2.1, ck_mw31.2.2.2, (ck_mem 1463 (by decide +kernel) (by decide +kernel)), ck_mv31.1, ck_mv31.2⟩) (ck_cons (fun _ => ⟨ck_m32, rfl, ck_mw32.1, ck_mw32.2.1, ck_mw32.2.2.1, ck_mw32.2.2.2, (ck_mem 559 (by decide +kernel) (by decide +kernel)), ck_mv32.1, ck_mv32.2⟩) (ck_cons (fun _ => ⟨ck_m34, rfl, ck_mw34.1, ck_mw34.2.1, ck_mw34.2.2.1, ck_mw34.2.2.2, (ck_mem 1467 (by decide +kernel) (by decide +kernel)), ck_mv34.1, ck_mv34.2⟩) (ck_cons (fun _ => ⟨ck_m36, rfl, ck_mw36.1, ck_mw36.2.1, ck_mw36.2.2.1, ck_mw36.2.2.2, (ck_mem 563 (by decide +kernel) (by decide +kernel)), ck_mv36.1, ck_mv36.2⟩) (ck_cons (fun _ => ⟨ck_m38, rfl, ck_mw38.1, ck_mw38.2.1, ck_mw38.2.2.1, ck_mw38.2.2.2, (ck_mem 1471 (by decide +kernel) (by decide +kernel)), ck_mv38.1, ck_mv38.2⟩) (ck_cons (fun _ => ⟨ck_m39, rfl, ck_mw39.1, ck_mw39.2.1, ck_mw39.2.2.1, ck_mw39.2.2.2, (ck_mem 570 (by decide +kernel) (by decide +kernel)), ck_mv39.1, ck_mv39.2⟩) (ck_cons (fun _ => ⟨ck_m40, rfl, ck_mw40.1, ck_mw40.2.1, ck_mw40.2.2.1, ck_mw40.2.2.2, (ck_mem 1475 (by decide +kernel) (by decide +kernel)), ck_mv40.1, ck_mv40.2⟩) (ck_cons (fun _ => ⟨ck_m41, rfl, ck_mw41.1, ck_mw41.2.1, ck_mw41.2.2.1, ck_mw41.2.2.2, (ck_mem 575 (by decide +kernel) (by decide +kernel)), ck_mv41.1, ck_mv41.2⟩) (ck_cons (fun _ => ⟨ck_m43, rfl, ck_mw43.1, ck_mw43.2.1, ck_mw43.2.2.1, ck_mw43.2.2.2, (ck_mem 1480 (by decide +kernel) (by decide +kernel)), ck_mv43.1, ck_mv43.2⟩) (ck_cons (fun _ => ⟨ck_m44, rfl, ck_mw44.1, ck_mw44.2.1, ck_mw44.2.2.1, ck_mw44.2.2.2, (ck_mem 583 (by decide +kernel) (by decide +kernel)), ck_mv44.1, ck_mv44.2⟩) (ck_cons (fun _ => ⟨ck_m45, rfl, ck_mw45.1, ck_mw45.2.1, ck_mw45.2.2.1, ck_mw45.2.2.2, (ck_mem 1484 (by decide +kernel) (by decide +kernel)), ck_mv45.1, ck_mv45.2⟩) (ck_cons (fun _ => ⟨ck_m46, rfl, ck_mw46.1, ck_mw46.2.1, ck_mw46.2.2.1, ck_mw46.2.2.2, (ck_mem 587 (by decide +kernel) (by decide +kernel)), ck_mv46.1, ck_mv46.2⟩) (ck_cons (fun _ => ⟨ck_m55, rfl, ck_mw55.1, ck_mw55.2.1, ck_mw55.2.2.1, ck_mw55.2.2.2, (ck_mem 1488 (by decide +kernel) (by decide +kernel)), ck_mv55.1, ck_mv55.2⟩) (ck_cons (fun _ => ⟨ck_m64, rfl, ck_mw64.1, ck_mw64.2.1, ck_mw64.2.2.1, ck_mw64.2.2.2, (ck_mem 784 (by decide +kernel) (by decide +kernel)), ck_mv64.1, ck_mv64.2⟩) (ck_cons (fun _ => ⟨ck_m65, rfl, ck_mw65.1, ck_mw65.2.1, ck_mw65.2.2.1, ck_mw65.2.2.2, (ck_mem 1566 (by decide +kernel) (by decide +kernel)), ck_mv65.1, ck_mv65.2⟩) (ck_cons (fun _ => ⟨ck_m66, rfl, ck_mw66.1, ck_mw66.2.1, ck_mw66.2.2.1, ck_mw66.2.2.2, (ck_mem 788 (by decide +kernel) (by decide +kernel)), ck_mv66.1, ck_mv66.2⟩) (ck_cons (fun _ => ⟨ck_m67, rfl, ck_mw67.1, ck_mw67.2.1, ck_mw67.2.2.1, ck_mw67.2.2.2, (ck_mem 1570 (by decide +kernel) (by decide +kernel)), ck_mv67.1, ck_mv67.2⟩) (ck_cons (fun _ => ⟨ck_m69, rfl, ck_mw69.1, ck_mw69.2.1, ck_mw69.2.2.1, ck_mw69.2.2.2, (ck_mem 792 (by decide +kernel) (by decide +kernel)), ck_mv69.1, ck_mv69.2⟩) (ck_cons (fun _ => ⟨ck_m70, rfl, ck_mw70.1, ck_mw70.2.1, ck_mw70.2.2.1, ck_mw70.2.2.2, (ck_mem 1578 (by decide +kernel) (by decide +kernel)), ck_mv70.1, ck_mv70.2⟩) (ck_cons (fun _ => ⟨ck_m71, rfl, ck_mw71.1, ck_mw71.2.1, ck_mw71.2.2.1, ck_mw71.2.2.2, (ck_mem 839 (by decide +kernel) (by decide +kernel)), ck_mv71.1, ck_mv71.2⟩) (ck_cons (fun _ => ⟨ck_m72, rfl, ck_mw72.1, ck_mw72.2.1, ck_mw72.2.2.1, ck_mw72.2.2.2, (ck_mem 1643 (by decide +kernel) (by decide +kernel)), ck_mv72.1, ck_mv72.2⟩) (ck_cons (fun _ => ⟨ck_m74, rfl, ck_mw74.1, ck_mw74.2.1, ck_mw74.2.2.1, ck_mw74.2.2.2, (ck_mem 870 (by decide +kernel) (by decide +kernel)), ck_mv74.1, ck_mv74.2⟩) (ck_cons (fun _ => ⟨ck_m75, rfl, ck_mw75.1, ck_mw75.2.1, ck_mw75.2.2.1, ck_mw75.2.2.2, (ck_mem 1658 (by decide +kernel) (by decide +kernel)), ck_mv75.1, ck_mv75.2⟩) (ck_cons (fun _ => ⟨ck_m76, rfl, ck_mw76.1, ck_mw76.2.1, ck_mw76.2.2.1, ck_mw76.2.2.2, (ck_mem 882 (by decide +kernel) (by decide +kernel)), ck_mv76.1, ck_mv76.2⟩) (ck_cons (fun _ => ⟨ck_m78, rfl, ck_mw78.1, ck_mw78.2.1, ck_mw78.2.2.1, ck_mw78.2.2.2, (ck_mem 1662 (by decide +kernel) (by decide +kernel)), ck_mv78.1, ck_mv78.2⟩) (ck_cons (fun _ => ⟨ck_m80, rfl, ck_mw80.1, ck_mw80.2.1, ck_mw80.2.2.1, ck_mw80.2.2.2, (ck_mem 894 (by decide +kernel) (by decide +kernel)), ck_mv80.1, ck_mv80.2⟩) (ck_cons (fun _ => ⟨ck_m81, rfl, ck_mw81.1, ck_mw81.2.1, ck_mw81.2.2.1, ck_mw81.2.2.2, (ck_mem 1674 (by decide +kernel) (by decide +kernel)), ck_mv81.1, ck_mv81.2⟩) (ck_cons (fun _ => ⟨ck_m82, rfl, ck_mw82.1, ck_mw82.2.1, ck_mw82.2.2.1, ck_mw82.2.2.2, (ck_mem 902 (by decide +kernel) (by decide +kernel)), ck_mv82.1, ck_mv82.2⟩) (ck_cons (fun _ => ⟨ck_m83, rfl, ck_mw83.1, ck_mw83.2.1, ck_mw83.2.2.1, ck_mw83.2.2.2, (ck_mem 1678 (by decide +kernel) (by decide +kernel)), ck_mv83.1, ck_mv83.2⟩) (ck_cons (fun _ => ⟨ck_m84, rfl, ck_mw84.1, ck_mw84.2.1, ck_mw84.2.2.1, ck_mw84.2.2.2, (ck_mem 911 (by decide +kernel) (by decide +kernel)), ck_mv84.1, ck_mv84.2⟩) (ck_cons (fun _ => ⟨ck_m86, rfl, ck_mw86.1, ck_mw86.2.1, ck_mw86.2.2.1, ck_mw86.2.2.2, (ck_mem 1686 (by decide +kernel) (by decide +kernel)), ck_mv86.1, ck_mv86.2⟩) (ck_cons (fun _ => ⟨ck_m87, rfl, ck_mw87.1, ck_mw87.2.1, ck_mw87.2.2.1, ck_mw87.2.2.2, (ck_mem 940 (by decide +kernel) (by decide +kernel)), ck_mv87.1, ck_mv87.2⟩) (ck_cons (fun _ => ⟨ck_m88, rfl, ck_mw88.1, ck_mw88.2.1, ck_mw88.2.2.1, ck_mw88.2.2.2, (ck_mem 1698 (by decide +kernel) (by decide +kernel)), ck_mv88.1, ck_mv88.2⟩) (ck_cons (fun _ => ⟨ck_m89, rfl, ck_mw89.1, ck_mw89.2.1, ck_mw89.2.2.1, ck_mw89.2.2.2, (ck_mem 948 (by decide +kernel) (by decide +kernel)), ck_mv89.1, ck_mv89.2⟩) (ck_cons (fun _ => ⟨ck_m95, rfl, ck_mw95.1, ck_mw95.2.1, ck_mw95.2.2.1, ck_mw95.2.2.2, (ck_mem 1706 (by decide +kernel) (by decide +kernel)), ck_mv95.1, ck_mv95.2⟩) (ck_cons (fun _ => ⟨ck_m98, rfl, ck_mw98.1, ck_mw98.2.1, ck_mw98.2.2.1, ck_mw98.2.2.2, (ck_mem 966 (by decide +kernel) (by decide +kernel)), ck_mv98.1, ck_mv98.2⟩) (ck_cons (fun _ => ⟨ck_m99, rfl, ck_mw99.1, ck_mw99.2.1, ck_mw99.2.2.1, ck_mw99.2.2.2, (ck_mem 1714 (by decide +kernel) (by decide +kernel)), ck_mv99.1, ck_mv99.2⟩) (ck_cons (fun _ => ⟨ck_m100, rfl, ck_mw100.1, ck_mw100.2.1, ck_mw100.2.2.1, ck_mw100.2.2.2, (ck_mem 970 (by decide +kernel) (by decide +kernel)), ck_mv100.1, ck_mv100.2⟩) (ck_cons (fun _ => ⟨ck_m101, rfl, ck_mw101.1, ck_mw101.2.1, ck_mw101.2.2.1, ck_mw101.2.2.2, (ck_mem 1718 (by decide +kernel) (by decide +kernel)), ck_mv101.1, ck_mv101.2⟩) (ck_cons (fun _ => ⟨ck_m102, rfl, ck_mw102.1, ck_mw102.2.1, ck_mw102.2.2.1, ck_mw102.2.2.2, (ck_mem 982 (by decide +kernel) (by decide +kernel)), ck_mv102.1, ck_mv102.2⟩) (ck_cons (fun _ => ⟨ck_m103, rfl, ck_mw103.1, ck_mw103.2.1, ck_mw103.2.2.1, ck_mw103.2.2.2, (ck_mem 1722 (by decide +kernel) (by decide +kernel)), ck_mv103.1, ck_mv103.2⟩) (ck_cons (fun _ => ⟨ck_m104, rfl, ck_mw104.1, ck_mw104.2.1, ck_mw104.2.2.1, ck_mw104.2.2.2, (ck_mem 992 (by decide +kernel) (by decide +kernel)), ck_mv104.1, ck_mv104.2⟩) (ck_cons (fun _ => ⟨ck_m108, rfl, ck_mw108.1, ck_mw108.2.1, ck_mw108.2.2.1, ck_mw108.2.2.2, (ck_mem 1726 (by decide +kernel) (by decide +kernel)), ck_mv108.1, ck_mv108.2⟩) (ck_cons (fun _ => ⟨ck_m109, rfl, ck_mw109.1, ck_mw109.2.1, ck_mw109.2.2.1, ck_mw109.2.2.2, (ck_mem 1023 (by decide +kernel) (by decide +kernel)), ck_mv109.1, ck_mv109.2⟩) (ck_cons (fun _ => ⟨ck_m110, rfl, ck_mw110.1, ck_mw110.2.1, ck_mw110.2.2.1, ck_mw110.2.2.2, (ck_mem 1734 (by decide +kernel) (by decide +kernel)), ck_mv110.1, ck_mv110.2⟩) (ck_cons (fun _ => ⟨ck_m111, rfl, ck_mw111.1, ck_mw111.2.1, ck_mw111.2.2.1, ck_mw111.2.2.2, (ck_mem 1027 (by decide +kernel) (by decide +kernel)), ck_mv111.1, ck_mv111.2⟩) (ck_cons (fun _ => ⟨ck_m112, rfl, ck_mw112.1, ck_mw112.2.1, ck_mw112.2.2.1, ck_mw112.2.2.2, (ck_mem 1738 (by decide +kernel) (by decide +kernel)), ck_mv112.1, ck_mv112.2⟩) (ck_cons (fun _ => ⟨ck_m113, rfl, ck_mw113.1, ck_mw113.2.1, ck_mw113.2.2.1, ck_mw113.2.2.2, (ck_mem 1041 (by decide +kernel) (by decide +kernel)), ck_mv113.1, ck_mv113.2⟩) (ck_cons (fun _ => ⟨ck_m114, rfl, ck_mw114.1, ck_mw114.2.1, ck_mw114.2.2.1, ck_mw114.2.2.2, (ck_mem 1750 (by decide +kernel) (by decide +kernel)), ck_mv114.1, ck_mv114.2⟩) (ck_cons (fun _ => ⟨ck_m115, rfl, ck_mw115.1, ck_mw115.2.1, ck_mw115.2.2.1, ck_mw115.2.2.2, (ck_mem 1070 (by decide +kernel) (by decide +kernel)), ck_mv115.1, ck_mv115.2⟩) (ck_cons (fun _ => ⟨ck_m116, rfl, ck_mw116.1, ck_mw116.2.1, ck_mw116.2.2.1, ck_mw116.2.2.2, (ck_mem 1762 (by decide +kernel) (by decide +kernel)), ck_mv116.1, ck_mv116.2⟩) (ck_cons (fun _ => ⟨ck_m117, rfl, ck_mw117.1, ck_mw117.2.1, ck_mw117.2.2.1, ck_mw117.2.2.2, (ck_mem 1088 (by decide +kernel) (by decide +kernel)), ck_mv117.1, ck_mv117.2⟩) (ck_cons (fun _ => ⟨ck_m119, rfl, ck_mw119.1, ck_mw119.2.1, ck_mw119.2.2.1, ck_mw119.2.2.2, (ck_mem 1770 (by decide +kernel) (by decide +kernel)), ck_mv119.1, ck_mv119.2⟩) (ck_cons (fun _ => ⟨ck_m121, rfl, ck_mw121.1, ck_mw121.2.1, ck_mw121.2.2.1, ck_mw121.2.2.2, (ck_mem 1129 (by decide +kernel) (by decide +kernel)), ck_mv121.1, ck_mv121.2⟩) (ck_cons (fun _ => ⟨ck_m122, rfl, ck_mw122.1, ck_mw122.2.1, ck_mw122.2.2.1, ck_mw122.2.2.2, (ck_mem 1808 (by decide +kernel) (by decide +kernel)), ck_mv122.1, ck_mv122.2⟩) (ck_cons (fun _ => ⟨ck_m124, rfl, ck_mw124.1, ck_mw124.2.1, ck_mw124.2.2.1, ck_mw124.2.2.2, (ck_mem 1150 (by decide +kernel) (by decide +kernel)), ck_mv124.1, ck_mv124.2⟩) (ck_cons (fun _ => ⟨ck_m125, rfl, ck_mw125.1, ck_mw125.2.1, ck_mw125.2.2.1, ck_mw125.2.2.2, (ck_mem 1823 (by decide +kernel) (by decide +kernel)), ck_mv125.1, ck_mv125.2⟩) (ck_cons (fun _ => ⟨ck_m128, rfl, ck_mw128.1, ck_mw128.2.1, ck_mw128.2.2.1, ck_mw128.2.2.2, (ck_mem 1164 (by decide +kernel) (by decide +kernel)), ck_mv128.1, ck_mv128.2⟩) (ck_cons (fun _ => ⟨ck_m129, rfl, ck_mw129.1, ck_mw129.2.1, ck_mw129.2.2.1, ck_mw129.2.2.2, (ck_mem 1839 (by decide +kernel) (by decide +kernel)), ck_mv129.1, ck_mv129.2⟩) (ck_cons (fun _ => ⟨ck_m131, rfl, ck_mw131.1, ck_mw131.2.1, ck_mw131.2.2.1, ck_mw131.2.2.2, (ck_mem 1176 (by decide +kernel) (by decide +kernel)), ck_mv131.1, ck_mv131.2⟩) (ck_cons (fun _ => ⟨ck_m136, rfl, ck_mw136.1, ck_mw136.2.1, ck_mw136.2.2.1, ck_mw136.2.2.2, (ck_mem 1847 (by decide +kernel) (by decide +kernel)), ck_mv136.1, ck_mv136.2⟩) (ck_cons (fun _ => ⟨ck_m137, rfl, ck_mw137.1, ck_mw137.2.1, ck_mw137.2.2.1, ck_mw137.2.2.2, (ck_mem 1185 (by decide +kernel) (by decide +kernel)), ck_mv137.1, ck_mv137.2⟩) (ck_cons (fun _ => ⟨ck_m138, rfl, ck_mw138.1, ck_mw138.2.1, ck_mw138.2.2.1, ck_mw138.2.2.2, (ck_mem 1851 (by decide +kernel) (by decide +kernel)), ck_mv138.1, ck_mv138.2⟩) (ck_cons (fun _ => ⟨ck_m139, rfl, ck_mw139.1, ck_mw139.2.1, ck_mw139.2.2.1, ck_mw139.2.2.2, (ck_mem 1198 (by decide +kernel) (by decide +kernel)), ck_mv139.1, ck_mv139.2⟩) (ck_cons (fun _ => ⟨ck_m140, rfl, ck_mw140.1, ck_mw140.2.1, ck_mw140.2.2.1, ck_mw140.2.2.2, (ck_mem 1855 (by decide +kernel) (by decide +kernel)), ck_mv140.1, ck_mv140.2⟩) (ck_cons (fun _ => ⟨ck_m141, rfl, ck_mw141.1, ck_mw141.2.1, ck_mw141.2.2.1, ck_mw141.2.2.2, (ck_mem 1202 (by decide +kernel) (by decide +kernel)), ck_mv141.1, ck_mv141.2⟩) (ck_cons (fun _ => ⟨ck_m142, rfl, ck_mw142.1, ck_mw142.2.1, ck_mw142.2.2.1, ck_mw142.2.2.2, (ck_mem 1859 (by decide +kernel) (by decide +kernel)), ck_mv142.1, ck_mv142.2⟩) (ck_cons (fun _ => ⟨ck_m143, rfl, ck_mw143.1, ck_mw143.2.1, ck_mw143.2.2.1, ck_mw143.2.2.2, (ck_mem 1211 (by decide +kernel) (by decide +kernel)), ck_mv143.1, ck_mv143.2⟩) (ck_cons (fun _ => ⟨ck_m144, rfl, ck_mw144.1, ck_mw144.2.1, ck_mw144.2.2.1, ck_mw144.2.2.2, (ck_mem 1867 (by decide +kernel) (by decide +kernel)), ck_mv144.1, ck_mv144.2⟩) (ck_cons (fun _ => ⟨ck_m145, rfl, ck_mw145.1, ck_mw145.2.1, ck_mw145.2.2.1, ck_mw145.2.2.2, (ck_mem 1260 (by decide +kernel) (by decide +kernel)), ck_mv145.1, ck_mv145.2⟩) (ck_cons (fun _ => ⟨ck_m146, rfl, ck_mw146.1, ck_mw146.2.1, ck_mw146.2.2.1, ck_mw146.2.2.2, (ck_mem 1883 (by decide +kernel) (by decide +kernel)), ck_mv146.1, ck_mv146.2⟩) (ck_cons (fun _ => ⟨ck_m147, rfl, ck_mw147.1, ck_mw147.2.1, ck_mw147.2.2.1, ck_mw147.2.2.2, (ck_mem 1265 (by decide +kernel) (by decide +kernel)), ck_mv147.1, ck_mv147.2⟩) (ck_cons (fun _ => ⟨ck_m150, rfl, ck_mw150.1, ck_mw150.2.1, ck_mw150.2.2.1, ck_mw150.2.2.2, (ck_mem 1424 (by decide +kernel) (by decide +kernel)), ck_mv150.1, ck_mv150.2⟩) (ck_cons (fun _ => ⟨ck_m151, rfl, ck_mw151.1, ck_mw151.2.1, ck_mw151.2.2.1, ck_mw151.2.2.2, (ck_mem 1277 (by decide +kernel) (by decide +kernel)), ck_mv151.1, ck_mv151.2⟩) (ck_cons (fun _ => ⟨ck_m152, rfl, ck_mw152.1, ck_mw152.2.1, ck_mw152.2.2.1, ck_mw152.2.2.2, (ck_mem 1439 (by decide +kernel) (by decide +kernel)), ck_mv152.1, ck_mv152.2⟩) (ck_cons (fun _ => ⟨ck_m153, rfl, ck_mw153.1, ck_mw153.2.1, ck_mw153.2.2.1, ck_mw153.2.2.2, (ck_mem 1281 (by decide +kernel) (by decide +kernel)), ck_mv153.1, ck_mv153.2⟩) (ck_cons (fun _ => ⟨ck_m155, rfl, ck_mw155.1, ck_mw155.2.1, ck_mw155.2.2.1, ck_mw155.2.2.2, (ck_mem 1887 (by decide +kernel) (by decide +kernel)), ck_mv155.1, ck_mv155.2⟩) (ck_cons (fun _ => ⟨ck_m156, rfl, ck_mw156.1, ck_mw156.2.1, ck_mw156.2.2.1, ck_mw156.2.2.2, (ck_mem 1289 (by decide +kernel) (by decide +kernel)), ck_mv156.1, ck_mv156.2⟩) (ck_cons (fun _ => ⟨ck_m157, rfl, ck_mw157.1, ck_mw157.2.1, ck_mw157.2.2.1, ck_mw157.2.2.2, (ck_mem 1891 (by decide +kernel) (by decide +kernel)), ck_mv157.1, ck_mv157.2⟩) ck_nil))))))))))))))))))))))))))))))))))))))))))))))))))))))))))))))))))))))))))))))))))))))
set_option maxRecDepth 100000 in
theorem ck_tY12 : ∀ q ∈ ck_T12.2.2.2.2.2.2.2.2, ck_okY ck_TS "ScratchLadderLaw" q := (ck_cons ⟨fun h => absurd h (by decide), fun h => absurd h (by decide), fun h => absurd h (by decide)⟩ (ck_cons ⟨fun h => absurd h (by decide), fun h => absurd h (by decide), fun h => absurd h (by decide)⟩ (ck_cons ⟨fun h => absurd h (by decide), fun h => absurd h (by decide), fun h => absurd h (by decide)⟩ (ck_cons ⟨fun h => absurd h (by decide), fun h => absurd h (by decide), fun h => absurd h (by decide)⟩ (ck_cons ⟨fun h => absurd h (by decide), fun h => absurd h (by decide), fun h => absurd h (by decide)⟩ (ck_cons ⟨fun h => absurd h (by decide), fun h => absurd h (by decide), fun h => absurd h (by decide)⟩ (ck_cons ⟨fun h => absurd h (by decide), fun h => absurd h (by decide), fun h => absurd h (by decide)⟩ (ck_cons ⟨fun h => absurd h (by decide), fun h => absurd h (by decide), fun h => absurd h (by decide)⟩ (ck_cons ⟨fun h => absurd h (by decide), fun h => absurd h (by decide), fun h => absurd h (by decide)⟩ (ck_cons ⟨fun h => absurd h (by decide), fun h => absurd h (by decide), fun h => absurd h (by decide)⟩ (ck_cons ⟨fun h => absurd h (by decide), fun h => absurd h (by decide), fun h => absurd h (by decide)⟩ (ck_cons ⟨fun h => absurd h (by decide), fun h => absurd h (by decide), fun h => absurd h (by decide)⟩ (ck_cons ⟨fun h => absurd h (by decide), fun h => absurd h (by decide), fun h => absurd h (by decide)⟩ (ck_cons ⟨fun h => absurd h (by decide), fun h => absurd h (by decide), fun h => absurd h (by decide)⟩ (ck_cons ⟨fun h => absurd h (by decide), fun h => absurd h (by decide), fun h => absurd h (by decide)⟩ (ck_cons ⟨fun h => absurd h (by decide), fun h => absurd h (by decide), fun h => absurd h (by decide)⟩ (ck_cons ⟨fun h => absurd h (by decide), fun h => absurd h (by decide), fun h => absurd h (by decide)⟩ (ck_cons ⟨fun h => absurd h (by decide), fun h => absurd h (by decide), fun h => absurd h (by decide)⟩ (ck_cons ⟨fun h => absurd h (by decide), fun h => absurd h (by decide), fun h => absurd h (by decide)⟩ (ck_cons ⟨fun h => absurd h (by decide), fun h => absurd h (by decide), fun h => absurd h (by decide)⟩ (ck_cons ⟨fun h => absurd h (by decide), fun h => absurd h (by decide), fun h => absurd h (by decide)⟩ (ck_cons ⟨fun h => absurd h (by decide), fun h => absurd h (by decide), fun h => absurd h (by decide)⟩ (ck_cons ⟨fun h => absurd h (by decide), fun h => absurd h (by decide), fun h => absurd h (by decide)⟩ (ck_cons ⟨fun h => absurd h (by decide), fun h => absurd h (by decide), fun h => absurd h (by decide)⟩ (ck_cons ⟨fun h => absurd h (by decide), fun h => absurd h (by decide), fun h => absurd h (by decide)⟩ (ck_cons ⟨fun h => absurd h (by decide), fun h => absurd h (by decide), fun h => absurd h (by decide)⟩ (ck_cons ⟨fun h => absurd h (by decide), fun h => absurd h (by decide), fun h => absurd h (by decide)⟩ (ck_cons ⟨fun h => absurd h (by decide), fun h => absurd h (by decide), fun h => absurd h (by decide)⟩ (ck_cons ⟨fun h => absurd h (by decide), fun h => absurd h (by decide), fun h => absurd h (by decide)⟩ (ck_cons ⟨fun h => absurd h (by decide), fun h => absurd h (by decide), fun h => absurd h (by decide)⟩ (ck_cons ⟨fun h => absurd h (by decide), fun h => absurd h (by decide), fun h => absurd h (by decide)⟩ (ck_cons ⟨fun h => absurd h (by decide), fun h => absurd h (by decide), fun h => absurd h (by decide)⟩ (ck_cons ⟨fun h => absurd h (by decide), fun h => absurd h (by decide), fun h => absurd h (by decide)⟩ (ck_cons ⟨fun h => absurd h (by decide), fun h => absurd h (by decide), fun h => absurd h (by decide)⟩ (ck_cons ⟨fun h => absurd h (by decide), fun h => absurd h (by decide), fun h => absurd h (by decide)⟩ (ck_cons ⟨fun h => absurd h (by decide), fun h => absurd h (by decide), fun h => absurd h (by decide)⟩ (ck_cons ⟨fun h => absurd h (by decide), fun h => absurd h (by decide), fun h => absurd h (by decide)⟩ (ck_cons ⟨fun h => absurd h (by decide), fun h => absurd h (by decide), fun h => absurd h (by decide)⟩ (ck_cons ⟨fun h => absurd h (by decide), fun h => absurd h (by decide), fun h => absurd h (by decide)⟩ (ck_cons ⟨fun h => absurd h (by decide), fun h => absurd h (by decide), fun h => absurd h (by decide)⟩ (ck_cons ⟨fun h => absurd h (by decide), fun h => absurd h (by decide), fun h => absurd h (by decide)⟩ (ck_cons ⟨fun h => absurd h (by decide), fun h => absurd h (by decide), fun h => absurd h (by decide)⟩ (ck_cons ⟨fun h => absurd h (by decide), fun h => absurd h (by decide), fun h => absurd h (by decide)⟩ (ck_cons ⟨fun h => absurd h (by decide), fun h => absurd h (by decide), fun h => absurd h (by decide)⟩ (ck_cons ⟨fun h => absurd h (by decide), fun h => absurd h (by decide), fun h => absurd h (by decide)⟩ (ck_cons ⟨fun h => absurd h (by decide), fun h => absurd h (by decide), fun h => absurd h (by decide)⟩ (ck_cons ⟨fun h => absurd h (by decide), fun h => absurd h (by decide), fun h => absurd h (by decide)⟩ (ck_cons ⟨fun h => absurd h (by decide), fun h => absurd h (by decide), fun h => absurd h (by decide)⟩ (ck_cons ⟨fun h => absurd h (by decide), fun h => absurd h (by decide), fun h => absurd h (by decide)⟩ (ck_cons ⟨fun h => absurd h (by decide), fun h => absurd h (by decide), fun h => absurd h (by decide)⟩ (ck_cons ⟨fun h => absurd h (by decide), fun h => absurd h (by decide), fun h => absurd h (by decide)⟩ (ck_cons ⟨fun h => absurd h (by decide), fun h => absurd h (by decide), fun h => absurd h (by decide)⟩ (ck_cons ⟨fun h => absurd h (by decide), fun h => absurd h (by decide), fun h => absurd h (by decide)⟩ (ck_cons ⟨fun h => absurd h (by decide), fun h => absurd h (by decide), fun h => absurd h (by decide)⟩ (ck_cons ⟨fun h => absurd h (by decide), fun h => absurd h (by decide), fun h => absurd h (by decide)⟩ (ck_cons ⟨fun h => absurd h (by decide), fun h => absurd h (by decide), fun h => absurd h (by decide)⟩ (ck_cons ⟨fun h => absurd h (by decide), fun h => absurd h (by decide), fun h => absurd h (by decide)⟩ (ck_cons ⟨fun h => absurd h (by decide), fun h => absurd h (by decide), fun h => absurd h (by decide)⟩ (ck_cons ⟨fun h => absurd h (by decide), fun h => absurd h (by decide), fun h => absurd h (by decide)⟩ (ck_cons ⟨fun h => absurd h (by decide), fun h => absurd h (by decide), fun h => absurd h (by decide)⟩ (ck_cons ⟨fun h => absurd h (by decide), fun h => absurd h (by decide), fun h => absurd h (by decide)⟩ (ck_cons ⟨fun h => absurd h (by decide), fun h => absurd h (by decide), fun h => absurd h (by decide)⟩ (ck_cons ⟨fun h => absurd h (by decide), fun h => absurd h (by decide), fun h => absurd h (by decide)⟩ (ck_cons ⟨fun h => absurd h (by decide), fun h => absurd h (by decide), fun h => absurd h (by decide)⟩ (ck_cons ⟨fun h => absurd h (by decide), fun h => absurd h (by decide), fun h => absurd h (by decide)⟩ (ck_cons ⟨fun h => absurd h (by decide), fun h => absurd h (by decide), fun h => absurd h (by decide)⟩ (ck_cons ⟨fun h => absurd h (by decide), fun h => absurd h (by decide), fun h => absurd h (by decide)⟩ (ck_cons ⟨fun h => absurd h (by decide), fun h => absurd h (by decide), fun h => absurd h (by decide)⟩ (ck_cons ⟨fun h => absurd h (by decide), fun h => absurd h (by decide), fun h => absurd h (by decide)⟩ (ck_cons ⟨fun h => absurd h (by decide), fun h => absurd h (by decide), fun h => absurd h (by decide)⟩ (ck_cons ⟨fun h => absurd h (by decide), fun h => absurd h (by decide), fun h => absurd h (by decide)⟩ (ck_cons ⟨fun h => absurd h (by decide), fun h => absurd h (by decide), fun h => absurd h (by decide)⟩ (ck_cons ⟨fun h => absurd h (by decide), fun h => absurd h (by decide), fun h => absurd h (by decide)⟩ (ck_cons ⟨fun h => absurd h (by decide), fun h => absurd h (by decide), fun h => absurd h (by decide)⟩ (ck_cons ⟨fun h => absurd h (by decide), fun h => absurd h (by decide), fun h => absurd h (by decide)⟩ (ck_cons ⟨fun h => absurd h (by decide), fun h => absurd h (by decide), fun h => absurd h (by decide)⟩ (ck_cons ⟨fun h => absurd h (by decide), fun h => absurd h (by decide), fun h => absurd h (by decide)⟩ (ck_cons ⟨fun h => absurd h (by decide), fun h => absurd h (by decide), fun h => absurd h (by decide)⟩ (ck_cons ⟨fun h => absurd h (by decide), fun h => absurd h (by decide), fun h => absurd h (by decide)⟩ (ck_cons ⟨fun h => absurd h (by decide), fun h => absurd h (by decide), fun h => absurd h (by decide)⟩ (ck_cons ⟨fun h => absurd h (by decide), fun h => absurd h (by decide), fun h => absurd h (by decide)⟩ (ck_cons ⟨fun h => absurd h (by decide), fun h => absurd h (by decide), fun h => absurd h (by decide)⟩ (ck_cons ⟨fun h => absurd h (by decide), fun h => absurd h (by decide), fun h => absurd h (by decide)⟩ (ck_cons ⟨fun h => absurd h (by decide), fun h => absurd h (by decide), fun h => absurd h (by decide)⟩ (ck_cons ⟨fun h => absurd h (by decide), fun h => absurd h (by decide), fun h => absurd h (by decide)⟩ (ck_cons ⟨fun h => absurd h (by decide), fun h => absurd h (by decide), fun h => absurd h (by decide)⟩ ck_nil))))))))))))))))))))))))))))))))))))))))))))))))))))))))))))))))))))))))))))))))))))))
theorem ck_okT12 : ck_okT vwCl ck_TS ck_NM ck_AO ck_SL ck_mts "ScratchLadderLaw" ck_T12 := ⟨ck_tF12, ck_tN12, ck_okDt, ck_okAt, ck_tA12, ck_tK12, ck_tS12, ck_tM12, ck_tY12⟩
def ck_T13 : ck_T := ([(3, 12, 0, .int, false), (13, 12, 1, (.array .int), true), (17, 12, 2, (.array .int), true), (20, 12, 3, (.array .boolean), true), (24, 12, 4, (.array .byte), true), (28, 12, 5, (.array .byte), true), (31, 12, 6, (.array .int), true), (34, 12, 8, .int, false), (37, 12, 9, (.array .int), true), (40, 12, 10, (.array .int), true), (43, 12, 11, (.array .int), true), (46, 12, 19, (.array .int), true), (49, 12, 24, (.array .int), true), (52, 12, 25, (.array .int), true), (55, 12, 26, (.array .int), true), (58, 12, 27, (.array .int), true), (61, 12, 28, (.array .int), true), (64, 12, 29, .int, false), (67, 12, 30, (.array .int), true), (70, 12, 31, (.array .int), true), (74, 12, 35, (.array .byte), true), (77, 12, 36, (.array .boolean), true), (80, 12, 37, (.array .int), true), (83, 12, 38, (.array .int), true), (86, 12, 39, (.array .int), true), (89, 12, 40, (.array .int), true), (122, 12, 7, .int, false), (125, 12, 12, .int, false), (137, 12, 15, .int, false), (144, 12, 13, .int, false), (153, 12, 14, .int, false)], [], ck_dt, ck_ats, [], ck_tr, [(73, 59808), (115, 1000000)], [], [(7, 7, 0), (92, 1, 21), (96, 0, 22), (100, 0, 24), (103, 0, 23), (107, 0, 29), (111, 0, 35), (140, 0, 60), (147, 0, 59), (150, 0, 62), (160, 0, 61), (175, 1, 63), (189, 0, 57), (192, 0, 58), (195, 0, 56), (198, 0, 68), (273, 1, 73), (288, 0, 79), (300, 0, 96), (306, 0, 97), (360, 1, 120), (366, 0, 123), (378, 0, 126), (381, 0, 127), (384, 0, 130)])
set_option maxRecDepth 100000 in
theorem ck_tF13 : ∀ q ∈ ck_T13.1, ck_okF vwCl ck_TS "ScratchLadderModel" q := (ck_cons ⟨RX12, TX12, 41, rfl, by decide, (ck_mem 1300 (by decide +kernel) (by decide +kernel)), Or.inr ⟨by decide +kernel, rfl, fun h => absurd h (by decide)⟩⟩ (ck_cons ⟨RX12, TX12, 41, rfl, by decide, (ck_mem 1301 (by decide +kernel) (by decide +kernel)), Or.inr ⟨by decide +kernel, rfl, fun h => rfl⟩⟩ (ck_cons ⟨RX12, TX12, 41, rfl, by decide, (ck_mem 1302 (by decide +kernel) (by decide +kernel)), Or.inr ⟨by decide +kernel, rfl, fun h => rfl⟩⟩ (ck_cons ⟨RX12, TX12, 41, rfl, by decide, (ck_mem 1303 (by decide +kernel) (by decide +kernel)), Or.inr ⟨by decide +kernel, rfl, fun h => rfl⟩⟩ (ck_cons ⟨RX12, TX12, 41, rfl, by decide, (ck_mem 1304 (by decide +kernel) (by decide +kernel)), Or.inr ⟨by decide +kernel, rfl, fun h => rfl⟩⟩ (ck_cons ⟨RX12, TX12, 41, rfl, by decide, (ck_mem 1305 (by decide +kernel) (by decide +kernel)), Or.inr ⟨by decide +kernel, rfl, fun h => rfl⟩⟩ (ck_cons ⟨RX12, TX12, 41, rfl, by decide, (ck_mem 1306 (by decide +kernel) (by decide +kernel)), Or.inr ⟨by decide +kernel, rfl, fun h => rfl⟩⟩ (ck_cons ⟨RX12, TX12, 41, rfl, by decide, (ck_mem 1308 (by decide +kernel) (by decide +kernel)), Or.inr ⟨by decide +kernel, rfl, fun h => absurd h (by decide)⟩⟩ (ck_cons ⟨RX12, TX12, 41, rfl, by decide, (ck_mem 1309 (by decide +kernel) (by decide +kernel)), Or.inr ⟨by decide +kernel, rfl, fun h => rfl⟩⟩ (ck_cons ⟨RX12, TX12, 41, rfl, by decide, (ck_mem 1310 (by decide +kernel) (by decide +kernel)), Or.inr ⟨by decide +kernel, rfl, fun h => rfl⟩⟩ (ck_cons ⟨RX12, TX12, 41, rfl, by decide, (ck_mem 1311 (by decide +kernel) (by decide +kernel)), Or.inr ⟨by decide +kernel, rfl, fun h => rfl⟩⟩ (ck_cons ⟨RX12, TX12, 41, rfl, by decide, (ck_mem 1319 (by decide +kernel) (by decide +kernel)), Or.inr ⟨by decide +kernel, rfl, fun h => rfl⟩⟩ (ck_cons ⟨RX12, TX12, 41, rfl, by decide, (ck_mem 1324 (by decide +kernel) (by decide +kernel)), Or.inr ⟨by decide +kernel, rfl, fun h => rfl⟩⟩ (ck_cons ⟨RX12, TX12, 41, rfl, by decide, (ck_mem 1325 (by decide +kernel) (by decide +kernel)), Or.inr ⟨by decide +kernel, rfl, fun h => rfl⟩⟩ (ck_cons ⟨RX12, TX12, 41, rfl, by decide, (ck_mem 1326 (by decide +kernel) (by decide +kernel)), Or.inr ⟨by decide +kernel, rfl, fun h => rfl⟩⟩ (ck_cons ⟨RX12, TX12, 41, rfl, by decide, (ck_mem 1327 (by decide +kernel) (by decide +kernel)), Or.inr ⟨by decide +kernel, rfl, fun h => rfl⟩⟩ (ck_cons ⟨RX12, TX12, 41, rfl, by decide, (ck_mem 1328 (by decide +kernel) (by decide +kernel)), Or.inr ⟨by decide +kernel, rfl, fun h => rfl⟩⟩ (ck_cons ⟨RX12, TX12, 41, rfl, by decide, (ck_mem 1329 (by decide +kernel) (by decide +kernel)), Or.inr ⟨by decide +kernel, rfl, fun h => absurd h (by decide)⟩⟩ (ck_cons ⟨RX12, TX12, 41, rfl, by decide, (ck_mem 1330 (by decide +kernel) (by decide +kernel)), Or.inr ⟨by decide +kernel, rfl, fun h => rfl⟩⟩ (ck_cons ⟨RX12, TX12, 41, rfl, by decide, (ck_mem 1331 (by decide +kernel) (by decide +kernel)), Or.inr ⟨by decide +kernel, rfl, fun h => rfl⟩⟩ (ck_cons ⟨RX12, TX12, 41, rfl, by decide, (ck_mem 1335 (by decide +kernel) (by decide +kernel)), Or.inr ⟨by decide +kernel, rfl, fun h => rfl⟩⟩ (ck_cons ⟨RX12, TX12, 41, rfl, by decide, (ck_mem 1336 (by decide +kernel) (by decide +kernel)), Or.inr ⟨by decide +kernel, rfl, fun h => rfl⟩⟩ (ck_cons ⟨RX12, TX12, 41, rfl, by decide, (ck_mem 1337 (by decide +kernel) (by decide +kernel)), Or.inr ⟨by decide +kernel, rfl, fun h => rfl⟩⟩ (ck_cons ⟨RX12, TX12, 41, rfl, by decide, (ck_mem 1338 (by decide +kernel) (by decide +kernel)), Or.inr ⟨by decide +kernel, rfl, fun h => rfl⟩⟩ (ck_cons ⟨RX12, TX12, 41, rfl, by decide, (ck_mem 1339 (by decide +kernel) (by decide +kernel)), Or.inr ⟨by decide +kernel, rfl, fun h => rfl⟩⟩ (ck_cons ⟨RX12, TX12, 41, rfl, by decide, (ck_mem 1340 (by decide +kernel) (by decide +kernel)), Or.inr ⟨by decide +kernel, rfl, fun h => rfl⟩⟩ (ck_cons ⟨RX12, TX12, 41, rfl, by decide, (ck_mem 1307 (by decide +kernel) (by decide +kernel)), Or.inr ⟨by decide +kernel, rfl, fun h => absurd h (by decide)⟩⟩ (ck_cons ⟨RX12, TX12, 41, rfl, by decide, (ck_mem 1312 (by decide +kernel) (by decide +kernel)), Or.inr ⟨by decide +kernel, rfl, fun h => absurd h (by decide)⟩⟩ (ck_cons ⟨RX12, TX12, 41, rfl, by decide, (ck_mem 1315 (by decide +kernel) (by decide +kernel)), Or.inr ⟨by decide +kernel, rfl, fun h => absurd h (by decide)⟩⟩ (ck_cons ⟨RX12, TX12, 41, rfl, by decide, (ck_mem 1313 (by decide +kernel) (by decide +kernel)), Or.inr ⟨by decide +kernel, rfl, fun h => absurd h (by decide)⟩⟩ (ck_cons ⟨RX12, TX12, 41, rfl, by decide, (ck_mem 1314 (by decide +kernel) (by decide +kernel)), Or.inr ⟨by decide +kernel, rfl, fun h => absurd h (by decide)⟩⟩ ck_nil)))))))))))))))))))))))))))))))
set_option maxRecDepth 100000 in
theorem ck_tN13 : ∀ q ∈ ck_T13.2.1, ck_okN vwCl ck_TS "ScratchLadderModel" q := ck_nil
set_option maxRecDepth 100000 in
theorem ck_tA13 : ∀ q ∈ ck_T13.2.2.2.2.1, ck_okA ck_TS ck_AO "ScratchLadderModel" q := ck_nil
set_option maxRecDepth 100000 in
theorem ck_tK13 : ∀ q ∈ ck_T13.2.2.2.2.2.2.1, Cond.constant "ScratchLadderModel" q.1 (Int32.ofInt q.2) ∈ ck_TS := (ck_cons (ck_mem 1299 (by decide +kernel) (by decide +kernel)) (ck_cons (ck_mem 1479 (by decide +kernel) (by decide +kernel)) ck_nil))
set_option maxRecDepth 100000 in
theorem ck_tS13 : ∀ q ∈ ck_T13.2.2.2.2.2.2.2.1, (("ScratchLadderModel", q.1, q.2) : String × Nat × Nat) ∈ ck_SL := ck_nil
set_option maxRecDepth 100000 in
theorem ck_tM13 : ∀ q ∈ ck_T13.2.2.2.2.2.2.2.2, q.2.1 < 6 → ck_okL ck_TS ck_NM ck_mts "ScratchLadderModel" q := (ck_cons (fun h => absurd h (by decide)) (ck_cons (fun _ => ⟨ck_m21, rfl, ck_mw21.1, ck_mw21.2.1, ck_mw21.2.2.1, ck_mw21.2.2.2, (ck_mem 1428 (by decide +kernel) (by decide +kernel)), ck_mst21⟩) (ck_cons (fun _ => ⟨ck_m22, rfl, ck_mw22.1, ck_mw22.2.1, ck_mw22.2.2.1, ck_mw22.2.2.2, (ck_mem 1431 (by decide +kernel) (by decide +kernel)), ck_mv22.1, ck_mv22.2⟩) (ck_cons (fun _ => ⟨ck_m24, rfl, ck_mw24.1, ck_mw24.2.1, ck_mw24.2.2.1, ck_mw24.2.2.2, (ck_mem 1435 (by decide +kernel) (by decide +kernel)), ck_mv24.1, ck_mv24.2⟩) (ck_cons (fun _ => ⟨ck_m23, rfl, ck_mw23.1, ck_mw23.2.1, ck_mw23.2.2.1, ck_mw23.2.2.2, (ck_mem 1447 (by decide +kernel) (by decide +kernel)), ck_mv23.1, ck_mv23.2⟩) (ck_cons (fun _ => ⟨ck_m29, rfl, ck_mw29.1, ck_mw29.2.1, ck_mw29.2.2.1, ck_mw29.2.2.2, (ck_mem 1455 (by decide +kernel) (by decide +kernel)), ck_mv29.1, ck_mv29.2⟩) (ck_cons (fun _ => ⟨ck_m35, rfl, ck_mw35.1, ck_mw35.2.1, ck_mw35.2.2.1, ck_mw35.2.2.2, (ck_mem 1459 (by decide +kernel) (by decide +kernel)), ck_mv35.1, ck_mv35.2⟩) (ck_cons (fun _ => ⟨ck_m60, rfl, ck_mw60.1, ck_mw60.2.1, ck_mw60.2.2.1, ck_mw60.2.2.2, (ck_mem 1518 (by decide +kernel) (by decide +kernel)), ck_mv60.1, ck_mv60.2⟩) (ck_cons (fun _ => ⟨ck_m59, rfl, ck_mw59.1, ck_mw59.2.1, ck_mw59.2.2.1, ck_mw59.2.2.2, (ck_mem 1514 (by decide +kernel) (by decide +kernel)), ck_mv59.1, ck_mv59.2⟩) (ck_cons (fun _ => ⟨ck_m62, rfl, ck_mw62.1, ck_mw62.2.1, ck_mw62.2.2.1, ck_mw62.2.2.2, (ck_mem 1526 (by decide +kernel) (by decide +kernel)), ck_mv62.1, ck_mv62.2⟩) (ck_cons (fun _ => ⟨ck_m61, rfl, ck_mw61.1, ck_mw61.2.1, ck_mw61.2.2.1, ck_mw61.2.2.2, (ck_mem 1530 (by decide +kernel) (by decide +kernel)), ck_mv61.1, ck_mv61.2⟩) (ck_cons (fun _ => ⟨ck_m63, rfl, ck_mw63.1, ck_mw63.2.1, ck_mw63.2.2.1, ck_mw63.2.2.2, (ck_mem 1546 (by decide +kernel) (by decide +kernel)), ck_mst63⟩) (ck_cons (fun _ => ⟨ck_m57, rfl, ck_mw57.1, ck_mw57.2.1, ck_mw57.2.2.1, ck_mw57.2.2.2, (ck_mem 1496 (by decide +kernel) (by decide +kernel)), ck_mv57.1, ck_mv57.2⟩) (ck_cons (fun _ => ⟨ck_m58, rfl, ck_mw58.1, ck_mw58.2.1, ck_mw58.2.2.1, ck_mw58.2.2.2, (ck_mem 1510 (by decide +kernel) (by decide +kernel)), ck_mv58.1, ck_mv58.2⟩) (ck_cons (fun _ => ⟨ck_m56, rfl, ck_mw56.1, ck_mw56.2.1, ck_mw56.2.2.1, ck_mw56.2.2.2, (ck_mem 1492 (by decide +kernel) (by decide +kernel)), ck_mv56.1, ck_mv56.2⟩) (ck_cons (fun _ => ⟨ck_m68, rfl, ck_mw68.1, ck_mw68.2.1, ck_mw68.2.2.1, ck_mw68.2.2.2, (ck_mem 1574 (by decide +kernel) (by decide +kernel)), ck_mv68.1, ck_mv68.2⟩) (ck_cons (fun _ => ⟨ck_m73, rfl, ck_mw73.1, ck_mw73.2.1, ck_mw73.2.2.1, ck_mw73.2.2.2, (ck_mem 1582 (by decide +kernel) (by decide +kernel)), ck_mst73⟩) (ck_cons (fun _ => ⟨ck_m79, rfl, ck_mw79.1, ck_mw79.2.1, ck_mw79.2.2.1, ck_mw79.2.2.2, (ck_mem 1666 (by decide +kernel) (by decide +kernel)), ck_mv79.1, ck_mv79.2⟩) (ck_cons (fun _ => ⟨ck_m96, rfl, ck_mw96.1, ck_mw96.2.1, ck_mw96.2.2.1, ck_mw96.2.2.2, (ck_mem 1690 (by decide +kernel) (by decide +kernel)), ck_mv96.1, ck_mv96.2⟩) (ck_cons (fun _ => ⟨ck_m97, rfl, ck_mw97.1, ck_mw97.2.1, ck_mw97.2.2.1, ck_mw97.2.2.2, (ck_mem 1710 (by decide +kernel) (by decide +kernel)), ck_mv97.1, ck_mv97.2⟩) (ck_cons (fun _ => ⟨ck_m120, rfl, ck_mw120.1, ck_mw120.2.1, ck_mw120.2.2.1, ck_mw120.2.2.2, (ck_mem 1774 (by decide +kernel) (by decide +kernel)), ck_mst120⟩) (ck_cons (fun _ => ⟨ck_m123, rfl, ck_mw123.1, ck_mw123.2.1, ck_mw123.2.2.1, ck_mw123.2.2.2, (ck_mem 1812 (by decide +kernel) (by decide +kernel)), ck_mv123.1, ck_mv123.2⟩) (ck_cons (fun _ => ⟨ck_m126, rfl, ck_mw126.1, ck_mw126.2.1, ck_mw126.2.2.1, ck_mw126.2.2.2, (ck_mem 1827 (by decide +kernel) (by decide +kernel)), ck_mv126.1, ck_mv126.2⟩) (ck_cons (fun _ => ⟨ck_m127, rfl, ck_mw127.1, ck_mw127.2.1, ck_mw127.2.2.1, ck_mw127.2.2.2, (ck_mem 1831 (by decide +kernel) (by decide +kernel)), ck_mv127.1, ck_mv127.2⟩) (ck_cons (fun _ => ⟨ck_m130, rfl, ck_mw130.1, ck_mw130.2.1, ck_mw130.2.2.1, ck_mw130.2.2.2, (ck_mem 1843 (by decide +kernel) (by decide +kernel)), ck_mv130.1, ck_mv130.2⟩) ck_nil)))))))))))))))))))))))))
set_option maxRecDepth 100000 in
theorem ck_tY13 : ∀ q ∈ ck_T13.2.2.2.2.2.2.2.2, ck_okY ck_TS "ScratchLadderModel" q := (ck_cons ⟨fun h => absurd h (by decide), fun _ => ⟨(ck_mem 1298 (by decide +kernel) (by decide +kernel)), (ck_mem 150 (by decide +kernel) (by decide +kernel)), ck_mem 151 rfl (by decide +kernel)⟩, fun h => absurd h (by decide)⟩ (ck_cons ⟨fun h => absurd h (by decide), fun h => absurd h (by decide), fun h => absurd h (by decide)⟩ (ck_cons ⟨fun h => absurd h (by decide), fun h => absurd h (by decide), fun h => absurd h (by decide)⟩ (ck_cons ⟨fun h => absurd h (by decide), fun h => absurd h (by decide), fun h => absurd h (by decide)⟩ (ck_cons ⟨fun h => absurd h (by decide), fun h => absurd h (by decide), fun h => absurd h (by decide)⟩ (ck_cons ⟨fun h => absurd h (by decide), fun h => absurd h (by decide), fun h => absurd h (by decide)⟩ (ck_cons ⟨fun h => absurd h (by decide), fun h => absurd h (by decide), fun h => absurd h (by decide)⟩ (ck_cons ⟨fun h => absurd h (by decide), fun h => absurd h (by decide), fun h => absurd h (by decide)⟩ (ck_cons ⟨fun h => absurd h (by decide), fun h => absurd h (by decide), fun h => absurd h (by decide)⟩ (ck_cons ⟨fun h => absurd h (by decide), fun h => absurd h (by decide), fun h => absurd h (by decide)⟩ (ck_cons ⟨fun h => absurd h (by decide), fun h => absurd h (by decide), fun h => absurd h (by decide)⟩ (ck_cons ⟨fun h => absurd h (by decide), fun h => absurd h (by decide), fun h => absurd h (by decide)⟩ (ck_cons ⟨fun h => absurd h (by decide), fun h => absurd h (by decide), fun h => absurd h (by decide)⟩ (ck_cons ⟨fun h => absurd h (by decide), fun h => absurd h (by decide), fun h => absurd h (by decide)⟩ (ck_cons ⟨fun h => absurd h (by decide), fun h => absurd h (by decide), fun h => absurd h (by decide)⟩ (ck_cons ⟨fun h => absurd h (by decide), fun h => absurd h (by decide), fun h => absurd h (by decide)⟩ (ck_cons ⟨fun h => absurd h (by decide), fun h => absurd h (by decide), fun h => absurd h (by decide)⟩ (ck_cons ⟨fun h => absurd h (by decide), fun h => absurd h (by decide), fun h => absurd h (by decide)⟩ (ck_cons ⟨fun h => absurd h (by decide), fun h => absurd h (by decide), fun h => absurd h (by decide)⟩ (ck_cons ⟨fun h => absurd h (by decide), fun h => absurd h (by decide), fun h => absurd h (by decide)⟩ (ck_cons ⟨fun h => absurd h (by decide), fun h => absurd h (by decide), fun h => absurd h (by decide)⟩ (ck_cons ⟨fun h => absurd h (by decide), fun h => absurd h (by decide), fun h => absurd h (by decide)⟩ (ck_cons ⟨fun h => absurd h (by decide), fun h => absurd h (by decide), fun h => absurd h (by decide)⟩ (ck_cons ⟨fun h => absurd h (by decide), fun h => absurd h (by decide), fun h => absurd h (by decide)⟩ (ck_cons ⟨fun h => absurd h (by decide), fun h => absurd h (by decide), fun h => absurd h (by decide)⟩ ck_nil)))))))))))))))))))))))))
theorem ck_okT13 : ck_okT vwCl ck_TS ck_NM ck_AO ck_SL ck_mts "ScratchLadderModel" ck_T13 := ⟨ck_tF13, ck_tN13, ck_okDt, ck_okAt, ck_tA13, ck_tK13, ck_tS13, ck_tM13, ck_tY13⟩
def ck_T14 : ck_T := ([], [], ck_dt, ck_ats, [], ck_tr, [(265, 1431655765), (266, 858993459), (267, 252645135)], [], [])
set_option maxRecDepth 100000 in
theorem ck_tF14 : ∀ q ∈ ck_T14.1, ck_okF vwCl ck_TS "java/lang/Integer" q := ck_nil
set_option maxRecDepth 100000 in
theorem ck_tN14 : ∀ q ∈ ck_T14.2.1, ck_okN vwCl ck_TS "java/lang/Integer" q := ck_nil
set_option maxRecDepth 100000 in
theorem ck_tA14 : ∀ q ∈ ck_T14.2.2.2.2.1, ck_okA ck_TS ck_AO "java/lang/Integer" q := ck_nil
set_option maxRecDepth 100000 in
theorem ck_tK14 : ∀ q ∈ ck_T14.2.2.2.2.2.2.1, Cond.constant "java/lang/Integer" q.1 (Int32.ofInt q.2) ∈ ck_TS := (ck_cons (ck_mem 989 (by decide +kernel) (by decide +kernel)) (ck_cons (ck_mem 990 (by decide +kernel) (by decide +kernel)) (ck_cons (ck_mem 991 (by decide +kernel) (by decide +kernel)) ck_nil)))
set_option maxRecDepth 100000 in
theorem ck_tS14 : ∀ q ∈ ck_T14.2.2.2.2.2.2.2.1, (("java/lang/Integer", q.1, q.2) : String × Nat × Nat) ∈ ck_SL := ck_nil
set_option maxRecDepth 100000 in
theorem ck_tM14 : ∀ q ∈ ck_T14.2.2.2.2.2.2.2.2, q.2.1 < 6 → ck_okL ck_TS ck_NM ck_mts "java/lang/Integer" q := ck_nil
set_option maxRecDepth 100000 in
theorem ck_tY14 : ∀ q ∈ ck_T14.2.2.2.2.2.2.2.2, ck_okY ck_TS "java/lang/Integer" q := ck_nil
theorem ck_okT14 : ck_okT vwCl ck_TS ck_NM ck_AO ck_SL ck_mts "java/lang/Integer" ck_T14 := ⟨ck_tF14, ck_tN14, ck_okDt, ck_okAt, ck_tA14, ck_tK14, ck_tS14, ck_tM14, ck_tY14⟩
def ck_T15 : ck_T := ([], [], ck_dt, ck_ats, [], ck_tr, [], [], [(13, 1, 94)])
set_option maxRecDepth 100000 in
theorem ck_tF15 : ∀ q ∈ ck_T15.1, ck_okF vwCl ck_TS "java/util/Arrays" q := ck_nil
set_option maxRecDepth 100000 in
theorem ck_tN15 : ∀ q ∈ ck_T15.2.1, ck_okN vwCl ck_TS "java/util/Arrays" q := ck_nil
set_option maxRecDepth 100000 in
theorem ck_tA15 : ∀ q ∈ ck_T15.2.2.2.2.1, ck_okA ck_TS ck_AO "java/util/Arrays" q := ck_nil
set_option maxRecDepth 100000 in
theorem ck_tK15 : ∀ q ∈ ck_T15.2.2.2.2.2.2.1, Cond.constant "java/util/Arrays" q.1 (Int32.ofInt q.2) ∈ ck_TS := ck_nil
set_option maxRecDepth 100000 in
theorem ck_tS15 : ∀ q ∈ ck_T15.2.2.2.2.2.2.2.1, (("java/util/Arrays", q.1, q.2) : String × Nat × Nat) ∈ ck_SL := ck_nil
set_option maxRecDepth 100000 in
theorem ck_tM15 : ∀ q ∈ ck_T15.2.2.2.2.2.2.2.2, q.2.1 < 6 → ck_okL ck_TS ck_NM ck_mts "java/util/Arrays" q := (ck_cons (fun _ => ⟨ck_m94, rfl, ck_mw94.1, ck_mw94.2.1, ck_mw94.2.2.1, ck_mw94.2.2.2, (ck_mem 959 (by decide +kernel) (by decide +kernel)), ck_mst94⟩) ck_nil)
set_option maxRecDepth 100000 in
theorem ck_tY15 : ∀ q ∈ ck_T15.2.2.2.2.2.2.2.2, ck_okY ck_TS "java/util/Arrays" q := (ck_cons ⟨fun h => absurd h (by decide), fun h => absurd h (by decide), fun h => absurd h (by decide)⟩ ck_nil)
theorem ck_okT15 : ck_okT vwCl ck_TS ck_NM ck_AO ck_SL ck_mts "java/util/Arrays" ck_T15 := ⟨ck_tF15, ck_tN15, ck_okDt, ck_okAt, ck_tA15, ck_tK15, ck_tS15, ck_tM15, ck_tY15⟩
theorem ck_own {own : String} {co : ck_C} {T : ck_T} {M0 : ck_MT} (h0 : ck_mts[co.1]? = some M0) (hc : M0.1.cls = own) (hT : ck_okT vwCl ck_TS ck_NM ck_AO ck_SL ck_mts own T) : ∀ M, ck_mts[co.1]? = some M → ck_okT vwCl ck_TS ck_NM ck_AO ck_SL ck_mts M.1.cls T := fun M hM => by
  have e : M = M0 := Option.some.inj (hM.symm.trans h0)
  rw [e, hc]; exact hT
abbrev ck_Mt (l : Launch) (D : va_G) (st : Nat → Nat) (co : ck_C) : Prop := ck_Met l ck_TS ck_mts D vwCl ck_NM ck_AO ck_SL st ck_sh co
end
section
/-- SL$Text.init -/
def ck_c0 : ck_C := (3, 14, [.inr (0, 11), .inr (0, 12), .inr (0, 13)], [], [(11, 1), (11, 2)], [(none, [], [((11, 1), .inr (0, 12)), ((11, 2), .inr (0, 13))], 14)], 1, 12, 0, 0)
def ck_h0 : List ck_Hd := []
set_option maxRecDepth 100000 in
theorem ck_k0 (l : Launch) (D : va_G) (st : Nat → Nat) : ck_Mt l D st ck_c0 := ck_sound (T := ck_T10) (cs := []) (hs := ck_h0) (sp := []) (fuel := 33) l ck_TSgood ck_okCl (ck_own (M0 := ck_m3) rfl rfl ck_okT10) ck_nil (by decide +kernel)
/-- SL$Bench.init -/
def ck_c1 : ck_C := (2, 2, [.inr (0, 1)], [], [(1, 1), (1, 2), (1, 3), (1, 4), (1, 5), (1, 6), (1, 7), (1, 8), (1, 9), (1, 10), (1, 11), (1, 12), (1, 13), (1, 14), (1, 15), (1, 16), (1, 17), (1, 18), (1, 19), (11, 1), (11, 2)], [(none, [], [((1, 1), .inl (0, 0)), ((1, 2), .inr (0, 2)), ((1, 3), .inr (0, 3)), ((1, 4), .inr (0, 4)), ((1, 5), .inr (0, 5)), ((1, 6), .inr (0, 6)), ((1, 7), .inr (0, 7)), ((1, 8), .inr (0, 8)), ((1, 9), .inr (0, 9)), ((1, 10), .inl (0, 0)), ((1, 11), .inl ((-1), (-1))), ((1, 12), .inl (0, 0)), ((1, 13), .inr (0, 10)), ((1, 14), .inr (0, 11)), ((1, 15), .inl (0, 0)), ((1, 16), .inr (0, 14)), ((1, 17), .inl (7, 7)), ((1, 18), .inl (15, 15)), ((1, 19), .inl (15, 15)), ((2, 0), .inl (0, 0)), ((3, 0), .inl (0, 0)), ((4, 0), .inl (0, 0)), ((5, 0), .inl (0, 0)), ((6, 0), .inl (0, 0)), ((7, 0), .inl (0, 0)), ((8, 0), .inl (0, 0)), ((9, 0), .inl (0, 0)), ((10, 0), .inr (1, 0)), ((11, 1), .inr (0, 12)), ((11, 2), .inr (0, 13)), ((12, 0), .inl (0, 0)), ((13, 0), .inl (0, 0)), ((14, 0), .inl (0, 0))], 15)], 2, 34, 13, 1304)
def ck_h1 : List ck_Hd := []
set_option maxRecDepth 100000 in
theorem ck_k1 (l : Launch) (D : va_G) (st : Nat → Nat) : ck_Mt l D st ck_c1 := ck_sound (T := ck_T1) (cs := [ck_c0]) (hs := ck_h1) (sp := []) (fuel := 100) l ck_TSgood ck_okCl (ck_own (M0 := ck_m2) rfl rfl ck_okT1) (ck_cons (ck_k0 l D st) ck_nil) (by decide +kernel)
/-- SL$Text.init -/
def ck_c2 : ck_C := (3, 29, [.inr (0, 26), .inr (0, 27), .inr (0, 28)], [], [(26, 1), (26, 2)], [(none, [], [((26, 1), .inr (0, 27)), ((26, 2), .inr (0, 28))], 29)], 1, 12, 0, 0)
def ck_h2 : List ck_Hd := []
set_option maxRecDepth 100000 in
theorem ck_k2 (l : Launch) (D : va_G) (st : Nat → Nat) : ck_Mt l D st ck_c2 := ck_sound (T := ck_T10) (cs := []) (hs := ck_h2) (sp := []) (fuel := 33) l ck_TSgood ck_okCl (ck_own (M0 := ck_m3) rfl rfl ck_okT10) ck_nil (by decide +kernel)
/-- SL$Bench.init -/
def ck_c3 : ck_C := (2, 17, [.inr (0, 16)], [], [(16, 1), (16, 2), (16, 3), (16, 4), (16, 5), (16, 6), (16, 7), (16, 8), (16, 9), (16, 10), (16, 11), (16, 12), (16, 13), (16, 14), (16, 15), (16, 16), (16, 17), (16, 18), (16, 19), (26, 1), (26, 2)], [(none, [], [((16, 1), .inl (0, 0)), ((16, 2), .inr (0, 17)), ((16, 3), .inr (0, 18)), ((16, 4), .inr (0, 19)), ((16, 5), .inr (0, 20)), ((16, 6), .inr (0, 21)), ((16, 7), .inr (0, 22)), ((16, 8), .inr (0, 23)), ((16, 9), .inr (0, 24)), ((16, 10), .inl (0, 0)), ((16, 11), .inl ((-1), (-1))), ((16, 12), .inl (0, 0)), ((16, 13), .inr (0, 25)), ((16, 14), .inr (0, 26)), ((16, 15), .inl (0, 0)), ((16, 16), .inr (0, 29)), ((16, 17), .inl (7, 7)), ((16, 18), .inl (15, 15)), ((16, 19), .inl (15, 15)), ((17, 0), .inl (0, 0)), ((18, 0), .inl (0, 0)), ((19, 0), .inl (0, 0)), ((20, 0), .inl (0, 0)), ((21, 0), .inl (0, 0)), ((22, 0), .inl (0, 0)), ((23, 0), .inl (0, 0)), ((24, 0), .inl (0, 0)), ((25, 0), .inr (1, 0)), ((26, 1), .inr (0, 27)), ((26, 2), .inr (0, 28)), ((27, 0), .inl (0, 0)), ((28, 0), .inl (0, 0)), ((29, 0), .inl (0, 0))], 30)], 2, 34, 13, 1304)
def ck_h3 : List ck_Hd := []
set_option maxRecDepth 100000 in
theorem ck_k3 (l : Launch) (D : va_G) (st : Nat → Nat) : ck_Mt l D st ck_c3 := ck_sound (T := ck_T1) (cs := [ck_c2]) (hs := ck_h3) (sp := []) (fuel := 100) l ck_TSgood ck_okCl (ck_own (M0 := ck_m2) rfl rfl ck_okT1) (ck_cons (ck_k2 l D st) ck_nil) (by decide +kernel)
/-- SL$Text.init -/
def ck_c4 : ck_C := (3, 43, [.inr (0, 40), .inr (0, 41), .inr (0, 42)], [], [(40, 1), (40, 2)], [(none, [], [((40, 1), .inr (0, 41)), ((40, 2), .inr (0, 42))], 43)], 1, 12, 0, 0)
def ck_h4 : List ck_Hd := []
set_option maxRecDepth 100000 in
theorem ck_k4 (l : Launch) (D : va_G) (st : Nat → Nat) : ck_Mt l D st ck_c4 := ck_sound (T := ck_T10) (cs := []) (hs := ck_h4) (sp := []) (fuel := 33) l ck_TSgood ck_okCl (ck_own (M0 := ck_m3) rfl rfl ck_okT10) ck_nil (by decide +kernel)
/-- SL$Bench.init -/
def ck_c5 : ck_C := (2, 31, [.inr (0, 30)], [], [(30, 1), (30, 2), (30, 3), (30, 4), (30, 5), (30, 6), (30, 7), (30, 8), (30, 9), (30, 10), (30, 11), (30, 12), (30, 13), (30, 14), (30, 15), (30, 16), (30, 17), (30, 18), (30, 19), (40, 1), (40, 2)], [(none, [], [((30, 1), .inl (0, 0)), ((30, 2), .inr (0, 31)), ((30, 3), .inr (0, 32)), ((30, 4), .inr (0, 33)), ((30, 5), .inr (0, 34)), ((30, 6), .inr (0, 35)), ((30, 7), .inr (0, 36)), ((30, 8), .inr (0, 37)), ((30, 9), .inr (0, 38)), ((30, 10), .inl (0, 0)), ((30, 11), .inl ((-1), (-1))), ((30, 12), .inl (0, 0)), ((30, 13), .inr (0, 39)), ((30, 14), .inr (0, 40)), ((30, 15), .inl (0, 0)), ((30, 16), .inr (0, 43)), ((30, 17), .inl (7, 7)), ((30, 18), .inl (15, 15)), ((30, 19), .inl (15, 15)), ((31, 0), .inl (0, 0)), ((32, 0), .inl (0, 0)), ((33, 0), .inl (0, 0)), ((34, 0), .inl (0, 0)), ((35, 0), .inl (0, 0)), ((36, 0), .inl (0, 0)), ((37, 0), .inl (0, 0)), ((38, 0), .inl (0, 0)), ((39, 0), .inr (1, 0)), ((40, 1), .inr (0, 41)), ((40, 2), .inr (0, 42)), ((41, 0), .inl (0, 0)), ((42, 0), .inl (0, 0)), ((43, 0), .inl (0, 0))], 44)], 2, 34, 13, 1304)
def ck_h5 : List ck_Hd := []
set_option maxRecDepth 100000 in
theorem ck_k5 (l : Launch) (D : va_G) (st : Nat → Nat) : ck_Mt l D st ck_c5 := ck_sound (T := ck_T1) (cs := [ck_c4]) (hs := ck_h5) (sp := []) (fuel := 100) l ck_TSgood ck_okCl (ck_own (M0 := ck_m2) rfl rfl ck_okT1) (ck_cons (ck_k4 l D st) ck_nil) (by decide +kernel)
/-- SL$Tape.init -/
def ck_c6 : ck_C := (4, 46, [.inr (0, 45)], [], [(45, 1), (45, 2)], [(none, [], [((45, 1), .inr (0, 46)), ((45, 2), .inl (0, 0)), ((46, 0), .inl (0, 0))], 47)], 1, 12, 1, 400)
def ck_h6 : List ck_Hd := []
set_option maxRecDepth 100000 in
theorem ck_k6 (l : Launch) (D : va_G) (st : Nat → Nat) : ck_Mt l D st ck_c6 := ck_sound (T := ck_T9) (cs := []) (hs := ck_h6) (sp := []) (fuel := 34) l ck_TSgood ck_okCl (ck_own (M0 := ck_m4) rfl rfl ck_okT9) ck_nil (by decide +kernel)
/-- SL$Reader.init -/
def ck_c7 : ck_C := (5, 48, [.inr (0, 47), .inr (0, 45)], [], [(47, 1), (47, 2), (47, 4)], [(none, [], [((47, 1), .inr (0, 45)), ((47, 2), .inr (0, 48)), ((47, 4), .inr (0, 49)), ((48, 0), .inl (0, 0)), ((49, 0), .inl (0, 0))], 50)], 1, 12, 2, 848)
def ck_h7 : List ck_Hd := []
set_option maxRecDepth 100000 in
theorem ck_k7 (l : Launch) (D : va_G) (st : Nat → Nat) : ck_Mt l D st ck_c7 := ck_sound (T := ck_T6) (cs := []) (hs := ck_h7) (sp := []) (fuel := 38) l ck_TSgood ck_okCl (ck_own (M0 := ck_m5) rfl rfl ck_okT6) ck_nil (by decide +kernel)
/-- SL$Question.init -/
def ck_c8 : ck_C := (6, 51, [.inr (0, 50), .inr (0, 1)], [], [(50, 1), (50, 2), (50, 3)], [(none, [], [((50, 1), .inr (0, 1)), ((50, 2), .inr (0, 51)), ((50, 3), .inr (0, 52)), ((52, 0), .inl (0, 0))], 53)], 1, 12, 2, 59)
def ck_h8 : List ck_Hd := []
set_option maxRecDepth 100000 in
theorem ck_k8 (l : Launch) (D : va_G) (st : Nat → Nat) : ck_Mt l D st ck_c8 := ck_sound (T := ck_T5) (cs := []) (hs := ck_h8) (sp := []) (fuel := 38) l ck_TSgood ck_okCl (ck_own (M0 := ck_m6) rfl rfl ck_okT5) ck_nil (by decide +kernel)
/-- SL$Ties.init -/
def ck_c9 : ck_C := (7, 54, [.inr (0, 53), .inr (0, 1)], [], [(53, 1), (53, 2), (53, 3), (53, 4), (53, 5), (53, 6)], [(none, [], [((53, 1), .inr (0, 1)), ((53, 2), .inr (0, 54)), ((53, 3), .inr (0, 55)), ((53, 4), .inr (0, 56)), ((53, 5), .inr (0, 57)), ((53, 6), .inr (0, 58)), ((54, 0), .inl (0, 0)), ((55, 0), .inl (0, 0)), ((56, 0), .inl (0, 0)), ((57, 0), .inl (0, 0)), ((58, 0), .inl (0, 0))], 59)], 1, 12, 5, 192)
def ck_h9 : List ck_Hd := []
set_option maxRecDepth 100000 in
theorem ck_k9 (l : Launch) (D : va_G) (st : Nat → Nat) : ck_Mt l D st ck_c9 := ck_sound (T := ck_T11) (cs := []) (hs := ck_h9) (sp := []) (fuel := 50) l ck_TSgood ck_okCl (ck_own (M0 := ck_m7) rfl rfl ck_okT11) ck_nil (by decide +kernel)
/-- java/util/Arrays.fill -/
def ck_c10 : ck_C := (9, 65, [.inr (0, 64), .inl ((-1), (-1))], [((64, 0), .inl (0, 0))], [(64, 0)], [(none, [((-1), (-1))], [((64, 0), .inl ((-1), 0))], 65)], 0, 0, 0, 0)
def ck_h10 : List ck_Hd := [(5, ([((-1), (-1), 0, (0, 0, 0)), (0, 12, 0, (0, 0, 0))], [(3, .inl (0, 0, 12)), (2, .inl (1, 1, 0)), (0, .inr (0, 64)), (1, .inl (0, 1, 0))], [], [((64, 0), .inl ((-1), 0))], 65, 0, 0), 1, 0)]
set_option maxRecDepth 100000 in
theorem ck_k10 (l : Launch) (D : va_G) (st : Nat → Nat) : ck_Mt l D st ck_c10 := ck_sound (T := ck_T15) (cs := []) (hs := ck_h10) (sp := []) (fuel := 39) l ck_TSgood ck_okCl (ck_own (M0 := ck_m9) rfl rfl ck_okT15) ck_nil (by decide +kernel)
/-- SL$Orders.init -/
def ck_c11 : ck_C := (8, 60, [.inr (0, 59), .inr (0, 1)], [((59, 7), .inr (1, 0))], [(59, 1), (59, 2), (59, 3), (59, 4), (59, 5), (59, 6), (59, 7), (64, 0)], [(none, [], [((59, 1), .inr (0, 1)), ((59, 2), .inr (0, 60)), ((59, 3), .inr (0, 61)), ((59, 4), .inr (0, 62)), ((59, 5), .inl (0, 0)), ((59, 6), .inr (0, 63)), ((59, 7), .inr (0, 64)), ((60, 0), .inl (0, 0)), ((60, 1), .inl (0, 0)), ((61, 0), .inl (0, 0)), ((62, 0), .inl (0, 0)), ((63, 0), .inl (0, 0)), ((64, 0), .inl ((-1), 0))], 65)], 1, 23, 5, 5656)
def ck_h11 : List ck_Hd := []
set_option maxRecDepth 100000 in
theorem ck_k11 (l : Launch) (D : va_G) (st : Nat → Nat) : ck_Mt l D st ck_c11 := ck_sound (T := ck_T4) (cs := [ck_c10]) (hs := ck_h11) (sp := []) (fuel := 57) l ck_TSgood ck_okCl (ck_own (M0 := ck_m8) rfl rfl ck_okT4) (ck_cons (ck_k10 l D st) ck_nil) (by decide +kernel)
/-- SL$Lineup.init -/
def ck_c12 : ck_C := (10, 66, [.inr (0, 65), .inr (0, 1), .inr (0, 50)], [], [(65, 1), (65, 2), (65, 3), (65, 4), (65, 5), (65, 6)], [(none, [], [((65, 1), .inr (0, 1)), ((65, 2), .inr (0, 50)), ((65, 3), .inr (0, 66)), ((65, 4), .inr (0, 67)), ((65, 5), .inr (0, 68)), ((65, 6), .inr (0, 69)), ((66, 0), .inl (0, 0)), ((67, 0), .inl (0, 0)), ((68, 0), .inl (0, 0)), ((69, 0), .inl (0, 0))], 70)], 1, 12, 4, 48)
def ck_h12 : List ck_Hd := []
set_option maxRecDepth 100000 in
theorem ck_k12 (l : Launch) (D : va_G) (st : Nat → Nat) : ck_Mt l D st ck_c12 := ck_sound (T := ck_T2) (cs := []) (hs := ck_h12) (sp := []) (fuel := 49) l ck_TSgood ck_okCl (ck_own (M0 := ck_m10) rfl rfl ck_okT2) ck_nil (by decide +kernel)
/-- SL$Rungs.init -/
def ck_c13 : ck_C := (11, 71, [.inr (0, 70), .inr (0, 1), .inr (0, 53)], [], [(70, 1), (70, 2)], [(none, [], [((70, 1), .inr (0, 1)), ((70, 2), .inr (0, 53))], 71)], 1, 12, 0, 0)
def ck_h13 : List ck_Hd := []
set_option maxRecDepth 100000 in
theorem ck_k13 (l : Launch) (D : va_G) (st : Nat → Nat) : ck_Mt l D st ck_c13 := ck_sound (T := ck_T7) (cs := []) (hs := ck_h13) (sp := []) (fuel := 33) l ck_TSgood ck_okCl (ck_own (M0 := ck_m11) rfl rfl ck_okT7) ck_nil (by decide +kernel)
/-- SL$Sorter.init -/
def ck_c14 : ck_C := (12, 72, [.inr (0, 71)], [], [(71, 1), (71, 2), (71, 3), (71, 4), (71, 5)], [(none, [], [((71, 1), .inr (0, 72)), ((71, 2), .inr (0, 73)), ((71, 3), .inl (0, 0)), ((71, 4), .inl (0, 0)), ((71, 5), .inl ((-1), (-1))), ((72, 0), .inl (0, 0)), ((73, 0), .inl (0, 0))], 74)], 1, 12, 2, 37)
def ck_h14 : List ck_Hd := []
set_option maxRecDepth 100000 in
theorem ck_k14 (l : Launch) (D : va_G) (st : Nat → Nat) : ck_Mt l D st ck_c14 := ck_sound (T := ck_T8) (cs := []) (hs := ck_h14) (sp := []) (fuel := 44) l ck_TSgood ck_okCl (ck_own (M0 := ck_m12) rfl rfl ck_okT8) ck_nil (by decide +kernel)
/-- SL$Naming.init -/
def ck_c15 : ck_C := (13, 75, [.inr (0, 74), .inr (0, 1), .inr (0, 53)], [], [(74, 1), (74, 2), (74, 3)], [(none, [], [((74, 1), .inr (0, 1)), ((74, 2), .inr (0, 53)), ((74, 3), .inr (0, 75)), ((75, 0), .inl (0, 0))], 76)], 1, 12, 1, 256)
def ck_h15 : List ck_Hd := []
set_option maxRecDepth 100000 in
theorem ck_k15 (l : Launch) (D : va_G) (st : Nat → Nat) : ck_Mt l D st ck_c15 := ck_sound (T := ck_T3) (cs := []) (hs := ck_h15) (sp := []) (fuel := 37) l ck_TSgood ck_okCl (ck_own (M0 := ck_m13) rfl rfl ck_okT3) ck_nil (by decide +kernel)
/-- SL.init -/
def ck_c16 : ck_C := (1, 1, [.inr (0, 0)], [((0, 1), .inr (1, 0)), ((0, 4), .inr (1, 0)), ((0, 6), .inr (1, 0)), ((0, 7), .inr (1, 0))], [(0, 1), (0, 2), (0, 3), (0, 4), (0, 5), (0, 6), (0, 7), (0, 8), (0, 9), (0, 10), (0, 11), (0, 12), (0, 13), (0, 14), (0, 15), (1, 1), (1, 2), (1, 3), (1, 4), (1, 5), (1, 6), (1, 7), (1, 8), (1, 9), (1, 10), (1, 11), (1, 12), (1, 13), (1, 14), (1, 15), (1, 16), (1, 17), (1, 18), (1, 19), (11, 1), (11, 2), (15, 0), (16, 1), (16, 2), (16, 3), (16, 4), (16, 5), (16, 6), (16, 7), (16, 8), (16, 9), (16, 10), (16, 11), (16, 12), (16, 13), (16, 14), (16, 15), (16, 16), (16, 17), (16, 18), (16, 19), (26, 1), (26, 2), (30, 1), (30, 2), (30, 3), (30, 4), (30, 5), (30, 6), (30, 7), (30, 8), (30, 9), (30, 10), (30, 11), (30, 12), (30, 13), (30, 14), (30, 15), (30, 16), (30, 17), (30, 18), (30, 19), (40, 1), (40, 2), (45, 1), (45, 2), (47, 1), (47, 2), (47, 4), (50, 1), (50, 2), (50, 3), (53, 1), (53, 2), (53, 3), (53, 4), (53, 5), (53, 6), (59, 1), (59, 2), (59, 3), (59, 4), (59, 5), (59, 6), (59, 7), (64, 0), (65, 1), (65, 2), (65, 3), (65, 4), (65, 5), (65, 6), (70, 1), (70, 2), (71, 1), (71, 2), (71, 3), (71, 4), (71, 5), (74, 1), (74, 2), (74, 3)], [(none, [], [((0, 1), .inr (0, 1)), ((0, 2), .inr (0, 15)), ((0, 3), .inr (0, 44)), ((0, 4), .inr (0, 45)), ((0, 5), .inr (0, 47)), ((0, 6), .inr (0, 50)), ((0, 7), .inr (0, 53)), ((0, 8), .inr (0, 59)), ((0, 9), .inr (0, 65)), ((0, 10), .inr (0, 70)), ((0, 11), .inr (0, 71)), ((0, 12), .inr (0, 74)), ((0, 13), .inr (0, 76)), ((0, 14), .inl ((-1), (-1))), ((0, 15), .inl (0, 0)), ((1, 1), .inl (0, 0)), ((1, 2), .inr (0, 2)), ((1, 3), .inr (0, 3)), ((1, 4), .inr (0, 4)), ((1, 5), .inr (0, 5)), ((1, 6), .inr (0, 6)), ((1, 7), .inr (0, 7)), ((1, 8), .inr (0, 8)), ((1, 9), .inr (0, 9)), ((1, 10), .inl (0, 0)), ((1, 11), .inl ((-1), (-1))), ((1, 12), .inl (0, 0)), ((1, 13), .inr (0, 10)), ((1, 14), .inr (0, 11)), ((1, 15), .inl (0, 0)), ((1, 16), .inr (0, 14)), ((1, 17), .inl (7, 7)), ((1, 18), .inl (15, 15)), ((1, 19), .inl (15, 15)), ((2, 0), .inl (0, 0)), ((3, 0), .inl (0, 0)), ((4, 0), .inl (0, 0)), ((5, 0), .inl (0, 0)), ((6, 0), .inl (0, 0)), ((7, 0), .inl (0, 0)), ((8, 0), .inl (0, 0)), ((9, 0), .inl (0, 0)), ((10, 0), .inr (1, 0)), ((11, 1), .inr (0, 12)), ((11, 2), .inr (0, 13)), ((12, 0), .inl (0, 0)), ((13, 0), .inl (0, 0)), ((14, 0), .inl (0, 0)), ((15, 1), .inr (0, 16)), ((15, 2), .inr (0, 30)), ((16, 1), .inl (0, 0)), ((16, 2), .inr (0, 17)), ((16, 3), .inr (0, 18)), ((16, 4), .inr (0, 19)), ((16, 5), .inr (0, 20)), ((16, 6), .inr (0, 21)), ((16, 7), .inr (0, 22)), ((16, 8), .inr (0, 23)), ((16, 9), .inr (0, 24)), ((16, 10), .inl (0, 0)), ((16, 11), .inl ((-1), (-1))), ((16, 12), .inl (0, 0)), ((16, 13), .inr (0, 25)), ((16, 14), .inr (0, 26)), ((16, 15), .inl (0, 0)), ((16, 16), .inr (0, 29)), ((16, 17), .inl (7, 7)), ((16, 18), .inl (15, 15)), ((16, 19), .inl (15, 15)), ((17, 0), .inl (0, 0)), ((18, 0), .inl (0, 0)), ((19, 0), .inl (0, 0)), ((20, 0), .inl (0, 0)), ((21, 0), .inl (0, 0)), ((22, 0), .inl (0, 0)), ((23, 0), .inl (0, 0)), ((24, 0), .inl (0, 0)), ((25, 0), .inr (1, 0)), ((26, 1), .inr (0, 27)), ((26, 2), .inr (0, 28)), ((27, 0), .inl (0, 0)), ((28, 0), .inl (0, 0)), ((29, 0), .inl (0, 0)), ((30, 1), .inl (0, 0)), ((30, 2), .inr (0, 31)), ((30, 3), .inr (0, 32)), ((30, 4), .inr (0, 33)), ((30, 5), .inr (0, 34)), ((30, 6), .inr (0, 35)), ((30, 7), .inr (0, 36)), ((30, 8), .inr (0, 37)), ((30, 9), .inr (0, 38)), ((30, 10), .inl (0, 0)), ((30, 11), .inl ((-1), (-1))), ((30, 12), .inl (0, 0)), ((30, 13), .inr (0, 39)), ((30, 14), .inr (0, 40)), ((30, 15), .inl (0, 0)), ((30, 16), .inr (0, 43)), ((30, 17), .inl (7, 7)), ((30, 18), .inl (15, 15)), ((30, 19), .inl (15, 15)), ((31, 0), .inl (0, 0)), ((32, 0), .inl (0, 0)), ((33, 0), .inl (0, 0)), ((34, 0), .inl (0, 0)), ((35, 0), .inl (0, 0)), ((36, 0), .inl (0, 0)), ((37, 0), .inl (0, 0)), ((38, 0), .inl (0, 0)), ((39, 0), .inr (1, 0)), ((40, 1), .inr (0, 41)), ((40, 2), .inr (0, 42)), ((41, 0), .inl (0, 0)), ((42, 0), .inl (0, 0)), ((43, 0), .inl (0, 0)), ((44, 0), .inl (0, 0)), ((45, 1), .inr (0, 46)), ((45, 2), .inl (0, 0)), ((46, 0), .inl (0, 0)), ((47, 1), .inr (0, 45)), ((47, 2), .inr (0, 48)), ((47, 3), .inl (0, 0)), ((47, 4), .inr (0, 49)), ((47, 5), .inl (0, 0)), ((47, 6), .inl (0, 0)), ((47, 7), .inl (0, 0)), ((47, 8), .inl (0, 0)), ((47, 9), .inl (0, 0)), ((47, 10), .inl (0, 0)), ((47, 11), .inl (0, 0)), ((48, 0), .inl (0, 0)), ((49, 0), .inl (0, 0)), ((50, 1), .inr (0, 1)), ((50, 2), .inr (0, 51)), ((50, 3), .inr (0, 52)), ((52, 0), .inl (0, 0)), ((53, 1), .inr (0, 1)), ((53, 2), .inr (0, 54)), ((53, 3), .inr (0, 55)), ((53, 4), .inr (0, 56)), ((53, 5), .inr (0, 57)), ((53, 6), .inr (0, 58)), ((54, 0), .inl (0, 0)), ((55, 0), .inl (0, 0)), ((56, 0), .inl (0, 0)), ((57, 0), .inl (0, 0)), ((58, 0), .inl (0, 0)), ((59, 1), .inr (0, 1)), ((59, 2), .inr (0, 60)), ((59, 3), .inr (0, 61)), ((59, 4), .inr (0, 62)), ((59, 5), .inl (0, 0)), ((59, 6), .inr (0, 63)), ((59, 7), .inr (0, 64)), ((60, 0), .inl (0, 0)), ((60, 1), .inl (0, 0)), ((61, 0), .inl (0, 0)), ((62, 0), .inl (0, 0)), ((63, 0), .inl (0, 0)), ((64, 0), .inl ((-1), 0)), ((65, 1), .inr (0, 1)), ((65, 2), .inr (0, 50)), ((65, 3), .inr (0, 66)), ((65, 4), .inr (0, 67)), ((65, 5), .inr (0, 68)), ((65, 6), .inr (0, 69)), ((66, 0), .inl (0, 0)), ((67, 0), .inl (0, 0)), ((68, 0), .inl (0, 0)), ((69, 0), .inl (0, 0)), ((70, 1), .inr (0, 1)), ((70, 2), .inr (0, 53)), ((71, 1), .inr (0, 72)), ((71, 2), .inr (0, 73)), ((71, 3), .inl (0, 0)), ((71, 4), .inl (0, 0)), ((71, 5), .inl ((-1), (-1))), ((72, 0), .inl (0, 0)), ((73, 0), .inl (0, 0)), ((74, 1), .inr (0, 1)), ((74, 2), .inr (0, 53)), ((74, 3), .inr (0, 75)), ((75, 0), .inl (0, 0)), ((76, 0), .inl (0, 0))], 77)], 3, 54, 76, 11523)
def ck_h16 : List ck_Hd := []
set_option maxRecDepth 100000 in
theorem ck_k16 (l : Launch) (D : va_G) (st : Nat → Nat) : ck_Mt l D st ck_c16 := ck_sound (T := ck_T0) (cs := [ck_c1, ck_c3, ck_c5, ck_c6, ck_c7, ck_c8, ck_c9, ck_c11, ck_c12, ck_c13, ck_c14, ck_c15]) (hs := ck_h16) (sp := []) (fuel := 127) l ck_TSgood ck_okCl (ck_own (M0 := ck_m1) rfl rfl ck_okT0) (ck_cons (ck_k1 l D st) (ck_cons (ck_k3 l D st) (ck_cons (ck_k5 l D st) (ck_cons (ck_k6 l D st) (ck_cons (ck_k7 l D st) (ck_cons (ck_k8 l D st) (ck_cons (ck_k9 l D st) (ck_cons (ck_k11 l D st) (ck_cons (ck_k12 l D st) (ck_cons (ck_k13 l D st) (ck_cons (ck_k14 l D st) (ck_cons (ck_k15 l D st) ck_nil)))))))))))) (by decide +kernel)
/-- SLModel.init -/
def ck_c17 : ck_C := (14, 78, [.inr (0, 77)], [((77, 2), .inr (1, 0))], [(77, 2), (77, 3), (77, 4), (77, 5), (77, 6), (77, 7), (77, 9), (77, 10), (77, 11), (77, 12), (77, 20), (77, 25), (77, 26), (77, 27), (77, 28), (77, 29), (77, 30), (77, 31), (77, 32), (77, 36), (77, 37), (77, 38), (77, 39), (77, 40), (77, 41), (78, 0), (81, 0)], [(none, [], [((77, 2), .inr (0, 78)), ((77, 3), .inr (0, 79)), ((77, 4), .inr (0, 80)), ((77, 5), .inr (0, 81)), ((77, 6), .inr (0, 82)), ((77, 7), .inr (0, 83)), ((77, 9), .inl ((-1), (-1))), ((77, 10), .inr (0, 84)), ((77, 11), .inr (0, 85)), ((77, 12), .inr (0, 86)), ((77, 20), .inr (0, 87)), ((77, 25), .inr (0, 88)), ((77, 26), .inr (0, 89)), ((77, 27), .inr (0, 90)), ((77, 28), .inr (0, 91)), ((77, 29), .inr (0, 92)), ((77, 30), .inl ((-1), (-1))), ((77, 31), .inr (0, 93)), ((77, 32), .inr (0, 94)), ((77, 36), .inr (0, 95)), ((77, 37), .inr (0, 96)), ((77, 38), .inr (0, 97)), ((77, 39), .inr (0, 98)), ((77, 40), .inr (0, 99)), ((77, 41), .inr (0, 100)), ((78, 0), .inl ((-1), 15)), ((78, 193), .inl (0, 0)), ((78, 194), .inl (0, 0)), ((78, 195), .inl (0, 0)), ((78, 196), .inl (0, 0)), ((78, 197), .inl (0, 0)), ((78, 198), .inl (0, 0)), ((78, 199), .inl (0, 0)), ((78, 200), .inl (0, 0)), ((78, 201), .inl (0, 0)), ((78, 202), .inl (0, 0)), ((78, 203), .inl (0, 0)), ((78, 204), .inl (0, 0)), ((78, 1293), .inl (0, 0)), ((78, 1294), .inl (0, 0)), ((78, 1295), .inl (0, 0)), ((79, 0), .inl (0, 0)), ((80, 0), .inl (0, 0)), ((81, 0), .inl (0, 121)), ((82, 0), .inl (0, 0)), ((83, 0), .inl (0, 0)), ((84, 0), .inl (0, 0)), ((85, 0), .inl (0, 0)), ((86, 0), .inl (0, 0)), ((87, 0), .inl (0, 0)), ((88, 0), .inl (0, 0)), ((89, 0), .inl (0, 0)), ((90, 0), .inl (0, 0)), ((90, 1), .inl (0, 0)), ((91, 0), .inl (0, 0)), ((91, 1), .inl (0, 0)), ((92, 0), .inl (0, 0)), ((93, 0), .inl (0, 0)), ((94, 0), .inl (0, 0)), ((95, 0), .inl (0, 0)), ((96, 0), .inl (0, 0)), ((97, 0), .inl (0, 0)), ((98, 0), .inl (0, 0)), ((99, 0), .inl (0, 0)), ((100, 0), .inl (0, 0))], 101)], 1, 12, 23, 97889)
def ck_h17 : List ck_Hd := []
set_option maxRecDepth 100000 in
theorem ck_k17 (l : Launch) (D : va_G) (st : Nat → Nat) : ck_Mt l D st ck_c17 := ck_sound (T := ck_T13) (cs := []) (hs := ck_h17) (sp := []) (fuel := 489) l ck_TSgood ck_okCl (ck_own (M0 := ck_m14) rfl rfl ck_okT13) ck_nil (by decide +kernel)
/-- SL.within -/
def ck_c18 : ck_C := (16, 101, [.inl ((-2147483648), 2147483647), .inl (0, 0), .inl (11, 11)], [], [], [(some (.inl (0, 0)), [((-2147483648), (-1)), (0, 0), (11, 11)], [], 101), (some (.inl (0, 0)), [(12, 2147483647), (0, 0), (11, 11)], [], 101), (some (.inl (1, 1)), [(0, 11), (0, 0), (11, 11)], [], 101)], 0, 0, 0, 0)
def ck_h18 : List ck_Hd := []
set_option maxRecDepth 100000 in
theorem ck_k18 (l : Launch) (D : va_G) (st : Nat → Nat) : ck_Mt l D st ck_c18 := ck_sound (T := ck_T0) (cs := []) (hs := ck_h18) (sp := []) (fuel := 33) l ck_TSgood ck_okCl (ck_own (M0 := ck_m16) rfl rfl ck_okT0) ck_nil (by decide +kernel)
/-- SL.refuse -/
def ck_c19 : ck_C := (17, 101, [.inr (0, 0), .inl ((-1), (-1))], [], [(0, 15)], [(some (.inl ((-1), (-1))), [((-1), (-1))], [((0, 15), .inl ((-1), (-1)))], 101)], 0, 0, 0, 0)
def ck_h19 : List ck_Hd := []
set_option maxRecDepth 100000 in
theorem ck_k19 (l : Launch) (D : va_G) (st : Nat → Nat) : ck_Mt l D st ck_c19 := ck_sound (T := ck_T0) (cs := []) (hs := ck_h19) (sp := []) (fuel := 29) l ck_TSgood ck_okCl (ck_own (M0 := ck_m17) rfl rfl ck_okT0) ck_nil (by decide +kernel)
/-- SL.within -/
def ck_c20 : ck_C := (16, 101, [.inl ((-2147483648), 2147483647), .inl (1, 1), .inl (100, 100)], [], [], [(some (.inl (0, 0)), [((-2147483648), 0), (1, 1), (100, 100)], [], 101), (some (.inl (0, 0)), [(101, 2147483647), (1, 1), (100, 100)], [], 101), (some (.inl (1, 1)), [(1, 100), (1, 1), (100, 100)], [], 101)], 0, 0, 0, 0)
def ck_h20 : List ck_Hd := []
set_option maxRecDepth 100000 in
theorem ck_k20 (l : Launch) (D : va_G) (st : Nat → Nat) : ck_Mt l D st ck_c20 := ck_sound (T := ck_T0) (cs := []) (hs := ck_h20) (sp := []) (fuel := 33) l ck_TSgood ck_okCl (ck_own (M0 := ck_m16) rfl rfl ck_okT0) ck_nil (by decide +kernel)
/-- SL.within -/
def ck_c21 : ck_C := (16, 101, [.inl ((-2147483648), 2147483647), .inl (0, 0), .inl (200, 200)], [], [], [(some (.inl (0, 0)), [((-2147483648), (-1)), (0, 0), (200, 200)], [], 101), (some (.inl (0, 0)), [(201, 2147483647), (0, 0), (200, 200)], [], 101), (some (.inl (1, 1)), [(0, 200), (0, 0), (200, 200)], [], 101)], 0, 0, 0, 0)
def ck_h21 : List ck_Hd := []
set_option maxRecDepth 100000 in
theorem ck_k21 (l : Launch) (D : va_G) (st : Nat → Nat) : ck_Mt l D st ck_c21 := ck_sound (T := ck_T0) (cs := []) (hs := ck_h21) (sp := []) (fuel := 33) l ck_TSgood ck_okCl (ck_own (M0 := ck_m16) rfl rfl ck_okT0) ck_nil (by decide +kernel)
/-- SL$Bench.addStone -/
def ck_c22 : ck_C := (18, 101, [.inr (0, 1), .inl (0, 11), .inl (1, 100), .inl (0, 200)], [((1, 1), .inl (0, 0)), ((1, 2), .inr (0, 2)), ((1, 3), .inr (0, 3)), ((1, 4), .inr (0, 4)), ((2, 0), .inl (0, 0)), ((3, 0), .inl (0, 0)), ((4, 0), .inl (0, 0))], [(1, 1), (2, 0), (3, 0), (4, 0)], [(some (.inl (0, 0)), [(0, 11), (1, 100), (0, 200)], [((1, 1), .inl (1, 1)), ((2, 0), .inl (0, 11)), ((3, 0), .inl (0, 100)), ((4, 0), .inl (0, 200))], 101)], 0, 0, 0, 0)
def ck_h22 : List ck_Hd := []
set_option maxRecDepth 100000 in
theorem ck_k22 (l : Launch) (D : va_G) (st : Nat → Nat) : ck_Mt l D st ck_c22 := ck_sound (T := ck_T1) (cs := []) (hs := ck_h22) (sp := []) (fuel := 50) l ck_TSgood ck_okCl (ck_own (M0 := ck_m18) rfl rfl ck_okT1) ck_nil (by decide +kernel)
/-- SL.accept -/
def ck_c23 : ck_C := (19, 101, [.inr (0, 0), .inl (0, 0)], [], [(0, 15)], [(some (.inl (0, 0)), [(0, 0)], [((0, 15), .inl (0, 0))], 101)], 0, 0, 0, 0)
def ck_h23 : List ck_Hd := []
set_option maxRecDepth 100000 in
theorem ck_k23 (l : Launch) (D : va_G) (st : Nat → Nat) : ck_Mt l D st ck_c23 := ck_sound (T := ck_T0) (cs := []) (hs := ck_h23) (sp := []) (fuel := 29) l ck_TSgood ck_okCl (ck_own (M0 := ck_m19) rfl rfl ck_okT0) ck_nil (by decide +kernel)
/-- SL.stone -/
def ck_c24 : ck_C := (15, 101, [.inr (0, 0), .inl ((-2147483648), 2147483647), .inl ((-2147483648), 2147483647), .inl ((-2147483648), 2147483647)], [((0, 1), .inr (0, 1)), ((1, 1), .inl (0, 0)), ((1, 2), .inr (0, 2)), ((1, 3), .inr (0, 3)), ((1, 4), .inr (0, 4)), ((2, 0), .inl (0, 0)), ((3, 0), .inl (0, 0)), ((4, 0), .inl (0, 0))], [(0, 15), (1, 1), (2, 0), (3, 0), (4, 0)], [(some (.inl ((-1), (-1))), [((-2147483648), (-1)), ((-2147483648), 2147483647), ((-2147483648), 2147483647)], [((0, 15), .inl ((-1), (-1))), ((1, 1), .inl (0, 0)), ((2, 0), .inl (0, 0)), ((3, 0), .inl (0, 0)), ((4, 0), .inl (0, 0))], 101), (some (.inl ((-1), (-1))), [(12, 2147483647), ((-2147483648), 2147483647), ((-2147483648), 2147483647)], [((0, 15), .inl ((-1), (-1))), ((1, 1), .inl (0, 0)), ((2, 0), .inl (0, 0)), ((3, 0), .inl (0, 0)), ((4, 0), .inl (0, 0))], 101), (some (.inl ((-1), (-1))), [(0, 11), ((-2147483648), 0), ((-2147483648), 2147483647)], [((0, 15), .inl ((-1), (-1))), ((1, 1), .inl (0, 0)), ((2, 0), .inl (0, 0)), ((3, 0), .inl (0, 0)), ((4, 0), .inl (0, 0))], 101), (some (.inl ((-1), (-1))), [(0, 11), (101, 2147483647), ((-2147483648), 2147483647)], [((0, 15), .inl ((-1), (-1))), ((1, 1), .inl (0, 0)), ((2, 0), .inl (0, 0)), ((3, 0), .inl (0, 0)), ((4, 0), .inl (0, 0))], 101), (some (.inl ((-1), (-1))), [(0, 11), (1, 100), ((-2147483648), (-1))], [((0, 15), .inl ((-1), (-1))), ((1, 1), .inl (0, 0)), ((2, 0), .inl (0, 0)), ((3, 0), .inl (0, 0)), ((4, 0), .inl (0, 0))], 101), (some (.inl ((-1), (-1))), [(0, 11), (1, 100), (201, 2147483647)], [((0, 15), .inl ((-1), (-1))), ((1, 1), .inl (0, 0)), ((2, 0), .inl (0, 0)), ((3, 0), .inl (0, 0)), ((4, 0), .inl (0, 0))], 101), (some (.inl (0, 0)), [(0, 11), (1, 100), (0, 200)], [((0, 15), .inl (0, 0)), ((1, 1), .inl (1, 1)), ((2, 0), .inl (0, 11)), ((3, 0), .inl (0, 100)), ((4, 0), .inl (0, 200))], 101)], 1, 24, 0, 0)
def ck_h24 : List ck_Hd := []
set_option maxRecDepth 100000 in
theorem ck_k24 (l : Launch) (D : va_G) (st : Nat → Nat) : ck_Mt l D st ck_c24 := ck_sound (T := ck_T0) (cs := [ck_c18, ck_c19, ck_c20, ck_c21, ck_c22, ck_c23]) (hs := ck_h24) (sp := []) (fuel := 53) l ck_TSgood ck_okCl (ck_own (M0 := ck_m15) rfl rfl ck_okT0) (ck_cons (ck_k18 l D st) (ck_cons (ck_k19 l D st) (ck_cons (ck_k20 l D st) (ck_cons (ck_k21 l D st) (ck_cons (ck_k22 l D st) (ck_cons (ck_k23 l D st) ck_nil)))))) (by decide +kernel)
/-- SLModel.in -/
def ck_c25 : ck_C := (21, 101, [.inl ((-2147483648), (-1)), .inl (0, 0), .inl (11, 11)], [], [], [(some (.inl (0, 0)), [((-2147483648), (-1)), (0, 0), (11, 11)], [], 101)], 0, 0, 0, 0)
def ck_h25 : List ck_Hd := []
set_option maxRecDepth 100000 in
theorem ck_k25 (l : Launch) (D : va_G) (st : Nat → Nat) : ck_Mt l D st ck_c25 := ck_sound (T := ck_T13) (cs := []) (hs := ck_h25) (sp := []) (fuel := 29) l ck_TSgood ck_okCl (ck_own (M0 := ck_m21) rfl rfl ck_okT13) ck_nil (by decide +kernel)
/-- SLModel.refuses -/
def ck_c26 : ck_C := (22, 101, [.inr (0, 77), .inl ((-1), (-1))], [], [(77, 1)], [(some (.inl ((-1), (-1))), [((-1), (-1))], [((77, 1), .inl ((-1), (-1)))], 101)], 0, 0, 0, 0)
def ck_h26 : List ck_Hd := []
set_option maxRecDepth 100000 in
theorem ck_k26 (l : Launch) (D : va_G) (st : Nat → Nat) : ck_Mt l D st ck_c26 := ck_sound (T := ck_T13) (cs := []) (hs := ck_h26) (sp := []) (fuel := 29) l ck_TSgood ck_okCl (ck_own (M0 := ck_m22) rfl rfl ck_okT13) ck_nil (by decide +kernel)
/-- SLModel.stone -/
def ck_c27 : ck_C := (20, 101, [.inr (0, 77), .inl ((-2147483648), (-1)), .inl ((-2147483648), 2147483647), .inl ((-2147483648), 2147483647)], [], [(77, 1)], [(some (.inl ((-1), (-1))), [((-2147483648), (-1)), ((-2147483648), 2147483647), ((-2147483648), 2147483647)], [((77, 1), .inl ((-1), (-1)))], 101)], 1, 22, 0, 0)
def ck_h27 : List ck_Hd := []
set_option maxRecDepth 100000 in
theorem ck_k27 (l : Launch) (D : va_G) (st : Nat → Nat) : ck_Mt l D st ck_c27 := ck_sound (T := ck_T13) (cs := [ck_c25, ck_c26]) (hs := ck_h27) (sp := []) (fuel := 33) l ck_TSgood ck_okCl (ck_own (M0 := ck_m20) rfl rfl ck_okT13) (ck_cons (ck_k25 l D st) (ck_cons (ck_k26 l D st) ck_nil)) (by decide +kernel)
/-- SLModel.in -/
def ck_c28 : ck_C := (21, 101, [.inl (12, 2147483647), .inl (0, 0), .inl (11, 11)], [], [], [(some (.inl (0, 0)), [(12, 2147483647), (0, 0), (11, 11)], [], 101)], 0, 0, 0, 0)
def ck_h28 : List ck_Hd := []
set_option maxRecDepth 100000 in
theorem ck_k28 (l : Launch) (D : va_G) (st : Nat → Nat) : ck_Mt l D st ck_c28 := ck_sound (T := ck_T13) (cs := []) (hs := ck_h28) (sp := []) (fuel := 32) l ck_TSgood ck_okCl (ck_own (M0 := ck_m21) rfl rfl ck_okT13) ck_nil (by decide +kernel)
/-- SLModel.stone -/
def ck_c29 : ck_C := (20, 101, [.inr (0, 77), .inl (12, 2147483647), .inl ((-2147483648), 2147483647), .inl ((-2147483648), 2147483647)], [], [(77, 1)], [(some (.inl ((-1), (-1))), [(12, 2147483647), ((-2147483648), 2147483647), ((-2147483648), 2147483647)], [((77, 1), .inl ((-1), (-1)))], 101)], 1, 22, 0, 0)
def ck_h29 : List ck_Hd := []
set_option maxRecDepth 100000 in
theorem ck_k29 (l : Launch) (D : va_G) (st : Nat → Nat) : ck_Mt l D st ck_c29 := ck_sound (T := ck_T13) (cs := [ck_c28, ck_c26]) (hs := ck_h29) (sp := []) (fuel := 33) l ck_TSgood ck_okCl (ck_own (M0 := ck_m20) rfl rfl ck_okT13) (ck_cons (ck_k28 l D st) (ck_cons (ck_k26 l D st) ck_nil)) (by decide +kernel)
/-- SLModel.in -/
def ck_c30 : ck_C := (21, 101, [.inl (0, 11), .inl (0, 0), .inl (11, 11)], [], [], [(some (.inl (1, 1)), [(0, 11), (0, 0), (11, 11)], [], 101)], 0, 0, 0, 0)
def ck_h30 : List ck_Hd := []
set_option maxRecDepth 100000 in
theorem ck_k30 (l : Launch) (D : va_G) (st : Nat → Nat) : ck_Mt l D st ck_c30 := ck_sound (T := ck_T13) (cs := []) (hs := ck_h30) (sp := []) (fuel := 33) l ck_TSgood ck_okCl (ck_own (M0 := ck_m21) rfl rfl ck_okT13) ck_nil (by decide +kernel)
/-- SLModel.in -/
def ck_c31 : ck_C := (21, 101, [.inl ((-2147483648), 0), .inl (1, 1), .inl (100, 100)], [], [], [(some (.inl (0, 0)), [((-2147483648), 0), (1, 1), (100, 100)], [], 101)], 0, 0, 0, 0)
def ck_h31 : List ck_Hd := []
set_option maxRecDepth 100000 in
theorem ck_k31 (l : Launch) (D : va_G) (st : Nat → Nat) : ck_Mt l D st ck_c31 := ck_sound (T := ck_T13) (cs := []) (hs := ck_h31) (sp := []) (fuel := 29) l ck_TSgood ck_okCl (ck_own (M0 := ck_m21) rfl rfl ck_okT13) ck_nil (by decide +kernel)
/-- SLModel.stone -/
def ck_c32 : ck_C := (20, 101, [.inr (0, 77), .inl (0, 11), .inl ((-2147483648), 0), .inl ((-2147483648), 2147483647)], [], [(77, 1)], [(some (.inl ((-1), (-1))), [(0, 11), ((-2147483648), 0), ((-2147483648), 2147483647)], [((77, 1), .inl ((-1), (-1)))], 101)], 1, 22, 0, 0)
def ck_h32 : List ck_Hd := []
set_option maxRecDepth 100000 in
theorem ck_k32 (l : Launch) (D : va_G) (st : Nat → Nat) : ck_Mt l D st ck_c32 := ck_sound (T := ck_T13) (cs := [ck_c30, ck_c31, ck_c26]) (hs := ck_h32) (sp := []) (fuel := 38) l ck_TSgood ck_okCl (ck_own (M0 := ck_m20) rfl rfl ck_okT13) (ck_cons (ck_k30 l D st) (ck_cons (ck_k31 l D st) (ck_cons (ck_k26 l D st) ck_nil))) (by decide +kernel)
/-- SLModel.in -/
def ck_c33 : ck_C := (21, 101, [.inl (101, 2147483647), .inl (1, 1), .inl (100, 100)], [], [], [(some (.inl (0, 0)), [(101, 2147483647), (1, 1), (100, 100)], [], 101)], 0, 0, 0, 0)
def ck_h33 : List ck_Hd := []
set_option maxRecDepth 100000 in
theorem ck_k33 (l : Launch) (D : va_G) (st : Nat → Nat) : ck_Mt l D st ck_c33 := ck_sound (T := ck_T13) (cs := []) (hs := ck_h33) (sp := []) (fuel := 32) l ck_TSgood ck_okCl (ck_own (M0 := ck_m21) rfl rfl ck_okT13) ck_nil (by decide +kernel)
/-- SLModel.stone -/
def ck_c34 : ck_C := (20, 101, [.inr (0, 77), .inl (0, 11), .inl (101, 2147483647), .inl ((-2147483648), 2147483647)], [], [(77, 1)], [(some (.inl ((-1), (-1))), [(0, 11), (101, 2147483647), ((-2147483648), 2147483647)], [((77, 1), .inl ((-1), (-1)))], 101)], 1, 22, 0, 0)
def ck_h34 : List ck_Hd := []
set_option maxRecDepth 100000 in
theorem ck_k34 (l : Launch) (D : va_G) (st : Nat → Nat) : ck_Mt l D st ck_c34 := ck_sound (T := ck_T13) (cs := [ck_c30, ck_c33, ck_c26]) (hs := ck_h34) (sp := []) (fuel := 38) l ck_TSgood ck_okCl (ck_own (M0 := ck_m20) rfl rfl ck_okT13) (ck_cons (ck_k30 l D st) (ck_cons (ck_k33 l D st) (ck_cons (ck_k26 l D st) ck_nil))) (by decide +kernel)
/-- SLModel.in -/
def ck_c35 : ck_C := (21, 101, [.inl (1, 100), .inl (1, 1), .inl (100, 100)], [], [], [(some (.inl (1, 1)), [(1, 100), (1, 1), (100, 100)], [], 101)], 0, 0, 0, 0)
def ck_h35 : List ck_Hd := []
set_option maxRecDepth 100000 in
theorem ck_k35 (l : Launch) (D : va_G) (st : Nat → Nat) : ck_Mt l D st ck_c35 := ck_sound (T := ck_T13) (cs := []) (hs := ck_h35) (sp := []) (fuel := 33) l ck_TSgood ck_okCl (ck_own (M0 := ck_m21) rfl rfl ck_okT13) ck_nil (by decide +kernel)
/-- SLModel.in -/
def ck_c36 : ck_C := (21, 101, [.inl ((-2147483648), (-1)), .inl (0, 0), .inl (200, 200)], [], [], [(some (.inl (0, 0)), [((-2147483648), (-1)), (0, 0), (200, 200)], [], 101)], 0, 0, 0, 0)
def ck_h36 : List ck_Hd := []
set_option maxRecDepth 100000 in
theorem ck_k36 (l : Launch) (D : va_G) (st : Nat → Nat) : ck_Mt l D st ck_c36 := ck_sound (T := ck_T13) (cs := []) (hs := ck_h36) (sp := []) (fuel := 29) l ck_TSgood ck_okCl (ck_own (M0 := ck_m21) rfl rfl ck_okT13) ck_nil (by decide +kernel)
/-- SLModel.stone -/
def ck_c37 : ck_C := (20, 101, [.inr (0, 77), .inl (0, 11), .inl (1, 100), .inl ((-2147483648), (-1))], [], [(77, 1)], [(some (.inl ((-1), (-1))), [(0, 11), (1, 100), ((-2147483648), (-1))], [((77, 1), .inl ((-1), (-1)))], 101)], 1, 22, 0, 0)
def ck_h37 : List ck_Hd := []
set_option maxRecDepth 100000 in
theorem ck_k37 (l : Launch) (D : va_G) (st : Nat → Nat) : ck_Mt l D st ck_c37 := ck_sound (T := ck_T13) (cs := [ck_c30, ck_c35, ck_c36, ck_c26]) (hs := ck_h37) (sp := []) (fuel := 43) l ck_TSgood ck_okCl (ck_own (M0 := ck_m20) rfl rfl ck_okT13) (ck_cons (ck_k30 l D st) (ck_cons (ck_k35 l D st) (ck_cons (ck_k36 l D st) (ck_cons (ck_k26 l D st) ck_nil)))) (by decide +kernel)
/-- SLModel.in -/
def ck_c38 : ck_C := (21, 101, [.inl (201, 2147483647), .inl (0, 0), .inl (200, 200)], [], [], [(some (.inl (0, 0)), [(201, 2147483647), (0, 0), (200, 200)], [], 101)], 0, 0, 0, 0)
def ck_h38 : List ck_Hd := []
set_option maxRecDepth 100000 in
theorem ck_k38 (l : Launch) (D : va_G) (st : Nat → Nat) : ck_Mt l D st ck_c38 := ck_sound (T := ck_T13) (cs := []) (hs := ck_h38) (sp := []) (fuel := 32) l ck_TSgood ck_okCl (ck_own (M0 := ck_m21) rfl rfl ck_okT13) ck_nil (by decide +kernel)
/-- SLModel.stone -/
def ck_c39 : ck_C := (20, 101, [.inr (0, 77), .inl (0, 11), .inl (1, 100), .inl (201, 2147483647)], [], [(77, 1)], [(some (.inl ((-1), (-1))), [(0, 11), (1, 100), (201, 2147483647)], [((77, 1), .inl ((-1), (-1)))], 101)], 1, 22, 0, 0)
def ck_h39 : List ck_Hd := []
set_option maxRecDepth 100000 in
theorem ck_k39 (l : Launch) (D : va_G) (st : Nat → Nat) : ck_Mt l D st ck_c39 := ck_sound (T := ck_T13) (cs := [ck_c30, ck_c35, ck_c38, ck_c26]) (hs := ck_h39) (sp := []) (fuel := 43) l ck_TSgood ck_okCl (ck_own (M0 := ck_m20) rfl rfl ck_okT13) (ck_cons (ck_k30 l D st) (ck_cons (ck_k35 l D st) (ck_cons (ck_k38 l D st) (ck_cons (ck_k26 l D st) ck_nil)))) (by decide +kernel)
/-- SLModel.in -/
def ck_c40 : ck_C := (21, 101, [.inl (0, 200), .inl (0, 0), .inl (200, 200)], [], [], [(some (.inl (1, 1)), [(0, 200), (0, 0), (200, 200)], [], 101)], 0, 0, 0, 0)
def ck_h40 : List ck_Hd := []
set_option maxRecDepth 100000 in
theorem ck_k40 (l : Launch) (D : va_G) (st : Nat → Nat) : ck_Mt l D st ck_c40 := ck_sound (T := ck_T13) (cs := []) (hs := ck_h40) (sp := []) (fuel := 33) l ck_TSgood ck_okCl (ck_own (M0 := ck_m21) rfl rfl ck_okT13) ck_nil (by decide +kernel)
/-- SLModel.many -/
def ck_c41 : ck_C := (23, 101, [.inr (0, 77)], [((77, 2), .inr (0, 78)), ((78, 1293), .inl (0, 0))], [], [(some (.inl (0, 0)), [], [], 101)], 0, 0, 0, 0)
def ck_h41 : List ck_Hd := []
set_option maxRecDepth 100000 in
theorem ck_k41 (l : Launch) (D : va_G) (st : Nat → Nat) : ck_Mt l D st ck_c41 := ck_sound (T := ck_T13) (cs := []) (hs := ck_h41) (sp := []) (fuel := 29) l ck_TSgood ck_okCl (ck_own (M0 := ck_m23) rfl rfl ck_okT13) ck_nil (by decide +kernel)
/-- SLModel.good -/
def ck_c42 : ck_C := (24, 101, [.inr (0, 77), .inl (0, 0)], [], [(77, 1)], [(some (.inl (0, 0)), [(0, 0)], [((77, 1), .inl (0, 0))], 101)], 0, 0, 0, 0)
def ck_h42 : List ck_Hd := []
set_option maxRecDepth 100000 in
theorem ck_k42 (l : Launch) (D : va_G) (st : Nat → Nat) : ck_Mt l D st ck_c42 := ck_sound (T := ck_T13) (cs := []) (hs := ck_h42) (sp := []) (fuel := 29) l ck_TSgood ck_okCl (ck_own (M0 := ck_m24) rfl rfl ck_okT13) ck_nil (by decide +kernel)
/-- SLModel.stone -/
def ck_c43 : ck_C := (20, 101, [.inr (0, 77), .inl (0, 11), .inl (1, 100), .inl (0, 200)], [((77, 2), .inr (0, 78)), ((78, 0), .inl ((-1), 15)), ((78, 193), .inl (0, 0)), ((78, 194), .inl (0, 0)), ((78, 195), .inl (0, 0)), ((78, 196), .inl (0, 0)), ((78, 197), .inl (0, 0)), ((78, 198), .inl (0, 0)), ((78, 199), .inl (0, 0)), ((78, 200), .inl (0, 0)), ((78, 201), .inl (0, 0)), ((78, 202), .inl (0, 0)), ((78, 203), .inl (0, 0)), ((78, 204), .inl (0, 0)), ((78, 1293), .inl (0, 0)), ((78, 1294), .inl (0, 0)), ((78, 1295), .inl (0, 0))], [(77, 1), (78, 0)], [(some (.inl (0, 0)), [(0, 11), (1, 100), (0, 200)], [((77, 1), .inl (0, 0)), ((78, 0), .inl ((-1), 200)), ((78, 193), .inl (0, 0)), ((78, 194), .inl (0, 0)), ((78, 195), .inl (0, 0)), ((78, 196), .inl (0, 0)), ((78, 197), .inl (0, 0)), ((78, 198), .inl (0, 0)), ((78, 199), .inl (0, 0)), ((78, 200), .inl (0, 0)), ((78, 201), .inl (0, 0)), ((78, 202), .inl (0, 0)), ((78, 203), .inl (0, 0)), ((78, 204), .inl (0, 0)), ((78, 1293), .inl (1, 1)), ((78, 1294), .inl (0, 0)), ((78, 1295), .inl (0, 0))], 101)], 1, 22, 0, 0)
def ck_h43 : List ck_Hd := [(60, ([(0, 11, 0, (0, 0, 0)), (1, 100, 0, (0, 0, 0)), (0, 200, 0, (0, 0, 0)), (0, 16, 0, (0, 0, 0))], [(5, .inl (3, 1, 0)), (4, .inl (0, 0, 0)), (0, .inr (0, 77)), (1, .inl (0, 1, 0)), (2, .inl (1, 1, 0)), (3, .inl (2, 1, 0))], [], [((77, 2), .inr (0, 78)), ((78, 0), .inl ((-1), 15)), ((78, 193), .inl (0, 0)), ((78, 194), .inl (0, 0)), ((78, 195), .inl (0, 0)), ((78, 196), .inl (0, 0)), ((78, 197), .inl (0, 0)), ((78, 198), .inl (0, 0)), ((78, 199), .inl (0, 0)), ((78, 200), .inl (0, 0)), ((78, 201), .inl (0, 0)), ((78, 202), .inl (0, 0)), ((78, 203), .inl (0, 0)), ((78, 204), .inl (0, 0)), ((78, 1293), .inl (0, 0)), ((78, 1294), .inl (0, 0)), ((78, 1295), .inl (0, 0))], 101, 0, 0), 3, 0)]
set_option maxRecDepth 100000 in
theorem ck_k43 (l : Launch) (D : va_G) (st : Nat → Nat) : ck_Mt l D st ck_c43 := ck_sound (T := ck_T13) (cs := [ck_c30, ck_c35, ck_c40, ck_c41, ck_c42]) (hs := ck_h43) (sp := []) (fuel := 93) l ck_TSgood ck_okCl (ck_own (M0 := ck_m20) rfl rfl ck_okT13) (ck_cons (ck_k30 l D st) (ck_cons (ck_k35 l D st) (ck_cons (ck_k40 l D st) (ck_cons (ck_k41 l D st) (ck_cons (ck_k42 l D st) ck_nil))))) (by decide +kernel)
/-- SL.within -/
def ck_c44 : ck_C := (16, 101, [.inl ((-2147483648), 2147483647), .inl (0, 0), .inl (2, 2)], [], [], [(some (.inl (0, 0)), [((-2147483648), (-1)), (0, 0), (2, 2)], [], 101), (some (.inl (0, 0)), [(3, 2147483647), (0, 0), (2, 2)], [], 101), (some (.inl (1, 1)), [(0, 2), (0, 0), (2, 2)], [], 101)], 0, 0, 0, 0)
def ck_h44 : List ck_Hd := []
set_option maxRecDepth 100000 in
theorem ck_k44 (l : Launch) (D : va_G) (st : Nat → Nat) : ck_Mt l D st ck_c44 := ck_sound (T := ck_T0) (cs := []) (hs := ck_h44) (sp := []) (fuel := 33) l ck_TSgood ck_okCl (ck_own (M0 := ck_m16) rfl rfl ck_okT0) ck_nil (by decide +kernel)
/-- SL.within -/
def ck_c45 : ck_C := (16, 101, [.inl ((-2147483648), 2147483647), .inl (0, 0), .inl (3, 3)], [], [], [(some (.inl (0, 0)), [((-2147483648), (-1)), (0, 0), (3, 3)], [], 101), (some (.inl (0, 0)), [(4, 2147483647), (0, 0), (3, 3)], [], 101), (some (.inl (1, 1)), [(0, 3), (0, 0), (3, 3)], [], 101)], 0, 0, 0, 0)
def ck_h45 : List ck_Hd := []
set_option maxRecDepth 100000 in
theorem ck_k45 (l : Launch) (D : va_G) (st : Nat → Nat) : ck_Mt l D st ck_c45 := ck_sound (T := ck_T0) (cs := []) (hs := ck_h45) (sp := []) (fuel := 33) l ck_TSgood ck_okCl (ck_own (M0 := ck_m16) rfl rfl ck_okT0) ck_nil (by decide +kernel)
/-- SL.isSpot -/
def ck_c46 : ck_C := (26, 101, [.inl ((-2147483648), 2147483647), .inl ((-2147483648), 2147483647)], [], [], [(some (.inl (0, 0)), [((-2147483648), (-1)), ((-2147483648), 2147483647)], [], 101), (some (.inl (0, 0)), [(3, 2147483647), ((-2147483648), 2147483647)], [], 101), (some (.inl (0, 0)), [(0, 2), ((-2147483648), (-1))], [], 101), (some (.inl (0, 0)), [(0, 2), (4, 2147483647)], [], 101), (some (.inl (1, 1)), [(0, 2), (0, 3)], [], 101)], 1, 22, 0, 0)
def ck_h46 : List ck_Hd := []
set_option maxRecDepth 100000 in
theorem ck_k46 (l : Launch) (D : va_G) (st : Nat → Nat) : ck_Mt l D st ck_c46 := ck_sound (T := ck_T0) (cs := [ck_c44, ck_c45]) (hs := ck_h46) (sp := []) (fuel := 37) l ck_TSgood ck_okCl (ck_own (M0 := ck_m26) rfl rfl ck_okT0) (ck_cons (ck_k44 l D st) (ck_cons (ck_k45 l D st) ck_nil)) (by decide +kernel)
/-- SL.within -/
def ck_c47 : ck_C := (16, 101, [.inl ((-2147483648), 2147483647), .inl (0, 0), .inl (999, 999)], [], [], [(some (.inl (0, 0)), [((-2147483648), (-1)), (0, 0), (999, 999)], [], 101), (some (.inl (0, 0)), [(1000, 2147483647), (0, 0), (999, 999)], [], 101), (some (.inl (1, 1)), [(0, 999), (0, 0), (999, 999)], [], 101)], 0, 0, 0, 0)
def ck_h47 : List ck_Hd := []
set_option maxRecDepth 100000 in
theorem ck_k47 (l : Launch) (D : va_G) (st : Nat → Nat) : ck_Mt l D st ck_c47 := ck_sound (T := ck_T0) (cs := []) (hs := ck_h47) (sp := []) (fuel := 33) l ck_TSgood ck_okCl (ck_own (M0 := ck_m16) rfl rfl ck_okT0) ck_nil (by decide +kernel)
/-- SL.within -/
def ck_c48 : ck_C := (16, 101, [.inl ((-2147483648), 2147483647), .inl (0, 0), .inl ((-1), (-1))], [], [], [(some (.inl (0, 0)), [((-2147483648), (-1)), (0, 0), ((-1), (-1))], [], 101), (some (.inl (0, 0)), [(0, 2147483647), (0, 0), ((-1), (-1))], [], 101)], 0, 0, 0, 0)
def ck_h48 : List ck_Hd := []
set_option maxRecDepth 100000 in
theorem ck_k48 (l : Launch) (D : va_G) (st : Nat → Nat) : ck_Mt l D st ck_c48 := ck_sound (T := ck_T0) (cs := []) (hs := ck_h48) (sp := []) (fuel := 32) l ck_TSgood ck_okCl (ck_own (M0 := ck_m16) rfl rfl ck_okT0) ck_nil (by decide +kernel)
/-- SL$Bench.hasStone -/
def ck_c49 : ck_C := (27, 101, [.inr (0, 1), .inl ((-2147483648), 2147483647)], [((1, 1), .inl (0, 0))], [], [(some (.inl (0, 0)), [((-2147483648), (-1))], [], 101), (some (.inl (0, 0)), [(0, 2147483647)], [], 101)], 1, 22, 0, 0)
def ck_h49 : List ck_Hd := []
set_option maxRecDepth 100000 in
theorem ck_k49 (l : Launch) (D : va_G) (st : Nat → Nat) : ck_Mt l D st ck_c49 := ck_sound (T := ck_T1) (cs := [ck_c48]) (hs := ck_h49) (sp := []) (fuel := 32) l ck_TSgood ck_okCl (ck_own (M0 := ck_m27) rfl rfl ck_okT1) (ck_cons (ck_k48 l D st) ck_nil) (by decide +kernel)
/-- SL.refuse -/
def ck_c50 : ck_C := (17, 101, [.inr (0, 0), .inl ((-2), (-2))], [], [(0, 15)], [(some (.inl ((-2), (-2))), [((-2), (-2))], [((0, 15), .inl ((-2), (-2)))], 101)], 0, 0, 0, 0)
def ck_h50 : List ck_Hd := []
set_option maxRecDepth 100000 in
theorem ck_k50 (l : Launch) (D : va_G) (st : Nat → Nat) : ck_Mt l D st ck_c50 := ck_sound (T := ck_T0) (cs := []) (hs := ck_h50) (sp := []) (fuel := 29) l ck_TSgood ck_okCl (ck_own (M0 := ck_m17) rfl rfl ck_okT0) ck_nil (by decide +kernel)
/-- SL.plane -/
def ck_c51 : ck_C := (25, 101, [.inr (0, 0), .inl ((-2147483648), 2147483647), .inl ((-2147483648), 2147483647), .inl ((-2147483648), 2147483647), .inl ((-2147483648), 2147483647)], [((0, 1), .inr (0, 1)), ((1, 1), .inl (0, 0))], [(0, 15)], [(some (.inl ((-1), (-1))), [((-2147483648), 2147483647), ((-2147483648), (-1)), ((-2147483648), 2147483647), ((-2147483648), 2147483647)], [((0, 15), .inl ((-1), (-1)))], 101), (some (.inl ((-1), (-1))), [((-2147483648), 2147483647), (3, 2147483647), ((-2147483648), 2147483647), ((-2147483648), 2147483647)], [((0, 15), .inl ((-1), (-1)))], 101), (some (.inl ((-1), (-1))), [((-2147483648), 2147483647), (0, 2), ((-2147483648), (-1)), ((-2147483648), 2147483647)], [((0, 15), .inl ((-1), (-1)))], 101), (some (.inl ((-1), (-1))), [((-2147483648), 2147483647), (0, 2), (4, 2147483647), ((-2147483648), 2147483647)], [((0, 15), .inl ((-1), (-1)))], 101), (some (.inl ((-1), (-1))), [((-2147483648), 2147483647), (0, 2), (0, 3), ((-2147483648), (-1))], [((0, 15), .inl ((-1), (-1)))], 101), (some (.inl ((-1), (-1))), [((-2147483648), 2147483647), (0, 2), (0, 3), (1000, 2147483647)], [((0, 15), .inl ((-1), (-1)))], 101), (some (.inl ((-2), (-2))), [((-2147483648), (-1)), (0, 2), (0, 3), (0, 999)], [((0, 15), .inl ((-2), (-2)))], 101), (some (.inl ((-2), (-2))), [(0, 2147483647), (0, 2), (0, 3), (0, 999)], [((0, 15), .inl ((-2), (-2)))], 101)], 2, 43, 0, 0)
def ck_h51 : List ck_Hd := []
set_option maxRecDepth 100000 in
theorem ck_k51 (l : Launch) (D : va_G) (st : Nat → Nat) : ck_Mt l D st ck_c51 := ck_sound (T := ck_T0) (cs := [ck_c46, ck_c19, ck_c47, ck_c49, ck_c50]) (hs := ck_h51) (sp := []) (fuel := 42) l ck_TSgood ck_okCl (ck_own (M0 := ck_m25) rfl rfl ck_okT0) (ck_cons (ck_k46 l D st) (ck_cons (ck_k19 l D st) (ck_cons (ck_k47 l D st) (ck_cons (ck_k49 l D st) (ck_cons (ck_k50 l D st) ck_nil))))) (by decide +kernel)
/-- SLModel.in -/
def ck_c52 : ck_C := (21, 101, [.inl ((-2147483648), (-1)), .inl (0, 0), .inl (2, 2)], [], [], [(some (.inl (0, 0)), [((-2147483648), (-1)), (0, 0), (2, 2)], [], 101)], 0, 0, 0, 0)
def ck_h52 : List ck_Hd := []
set_option maxRecDepth 100000 in
theorem ck_k52 (l : Launch) (D : va_G) (st : Nat → Nat) : ck_Mt l D st ck_c52 := ck_sound (T := ck_T13) (cs := []) (hs := ck_h52) (sp := []) (fuel := 29) l ck_TSgood ck_okCl (ck_own (M0 := ck_m21) rfl rfl ck_okT13) ck_nil (by decide +kernel)
/-- SLModel.plane -/
def ck_c53 : ck_C := (28, 101, [.inr (0, 77), .inl ((-2147483648), 2147483647), .inl ((-2147483648), (-1)), .inl ((-2147483648), 2147483647), .inl ((-2147483648), 2147483647)], [], [(77, 1)], [(some (.inl ((-1), (-1))), [((-2147483648), 2147483647), ((-2147483648), (-1)), ((-2147483648), 2147483647), ((-2147483648), 2147483647)], [((77, 1), .inl ((-1), (-1)))], 101)], 1, 22, 0, 0)
def ck_h53 : List ck_Hd := []
set_option maxRecDepth 100000 in
theorem ck_k53 (l : Launch) (D : va_G) (st : Nat → Nat) : ck_Mt l D st ck_c53 := ck_sound (T := ck_T13) (cs := [ck_c52, ck_c26]) (hs := ck_h53) (sp := []) (fuel := 33) l ck_TSgood ck_okCl (ck_own (M0 := ck_m28) rfl rfl ck_okT13) (ck_cons (ck_k52 l D st) (ck_cons (ck_k26 l D st) ck_nil)) (by decide +kernel)
/-- SLModel.in -/
def ck_c54 : ck_C := (21, 101, [.inl (3, 2147483647), .inl (0, 0), .inl (2, 2)], [], [], [(some (.inl (0, 0)), [(3, 2147483647), (0, 0), (2, 2)], [], 101)], 0, 0, 0, 0)
def ck_h54 : List ck_Hd := []
set_option maxRecDepth 100000 in
theorem ck_k54 (l : Launch) (D : va_G) (st : Nat → Nat) : ck_Mt l D st ck_c54 := ck_sound (T := ck_T13) (cs := []) (hs := ck_h54) (sp := []) (fuel := 32) l ck_TSgood ck_okCl (ck_own (M0 := ck_m21) rfl rfl ck_okT13) ck_nil (by decide +kernel)
/-- SLModel.plane -/
def ck_c55 : ck_C := (28, 101, [.inr (0, 77), .inl ((-2147483648), 2147483647), .inl (3, 2147483647), .inl ((-2147483648), 2147483647), .inl ((-2147483648), 2147483647)], [], [(77, 1)], [(some (.inl ((-1), (-1))), [((-2147483648), 2147483647), (3, 2147483647), ((-2147483648), 2147483647), ((-2147483648), 2147483647)], [((77, 1), .inl ((-1), (-1)))], 101)], 1, 22, 0, 0)
def ck_h55 : List ck_Hd := []
set_option maxRecDepth 100000 in
theorem ck_k55 (l : Launch) (D : va_G) (st : Nat → Nat) : ck_Mt l D st ck_c55 := ck_sound (T := ck_T13) (cs := [ck_c54, ck_c26]) (hs := ck_h55) (sp := []) (fuel := 33) l ck_TSgood ck_okCl (ck_own (M0 := ck_m28) rfl rfl ck_okT13) (ck_cons (ck_k54 l D st) (ck_cons (ck_k26 l D st) ck_nil)) (by decide +kernel)
/-- SLModel.in -/
def ck_c56 : ck_C := (21, 101, [.inl (0, 2), .inl (0, 0), .inl (2, 2)], [], [], [(some (.inl (1, 1)), [(0, 2), (0, 0), (2, 2)], [], 101)], 0, 0, 0, 0)
def ck_h56 : List ck_Hd := []
set_option maxRecDepth 100000 in
theorem ck_k56 (l : Launch) (D : va_G) (st : Nat → Nat) : ck_Mt l D st ck_c56 := ck_sound (T := ck_T13) (cs := []) (hs := ck_h56) (sp := []) (fuel := 33) l ck_TSgood ck_okCl (ck_own (M0 := ck_m21) rfl rfl ck_okT13) ck_nil (by decide +kernel)
/-- SLModel.in -/
def ck_c57 : ck_C := (21, 101, [.inl ((-2147483648), (-1)), .inl (0, 0), .inl (3, 3)], [], [], [(some (.inl (0, 0)), [((-2147483648), (-1)), (0, 0), (3, 3)], [], 101)], 0, 0, 0, 0)
def ck_h57 : List ck_Hd := []
set_option maxRecDepth 100000 in
theorem ck_k57 (l : Launch) (D : va_G) (st : Nat → Nat) : ck_Mt l D st ck_c57 := ck_sound (T := ck_T13) (cs := []) (hs := ck_h57) (sp := []) (fuel := 29) l ck_TSgood ck_okCl (ck_own (M0 := ck_m21) rfl rfl ck_okT13) ck_nil (by decide +kernel)
/-- SLModel.plane -/
def ck_c58 : ck_C := (28, 101, [.inr (0, 77), .inl ((-2147483648), 2147483647), .inl (0, 2), .inl ((-2147483648), (-1)), .inl ((-2147483648), 2147483647)], [], [(77, 1)], [(some (.inl ((-1), (-1))), [((-2147483648), 2147483647), (0, 2), ((-2147483648), (-1)), ((-2147483648), 2147483647)], [((77, 1), .inl ((-1), (-1)))], 101)], 1, 22, 0, 0)
def ck_h58 : List ck_Hd := []
set_option maxRecDepth 100000 in
theorem ck_k58 (l : Launch) (D : va_G) (st : Nat → Nat) : ck_Mt l D st ck_c58 := ck_sound (T := ck_T13) (cs := [ck_c56, ck_c57, ck_c26]) (hs := ck_h58) (sp := []) (fuel := 38) l ck_TSgood ck_okCl (ck_own (M0 := ck_m28) rfl rfl ck_okT13) (ck_cons (ck_k56 l D st) (ck_cons (ck_k57 l D st) (ck_cons (ck_k26 l D st) ck_nil))) (by decide +kernel)
/-- SLModel.in -/
def ck_c59 : ck_C := (21, 101, [.inl (4, 2147483647), .inl (0, 0), .inl (3, 3)], [], [], [(some (.inl (0, 0)), [(4, 2147483647), (0, 0), (3, 3)], [], 101)], 0, 0, 0, 0)
def ck_h59 : List ck_Hd := []
set_option maxRecDepth 100000 in
theorem ck_k59 (l : Launch) (D : va_G) (st : Nat → Nat) : ck_Mt l D st ck_c59 := ck_sound (T := ck_T13) (cs := []) (hs := ck_h59) (sp := []) (fuel := 32) l ck_TSgood ck_okCl (ck_own (M0 := ck_m21) rfl rfl ck_okT13) ck_nil (by decide +kernel)
/-- SLModel.plane -/
def ck_c60 : ck_C := (28, 101, [.inr (0, 77), .inl ((-2147483648), 2147483647), .inl (0, 2), .inl (4, 2147483647), .inl ((-2147483648), 2147483647)], [], [(77, 1)], [(some (.inl ((-1), (-1))), [((-2147483648), 2147483647), (0, 2), (4, 2147483647), ((-2147483648), 2147483647)], [((77, 1), .inl ((-1), (-1)))], 101)], 1, 22, 0, 0)
def ck_h60 : List ck_Hd := []
set_option maxRecDepth 100000 in
theorem ck_k60 (l : Launch) (D : va_G) (st : Nat → Nat) : ck_Mt l D st ck_c60 := ck_sound (T := ck_T13) (cs := [ck_c56, ck_c59, ck_c26]) (hs := ck_h60) (sp := []) (fuel := 38) l ck_TSgood ck_okCl (ck_own (M0 := ck_m28) rfl rfl ck_okT13) (ck_cons (ck_k56 l D st) (ck_cons (ck_k59 l D st) (ck_cons (ck_k26 l D st) ck_nil))) (by decide +kernel)
/-- SLModel.in -/
def ck_c61 : ck_C := (21, 101, [.inl (0, 3), .inl (0, 0), .inl (3, 3)], [], [], [(some (.inl (1, 1)), [(0, 3), (0, 0), (3, 3)], [], 101)], 0, 0, 0, 0)
def ck_h61 : List ck_Hd := []
set_option maxRecDepth 100000 in
theorem ck_k61 (l : Launch) (D : va_G) (st : Nat → Nat) : ck_Mt l D st ck_c61 := ck_sound (T := ck_T13) (cs := []) (hs := ck_h61) (sp := []) (fuel := 33) l ck_TSgood ck_okCl (ck_own (M0 := ck_m21) rfl rfl ck_okT13) ck_nil (by decide +kernel)
/-- SLModel.in -/
def ck_c62 : ck_C := (21, 101, [.inl ((-2147483648), (-1)), .inl (0, 0), .inl (999, 999)], [], [], [(some (.inl (0, 0)), [((-2147483648), (-1)), (0, 0), (999, 999)], [], 101)], 0, 0, 0, 0)
def ck_h62 : List ck_Hd := []
set_option maxRecDepth 100000 in
theorem ck_k62 (l : Launch) (D : va_G) (st : Nat → Nat) : ck_Mt l D st ck_c62 := ck_sound (T := ck_T13) (cs := []) (hs := ck_h62) (sp := []) (fuel := 29) l ck_TSgood ck_okCl (ck_own (M0 := ck_m21) rfl rfl ck_okT13) ck_nil (by decide +kernel)
/-- SLModel.plane -/
def ck_c63 : ck_C := (28, 101, [.inr (0, 77), .inl ((-2147483648), 2147483647), .inl (0, 2), .inl (0, 3), .inl ((-2147483648), (-1))], [], [(77, 1)], [(some (.inl ((-1), (-1))), [((-2147483648), 2147483647), (0, 2), (0, 3), ((-2147483648), (-1))], [((77, 1), .inl ((-1), (-1)))], 101)], 1, 22, 0, 0)
def ck_h63 : List ck_Hd := []
set_option maxRecDepth 100000 in
theorem ck_k63 (l : Launch) (D : va_G) (st : Nat → Nat) : ck_Mt l D st ck_c63 := ck_sound (T := ck_T13) (cs := [ck_c56, ck_c61, ck_c62, ck_c26]) (hs := ck_h63) (sp := []) (fuel := 43) l ck_TSgood ck_okCl (ck_own (M0 := ck_m28) rfl rfl ck_okT13) (ck_cons (ck_k56 l D st) (ck_cons (ck_k61 l D st) (ck_cons (ck_k62 l D st) (ck_cons (ck_k26 l D st) ck_nil)))) (by decide +kernel)
/-- SLModel.in -/
def ck_c64 : ck_C := (21, 101, [.inl (1000, 2147483647), .inl (0, 0), .inl (999, 999)], [], [], [(some (.inl (0, 0)), [(1000, 2147483647), (0, 0), (999, 999)], [], 101)], 0, 0, 0, 0)
def ck_h64 : List ck_Hd := []
set_option maxRecDepth 100000 in
theorem ck_k64 (l : Launch) (D : va_G) (st : Nat → Nat) : ck_Mt l D st ck_c64 := ck_sound (T := ck_T13) (cs := []) (hs := ck_h64) (sp := []) (fuel := 32) l ck_TSgood ck_okCl (ck_own (M0 := ck_m21) rfl rfl ck_okT13) ck_nil (by decide +kernel)
/-- SLModel.plane -/
def ck_c65 : ck_C := (28, 101, [.inr (0, 77), .inl ((-2147483648), 2147483647), .inl (0, 2), .inl (0, 3), .inl (1000, 2147483647)], [], [(77, 1)], [(some (.inl ((-1), (-1))), [((-2147483648), 2147483647), (0, 2), (0, 3), (1000, 2147483647)], [((77, 1), .inl ((-1), (-1)))], 101)], 1, 22, 0, 0)
def ck_h65 : List ck_Hd := []
set_option maxRecDepth 100000 in
theorem ck_k65 (l : Launch) (D : va_G) (st : Nat → Nat) : ck_Mt l D st ck_c65 := ck_sound (T := ck_T13) (cs := [ck_c56, ck_c61, ck_c64, ck_c26]) (hs := ck_h65) (sp := []) (fuel := 43) l ck_TSgood ck_okCl (ck_own (M0 := ck_m28) rfl rfl ck_okT13) (ck_cons (ck_k56 l D st) (ck_cons (ck_k61 l D st) (ck_cons (ck_k64 l D st) (ck_cons (ck_k26 l D st) ck_nil)))) (by decide +kernel)
/-- SLModel.in -/
def ck_c66 : ck_C := (21, 101, [.inl (0, 999), .inl (0, 0), .inl (999, 999)], [], [], [(some (.inl (1, 1)), [(0, 999), (0, 0), (999, 999)], [], 101)], 0, 0, 0, 0)
def ck_h66 : List ck_Hd := []
set_option maxRecDepth 100000 in
theorem ck_k66 (l : Launch) (D : va_G) (st : Nat → Nat) : ck_Mt l D st ck_c66 := ck_sound (T := ck_T13) (cs := []) (hs := ck_h66) (sp := []) (fuel := 33) l ck_TSgood ck_okCl (ck_own (M0 := ck_m21) rfl rfl ck_okT13) ck_nil (by decide +kernel)
/-- SLModel.in -/
def ck_c67 : ck_C := (21, 101, [.inl ((-2147483648), (-1)), .inl (0, 0), .inl ((-1), (-1))], [], [], [(some (.inl (0, 0)), [((-2147483648), (-1)), (0, 0), ((-1), (-1))], [], 101)], 0, 0, 0, 0)
def ck_h67 : List ck_Hd := []
set_option maxRecDepth 100000 in
theorem ck_k67 (l : Launch) (D : va_G) (st : Nat → Nat) : ck_Mt l D st ck_c67 := ck_sound (T := ck_T13) (cs := []) (hs := ck_h67) (sp := []) (fuel := 29) l ck_TSgood ck_okCl (ck_own (M0 := ck_m21) rfl rfl ck_okT13) ck_nil (by decide +kernel)
/-- SLModel.isStone -/
def ck_c68 : ck_C := (29, 101, [.inr (0, 77), .inl ((-2147483648), (-1))], [((77, 2), .inr (0, 78)), ((78, 1293), .inl (0, 0))], [], [(some (.inl (0, 0)), [((-2147483648), (-1))], [], 101)], 1, 22, 0, 0)
def ck_h68 : List ck_Hd := []
set_option maxRecDepth 100000 in
theorem ck_k68 (l : Launch) (D : va_G) (st : Nat → Nat) : ck_Mt l D st ck_c68 := ck_sound (T := ck_T13) (cs := [ck_c67]) (hs := ck_h68) (sp := []) (fuel := 34) l ck_TSgood ck_okCl (ck_own (M0 := ck_m29) rfl rfl ck_okT13) (ck_cons (ck_k67 l D st) ck_nil) (by decide +kernel)
/-- SLModel.refuses -/
def ck_c69 : ck_C := (22, 101, [.inr (0, 77), .inl ((-2), (-2))], [], [(77, 1)], [(some (.inl ((-2), (-2))), [((-2), (-2))], [((77, 1), .inl ((-2), (-2)))], 101)], 0, 0, 0, 0)
def ck_h69 : List ck_Hd := []
set_option maxRecDepth 100000 in
theorem ck_k69 (l : Launch) (D : va_G) (st : Nat → Nat) : ck_Mt l D st ck_c69 := ck_sound (T := ck_T13) (cs := []) (hs := ck_h69) (sp := []) (fuel := 29) l ck_TSgood ck_okCl (ck_own (M0 := ck_m22) rfl rfl ck_okT13) ck_nil (by decide +kernel)
/-- SLModel.plane -/
def ck_c70 : ck_C := (28, 101, [.inr (0, 77), .inl ((-2147483648), (-1)), .inl (0, 2), .inl (0, 3), .inl (0, 999)], [((77, 2), .inr (0, 78)), ((78, 1293), .inl (0, 0))], [(77, 1)], [(some (.inl ((-2), (-2))), [((-2147483648), (-1)), (0, 2), (0, 3), (0, 999)], [((77, 1), .inl ((-2), (-2)))], 101)], 2, 43, 0, 0)
def ck_h70 : List ck_Hd := []
set_option maxRecDepth 100000 in
theorem ck_k70 (l : Launch) (D : va_G) (st : Nat → Nat) : ck_Mt l D st ck_c70 := ck_sound (T := ck_T13) (cs := [ck_c56, ck_c61, ck_c66, ck_c68, ck_c69]) (hs := ck_h70) (sp := []) (fuel := 47) l ck_TSgood ck_okCl (ck_own (M0 := ck_m28) rfl rfl ck_okT13) (ck_cons (ck_k56 l D st) (ck_cons (ck_k61 l D st) (ck_cons (ck_k66 l D st) (ck_cons (ck_k68 l D st) (ck_cons (ck_k69 l D st) ck_nil))))) (by decide +kernel)
/-- SLModel.in -/
def ck_c71 : ck_C := (21, 101, [.inl (0, 2147483647), .inl (0, 0), .inl ((-1), (-1))], [], [], [(some (.inl (0, 0)), [(0, 2147483647), (0, 0), ((-1), (-1))], [], 101)], 0, 0, 0, 0)
def ck_h71 : List ck_Hd := []
set_option maxRecDepth 100000 in
theorem ck_k71 (l : Launch) (D : va_G) (st : Nat → Nat) : ck_Mt l D st ck_c71 := ck_sound (T := ck_T13) (cs := []) (hs := ck_h71) (sp := []) (fuel := 32) l ck_TSgood ck_okCl (ck_own (M0 := ck_m21) rfl rfl ck_okT13) ck_nil (by decide +kernel)
/-- SLModel.isStone -/
def ck_c72 : ck_C := (29, 101, [.inr (0, 77), .inl (0, 2147483647)], [((77, 2), .inr (0, 78)), ((78, 1293), .inl (0, 0))], [], [(some (.inl (0, 0)), [(0, 2147483647)], [], 101)], 1, 22, 0, 0)
def ck_h72 : List ck_Hd := []
set_option maxRecDepth 100000 in
theorem ck_k72 (l : Launch) (D : va_G) (st : Nat → Nat) : ck_Mt l D st ck_c72 := ck_sound (T := ck_T13) (cs := [ck_c71]) (hs := ck_h72) (sp := []) (fuel := 34) l ck_TSgood ck_okCl (ck_own (M0 := ck_m29) rfl rfl ck_okT13) (ck_cons (ck_k71 l D st) ck_nil) (by decide +kernel)
/-- SLModel.plane -/
def ck_c73 : ck_C := (28, 101, [.inr (0, 77), .inl (0, 2147483647), .inl (0, 2), .inl (0, 3), .inl (0, 999)], [((77, 2), .inr (0, 78)), ((78, 1293), .inl (0, 0))], [(77, 1)], [(some (.inl ((-2), (-2))), [(0, 2147483647), (0, 2), (0, 3), (0, 999)], [((77, 1), .inl ((-2), (-2)))], 101)], 2, 43, 0, 0)
def ck_h73 : List ck_Hd := []
set_option maxRecDepth 100000 in
theorem ck_k73 (l : Launch) (D : va_G) (st : Nat → Nat) : ck_Mt l D st ck_c73 := ck_sound (T := ck_T13) (cs := [ck_c56, ck_c61, ck_c66, ck_c72, ck_c69]) (hs := ck_h73) (sp := []) (fuel := 47) l ck_TSgood ck_okCl (ck_own (M0 := ck_m28) rfl rfl ck_okT13) (ck_cons (ck_k56 l D st) (ck_cons (ck_k61 l D st) (ck_cons (ck_k66 l D st) (ck_cons (ck_k72 l D st) (ck_cons (ck_k69 l D st) ck_nil))))) (by decide +kernel)
/-- SL.point -/
def ck_c74 : ck_C := (30, 101, [.inr (0, 0), .inl ((-2147483648), 2147483647), .inl ((-2147483648), 2147483647)], [((0, 1), .inr (0, 1)), ((1, 1), .inl (0, 0))], [(0, 15)], [(some (.inl ((-1), (-1))), [((-2147483648), 2147483647), ((-2147483648), (-1))], [((0, 15), .inl ((-1), (-1)))], 101), (some (.inl ((-1), (-1))), [((-2147483648), 2147483647), (1000, 2147483647)], [((0, 15), .inl ((-1), (-1)))], 101), (some (.inl ((-2), (-2))), [((-2147483648), (-1)), (0, 999)], [((0, 15), .inl ((-2), (-2)))], 101), (some (.inl ((-2), (-2))), [(0, 2147483647), (0, 999)], [((0, 15), .inl ((-2), (-2)))], 101)], 2, 43, 0, 0)
def ck_h74 : List ck_Hd := []
set_option maxRecDepth 100000 in
theorem ck_k74 (l : Launch) (D : va_G) (st : Nat → Nat) : ck_Mt l D st ck_c74 := ck_sound (T := ck_T0) (cs := [ck_c47, ck_c19, ck_c49, ck_c50]) (hs := ck_h74) (sp := []) (fuel := 38) l ck_TSgood ck_okCl (ck_own (M0 := ck_m30) rfl rfl ck_okT0) (ck_cons (ck_k47 l D st) (ck_cons (ck_k19 l D st) (ck_cons (ck_k49 l D st) (ck_cons (ck_k50 l D st) ck_nil)))) (by decide +kernel)
/-- SLModel.point -/
def ck_c75 : ck_C := (31, 101, [.inr (0, 77), .inl ((-2147483648), 2147483647), .inl ((-2147483648), (-1))], [], [(77, 1)], [(some (.inl ((-1), (-1))), [((-2147483648), 2147483647), ((-2147483648), (-1))], [((77, 1), .inl ((-1), (-1)))], 101)], 1, 22, 0, 0)
def ck_h75 : List ck_Hd := []
set_option maxRecDepth 100000 in
theorem ck_k75 (l : Launch) (D : va_G) (st : Nat → Nat) : ck_Mt l D st ck_c75 := ck_sound (T := ck_T13) (cs := [ck_c62, ck_c26]) (hs := ck_h75) (sp := []) (fuel := 33) l ck_TSgood ck_okCl (ck_own (M0 := ck_m31) rfl rfl ck_okT13) (ck_cons (ck_k62 l D st) (ck_cons (ck_k26 l D st) ck_nil)) (by decide +kernel)
/-- SLModel.point -/
def ck_c76 : ck_C := (31, 101, [.inr (0, 77), .inl ((-2147483648), 2147483647), .inl (1000, 2147483647)], [], [(77, 1)], [(some (.inl ((-1), (-1))), [((-2147483648), 2147483647), (1000, 2147483647)], [((77, 1), .inl ((-1), (-1)))], 101)], 1, 22, 0, 0)
def ck_h76 : List ck_Hd := []
set_option maxRecDepth 100000 in
theorem ck_k76 (l : Launch) (D : va_G) (st : Nat → Nat) : ck_Mt l D st ck_c76 := ck_sound (T := ck_T13) (cs := [ck_c64, ck_c26]) (hs := ck_h76) (sp := []) (fuel := 33) l ck_TSgood ck_okCl (ck_own (M0 := ck_m31) rfl rfl ck_okT13) (ck_cons (ck_k64 l D st) (ck_cons (ck_k26 l D st) ck_nil)) (by decide +kernel)
/-- SLModel.point -/
def ck_c77 : ck_C := (31, 101, [.inr (0, 77), .inl ((-2147483648), (-1)), .inl (0, 999)], [((77, 2), .inr (0, 78)), ((78, 1293), .inl (0, 0))], [(77, 1)], [(some (.inl ((-2), (-2))), [((-2147483648), (-1)), (0, 999)], [((77, 1), .inl ((-2), (-2)))], 101)], 2, 43, 0, 0)
def ck_h77 : List ck_Hd := []
set_option maxRecDepth 100000 in
theorem ck_k77 (l : Launch) (D : va_G) (st : Nat → Nat) : ck_Mt l D st ck_c77 := ck_sound (T := ck_T13) (cs := [ck_c66, ck_c68, ck_c69]) (hs := ck_h77) (sp := []) (fuel := 37) l ck_TSgood ck_okCl (ck_own (M0 := ck_m31) rfl rfl ck_okT13) (ck_cons (ck_k66 l D st) (ck_cons (ck_k68 l D st) (ck_cons (ck_k69 l D st) ck_nil))) (by decide +kernel)
/-- SLModel.point -/
def ck_c78 : ck_C := (31, 101, [.inr (0, 77), .inl (0, 2147483647), .inl (0, 999)], [((77, 2), .inr (0, 78)), ((78, 1293), .inl (0, 0))], [(77, 1)], [(some (.inl ((-2), (-2))), [(0, 2147483647), (0, 999)], [((77, 1), .inl ((-2), (-2)))], 101)], 2, 43, 0, 0)
def ck_h78 : List ck_Hd := []
set_option maxRecDepth 100000 in
theorem ck_k78 (l : Launch) (D : va_G) (st : Nat → Nat) : ck_Mt l D st ck_c78 := ck_sound (T := ck_T13) (cs := [ck_c66, ck_c72, ck_c69]) (hs := ck_h78) (sp := []) (fuel := 37) l ck_TSgood ck_okCl (ck_own (M0 := ck_m31) rfl rfl ck_okT13) (ck_cons (ck_k66 l D st) (ck_cons (ck_k72 l D st) (ck_cons (ck_k69 l D st) ck_nil))) (by decide +kernel)
/-- SL.within -/
def ck_c79 : ck_C := (16, 101, [.inl ((-2147483648), 2147483647), .inl (0, 0), .inl (1000, 1000)], [], [], [(some (.inl (0, 0)), [((-2147483648), (-1)), (0, 0), (1000, 1000)], [], 101), (some (.inl (0, 0)), [(1001, 2147483647), (0, 0), (1000, 1000)], [], 101), (some (.inl (1, 1)), [(0, 1000), (0, 0), (1000, 1000)], [], 101)], 0, 0, 0, 0)
def ck_h79 : List ck_Hd := []
set_option maxRecDepth 100000 in
theorem ck_k79 (l : Launch) (D : va_G) (st : Nat → Nat) : ck_Mt l D st ck_c79 := ck_sound (T := ck_T0) (cs := []) (hs := ck_h79) (sp := []) (fuel := 33) l ck_TSgood ck_okCl (ck_own (M0 := ck_m16) rfl rfl ck_okT0) ck_nil (by decide +kernel)
end
section
/-- SL.exchange -/
def ck_c80 : ck_C := (33, 101, [.inr (0, 7), .inl (0, 11), .inl (0, 1000)], [((7, 0), .inl (0, 0))], [(7, 0)], [(some (.inl (0, 0)), [(0, 11), (0, 1000)], [((7, 0), .inl (0, 1000))], 101)], 0, 0, 0, 0)
def ck_h80 : List ck_Hd := []
set_option maxRecDepth 100000 in
theorem ck_k80 (l : Launch) (D : va_G) (st : Nat → Nat) : ck_Mt l D st ck_c80 := ck_sound (T := ck_T0) (cs := []) (hs := ck_h80) (sp := []) (fuel := 34) l ck_TSgood ck_okCl (ck_own (M0 := ck_m33) rfl rfl ck_okT0) ck_nil (by decide +kernel)
/-- SL.known -/
def ck_c81 : ck_C := (32, 101, [.inr (0, 0), .inl ((-2147483648), 2147483647), .inl ((-2147483648), 2147483647)], [((0, 1), .inr (0, 1)), ((1, 7), .inr (0, 7)), ((7, 0), .inl (0, 0))], [(0, 15), (7, 0)], [(some (.inl ((-1), (-1))), [((-2147483648), (-1)), ((-2147483648), 2147483647)], [((0, 15), .inl ((-1), (-1))), ((7, 0), .inl (0, 0))], 101), (some (.inl ((-1), (-1))), [(12, 2147483647), ((-2147483648), 2147483647)], [((0, 15), .inl ((-1), (-1))), ((7, 0), .inl (0, 0))], 101), (some (.inl ((-1), (-1))), [(0, 11), ((-2147483648), (-1))], [((0, 15), .inl ((-1), (-1))), ((7, 0), .inl (0, 0))], 101), (some (.inl ((-1), (-1))), [(0, 11), (1001, 2147483647)], [((0, 15), .inl ((-1), (-1))), ((7, 0), .inl (0, 0))], 101), (some (.inl (0, 0)), [(0, 11), (0, 1000)], [((0, 15), .inl (0, 0)), ((7, 0), .inl (0, 1000))], 101)], 1, 23, 0, 0)
def ck_h81 : List ck_Hd := []
set_option maxRecDepth 100000 in
theorem ck_k81 (l : Launch) (D : va_G) (st : Nat → Nat) : ck_Mt l D st ck_c81 := ck_sound (T := ck_T0) (cs := [ck_c18, ck_c19, ck_c79, ck_c80, ck_c23]) (hs := ck_h81) (sp := []) (fuel := 43) l ck_TSgood ck_okCl (ck_own (M0 := ck_m32) rfl rfl ck_okT0) (ck_cons (ck_k18 l D st) (ck_cons (ck_k19 l D st) (ck_cons (ck_k79 l D st) (ck_cons (ck_k80 l D st) (ck_cons (ck_k23 l D st) ck_nil))))) (by decide +kernel)
/-- SLModel.known -/
def ck_c82 : ck_C := (34, 101, [.inr (0, 77), .inl ((-2147483648), (-1)), .inl ((-2147483648), 2147483647)], [], [(77, 1)], [(some (.inl ((-1), (-1))), [((-2147483648), (-1)), ((-2147483648), 2147483647)], [((77, 1), .inl ((-1), (-1)))], 101)], 1, 22, 0, 0)
def ck_h82 : List ck_Hd := []
set_option maxRecDepth 100000 in
theorem ck_k82 (l : Launch) (D : va_G) (st : Nat → Nat) : ck_Mt l D st ck_c82 := ck_sound (T := ck_T13) (cs := [ck_c25, ck_c26]) (hs := ck_h82) (sp := [(0, 0, 0), (0, 0, 1), (0, 0, 2), (0, 0, 3), (0, 0, 4), (0, 0, 5), (0, 0, 6), (0, 0, 7), (0, 0, 8), (0, 0, 9), (0, 0, 10)]) (fuel := 33) l ck_TSgood ck_okCl (ck_own (M0 := ck_m34) rfl rfl ck_okT13) (ck_cons (ck_k25 l D st) (ck_cons (ck_k26 l D st) ck_nil)) (by decide +kernel)
/-- SLModel.known -/
def ck_c83 : ck_C := (34, 101, [.inr (0, 77), .inl (12, 2147483647), .inl ((-2147483648), 2147483647)], [], [(77, 1)], [(some (.inl ((-1), (-1))), [(12, 2147483647), ((-2147483648), 2147483647)], [((77, 1), .inl ((-1), (-1)))], 101)], 1, 22, 0, 0)
def ck_h83 : List ck_Hd := []
set_option maxRecDepth 100000 in
theorem ck_k83 (l : Launch) (D : va_G) (st : Nat → Nat) : ck_Mt l D st ck_c83 := ck_sound (T := ck_T13) (cs := [ck_c28, ck_c26]) (hs := ck_h83) (sp := [(0, 0, 0), (0, 0, 1), (0, 0, 2), (0, 0, 3), (0, 0, 4), (0, 0, 5), (0, 0, 6), (0, 0, 7), (0, 0, 8), (0, 0, 9), (0, 0, 10)]) (fuel := 33) l ck_TSgood ck_okCl (ck_own (M0 := ck_m34) rfl rfl ck_okT13) (ck_cons (ck_k28 l D st) (ck_cons (ck_k26 l D st) ck_nil)) (by decide +kernel)
/-- SLModel.in -/
def ck_c84 : ck_C := (21, 101, [.inl (0, 0), .inl (0, 0), .inl (11, 11)], [], [], [(some (.inl (1, 1)), [(0, 0), (0, 0), (11, 11)], [], 101)], 0, 0, 0, 0)
def ck_h84 : List ck_Hd := []
set_option maxRecDepth 100000 in
theorem ck_k84 (l : Launch) (D : va_G) (st : Nat → Nat) : ck_Mt l D st ck_c84 := ck_sound (T := ck_T13) (cs := []) (hs := ck_h84) (sp := []) (fuel := 33) l ck_TSgood ck_okCl (ck_own (M0 := ck_m21) rfl rfl ck_okT13) ck_nil (by decide +kernel)
/-- SLModel.in -/
def ck_c85 : ck_C := (21, 101, [.inl ((-2147483648), (-1)), .inl (0, 0), .inl (1000, 1000)], [], [], [(some (.inl (0, 0)), [((-2147483648), (-1)), (0, 0), (1000, 1000)], [], 101)], 0, 0, 0, 0)
def ck_h85 : List ck_Hd := []
set_option maxRecDepth 100000 in
theorem ck_k85 (l : Launch) (D : va_G) (st : Nat → Nat) : ck_Mt l D st ck_c85 := ck_sound (T := ck_T13) (cs := []) (hs := ck_h85) (sp := []) (fuel := 29) l ck_TSgood ck_okCl (ck_own (M0 := ck_m21) rfl rfl ck_okT13) ck_nil (by decide +kernel)
/-- SLModel.in -/
def ck_c86 : ck_C := (21, 101, [.inl (1, 1), .inl (0, 0), .inl (11, 11)], [], [], [(some (.inl (1, 1)), [(1, 1), (0, 0), (11, 11)], [], 101)], 0, 0, 0, 0)
def ck_h86 : List ck_Hd := []
set_option maxRecDepth 100000 in
theorem ck_k86 (l : Launch) (D : va_G) (st : Nat → Nat) : ck_Mt l D st ck_c86 := ck_sound (T := ck_T13) (cs := []) (hs := ck_h86) (sp := []) (fuel := 33) l ck_TSgood ck_okCl (ck_own (M0 := ck_m21) rfl rfl ck_okT13) ck_nil (by decide +kernel)
/-- SLModel.in -/
def ck_c87 : ck_C := (21, 101, [.inl (2, 2), .inl (0, 0), .inl (11, 11)], [], [], [(some (.inl (1, 1)), [(2, 2), (0, 0), (11, 11)], [], 101)], 0, 0, 0, 0)
def ck_h87 : List ck_Hd := []
set_option maxRecDepth 100000 in
theorem ck_k87 (l : Launch) (D : va_G) (st : Nat → Nat) : ck_Mt l D st ck_c87 := ck_sound (T := ck_T13) (cs := []) (hs := ck_h87) (sp := []) (fuel := 33) l ck_TSgood ck_okCl (ck_own (M0 := ck_m21) rfl rfl ck_okT13) ck_nil (by decide +kernel)
/-- SLModel.in -/
def ck_c88 : ck_C := (21, 101, [.inl (3, 3), .inl (0, 0), .inl (11, 11)], [], [], [(some (.inl (1, 1)), [(3, 3), (0, 0), (11, 11)], [], 101)], 0, 0, 0, 0)
def ck_h88 : List ck_Hd := []
set_option maxRecDepth 100000 in
theorem ck_k88 (l : Launch) (D : va_G) (st : Nat → Nat) : ck_Mt l D st ck_c88 := ck_sound (T := ck_T13) (cs := []) (hs := ck_h88) (sp := []) (fuel := 33) l ck_TSgood ck_okCl (ck_own (M0 := ck_m21) rfl rfl ck_okT13) ck_nil (by decide +kernel)
/-- SLModel.in -/
def ck_c89 : ck_C := (21, 101, [.inl (4, 4), .inl (0, 0), .inl (11, 11)], [], [], [(some (.inl (1, 1)), [(4, 4), (0, 0), (11, 11)], [], 101)], 0, 0, 0, 0)
def ck_h89 : List ck_Hd := []
set_option maxRecDepth 100000 in
theorem ck_k89 (l : Launch) (D : va_G) (st : Nat → Nat) : ck_Mt l D st ck_c89 := ck_sound (T := ck_T13) (cs := []) (hs := ck_h89) (sp := []) (fuel := 33) l ck_TSgood ck_okCl (ck_own (M0 := ck_m21) rfl rfl ck_okT13) ck_nil (by decide +kernel)
/-- SLModel.in -/
def ck_c90 : ck_C := (21, 101, [.inl (5, 5), .inl (0, 0), .inl (11, 11)], [], [], [(some (.inl (1, 1)), [(5, 5), (0, 0), (11, 11)], [], 101)], 0, 0, 0, 0)
def ck_h90 : List ck_Hd := []
set_option maxRecDepth 100000 in
theorem ck_k90 (l : Launch) (D : va_G) (st : Nat → Nat) : ck_Mt l D st ck_c90 := ck_sound (T := ck_T13) (cs := []) (hs := ck_h90) (sp := []) (fuel := 33) l ck_TSgood ck_okCl (ck_own (M0 := ck_m21) rfl rfl ck_okT13) ck_nil (by decide +kernel)
/-- SLModel.in -/
def ck_c91 : ck_C := (21, 101, [.inl (6, 6), .inl (0, 0), .inl (11, 11)], [], [], [(some (.inl (1, 1)), [(6, 6), (0, 0), (11, 11)], [], 101)], 0, 0, 0, 0)
def ck_h91 : List ck_Hd := []
set_option maxRecDepth 100000 in
theorem ck_k91 (l : Launch) (D : va_G) (st : Nat → Nat) : ck_Mt l D st ck_c91 := ck_sound (T := ck_T13) (cs := []) (hs := ck_h91) (sp := []) (fuel := 33) l ck_TSgood ck_okCl (ck_own (M0 := ck_m21) rfl rfl ck_okT13) ck_nil (by decide +kernel)
/-- SLModel.in -/
def ck_c92 : ck_C := (21, 101, [.inl (7, 7), .inl (0, 0), .inl (11, 11)], [], [], [(some (.inl (1, 1)), [(7, 7), (0, 0), (11, 11)], [], 101)], 0, 0, 0, 0)
def ck_h92 : List ck_Hd := []
set_option maxRecDepth 100000 in
theorem ck_k92 (l : Launch) (D : va_G) (st : Nat → Nat) : ck_Mt l D st ck_c92 := ck_sound (T := ck_T13) (cs := []) (hs := ck_h92) (sp := []) (fuel := 33) l ck_TSgood ck_okCl (ck_own (M0 := ck_m21) rfl rfl ck_okT13) ck_nil (by decide +kernel)
/-- SLModel.in -/
def ck_c93 : ck_C := (21, 101, [.inl (8, 8), .inl (0, 0), .inl (11, 11)], [], [], [(some (.inl (1, 1)), [(8, 8), (0, 0), (11, 11)], [], 101)], 0, 0, 0, 0)
def ck_h93 : List ck_Hd := []
set_option maxRecDepth 100000 in
theorem ck_k93 (l : Launch) (D : va_G) (st : Nat → Nat) : ck_Mt l D st ck_c93 := ck_sound (T := ck_T13) (cs := []) (hs := ck_h93) (sp := []) (fuel := 33) l ck_TSgood ck_okCl (ck_own (M0 := ck_m21) rfl rfl ck_okT13) ck_nil (by decide +kernel)
/-- SLModel.in -/
def ck_c94 : ck_C := (21, 101, [.inl (9, 9), .inl (0, 0), .inl (11, 11)], [], [], [(some (.inl (1, 1)), [(9, 9), (0, 0), (11, 11)], [], 101)], 0, 0, 0, 0)
def ck_h94 : List ck_Hd := []
set_option maxRecDepth 100000 in
theorem ck_k94 (l : Launch) (D : va_G) (st : Nat → Nat) : ck_Mt l D st ck_c94 := ck_sound (T := ck_T13) (cs := []) (hs := ck_h94) (sp := []) (fuel := 33) l ck_TSgood ck_okCl (ck_own (M0 := ck_m21) rfl rfl ck_okT13) ck_nil (by decide +kernel)
/-- SLModel.in -/
def ck_c95 : ck_C := (21, 101, [.inl (10, 10), .inl (0, 0), .inl (11, 11)], [], [], [(some (.inl (1, 1)), [(10, 10), (0, 0), (11, 11)], [], 101)], 0, 0, 0, 0)
def ck_h95 : List ck_Hd := []
set_option maxRecDepth 100000 in
theorem ck_k95 (l : Launch) (D : va_G) (st : Nat → Nat) : ck_Mt l D st ck_c95 := ck_sound (T := ck_T13) (cs := []) (hs := ck_h95) (sp := []) (fuel := 33) l ck_TSgood ck_okCl (ck_own (M0 := ck_m21) rfl rfl ck_okT13) ck_nil (by decide +kernel)
/-- SLModel.in -/
def ck_c96 : ck_C := (21, 101, [.inl (11, 11), .inl (0, 0), .inl (11, 11)], [], [], [(some (.inl (1, 1)), [(11, 11), (0, 0), (11, 11)], [], 101)], 0, 0, 0, 0)
def ck_h96 : List ck_Hd := []
set_option maxRecDepth 100000 in
theorem ck_k96 (l : Launch) (D : va_G) (st : Nat → Nat) : ck_Mt l D st ck_c96 := ck_sound (T := ck_T13) (cs := []) (hs := ck_h96) (sp := []) (fuel := 33) l ck_TSgood ck_okCl (ck_own (M0 := ck_m21) rfl rfl ck_okT13) ck_nil (by decide +kernel)
/-- SLModel.known -/
def ck_c97 : ck_C := (34, 101, [.inr (0, 77), .inl (0, 11), .inl ((-2147483648), (-1))], [], [(77, 1)], [(some (.inl ((-1), (-1))), [(0, 11), ((-2147483648), (-1))], [((77, 1), .inl ((-1), (-1)))], 101)], 1, 22, 0, 0)
def ck_h97 : List ck_Hd := []
set_option maxRecDepth 100000 in
theorem ck_k97 (l : Launch) (D : va_G) (st : Nat → Nat) : ck_Mt l D st ck_c97 := ck_sound (T := ck_T13) (cs := [ck_c84, ck_c85, ck_c26, ck_c86, ck_c87, ck_c88, ck_c89, ck_c90, ck_c91, ck_c92, ck_c93, ck_c94, ck_c95, ck_c96]) (hs := ck_h97) (sp := [(0, 0, 0), (0, 0, 1), (0, 0, 2), (0, 0, 3), (0, 0, 4), (0, 0, 5), (0, 0, 6), (0, 0, 7), (0, 0, 8), (0, 0, 9), (0, 0, 10)]) (fuel := 49) l ck_TSgood ck_okCl (ck_own (M0 := ck_m34) rfl rfl ck_okT13) (ck_cons (ck_k84 l D st) (ck_cons (ck_k85 l D st) (ck_cons (ck_k26 l D st) (ck_cons (ck_k86 l D st) (ck_cons (ck_k87 l D st) (ck_cons (ck_k88 l D st) (ck_cons (ck_k89 l D st) (ck_cons (ck_k90 l D st) (ck_cons (ck_k91 l D st) (ck_cons (ck_k92 l D st) (ck_cons (ck_k93 l D st) (ck_cons (ck_k94 l D st) (ck_cons (ck_k95 l D st) (ck_cons (ck_k96 l D st) ck_nil)))))))))))))) (by decide +kernel)
/-- SLModel.in -/
def ck_c98 : ck_C := (21, 101, [.inl (1001, 2147483647), .inl (0, 0), .inl (1000, 1000)], [], [], [(some (.inl (0, 0)), [(1001, 2147483647), (0, 0), (1000, 1000)], [], 101)], 0, 0, 0, 0)
def ck_h98 : List ck_Hd := []
set_option maxRecDepth 100000 in
theorem ck_k98 (l : Launch) (D : va_G) (st : Nat → Nat) : ck_Mt l D st ck_c98 := ck_sound (T := ck_T13) (cs := []) (hs := ck_h98) (sp := []) (fuel := 32) l ck_TSgood ck_okCl (ck_own (M0 := ck_m21) rfl rfl ck_okT13) ck_nil (by decide +kernel)
/-- SLModel.known -/
def ck_c99 : ck_C := (34, 101, [.inr (0, 77), .inl (0, 11), .inl (1001, 2147483647)], [], [(77, 1)], [(some (.inl ((-1), (-1))), [(0, 11), (1001, 2147483647)], [((77, 1), .inl ((-1), (-1)))], 101)], 1, 22, 0, 0)
def ck_h99 : List ck_Hd := []
set_option maxRecDepth 100000 in
theorem ck_k99 (l : Launch) (D : va_G) (st : Nat → Nat) : ck_Mt l D st ck_c99 := ck_sound (T := ck_T13) (cs := [ck_c84, ck_c98, ck_c26, ck_c86, ck_c87, ck_c88, ck_c89, ck_c90, ck_c91, ck_c92, ck_c93, ck_c94, ck_c95, ck_c96]) (hs := ck_h99) (sp := [(0, 0, 0), (0, 0, 1), (0, 0, 2), (0, 0, 3), (0, 0, 4), (0, 0, 5), (0, 0, 6), (0, 0, 7), (0, 0, 8), (0, 0, 9), (0, 0, 10)]) (fuel := 49) l ck_TSgood ck_okCl (ck_own (M0 := ck_m34) rfl rfl ck_okT13) (ck_cons (ck_k84 l D st) (ck_cons (ck_k98 l D st) (ck_cons (ck_k26 l D st) (ck_cons (ck_k86 l D st) (ck_cons (ck_k87 l D st) (ck_cons (ck_k88 l D st) (ck_cons (ck_k89 l D st) (ck_cons (ck_k90 l D st) (ck_cons (ck_k91 l D st) (ck_cons (ck_k92 l D st) (ck_cons (ck_k93 l D st) (ck_cons (ck_k94 l D st) (ck_cons (ck_k95 l D st) (ck_cons (ck_k96 l D st) ck_nil)))))))))))))) (by decide +kernel)
/-- SLModel.in -/
def ck_c100 : ck_C := (21, 101, [.inl (0, 1000), .inl (0, 0), .inl (1000, 1000)], [], [], [(some (.inl (1, 1)), [(0, 1000), (0, 0), (1000, 1000)], [], 101)], 0, 0, 0, 0)
def ck_h100 : List ck_Hd := []
set_option maxRecDepth 100000 in
theorem ck_k100 (l : Launch) (D : va_G) (st : Nat → Nat) : ck_Mt l D st ck_c100 := ck_sound (T := ck_T13) (cs := []) (hs := ck_h100) (sp := []) (fuel := 33) l ck_TSgood ck_okCl (ck_own (M0 := ck_m21) rfl rfl ck_okT13) ck_nil (by decide +kernel)
/-- SLModel.replaces -/
def ck_c101 : ck_C := (35, 101, [.inr (0, 77), .inl (192, 192), .inl (0, 1000)], [((77, 2), .inr (0, 78)), ((78, 0), .inl ((-1), 15)), ((78, 193), .inl (0, 0)), ((78, 194), .inl (0, 0)), ((78, 195), .inl (0, 0)), ((78, 196), .inl (0, 0)), ((78, 197), .inl (0, 0)), ((78, 198), .inl (0, 0)), ((78, 199), .inl (0, 0)), ((78, 200), .inl (0, 0)), ((78, 201), .inl (0, 0)), ((78, 202), .inl (0, 0)), ((78, 203), .inl (0, 0)), ((78, 204), .inl (0, 0)), ((78, 1293), .inl (0, 0)), ((78, 1294), .inl (0, 0)), ((78, 1295), .inl (0, 0))], [(77, 1), (78, 0)], [(some (.inl (0, 0)), [(192, 192), (0, 1000)], [((77, 1), .inl (0, 0)), ((78, 0), .inl ((-1), 1000)), ((78, 193), .inl (0, 1000)), ((78, 194), .inl (0, 0)), ((78, 195), .inl (0, 0)), ((78, 196), .inl (0, 0)), ((78, 197), .inl (0, 0)), ((78, 198), .inl (0, 0)), ((78, 199), .inl (0, 0)), ((78, 200), .inl (0, 0)), ((78, 201), .inl (0, 0)), ((78, 202), .inl (0, 0)), ((78, 203), .inl (0, 0)), ((78, 204), .inl (0, 0)), ((78, 1293), .inl (0, 0)), ((78, 1294), .inl (0, 0)), ((78, 1295), .inl (0, 0))], 101)], 1, 21, 0, 0)
def ck_h101 : List ck_Hd := []
set_option maxRecDepth 100000 in
theorem ck_k101 (l : Launch) (D : va_G) (st : Nat → Nat) : ck_Mt l D st ck_c101 := ck_sound (T := ck_T13) (cs := [ck_c42]) (hs := ck_h101) (sp := []) (fuel := 38) l ck_TSgood ck_okCl (ck_own (M0 := ck_m35) rfl rfl ck_okT13) (ck_cons (ck_k42 l D st) ck_nil) (by decide +kernel)
/-- SLModel.replaces -/
def ck_c102 : ck_C := (35, 101, [.inr (0, 77), .inl (193, 193), .inl (0, 1000)], [((77, 2), .inr (0, 78)), ((78, 0), .inl ((-1), 15)), ((78, 193), .inl (0, 0)), ((78, 194), .inl (0, 0)), ((78, 195), .inl (0, 0)), ((78, 196), .inl (0, 0)), ((78, 197), .inl (0, 0)), ((78, 198), .inl (0, 0)), ((78, 199), .inl (0, 0)), ((78, 200), .inl (0, 0)), ((78, 201), .inl (0, 0)), ((78, 202), .inl (0, 0)), ((78, 203), .inl (0, 0)), ((78, 204), .inl (0, 0)), ((78, 1293), .inl (0, 0)), ((78, 1294), .inl (0, 0)), ((78, 1295), .inl (0, 0))], [(77, 1), (78, 0)], [(some (.inl (0, 0)), [(193, 193), (0, 1000)], [((77, 1), .inl (0, 0)), ((78, 0), .inl ((-1), 1000)), ((78, 193), .inl (0, 0)), ((78, 194), .inl (0, 1000)), ((78, 195), .inl (0, 0)), ((78, 196), .inl (0, 0)), ((78, 197), .inl (0, 0)), ((78, 198), .inl (0, 0)), ((78, 199), .inl (0, 0)), ((78, 200), .inl (0, 0)), ((78, 201), .inl (0, 0)), ((78, 202), .inl (0, 0)), ((78, 203), .inl (0, 0)), ((78, 204), .inl (0, 0)), ((78, 1293), .inl (0, 0)), ((78, 1294), .inl (0, 0)), ((78, 1295), .inl (0, 0))], 101)], 1, 21, 0, 0)
def ck_h102 : List ck_Hd := []
set_option maxRecDepth 100000 in
theorem ck_k102 (l : Launch) (D : va_G) (st : Nat → Nat) : ck_Mt l D st ck_c102 := ck_sound (T := ck_T13) (cs := [ck_c42]) (hs := ck_h102) (sp := []) (fuel := 38) l ck_TSgood ck_okCl (ck_own (M0 := ck_m35) rfl rfl ck_okT13) (ck_cons (ck_k42 l D st) ck_nil) (by decide +kernel)
/-- SLModel.replaces -/
def ck_c103 : ck_C := (35, 101, [.inr (0, 77), .inl (194, 194), .inl (0, 1000)], [((77, 2), .inr (0, 78)), ((78, 0), .inl ((-1), 15)), ((78, 193), .inl (0, 0)), ((78, 194), .inl (0, 0)), ((78, 195), .inl (0, 0)), ((78, 196), .inl (0, 0)), ((78, 197), .inl (0, 0)), ((78, 198), .inl (0, 0)), ((78, 199), .inl (0, 0)), ((78, 200), .inl (0, 0)), ((78, 201), .inl (0, 0)), ((78, 202), .inl (0, 0)), ((78, 203), .inl (0, 0)), ((78, 204), .inl (0, 0)), ((78, 1293), .inl (0, 0)), ((78, 1294), .inl (0, 0)), ((78, 1295), .inl (0, 0))], [(77, 1), (78, 0)], [(some (.inl (0, 0)), [(194, 194), (0, 1000)], [((77, 1), .inl (0, 0)), ((78, 0), .inl ((-1), 1000)), ((78, 193), .inl (0, 0)), ((78, 194), .inl (0, 0)), ((78, 195), .inl (0, 1000)), ((78, 196), .inl (0, 0)), ((78, 197), .inl (0, 0)), ((78, 198), .inl (0, 0)), ((78, 199), .inl (0, 0)), ((78, 200), .inl (0, 0)), ((78, 201), .inl (0, 0)), ((78, 202), .inl (0, 0)), ((78, 203), .inl (0, 0)), ((78, 204), .inl (0, 0)), ((78, 1293), .inl (0, 0)), ((78, 1294), .inl (0, 0)), ((78, 1295), .inl (0, 0))], 101)], 1, 21, 0, 0)
def ck_h103 : List ck_Hd := []
set_option maxRecDepth 100000 in
theorem ck_k103 (l : Launch) (D : va_G) (st : Nat → Nat) : ck_Mt l D st ck_c103 := ck_sound (T := ck_T13) (cs := [ck_c42]) (hs := ck_h103) (sp := []) (fuel := 38) l ck_TSgood ck_okCl (ck_own (M0 := ck_m35) rfl rfl ck_okT13) (ck_cons (ck_k42 l D st) ck_nil) (by decide +kernel)
/-- SLModel.replaces -/
def ck_c104 : ck_C := (35, 101, [.inr (0, 77), .inl (195, 195), .inl (0, 1000)], [((77, 2), .inr (0, 78)), ((78, 0), .inl ((-1), 15)), ((78, 193), .inl (0, 0)), ((78, 194), .inl (0, 0)), ((78, 195), .inl (0, 0)), ((78, 196), .inl (0, 0)), ((78, 197), .inl (0, 0)), ((78, 198), .inl (0, 0)), ((78, 199), .inl (0, 0)), ((78, 200), .inl (0, 0)), ((78, 201), .inl (0, 0)), ((78, 202), .inl (0, 0)), ((78, 203), .inl (0, 0)), ((78, 204), .inl (0, 0)), ((78, 1293), .inl (0, 0)), ((78, 1294), .inl (0, 0)), ((78, 1295), .inl (0, 0))], [(77, 1), (78, 0)], [(some (.inl (0, 0)), [(195, 195), (0, 1000)], [((77, 1), .inl (0, 0)), ((78, 0), .inl ((-1), 1000)), ((78, 193), .inl (0, 0)), ((78, 194), .inl (0, 0)), ((78, 195), .inl (0, 0)), ((78, 196), .inl (0, 1000)), ((78, 197), .inl (0, 0)), ((78, 198), .inl (0, 0)), ((78, 199), .inl (0, 0)), ((78, 200), .inl (0, 0)), ((78, 201), .inl (0, 0)), ((78, 202), .inl (0, 0)), ((78, 203), .inl (0, 0)), ((78, 204), .inl (0, 0)), ((78, 1293), .inl (0, 0)), ((78, 1294), .inl (0, 0)), ((78, 1295), .inl (0, 0))], 101)], 1, 21, 0, 0)
def ck_h104 : List ck_Hd := []
set_option maxRecDepth 100000 in
theorem ck_k104 (l : Launch) (D : va_G) (st : Nat → Nat) : ck_Mt l D st ck_c104 := ck_sound (T := ck_T13) (cs := [ck_c42]) (hs := ck_h104) (sp := []) (fuel := 38) l ck_TSgood ck_okCl (ck_own (M0 := ck_m35) rfl rfl ck_okT13) (ck_cons (ck_k42 l D st) ck_nil) (by decide +kernel)
/-- SLModel.replaces -/
def ck_c105 : ck_C := (35, 101, [.inr (0, 77), .inl (196, 196), .inl (0, 1000)], [((77, 2), .inr (0, 78)), ((78, 0), .inl ((-1), 15)), ((78, 193), .inl (0, 0)), ((78, 194), .inl (0, 0)), ((78, 195), .inl (0, 0)), ((78, 196), .inl (0, 0)), ((78, 197), .inl (0, 0)), ((78, 198), .inl (0, 0)), ((78, 199), .inl (0, 0)), ((78, 200), .inl (0, 0)), ((78, 201), .inl (0, 0)), ((78, 202), .inl (0, 0)), ((78, 203), .inl (0, 0)), ((78, 204), .inl (0, 0)), ((78, 1293), .inl (0, 0)), ((78, 1294), .inl (0, 0)), ((78, 1295), .inl (0, 0))], [(77, 1), (78, 0)], [(some (.inl (0, 0)), [(196, 196), (0, 1000)], [((77, 1), .inl (0, 0)), ((78, 0), .inl ((-1), 1000)), ((78, 193), .inl (0, 0)), ((78, 194), .inl (0, 0)), ((78, 195), .inl (0, 0)), ((78, 196), .inl (0, 0)), ((78, 197), .inl (0, 1000)), ((78, 198), .inl (0, 0)), ((78, 199), .inl (0, 0)), ((78, 200), .inl (0, 0)), ((78, 201), .inl (0, 0)), ((78, 202), .inl (0, 0)), ((78, 203), .inl (0, 0)), ((78, 204), .inl (0, 0)), ((78, 1293), .inl (0, 0)), ((78, 1294), .inl (0, 0)), ((78, 1295), .inl (0, 0))], 101)], 1, 21, 0, 0)
def ck_h105 : List ck_Hd := []
set_option maxRecDepth 100000 in
theorem ck_k105 (l : Launch) (D : va_G) (st : Nat → Nat) : ck_Mt l D st ck_c105 := ck_sound (T := ck_T13) (cs := [ck_c42]) (hs := ck_h105) (sp := []) (fuel := 38) l ck_TSgood ck_okCl (ck_own (M0 := ck_m35) rfl rfl ck_okT13) (ck_cons (ck_k42 l D st) ck_nil) (by decide +kernel)
/-- SLModel.replaces -/
def ck_c106 : ck_C := (35, 101, [.inr (0, 77), .inl (197, 197), .inl (0, 1000)], [((77, 2), .inr (0, 78)), ((78, 0), .inl ((-1), 15)), ((78, 193), .inl (0, 0)), ((78, 194), .inl (0, 0)), ((78, 195), .inl (0, 0)), ((78, 196), .inl (0, 0)), ((78, 197), .inl (0, 0)), ((78, 198), .inl (0, 0)), ((78, 199), .inl (0, 0)), ((78, 200), .inl (0, 0)), ((78, 201), .inl (0, 0)), ((78, 202), .inl (0, 0)), ((78, 203), .inl (0, 0)), ((78, 204), .inl (0, 0)), ((78, 1293), .inl (0, 0)), ((78, 1294), .inl (0, 0)), ((78, 1295), .inl (0, 0))], [(77, 1), (78, 0)], [(some (.inl (0, 0)), [(197, 197), (0, 1000)], [((77, 1), .inl (0, 0)), ((78, 0), .inl ((-1), 1000)), ((78, 193), .inl (0, 0)), ((78, 194), .inl (0, 0)), ((78, 195), .inl (0, 0)), ((78, 196), .inl (0, 0)), ((78, 197), .inl (0, 0)), ((78, 198), .inl (0, 1000)), ((78, 199), .inl (0, 0)), ((78, 200), .inl (0, 0)), ((78, 201), .inl (0, 0)), ((78, 202), .inl (0, 0)), ((78, 203), .inl (0, 0)), ((78, 204), .inl (0, 0)), ((78, 1293), .inl (0, 0)), ((78, 1294), .inl (0, 0)), ((78, 1295), .inl (0, 0))], 101)], 1, 21, 0, 0)
def ck_h106 : List ck_Hd := []
set_option maxRecDepth 100000 in
theorem ck_k106 (l : Launch) (D : va_G) (st : Nat → Nat) : ck_Mt l D st ck_c106 := ck_sound (T := ck_T13) (cs := [ck_c42]) (hs := ck_h106) (sp := []) (fuel := 38) l ck_TSgood ck_okCl (ck_own (M0 := ck_m35) rfl rfl ck_okT13) (ck_cons (ck_k42 l D st) ck_nil) (by decide +kernel)
/-- SLModel.replaces -/
def ck_c107 : ck_C := (35, 101, [.inr (0, 77), .inl (198, 198), .inl (0, 1000)], [((77, 2), .inr (0, 78)), ((78, 0), .inl ((-1), 15)), ((78, 193), .inl (0, 0)), ((78, 194), .inl (0, 0)), ((78, 195), .inl (0, 0)), ((78, 196), .inl (0, 0)), ((78, 197), .inl (0, 0)), ((78, 198), .inl (0, 0)), ((78, 199), .inl (0, 0)), ((78, 200), .inl (0, 0)), ((78, 201), .inl (0, 0)), ((78, 202), .inl (0, 0)), ((78, 203), .inl (0, 0)), ((78, 204), .inl (0, 0)), ((78, 1293), .inl (0, 0)), ((78, 1294), .inl (0, 0)), ((78, 1295), .inl (0, 0))], [(77, 1), (78, 0)], [(some (.inl (0, 0)), [(198, 198), (0, 1000)], [((77, 1), .inl (0, 0)), ((78, 0), .inl ((-1), 1000)), ((78, 193), .inl (0, 0)), ((78, 194), .inl (0, 0)), ((78, 195), .inl (0, 0)), ((78, 196), .inl (0, 0)), ((78, 197), .inl (0, 0)), ((78, 198), .inl (0, 0)), ((78, 199), .inl (0, 1000)), ((78, 200), .inl (0, 0)), ((78, 201), .inl (0, 0)), ((78, 202), .inl (0, 0)), ((78, 203), .inl (0, 0)), ((78, 204), .inl (0, 0)), ((78, 1293), .inl (0, 0)), ((78, 1294), .inl (0, 0)), ((78, 1295), .inl (0, 0))], 101)], 1, 21, 0, 0)
def ck_h107 : List ck_Hd := []
set_option maxRecDepth 100000 in
theorem ck_k107 (l : Launch) (D : va_G) (st : Nat → Nat) : ck_Mt l D st ck_c107 := ck_sound (T := ck_T13) (cs := [ck_c42]) (hs := ck_h107) (sp := []) (fuel := 38) l ck_TSgood ck_okCl (ck_own (M0 := ck_m35) rfl rfl ck_okT13) (ck_cons (ck_k42 l D st) ck_nil) (by decide +kernel)
/-- SLModel.replaces -/
def ck_c108 : ck_C := (35, 101, [.inr (0, 77), .inl (199, 199), .inl (0, 1000)], [((77, 2), .inr (0, 78)), ((78, 0), .inl ((-1), 15)), ((78, 193), .inl (0, 0)), ((78, 194), .inl (0, 0)), ((78, 195), .inl (0, 0)), ((78, 196), .inl (0, 0)), ((78, 197), .inl (0, 0)), ((78, 198), .inl (0, 0)), ((78, 199), .inl (0, 0)), ((78, 200), .inl (0, 0)), ((78, 201), .inl (0, 0)), ((78, 202), .inl (0, 0)), ((78, 203), .inl (0, 0)), ((78, 204), .inl (0, 0)), ((78, 1293), .inl (0, 0)), ((78, 1294), .inl (0, 0)), ((78, 1295), .inl (0, 0))], [(77, 1), (78, 0)], [(some (.inl (0, 0)), [(199, 199), (0, 1000)], [((77, 1), .inl (0, 0)), ((78, 0), .inl ((-1), 1000)), ((78, 193), .inl (0, 0)), ((78, 194), .inl (0, 0)), ((78, 195), .inl (0, 0)), ((78, 196), .inl (0, 0)), ((78, 197), .inl (0, 0)), ((78, 198), .inl (0, 0)), ((78, 199), .inl (0, 0)), ((78, 200), .inl (0, 1000)), ((78, 201), .inl (0, 0)), ((78, 202), .inl (0, 0)), ((78, 203), .inl (0, 0)), ((78, 204), .inl (0, 0)), ((78, 1293), .inl (0, 0)), ((78, 1294), .inl (0, 0)), ((78, 1295), .inl (0, 0))], 101)], 1, 21, 0, 0)
def ck_h108 : List ck_Hd := []
set_option maxRecDepth 100000 in
theorem ck_k108 (l : Launch) (D : va_G) (st : Nat → Nat) : ck_Mt l D st ck_c108 := ck_sound (T := ck_T13) (cs := [ck_c42]) (hs := ck_h108) (sp := []) (fuel := 38) l ck_TSgood ck_okCl (ck_own (M0 := ck_m35) rfl rfl ck_okT13) (ck_cons (ck_k42 l D st) ck_nil) (by decide +kernel)
/-- SLModel.replaces -/
def ck_c109 : ck_C := (35, 101, [.inr (0, 77), .inl (200, 200), .inl (0, 1000)], [((77, 2), .inr (0, 78)), ((78, 0), .inl ((-1), 15)), ((78, 193), .inl (0, 0)), ((78, 194), .inl (0, 0)), ((78, 195), .inl (0, 0)), ((78, 196), .inl (0, 0)), ((78, 197), .inl (0, 0)), ((78, 198), .inl (0, 0)), ((78, 199), .inl (0, 0)), ((78, 200), .inl (0, 0)), ((78, 201), .inl (0, 0)), ((78, 202), .inl (0, 0)), ((78, 203), .inl (0, 0)), ((78, 204), .inl (0, 0)), ((78, 1293), .inl (0, 0)), ((78, 1294), .inl (0, 0)), ((78, 1295), .inl (0, 0))], [(77, 1), (78, 0)], [(some (.inl (0, 0)), [(200, 200), (0, 1000)], [((77, 1), .inl (0, 0)), ((78, 0), .inl ((-1), 1000)), ((78, 193), .inl (0, 0)), ((78, 194), .inl (0, 0)), ((78, 195), .inl (0, 0)), ((78, 196), .inl (0, 0)), ((78, 197), .inl (0, 0)), ((78, 198), .inl (0, 0)), ((78, 199), .inl (0, 0)), ((78, 200), .inl (0, 0)), ((78, 201), .inl (0, 1000)), ((78, 202), .inl (0, 0)), ((78, 203), .inl (0, 0)), ((78, 204), .inl (0, 0)), ((78, 1293), .inl (0, 0)), ((78, 1294), .inl (0, 0)), ((78, 1295), .inl (0, 0))], 101)], 1, 21, 0, 0)
def ck_h109 : List ck_Hd := []
set_option maxRecDepth 100000 in
theorem ck_k109 (l : Launch) (D : va_G) (st : Nat → Nat) : ck_Mt l D st ck_c109 := ck_sound (T := ck_T13) (cs := [ck_c42]) (hs := ck_h109) (sp := []) (fuel := 38) l ck_TSgood ck_okCl (ck_own (M0 := ck_m35) rfl rfl ck_okT13) (ck_cons (ck_k42 l D st) ck_nil) (by decide +kernel)
/-- SLModel.replaces -/
def ck_c110 : ck_C := (35, 101, [.inr (0, 77), .inl (201, 201), .inl (0, 1000)], [((77, 2), .inr (0, 78)), ((78, 0), .inl ((-1), 15)), ((78, 193), .inl (0, 0)), ((78, 194), .inl (0, 0)), ((78, 195), .inl (0, 0)), ((78, 196), .inl (0, 0)), ((78, 197), .inl (0, 0)), ((78, 198), .inl (0, 0)), ((78, 199), .inl (0, 0)), ((78, 200), .inl (0, 0)), ((78, 201), .inl (0, 0)), ((78, 202), .inl (0, 0)), ((78, 203), .inl (0, 0)), ((78, 204), .inl (0, 0)), ((78, 1293), .inl (0, 0)), ((78, 1294), .inl (0, 0)), ((78, 1295), .inl (0, 0))], [(77, 1), (78, 0)], [(some (.inl (0, 0)), [(201, 201), (0, 1000)], [((77, 1), .inl (0, 0)), ((78, 0), .inl ((-1), 1000)), ((78, 193), .inl (0, 0)), ((78, 194), .inl (0, 0)), ((78, 195), .inl (0, 0)), ((78, 196), .inl (0, 0)), ((78, 197), .inl (0, 0)), ((78, 198), .inl (0, 0)), ((78, 199), .inl (0, 0)), ((78, 200), .inl (0, 0)), ((78, 201), .inl (0, 0)), ((78, 202), .inl (0, 1000)), ((78, 203), .inl (0, 0)), ((78, 204), .inl (0, 0)), ((78, 1293), .inl (0, 0)), ((78, 1294), .inl (0, 0)), ((78, 1295), .inl (0, 0))], 101)], 1, 21, 0, 0)
def ck_h110 : List ck_Hd := []
set_option maxRecDepth 100000 in
theorem ck_k110 (l : Launch) (D : va_G) (st : Nat → Nat) : ck_Mt l D st ck_c110 := ck_sound (T := ck_T13) (cs := [ck_c42]) (hs := ck_h110) (sp := []) (fuel := 38) l ck_TSgood ck_okCl (ck_own (M0 := ck_m35) rfl rfl ck_okT13) (ck_cons (ck_k42 l D st) ck_nil) (by decide +kernel)
/-- SLModel.replaces -/
def ck_c111 : ck_C := (35, 101, [.inr (0, 77), .inl (202, 202), .inl (0, 1000)], [((77, 2), .inr (0, 78)), ((78, 0), .inl ((-1), 15)), ((78, 193), .inl (0, 0)), ((78, 194), .inl (0, 0)), ((78, 195), .inl (0, 0)), ((78, 196), .inl (0, 0)), ((78, 197), .inl (0, 0)), ((78, 198), .inl (0, 0)), ((78, 199), .inl (0, 0)), ((78, 200), .inl (0, 0)), ((78, 201), .inl (0, 0)), ((78, 202), .inl (0, 0)), ((78, 203), .inl (0, 0)), ((78, 204), .inl (0, 0)), ((78, 1293), .inl (0, 0)), ((78, 1294), .inl (0, 0)), ((78, 1295), .inl (0, 0))], [(77, 1), (78, 0)], [(some (.inl (0, 0)), [(202, 202), (0, 1000)], [((77, 1), .inl (0, 0)), ((78, 0), .inl ((-1), 1000)), ((78, 193), .inl (0, 0)), ((78, 194), .inl (0, 0)), ((78, 195), .inl (0, 0)), ((78, 196), .inl (0, 0)), ((78, 197), .inl (0, 0)), ((78, 198), .inl (0, 0)), ((78, 199), .inl (0, 0)), ((78, 200), .inl (0, 0)), ((78, 201), .inl (0, 0)), ((78, 202), .inl (0, 0)), ((78, 203), .inl (0, 1000)), ((78, 204), .inl (0, 0)), ((78, 1293), .inl (0, 0)), ((78, 1294), .inl (0, 0)), ((78, 1295), .inl (0, 0))], 101)], 1, 21, 0, 0)
def ck_h111 : List ck_Hd := []
set_option maxRecDepth 100000 in
theorem ck_k111 (l : Launch) (D : va_G) (st : Nat → Nat) : ck_Mt l D st ck_c111 := ck_sound (T := ck_T13) (cs := [ck_c42]) (hs := ck_h111) (sp := []) (fuel := 38) l ck_TSgood ck_okCl (ck_own (M0 := ck_m35) rfl rfl ck_okT13) (ck_cons (ck_k42 l D st) ck_nil) (by decide +kernel)
/-- SLModel.replaces -/
def ck_c112 : ck_C := (35, 101, [.inr (0, 77), .inl (203, 203), .inl (0, 1000)], [((77, 2), .inr (0, 78)), ((78, 0), .inl ((-1), 15)), ((78, 193), .inl (0, 0)), ((78, 194), .inl (0, 0)), ((78, 195), .inl (0, 0)), ((78, 196), .inl (0, 0)), ((78, 197), .inl (0, 0)), ((78, 198), .inl (0, 0)), ((78, 199), .inl (0, 0)), ((78, 200), .inl (0, 0)), ((78, 201), .inl (0, 0)), ((78, 202), .inl (0, 0)), ((78, 203), .inl (0, 0)), ((78, 204), .inl (0, 0)), ((78, 1293), .inl (0, 0)), ((78, 1294), .inl (0, 0)), ((78, 1295), .inl (0, 0))], [(77, 1), (78, 0)], [(some (.inl (0, 0)), [(203, 203), (0, 1000)], [((77, 1), .inl (0, 0)), ((78, 0), .inl ((-1), 1000)), ((78, 193), .inl (0, 0)), ((78, 194), .inl (0, 0)), ((78, 195), .inl (0, 0)), ((78, 196), .inl (0, 0)), ((78, 197), .inl (0, 0)), ((78, 198), .inl (0, 0)), ((78, 199), .inl (0, 0)), ((78, 200), .inl (0, 0)), ((78, 201), .inl (0, 0)), ((78, 202), .inl (0, 0)), ((78, 203), .inl (0, 0)), ((78, 204), .inl (0, 1000)), ((78, 1293), .inl (0, 0)), ((78, 1294), .inl (0, 0)), ((78, 1295), .inl (0, 0))], 101)], 1, 21, 0, 0)
def ck_h112 : List ck_Hd := []
set_option maxRecDepth 100000 in
theorem ck_k112 (l : Launch) (D : va_G) (st : Nat → Nat) : ck_Mt l D st ck_c112 := ck_sound (T := ck_T13) (cs := [ck_c42]) (hs := ck_h112) (sp := []) (fuel := 38) l ck_TSgood ck_okCl (ck_own (M0 := ck_m35) rfl rfl ck_okT13) (ck_cons (ck_k42 l D st) ck_nil) (by decide +kernel)
/-- SLModel.known -/
def ck_c113 : ck_C := (34, 101, [.inr (0, 77), .inl (0, 11), .inl (0, 1000)], [((77, 2), .inr (0, 78)), ((78, 0), .inl ((-1), 15)), ((78, 193), .inl (0, 0)), ((78, 194), .inl (0, 0)), ((78, 195), .inl (0, 0)), ((78, 196), .inl (0, 0)), ((78, 197), .inl (0, 0)), ((78, 198), .inl (0, 0)), ((78, 199), .inl (0, 0)), ((78, 200), .inl (0, 0)), ((78, 201), .inl (0, 0)), ((78, 202), .inl (0, 0)), ((78, 203), .inl (0, 0)), ((78, 204), .inl (0, 0)), ((78, 1293), .inl (0, 0)), ((78, 1294), .inl (0, 0)), ((78, 1295), .inl (0, 0))], [(77, 1), (78, 0)], [(some (.inl (0, 0)), [(0, 11), (0, 1000)], [((77, 1), .inl (0, 0)), ((78, 0), .inl ((-1), 1000)), ((78, 193), .inl (0, 1000)), ((78, 194), .inl (0, 1000)), ((78, 195), .inl (0, 1000)), ((78, 196), .inl (0, 1000)), ((78, 197), .inl (0, 1000)), ((78, 198), .inl (0, 1000)), ((78, 199), .inl (0, 1000)), ((78, 200), .inl (0, 1000)), ((78, 201), .inl (0, 1000)), ((78, 202), .inl (0, 1000)), ((78, 203), .inl (0, 1000)), ((78, 204), .inl (0, 1000)), ((78, 1293), .inl (0, 0)), ((78, 1294), .inl (0, 0)), ((78, 1295), .inl (0, 0))], 101)], 2, 44, 0, 0)
def ck_h113 : List ck_Hd := []
set_option maxRecDepth 100000 in
theorem ck_k113 (l : Launch) (D : va_G) (st : Nat → Nat) : ck_Mt l D st ck_c113 := ck_sound (T := ck_T13) (cs := [ck_c84, ck_c100, ck_c101, ck_c86, ck_c102, ck_c87, ck_c103, ck_c88, ck_c104, ck_c89, ck_c105, ck_c90, ck_c106, ck_c91, ck_c107, ck_c92, ck_c108, ck_c93, ck_c109, ck_c94, ck_c110, ck_c95, ck_c111, ck_c96, ck_c112]) (hs := ck_h113) (sp := [(0, 0, 0), (0, 0, 1), (0, 0, 2), (0, 0, 3), (0, 0, 4), (0, 0, 5), (0, 0, 6), (0, 0, 7), (0, 0, 8), (0, 0, 9), (0, 0, 10)]) (fuel := 52) l ck_TSgood ck_okCl (ck_own (M0 := ck_m34) rfl rfl ck_okT13) (ck_cons (ck_k84 l D st) (ck_cons (ck_k100 l D st) (ck_cons (ck_k101 l D st) (ck_cons (ck_k86 l D st) (ck_cons (ck_k102 l D st) (ck_cons (ck_k87 l D st) (ck_cons (ck_k103 l D st) (ck_cons (ck_k88 l D st) (ck_cons (ck_k104 l D st) (ck_cons (ck_k89 l D st) (ck_cons (ck_k105 l D st) (ck_cons (ck_k90 l D st) (ck_cons (ck_k106 l D st) (ck_cons (ck_k91 l D st) (ck_cons (ck_k107 l D st) (ck_cons (ck_k92 l D st) (ck_cons (ck_k108 l D st) (ck_cons (ck_k93 l D st) (ck_cons (ck_k109 l D st) (ck_cons (ck_k94 l D st) (ck_cons (ck_k110 l D st) (ck_cons (ck_k95 l D st) (ck_cons (ck_k111 l D st) (ck_cons (ck_k96 l D st) (ck_cons (ck_k112 l D st) ck_nil))))))))))))))))))))))))) (by decide +kernel)
/-- SL.isHand -/
def ck_c114 : ck_C := (37, 101, [.inl ((-2147483648), 2147483647)], [], [], [(some (.inl (0, 0)), [((-2147483648), (-1))], [], 101), (some (.inl (0, 0)), [(4, 2147483647)], [], 101), (some (.inl (1, 1)), [(0, 3)], [], 101)], 1, 22, 0, 0)
def ck_h114 : List ck_Hd := []
set_option maxRecDepth 100000 in
theorem ck_k114 (l : Launch) (D : va_G) (st : Nat → Nat) : ck_Mt l D st ck_c114 := ck_sound (T := ck_T0) (cs := [ck_c45]) (hs := ck_h114) (sp := []) (fuel := 29) l ck_TSgood ck_okCl (ck_own (M0 := ck_m37) rfl rfl ck_okT0) (ck_cons (ck_k45 l D st) ck_nil) (by decide +kernel)
/-- SL.within -/
def ck_c115 : ck_C := (16, 101, [.inl ((-2147483648), 2147483647), .inl (0, 0), .inl (100, 100)], [], [], [(some (.inl (0, 0)), [((-2147483648), (-1)), (0, 0), (100, 100)], [], 101), (some (.inl (0, 0)), [(101, 2147483647), (0, 0), (100, 100)], [], 101), (some (.inl (1, 1)), [(0, 100), (0, 0), (100, 100)], [], 101)], 0, 0, 0, 0)
def ck_h115 : List ck_Hd := []
set_option maxRecDepth 100000 in
theorem ck_k115 (l : Launch) (D : va_G) (st : Nat → Nat) : ck_Mt l D st ck_c115 := ck_sound (T := ck_T0) (cs := []) (hs := ck_h115) (sp := []) (fuel := 33) l ck_TSgood ck_okCl (ck_own (M0 := ck_m16) rfl rfl ck_okT0) ck_nil (by decide +kernel)
/-- SL.hand -/
def ck_c116 : ck_C := (36, 101, [.inr (0, 0), .inl ((-2147483648), 2147483647), .inl ((-2147483648), 2147483647), .inl ((-2147483648), 2147483647)], [((0, 1), .inr (0, 1)), ((1, 8), .inr (0, 8)), ((1, 9), .inr (0, 9)), ((8, 0), .inl (0, 0)), ((9, 0), .inl (0, 0))], [(0, 15), (8, 0), (9, 0)], [(some (.inl ((-1), (-1))), [((-2147483648), (-1)), ((-2147483648), 2147483647), ((-2147483648), 2147483647)], [((0, 15), .inl ((-1), (-1))), ((8, 0), .inl (0, 0)), ((9, 0), .inl (0, 0))], 101), (some (.inl ((-1), (-1))), [(4, 2147483647), ((-2147483648), 2147483647), ((-2147483648), 2147483647)], [((0, 15), .inl ((-1), (-1))), ((8, 0), .inl (0, 0)), ((9, 0), .inl (0, 0))], 101), (some (.inl ((-1), (-1))), [(0, 3), ((-2147483648), (-1)), ((-2147483648), 2147483647)], [((0, 15), .inl ((-1), (-1))), ((8, 0), .inl (0, 0)), ((9, 0), .inl (0, 0))], 101), (some (.inl ((-1), (-1))), [(0, 3), (101, 2147483647), ((-2147483648), 2147483647)], [((0, 15), .inl ((-1), (-1))), ((8, 0), .inl (0, 0)), ((9, 0), .inl (0, 0))], 101), (some (.inl ((-1), (-1))), [(0, 3), (0, 100), ((-2147483648), (-1))], [((0, 15), .inl ((-1), (-1))), ((8, 0), .inl (0, 0)), ((9, 0), .inl (0, 0))], 101), (some (.inl ((-1), (-1))), [(0, 3), (0, 100), (101, 2147483647)], [((0, 15), .inl ((-1), (-1))), ((8, 0), .inl (0, 0)), ((9, 0), .inl (0, 0))], 101), (some (.inl (0, 0)), [(0, 3), (0, 100), (0, 100)], [((0, 15), .inl (0, 0)), ((8, 0), .inl (0, 100)), ((9, 0), .inl (0, 100))], 101)], 2, 42, 0, 0)
def ck_h116 : List ck_Hd := []
set_option maxRecDepth 100000 in
theorem ck_k116 (l : Launch) (D : va_G) (st : Nat → Nat) : ck_Mt l D st ck_c116 := ck_sound (T := ck_T0) (cs := [ck_c114, ck_c19, ck_c115, ck_c23]) (hs := ck_h116) (sp := []) (fuel := 53) l ck_TSgood ck_okCl (ck_own (M0 := ck_m36) rfl rfl ck_okT0) (ck_cons (ck_k114 l D st) (ck_cons (ck_k19 l D st) (ck_cons (ck_k115 l D st) (ck_cons (ck_k23 l D st) ck_nil)))) (by decide +kernel)
/-- SLModel.hand -/
def ck_c117 : ck_C := (38, 101, [.inr (0, 77), .inl ((-2147483648), (-1)), .inl ((-2147483648), 2147483647), .inl ((-2147483648), 2147483647)], [], [(77, 1)], [(some (.inl ((-1), (-1))), [((-2147483648), (-1)), ((-2147483648), 2147483647), ((-2147483648), 2147483647)], [((77, 1), .inl ((-1), (-1)))], 101)], 1, 22, 0, 0)
def ck_h117 : List ck_Hd := []
set_option maxRecDepth 100000 in
theorem ck_k117 (l : Launch) (D : va_G) (st : Nat → Nat) : ck_Mt l D st ck_c117 := ck_sound (T := ck_T13) (cs := [ck_c57, ck_c26]) (hs := ck_h117) (sp := []) (fuel := 33) l ck_TSgood ck_okCl (ck_own (M0 := ck_m38) rfl rfl ck_okT13) (ck_cons (ck_k57 l D st) (ck_cons (ck_k26 l D st) ck_nil)) (by decide +kernel)
/-- SLModel.hand -/
def ck_c118 : ck_C := (38, 101, [.inr (0, 77), .inl (4, 2147483647), .inl ((-2147483648), 2147483647), .inl ((-2147483648), 2147483647)], [], [(77, 1)], [(some (.inl ((-1), (-1))), [(4, 2147483647), ((-2147483648), 2147483647), ((-2147483648), 2147483647)], [((77, 1), .inl ((-1), (-1)))], 101)], 1, 22, 0, 0)
def ck_h118 : List ck_Hd := []
set_option maxRecDepth 100000 in
theorem ck_k118 (l : Launch) (D : va_G) (st : Nat → Nat) : ck_Mt l D st ck_c118 := ck_sound (T := ck_T13) (cs := [ck_c59, ck_c26]) (hs := ck_h118) (sp := []) (fuel := 33) l ck_TSgood ck_okCl (ck_own (M0 := ck_m38) rfl rfl ck_okT13) (ck_cons (ck_k59 l D st) (ck_cons (ck_k26 l D st) ck_nil)) (by decide +kernel)
/-- SLModel.in -/
def ck_c119 : ck_C := (21, 101, [.inl ((-2147483648), (-1)), .inl (0, 0), .inl (100, 100)], [], [], [(some (.inl (0, 0)), [((-2147483648), (-1)), (0, 0), (100, 100)], [], 101)], 0, 0, 0, 0)
def ck_h119 : List ck_Hd := []
set_option maxRecDepth 100000 in
theorem ck_k119 (l : Launch) (D : va_G) (st : Nat → Nat) : ck_Mt l D st ck_c119 := ck_sound (T := ck_T13) (cs := []) (hs := ck_h119) (sp := []) (fuel := 29) l ck_TSgood ck_okCl (ck_own (M0 := ck_m21) rfl rfl ck_okT13) ck_nil (by decide +kernel)
/-- SLModel.hand -/
def ck_c120 : ck_C := (38, 101, [.inr (0, 77), .inl (0, 3), .inl ((-2147483648), (-1)), .inl ((-2147483648), 2147483647)], [], [(77, 1)], [(some (.inl ((-1), (-1))), [(0, 3), ((-2147483648), (-1)), ((-2147483648), 2147483647)], [((77, 1), .inl ((-1), (-1)))], 101)], 1, 22, 0, 0)
def ck_h120 : List ck_Hd := []
set_option maxRecDepth 100000 in
theorem ck_k120 (l : Launch) (D : va_G) (st : Nat → Nat) : ck_Mt l D st ck_c120 := ck_sound (T := ck_T13) (cs := [ck_c61, ck_c119, ck_c26]) (hs := ck_h120) (sp := []) (fuel := 38) l ck_TSgood ck_okCl (ck_own (M0 := ck_m38) rfl rfl ck_okT13) (ck_cons (ck_k61 l D st) (ck_cons (ck_k119 l D st) (ck_cons (ck_k26 l D st) ck_nil))) (by decide +kernel)
/-- SLModel.in -/
def ck_c121 : ck_C := (21, 101, [.inl (101, 2147483647), .inl (0, 0), .inl (100, 100)], [], [], [(some (.inl (0, 0)), [(101, 2147483647), (0, 0), (100, 100)], [], 101)], 0, 0, 0, 0)
def ck_h121 : List ck_Hd := []
set_option maxRecDepth 100000 in
theorem ck_k121 (l : Launch) (D : va_G) (st : Nat → Nat) : ck_Mt l D st ck_c121 := ck_sound (T := ck_T13) (cs := []) (hs := ck_h121) (sp := []) (fuel := 32) l ck_TSgood ck_okCl (ck_own (M0 := ck_m21) rfl rfl ck_okT13) ck_nil (by decide +kernel)
/-- SLModel.hand -/
def ck_c122 : ck_C := (38, 101, [.inr (0, 77), .inl (0, 3), .inl (101, 2147483647), .inl ((-2147483648), 2147483647)], [], [(77, 1)], [(some (.inl ((-1), (-1))), [(0, 3), (101, 2147483647), ((-2147483648), 2147483647)], [((77, 1), .inl ((-1), (-1)))], 101)], 1, 22, 0, 0)
def ck_h122 : List ck_Hd := []
set_option maxRecDepth 100000 in
theorem ck_k122 (l : Launch) (D : va_G) (st : Nat → Nat) : ck_Mt l D st ck_c122 := ck_sound (T := ck_T13) (cs := [ck_c61, ck_c121, ck_c26]) (hs := ck_h122) (sp := []) (fuel := 38) l ck_TSgood ck_okCl (ck_own (M0 := ck_m38) rfl rfl ck_okT13) (ck_cons (ck_k61 l D st) (ck_cons (ck_k121 l D st) (ck_cons (ck_k26 l D st) ck_nil))) (by decide +kernel)
/-- SLModel.in -/
def ck_c123 : ck_C := (21, 101, [.inl (0, 100), .inl (0, 0), .inl (100, 100)], [], [], [(some (.inl (1, 1)), [(0, 100), (0, 0), (100, 100)], [], 101)], 0, 0, 0, 0)
def ck_h123 : List ck_Hd := []
set_option maxRecDepth 100000 in
theorem ck_k123 (l : Launch) (D : va_G) (st : Nat → Nat) : ck_Mt l D st ck_c123 := ck_sound (T := ck_T13) (cs := []) (hs := ck_h123) (sp := []) (fuel := 33) l ck_TSgood ck_okCl (ck_own (M0 := ck_m21) rfl rfl ck_okT13) ck_nil (by decide +kernel)
/-- SLModel.hand -/
def ck_c124 : ck_C := (38, 101, [.inr (0, 77), .inl (0, 3), .inl (0, 100), .inl ((-2147483648), (-1))], [], [(77, 1)], [(some (.inl ((-1), (-1))), [(0, 3), (0, 100), ((-2147483648), (-1))], [((77, 1), .inl ((-1), (-1)))], 101)], 1, 22, 0, 0)
def ck_h124 : List ck_Hd := []
set_option maxRecDepth 100000 in
theorem ck_k124 (l : Launch) (D : va_G) (st : Nat → Nat) : ck_Mt l D st ck_c124 := ck_sound (T := ck_T13) (cs := [ck_c61, ck_c123, ck_c119, ck_c26]) (hs := ck_h124) (sp := []) (fuel := 43) l ck_TSgood ck_okCl (ck_own (M0 := ck_m38) rfl rfl ck_okT13) (ck_cons (ck_k61 l D st) (ck_cons (ck_k123 l D st) (ck_cons (ck_k119 l D st) (ck_cons (ck_k26 l D st) ck_nil)))) (by decide +kernel)
/-- SLModel.hand -/
def ck_c125 : ck_C := (38, 101, [.inr (0, 77), .inl (0, 3), .inl (0, 100), .inl (101, 2147483647)], [], [(77, 1)], [(some (.inl ((-1), (-1))), [(0, 3), (0, 100), (101, 2147483647)], [((77, 1), .inl ((-1), (-1)))], 101)], 1, 22, 0, 0)
def ck_h125 : List ck_Hd := []
set_option maxRecDepth 100000 in
theorem ck_k125 (l : Launch) (D : va_G) (st : Nat → Nat) : ck_Mt l D st ck_c125 := ck_sound (T := ck_T13) (cs := [ck_c61, ck_c123, ck_c121, ck_c26]) (hs := ck_h125) (sp := []) (fuel := 43) l ck_TSgood ck_okCl (ck_own (M0 := ck_m38) rfl rfl ck_okT13) (ck_cons (ck_k61 l D st) (ck_cons (ck_k123 l D st) (ck_cons (ck_k121 l D st) (ck_cons (ck_k26 l D st) ck_nil)))) (by decide +kernel)
/-- SLModel.hand -/
def ck_c126 : ck_C := (38, 101, [.inr (0, 77), .inl (0, 3), .inl (0, 100), .inl (0, 100)], [((77, 2), .inr (0, 78)), ((78, 0), .inl ((-1), 15)), ((78, 193), .inl (0, 0)), ((78, 194), .inl (0, 0)), ((78, 195), .inl (0, 0)), ((78, 196), .inl (0, 0)), ((78, 197), .inl (0, 0)), ((78, 198), .inl (0, 0)), ((78, 199), .inl (0, 0)), ((78, 200), .inl (0, 0)), ((78, 201), .inl (0, 0)), ((78, 202), .inl (0, 0)), ((78, 203), .inl (0, 0)), ((78, 204), .inl (0, 0)), ((78, 1293), .inl (0, 0)), ((78, 1294), .inl (0, 0)), ((78, 1295), .inl (0, 0))], [(77, 1), (78, 0)], [(some (.inl (0, 0)), [(0, 3), (0, 100), (0, 100)], [((77, 1), .inl (0, 0)), ((78, 0), .inl ((-1), 100)), ((78, 193), .inl (0, 100)), ((78, 194), .inl (0, 100)), ((78, 195), .inl (0, 100)), ((78, 196), .inl (0, 100)), ((78, 197), .inl (0, 100)), ((78, 198), .inl (0, 100)), ((78, 199), .inl (0, 100)), ((78, 200), .inl (0, 100)), ((78, 201), .inl (0, 100)), ((78, 202), .inl (0, 100)), ((78, 203), .inl (0, 100)), ((78, 204), .inl (0, 100)), ((78, 1293), .inl (0, 100)), ((78, 1294), .inl (0, 100)), ((78, 1295), .inl (0, 100))], 101)], 1, 22, 0, 0)
def ck_h126 : List ck_Hd := []
set_option maxRecDepth 100000 in
theorem ck_k126 (l : Launch) (D : va_G) (st : Nat → Nat) : ck_Mt l D st ck_c126 := ck_sound (T := ck_T13) (cs := [ck_c61, ck_c123, ck_c42]) (hs := ck_h126) (sp := []) (fuel := 63) l ck_TSgood ck_okCl (ck_own (M0 := ck_m38) rfl rfl ck_okT13) (ck_cons (ck_k61 l D st) (ck_cons (ck_k123 l D st) (ck_cons (ck_k42 l D st) ck_nil))) (by decide +kernel)
/-- SL.within -/
def ck_c127 : ck_C := (16, 101, [.inl ((-2147483648), 2147483647), .inl (0, 0), .inl (1000000, 1000000)], [], [], [(some (.inl (0, 0)), [((-2147483648), (-1)), (0, 0), (1000000, 1000000)], [], 101), (some (.inl (0, 0)), [(1000001, 2147483647), (0, 0), (1000000, 1000000)], [], 101), (some (.inl (1, 1)), [(0, 1000000), (0, 0), (1000000, 1000000)], [], 101)], 0, 0, 0, 0)
def ck_h127 : List ck_Hd := []
set_option maxRecDepth 100000 in
theorem ck_k127 (l : Launch) (D : va_G) (st : Nat → Nat) : ck_Mt l D st ck_c127 := ck_sound (T := ck_T0) (cs := []) (hs := ck_h127) (sp := []) (fuel := 33) l ck_TSgood ck_okCl (ck_own (M0 := ck_m16) rfl rfl ck_okT0) ck_nil (by decide +kernel)
/-- SL.seed -/
def ck_c128 : ck_C := (39, 101, [.inr (0, 0), .inl ((-2147483648), 2147483647)], [((0, 1), .inr (0, 1))], [(0, 15), (1, 10)], [(some (.inl ((-1), (-1))), [((-2147483648), (-1))], [((0, 15), .inl ((-1), (-1)))], 101), (some (.inl ((-1), (-1))), [(1000001, 2147483647)], [((0, 15), .inl ((-1), (-1)))], 101), (some (.inl (0, 0)), [(0, 1000000)], [((0, 15), .inl (0, 0)), ((1, 10), .inl (0, 1000000))], 101)], 1, 22, 0, 0)
def ck_h128 : List ck_Hd := []
set_option maxRecDepth 100000 in
theorem ck_k128 (l : Launch) (D : va_G) (st : Nat → Nat) : ck_Mt l D st ck_c128 := ck_sound (T := ck_T0) (cs := [ck_c127, ck_c19, ck_c23]) (hs := ck_h128) (sp := []) (fuel := 37) l ck_TSgood ck_okCl (ck_own (M0 := ck_m39) rfl rfl ck_okT0) (ck_cons (ck_k127 l D st) (ck_cons (ck_k19 l D st) (ck_cons (ck_k23 l D st) ck_nil))) (by decide +kernel)
/-- SLModel.in -/
def ck_c129 : ck_C := (21, 101, [.inl ((-2147483648), (-1)), .inl (0, 0), .inl (1000000, 1000000)], [], [], [(some (.inl (0, 0)), [((-2147483648), (-1)), (0, 0), (1000000, 1000000)], [], 101)], 0, 0, 0, 0)
def ck_h129 : List ck_Hd := []
set_option maxRecDepth 100000 in
theorem ck_k129 (l : Launch) (D : va_G) (st : Nat → Nat) : ck_Mt l D st ck_c129 := ck_sound (T := ck_T13) (cs := []) (hs := ck_h129) (sp := []) (fuel := 29) l ck_TSgood ck_okCl (ck_own (M0 := ck_m21) rfl rfl ck_okT13) ck_nil (by decide +kernel)
/-- SLModel.seed -/
def ck_c130 : ck_C := (40, 101, [.inr (0, 77), .inl ((-2147483648), (-1))], [], [(77, 1)], [(some (.inl ((-1), (-1))), [((-2147483648), (-1))], [((77, 1), .inl ((-1), (-1)))], 101)], 1, 22, 0, 0)
def ck_h130 : List ck_Hd := []
set_option maxRecDepth 100000 in
theorem ck_k130 (l : Launch) (D : va_G) (st : Nat → Nat) : ck_Mt l D st ck_c130 := ck_sound (T := ck_T13) (cs := [ck_c129, ck_c26]) (hs := ck_h130) (sp := []) (fuel := 33) l ck_TSgood ck_okCl (ck_own (M0 := ck_m40) rfl rfl ck_okT13) (ck_cons (ck_k129 l D st) (ck_cons (ck_k26 l D st) ck_nil)) (by decide +kernel)
/-- SLModel.in -/
def ck_c131 : ck_C := (21, 101, [.inl (1000001, 2147483647), .inl (0, 0), .inl (1000000, 1000000)], [], [], [(some (.inl (0, 0)), [(1000001, 2147483647), (0, 0), (1000000, 1000000)], [], 101)], 0, 0, 0, 0)
def ck_h131 : List ck_Hd := []
set_option maxRecDepth 100000 in
theorem ck_k131 (l : Launch) (D : va_G) (st : Nat → Nat) : ck_Mt l D st ck_c131 := ck_sound (T := ck_T13) (cs := []) (hs := ck_h131) (sp := []) (fuel := 32) l ck_TSgood ck_okCl (ck_own (M0 := ck_m21) rfl rfl ck_okT13) ck_nil (by decide +kernel)
/-- SLModel.seed -/
def ck_c132 : ck_C := (40, 101, [.inr (0, 77), .inl (1000001, 2147483647)], [], [(77, 1)], [(some (.inl ((-1), (-1))), [(1000001, 2147483647)], [((77, 1), .inl ((-1), (-1)))], 101)], 1, 22, 0, 0)
def ck_h132 : List ck_Hd := []
set_option maxRecDepth 100000 in
theorem ck_k132 (l : Launch) (D : va_G) (st : Nat → Nat) : ck_Mt l D st ck_c132 := ck_sound (T := ck_T13) (cs := [ck_c131, ck_c26]) (hs := ck_h132) (sp := []) (fuel := 33) l ck_TSgood ck_okCl (ck_own (M0 := ck_m40) rfl rfl ck_okT13) (ck_cons (ck_k131 l D st) (ck_cons (ck_k26 l D st) ck_nil)) (by decide +kernel)
/-- SLModel.in -/
def ck_c133 : ck_C := (21, 101, [.inl (0, 1000000), .inl (0, 0), .inl (1000000, 1000000)], [], [], [(some (.inl (1, 1)), [(0, 1000000), (0, 0), (1000000, 1000000)], [], 101)], 0, 0, 0, 0)
def ck_h133 : List ck_Hd := []
set_option maxRecDepth 100000 in
theorem ck_k133 (l : Launch) (D : va_G) (st : Nat → Nat) : ck_Mt l D st ck_c133 := ck_sound (T := ck_T13) (cs := []) (hs := ck_h133) (sp := []) (fuel := 33) l ck_TSgood ck_okCl (ck_own (M0 := ck_m21) rfl rfl ck_okT13) ck_nil (by decide +kernel)
/-- SLModel.seed -/
def ck_c134 : ck_C := (40, 101, [.inr (0, 77), .inl (0, 1000000)], [((77, 2), .inr (0, 78)), ((78, 0), .inl ((-1), 15)), ((78, 193), .inl (0, 0)), ((78, 194), .inl (0, 0)), ((78, 195), .inl (0, 0)), ((78, 196), .inl (0, 0)), ((78, 197), .inl (0, 0)), ((78, 198), .inl (0, 0)), ((78, 199), .inl (0, 0)), ((78, 200), .inl (0, 0)), ((78, 201), .inl (0, 0)), ((78, 202), .inl (0, 0)), ((78, 203), .inl (0, 0)), ((78, 204), .inl (0, 0)), ((78, 1293), .inl (0, 0)), ((78, 1294), .inl (0, 0)), ((78, 1295), .inl (0, 0))], [(77, 1), (78, 0)], [(some (.inl (0, 0)), [(0, 1000000)], [((77, 1), .inl (0, 0)), ((78, 0), .inl ((-1), 1000000)), ((78, 193), .inl (0, 0)), ((78, 194), .inl (0, 0)), ((78, 195), .inl (0, 0)), ((78, 196), .inl (0, 0)), ((78, 197), .inl (0, 0)), ((78, 198), .inl (0, 0)), ((78, 199), .inl (0, 0)), ((78, 200), .inl (0, 0)), ((78, 201), .inl (0, 0)), ((78, 202), .inl (0, 0)), ((78, 203), .inl (0, 0)), ((78, 204), .inl (0, 0)), ((78, 1293), .inl (0, 0)), ((78, 1294), .inl (0, 0)), ((78, 1295), .inl (0, 0))], 101)], 1, 22, 0, 0)
def ck_h134 : List ck_Hd := []
set_option maxRecDepth 100000 in
theorem ck_k134 (l : Launch) (D : va_G) (st : Nat → Nat) : ck_Mt l D st ck_c134 := ck_sound (T := ck_T13) (cs := [ck_c133, ck_c42]) (hs := ck_h134) (sp := []) (fuel := 38) l ck_TSgood ck_okCl (ck_own (M0 := ck_m40) rfl rfl ck_okT13) (ck_cons (ck_k133 l D st) (ck_cons (ck_k42 l D st) ck_nil)) (by decide +kernel)
/-- SL$Tape.append -/
def ck_c135 : ck_C := (42, 101, [.inr (0, 45), .inl ((-2147483648), 2147483647)], [((45, 1), .inr (0, 46)), ((45, 2), .inl (0, 0)), ((46, 0), .inl (0, 0))], [(45, 2), (46, 0)], [(none, [((-2147483648), 2147483647)], [((45, 2), .inl (4, 4)), ((46, 0), .inl (0, 255))], 101)], 0, 0, 0, 0)
def ck_h135 : List ck_Hd := []
set_option maxRecDepth 100000 in
theorem ck_k135 (l : Launch) (D : va_G) (st : Nat → Nat) : ck_Mt l D st ck_c135 := ck_sound (T := ck_T9) (cs := []) (hs := ck_h135) (sp := []) (fuel := 109) l ck_TSgood ck_okCl (ck_own (M0 := ck_m42) rfl rfl ck_okT9) ck_nil (by decide +kernel)
/-- SL$Tape.append -/
def ck_c136 : ck_C := (42, 101, [.inr (0, 45), .inl ((-2147483648), 2147483647)], [((45, 1), .inr (0, 46)), ((45, 2), .inl (4, 4)), ((46, 0), .inl (0, 255))], [(45, 2), (46, 0)], [(none, [((-2147483648), 2147483647)], [((45, 2), .inl (8, 8)), ((46, 0), .inl (0, 255))], 101)], 0, 0, 0, 0)
def ck_h136 : List ck_Hd := []
set_option maxRecDepth 100000 in
theorem ck_k136 (l : Launch) (D : va_G) (st : Nat → Nat) : ck_Mt l D st ck_c136 := ck_sound (T := ck_T9) (cs := []) (hs := ck_h136) (sp := []) (fuel := 109) l ck_TSgood ck_okCl (ck_own (M0 := ck_m42) rfl rfl ck_okT9) ck_nil (by decide +kernel)
/-- SL$Tape.append -/
def ck_c137 : ck_C := (42, 101, [.inr (0, 45), .inl ((-2147483648), 2147483647)], [((45, 1), .inr (0, 46)), ((45, 2), .inl (8, 8)), ((46, 0), .inl (0, 255))], [(45, 2), (46, 0)], [(none, [((-2147483648), 2147483647)], [((45, 2), .inl (12, 12)), ((46, 0), .inl (0, 255))], 101)], 0, 0, 0, 0)
def ck_h137 : List ck_Hd := []
set_option maxRecDepth 100000 in
theorem ck_k137 (l : Launch) (D : va_G) (st : Nat → Nat) : ck_Mt l D st ck_c137 := ck_sound (T := ck_T9) (cs := []) (hs := ck_h137) (sp := []) (fuel := 109) l ck_TSgood ck_okCl (ck_own (M0 := ck_m42) rfl rfl ck_okT9) ck_nil (by decide +kernel)
/-- SL$Tape.append -/
def ck_c138 : ck_C := (42, 101, [.inr (0, 45), .inl ((-2147483648), 2147483647)], [((45, 1), .inr (0, 46)), ((45, 2), .inl (12, 12)), ((46, 0), .inl (0, 255))], [(45, 2), (46, 0)], [(none, [((-2147483648), 2147483647)], [((45, 2), .inl (16, 16)), ((46, 0), .inl (0, 255))], 101)], 0, 0, 0, 0)
def ck_h138 : List ck_Hd := []
set_option maxRecDepth 100000 in
theorem ck_k138 (l : Launch) (D : va_G) (st : Nat → Nat) : ck_Mt l D st ck_c138 := ck_sound (T := ck_T9) (cs := []) (hs := ck_h138) (sp := []) (fuel := 109) l ck_TSgood ck_okCl (ck_own (M0 := ck_m42) rfl rfl ck_okT9) ck_nil (by decide +kernel)
/-- SL$Tape.append -/
def ck_c139 : ck_C := (42, 101, [.inr (0, 45), .inl ((-2147483648), 2147483647)], [((45, 1), .inr (0, 46)), ((45, 2), .inl (16, 16)), ((46, 0), .inl (0, 255))], [(45, 2), (46, 0)], [(none, [((-2147483648), 2147483647)], [((45, 2), .inl (20, 20)), ((46, 0), .inl (0, 255))], 101)], 0, 0, 0, 0)
def ck_h139 : List ck_Hd := []
set_option maxRecDepth 100000 in
theorem ck_k139 (l : Launch) (D : va_G) (st : Nat → Nat) : ck_Mt l D st ck_c139 := ck_sound (T := ck_T9) (cs := []) (hs := ck_h139) (sp := []) (fuel := 109) l ck_TSgood ck_okCl (ck_own (M0 := ck_m42) rfl rfl ck_okT9) ck_nil (by decide +kernel)
/-- SL.feed -/
def ck_c140 : ck_C := (41, 101, [.inr (0, 0), .inl ((-2147483648), 2147483647), .inl ((-2147483648), 2147483647), .inl ((-2147483648), 2147483647), .inl ((-2147483648), 2147483647), .inl ((-2147483648), 2147483647)], [((0, 4), .inr (0, 45)), ((45, 1), .inr (0, 46)), ((45, 2), .inl (0, 0)), ((46, 0), .inl (0, 0))], [(45, 2), (46, 0)], [(some (.inl (20, 20)), [((-2147483648), 2147483647), ((-2147483648), 2147483647), ((-2147483648), 2147483647), ((-2147483648), 2147483647), ((-2147483648), 2147483647)], [((45, 2), .inl (20, 20)), ((46, 0), .inl (0, 255))], 101)], 1, 22, 0, 0)
def ck_h140 : List ck_Hd := []
set_option maxRecDepth 100000 in
theorem ck_k140 (l : Launch) (D : va_G) (st : Nat → Nat) : ck_Mt l D st ck_c140 := ck_sound (T := ck_T0) (cs := [ck_c135, ck_c136, ck_c137, ck_c138, ck_c139]) (hs := ck_h140) (sp := []) (fuel := 55) l ck_TSgood ck_okCl (ck_own (M0 := ck_m41) rfl rfl ck_okT0) (ck_cons (ck_k135 l D st) (ck_cons (ck_k136 l D st) (ck_cons (ck_k137 l D st) (ck_cons (ck_k138 l D st) (ck_cons (ck_k139 l D st) ck_nil))))) (by decide +kernel)
/-- SLModel.feed -/
def ck_c141 : ck_C := (43, 101, [.inr (0, 77), .inl ((-2147483648), 2147483647), .inl ((-2147483648), 2147483647), .inl ((-2147483648), 2147483647), .inl ((-2147483648), 2147483647), .inl ((-2147483648), 2147483647)], [((77, 6), .inr (0, 82)), ((77, 7), .inr (0, 83)), ((77, 8), .inl (0, 0)), ((82, 0), .inl (0, 0)), ((83, 0), .inl (0, 0))], [(77, 8), (82, 0), (83, 0)], [(some (.inl (20, 20)), [((-2147483648), 2147483647), ((-2147483648), 2147483647), ((-2147483648), 2147483647), ((-2147483648), 2147483647), ((-2147483648), 2147483647)], [((77, 8), .inl (20, 20)), ((82, 0), .inl ((-128), 127)), ((83, 0), .inl ((-2147483648), 2147483647))], 101)], 0, 0, 0, 0)
def ck_h141 : List ck_Hd := [(55, ([((-2147483648), 2147483647, 0, (0, 0, 0)), ((-2147483648), 2147483647, 0, (0, 0, 0)), ((-2147483648), 2147483647, 0, (0, 0, 0)), ((-2147483648), 2147483647, 0, (0, 0, 0)), ((-2147483648), 2147483647, 0, (0, 0, 0)), (0, 20, 0, (0, 0, 0))], [(6, .inl (5, 1, 0)), (0, .inr (0, 77)), (1, .inl (0, 1, 0)), (2, .inl (1, 1, 0)), (3, .inl (2, 1, 0)), (4, .inl (3, 1, 0)), (5, .inl (4, 1, 0))], [], [((77, 6), .inr (0, 82)), ((77, 7), .inr (0, 83)), ((77, 8), .inl (0, 0)), ((82, 0), .inl ((-128), 127)), ((83, 0), .inl ((-2147483648), 2147483647))], 101, 0, 0), 5, 0)]
set_option maxRecDepth 100000 in
theorem ck_k141 (l : Launch) (D : va_G) (st : Nat → Nat) : ck_Mt l D st ck_c141 := ck_sound (T := ck_T13) (cs := []) (hs := ck_h141) (sp := []) (fuel := 85) l ck_TSgood ck_okCl (ck_own (M0 := ck_m43) rfl rfl ck_okT13) ck_nil (by decide +kernel)
/-- SL.within -/
def ck_c142 : ck_C := (16, 101, [.inl ((-2147483648), 2147483647), .inl (0, 0), .inl (0, 0)], [], [], [(some (.inl (0, 0)), [((-2147483648), (-1)), (0, 0), (0, 0)], [], 101), (some (.inl (0, 0)), [(1, 2147483647), (0, 0), (0, 0)], [], 101), (some (.inl (1, 1)), [(0, 0), (0, 0), (0, 0)], [], 101)], 0, 0, 0, 0)
def ck_h142 : List ck_Hd := []
set_option maxRecDepth 100000 in
theorem ck_k142 (l : Launch) (D : va_G) (st : Nat → Nat) : ck_Mt l D st ck_c142 := ck_sound (T := ck_T0) (cs := []) (hs := ck_h142) (sp := []) (fuel := 33) l ck_TSgood ck_okCl (ck_own (M0 := ck_m16) rfl rfl ck_okT0) ck_nil (by decide +kernel)
/-- SL.end -/
def ck_c143 : ck_C := (44, 101, [.inr (0, 0), .inl ((-2147483648), 2147483647)], [((0, 4), .inr (0, 45)), ((45, 2), .inl (0, 0))], [(45, 2)], [(some (.inl ((-1), (-1))), [((-2147483648), (-1))], [((45, 2), .inl (0, 0))], 101), (some (.inl ((-1), (-1))), [(1, 2147483647)], [((45, 2), .inl (0, 0))], 101), (some (.inl (0, 0)), [(0, 0)], [((45, 2), .inl (0, 0))], 101)], 1, 22, 0, 0)
def ck_h143 : List ck_Hd := []
set_option maxRecDepth 100000 in
theorem ck_k143 (l : Launch) (D : va_G) (st : Nat → Nat) : ck_Mt l D st ck_c143 := ck_sound (T := ck_T0) (cs := [ck_c142]) (hs := ck_h143) (sp := []) (fuel := 37) l ck_TSgood ck_okCl (ck_own (M0 := ck_m44) rfl rfl ck_okT0) (ck_cons (ck_k142 l D st) ck_nil) (by decide +kernel)
/-- SLModel.in -/
def ck_c144 : ck_C := (21, 101, [.inl ((-2147483648), (-1)), .inl (0, 0), .inl (0, 0)], [], [], [(some (.inl (0, 0)), [((-2147483648), (-1)), (0, 0), (0, 0)], [], 101)], 0, 0, 0, 0)
def ck_h144 : List ck_Hd := []
set_option maxRecDepth 100000 in
theorem ck_k144 (l : Launch) (D : va_G) (st : Nat → Nat) : ck_Mt l D st ck_c144 := ck_sound (T := ck_T13) (cs := []) (hs := ck_h144) (sp := []) (fuel := 29) l ck_TSgood ck_okCl (ck_own (M0 := ck_m21) rfl rfl ck_okT13) ck_nil (by decide +kernel)
/-- SLModel.end -/
def ck_c145 : ck_C := (45, 101, [.inr (0, 77), .inl ((-2147483648), (-1))], [((77, 8), .inl (0, 0))], [], [(some (.inl ((-1), (-1))), [((-2147483648), (-1))], [], 101)], 1, 22, 0, 0)
def ck_h145 : List ck_Hd := []
set_option maxRecDepth 100000 in
theorem ck_k145 (l : Launch) (D : va_G) (st : Nat → Nat) : ck_Mt l D st ck_c145 := ck_sound (T := ck_T13) (cs := [ck_c144]) (hs := ck_h145) (sp := []) (fuel := 32) l ck_TSgood ck_okCl (ck_own (M0 := ck_m45) rfl rfl ck_okT13) (ck_cons (ck_k144 l D st) ck_nil) (by decide +kernel)
/-- SLModel.in -/
def ck_c146 : ck_C := (21, 101, [.inl (1, 2147483647), .inl (0, 0), .inl (0, 0)], [], [], [(some (.inl (0, 0)), [(1, 2147483647), (0, 0), (0, 0)], [], 101)], 0, 0, 0, 0)
def ck_h146 : List ck_Hd := []
set_option maxRecDepth 100000 in
theorem ck_k146 (l : Launch) (D : va_G) (st : Nat → Nat) : ck_Mt l D st ck_c146 := ck_sound (T := ck_T13) (cs := []) (hs := ck_h146) (sp := []) (fuel := 32) l ck_TSgood ck_okCl (ck_own (M0 := ck_m21) rfl rfl ck_okT13) ck_nil (by decide +kernel)
/-- SLModel.end -/
def ck_c147 : ck_C := (45, 101, [.inr (0, 77), .inl (1, 2147483647)], [((77, 8), .inl (0, 0))], [], [(some (.inl ((-1), (-1))), [(1, 2147483647)], [], 101)], 1, 22, 0, 0)
def ck_h147 : List ck_Hd := []
set_option maxRecDepth 100000 in
theorem ck_k147 (l : Launch) (D : va_G) (st : Nat → Nat) : ck_Mt l D st ck_c147 := ck_sound (T := ck_T13) (cs := [ck_c146]) (hs := ck_h147) (sp := []) (fuel := 32) l ck_TSgood ck_okCl (ck_own (M0 := ck_m45) rfl rfl ck_okT13) (ck_cons (ck_k146 l D st) ck_nil) (by decide +kernel)
/-- SLModel.in -/
def ck_c148 : ck_C := (21, 101, [.inl (0, 0), .inl (0, 0), .inl (0, 0)], [], [], [(some (.inl (1, 1)), [(0, 0), (0, 0), (0, 0)], [], 101)], 0, 0, 0, 0)
def ck_h148 : List ck_Hd := []
set_option maxRecDepth 100000 in
theorem ck_k148 (l : Launch) (D : va_G) (st : Nat → Nat) : ck_Mt l D st ck_c148 := ck_sound (T := ck_T13) (cs := []) (hs := ck_h148) (sp := []) (fuel := 33) l ck_TSgood ck_okCl (ck_own (M0 := ck_m21) rfl rfl ck_okT13) ck_nil (by decide +kernel)
/-- SLModel.end -/
def ck_c149 : ck_C := (45, 101, [.inr (0, 77), .inl (0, 0)], [((77, 8), .inl (0, 0))], [(77, 8)], [(some (.inl (0, 0)), [(0, 0)], [((77, 8), .inl (0, 0))], 101)], 1, 22, 0, 0)
def ck_h149 : List ck_Hd := []
set_option maxRecDepth 100000 in
theorem ck_k149 (l : Launch) (D : va_G) (st : Nat → Nat) : ck_Mt l D st ck_c149 := ck_sound (T := ck_T13) (cs := [ck_c148]) (hs := ck_h149) (sp := []) (fuel := 35) l ck_TSgood ck_okCl (ck_own (M0 := ck_m45) rfl rfl ck_okT13) (ck_cons (ck_k148 l D st) ck_nil) (by decide +kernel)
/-- SL$Reader.kindAt -/
def ck_c150 : ck_C := (49, 101, [.inr (0, 47), .inl (0, 0)], [((45, 2), .inl (0, 0)), ((47, 1), .inr (0, 45))], [], [(some (.inl (0, 0)), [(0, 0)], [], 101)], 0, 0, 0, 0)
def ck_h150 : List ck_Hd := []
set_option maxRecDepth 100000 in
theorem ck_k150 (l : Launch) (D : va_G) (st : Nat → Nat) : ck_Mt l D st ck_c150 := ck_sound (T := ck_T6) (cs := []) (hs := ck_h150) (sp := []) (fuel := 31) l ck_TSgood ck_okCl (ck_own (M0 := ck_m49) rfl rfl ck_okT6) ck_nil (by decide +kernel)
/-- SL$Reader.advance -/
def ck_c151 : ck_C := (48, 101, [.inr (0, 47)], [((45, 2), .inl (0, 0)), ((47, 1), .inr (0, 45)), ((47, 8), .inl (0, 0)), ((47, 10), .inl (0, 0))], [(47, 8), (47, 9), (47, 10), (47, 11)], [(none, [], [((47, 8), .inl (0, 0)), ((47, 9), .inl (0, 0)), ((47, 10), .inl (0, 0)), ((47, 11), .inl (0, 0))], 101)], 1, 22, 0, 0)
def ck_h151 : List ck_Hd := [(5, ([], [(1, .inl (0, 0, 0)), (0, .inr (0, 47))], [], [((45, 2), .inl (0, 0)), ((47, 1), .inr (0, 45)), ((47, 8), .inl (0, 0)), ((47, 10), .inl (0, 0))], 101, 0, 0), 0, 2), (68, ([], [(2, .inl (0, 0, 0)), (1, .inl (0, 0, 0)), (0, .inr (0, 47))], [], [((45, 2), .inl (0, 0)), ((47, 1), .inr (0, 45)), ((47, 8), .inl (0, 0)), ((47, 9), .inl (0, 0)), ((47, 10), .inl (0, 0)), ((47, 11), .inl (0, 0))], 101, 0, 0), 0, 2)]
set_option maxRecDepth 100000 in
theorem ck_k151 (l : Launch) (D : va_G) (st : Nat → Nat) : ck_Mt l D st ck_c151 := ck_sound (T := ck_T6) (cs := [ck_c150]) (hs := ck_h151) (sp := []) (fuel := 54) l ck_TSgood ck_okCl (ck_own (M0 := ck_m48) rfl rfl ck_okT6) (ck_cons (ck_k150 l D st) ck_nil) (by decide +kernel)
/-- SL$Reader.isWord -/
def ck_c152 : ck_C := (52, 101, [.inr (0, 47), .inr (2, 0)], [((47, 8), .inl (0, 0))], [], [(some (.inl (0, 0)), [], [], 101)], 0, 0, 0, 0)
def ck_h152 : List ck_Hd := []
set_option maxRecDepth 100000 in
theorem ck_k152 (l : Launch) (D : va_G) (st : Nat → Nat) : ck_Mt l D st ck_c152 := ck_sound (T := ck_T6) (cs := []) (hs := ck_h152) (sp := []) (fuel := 30) l ck_TSgood ck_okCl (ck_own (M0 := ck_m52) rfl rfl ck_okT6) ck_nil (by decide +kernel)
/-- SL$Reader.passWord -/
def ck_c153 : ck_C := (51, 101, [.inr (0, 47), .inr (2, 0)], [((47, 8), .inl (0, 0))], [], [(some (.inl (0, 0)), [], [], 101)], 1, 22, 0, 0)
def ck_h153 : List ck_Hd := []
set_option maxRecDepth 100000 in
theorem ck_k153 (l : Launch) (D : va_G) (st : Nat → Nat) : ck_Mt l D st ck_c153 := ck_sound (T := ck_T6) (cs := [ck_c152]) (hs := ck_h153) (sp := []) (fuel := 32) l ck_TSgood ck_okCl (ck_own (M0 := ck_m51) rfl rfl ck_okT6) (ck_cons (ck_k152 l D st) ck_nil) (by decide +kernel)
/-- SL$Reader.isWord -/
def ck_c154 : ck_C := (52, 101, [.inr (0, 47), .inr (2, 1)], [((47, 8), .inl (0, 0))], [], [(some (.inl (0, 0)), [], [], 101)], 0, 0, 0, 0)
def ck_h154 : List ck_Hd := []
set_option maxRecDepth 100000 in
theorem ck_k154 (l : Launch) (D : va_G) (st : Nat → Nat) : ck_Mt l D st ck_c154 := ck_sound (T := ck_T6) (cs := []) (hs := ck_h154) (sp := []) (fuel := 30) l ck_TSgood ck_okCl (ck_own (M0 := ck_m52) rfl rfl ck_okT6) ck_nil (by decide +kernel)
/-- SL$Reader.isWord -/
def ck_c155 : ck_C := (52, 101, [.inr (0, 47), .inr (2, 2)], [((47, 8), .inl (0, 0))], [], [(some (.inl (0, 0)), [], [], 101)], 0, 0, 0, 0)
def ck_h155 : List ck_Hd := []
set_option maxRecDepth 100000 in
theorem ck_k155 (l : Launch) (D : va_G) (st : Nat → Nat) : ck_Mt l D st ck_c155 := ck_sound (T := ck_T6) (cs := []) (hs := ck_h155) (sp := []) (fuel := 30) l ck_TSgood ck_okCl (ck_own (M0 := ck_m52) rfl rfl ck_okT6) ck_nil (by decide +kernel)
/-- SL$Reader.isWord -/
def ck_c156 : ck_C := (52, 101, [.inr (0, 47), .inr (2, 3)], [((47, 8), .inl (0, 0))], [], [(some (.inl (0, 0)), [], [], 101)], 0, 0, 0, 0)
def ck_h156 : List ck_Hd := []
set_option maxRecDepth 100000 in
theorem ck_k156 (l : Launch) (D : va_G) (st : Nat → Nat) : ck_Mt l D st ck_c156 := ck_sound (T := ck_T6) (cs := []) (hs := ck_h156) (sp := []) (fuel := 30) l ck_TSgood ck_okCl (ck_own (M0 := ck_m52) rfl rfl ck_okT6) ck_nil (by decide +kernel)
/-- SL$Reader.isWord -/
def ck_c157 : ck_C := (52, 101, [.inr (0, 47), .inr (2, 4)], [((47, 8), .inl (0, 0))], [], [(some (.inl (0, 0)), [], [], 101)], 0, 0, 0, 0)
def ck_h157 : List ck_Hd := []
set_option maxRecDepth 100000 in
theorem ck_k157 (l : Launch) (D : va_G) (st : Nat → Nat) : ck_Mt l D st ck_c157 := ck_sound (T := ck_T6) (cs := []) (hs := ck_h157) (sp := []) (fuel := 30) l ck_TSgood ck_okCl (ck_own (M0 := ck_m52) rfl rfl ck_okT6) ck_nil (by decide +kernel)
/-- SL$Reader.headKind -/
def ck_c158 : ck_C := (53, 101, [.inr (0, 47)], [((47, 8), .inl (0, 0))], [], [(some (.inl ((-1), (-1))), [], [], 101)], 1, 22, 0, 0)
def ck_h158 : List ck_Hd := []
set_option maxRecDepth 100000 in
theorem ck_k158 (l : Launch) (D : va_G) (st : Nat → Nat) : ck_Mt l D st ck_c158 := ck_sound (T := ck_T6) (cs := [ck_c154, ck_c155, ck_c156, ck_c157]) (hs := ck_h158) (sp := []) (fuel := 42) l ck_TSgood ck_okCl (ck_own (M0 := ck_m53) rfl rfl ck_okT6) (ck_cons (ck_k154 l D st) (ck_cons (ck_k155 l D st) (ck_cons (ck_k156 l D st) (ck_cons (ck_k157 l D st) ck_nil)))) (by decide +kernel)
/-- SL$Reader.readClause -/
def ck_c159 : ck_C := (50, 101, [.inr (0, 47)], [((47, 8), .inl (0, 0))], [], [(some (.inl (0, 0)), [], [], 101)], 2, 44, 0, 0)
def ck_h159 : List ck_Hd := []
set_option maxRecDepth 100000 in
theorem ck_k159 (l : Launch) (D : va_G) (st : Nat → Nat) : ck_Mt l D st ck_c159 := ck_sound (T := ck_T6) (cs := [ck_c153, ck_c158]) (hs := ck_h159) (sp := []) (fuel := 36) l ck_TSgood ck_okCl (ck_own (M0 := ck_m50) rfl rfl ck_okT6) (ck_cons (ck_k153 l D st) (ck_cons (ck_k158 l D st) ck_nil)) (by decide +kernel)
end
section
/-- SL$Reader.read -/
def ck_c160 : ck_C := (47, 101, [.inr (0, 47)], [((45, 2), .inl (0, 0)), ((47, 1), .inr (0, 45)), ((47, 8), .inl (0, 0)), ((47, 10), .inl (0, 0))], [(47, 3), (47, 5), (47, 6), (47, 7), (47, 8), (47, 9), (47, 10), (47, 11)], [(some (.inr (1, 0)), [], [((47, 3), .inl (0, 0)), ((47, 5), .inl (0, 0)), ((47, 6), .inl (0, 0)), ((47, 7), .inl (0, 0)), ((47, 8), .inl (0, 0)), ((47, 9), .inl (0, 0)), ((47, 10), .inl (0, 0)), ((47, 11), .inl (0, 0))], 101)], 3, 67, 0, 0)
def ck_h160 : List ck_Hd := [(31, ([], [(1, .inl (0, 0, 0)), (0, .inr (0, 47))], [], [((45, 2), .inl (0, 0)), ((47, 1), .inr (0, 45)), ((47, 3), .inl (0, 0)), ((47, 5), .inl (0, 0)), ((47, 6), .inl (0, 0)), ((47, 7), .inl (0, 0)), ((47, 8), .inl (0, 0)), ((47, 9), .inl (0, 0)), ((47, 10), .inl (0, 0)), ((47, 11), .inl (0, 0))], 101, 0, 0), 0, 2)]
set_option maxRecDepth 100000 in
theorem ck_k160 (l : Launch) (D : va_G) (st : Nat → Nat) : ck_Mt l D st ck_c160 := ck_sound (T := ck_T6) (cs := [ck_c151, ck_c159]) (hs := ck_h160) (sp := []) (fuel := 51) l ck_TSgood ck_okCl (ck_own (M0 := ck_m47) rfl rfl ck_okT6) (ck_cons (ck_k151 l D st) (ck_cons (ck_k159 l D st) ck_nil)) (by decide +kernel)
/-- SL$Reader.placeReached -/
def ck_c161 : ck_C := (54, 101, [.inr (0, 47)], [((47, 9), .inl (0, 0))], [], [(some (.inl (0, 0)), [], [], 101)], 0, 0, 0, 0)
def ck_h161 : List ck_Hd := []
set_option maxRecDepth 100000 in
theorem ck_k161 (l : Launch) (D : va_G) (st : Nat → Nat) : ck_Mt l D st ck_c161 := ck_sound (T := ck_T6) (cs := []) (hs := ck_h161) (sp := []) (fuel := 27) l ck_TSgood ck_okCl (ck_own (M0 := ck_m54) rfl rfl ck_okT6) ck_nil (by decide +kernel)
/-- SL.refuse -/
def ck_c162 : ck_C := (17, 101, [.inr (0, 0), .inl ((-6), (-6))], [], [(0, 15)], [(some (.inl ((-6), (-6))), [((-6), (-6))], [((0, 15), .inl ((-6), (-6)))], 101)], 0, 0, 0, 0)
def ck_h162 : List ck_Hd := []
set_option maxRecDepth 100000 in
theorem ck_k162 (l : Launch) (D : va_G) (st : Nat → Nat) : ck_Mt l D st ck_c162 := ck_sound (T := ck_T0) (cs := []) (hs := ck_h162) (sp := []) (fuel := 29) l ck_TSgood ck_okCl (ck_own (M0 := ck_m17) rfl rfl ck_okT0) ck_nil (by decide +kernel)
/-- SL.text -/
def ck_c163 : ck_C := (46, 101, [.inr (0, 0)], [((0, 1), .inr (0, 1)), ((0, 4), .inr (0, 45)), ((0, 5), .inr (0, 47)), ((1, 12), .inl (0, 0)), ((45, 2), .inl (0, 0)), ((47, 1), .inr (0, 45)), ((47, 8), .inl (0, 0)), ((47, 9), .inl (0, 0)), ((47, 10), .inl (0, 0))], [(0, 14), (0, 15), (45, 2), (47, 3), (47, 5), (47, 6), (47, 7), (47, 8), (47, 9), (47, 10), (47, 11)], [(some (.inl ((-6), (-6))), [], [((0, 14), .inl (0, 0)), ((0, 15), .inl ((-6), (-6))), ((45, 2), .inl (0, 0)), ((47, 3), .inl (0, 0)), ((47, 5), .inl (0, 0)), ((47, 6), .inl (0, 0)), ((47, 7), .inl (0, 0)), ((47, 8), .inl (0, 0)), ((47, 9), .inl (0, 0)), ((47, 10), .inl (0, 0)), ((47, 11), .inl (0, 0))], 101)], 4, 88, 0, 0)
def ck_h163 : List ck_Hd := []
set_option maxRecDepth 100000 in
theorem ck_k163 (l : Launch) (D : va_G) (st : Nat → Nat) : ck_Mt l D st ck_c163 := ck_sound (T := ck_T0) (cs := [ck_c160, ck_c161, ck_c162]) (hs := ck_h163) (sp := []) (fuel := 48) l ck_TSgood ck_okCl (ck_own (M0 := ck_m46) rfl rfl ck_okT0) (ck_cons (ck_k160 l D st) (ck_cons (ck_k161 l D st) (ck_cons (ck_k162 l D st) ck_nil))) (by decide +kernel)
/-- SLModel.splits -/
def ck_c164 : ck_C := (57, 101, [.inr (0, 77), .inl (0, 0)], [((77, 10), .inr (0, 84)), ((77, 11), .inr (0, 85)), ((77, 12), .inr (0, 86)), ((77, 13), .inl (0, 0)), ((84, 0), .inl (0, 0)), ((85, 0), .inl (0, 0)), ((86, 0), .inl (0, 0))], [(77, 13), (84, 0), (85, 0), (86, 0)], [(none, [(0, 0)], [((77, 13), .inl (0, 0)), ((84, 0), .inl (0, 0)), ((85, 0), .inl (0, 0)), ((86, 0), .inl (0, 0))], 101)], 0, 0, 0, 0)
def ck_h164 : List ck_Hd := [(7, ([(0, 0, 0, (0, 0, 0))], [(2, .inl (0, 0, 0)), (0, .inr (0, 77)), (1, .inl (0, 1, 0))], [], [((77, 10), .inr (0, 84)), ((77, 11), .inr (0, 85)), ((77, 12), .inr (0, 86)), ((77, 13), .inl (0, 0)), ((84, 0), .inl (0, 0)), ((85, 0), .inl (0, 0)), ((86, 0), .inl (0, 0))], 101, 0, 0), 0, 2)]
set_option maxRecDepth 100000 in
theorem ck_k164 (l : Launch) (D : va_G) (st : Nat → Nat) : ck_Mt l D st ck_c164 := ck_sound (T := ck_T13) (cs := []) (hs := ck_h164) (sp := []) (fuel := 51) l ck_TSgood ck_okCl (ck_own (M0 := ck_m57) rfl rfl ck_okT13) ck_nil (by decide +kernel)
/-- SLModel.fine -/
def ck_c165 : ck_C := (60, 101, [.inr (0, 77)], [((77, 16), .inl ((-1), (-1)))], [], [(some (.inl (1, 1)), [], [], 101)], 0, 0, 0, 0)
def ck_h165 : List ck_Hd := []
set_option maxRecDepth 100000 in
theorem ck_k165 (l : Launch) (D : va_G) (st : Nat → Nat) : ck_Mt l D st ck_c165 := ck_sound (T := ck_T13) (cs := []) (hs := ck_h165) (sp := []) (fuel := 31) l ck_TSgood ck_okCl (ck_own (M0 := ck_m60) rfl rfl ck_okT13) ck_nil (by decide +kernel)
/-- SLModel.takes -/
def ck_c166 : ck_C := (59, 101, [.inr (0, 77), .inl (1, 1)], [((77, 10), .inr (0, 84)), ((77, 14), .inl (0, 0)), ((77, 16), .inl ((-1), (-1))), ((84, 0), .inl (0, 0))], [], [(some (.inl (0, 0)), [(1, 1)], [], 101)], 1, 20, 0, 0)
def ck_h166 : List ck_Hd := []
set_option maxRecDepth 100000 in
theorem ck_k166 (l : Launch) (D : va_G) (st : Nat → Nat) : ck_Mt l D st ck_c166 := ck_sound (T := ck_T13) (cs := [ck_c165]) (hs := ck_h166) (sp := []) (fuel := 40) l ck_TSgood ck_okCl (ck_own (M0 := ck_m59) rfl rfl ck_okT13) (ck_cons (ck_k165 l D st) ck_nil) (by decide +kernel)
/-- SLModel.takes -/
def ck_c167 : ck_C := (59, 101, [.inr (0, 77), .inl (5, 5)], [((77, 10), .inr (0, 84)), ((77, 14), .inl (0, 0)), ((77, 16), .inl ((-1), (-1))), ((84, 0), .inl (0, 0))], [], [(some (.inl (0, 0)), [(5, 5)], [], 101)], 1, 20, 0, 0)
def ck_h167 : List ck_Hd := []
set_option maxRecDepth 100000 in
theorem ck_k167 (l : Launch) (D : va_G) (st : Nat → Nat) : ck_Mt l D st ck_c167 := ck_sound (T := ck_T13) (cs := [ck_c165]) (hs := ck_h167) (sp := []) (fuel := 40) l ck_TSgood ck_okCl (ck_own (M0 := ck_m59) rfl rfl ck_okT13) (ck_cons (ck_k165 l D st) ck_nil) (by decide +kernel)
/-- SLModel.takes -/
def ck_c168 : ck_C := (59, 101, [.inr (0, 77), .inl (6, 6)], [((77, 10), .inr (0, 84)), ((77, 14), .inl (0, 0)), ((77, 16), .inl ((-1), (-1))), ((84, 0), .inl (0, 0))], [], [(some (.inl (0, 0)), [(6, 6)], [], 101)], 1, 20, 0, 0)
def ck_h168 : List ck_Hd := []
set_option maxRecDepth 100000 in
theorem ck_k168 (l : Launch) (D : va_G) (st : Nat → Nat) : ck_Mt l D st ck_c168 := ck_sound (T := ck_T13) (cs := [ck_c165]) (hs := ck_h168) (sp := []) (fuel := 40) l ck_TSgood ck_okCl (ck_own (M0 := ck_m59) rfl rfl ck_okT13) (ck_cons (ck_k165 l D st) ck_nil) (by decide +kernel)
/-- SLModel.takes -/
def ck_c169 : ck_C := (59, 101, [.inr (0, 77), .inl (3, 3)], [((77, 10), .inr (0, 84)), ((77, 14), .inl (0, 0)), ((77, 16), .inl ((-1), (-1))), ((84, 0), .inl (0, 0))], [], [(some (.inl (0, 0)), [(3, 3)], [], 101)], 1, 20, 0, 0)
def ck_h169 : List ck_Hd := []
set_option maxRecDepth 100000 in
theorem ck_k169 (l : Launch) (D : va_G) (st : Nat → Nat) : ck_Mt l D st ck_c169 := ck_sound (T := ck_T13) (cs := [ck_c165]) (hs := ck_h169) (sp := []) (fuel := 40) l ck_TSgood ck_okCl (ck_own (M0 := ck_m59) rfl rfl ck_okT13) (ck_cons (ck_k165 l D st) ck_nil) (by decide +kernel)
/-- SLModel.takes -/
def ck_c170 : ck_C := (59, 101, [.inr (0, 77), .inl (4, 4)], [((77, 10), .inr (0, 84)), ((77, 14), .inl (0, 0)), ((77, 16), .inl ((-1), (-1))), ((84, 0), .inl (0, 0))], [], [(some (.inl (0, 0)), [(4, 4)], [], 101)], 1, 20, 0, 0)
def ck_h170 : List ck_Hd := []
set_option maxRecDepth 100000 in
theorem ck_k170 (l : Launch) (D : va_G) (st : Nat → Nat) : ck_Mt l D st ck_c170 := ck_sound (T := ck_T13) (cs := [ck_c165]) (hs := ck_h170) (sp := []) (fuel := 40) l ck_TSgood ck_okCl (ck_own (M0 := ck_m59) rfl rfl ck_okT13) (ck_cons (ck_k165 l D st) ck_nil) (by decide +kernel)
/-- SLModel.faults -/
def ck_c171 : ck_C := (62, 101, [.inr (0, 77)], [((77, 12), .inr (0, 86)), ((77, 14), .inl (0, 0)), ((77, 16), .inl ((-1), (-1))), ((86, 0), .inl (0, 0))], [(77, 16)], [(none, [], [((77, 16), .inl (0, 0))], 101)], 1, 20, 0, 0)
def ck_h171 : List ck_Hd := []
set_option maxRecDepth 100000 in
theorem ck_k171 (l : Launch) (D : va_G) (st : Nat → Nat) : ck_Mt l D st ck_c171 := ck_sound (T := ck_T13) (cs := [ck_c165]) (hs := ck_h171) (sp := []) (fuel := 35) l ck_TSgood ck_okCl (ck_own (M0 := ck_m62) rfl rfl ck_okT13) (ck_cons (ck_k165 l D st) ck_nil) (by decide +kernel)
/-- SLModel.must -/
def ck_c172 : ck_C := (61, 101, [.inr (0, 77), .inl (4, 4)], [((77, 10), .inr (0, 84)), ((77, 12), .inr (0, 86)), ((77, 14), .inl (0, 0)), ((77, 16), .inl ((-1), (-1))), ((84, 0), .inl (0, 0)), ((86, 0), .inl (0, 0))], [(77, 16)], [(none, [(4, 4)], [((77, 16), .inl (0, 0))], 101)], 2, 42, 0, 0)
def ck_h172 : List ck_Hd := []
set_option maxRecDepth 100000 in
theorem ck_k172 (l : Launch) (D : va_G) (st : Nat → Nat) : ck_Mt l D st ck_c172 := ck_sound (T := ck_T13) (cs := [ck_c170, ck_c171]) (hs := ck_h172) (sp := []) (fuel := 31) l ck_TSgood ck_okCl (ck_own (M0 := ck_m61) rfl rfl ck_okT13) (ck_cons (ck_k170 l D st) (ck_cons (ck_k171 l D st) ck_nil)) (by decide +kernel)
/-- SLModel.fine -/
def ck_c173 : ck_C := (60, 101, [.inr (0, 77)], [((77, 16), .inl (0, 0))], [], [(some (.inl (0, 0)), [], [], 101)], 0, 0, 0, 0)
def ck_h173 : List ck_Hd := []
set_option maxRecDepth 100000 in
theorem ck_k173 (l : Launch) (D : va_G) (st : Nat → Nat) : ck_Mt l D st ck_c173 := ck_sound (T := ck_T13) (cs := []) (hs := ck_h173) (sp := []) (fuel := 30) l ck_TSgood ck_okCl (ck_own (M0 := ck_m60) rfl rfl ck_okT13) ck_nil (by decide +kernel)
/-- SLModel.takes -/
def ck_c174 : ck_C := (59, 101, [.inr (0, 77), .inl (7, 7)], [((77, 16), .inl (0, 0))], [], [(some (.inl (0, 0)), [(7, 7)], [], 101)], 1, 20, 0, 0)
def ck_h174 : List ck_Hd := []
set_option maxRecDepth 100000 in
theorem ck_k174 (l : Launch) (D : va_G) (st : Nat → Nat) : ck_Mt l D st ck_c174 := ck_sound (T := ck_T13) (cs := [ck_c173]) (hs := ck_h174) (sp := []) (fuel := 33) l ck_TSgood ck_okCl (ck_own (M0 := ck_m59) rfl rfl ck_okT13) (ck_cons (ck_k173 l D st) ck_nil) (by decide +kernel)
/-- SLModel.readClause -/
def ck_c175 : ck_C := (58, 101, [.inr (0, 77)], [((77, 10), .inr (0, 84)), ((77, 12), .inr (0, 86)), ((77, 14), .inl (0, 0)), ((77, 16), .inl ((-1), (-1))), ((84, 0), .inl (0, 0)), ((86, 0), .inl (0, 0))], [(77, 16)], [(none, [], [((77, 16), .inl (0, 0))], 101)], 3, 63, 0, 0)
def ck_h175 : List ck_Hd := []
set_option maxRecDepth 100000 in
theorem ck_k175 (l : Launch) (D : va_G) (st : Nat → Nat) : ck_Mt l D st ck_c175 := ck_sound (T := ck_T13) (cs := [ck_c166, ck_c167, ck_c168, ck_c169, ck_c172, ck_c174]) (hs := ck_h175) (sp := []) (fuel := 48) l ck_TSgood ck_okCl (ck_own (M0 := ck_m58) rfl rfl ck_okT13) (ck_cons (ck_k166 l D st) (ck_cons (ck_k167 l D st) (ck_cons (ck_k168 l D st) (ck_cons (ck_k169 l D st) (ck_cons (ck_k172 l D st) (ck_cons (ck_k174 l D st) ck_nil)))))) (by decide +kernel)
/-- SLModel.sign -/
def ck_c176 : ck_C := (63, 101, [.inl (59, 59)], [], [], [(some (.inl (159, 159)), [(59, 59)], [], 101)], 0, 0, 0, 0)
def ck_h176 : List ck_Hd := []
set_option maxRecDepth 100000 in
theorem ck_k176 (l : Launch) (D : va_G) (st : Nat → Nat) : ck_Mt l D st ck_c176 := ck_sound (T := ck_T13) (cs := []) (hs := ck_h176) (sp := []) (fuel := 28) l ck_TSgood ck_okCl (ck_own (M0 := ck_m63) rfl rfl ck_okT13) ck_nil (by decide +kernel)
/-- SLModel.takes -/
def ck_c177 : ck_C := (59, 101, [.inr (0, 77), .inl (159, 159)], [((77, 16), .inl (0, 0))], [], [(some (.inl (0, 0)), [(159, 159)], [], 101)], 1, 20, 0, 0)
def ck_h177 : List ck_Hd := []
set_option maxRecDepth 100000 in
theorem ck_k177 (l : Launch) (D : va_G) (st : Nat → Nat) : ck_Mt l D st ck_c177 := ck_sound (T := ck_T13) (cs := [ck_c173]) (hs := ck_h177) (sp := []) (fuel := 33) l ck_TSgood ck_okCl (ck_own (M0 := ck_m59) rfl rfl ck_okT13) (ck_cons (ck_k173 l D st) ck_nil) (by decide +kernel)
/-- SLModel.reads -/
def ck_c178 : ck_C := (56, 101, [.inr (0, 77)], [((77, 8), .inl (0, 0)), ((77, 10), .inr (0, 84)), ((77, 11), .inr (0, 85)), ((77, 12), .inr (0, 86)), ((77, 13), .inl (0, 0)), ((77, 14), .inl (0, 0)), ((77, 16), .inl (0, 0)), ((84, 0), .inl (0, 0)), ((85, 0), .inl (0, 0)), ((86, 0), .inl (0, 0))], [(77, 8), (77, 9), (77, 13), (77, 14), (77, 15), (77, 16), (84, 0), (85, 0), (86, 0)], [(some (.inl (0, 0)), [], [((77, 8), .inl (0, 0)), ((77, 9), .inl (0, 0)), ((77, 13), .inl (0, 0)), ((77, 14), .inl (0, 0)), ((77, 15), .inl (0, 0)), ((77, 16), .inl (0, 0)), ((84, 0), .inl (0, 0)), ((85, 0), .inl (0, 0)), ((86, 0), .inl (0, 0))], 101)], 4, 83, 0, 0)
def ck_h178 : List ck_Hd := [(34, ([], [(1, .inl (0, 0, 1)), (0, .inr (0, 77))], [], [((77, 8), .inl (0, 0)), ((77, 10), .inr (0, 84)), ((77, 11), .inr (0, 85)), ((77, 12), .inr (0, 86)), ((77, 13), .inl (0, 0)), ((77, 14), .inl (0, 0)), ((77, 15), .inl (0, 0)), ((77, 16), .inl (0, 0)), ((84, 0), .inl (0, 0)), ((85, 0), .inl (0, 0)), ((86, 0), .inl (0, 0))], 101, 0, 0), 0, 2)]
set_option maxRecDepth 100000 in
theorem ck_k178 (l : Launch) (D : va_G) (st : Nat → Nat) : ck_Mt l D st ck_c178 := ck_sound (T := ck_T13) (cs := [ck_c164, ck_c175, ck_c176, ck_c177, ck_c173]) (hs := ck_h178) (sp := []) (fuel := 59) l ck_TSgood ck_okCl (ck_own (M0 := ck_m56) rfl rfl ck_okT13) (ck_cons (ck_k164 l D st) (ck_cons (ck_k175 l D st) (ck_cons (ck_k176 l D st) (ck_cons (ck_k177 l D st) (ck_cons (ck_k173 l D st) ck_nil))))) (by decide +kernel)
/-- SLModel.refuses -/
def ck_c179 : ck_C := (22, 101, [.inr (0, 77), .inl ((-6), (-6))], [], [(77, 1)], [(some (.inl ((-6), (-6))), [((-6), (-6))], [((77, 1), .inl ((-6), (-6)))], 101)], 0, 0, 0, 0)
def ck_h179 : List ck_Hd := []
set_option maxRecDepth 100000 in
theorem ck_k179 (l : Launch) (D : va_G) (st : Nat → Nat) : ck_Mt l D st ck_c179 := ck_sound (T := ck_T13) (cs := []) (hs := ck_h179) (sp := []) (fuel := 29) l ck_TSgood ck_okCl (ck_own (M0 := ck_m22) rfl rfl ck_okT13) ck_nil (by decide +kernel)
/-- SLModel.text -/
def ck_c180 : ck_C := (55, 101, [.inr (0, 77)], [((77, 2), .inr (0, 78)), ((77, 8), .inl (0, 0)), ((77, 10), .inr (0, 84)), ((77, 11), .inr (0, 85)), ((77, 12), .inr (0, 86)), ((77, 13), .inl (0, 0)), ((77, 14), .inl (0, 0)), ((77, 16), .inl (0, 0)), ((78, 1295), .inl (0, 0)), ((84, 0), .inl (0, 0)), ((85, 0), .inl (0, 0)), ((86, 0), .inl (0, 0))], [(77, 1), (77, 8), (77, 9), (77, 13), (77, 14), (77, 15), (77, 16), (84, 0), (85, 0), (86, 0)], [(some (.inl ((-6), (-6))), [], [((77, 1), .inl ((-6), (-6))), ((77, 8), .inl (0, 0)), ((77, 9), .inl (0, 0)), ((77, 13), .inl (0, 0)), ((77, 14), .inl (0, 0)), ((77, 15), .inl (0, 0)), ((77, 16), .inl (0, 0)), ((84, 0), .inl (0, 0)), ((85, 0), .inl (0, 0)), ((86, 0), .inl (0, 0))], 101)], 5, 104, 0, 0)
def ck_h180 : List ck_Hd := []
set_option maxRecDepth 100000 in
theorem ck_k180 (l : Launch) (D : va_G) (st : Nat → Nat) : ck_Mt l D st ck_c180 := ck_sound (T := ck_T13) (cs := [ck_c178, ck_c179]) (hs := ck_h180) (sp := []) (fuel := 37) l ck_TSgood ck_okCl (ck_own (M0 := ck_m55) rfl rfl ck_okT13) (ck_cons (ck_k178 l D st) (ck_cons (ck_k179 l D st) ck_nil)) (by decide +kernel)
/-- SL.fault -/
def ck_c181 : ck_C := (64, 101, [.inr (0, 0)], [((0, 14), .inl ((-1), (-1)))], [], [(some (.inl ((-1), (-1))), [], [], 101)], 0, 0, 0, 0)
def ck_h181 : List ck_Hd := []
set_option maxRecDepth 100000 in
theorem ck_k181 (l : Launch) (D : va_G) (st : Nat → Nat) : ck_Mt l D st ck_c181 := ck_sound (T := ck_T0) (cs := []) (hs := ck_h181) (sp := []) (fuel := 27) l ck_TSgood ck_okCl (ck_own (M0 := ck_m64) rfl rfl ck_okT0) ck_nil (by decide +kernel)
/-- SLModel.fault -/
def ck_c182 : ck_C := (65, 101, [.inr (0, 77)], [((77, 9), .inl ((-1), (-1)))], [], [(some (.inl ((-1), (-1))), [], [], 101)], 0, 0, 0, 0)
def ck_h182 : List ck_Hd := []
set_option maxRecDepth 100000 in
theorem ck_k182 (l : Launch) (D : va_G) (st : Nat → Nat) : ck_Mt l D st ck_c182 := ck_sound (T := ck_T13) (cs := []) (hs := ck_h182) (sp := []) (fuel := 27) l ck_TSgood ck_okCl (ck_own (M0 := ck_m65) rfl rfl ck_okT13) ck_nil (by decide +kernel)
/-- SL.law -/
def ck_c183 : ck_C := (66, 101, [.inr (0, 0), .inl ((-2147483648), 2147483647)], [((0, 1), .inr (0, 1)), ((1, 12), .inl (0, 0))], [(0, 15)], [(some (.inl ((-2), (-2))), [((-2147483648), (-1))], [((0, 15), .inl ((-2), (-2)))], 101), (some (.inl ((-2), (-2))), [(0, 2147483647)], [((0, 15), .inl ((-2), (-2)))], 101)], 1, 22, 0, 0)
def ck_h183 : List ck_Hd := []
set_option maxRecDepth 100000 in
theorem ck_k183 (l : Launch) (D : va_G) (st : Nat → Nat) : ck_Mt l D st ck_c183 := ck_sound (T := ck_T0) (cs := [ck_c48, ck_c50]) (hs := ck_h183) (sp := []) (fuel := 37) l ck_TSgood ck_okCl (ck_own (M0 := ck_m66) rfl rfl ck_okT0) (ck_cons (ck_k48 l D st) (ck_cons (ck_k50 l D st) ck_nil)) (by decide +kernel)
/-- SLModel.isText -/
def ck_c184 : ck_C := (68, 101, [.inr (0, 77), .inl ((-2147483648), (-1))], [((77, 2), .inr (0, 78)), ((78, 1295), .inl (0, 0))], [], [(some (.inl (0, 0)), [((-2147483648), (-1))], [], 101)], 1, 22, 0, 0)
def ck_h184 : List ck_Hd := []
set_option maxRecDepth 100000 in
theorem ck_k184 (l : Launch) (D : va_G) (st : Nat → Nat) : ck_Mt l D st ck_c184 := ck_sound (T := ck_T13) (cs := [ck_c67]) (hs := ck_h184) (sp := []) (fuel := 34) l ck_TSgood ck_okCl (ck_own (M0 := ck_m68) rfl rfl ck_okT13) (ck_cons (ck_k67 l D st) ck_nil) (by decide +kernel)
/-- SLModel.law -/
def ck_c185 : ck_C := (67, 101, [.inr (0, 77), .inl ((-2147483648), (-1))], [((77, 2), .inr (0, 78)), ((78, 1295), .inl (0, 0))], [(77, 1)], [(some (.inl ((-2), (-2))), [((-2147483648), (-1))], [((77, 1), .inl ((-2), (-2)))], 101)], 2, 43, 0, 0)
def ck_h185 : List ck_Hd := []
set_option maxRecDepth 100000 in
theorem ck_k185 (l : Launch) (D : va_G) (st : Nat → Nat) : ck_Mt l D st ck_c185 := ck_sound (T := ck_T13) (cs := [ck_c184, ck_c69]) (hs := ck_h185) (sp := []) (fuel := 32) l ck_TSgood ck_okCl (ck_own (M0 := ck_m67) rfl rfl ck_okT13) (ck_cons (ck_k184 l D st) (ck_cons (ck_k69 l D st) ck_nil)) (by decide +kernel)
/-- SLModel.isText -/
def ck_c186 : ck_C := (68, 101, [.inr (0, 77), .inl (0, 2147483647)], [((77, 2), .inr (0, 78)), ((78, 1295), .inl (0, 0))], [], [(some (.inl (0, 0)), [(0, 2147483647)], [], 101)], 1, 22, 0, 0)
def ck_h186 : List ck_Hd := []
set_option maxRecDepth 100000 in
theorem ck_k186 (l : Launch) (D : va_G) (st : Nat → Nat) : ck_Mt l D st ck_c186 := ck_sound (T := ck_T13) (cs := [ck_c71]) (hs := ck_h186) (sp := []) (fuel := 34) l ck_TSgood ck_okCl (ck_own (M0 := ck_m68) rfl rfl ck_okT13) (ck_cons (ck_k71 l D st) ck_nil) (by decide +kernel)
/-- SLModel.law -/
def ck_c187 : ck_C := (67, 101, [.inr (0, 77), .inl (0, 2147483647)], [((77, 2), .inr (0, 78)), ((78, 1295), .inl (0, 0))], [(77, 1)], [(some (.inl ((-2), (-2))), [(0, 2147483647)], [((77, 1), .inl ((-2), (-2)))], 101)], 2, 43, 0, 0)
def ck_h187 : List ck_Hd := []
set_option maxRecDepth 100000 in
theorem ck_k187 (l : Launch) (D : va_G) (st : Nat → Nat) : ck_Mt l D st ck_c187 := ck_sound (T := ck_T13) (cs := [ck_c186, ck_c69]) (hs := ck_h187) (sp := []) (fuel := 32) l ck_TSgood ck_okCl (ck_own (M0 := ck_m67) rfl rfl ck_okT13) (ck_cons (ck_k186 l D st) (ck_cons (ck_k69 l D st) ck_nil)) (by decide +kernel)
/-- SL.cuts -/
def ck_c188 : ck_C := (69, 101, [.inr (0, 0), .inl ((-2147483648), 2147483647), .inl ((-2147483648), 2147483647), .inl ((-2147483648), 2147483647), .inl ((-2147483648), 2147483647)], [((0, 1), .inr (0, 1)), ((1, 1), .inl (0, 0))], [], [(some (.inl ((-1), (-1))), [((-2147483648), (-1)), ((-2147483648), 2147483647), ((-2147483648), 2147483647), ((-2147483648), 2147483647)], [], 101), (some (.inl ((-1), (-1))), [(0, 2147483647), ((-2147483648), 2147483647), ((-2147483648), 2147483647), ((-2147483648), 2147483647)], [], 101)], 2, 43, 0, 0)
def ck_h188 : List ck_Hd := []
set_option maxRecDepth 100000 in
theorem ck_k188 (l : Launch) (D : va_G) (st : Nat → Nat) : ck_Mt l D st ck_c188 := ck_sound (T := ck_T0) (cs := [ck_c49]) (hs := ck_h188) (sp := []) (fuel := 31) l ck_TSgood ck_okCl (ck_own (M0 := ck_m69) rfl rfl ck_okT0) (ck_cons (ck_k49 l D st) ck_nil) (by decide +kernel)
/-- SLModel.cuts -/
def ck_c189 : ck_C := (70, 101, [.inr (0, 77), .inl ((-2147483648), (-1)), .inl ((-2147483648), 2147483647), .inl ((-2147483648), 2147483647), .inl ((-2147483648), 2147483647)], [((77, 2), .inr (0, 78)), ((78, 1293), .inl (0, 0))], [], [(some (.inl ((-1), (-1))), [((-2147483648), (-1)), ((-2147483648), 2147483647), ((-2147483648), 2147483647), ((-2147483648), 2147483647)], [], 101)], 2, 43, 0, 0)
def ck_h189 : List ck_Hd := []
set_option maxRecDepth 100000 in
theorem ck_k189 (l : Launch) (D : va_G) (st : Nat → Nat) : ck_Mt l D st ck_c189 := ck_sound (T := ck_T13) (cs := [ck_c68]) (hs := ck_h189) (sp := []) (fuel := 30) l ck_TSgood ck_okCl (ck_own (M0 := ck_m70) rfl rfl ck_okT13) (ck_cons (ck_k68 l D st) ck_nil) (by decide +kernel)
/-- SLModel.cuts -/
def ck_c190 : ck_C := (70, 101, [.inr (0, 77), .inl (0, 2147483647), .inl ((-2147483648), 2147483647), .inl ((-2147483648), 2147483647), .inl ((-2147483648), 2147483647)], [((77, 2), .inr (0, 78)), ((78, 1293), .inl (0, 0))], [], [(some (.inl ((-1), (-1))), [(0, 2147483647), ((-2147483648), 2147483647), ((-2147483648), 2147483647), ((-2147483648), 2147483647)], [], 101)], 2, 43, 0, 0)
def ck_h190 : List ck_Hd := []
set_option maxRecDepth 100000 in
theorem ck_k190 (l : Launch) (D : va_G) (st : Nat → Nat) : ck_Mt l D st ck_c190 := ck_sound (T := ck_T13) (cs := [ck_c72]) (hs := ck_h190) (sp := []) (fuel := 30) l ck_TSgood ck_okCl (ck_own (M0 := ck_m70) rfl rfl ck_okT13) (ck_cons (ck_k72 l D st) ck_nil) (by decide +kernel)
/-- SL.trial -/
def ck_c191 : ck_C := (71, 101, [.inr (0, 0), .inl ((-2147483648), 2147483647), .inl ((-2147483648), 2147483647), .inl ((-2147483648), 2147483647), .inl ((-2147483648), 2147483647), .inl ((-2147483648), 2147483647), .inl ((-2147483648), 2147483647)], [((0, 1), .inr (0, 1)), ((1, 1), .inl (0, 0))], [(0, 15)], [(some (.inl ((-1), (-1))), [((-2147483648), 2147483647), ((-2147483648), 2147483647), ((-2147483648), (-1)), ((-2147483648), 2147483647), ((-2147483648), 2147483647), ((-2147483648), 2147483647)], [((0, 15), .inl ((-1), (-1)))], 101), (some (.inl ((-1), (-1))), [((-2147483648), 2147483647), ((-2147483648), 2147483647), (3, 2147483647), ((-2147483648), 2147483647), ((-2147483648), 2147483647), ((-2147483648), 2147483647)], [((0, 15), .inl ((-1), (-1)))], 101), (some (.inl ((-1), (-1))), [((-2147483648), 2147483647), ((-2147483648), 2147483647), (0, 2), ((-2147483648), (-1)), ((-2147483648), 2147483647), ((-2147483648), 2147483647)], [((0, 15), .inl ((-1), (-1)))], 101), (some (.inl ((-1), (-1))), [((-2147483648), 2147483647), ((-2147483648), 2147483647), (0, 2), (4, 2147483647), ((-2147483648), 2147483647), ((-2147483648), 2147483647)], [((0, 15), .inl ((-1), (-1)))], 101), (some (.inl ((-1), (-1))), [((-2147483648), 2147483647), ((-2147483648), 2147483647), (0, 2), (0, 3), ((-2147483648), (-1)), ((-2147483648), 2147483647)], [((0, 15), .inl ((-1), (-1)))], 101), (some (.inl ((-1), (-1))), [((-2147483648), 2147483647), ((-2147483648), 2147483647), (0, 2), (0, 3), (4, 2147483647), ((-2147483648), 2147483647)], [((0, 15), .inl ((-1), (-1)))], 101), (some (.inl ((-1), (-1))), [((-2147483648), 2147483647), ((-2147483648), 2147483647), (0, 2), (0, 3), (0, 3), ((-2147483648), 0)], [((0, 15), .inl ((-1), (-1)))], 101), (some (.inl ((-1), (-1))), [((-2147483648), 2147483647), ((-2147483648), 2147483647), (0, 2), (0, 3), (0, 3), (101, 2147483647)], [((0, 15), .inl ((-1), (-1)))], 101), (some (.inl ((-2), (-2))), [((-2147483648), (-1)), ((-2147483648), 2147483647), (0, 2), (0, 3), (0, 3), (1, 100)], [((0, 15), .inl ((-2), (-2)))], 101), (some (.inl ((-2), (-2))), [(0, 2147483647), ((-2147483648), 2147483647), (0, 2), (0, 3), (0, 3), (1, 100)], [((0, 15), .inl ((-2), (-2)))], 101)], 2, 43, 0, 0)
def ck_h191 : List ck_Hd := []
set_option maxRecDepth 100000 in
theorem ck_k191 (l : Launch) (D : va_G) (st : Nat → Nat) : ck_Mt l D st ck_c191 := ck_sound (T := ck_T0) (cs := [ck_c46, ck_c19, ck_c114, ck_c20, ck_c49, ck_c50]) (hs := ck_h191) (sp := []) (fuel := 45) l ck_TSgood ck_okCl (ck_own (M0 := ck_m71) rfl rfl ck_okT0) (ck_cons (ck_k46 l D st) (ck_cons (ck_k19 l D st) (ck_cons (ck_k114 l D st) (ck_cons (ck_k20 l D st) (ck_cons (ck_k49 l D st) (ck_cons (ck_k50 l D st) ck_nil)))))) (by decide +kernel)
/-- SLModel.isSpot -/
def ck_c192 : ck_C := (73, 101, [.inl ((-2147483648), (-1)), .inl ((-2147483648), 2147483647)], [], [], [(some (.inl (0, 0)), [((-2147483648), (-1)), ((-2147483648), 2147483647)], [], 101)], 1, 22, 0, 0)
def ck_h192 : List ck_Hd := []
set_option maxRecDepth 100000 in
theorem ck_k192 (l : Launch) (D : va_G) (st : Nat → Nat) : ck_Mt l D st ck_c192 := ck_sound (T := ck_T13) (cs := [ck_c52]) (hs := ck_h192) (sp := []) (fuel := 31) l ck_TSgood ck_okCl (ck_own (M0 := ck_m73) rfl rfl ck_okT13) (ck_cons (ck_k52 l D st) ck_nil) (by decide +kernel)
/-- SLModel.trial -/
def ck_c193 : ck_C := (72, 101, [.inr (0, 77), .inl ((-2147483648), 2147483647), .inl ((-2147483648), 2147483647), .inl ((-2147483648), (-1)), .inl ((-2147483648), 2147483647), .inl ((-2147483648), 2147483647), .inl ((-2147483648), 2147483647)], [], [(77, 1)], [(some (.inl ((-1), (-1))), [((-2147483648), 2147483647), ((-2147483648), 2147483647), ((-2147483648), (-1)), ((-2147483648), 2147483647), ((-2147483648), 2147483647), ((-2147483648), 2147483647)], [((77, 1), .inl ((-1), (-1)))], 101)], 2, 43, 0, 0)
def ck_h193 : List ck_Hd := []
set_option maxRecDepth 100000 in
theorem ck_k193 (l : Launch) (D : va_G) (st : Nat → Nat) : ck_Mt l D st ck_c193 := ck_sound (T := ck_T13) (cs := [ck_c192, ck_c26]) (hs := ck_h193) (sp := []) (fuel := 32) l ck_TSgood ck_okCl (ck_own (M0 := ck_m72) rfl rfl ck_okT13) (ck_cons (ck_k192 l D st) (ck_cons (ck_k26 l D st) ck_nil)) (by decide +kernel)
/-- SLModel.isSpot -/
def ck_c194 : ck_C := (73, 101, [.inl (3, 2147483647), .inl ((-2147483648), 2147483647)], [], [], [(some (.inl (0, 0)), [(3, 2147483647), ((-2147483648), 2147483647)], [], 101)], 1, 22, 0, 0)
def ck_h194 : List ck_Hd := []
set_option maxRecDepth 100000 in
theorem ck_k194 (l : Launch) (D : va_G) (st : Nat → Nat) : ck_Mt l D st ck_c194 := ck_sound (T := ck_T13) (cs := [ck_c54]) (hs := ck_h194) (sp := []) (fuel := 31) l ck_TSgood ck_okCl (ck_own (M0 := ck_m73) rfl rfl ck_okT13) (ck_cons (ck_k54 l D st) ck_nil) (by decide +kernel)
/-- SLModel.trial -/
def ck_c195 : ck_C := (72, 101, [.inr (0, 77), .inl ((-2147483648), 2147483647), .inl ((-2147483648), 2147483647), .inl (3, 2147483647), .inl ((-2147483648), 2147483647), .inl ((-2147483648), 2147483647), .inl ((-2147483648), 2147483647)], [], [(77, 1)], [(some (.inl ((-1), (-1))), [((-2147483648), 2147483647), ((-2147483648), 2147483647), (3, 2147483647), ((-2147483648), 2147483647), ((-2147483648), 2147483647), ((-2147483648), 2147483647)], [((77, 1), .inl ((-1), (-1)))], 101)], 2, 43, 0, 0)
def ck_h195 : List ck_Hd := []
set_option maxRecDepth 100000 in
theorem ck_k195 (l : Launch) (D : va_G) (st : Nat → Nat) : ck_Mt l D st ck_c195 := ck_sound (T := ck_T13) (cs := [ck_c194, ck_c26]) (hs := ck_h195) (sp := []) (fuel := 32) l ck_TSgood ck_okCl (ck_own (M0 := ck_m72) rfl rfl ck_okT13) (ck_cons (ck_k194 l D st) (ck_cons (ck_k26 l D st) ck_nil)) (by decide +kernel)
/-- SLModel.isSpot -/
def ck_c196 : ck_C := (73, 101, [.inl (0, 2), .inl ((-2147483648), (-1))], [], [], [(some (.inl (0, 0)), [(0, 2), ((-2147483648), (-1))], [], 101)], 1, 22, 0, 0)
def ck_h196 : List ck_Hd := []
set_option maxRecDepth 100000 in
theorem ck_k196 (l : Launch) (D : va_G) (st : Nat → Nat) : ck_Mt l D st ck_c196 := ck_sound (T := ck_T13) (cs := [ck_c56, ck_c57]) (hs := ck_h196) (sp := []) (fuel := 36) l ck_TSgood ck_okCl (ck_own (M0 := ck_m73) rfl rfl ck_okT13) (ck_cons (ck_k56 l D st) (ck_cons (ck_k57 l D st) ck_nil)) (by decide +kernel)
/-- SLModel.trial -/
def ck_c197 : ck_C := (72, 101, [.inr (0, 77), .inl ((-2147483648), 2147483647), .inl ((-2147483648), 2147483647), .inl (0, 2), .inl ((-2147483648), (-1)), .inl ((-2147483648), 2147483647), .inl ((-2147483648), 2147483647)], [], [(77, 1)], [(some (.inl ((-1), (-1))), [((-2147483648), 2147483647), ((-2147483648), 2147483647), (0, 2), ((-2147483648), (-1)), ((-2147483648), 2147483647), ((-2147483648), 2147483647)], [((77, 1), .inl ((-1), (-1)))], 101)], 2, 43, 0, 0)
def ck_h197 : List ck_Hd := []
set_option maxRecDepth 100000 in
theorem ck_k197 (l : Launch) (D : va_G) (st : Nat → Nat) : ck_Mt l D st ck_c197 := ck_sound (T := ck_T13) (cs := [ck_c196, ck_c26]) (hs := ck_h197) (sp := []) (fuel := 32) l ck_TSgood ck_okCl (ck_own (M0 := ck_m72) rfl rfl ck_okT13) (ck_cons (ck_k196 l D st) (ck_cons (ck_k26 l D st) ck_nil)) (by decide +kernel)
/-- SLModel.isSpot -/
def ck_c198 : ck_C := (73, 101, [.inl (0, 2), .inl (4, 2147483647)], [], [], [(some (.inl (0, 0)), [(0, 2), (4, 2147483647)], [], 101)], 1, 22, 0, 0)
def ck_h198 : List ck_Hd := []
set_option maxRecDepth 100000 in
theorem ck_k198 (l : Launch) (D : va_G) (st : Nat → Nat) : ck_Mt l D st ck_c198 := ck_sound (T := ck_T13) (cs := [ck_c56, ck_c59]) (hs := ck_h198) (sp := []) (fuel := 36) l ck_TSgood ck_okCl (ck_own (M0 := ck_m73) rfl rfl ck_okT13) (ck_cons (ck_k56 l D st) (ck_cons (ck_k59 l D st) ck_nil)) (by decide +kernel)
/-- SLModel.trial -/
def ck_c199 : ck_C := (72, 101, [.inr (0, 77), .inl ((-2147483648), 2147483647), .inl ((-2147483648), 2147483647), .inl (0, 2), .inl (4, 2147483647), .inl ((-2147483648), 2147483647), .inl ((-2147483648), 2147483647)], [], [(77, 1)], [(some (.inl ((-1), (-1))), [((-2147483648), 2147483647), ((-2147483648), 2147483647), (0, 2), (4, 2147483647), ((-2147483648), 2147483647), ((-2147483648), 2147483647)], [((77, 1), .inl ((-1), (-1)))], 101)], 2, 43, 0, 0)
def ck_h199 : List ck_Hd := []
set_option maxRecDepth 100000 in
theorem ck_k199 (l : Launch) (D : va_G) (st : Nat → Nat) : ck_Mt l D st ck_c199 := ck_sound (T := ck_T13) (cs := [ck_c198, ck_c26]) (hs := ck_h199) (sp := []) (fuel := 32) l ck_TSgood ck_okCl (ck_own (M0 := ck_m72) rfl rfl ck_okT13) (ck_cons (ck_k198 l D st) (ck_cons (ck_k26 l D st) ck_nil)) (by decide +kernel)
/-- SLModel.isSpot -/
def ck_c200 : ck_C := (73, 101, [.inl (0, 2), .inl (0, 3)], [], [], [(some (.inl (1, 1)), [(0, 2), (0, 3)], [], 101)], 1, 22, 0, 0)
def ck_h200 : List ck_Hd := []
set_option maxRecDepth 100000 in
theorem ck_k200 (l : Launch) (D : va_G) (st : Nat → Nat) : ck_Mt l D st ck_c200 := ck_sound (T := ck_T13) (cs := [ck_c56, ck_c61]) (hs := ck_h200) (sp := []) (fuel := 37) l ck_TSgood ck_okCl (ck_own (M0 := ck_m73) rfl rfl ck_okT13) (ck_cons (ck_k56 l D st) (ck_cons (ck_k61 l D st) ck_nil)) (by decide +kernel)
/-- SLModel.trial -/
def ck_c201 : ck_C := (72, 101, [.inr (0, 77), .inl ((-2147483648), 2147483647), .inl ((-2147483648), 2147483647), .inl (0, 2), .inl (0, 3), .inl ((-2147483648), (-1)), .inl ((-2147483648), 2147483647)], [], [(77, 1)], [(some (.inl ((-1), (-1))), [((-2147483648), 2147483647), ((-2147483648), 2147483647), (0, 2), (0, 3), ((-2147483648), (-1)), ((-2147483648), 2147483647)], [((77, 1), .inl ((-1), (-1)))], 101)], 2, 43, 0, 0)
def ck_h201 : List ck_Hd := []
set_option maxRecDepth 100000 in
theorem ck_k201 (l : Launch) (D : va_G) (st : Nat → Nat) : ck_Mt l D st ck_c201 := ck_sound (T := ck_T13) (cs := [ck_c200, ck_c57, ck_c26]) (hs := ck_h201) (sp := []) (fuel := 37) l ck_TSgood ck_okCl (ck_own (M0 := ck_m72) rfl rfl ck_okT13) (ck_cons (ck_k200 l D st) (ck_cons (ck_k57 l D st) (ck_cons (ck_k26 l D st) ck_nil))) (by decide +kernel)
/-- SLModel.trial -/
def ck_c202 : ck_C := (72, 101, [.inr (0, 77), .inl ((-2147483648), 2147483647), .inl ((-2147483648), 2147483647), .inl (0, 2), .inl (0, 3), .inl (4, 2147483647), .inl ((-2147483648), 2147483647)], [], [(77, 1)], [(some (.inl ((-1), (-1))), [((-2147483648), 2147483647), ((-2147483648), 2147483647), (0, 2), (0, 3), (4, 2147483647), ((-2147483648), 2147483647)], [((77, 1), .inl ((-1), (-1)))], 101)], 2, 43, 0, 0)
def ck_h202 : List ck_Hd := []
set_option maxRecDepth 100000 in
theorem ck_k202 (l : Launch) (D : va_G) (st : Nat → Nat) : ck_Mt l D st ck_c202 := ck_sound (T := ck_T13) (cs := [ck_c200, ck_c59, ck_c26]) (hs := ck_h202) (sp := []) (fuel := 37) l ck_TSgood ck_okCl (ck_own (M0 := ck_m72) rfl rfl ck_okT13) (ck_cons (ck_k200 l D st) (ck_cons (ck_k59 l D st) (ck_cons (ck_k26 l D st) ck_nil))) (by decide +kernel)
/-- SLModel.trial -/
def ck_c203 : ck_C := (72, 101, [.inr (0, 77), .inl ((-2147483648), 2147483647), .inl ((-2147483648), 2147483647), .inl (0, 2), .inl (0, 3), .inl (0, 3), .inl ((-2147483648), 0)], [], [(77, 1)], [(some (.inl ((-1), (-1))), [((-2147483648), 2147483647), ((-2147483648), 2147483647), (0, 2), (0, 3), (0, 3), ((-2147483648), 0)], [((77, 1), .inl ((-1), (-1)))], 101)], 2, 43, 0, 0)
def ck_h203 : List ck_Hd := []
set_option maxRecDepth 100000 in
theorem ck_k203 (l : Launch) (D : va_G) (st : Nat → Nat) : ck_Mt l D st ck_c203 := ck_sound (T := ck_T13) (cs := [ck_c200, ck_c61, ck_c31, ck_c26]) (hs := ck_h203) (sp := []) (fuel := 42) l ck_TSgood ck_okCl (ck_own (M0 := ck_m72) rfl rfl ck_okT13) (ck_cons (ck_k200 l D st) (ck_cons (ck_k61 l D st) (ck_cons (ck_k31 l D st) (ck_cons (ck_k26 l D st) ck_nil)))) (by decide +kernel)
/-- SLModel.trial -/
def ck_c204 : ck_C := (72, 101, [.inr (0, 77), .inl ((-2147483648), 2147483647), .inl ((-2147483648), 2147483647), .inl (0, 2), .inl (0, 3), .inl (0, 3), .inl (101, 2147483647)], [], [(77, 1)], [(some (.inl ((-1), (-1))), [((-2147483648), 2147483647), ((-2147483648), 2147483647), (0, 2), (0, 3), (0, 3), (101, 2147483647)], [((77, 1), .inl ((-1), (-1)))], 101)], 2, 43, 0, 0)
def ck_h204 : List ck_Hd := []
set_option maxRecDepth 100000 in
theorem ck_k204 (l : Launch) (D : va_G) (st : Nat → Nat) : ck_Mt l D st ck_c204 := ck_sound (T := ck_T13) (cs := [ck_c200, ck_c61, ck_c33, ck_c26]) (hs := ck_h204) (sp := []) (fuel := 42) l ck_TSgood ck_okCl (ck_own (M0 := ck_m72) rfl rfl ck_okT13) (ck_cons (ck_k200 l D st) (ck_cons (ck_k61 l D st) (ck_cons (ck_k33 l D st) (ck_cons (ck_k26 l D st) ck_nil)))) (by decide +kernel)
/-- SLModel.trial -/
def ck_c205 : ck_C := (72, 101, [.inr (0, 77), .inl ((-2147483648), (-1)), .inl ((-2147483648), 2147483647), .inl (0, 2), .inl (0, 3), .inl (0, 3), .inl (1, 100)], [((77, 2), .inr (0, 78)), ((78, 1293), .inl (0, 0))], [(77, 1)], [(some (.inl ((-2), (-2))), [((-2147483648), (-1)), ((-2147483648), 2147483647), (0, 2), (0, 3), (0, 3), (1, 100)], [((77, 1), .inl ((-2), (-2)))], 101)], 2, 43, 0, 0)
def ck_h205 : List ck_Hd := []
set_option maxRecDepth 100000 in
theorem ck_k205 (l : Launch) (D : va_G) (st : Nat → Nat) : ck_Mt l D st ck_c205 := ck_sound (T := ck_T13) (cs := [ck_c200, ck_c61, ck_c35, ck_c68, ck_c69]) (hs := ck_h205) (sp := []) (fuel := 46) l ck_TSgood ck_okCl (ck_own (M0 := ck_m72) rfl rfl ck_okT13) (ck_cons (ck_k200 l D st) (ck_cons (ck_k61 l D st) (ck_cons (ck_k35 l D st) (ck_cons (ck_k68 l D st) (ck_cons (ck_k69 l D st) ck_nil))))) (by decide +kernel)
/-- SLModel.trial -/
def ck_c206 : ck_C := (72, 101, [.inr (0, 77), .inl (0, 2147483647), .inl ((-2147483648), 2147483647), .inl (0, 2), .inl (0, 3), .inl (0, 3), .inl (1, 100)], [((77, 2), .inr (0, 78)), ((78, 1293), .inl (0, 0))], [(77, 1)], [(some (.inl ((-2), (-2))), [(0, 2147483647), ((-2147483648), 2147483647), (0, 2), (0, 3), (0, 3), (1, 100)], [((77, 1), .inl ((-2), (-2)))], 101)], 2, 43, 0, 0)
def ck_h206 : List ck_Hd := []
set_option maxRecDepth 100000 in
theorem ck_k206 (l : Launch) (D : va_G) (st : Nat → Nat) : ck_Mt l D st ck_c206 := ck_sound (T := ck_T13) (cs := [ck_c200, ck_c61, ck_c35, ck_c72, ck_c69]) (hs := ck_h206) (sp := []) (fuel := 46) l ck_TSgood ck_okCl (ck_own (M0 := ck_m72) rfl rfl ck_okT13) (ck_cons (ck_k200 l D st) (ck_cons (ck_k61 l D st) (ck_cons (ck_k35 l D st) (ck_cons (ck_k72 l D st) (ck_cons (ck_k69 l D st) ck_nil))))) (by decide +kernel)
/-- SL.row -/
def ck_c207 : ck_C := (74, 101, [.inr (0, 0)], [((0, 4), .inr (0, 45)), ((45, 2), .inl (0, 0))], [(0, 15)], [(some (.inl ((-6), (-6))), [], [((0, 15), .inl ((-6), (-6)))], 101)], 1, 21, 0, 0)
def ck_h207 : List ck_Hd := []
set_option maxRecDepth 100000 in
theorem ck_k207 (l : Launch) (D : va_G) (st : Nat → Nat) : ck_Mt l D st ck_c207 := ck_sound (T := ck_T0) (cs := [ck_c162]) (hs := ck_h207) (sp := []) (fuel := 32) l ck_TSgood ck_okCl (ck_own (M0 := ck_m74) rfl rfl ck_okT0) (ck_cons (ck_k162 l D st) ck_nil) (by decide +kernel)
/-- SLModel.row -/
def ck_c208 : ck_C := (75, 101, [.inr (0, 77)], [((77, 8), .inl (0, 0))], [(77, 1), (77, 8)], [(some (.inl ((-6), (-6))), [], [((77, 1), .inl ((-6), (-6))), ((77, 8), .inl (0, 0))], 101)], 1, 21, 0, 0)
def ck_h208 : List ck_Hd := []
set_option maxRecDepth 100000 in
theorem ck_k208 (l : Launch) (D : va_G) (st : Nat → Nat) : ck_Mt l D st ck_c208 := ck_sound (T := ck_T13) (cs := [ck_c179]) (hs := ck_h208) (sp := []) (fuel := 36) l ck_TSgood ck_okCl (ck_own (M0 := ck_m75) rfl rfl ck_okT13) (ck_cons (ck_k179 l D st) ck_nil) (by decide +kernel)
/-- SL$Bench.hasTrial -/
def ck_c209 : ck_C := (77, 101, [.inr (0, 1), .inl ((-2147483648), 2147483647)], [((1, 15), .inl (0, 0))], [], [(some (.inl (0, 0)), [((-2147483648), (-1))], [], 101), (some (.inl (0, 0)), [(0, 2147483647)], [], 101)], 1, 22, 0, 0)
def ck_h209 : List ck_Hd := []
set_option maxRecDepth 100000 in
theorem ck_k209 (l : Launch) (D : va_G) (st : Nat → Nat) : ck_Mt l D st ck_c209 := ck_sound (T := ck_T1) (cs := [ck_c48]) (hs := ck_h209) (sp := []) (fuel := 32) l ck_TSgood ck_okCl (ck_own (M0 := ck_m77) rfl rfl ck_okT1) (ck_cons (ck_k48 l D st) ck_nil) (by decide +kernel)
/-- SL.of -/
def ck_c210 : ck_C := (76, 101, [.inr (0, 0), .inl ((-2147483648), 2147483647), .inl ((-2147483648), 2147483647)], [((0, 1), .inr (0, 1)), ((1, 15), .inl (0, 0))], [], [(some (.inl ((-1), (-1))), [((-2147483648), (-1)), ((-2147483648), 2147483647)], [], 101), (some (.inl ((-1), (-1))), [(0, 2147483647), ((-2147483648), 2147483647)], [], 101)], 2, 43, 0, 0)
def ck_h210 : List ck_Hd := []
set_option maxRecDepth 100000 in
theorem ck_k210 (l : Launch) (D : va_G) (st : Nat → Nat) : ck_Mt l D st ck_c210 := ck_sound (T := ck_T0) (cs := [ck_c209]) (hs := ck_h210) (sp := []) (fuel := 31) l ck_TSgood ck_okCl (ck_own (M0 := ck_m76) rfl rfl ck_okT0) (ck_cons (ck_k209 l D st) ck_nil) (by decide +kernel)
/-- SLModel.isTrial -/
def ck_c211 : ck_C := (79, 101, [.inr (0, 77), .inl ((-2147483648), (-1))], [((77, 2), .inr (0, 78)), ((78, 1294), .inl (0, 0))], [], [(some (.inl (0, 0)), [((-2147483648), (-1))], [], 101)], 1, 22, 0, 0)
def ck_h211 : List ck_Hd := []
set_option maxRecDepth 100000 in
theorem ck_k211 (l : Launch) (D : va_G) (st : Nat → Nat) : ck_Mt l D st ck_c211 := ck_sound (T := ck_T13) (cs := [ck_c67]) (hs := ck_h211) (sp := []) (fuel := 34) l ck_TSgood ck_okCl (ck_own (M0 := ck_m79) rfl rfl ck_okT13) (ck_cons (ck_k67 l D st) ck_nil) (by decide +kernel)
/-- SLModel.of -/
def ck_c212 : ck_C := (78, 101, [.inr (0, 77), .inl ((-2147483648), (-1)), .inl ((-2147483648), 2147483647)], [((77, 2), .inr (0, 78)), ((78, 1294), .inl (0, 0))], [], [(some (.inl ((-1), (-1))), [((-2147483648), (-1)), ((-2147483648), 2147483647)], [], 101)], 2, 43, 0, 0)
def ck_h212 : List ck_Hd := []
set_option maxRecDepth 100000 in
theorem ck_k212 (l : Launch) (D : va_G) (st : Nat → Nat) : ck_Mt l D st ck_c212 := ck_sound (T := ck_T13) (cs := [ck_c211]) (hs := ck_h212) (sp := []) (fuel := 30) l ck_TSgood ck_okCl (ck_own (M0 := ck_m78) rfl rfl ck_okT13) (ck_cons (ck_k211 l D st) ck_nil) (by decide +kernel)
/-- SLModel.isTrial -/
def ck_c213 : ck_C := (79, 101, [.inr (0, 77), .inl (0, 2147483647)], [((77, 2), .inr (0, 78)), ((78, 1294), .inl (0, 0))], [], [(some (.inl (0, 0)), [(0, 2147483647)], [], 101)], 1, 22, 0, 0)
def ck_h213 : List ck_Hd := []
set_option maxRecDepth 100000 in
theorem ck_k213 (l : Launch) (D : va_G) (st : Nat → Nat) : ck_Mt l D st ck_c213 := ck_sound (T := ck_T13) (cs := [ck_c71]) (hs := ck_h213) (sp := []) (fuel := 34) l ck_TSgood ck_okCl (ck_own (M0 := ck_m79) rfl rfl ck_okT13) (ck_cons (ck_k71 l D st) ck_nil) (by decide +kernel)
/-- SLModel.of -/
def ck_c214 : ck_C := (78, 101, [.inr (0, 77), .inl (0, 2147483647), .inl ((-2147483648), 2147483647)], [((77, 2), .inr (0, 78)), ((78, 1294), .inl (0, 0))], [], [(some (.inl ((-1), (-1))), [(0, 2147483647), ((-2147483648), 2147483647)], [], 101)], 2, 43, 0, 0)
def ck_h214 : List ck_Hd := []
set_option maxRecDepth 100000 in
theorem ck_k214 (l : Launch) (D : va_G) (st : Nat → Nat) : ck_Mt l D st ck_c214 := ck_sound (T := ck_T13) (cs := [ck_c213]) (hs := ck_h214) (sp := []) (fuel := 30) l ck_TSgood ck_okCl (ck_own (M0 := ck_m78) rfl rfl ck_okT13) (ck_cons (ck_k213 l D st) ck_nil) (by decide +kernel)
/-- SL.found -/
def ck_c215 : ck_C := (80, 101, [.inr (0, 0), .inl ((-2147483648), 2147483647)], [((0, 1), .inr (0, 1)), ((1, 15), .inl (0, 0))], [(0, 15)], [(some (.inl ((-2), (-2))), [((-2147483648), (-1))], [((0, 15), .inl ((-2), (-2)))], 101), (some (.inl ((-2), (-2))), [(0, 2147483647)], [((0, 15), .inl ((-2), (-2)))], 101)], 2, 43, 0, 0)
def ck_h215 : List ck_Hd := []
set_option maxRecDepth 100000 in
theorem ck_k215 (l : Launch) (D : va_G) (st : Nat → Nat) : ck_Mt l D st ck_c215 := ck_sound (T := ck_T0) (cs := [ck_c209, ck_c50]) (hs := ck_h215) (sp := []) (fuel := 33) l ck_TSgood ck_okCl (ck_own (M0 := ck_m80) rfl rfl ck_okT0) (ck_cons (ck_k209 l D st) (ck_cons (ck_k50 l D st) ck_nil)) (by decide +kernel)
/-- SLModel.found -/
def ck_c216 : ck_C := (81, 101, [.inr (0, 77), .inl ((-2147483648), (-1))], [((77, 2), .inr (0, 78)), ((78, 1294), .inl (0, 0))], [(77, 1)], [(some (.inl ((-2), (-2))), [((-2147483648), (-1))], [((77, 1), .inl ((-2), (-2)))], 101)], 2, 43, 0, 0)
def ck_h216 : List ck_Hd := []
set_option maxRecDepth 100000 in
theorem ck_k216 (l : Launch) (D : va_G) (st : Nat → Nat) : ck_Mt l D st ck_c216 := ck_sound (T := ck_T13) (cs := [ck_c211, ck_c69]) (hs := ck_h216) (sp := []) (fuel := 32) l ck_TSgood ck_okCl (ck_own (M0 := ck_m81) rfl rfl ck_okT13) (ck_cons (ck_k211 l D st) (ck_cons (ck_k69 l D st) ck_nil)) (by decide +kernel)
/-- SLModel.found -/
def ck_c217 : ck_C := (81, 101, [.inr (0, 77), .inl (0, 2147483647)], [((77, 2), .inr (0, 78)), ((78, 1294), .inl (0, 0))], [(77, 1)], [(some (.inl ((-2), (-2))), [(0, 2147483647)], [((77, 1), .inl ((-2), (-2)))], 101)], 2, 43, 0, 0)
def ck_h217 : List ck_Hd := []
set_option maxRecDepth 100000 in
theorem ck_k217 (l : Launch) (D : va_G) (st : Nat → Nat) : ck_Mt l D st ck_c217 := ck_sound (T := ck_T13) (cs := [ck_c213, ck_c69]) (hs := ck_h217) (sp := []) (fuel := 32) l ck_TSgood ck_okCl (ck_own (M0 := ck_m81) rfl rfl ck_okT13) (ck_cons (ck_k213 l D st) (ck_cons (ck_k69 l D st) ck_nil)) (by decide +kernel)
/-- SL.within -/
def ck_c218 : ck_C := (16, 101, [.inl ((-2147483648), 2147483647), .inl (1, 1), .inl (7, 7)], [], [], [(some (.inl (0, 0)), [((-2147483648), 0), (1, 1), (7, 7)], [], 101), (some (.inl (0, 0)), [(8, 2147483647), (1, 1), (7, 7)], [], 101), (some (.inl (1, 1)), [(1, 7), (1, 1), (7, 7)], [], 101)], 0, 0, 0, 0)
def ck_h218 : List ck_Hd := []
set_option maxRecDepth 100000 in
theorem ck_k218 (l : Launch) (D : va_G) (st : Nat → Nat) : ck_Mt l D st ck_c218 := ck_sound (T := ck_T0) (cs := []) (hs := ck_h218) (sp := []) (fuel := 33) l ck_TSgood ck_okCl (ck_own (M0 := ck_m16) rfl rfl ck_okT0) ck_nil (by decide +kernel)
/-- SL.within -/
def ck_c219 : ck_C := (16, 101, [.inl ((-2147483648), 2147483647), .inl (1, 1), .inl (15, 15)], [], [], [(some (.inl (0, 0)), [((-2147483648), 0), (1, 1), (15, 15)], [], 101), (some (.inl (0, 0)), [(16, 2147483647), (1, 1), (15, 15)], [], 101), (some (.inl (1, 1)), [(1, 15), (1, 1), (15, 15)], [], 101)], 0, 0, 0, 0)
def ck_h219 : List ck_Hd := []
set_option maxRecDepth 100000 in
theorem ck_k219 (l : Launch) (D : va_G) (st : Nat → Nat) : ck_Mt l D st ck_c219 := ck_sound (T := ck_T0) (cs := []) (hs := ck_h219) (sp := []) (fuel := 33) l ck_TSgood ck_okCl (ck_own (M0 := ck_m16) rfl rfl ck_okT0) ck_nil (by decide +kernel)
/-- SL.view -/
def ck_c220 : ck_C := (82, 101, [.inr (0, 0), .inl ((-2147483648), 2147483647), .inl ((-2147483648), 2147483647), .inl ((-2147483648), 2147483647)], [((0, 1), .inr (0, 1)), ((1, 15), .inl (0, 0))], [(0, 15), (1, 17), (1, 18), (1, 19)], [(some (.inl ((-1), (-1))), [((-2147483648), 0), ((-2147483648), 2147483647), ((-2147483648), 2147483647)], [((0, 15), .inl ((-1), (-1)))], 101), (some (.inl ((-1), (-1))), [(8, 2147483647), ((-2147483648), 2147483647), ((-2147483648), 2147483647)], [((0, 15), .inl ((-1), (-1)))], 101), (some (.inl ((-1), (-1))), [(1, 7), ((-2147483648), 0), ((-2147483648), 2147483647)], [((0, 15), .inl ((-1), (-1)))], 101), (some (.inl ((-1), (-1))), [(1, 7), (16, 2147483647), ((-2147483648), 2147483647)], [((0, 15), .inl ((-1), (-1)))], 101), (some (.inl ((-1), (-1))), [(1, 7), (1, 15), ((-2147483648), 0)], [((0, 15), .inl ((-1), (-1)))], 101), (some (.inl ((-1), (-1))), [(1, 7), (1, 15), (16, 2147483647)], [((0, 15), .inl ((-1), (-1)))], 101), (some (.inl (0, 0)), [(1, 7), (1, 15), (1, 15)], [((0, 15), .inl (0, 0)), ((1, 17), .inl (1, 7)), ((1, 18), .inl (1, 15)), ((1, 19), .inl (1, 15))], 101)], 1, 22, 0, 0)
def ck_h220 : List ck_Hd := [(66, ([(1, 7, 0, (0, 0, 0)), (1, 15, 0, (0, 0, 0)), (1, 15, 0, (0, 0, 0))], [(5, .inl (0, 0, 0)), (4, .inl (0, 0, 0)), (0, .inr (0, 0)), (1, .inl (0, 1, 0)), (2, .inl (1, 1, 0)), (3, .inl (2, 1, 0))], [], [((0, 1), .inr (0, 1)), ((1, 15), .inl (0, 0)), ((1, 17), .inl (1, 7)), ((1, 18), .inl (1, 15)), ((1, 19), .inl (1, 15))], 101, 0, 0), 0, 2)]
set_option maxRecDepth 100000 in
theorem ck_k220 (l : Launch) (D : va_G) (st : Nat → Nat) : ck_Mt l D st ck_c220 := ck_sound (T := ck_T0) (cs := [ck_c218, ck_c19, ck_c219, ck_c23]) (hs := ck_h220) (sp := []) (fuel := 64) l ck_TSgood ck_okCl (ck_own (M0 := ck_m82) rfl rfl ck_okT0) (ck_cons (ck_k218 l D st) (ck_cons (ck_k19 l D st) (ck_cons (ck_k219 l D st) (ck_cons (ck_k23 l D st) ck_nil)))) (by decide +kernel)
/-- SLModel.in -/
def ck_c221 : ck_C := (21, 101, [.inl ((-2147483648), 0), .inl (1, 1), .inl (7, 7)], [], [], [(some (.inl (0, 0)), [((-2147483648), 0), (1, 1), (7, 7)], [], 101)], 0, 0, 0, 0)
def ck_h221 : List ck_Hd := []
set_option maxRecDepth 100000 in
theorem ck_k221 (l : Launch) (D : va_G) (st : Nat → Nat) : ck_Mt l D st ck_c221 := ck_sound (T := ck_T13) (cs := []) (hs := ck_h221) (sp := []) (fuel := 29) l ck_TSgood ck_okCl (ck_own (M0 := ck_m21) rfl rfl ck_okT13) ck_nil (by decide +kernel)
/-- SLModel.view -/
def ck_c222 : ck_C := (83, 101, [.inr (0, 77), .inl ((-2147483648), 0), .inl ((-2147483648), 2147483647), .inl ((-2147483648), 2147483647)], [], [(77, 1)], [(some (.inl ((-1), (-1))), [((-2147483648), 0), ((-2147483648), 2147483647), ((-2147483648), 2147483647)], [((77, 1), .inl ((-1), (-1)))], 101)], 1, 22, 0, 0)
def ck_h222 : List ck_Hd := []
set_option maxRecDepth 100000 in
theorem ck_k222 (l : Launch) (D : va_G) (st : Nat → Nat) : ck_Mt l D st ck_c222 := ck_sound (T := ck_T13) (cs := [ck_c221, ck_c26]) (hs := ck_h222) (sp := []) (fuel := 33) l ck_TSgood ck_okCl (ck_own (M0 := ck_m83) rfl rfl ck_okT13) (ck_cons (ck_k221 l D st) (ck_cons (ck_k26 l D st) ck_nil)) (by decide +kernel)
/-- SLModel.in -/
def ck_c223 : ck_C := (21, 101, [.inl (8, 2147483647), .inl (1, 1), .inl (7, 7)], [], [], [(some (.inl (0, 0)), [(8, 2147483647), (1, 1), (7, 7)], [], 101)], 0, 0, 0, 0)
def ck_h223 : List ck_Hd := []
set_option maxRecDepth 100000 in
theorem ck_k223 (l : Launch) (D : va_G) (st : Nat → Nat) : ck_Mt l D st ck_c223 := ck_sound (T := ck_T13) (cs := []) (hs := ck_h223) (sp := []) (fuel := 32) l ck_TSgood ck_okCl (ck_own (M0 := ck_m21) rfl rfl ck_okT13) ck_nil (by decide +kernel)
/-- SLModel.view -/
def ck_c224 : ck_C := (83, 101, [.inr (0, 77), .inl (8, 2147483647), .inl ((-2147483648), 2147483647), .inl ((-2147483648), 2147483647)], [], [(77, 1)], [(some (.inl ((-1), (-1))), [(8, 2147483647), ((-2147483648), 2147483647), ((-2147483648), 2147483647)], [((77, 1), .inl ((-1), (-1)))], 101)], 1, 22, 0, 0)
def ck_h224 : List ck_Hd := []
set_option maxRecDepth 100000 in
theorem ck_k224 (l : Launch) (D : va_G) (st : Nat → Nat) : ck_Mt l D st ck_c224 := ck_sound (T := ck_T13) (cs := [ck_c223, ck_c26]) (hs := ck_h224) (sp := []) (fuel := 33) l ck_TSgood ck_okCl (ck_own (M0 := ck_m83) rfl rfl ck_okT13) (ck_cons (ck_k223 l D st) (ck_cons (ck_k26 l D st) ck_nil)) (by decide +kernel)
/-- SLModel.in -/
def ck_c225 : ck_C := (21, 101, [.inl (1, 7), .inl (1, 1), .inl (7, 7)], [], [], [(some (.inl (1, 1)), [(1, 7), (1, 1), (7, 7)], [], 101)], 0, 0, 0, 0)
def ck_h225 : List ck_Hd := []
set_option maxRecDepth 100000 in
theorem ck_k225 (l : Launch) (D : va_G) (st : Nat → Nat) : ck_Mt l D st ck_c225 := ck_sound (T := ck_T13) (cs := []) (hs := ck_h225) (sp := []) (fuel := 33) l ck_TSgood ck_okCl (ck_own (M0 := ck_m21) rfl rfl ck_okT13) ck_nil (by decide +kernel)
/-- SLModel.in -/
def ck_c226 : ck_C := (21, 101, [.inl ((-2147483648), 0), .inl (1, 1), .inl (15, 15)], [], [], [(some (.inl (0, 0)), [((-2147483648), 0), (1, 1), (15, 15)], [], 101)], 0, 0, 0, 0)
def ck_h226 : List ck_Hd := []
set_option maxRecDepth 100000 in
theorem ck_k226 (l : Launch) (D : va_G) (st : Nat → Nat) : ck_Mt l D st ck_c226 := ck_sound (T := ck_T13) (cs := []) (hs := ck_h226) (sp := []) (fuel := 29) l ck_TSgood ck_okCl (ck_own (M0 := ck_m21) rfl rfl ck_okT13) ck_nil (by decide +kernel)
/-- SLModel.view -/
def ck_c227 : ck_C := (83, 101, [.inr (0, 77), .inl (1, 7), .inl ((-2147483648), 0), .inl ((-2147483648), 2147483647)], [], [(77, 1)], [(some (.inl ((-1), (-1))), [(1, 7), ((-2147483648), 0), ((-2147483648), 2147483647)], [((77, 1), .inl ((-1), (-1)))], 101)], 1, 22, 0, 0)
def ck_h227 : List ck_Hd := []
set_option maxRecDepth 100000 in
theorem ck_k227 (l : Launch) (D : va_G) (st : Nat → Nat) : ck_Mt l D st ck_c227 := ck_sound (T := ck_T13) (cs := [ck_c225, ck_c226, ck_c26]) (hs := ck_h227) (sp := []) (fuel := 38) l ck_TSgood ck_okCl (ck_own (M0 := ck_m83) rfl rfl ck_okT13) (ck_cons (ck_k225 l D st) (ck_cons (ck_k226 l D st) (ck_cons (ck_k26 l D st) ck_nil))) (by decide +kernel)
/-- SLModel.in -/
def ck_c228 : ck_C := (21, 101, [.inl (16, 2147483647), .inl (1, 1), .inl (15, 15)], [], [], [(some (.inl (0, 0)), [(16, 2147483647), (1, 1), (15, 15)], [], 101)], 0, 0, 0, 0)
def ck_h228 : List ck_Hd := []
set_option maxRecDepth 100000 in
theorem ck_k228 (l : Launch) (D : va_G) (st : Nat → Nat) : ck_Mt l D st ck_c228 := ck_sound (T := ck_T13) (cs := []) (hs := ck_h228) (sp := []) (fuel := 32) l ck_TSgood ck_okCl (ck_own (M0 := ck_m21) rfl rfl ck_okT13) ck_nil (by decide +kernel)
/-- SLModel.view -/
def ck_c229 : ck_C := (83, 101, [.inr (0, 77), .inl (1, 7), .inl (16, 2147483647), .inl ((-2147483648), 2147483647)], [], [(77, 1)], [(some (.inl ((-1), (-1))), [(1, 7), (16, 2147483647), ((-2147483648), 2147483647)], [((77, 1), .inl ((-1), (-1)))], 101)], 1, 22, 0, 0)
def ck_h229 : List ck_Hd := []
set_option maxRecDepth 100000 in
theorem ck_k229 (l : Launch) (D : va_G) (st : Nat → Nat) : ck_Mt l D st ck_c229 := ck_sound (T := ck_T13) (cs := [ck_c225, ck_c228, ck_c26]) (hs := ck_h229) (sp := []) (fuel := 38) l ck_TSgood ck_okCl (ck_own (M0 := ck_m83) rfl rfl ck_okT13) (ck_cons (ck_k225 l D st) (ck_cons (ck_k228 l D st) (ck_cons (ck_k26 l D st) ck_nil))) (by decide +kernel)
/-- SLModel.in -/
def ck_c230 : ck_C := (21, 101, [.inl (1, 15), .inl (1, 1), .inl (15, 15)], [], [], [(some (.inl (1, 1)), [(1, 15), (1, 1), (15, 15)], [], 101)], 0, 0, 0, 0)
def ck_h230 : List ck_Hd := []
set_option maxRecDepth 100000 in
theorem ck_k230 (l : Launch) (D : va_G) (st : Nat → Nat) : ck_Mt l D st ck_c230 := ck_sound (T := ck_T13) (cs := []) (hs := ck_h230) (sp := []) (fuel := 33) l ck_TSgood ck_okCl (ck_own (M0 := ck_m21) rfl rfl ck_okT13) ck_nil (by decide +kernel)
/-- SLModel.view -/
def ck_c231 : ck_C := (83, 101, [.inr (0, 77), .inl (1, 7), .inl (1, 15), .inl ((-2147483648), 0)], [], [(77, 1)], [(some (.inl ((-1), (-1))), [(1, 7), (1, 15), ((-2147483648), 0)], [((77, 1), .inl ((-1), (-1)))], 101)], 1, 22, 0, 0)
def ck_h231 : List ck_Hd := []
set_option maxRecDepth 100000 in
theorem ck_k231 (l : Launch) (D : va_G) (st : Nat → Nat) : ck_Mt l D st ck_c231 := ck_sound (T := ck_T13) (cs := [ck_c225, ck_c230, ck_c226, ck_c26]) (hs := ck_h231) (sp := []) (fuel := 43) l ck_TSgood ck_okCl (ck_own (M0 := ck_m83) rfl rfl ck_okT13) (ck_cons (ck_k225 l D st) (ck_cons (ck_k230 l D st) (ck_cons (ck_k226 l D st) (ck_cons (ck_k26 l D st) ck_nil)))) (by decide +kernel)
/-- SLModel.view -/
def ck_c232 : ck_C := (83, 101, [.inr (0, 77), .inl (1, 7), .inl (1, 15), .inl (16, 2147483647)], [], [(77, 1)], [(some (.inl ((-1), (-1))), [(1, 7), (1, 15), (16, 2147483647)], [((77, 1), .inl ((-1), (-1)))], 101)], 1, 22, 0, 0)
def ck_h232 : List ck_Hd := []
set_option maxRecDepth 100000 in
theorem ck_k232 (l : Launch) (D : va_G) (st : Nat → Nat) : ck_Mt l D st ck_c232 := ck_sound (T := ck_T13) (cs := [ck_c225, ck_c230, ck_c228, ck_c26]) (hs := ck_h232) (sp := []) (fuel := 43) l ck_TSgood ck_okCl (ck_own (M0 := ck_m83) rfl rfl ck_okT13) (ck_cons (ck_k225 l D st) (ck_cons (ck_k230 l D st) (ck_cons (ck_k228 l D st) (ck_cons (ck_k26 l D st) ck_nil)))) (by decide +kernel)
/-- SLModel.view -/
def ck_c233 : ck_C := (83, 101, [.inr (0, 77), .inl (1, 7), .inl (1, 15), .inl (1, 15)], [((77, 2), .inr (0, 78)), ((78, 0), .inl ((-1), 15)), ((78, 193), .inl (0, 0)), ((78, 194), .inl (0, 0)), ((78, 195), .inl (0, 0)), ((78, 196), .inl (0, 0)), ((78, 197), .inl (0, 0)), ((78, 198), .inl (0, 0)), ((78, 199), .inl (0, 0)), ((78, 200), .inl (0, 0)), ((78, 201), .inl (0, 0)), ((78, 202), .inl (0, 0)), ((78, 203), .inl (0, 0)), ((78, 204), .inl (0, 0)), ((78, 1293), .inl (0, 0)), ((78, 1294), .inl (0, 0)), ((78, 1295), .inl (0, 0))], [(77, 1), (78, 0)], [(some (.inl (0, 0)), [(1, 7), (1, 15), (1, 15)], [((77, 1), .inl (0, 0)), ((78, 0), .inl ((-1), 15)), ((78, 193), .inl (0, 0)), ((78, 194), .inl (0, 0)), ((78, 195), .inl (0, 0)), ((78, 196), .inl (0, 0)), ((78, 197), .inl (0, 0)), ((78, 198), .inl (0, 0)), ((78, 199), .inl (0, 0)), ((78, 200), .inl (0, 0)), ((78, 201), .inl (0, 0)), ((78, 202), .inl (0, 0)), ((78, 203), .inl (0, 0)), ((78, 204), .inl (0, 0)), ((78, 1293), .inl (0, 0)), ((78, 1294), .inl (0, 0)), ((78, 1295), .inl (0, 0))], 101)], 1, 22, 0, 0)
def ck_h233 : List ck_Hd := [(69, ([(1, 7, 0, (0, 0, 0)), (1, 15, 0, (0, 0, 0)), (1, 15, 0, (0, 0, 0))], [(5, .inl (0, 0, 0)), (4, .inl (0, 0, 0)), (0, .inr (0, 77)), (1, .inl (0, 1, 0)), (2, .inl (1, 1, 0)), (3, .inl (2, 1, 0))], [], [((77, 2), .inr (0, 78)), ((78, 0), .inl ((-1), 15)), ((78, 193), .inl (0, 0)), ((78, 194), .inl (0, 0)), ((78, 195), .inl (0, 0)), ((78, 196), .inl (0, 0)), ((78, 197), .inl (0, 0)), ((78, 198), .inl (0, 0)), ((78, 199), .inl (0, 0)), ((78, 200), .inl (0, 0)), ((78, 201), .inl (0, 0)), ((78, 202), .inl (0, 0)), ((78, 203), .inl (0, 0)), ((78, 204), .inl (0, 0)), ((78, 1293), .inl (0, 0)), ((78, 1294), .inl (0, 0)), ((78, 1295), .inl (0, 0))], 101, 0, 0), 0, 2)]
set_option maxRecDepth 100000 in
theorem ck_k233 (l : Launch) (D : va_G) (st : Nat → Nat) : ck_Mt l D st ck_c233 := ck_sound (T := ck_T13) (cs := [ck_c225, ck_c230, ck_c42]) (hs := ck_h233) (sp := []) (fuel := 68) l ck_TSgood ck_okCl (ck_own (M0 := ck_m83) rfl rfl ck_okT13) (ck_cons (ck_k225 l D st) (ck_cons (ck_k230 l D st) (ck_cons (ck_k42 l D st) ck_nil))) (by decide +kernel)
/-- SL.areTwo -/
def ck_c234 : ck_C := (85, 101, [.inr (0, 0), .inl ((-2147483648), 2147483647), .inl ((-2147483648), 2147483647)], [((0, 1), .inr (0, 1)), ((1, 1), .inl (0, 0))], [], [(some (.inl (0, 0)), [((-2147483648), (-1)), ((-2147483648), 2147483647)], [], 101), (some (.inl (0, 0)), [(0, 2147483647), ((-2147483648), 2147483647)], [], 101)], 2, 43, 0, 0)
def ck_h234 : List ck_Hd := []
set_option maxRecDepth 100000 in
theorem ck_k234 (l : Launch) (D : va_G) (st : Nat → Nat) : ck_Mt l D st ck_c234 := ck_sound (T := ck_T0) (cs := [ck_c49]) (hs := ck_h234) (sp := []) (fuel := 31) l ck_TSgood ck_okCl (ck_own (M0 := ck_m85) rfl rfl ck_okT0) (ck_cons (ck_k49 l D st) ck_nil) (by decide +kernel)
/-- SL.says -/
def ck_c235 : ck_C := (84, 101, [.inr (0, 0), .inl ((-2147483648), 2147483647), .inl ((-2147483648), 2147483647)], [((0, 1), .inr (0, 1)), ((1, 1), .inl (0, 0))], [], [(some (.inl ((-1), (-1))), [((-2147483648), (-1)), ((-2147483648), 2147483647)], [], 101), (some (.inl ((-1), (-1))), [(0, 2147483647), ((-2147483648), 2147483647)], [], 101)], 3, 65, 0, 0)
def ck_h235 : List ck_Hd := []
set_option maxRecDepth 100000 in
theorem ck_k235 (l : Launch) (D : va_G) (st : Nat → Nat) : ck_Mt l D st ck_c235 := ck_sound (T := ck_T0) (cs := [ck_c234]) (hs := ck_h235) (sp := []) (fuel := 31) l ck_TSgood ck_okCl (ck_own (M0 := ck_m84) rfl rfl ck_okT0) (ck_cons (ck_k234 l D st) ck_nil) (by decide +kernel)
/-- SLModel.says -/
def ck_c236 : ck_C := (86, 101, [.inr (0, 77), .inl ((-2147483648), (-1)), .inl ((-2147483648), 2147483647)], [((77, 2), .inr (0, 78)), ((78, 1293), .inl (0, 0))], [], [(some (.inl ((-1), (-1))), [((-2147483648), (-1)), ((-2147483648), 2147483647)], [], 101)], 2, 43, 0, 0)
def ck_h236 : List ck_Hd := []
set_option maxRecDepth 100000 in
theorem ck_k236 (l : Launch) (D : va_G) (st : Nat → Nat) : ck_Mt l D st ck_c236 := ck_sound (T := ck_T13) (cs := [ck_c68]) (hs := ck_h236) (sp := []) (fuel := 30) l ck_TSgood ck_okCl (ck_own (M0 := ck_m86) rfl rfl ck_okT13) (ck_cons (ck_k68 l D st) ck_nil) (by decide +kernel)
/-- SLModel.says -/
def ck_c237 : ck_C := (86, 101, [.inr (0, 77), .inl (0, 2147483647), .inl ((-2147483648), 2147483647)], [((77, 2), .inr (0, 78)), ((78, 1293), .inl (0, 0))], [], [(some (.inl ((-1), (-1))), [(0, 2147483647), ((-2147483648), 2147483647)], [], 101)], 2, 43, 0, 0)
def ck_h237 : List ck_Hd := []
set_option maxRecDepth 100000 in
theorem ck_k237 (l : Launch) (D : va_G) (st : Nat → Nat) : ck_Mt l D st ck_c237 := ck_sound (T := ck_T13) (cs := [ck_c72]) (hs := ck_h237) (sp := []) (fuel := 30) l ck_TSgood ck_okCl (ck_own (M0 := ck_m86) rfl rfl ck_okT13) (ck_cons (ck_k72 l D st) ck_nil) (by decide +kernel)
/-- SL.over -/
def ck_c238 : ck_C := (87, 101, [.inr (0, 0), .inl ((-2147483648), 2147483647), .inl ((-2147483648), 2147483647)], [((0, 1), .inr (0, 1)), ((1, 1), .inl (0, 0))], [], [(some (.inl ((-1), (-1))), [((-2147483648), (-1)), ((-2147483648), 2147483647)], [], 101), (some (.inl ((-1), (-1))), [(0, 2147483647), ((-2147483648), 2147483647)], [], 101)], 2, 43, 0, 0)
def ck_h238 : List ck_Hd := []
set_option maxRecDepth 100000 in
theorem ck_k238 (l : Launch) (D : va_G) (st : Nat → Nat) : ck_Mt l D st ck_c238 := ck_sound (T := ck_T0) (cs := [ck_c49]) (hs := ck_h238) (sp := []) (fuel := 31) l ck_TSgood ck_okCl (ck_own (M0 := ck_m87) rfl rfl ck_okT0) (ck_cons (ck_k49 l D st) ck_nil) (by decide +kernel)
/-- SLModel.over -/
def ck_c239 : ck_C := (88, 101, [.inr (0, 77), .inl ((-2147483648), (-1)), .inl ((-2147483648), 2147483647)], [((77, 2), .inr (0, 78)), ((78, 1293), .inl (0, 0))], [], [(some (.inl ((-1), (-1))), [((-2147483648), (-1)), ((-2147483648), 2147483647)], [], 101)], 2, 43, 0, 0)
def ck_h239 : List ck_Hd := []
set_option maxRecDepth 100000 in
theorem ck_k239 (l : Launch) (D : va_G) (st : Nat → Nat) : ck_Mt l D st ck_c239 := ck_sound (T := ck_T13) (cs := [ck_c68]) (hs := ck_h239) (sp := []) (fuel := 30) l ck_TSgood ck_okCl (ck_own (M0 := ck_m88) rfl rfl ck_okT13) (ck_cons (ck_k68 l D st) ck_nil) (by decide +kernel)
end
section
/-- SLModel.over -/
def ck_c240 : ck_C := (88, 101, [.inr (0, 77), .inl (0, 2147483647), .inl ((-2147483648), 2147483647)], [((77, 2), .inr (0, 78)), ((78, 1293), .inl (0, 0))], [], [(some (.inl ((-1), (-1))), [(0, 2147483647), ((-2147483648), 2147483647)], [], 101)], 2, 43, 0, 0)
def ck_h240 : List ck_Hd := []
set_option maxRecDepth 100000 in
theorem ck_k240 (l : Launch) (D : va_G) (st : Nat → Nat) : ck_Mt l D st ck_c240 := ck_sound (T := ck_T13) (cs := [ck_c72]) (hs := ck_h240) (sp := []) (fuel := 30) l ck_TSgood ck_okCl (ck_own (M0 := ck_m88) rfl rfl ck_okT13) (ck_cons (ck_k72 l D st) ck_nil) (by decide +kernel)
/-- java/util/Arrays.fill -/
def ck_c241 : ck_C := (9, 101, [.inr (0, 54), .inl (0, 0)], [((54, 0), .inl (0, 0))], [(54, 0)], [(none, [(0, 0)], [((54, 0), .inl (0, 0))], 101)], 0, 0, 0, 0)
def ck_h241 : List ck_Hd := [(5, ([(0, 0, 0, (0, 0, 0)), (0, 144, 0, (0, 0, 0))], [(3, .inl (0, 0, 144)), (2, .inl (1, 1, 0)), (0, .inr (0, 54)), (1, .inl (0, 1, 0))], [], [((54, 0), .inl (0, 0))], 101, 0, 0), 1, 0)]
set_option maxRecDepth 100000 in
theorem ck_k241 (l : Launch) (D : va_G) (st : Nat → Nat) : ck_Mt l D st ck_c241 := ck_sound (T := ck_T15) (cs := []) (hs := ck_h241) (sp := []) (fuel := 39) l ck_TSgood ck_okCl (ck_own (M0 := ck_m9) rfl rfl ck_okT15) ck_nil (by decide +kernel)
/-- java/util/Arrays.fill -/
def ck_c242 : ck_C := (9, 101, [.inr (0, 55), .inl (0, 0)], [((55, 0), .inl (0, 0))], [(55, 0)], [(none, [(0, 0)], [((55, 0), .inl (0, 0))], 101)], 0, 0, 0, 0)
def ck_h242 : List ck_Hd := [(5, ([(0, 0, 0, (0, 0, 0)), (0, 12, 0, (0, 0, 0))], [(3, .inl (0, 0, 12)), (2, .inl (1, 1, 0)), (0, .inr (0, 55)), (1, .inl (0, 1, 0))], [], [((55, 0), .inl (0, 0))], 101, 0, 0), 1, 0)]
set_option maxRecDepth 100000 in
theorem ck_k242 (l : Launch) (D : va_G) (st : Nat → Nat) : ck_Mt l D st ck_c242 := ck_sound (T := ck_T15) (cs := []) (hs := ck_h242) (sp := []) (fuel := 39) l ck_TSgood ck_okCl (ck_own (M0 := ck_m9) rfl rfl ck_okT15) ck_nil (by decide +kernel)
/-- java/util/Arrays.fill -/
def ck_c243 : ck_C := (9, 101, [.inr (0, 56), .inl (0, 0)], [((56, 0), .inl (0, 0))], [(56, 0)], [(none, [(0, 0)], [((56, 0), .inl (0, 0))], 101)], 0, 0, 0, 0)
def ck_h243 : List ck_Hd := [(5, ([(0, 0, 0, (0, 0, 0)), (0, 12, 0, (0, 0, 0))], [(3, .inl (0, 0, 12)), (2, .inl (1, 1, 0)), (0, .inr (0, 56)), (1, .inl (0, 1, 0))], [], [((56, 0), .inl (0, 0))], 101, 0, 0), 1, 0)]
set_option maxRecDepth 100000 in
theorem ck_k243 (l : Launch) (D : va_G) (st : Nat → Nat) : ck_Mt l D st ck_c243 := ck_sound (T := ck_T15) (cs := []) (hs := ck_h243) (sp := []) (fuel := 39) l ck_TSgood ck_okCl (ck_own (M0 := ck_m9) rfl rfl ck_okT15) ck_nil (by decide +kernel)
/-- java/util/Arrays.fill -/
def ck_c244 : ck_C := (9, 101, [.inr (0, 58), .inl (0, 0)], [((58, 0), .inl (0, 0))], [(58, 0)], [(none, [(0, 0)], [((58, 0), .inl (0, 0))], 101)], 0, 0, 0, 0)
def ck_h244 : List ck_Hd := [(5, ([(0, 0, 0, (0, 0, 0)), (0, 12, 0, (0, 0, 0))], [(3, .inl (0, 0, 12)), (2, .inl (1, 1, 0)), (0, .inr (0, 58)), (1, .inl (0, 1, 0))], [], [((58, 0), .inl (0, 0))], 101, 0, 0), 1, 0)]
set_option maxRecDepth 100000 in
theorem ck_k244 (l : Launch) (D : va_G) (st : Nat → Nat) : ck_Mt l D st ck_c244 := ck_sound (T := ck_T15) (cs := []) (hs := ck_h244) (sp := []) (fuel := 39) l ck_TSgood ck_okCl (ck_own (M0 := ck_m9) rfl rfl ck_okT15) ck_nil (by decide +kernel)
/-- SL$Ties.close -/
def ck_c245 : ck_C := (91, 101, [.inr (0, 53)], [((1, 1), .inl (0, 0)), ((53, 1), .inr (0, 1)), ((53, 4), .inr (0, 56)), ((53, 5), .inr (0, 57)), ((56, 0), .inl (0, 0)), ((57, 0), .inl (0, 0))], [(57, 0)], [(none, [], [((57, 0), .inl (0, 0))], 101)], 1, 41, 0, 0)
def ck_h245 : List ck_Hd := [(17, ([], [(1, .inl (0, 0, 0)), (0, .inr (0, 53))], [], [((1, 1), .inl (0, 0)), ((53, 1), .inr (0, 1)), ((53, 4), .inr (0, 56)), ((53, 5), .inr (0, 57)), ((56, 0), .inl (0, 0)), ((57, 0), .inl (0, 0))], 101, 0, 0), 0, 2)]
set_option maxRecDepth 100000 in
theorem ck_k245 (l : Launch) (D : va_G) (st : Nat → Nat) : ck_Mt l D st ck_c245 := ck_sound (T := ck_T11) (cs := []) (hs := ck_h245) (sp := []) (fuel := 40) l ck_TSgood ck_okCl (ck_own (M0 := ck_m91) rfl rfl ck_okT11) ck_nil (by decide +kernel)
/-- SL$Ties.look -/
def ck_c246 : ck_C := (90, 101, [.inr (0, 53)], [((1, 1), .inl (0, 0)), ((1, 15), .inl (0, 0)), ((53, 1), .inr (0, 1)), ((53, 2), .inr (0, 54)), ((53, 3), .inr (0, 55)), ((53, 4), .inr (0, 56)), ((53, 5), .inr (0, 57)), ((53, 6), .inr (0, 58)), ((54, 0), .inl (0, 0)), ((55, 0), .inl (0, 0)), ((56, 0), .inl (0, 0)), ((57, 0), .inl (0, 0)), ((58, 0), .inl (0, 0))], [(54, 0), (55, 0), (56, 0), (57, 0), (58, 0)], [(none, [], [((54, 0), .inl (0, 0)), ((55, 0), .inl (0, 0)), ((56, 0), .inl (0, 0)), ((57, 0), .inl (0, 0)), ((58, 0), .inl (0, 0))], 101)], 2, 63, 0, 0)
def ck_h246 : List ck_Hd := [(34, ([], [(1, .inl (0, 0, 0)), (0, .inr (0, 53))], [], [((1, 1), .inl (0, 0)), ((1, 15), .inl (0, 0)), ((53, 1), .inr (0, 1)), ((53, 2), .inr (0, 54)), ((53, 3), .inr (0, 55)), ((53, 4), .inr (0, 56)), ((53, 5), .inr (0, 57)), ((53, 6), .inr (0, 58)), ((54, 0), .inl (0, 0)), ((55, 0), .inl (0, 0)), ((56, 0), .inl (0, 0)), ((57, 0), .inl (0, 0)), ((58, 0), .inl (0, 0))], 101, 0, 0), 0, 2)]
set_option maxRecDepth 100000 in
theorem ck_k246 (l : Launch) (D : va_G) (st : Nat → Nat) : ck_Mt l D st ck_c246 := ck_sound (T := ck_T11) (cs := [ck_c241, ck_c242, ck_c243, ck_c244, ck_c245]) (hs := ck_h246) (sp := []) (fuel := 50) l ck_TSgood ck_okCl (ck_own (M0 := ck_m90) rfl rfl ck_okT11) (ck_cons (ck_k241 l D st) (ck_cons (ck_k242 l D st) (ck_cons (ck_k243 l D st) (ck_cons (ck_k244 l D st) (ck_cons (ck_k245 l D st) ck_nil))))) (by decide +kernel)
/-- java/util/Arrays.rangeCheck -/
def ck_c247 : ck_C := (94, 101, [.inl (4096, 4096), .inl (0, 0), .inl (1, 1)], [], [], [(none, [(4096, 4096), (0, 0), (1, 1)], [], 101)], 0, 0, 0, 0)
def ck_h247 : List ck_Hd := []
set_option maxRecDepth 100000 in
theorem ck_k247 (l : Launch) (D : va_G) (st : Nat → Nat) : ck_Mt l D st ck_c247 := ck_sound (T := ck_T15) (cs := []) (hs := ck_h247) (sp := []) (fuel := 33) l ck_TSgood ck_okCl (ck_own (M0 := ck_m94) rfl rfl ck_okT15) ck_nil (by decide +kernel)
/-- java/util/Arrays.fill -/
def ck_c248 : ck_C := (93, 101, [.inr (0, 60), .inl (0, 0), .inl (1, 1), .inl (0, 0)], [((60, 0), .inl (0, 0)), ((60, 1), .inl (0, 0))], [(60, 0)], [(none, [(0, 0), (1, 1), (0, 0)], [((60, 0), .inl (0, 0)), ((60, 1), .inl (0, 0))], 101)], 1, 22, 0, 0)
def ck_h248 : List ck_Hd := [(10, ([(0, 0, 0, (0, 0, 0)), (1, 1, 0, (0, 0, 0)), (0, 0, 0, (0, 0, 0)), (0, 1, 0, (0, 0, 0))], [(4, .inl (3, 1, 0)), (0, .inr (0, 60)), (1, .inl (0, 1, 0)), (2, .inl (1, 1, 0)), (3, .inl (2, 1, 0))], [], [((60, 0), .inl (0, 0)), ((60, 1), .inl (0, 0))], 101, 0, 0), 3, 0)]
set_option maxRecDepth 100000 in
theorem ck_k248 (l : Launch) (D : va_G) (st : Nat → Nat) : ck_Mt l D st ck_c248 := ck_sound (T := ck_T15) (cs := [ck_c247]) (hs := ck_h248) (sp := []) (fuel := 41) l ck_TSgood ck_okCl (ck_own (M0 := ck_m93) rfl rfl ck_okT15) (ck_cons (ck_k247 l D st) ck_nil) (by decide +kernel)
/-- SL$Orders.fitting -/
def ck_c249 : ck_C := (92, 101, [.inr (0, 59), .inr (0, 55)], [((1, 1), .inl (0, 0)), ((59, 1), .inr (0, 1)), ((59, 2), .inr (0, 60)), ((60, 0), .inl (0, 0)), ((60, 1), .inl (0, 0))], [(60, 0)], [(some (.inl (1, 1)), [], [((60, 0), .inl (0, 1)), ((60, 1), .inl (1, 1))], 101)], 2, 46, 0, 0)
def ck_h249 : List ck_Hd := [(33, ([], [(3, .inl (0, 0, 0)), (2, .inl (0, 0, 0)), (0, .inr (0, 59)), (1, .inr (0, 55))], [], [((1, 1), .inl (0, 0)), ((59, 1), .inr (0, 1)), ((59, 2), .inr (0, 60)), ((60, 0), .inl (0, 1)), ((60, 1), .inl (1, 1))], 101, 0, 0), 0, 2)]
set_option maxRecDepth 100000 in
theorem ck_k249 (l : Launch) (D : va_G) (st : Nat → Nat) : ck_Mt l D st ck_c249 := ck_sound (T := ck_T4) (cs := [ck_c248]) (hs := ck_h249) (sp := []) (fuel := 55) l ck_TSgood ck_okCl (ck_own (M0 := ck_m92) rfl rfl ck_okT4) (ck_cons (ck_k248 l D st) ck_nil) (by decide +kernel)
/-- SL.orders -/
def ck_c250 : ck_C := (89, 101, [.inr (0, 0)], [((0, 7), .inr (0, 53)), ((0, 8), .inr (0, 59)), ((1, 1), .inl (0, 0)), ((1, 15), .inl (0, 0)), ((53, 1), .inr (0, 1)), ((53, 2), .inr (0, 54)), ((53, 3), .inr (0, 55)), ((53, 4), .inr (0, 56)), ((53, 5), .inr (0, 57)), ((53, 6), .inr (0, 58)), ((54, 0), .inl (0, 0)), ((55, 0), .inl (0, 0)), ((56, 0), .inl (0, 0)), ((57, 0), .inl (0, 0)), ((58, 0), .inl (0, 0)), ((59, 1), .inr (0, 1)), ((59, 2), .inr (0, 60)), ((60, 0), .inl (0, 0)), ((60, 1), .inl (0, 0))], [(54, 0), (55, 0), (56, 0), (57, 0), (58, 0), (60, 0)], [(some (.inl (1, 1)), [], [((54, 0), .inl (0, 0)), ((55, 0), .inl (0, 0)), ((56, 0), .inl (0, 0)), ((57, 0), .inl (0, 0)), ((58, 0), .inl (0, 0)), ((60, 0), .inl (0, 1)), ((60, 1), .inl (1, 1))], 101)], 3, 84, 0, 0)
def ck_h250 : List ck_Hd := []
set_option maxRecDepth 100000 in
theorem ck_k250 (l : Launch) (D : va_G) (st : Nat → Nat) : ck_Mt l D st ck_c250 := ck_sound (T := ck_T0) (cs := [ck_c246, ck_c249]) (hs := ck_h250) (sp := []) (fuel := 34) l ck_TSgood ck_okCl (ck_own (M0 := ck_m89) rfl rfl ck_okT0) (ck_cons (ck_k246 l D st) (ck_cons (ck_k249 l D st) ck_nil)) (by decide +kernel)
/-- SLModel.hears -/
def ck_c251 : ck_C := (96, 101, [.inr (0, 77)], [((77, 2), .inr (0, 78)), ((77, 25), .inr (0, 88)), ((77, 26), .inr (0, 89)), ((78, 1294), .inl (0, 0)), ((88, 0), .inl (0, 0)), ((89, 0), .inl (0, 0))], [(88, 0), (89, 0)], [(none, [], [((88, 0), .inl (0, 0)), ((89, 0), .inl (0, 0))], 101)], 0, 0, 0, 0)
def ck_h251 : List ck_Hd := [(2, ([(0, 144, 0, (0, 0, 0))], [(1, .inl (0, 1, 0)), (0, .inr (0, 77))], [], [((77, 2), .inr (0, 78)), ((77, 25), .inr (0, 88)), ((77, 26), .inr (0, 89)), ((78, 1294), .inl (0, 0)), ((88, 0), .inl (0, 0)), ((89, 0), .inl (0, 0))], 101, 0, 0), 0, 0), (24, ([(144, 144, 0, (0, 0, 0))], [(1, .inl (0, 0, 0)), (0, .inr (0, 77))], [], [((77, 2), .inr (0, 78)), ((77, 25), .inr (0, 88)), ((77, 26), .inr (0, 89)), ((78, 1294), .inl (0, 0)), ((88, 0), .inl (0, 0)), ((89, 0), .inl (0, 0))], 101, 0, 0), 0, 2), (77, ([(144, 144, 0, (0, 0, 0)), (0, 12, 0, (0, 0, 0))], [(1, .inl (1, 1, 0)), (0, .inr (0, 77))], [], [((77, 2), .inr (0, 78)), ((77, 25), .inr (0, 88)), ((77, 26), .inr (0, 89)), ((78, 1294), .inl (0, 0)), ((88, 0), .inl (0, 0)), ((89, 0), .inl (0, 0))], 101, 0, 0), 1, 0), (92, ([(144, 144, 0, (0, 0, 0)), (0, 11, 0, (0, 0, 0)), (0, 12, 0, (0, 0, 0))], [(2, .inl (2, 1, 0)), (1, .inl (1, 1, 0)), (0, .inr (0, 77))], [], [((77, 2), .inr (0, 78)), ((77, 25), .inr (0, 88)), ((77, 26), .inr (0, 89)), ((78, 1294), .inl (0, 0)), ((88, 0), .inl (0, 0)), ((89, 0), .inl (0, 0))], 101, 0, 0), 2, 0), (142, ([(144, 144, 0, (0, 0, 0)), (12, 12, 0, (0, 0, 0)), (0, 12, 0, (0, 0, 0))], [(1, .inl (2, 1, 0)), (0, .inr (0, 77))], [], [((77, 2), .inr (0, 78)), ((77, 25), .inr (0, 88)), ((77, 26), .inr (0, 89)), ((78, 1294), .inl (0, 0)), ((88, 0), .inl (0, 0)), ((89, 0), .inl (0, 0))], 101, 0, 0), 2, 0), (150, ([(144, 144, 0, (0, 0, 0)), (12, 12, 0, (0, 0, 0)), (0, 11, 0, (0, 0, 0)), (0, 12, 0, (0, 0, 0))], [(2, .inl (3, 1, 0)), (1, .inl (2, 1, 0)), (0, .inr (0, 77))], [], [((77, 2), .inr (0, 78)), ((77, 25), .inr (0, 88)), ((77, 26), .inr (0, 89)), ((78, 1294), .inl (0, 0)), ((88, 0), .inl (0, 0)), ((89, 0), .inl (0, 0))], 101, 0, 0), 3, 0)]
set_option maxRecDepth 100000 in
theorem ck_k251 (l : Launch) (D : va_G) (st : Nat → Nat) : ck_Mt l D st ck_c251 := ck_sound (T := ck_T13) (cs := []) (hs := ck_h251) (sp := []) (fuel := 72) l ck_TSgood ck_okCl (ck_own (M0 := ck_m96) rfl rfl ck_okT13) ck_nil (by decide +kernel)
/-- SLModel.ordersWith -/
def ck_c252 : ck_C := (97, 101, [.inr (0, 77), .inl (0, 0), .inl ((-1), (-1))], [((77, 2), .inr (0, 78)), ((77, 27), .inr (0, 90)), ((78, 1293), .inl (0, 0)), ((90, 0), .inl (0, 0)), ((90, 1), .inl (0, 0))], [(90, 0)], [(some (.inl (1, 1)), [(0, 0), ((-1), (-1))], [((90, 0), .inl (0, 1)), ((90, 1), .inl (1, 1))], 101)], 1, 20, 0, 0)
def ck_h252 : List ck_Hd := []
set_option maxRecDepth 100000 in
theorem ck_k252 (l : Launch) (D : va_G) (st : Nat → Nat) : ck_Mt l D st ck_c252 := ck_sound (T := ck_T13) (cs := [ck_c41]) (hs := ck_h252) (sp := []) (fuel := 59) l ck_TSgood ck_okCl (ck_own (M0 := ck_m97) rfl rfl ck_okT13) (ck_cons (ck_k41 l D st) ck_nil) (by decide +kernel)
/-- SLModel.orders -/
def ck_c253 : ck_C := (95, 101, [.inr (0, 77)], [((77, 2), .inr (0, 78)), ((77, 25), .inr (0, 88)), ((77, 26), .inr (0, 89)), ((77, 27), .inr (0, 90)), ((78, 1293), .inl (0, 0)), ((78, 1294), .inl (0, 0)), ((88, 0), .inl (0, 0)), ((89, 0), .inl (0, 0)), ((90, 0), .inl (0, 0)), ((90, 1), .inl (0, 0))], [(88, 0), (89, 0), (90, 0)], [(some (.inl (1, 1)), [], [((88, 0), .inl (0, 0)), ((89, 0), .inl (0, 0)), ((90, 0), .inl (0, 1)), ((90, 1), .inl (1, 1))], 101)], 2, 47, 0, 0)
def ck_h253 : List ck_Hd := []
set_option maxRecDepth 100000 in
theorem ck_k253 (l : Launch) (D : va_G) (st : Nat → Nat) : ck_Mt l D st ck_c253 := ck_sound (T := ck_T13) (cs := [ck_c251, ck_c252]) (hs := ck_h253) (sp := []) (fuel := 31) l ck_TSgood ck_okCl (ck_own (M0 := ck_m95) rfl rfl ck_okT13) (ck_cons (ck_k251 l D st) (ck_cons (ck_k252 l D st) ck_nil)) (by decide +kernel)
/-- SL.ahead -/
def ck_c254 : ck_C := (98, 101, [.inr (0, 0), .inl ((-2147483648), 2147483647), .inl ((-2147483648), 2147483647)], [((0, 1), .inr (0, 1)), ((1, 1), .inl (0, 0))], [], [(some (.inl ((-1), (-1))), [((-2147483648), (-1)), ((-2147483648), 2147483647)], [], 101), (some (.inl ((-1), (-1))), [(0, 2147483647), ((-2147483648), 2147483647)], [], 101)], 3, 65, 0, 0)
def ck_h254 : List ck_Hd := []
set_option maxRecDepth 100000 in
theorem ck_k254 (l : Launch) (D : va_G) (st : Nat → Nat) : ck_Mt l D st ck_c254 := ck_sound (T := ck_T0) (cs := [ck_c234]) (hs := ck_h254) (sp := []) (fuel := 31) l ck_TSgood ck_okCl (ck_own (M0 := ck_m98) rfl rfl ck_okT0) (ck_cons (ck_k234 l D st) ck_nil) (by decide +kernel)
/-- SLModel.ahead -/
def ck_c255 : ck_C := (99, 101, [.inr (0, 77), .inl ((-2147483648), (-1)), .inl ((-2147483648), 2147483647)], [((77, 2), .inr (0, 78)), ((78, 1293), .inl (0, 0))], [], [(some (.inl ((-1), (-1))), [((-2147483648), (-1)), ((-2147483648), 2147483647)], [], 101)], 2, 43, 0, 0)
def ck_h255 : List ck_Hd := []
set_option maxRecDepth 100000 in
theorem ck_k255 (l : Launch) (D : va_G) (st : Nat → Nat) : ck_Mt l D st ck_c255 := ck_sound (T := ck_T13) (cs := [ck_c68]) (hs := ck_h255) (sp := []) (fuel := 30) l ck_TSgood ck_okCl (ck_own (M0 := ck_m99) rfl rfl ck_okT13) (ck_cons (ck_k68 l D st) ck_nil) (by decide +kernel)
/-- SLModel.ahead -/
def ck_c256 : ck_C := (99, 101, [.inr (0, 77), .inl (0, 2147483647), .inl ((-2147483648), 2147483647)], [((77, 2), .inr (0, 78)), ((78, 1293), .inl (0, 0))], [], [(some (.inl ((-1), (-1))), [(0, 2147483647), ((-2147483648), 2147483647)], [], 101)], 2, 43, 0, 0)
def ck_h256 : List ck_Hd := []
set_option maxRecDepth 100000 in
theorem ck_k256 (l : Launch) (D : va_G) (st : Nat → Nat) : ck_Mt l D st ck_c256 := ck_sound (T := ck_T13) (cs := [ck_c72]) (hs := ck_h256) (sp := []) (fuel := 30) l ck_TSgood ck_okCl (ck_own (M0 := ck_m99) rfl rfl ck_okT13) (ck_cons (ck_k72 l D st) ck_nil) (by decide +kernel)
/-- SL.ring -/
def ck_c257 : ck_C := (100, 101, [.inr (0, 0), .inl ((-2147483648), 2147483647)], [((0, 1), .inr (0, 1)), ((1, 1), .inl (0, 0))], [], [(some (.inl ((-1), (-1))), [((-2147483648), (-1))], [], 101), (some (.inl ((-1), (-1))), [(0, 2147483647)], [], 101)], 2, 43, 0, 0)
def ck_h257 : List ck_Hd := []
set_option maxRecDepth 100000 in
theorem ck_k257 (l : Launch) (D : va_G) (st : Nat → Nat) : ck_Mt l D st ck_c257 := ck_sound (T := ck_T0) (cs := [ck_c49]) (hs := ck_h257) (sp := []) (fuel := 31) l ck_TSgood ck_okCl (ck_own (M0 := ck_m100) rfl rfl ck_okT0) (ck_cons (ck_k49 l D st) ck_nil) (by decide +kernel)
/-- SLModel.ring -/
def ck_c258 : ck_C := (101, 101, [.inr (0, 77), .inl ((-2147483648), (-1))], [((77, 2), .inr (0, 78)), ((78, 1293), .inl (0, 0))], [], [(some (.inl ((-1), (-1))), [((-2147483648), (-1))], [], 101)], 2, 43, 0, 0)
def ck_h258 : List ck_Hd := []
set_option maxRecDepth 100000 in
theorem ck_k258 (l : Launch) (D : va_G) (st : Nat → Nat) : ck_Mt l D st ck_c258 := ck_sound (T := ck_T13) (cs := [ck_c68]) (hs := ck_h258) (sp := []) (fuel := 30) l ck_TSgood ck_okCl (ck_own (M0 := ck_m101) rfl rfl ck_okT13) (ck_cons (ck_k68 l D st) ck_nil) (by decide +kernel)
/-- SLModel.ring -/
def ck_c259 : ck_C := (101, 101, [.inr (0, 77), .inl (0, 2147483647)], [((77, 2), .inr (0, 78)), ((78, 1293), .inl (0, 0))], [], [(some (.inl ((-1), (-1))), [(0, 2147483647)], [], 101)], 2, 43, 0, 0)
def ck_h259 : List ck_Hd := []
set_option maxRecDepth 100000 in
theorem ck_k259 (l : Launch) (D : va_G) (st : Nat → Nat) : ck_Mt l D st ck_c259 := ck_sound (T := ck_T13) (cs := [ck_c72]) (hs := ck_h259) (sp := []) (fuel := 30) l ck_TSgood ck_okCl (ck_own (M0 := ck_m101) rfl rfl ck_okT13) (ck_cons (ck_k72 l D st) ck_nil) (by decide +kernel)
/-- SL.untried -/
def ck_c260 : ck_C := (102, 101, [.inr (0, 0)], [((0, 1), .inr (0, 1)), ((0, 7), .inr (0, 53)), ((1, 1), .inl (0, 0)), ((1, 15), .inl (0, 0)), ((53, 1), .inr (0, 1)), ((53, 2), .inr (0, 54)), ((53, 3), .inr (0, 55)), ((53, 4), .inr (0, 56)), ((53, 5), .inr (0, 57)), ((53, 6), .inr (0, 58)), ((54, 0), .inl (0, 0)), ((55, 0), .inl (0, 0)), ((56, 0), .inl (0, 0)), ((57, 0), .inl (0, 0)), ((58, 0), .inl (0, 0))], [(54, 0), (55, 0), (56, 0), (57, 0), (58, 0)], [(some (.inl (0, 0)), [], [((54, 0), .inl (0, 0)), ((55, 0), .inl (0, 0)), ((56, 0), .inl (0, 0)), ((57, 0), .inl (0, 0)), ((58, 0), .inl (0, 0))], 101)], 3, 84, 0, 0)
def ck_h260 : List ck_Hd := [(11, ([], [(2, .inl (0, 0, 0)), (1, .inl (0, 0, 0)), (0, .inr (0, 0))], [], [((0, 1), .inr (0, 1)), ((0, 7), .inr (0, 53)), ((1, 1), .inl (0, 0)), ((1, 15), .inl (0, 0)), ((53, 1), .inr (0, 1)), ((53, 2), .inr (0, 54)), ((53, 3), .inr (0, 55)), ((53, 4), .inr (0, 56)), ((53, 5), .inr (0, 57)), ((53, 6), .inr (0, 58)), ((54, 0), .inl (0, 0)), ((55, 0), .inl (0, 0)), ((56, 0), .inl (0, 0)), ((57, 0), .inl (0, 0)), ((58, 0), .inl (0, 0))], 101, 0, 0), 0, 2)]
set_option maxRecDepth 100000 in
theorem ck_k260 (l : Launch) (D : va_G) (st : Nat → Nat) : ck_Mt l D st ck_c260 := ck_sound (T := ck_T0) (cs := [ck_c246]) (hs := ck_h260) (sp := []) (fuel := 40) l ck_TSgood ck_okCl (ck_own (M0 := ck_m102) rfl rfl ck_okT0) (ck_cons (ck_k246 l D st) ck_nil) (by decide +kernel)
/-- SLModel.untried -/
def ck_c261 : ck_C := (103, 101, [.inr (0, 77)], [((77, 2), .inr (0, 78)), ((78, 1293), .inl (0, 0))], [], [(some (.inl (0, 0)), [], [], 101)], 1, 20, 0, 0)
def ck_h261 : List ck_Hd := [(4, ([], [(2, .inl (0, 0, 0)), (1, .inl (0, 0, 0)), (0, .inr (0, 77))], [], [((77, 2), .inr (0, 78)), ((78, 1293), .inl (0, 0))], 101, 0, 0), 0, 2)]
set_option maxRecDepth 100000 in
theorem ck_k261 (l : Launch) (D : va_G) (st : Nat → Nat) : ck_Mt l D st ck_c261 := ck_sound (T := ck_T13) (cs := [ck_c41]) (hs := ck_h261) (sp := []) (fuel := 34) l ck_TSgood ck_okCl (ck_own (M0 := ck_m103) rfl rfl ck_okT13) (ck_cons (ck_k41 l D st) ck_nil) (by decide +kernel)
/-- SL$Orders.countHalves -/
def ck_c262 : ck_C := (106, 101, [.inr (0, 59), .inr (0, 54)], [((1, 1), .inl (0, 0)), ((59, 1), .inr (0, 1))], [], [(none, [], [], 101)], 0, 0, 0, 0)
def ck_h262 : List ck_Hd := [(2, ([], [(2, .inl (0, 0, 0)), (0, .inr (0, 59)), (1, .inr (0, 54))], [], [((1, 1), .inl (0, 0)), ((59, 1), .inr (0, 1))], 101, 0, 0), 0, 2)]
set_option maxRecDepth 100000 in
theorem ck_k262 (l : Launch) (D : va_G) (st : Nat → Nat) : ck_Mt l D st ck_c262 := ck_sound (T := ck_T4) (cs := []) (hs := ck_h262) (sp := []) (fuel := 32) l ck_TSgood ck_okCl (ck_own (M0 := ck_m106) rfl rfl ck_okT4) ck_nil (by decide +kernel)
/-- java/util/Arrays.fill -/
def ck_c263 : ck_C := (9, 101, [.inr (0, 64), .inl ((-1), (-1))], [((64, 0), .inl ((-1), 0))], [(64, 0)], [(none, [((-1), (-1))], [((64, 0), .inl ((-1), 0))], 101)], 0, 0, 0, 0)
def ck_h263 : List ck_Hd := [(5, ([((-1), (-1), 0, (0, 0, 0)), (0, 12, 0, (0, 0, 0))], [(3, .inl (0, 0, 12)), (2, .inl (1, 1, 0)), (0, .inr (0, 64)), (1, .inl (0, 1, 0))], [], [((64, 0), .inl ((-1), 0))], 101, 0, 0), 1, 0)]
set_option maxRecDepth 100000 in
theorem ck_k263 (l : Launch) (D : va_G) (st : Nat → Nat) : ck_Mt l D st ck_c263 := ck_sound (T := ck_T15) (cs := []) (hs := ck_h263) (sp := []) (fuel := 39) l ck_TSgood ck_okCl (ck_own (M0 := ck_m9) rfl rfl ck_okT15) ck_nil (by decide +kernel)
/-- SL$Orders.keepBest -/
def ck_c264 : ck_C := (107, 101, [.inr (0, 59), .inl (0, 0)], [((1, 1), .inl (0, 0)), ((59, 1), .inr (0, 1)), ((59, 5), .inl (0, 0)), ((59, 7), .inr (0, 64)), ((64, 0), .inl ((-1), 0))], [(59, 5), (64, 0)], [(none, [(0, 0)], [((59, 5), .inl (0, 0)), ((64, 0), .inl ((-1), 0))], 101)], 1, 23, 0, 0)
def ck_h264 : List ck_Hd := [(23, ([(0, 0, 0, (0, 0, 0))], [(3, .inl (0, 0, 0)), (2, .inl (0, 0, 0)), (0, .inr (0, 59)), (1, .inl (0, 1, 0))], [], [((1, 1), .inl (0, 0)), ((59, 1), .inr (0, 1)), ((59, 5), .inl (0, 0)), ((59, 7), .inr (0, 64)), ((64, 0), .inl ((-1), 0))], 101, 0, 0), 0, 2)]
set_option maxRecDepth 100000 in
theorem ck_k264 (l : Launch) (D : va_G) (st : Nat → Nat) : ck_Mt l D st ck_c264 := ck_sound (T := ck_T4) (cs := [ck_c263]) (hs := ck_h264) (sp := []) (fuel := 42) l ck_TSgood ck_okCl (ck_own (M0 := ck_m107) rfl rfl ck_okT4) (ck_cons (ck_k263 l D st) ck_nil) (by decide +kernel)
/-- SL$Orders.findBest -/
def ck_c265 : ck_C := (105, 101, [.inr (0, 59), .inr (0, 54)], [((1, 1), .inl (0, 0)), ((59, 1), .inr (0, 1)), ((59, 2), .inr (0, 60)), ((59, 5), .inl (0, 0)), ((59, 7), .inr (0, 64)), ((60, 0), .inl (0, 0)), ((60, 1), .inl (0, 0)), ((64, 0), .inl ((-1), 0))], [(59, 5), (60, 0), (64, 0)], [(some (.inl (0, 0)), [], [((59, 5), .inl (0, 0)), ((60, 0), .inl (0, 0)), ((60, 1), .inl (0, 0)), ((64, 0), .inl ((-1), 0))], 101)], 2, 47, 0, 0)
def ck_h265 : List ck_Hd := [(26, ([], [(3, .inl (0, 0, 1)), (2, .inl (0, 0, 0)), (0, .inr (0, 59)), (1, .inr (0, 54))], [], [((1, 1), .inl (0, 0)), ((59, 1), .inr (0, 1)), ((59, 2), .inr (0, 60)), ((59, 5), .inl (0, 0)), ((59, 7), .inr (0, 64)), ((60, 0), .inl (0, 0)), ((60, 1), .inl (0, 0)), ((64, 0), .inl ((-1), 0))], 101, 0, 0), 0, 2)]
set_option maxRecDepth 100000 in
theorem ck_k265 (l : Launch) (D : va_G) (st : Nat → Nat) : ck_Mt l D st ck_c265 := ck_sound (T := ck_T4) (cs := [ck_c262, ck_c264]) (hs := ck_h265) (sp := []) (fuel := 53) l ck_TSgood ck_okCl (ck_own (M0 := ck_m105) rfl rfl ck_okT4) (ck_cons (ck_k262 l D st) (ck_cons (ck_k264 l D st) ck_nil)) (by decide +kernel)
/-- SL.best -/
def ck_c266 : ck_C := (104, 101, [.inr (0, 0)], [((0, 7), .inr (0, 53)), ((0, 8), .inr (0, 59)), ((1, 1), .inl (0, 0)), ((1, 15), .inl (0, 0)), ((53, 1), .inr (0, 1)), ((53, 2), .inr (0, 54)), ((53, 3), .inr (0, 55)), ((53, 4), .inr (0, 56)), ((53, 5), .inr (0, 57)), ((53, 6), .inr (0, 58)), ((54, 0), .inl (0, 0)), ((55, 0), .inl (0, 0)), ((56, 0), .inl (0, 0)), ((57, 0), .inl (0, 0)), ((58, 0), .inl (0, 0)), ((59, 1), .inr (0, 1)), ((59, 2), .inr (0, 60)), ((59, 5), .inl (0, 0)), ((59, 7), .inr (0, 64)), ((60, 0), .inl (0, 0)), ((60, 1), .inl (0, 0)), ((64, 0), .inl ((-1), 0))], [(54, 0), (55, 0), (56, 0), (57, 0), (58, 0), (59, 5), (60, 0), (64, 0)], [(some (.inl (0, 0)), [], [((54, 0), .inl (0, 0)), ((55, 0), .inl (0, 0)), ((56, 0), .inl (0, 0)), ((57, 0), .inl (0, 0)), ((58, 0), .inl (0, 0)), ((59, 5), .inl (0, 0)), ((60, 0), .inl (0, 0)), ((60, 1), .inl (0, 0)), ((64, 0), .inl ((-1), 0))], 101)], 3, 84, 0, 0)
def ck_h266 : List ck_Hd := []
set_option maxRecDepth 100000 in
theorem ck_k266 (l : Launch) (D : va_G) (st : Nat → Nat) : ck_Mt l D st ck_c266 := ck_sound (T := ck_T0) (cs := [ck_c246, ck_c265]) (hs := ck_h266) (sp := []) (fuel := 34) l ck_TSgood ck_okCl (ck_own (M0 := ck_m104) rfl rfl ck_okT0) (ck_cons (ck_k246 l D st) (ck_cons (ck_k265 l D st) ck_nil)) (by decide +kernel)
/-- SLModel.best -/
def ck_c267 : ck_C := (108, 101, [.inr (0, 77)], [((77, 2), .inr (0, 78)), ((77, 25), .inr (0, 88)), ((77, 26), .inr (0, 89)), ((77, 28), .inr (0, 91)), ((78, 1293), .inl (0, 0)), ((78, 1294), .inl (0, 0)), ((88, 0), .inl (0, 0)), ((89, 0), .inl (0, 0)), ((91, 0), .inl (0, 0)), ((91, 1), .inl (0, 0))], [(77, 30), (88, 0), (89, 0), (91, 0)], [(some (.inl (0, 0)), [], [((77, 30), .inl (0, 0)), ((88, 0), .inl (0, 0)), ((89, 0), .inl (0, 0)), ((91, 0), .inl (0, 0)), ((91, 1), .inl (0, 0))], 101)], 1, 22, 0, 0)
def ck_h267 : List ck_Hd := [(24, ([], [(2, .inl (0, 0, (-1))), (1, .inl (0, 0, 0)), (0, .inr (0, 77))], [], [((77, 2), .inr (0, 78)), ((77, 25), .inr (0, 88)), ((77, 26), .inr (0, 89)), ((77, 28), .inr (0, 91)), ((78, 1293), .inl (0, 0)), ((78, 1294), .inl (0, 0)), ((88, 0), .inl (0, 0)), ((89, 0), .inl (0, 0)), ((91, 0), .inl (0, 0)), ((91, 1), .inl (0, 0))], 101, 0, 0), 0, 2), (121, ([], [(3, .inl (0, 0, 0)), (2, .inl (0, 0, 0)), (1, .inl (0, 0, 0)), (0, .inr (0, 77))], [], [((77, 2), .inr (0, 78)), ((77, 25), .inr (0, 88)), ((77, 26), .inr (0, 89)), ((77, 28), .inr (0, 91)), ((78, 1293), .inl (0, 0)), ((78, 1294), .inl (0, 0)), ((88, 0), .inl (0, 0)), ((89, 0), .inl (0, 0)), ((91, 0), .inl (0, 0)), ((91, 1), .inl (0, 0))], 101, 0, 0), 0, 2)]
set_option maxRecDepth 100000 in
theorem ck_k267 (l : Launch) (D : va_G) (st : Nat → Nat) : ck_Mt l D st ck_c267 := ck_sound (T := ck_T13) (cs := [ck_c251, ck_c41]) (hs := ck_h267) (sp := []) (fuel := 61) l ck_TSgood ck_okCl (ck_own (M0 := ck_m108) rfl rfl ck_okT13) (ck_cons (ck_k251 l D st) (ck_cons (ck_k41 l D st) ck_nil)) (by decide +kernel)
/-- SL.place -/
def ck_c268 : ck_C := (109, 101, [.inr (0, 0), .inl ((-2147483648), 2147483647)], [((0, 8), .inr (0, 59)), ((59, 5), .inl (0, 0))], [], [(some (.inl ((-1), (-1))), [((-2147483648), (-1))], [], 101), (some (.inl ((-1), (-1))), [(0, 2147483647)], [], 101)], 1, 22, 0, 0)
def ck_h268 : List ck_Hd := []
set_option maxRecDepth 100000 in
theorem ck_k268 (l : Launch) (D : va_G) (st : Nat → Nat) : ck_Mt l D st ck_c268 := ck_sound (T := ck_T0) (cs := [ck_c48]) (hs := ck_h268) (sp := []) (fuel := 35) l ck_TSgood ck_okCl (ck_own (M0 := ck_m109) rfl rfl ck_okT0) (ck_cons (ck_k48 l D st) ck_nil) (by decide +kernel)
/-- SLModel.in -/
def ck_c269 : ck_C := (21, 101, [.inl ((-2147483648), (-1)), .inl (0, 0), .inl ((-2), (-2))], [], [], [(some (.inl (0, 0)), [((-2147483648), (-1)), (0, 0), ((-2), (-2))], [], 101)], 0, 0, 0, 0)
def ck_h269 : List ck_Hd := []
set_option maxRecDepth 100000 in
theorem ck_k269 (l : Launch) (D : va_G) (st : Nat → Nat) : ck_Mt l D st ck_c269 := ck_sound (T := ck_T13) (cs := []) (hs := ck_h269) (sp := []) (fuel := 29) l ck_TSgood ck_okCl (ck_own (M0 := ck_m21) rfl rfl ck_okT13) ck_nil (by decide +kernel)
/-- SLModel.place -/
def ck_c270 : ck_C := (110, 101, [.inr (0, 77), .inl ((-2147483648), (-1))], [((77, 30), .inl ((-1), (-1)))], [], [(some (.inl ((-1), (-1))), [((-2147483648), (-1))], [], 101)], 1, 22, 0, 0)
def ck_h270 : List ck_Hd := []
set_option maxRecDepth 100000 in
theorem ck_k270 (l : Launch) (D : va_G) (st : Nat → Nat) : ck_Mt l D st ck_c270 := ck_sound (T := ck_T13) (cs := [ck_c269]) (hs := ck_h270) (sp := []) (fuel := 34) l ck_TSgood ck_okCl (ck_own (M0 := ck_m110) rfl rfl ck_okT13) (ck_cons (ck_k269 l D st) ck_nil) (by decide +kernel)
/-- SLModel.in -/
def ck_c271 : ck_C := (21, 101, [.inl (0, 2147483647), .inl (0, 0), .inl ((-2), (-2))], [], [], [(some (.inl (0, 0)), [(0, 2147483647), (0, 0), ((-2), (-2))], [], 101)], 0, 0, 0, 0)
def ck_h271 : List ck_Hd := []
set_option maxRecDepth 100000 in
theorem ck_k271 (l : Launch) (D : va_G) (st : Nat → Nat) : ck_Mt l D st ck_c271 := ck_sound (T := ck_T13) (cs := []) (hs := ck_h271) (sp := []) (fuel := 32) l ck_TSgood ck_okCl (ck_own (M0 := ck_m21) rfl rfl ck_okT13) ck_nil (by decide +kernel)
/-- SLModel.place -/
def ck_c272 : ck_C := (110, 101, [.inr (0, 77), .inl (0, 2147483647)], [((77, 30), .inl ((-1), (-1)))], [], [(some (.inl ((-1), (-1))), [(0, 2147483647)], [], 101)], 1, 22, 0, 0)
def ck_h272 : List ck_Hd := []
set_option maxRecDepth 100000 in
theorem ck_k272 (l : Launch) (D : va_G) (st : Nat → Nat) : ck_Mt l D st ck_c272 := ck_sound (T := ck_T13) (cs := [ck_c271]) (hs := ck_h272) (sp := []) (fuel := 34) l ck_TSgood ck_okCl (ck_own (M0 := ck_m110) rfl rfl ck_okT13) (ck_cons (ck_k271 l D st) ck_nil) (by decide +kernel)
/-- SL.drop -/
def ck_c273 : ck_C := (111, 101, [.inr (0, 0), .inl ((-2147483648), 2147483647)], [((0, 1), .inr (0, 1)), ((1, 15), .inl (0, 0))], [], [(some (.inl ((-1), (-1))), [((-2147483648), 2147483647)], [], 101)], 0, 0, 0, 0)
def ck_h273 : List ck_Hd := [(4, ([((-2147483648), 2147483647, 0, (0, 0, 0))], [(3, .inl (0, 0, 0)), (2, .inl (0, 0, 0)), (0, .inr (0, 0)), (1, .inl (0, 1, 0))], [], [((0, 1), .inr (0, 1)), ((1, 15), .inl (0, 0))], 101, 0, 0), 0, 2)]
set_option maxRecDepth 100000 in
theorem ck_k273 (l : Launch) (D : va_G) (st : Nat → Nat) : ck_Mt l D st ck_c273 := ck_sound (T := ck_T0) (cs := []) (hs := ck_h273) (sp := []) (fuel := 35) l ck_TSgood ck_okCl (ck_own (M0 := ck_m111) rfl rfl ck_okT0) ck_nil (by decide +kernel)
/-- SLModel.drop -/
def ck_c274 : ck_C := (112, 101, [.inr (0, 77), .inl ((-2147483648), 2147483647)], [((77, 2), .inr (0, 78)), ((78, 1294), .inl (0, 0))], [], [(some (.inl ((-1), (-1))), [((-2147483648), 2147483647)], [], 101)], 0, 0, 0, 0)
def ck_h274 : List ck_Hd := [(4, ([((-2147483648), 2147483647, 0, (0, 0, 0))], [(3, .inl (0, 0, 0)), (2, .inl (0, 0, 0)), (0, .inr (0, 77)), (1, .inl (0, 1, 0))], [], [((77, 2), .inr (0, 78)), ((78, 1294), .inl (0, 0))], 101, 0, 0), 0, 2)]
set_option maxRecDepth 100000 in
theorem ck_k274 (l : Launch) (D : va_G) (st : Nat → Nat) : ck_Mt l D st ck_c274 := ck_sound (T := ck_T13) (cs := []) (hs := ck_h274) (sp := []) (fuel := 36) l ck_TSgood ck_okCl (ck_own (M0 := ck_m112) rfl rfl ck_okT13) ck_nil (by decide +kernel)
/-- SL.span -/
def ck_c275 : ck_C := (113, 101, [.inr (0, 0), .inl ((-2147483648), 2147483647), .inl ((-2147483648), 2147483647)], [((0, 1), .inr (0, 1)), ((1, 1), .inl (0, 0))], [], [(some (.inl ((-1), (-1))), [((-2147483648), (-1)), ((-2147483648), 2147483647)], [], 101), (some (.inl ((-1), (-1))), [(0, 2147483647), ((-2147483648), 2147483647)], [], 101)], 2, 43, 0, 0)
def ck_h275 : List ck_Hd := []
set_option maxRecDepth 100000 in
theorem ck_k275 (l : Launch) (D : va_G) (st : Nat → Nat) : ck_Mt l D st ck_c275 := ck_sound (T := ck_T0) (cs := [ck_c49]) (hs := ck_h275) (sp := []) (fuel := 31) l ck_TSgood ck_okCl (ck_own (M0 := ck_m113) rfl rfl ck_okT0) (ck_cons (ck_k49 l D st) ck_nil) (by decide +kernel)
/-- SLModel.span -/
def ck_c276 : ck_C := (114, 101, [.inr (0, 77), .inl ((-2147483648), (-1)), .inl ((-2147483648), 2147483647)], [((77, 2), .inr (0, 78)), ((78, 1293), .inl (0, 0))], [], [(some (.inl ((-1), (-1))), [((-2147483648), (-1)), ((-2147483648), 2147483647)], [], 101)], 2, 43, 0, 0)
def ck_h276 : List ck_Hd := []
set_option maxRecDepth 100000 in
theorem ck_k276 (l : Launch) (D : va_G) (st : Nat → Nat) : ck_Mt l D st ck_c276 := ck_sound (T := ck_T13) (cs := [ck_c68]) (hs := ck_h276) (sp := []) (fuel := 30) l ck_TSgood ck_okCl (ck_own (M0 := ck_m114) rfl rfl ck_okT13) (ck_cons (ck_k68 l D st) ck_nil) (by decide +kernel)
/-- SLModel.span -/
def ck_c277 : ck_C := (114, 101, [.inr (0, 77), .inl (0, 2147483647), .inl ((-2147483648), 2147483647)], [((77, 2), .inr (0, 78)), ((78, 1293), .inl (0, 0))], [], [(some (.inl ((-1), (-1))), [(0, 2147483647), ((-2147483648), 2147483647)], [], 101)], 2, 43, 0, 0)
def ck_h277 : List ck_Hd := []
set_option maxRecDepth 100000 in
theorem ck_k277 (l : Launch) (D : va_G) (st : Nat → Nat) : ck_Mt l D st ck_c277 := ck_sound (T := ck_T13) (cs := [ck_c72]) (hs := ck_h277) (sp := []) (fuel := 30) l ck_TSgood ck_okCl (ck_own (M0 := ck_m114) rfl rfl ck_okT13) (ck_cons (ck_k72 l D st) ck_nil) (by decide +kernel)
/-- SL.settle -/
def ck_c278 : ck_C := (115, 101, [.inr (0, 0), .inl ((-2147483648), 2147483647)], [((0, 1), .inr (0, 1)), ((1, 1), .inl (0, 0))], [], [(some (.inl ((-1), (-1))), [((-2147483648), (-1))], [], 101), (some (.inl ((-1), (-1))), [(0, 2147483647)], [], 101)], 2, 43, 0, 0)
def ck_h278 : List ck_Hd := []
set_option maxRecDepth 100000 in
theorem ck_k278 (l : Launch) (D : va_G) (st : Nat → Nat) : ck_Mt l D st ck_c278 := ck_sound (T := ck_T0) (cs := [ck_c49]) (hs := ck_h278) (sp := []) (fuel := 31) l ck_TSgood ck_okCl (ck_own (M0 := ck_m115) rfl rfl ck_okT0) (ck_cons (ck_k49 l D st) ck_nil) (by decide +kernel)
/-- SLModel.settle -/
def ck_c279 : ck_C := (116, 101, [.inr (0, 77), .inl ((-2147483648), (-1))], [((77, 2), .inr (0, 78)), ((78, 1293), .inl (0, 0))], [], [(some (.inl ((-1), (-1))), [((-2147483648), (-1))], [], 101)], 2, 43, 0, 0)
def ck_h279 : List ck_Hd := []
set_option maxRecDepth 100000 in
theorem ck_k279 (l : Launch) (D : va_G) (st : Nat → Nat) : ck_Mt l D st ck_c279 := ck_sound (T := ck_T13) (cs := [ck_c68]) (hs := ck_h279) (sp := []) (fuel := 30) l ck_TSgood ck_okCl (ck_own (M0 := ck_m116) rfl rfl ck_okT13) (ck_cons (ck_k68 l D st) ck_nil) (by decide +kernel)
/-- SLModel.settle -/
def ck_c280 : ck_C := (116, 101, [.inr (0, 77), .inl (0, 2147483647)], [((77, 2), .inr (0, 78)), ((78, 1293), .inl (0, 0))], [], [(some (.inl ((-1), (-1))), [(0, 2147483647)], [], 101)], 2, 43, 0, 0)
def ck_h280 : List ck_Hd := []
set_option maxRecDepth 100000 in
theorem ck_k280 (l : Launch) (D : va_G) (st : Nat → Nat) : ck_Mt l D st ck_c280 := ck_sound (T := ck_T13) (cs := [ck_c72]) (hs := ck_h280) (sp := []) (fuel := 30) l ck_TSgood ck_okCl (ck_own (M0 := ck_m116) rfl rfl ck_okT13) (ck_cons (ck_k72 l D st) ck_nil) (by decide +kernel)
/-- SL.within -/
def ck_c281 : ck_C := (16, 101, [.inl ((-2147483648), 2147483647), .inl (0, 0), .inl (1, 1)], [], [], [(some (.inl (0, 0)), [((-2147483648), (-1)), (0, 0), (1, 1)], [], 101), (some (.inl (0, 0)), [(2, 2147483647), (0, 0), (1, 1)], [], 101), (some (.inl (1, 1)), [(0, 1), (0, 0), (1, 1)], [], 101)], 0, 0, 0, 0)
def ck_h281 : List ck_Hd := []
set_option maxRecDepth 100000 in
theorem ck_k281 (l : Launch) (D : va_G) (st : Nat → Nat) : ck_Mt l D st ck_c281 := ck_sound (T := ck_T0) (cs := []) (hs := ck_h281) (sp := []) (fuel := 33) l ck_TSgood ck_okCl (ck_own (M0 := ck_m16) rfl rfl ck_okT0) ck_nil (by decide +kernel)
/-- java/lang/Integer.bitCount -/
def ck_c282 : ck_C := (118, 101, [.inl (0, 0)], [], [], [(some (.inl (0, 0)), [(0, 0)], [], 101)], 0, 0, 0, 0)
def ck_h282 : List ck_Hd := []
set_option maxRecDepth 100000 in
theorem ck_k282 (l : Launch) (D : va_G) (st : Nat → Nat) : ck_Mt l D st ck_c282 := ck_sound (T := ck_T14) (cs := []) (hs := ck_h282) (sp := []) (fuel := 66) l ck_TSgood ck_okCl (ck_own (M0 := ck_m118) rfl rfl ck_okT14) ck_nil (by decide +kernel)
/-- SL.within -/
def ck_c283 : ck_C := (16, 101, [.inl (0, 0), .inl (2, 2), .inl (5, 5)], [], [], [(some (.inl (0, 0)), [(0, 0), (2, 2), (5, 5)], [], 101)], 0, 0, 0, 0)
def ck_h283 : List ck_Hd := []
set_option maxRecDepth 100000 in
theorem ck_k283 (l : Launch) (D : va_G) (st : Nat → Nat) : ck_Mt l D st ck_c283 := ck_sound (T := ck_T0) (cs := []) (hs := ck_h283) (sp := []) (fuel := 29) l ck_TSgood ck_okCl (ck_own (M0 := ck_m16) rfl rfl ck_okT0) ck_nil (by decide +kernel)
/-- SL.fewest -/
def ck_c284 : ck_C := (117, 101, [.inr (0, 0), .inl ((-2147483648), 2147483647), .inl ((-2147483648), 2147483647)], [((0, 1), .inr (0, 1)), ((1, 1), .inl (0, 0))], [], [(some (.inl ((-1), (-1))), [((-2147483648), 2147483647), ((-2147483648), (-1))], [], 101), (some (.inl ((-1), (-1))), [((-2147483648), 2147483647), (2, 2147483647)], [], 101), (some (.inl ((-1), (-1))), [((-2147483648), (-1)), (0, 1)], [], 101), (some (.inl ((-1), (-1))), [(1, 2147483647), (0, 1)], [], 101), (some (.inl ((-1), (-1))), [(0, 0), (0, 1)], [], 101)], 1, 22, 0, 0)
def ck_h284 : List ck_Hd := []
set_option maxRecDepth 100000 in
theorem ck_k284 (l : Launch) (D : va_G) (st : Nat → Nat) : ck_Mt l D st ck_c284 := ck_sound (T := ck_T0) (cs := [ck_c281, ck_c142, ck_c282, ck_c283]) (hs := ck_h284) (sp := []) (fuel := 48) l ck_TSgood ck_okCl (ck_own (M0 := ck_m117) rfl rfl ck_okT0) (ck_cons (ck_k281 l D st) (ck_cons (ck_k142 l D st) (ck_cons (ck_k282 l D st) (ck_cons (ck_k283 l D st) ck_nil)))) (by decide +kernel)
/-- SLModel.ones -/
def ck_c285 : ck_C := (120, 101, [.inl (0, 0)], [], [], [(some (.inl (0, 0)), [(0, 0)], [], 101)], 0, 0, 0, 0)
def ck_h285 : List ck_Hd := [(4, ([(0, 0, 0, (0, 0, 0)), (0, 12, 0, (0, 0, 0)), (0, 0, 0, (0, 0, 0))], [(2, .inl (1, 1, 0)), (1, .inl (2, 1, 0)), (0, .inl (0, 1, 0))], [], [], 101, 0, 0), 1, 0)]
set_option maxRecDepth 100000 in
theorem ck_k285 (l : Launch) (D : va_G) (st : Nat → Nat) : ck_Mt l D st ck_c285 := ck_sound (T := ck_T13) (cs := []) (hs := ck_h285) (sp := []) (fuel := 42) l ck_TSgood ck_okCl (ck_own (M0 := ck_m120) rfl rfl ck_okT13) ck_nil (by decide +kernel)
/-- SLModel.in -/
def ck_c286 : ck_C := (21, 101, [.inl (0, 0), .inl (2, 2), .inl (5, 5)], [], [], [(some (.inl (0, 0)), [(0, 0), (2, 2), (5, 5)], [], 101)], 0, 0, 0, 0)
def ck_h286 : List ck_Hd := []
set_option maxRecDepth 100000 in
theorem ck_k286 (l : Launch) (D : va_G) (st : Nat → Nat) : ck_Mt l D st ck_c286 := ck_sound (T := ck_T13) (cs := []) (hs := ck_h286) (sp := []) (fuel := 29) l ck_TSgood ck_okCl (ck_own (M0 := ck_m21) rfl rfl ck_okT13) ck_nil (by decide +kernel)
/-- SLModel.fewest -/
def ck_c287 : ck_C := (119, 101, [.inr (0, 77), .inl ((-2147483648), 2147483647), .inl ((-2147483648), (-1))], [((77, 2), .inr (0, 78)), ((78, 1293), .inl (0, 0))], [], [(some (.inl ((-1), (-1))), [((-2147483648), (-1)), ((-2147483648), (-1))], [], 101), (some (.inl ((-1), (-1))), [(1, 2147483647), ((-2147483648), (-1))], [], 101), (some (.inl ((-1), (-1))), [(0, 0), ((-2147483648), (-1))], [], 101)], 1, 22, 0, 0)
def ck_h287 : List ck_Hd := []
set_option maxRecDepth 100000 in
theorem ck_k287 (l : Launch) (D : va_G) (st : Nat → Nat) : ck_Mt l D st ck_c287 := ck_sound (T := ck_T13) (cs := [ck_c41, ck_c285, ck_c286]) (hs := ck_h287) (sp := []) (fuel := 40) l ck_TSgood ck_okCl (ck_own (M0 := ck_m119) rfl rfl ck_okT13) (ck_cons (ck_k41 l D st) (ck_cons (ck_k285 l D st) (ck_cons (ck_k286 l D st) ck_nil))) (by decide +kernel)
/-- SLModel.fewest -/
def ck_c288 : ck_C := (119, 101, [.inr (0, 77), .inl ((-2147483648), 2147483647), .inl (2, 2147483647)], [((77, 2), .inr (0, 78)), ((78, 1293), .inl (0, 0))], [], [(some (.inl ((-1), (-1))), [((-2147483648), (-1)), (2, 2147483647)], [], 101), (some (.inl ((-1), (-1))), [(1, 2147483647), (2, 2147483647)], [], 101), (some (.inl ((-1), (-1))), [(0, 0), (2, 2147483647)], [], 101)], 1, 22, 0, 0)
def ck_h288 : List ck_Hd := []
set_option maxRecDepth 100000 in
theorem ck_k288 (l : Launch) (D : va_G) (st : Nat → Nat) : ck_Mt l D st ck_c288 := ck_sound (T := ck_T13) (cs := [ck_c41, ck_c285, ck_c286]) (hs := ck_h288) (sp := []) (fuel := 40) l ck_TSgood ck_okCl (ck_own (M0 := ck_m119) rfl rfl ck_okT13) (ck_cons (ck_k41 l D st) (ck_cons (ck_k285 l D st) (ck_cons (ck_k286 l D st) ck_nil))) (by decide +kernel)
/-- SLModel.fewest -/
def ck_c289 : ck_C := (119, 101, [.inr (0, 77), .inl ((-2147483648), (-1)), .inl (0, 1)], [], [], [(some (.inl ((-1), (-1))), [((-2147483648), (-1)), (0, 1)], [], 101)], 0, 0, 0, 0)
def ck_h289 : List ck_Hd := []
set_option maxRecDepth 100000 in
theorem ck_k289 (l : Launch) (D : va_G) (st : Nat → Nat) : ck_Mt l D st ck_c289 := ck_sound (T := ck_T13) (cs := []) (hs := ck_h289) (sp := []) (fuel := 28) l ck_TSgood ck_okCl (ck_own (M0 := ck_m119) rfl rfl ck_okT13) ck_nil (by decide +kernel)
/-- SLModel.fewest -/
def ck_c290 : ck_C := (119, 101, [.inr (0, 77), .inl (1, 2147483647), .inl (0, 1)], [((77, 2), .inr (0, 78)), ((78, 1293), .inl (0, 0))], [], [(some (.inl ((-1), (-1))), [(1, 2147483647), (0, 1)], [], 101)], 1, 20, 0, 0)
def ck_h290 : List ck_Hd := []
set_option maxRecDepth 100000 in
theorem ck_k290 (l : Launch) (D : va_G) (st : Nat → Nat) : ck_Mt l D st ck_c290 := ck_sound (T := ck_T13) (cs := [ck_c41]) (hs := ck_h290) (sp := []) (fuel := 34) l ck_TSgood ck_okCl (ck_own (M0 := ck_m119) rfl rfl ck_okT13) (ck_cons (ck_k41 l D st) ck_nil) (by decide +kernel)
/-- SLModel.fewest -/
def ck_c291 : ck_C := (119, 101, [.inr (0, 77), .inl (0, 0), .inl (0, 1)], [((77, 2), .inr (0, 78)), ((78, 1293), .inl (0, 0))], [], [(some (.inl ((-1), (-1))), [(0, 0), (0, 1)], [], 101)], 1, 22, 0, 0)
def ck_h291 : List ck_Hd := []
set_option maxRecDepth 100000 in
theorem ck_k291 (l : Launch) (D : va_G) (st : Nat → Nat) : ck_Mt l D st ck_c291 := ck_sound (T := ck_T13) (cs := [ck_c41, ck_c285, ck_c286]) (hs := ck_h291) (sp := []) (fuel := 40) l ck_TSgood ck_okCl (ck_own (M0 := ck_m119) rfl rfl ck_okT13) (ck_cons (ck_k41 l D st) (ck_cons (ck_k285 l D st) (ck_cons (ck_k286 l D st) ck_nil))) (by decide +kernel)
/-- SL.within -/
def ck_c292 : ck_C := (16, 101, [.inl ((-2147483648), 2147483647), .inl (1, 1), .inl (0, 0)], [], [], [(some (.inl (0, 0)), [((-2147483648), 0), (1, 1), (0, 0)], [], 101), (some (.inl (0, 0)), [(1, 2147483647), (1, 1), (0, 0)], [], 101)], 0, 0, 0, 0)
def ck_h292 : List ck_Hd := []
set_option maxRecDepth 100000 in
theorem ck_k292 (l : Launch) (D : va_G) (st : Nat → Nat) : ck_Mt l D st ck_c292 := ck_sound (T := ck_T0) (cs := []) (hs := ck_h292) (sp := []) (fuel := 32) l ck_TSgood ck_okCl (ck_own (M0 := ck_m16) rfl rfl ck_okT0) ck_nil (by decide +kernel)
/-- SL.choice -/
def ck_c293 : ck_C := (121, 101, [.inr (0, 0), .inl ((-2147483648), 2147483647), .inl ((-2147483648), 2147483647)], [((0, 8), .inr (0, 59)), ((59, 5), .inl (0, 0))], [], [(some (.inl ((-1), (-1))), [((-2147483648), 2147483647), ((-2147483648), (-1))], [], 101), (some (.inl ((-1), (-1))), [((-2147483648), 2147483647), (2, 2147483647)], [], 101), (some (.inl ((-1), (-1))), [((-2147483648), 0), (0, 1)], [], 101), (some (.inl ((-1), (-1))), [(1, 2147483647), (0, 1)], [], 101)], 1, 22, 0, 0)
def ck_h293 : List ck_Hd := []
set_option maxRecDepth 100000 in
theorem ck_k293 (l : Launch) (D : va_G) (st : Nat → Nat) : ck_Mt l D st ck_c293 := ck_sound (T := ck_T0) (cs := [ck_c281, ck_c292]) (hs := ck_h293) (sp := []) (fuel := 38) l ck_TSgood ck_okCl (ck_own (M0 := ck_m121) rfl rfl ck_okT0) (ck_cons (ck_k281 l D st) (ck_cons (ck_k292 l D st) ck_nil)) (by decide +kernel)
/-- SLModel.in -/
def ck_c294 : ck_C := (21, 101, [.inl ((-2147483648), 2147483647), .inl (1, 1), .inl (12, 12)], [], [], [(some (.inl (0, 0)), [((-2147483648), 0), (1, 1), (12, 12)], [], 101), (some (.inl (0, 0)), [(13, 2147483647), (1, 1), (12, 12)], [], 101), (some (.inl (1, 1)), [(1, 12), (1, 1), (12, 12)], [], 101)], 0, 0, 0, 0)
def ck_h294 : List ck_Hd := []
set_option maxRecDepth 100000 in
theorem ck_k294 (l : Launch) (D : va_G) (st : Nat → Nat) : ck_Mt l D st ck_c294 := ck_sound (T := ck_T13) (cs := []) (hs := ck_h294) (sp := []) (fuel := 33) l ck_TSgood ck_okCl (ck_own (M0 := ck_m21) rfl rfl ck_okT13) ck_nil (by decide +kernel)
/-- SLModel.in -/
def ck_c295 : ck_C := (21, 101, [.inl ((-2147483648), (-1)), .inl (0, 0), .inl (1, 1)], [], [], [(some (.inl (0, 0)), [((-2147483648), (-1)), (0, 0), (1, 1)], [], 101)], 0, 0, 0, 0)
def ck_h295 : List ck_Hd := []
set_option maxRecDepth 100000 in
theorem ck_k295 (l : Launch) (D : va_G) (st : Nat → Nat) : ck_Mt l D st ck_c295 := ck_sound (T := ck_T13) (cs := []) (hs := ck_h295) (sp := []) (fuel := 29) l ck_TSgood ck_okCl (ck_own (M0 := ck_m21) rfl rfl ck_okT13) ck_nil (by decide +kernel)
/-- SLModel.choice -/
def ck_c296 : ck_C := (122, 101, [.inr (0, 77), .inl ((-2147483648), 2147483647), .inl ((-2147483648), (-1))], [], [], [(some (.inl ((-1), (-1))), [((-2147483648), 0), ((-2147483648), (-1))], [], 101), (some (.inl ((-1), (-1))), [(13, 2147483647), ((-2147483648), (-1))], [], 101), (some (.inl ((-1), (-1))), [(1, 12), ((-2147483648), (-1))], [], 101)], 1, 22, 0, 0)
def ck_h296 : List ck_Hd := []
set_option maxRecDepth 100000 in
theorem ck_k296 (l : Launch) (D : va_G) (st : Nat → Nat) : ck_Mt l D st ck_c296 := ck_sound (T := ck_T13) (cs := [ck_c294, ck_c295]) (hs := ck_h296) (sp := []) (fuel := 36) l ck_TSgood ck_okCl (ck_own (M0 := ck_m122) rfl rfl ck_okT13) (ck_cons (ck_k294 l D st) (ck_cons (ck_k295 l D st) ck_nil)) (by decide +kernel)
/-- SLModel.in -/
def ck_c297 : ck_C := (21, 101, [.inl (2, 2147483647), .inl (0, 0), .inl (1, 1)], [], [], [(some (.inl (0, 0)), [(2, 2147483647), (0, 0), (1, 1)], [], 101)], 0, 0, 0, 0)
def ck_h297 : List ck_Hd := []
set_option maxRecDepth 100000 in
theorem ck_k297 (l : Launch) (D : va_G) (st : Nat → Nat) : ck_Mt l D st ck_c297 := ck_sound (T := ck_T13) (cs := []) (hs := ck_h297) (sp := []) (fuel := 32) l ck_TSgood ck_okCl (ck_own (M0 := ck_m21) rfl rfl ck_okT13) ck_nil (by decide +kernel)
/-- SLModel.choice -/
def ck_c298 : ck_C := (122, 101, [.inr (0, 77), .inl ((-2147483648), 2147483647), .inl (2, 2147483647)], [], [], [(some (.inl ((-1), (-1))), [((-2147483648), 0), (2, 2147483647)], [], 101), (some (.inl ((-1), (-1))), [(13, 2147483647), (2, 2147483647)], [], 101), (some (.inl ((-1), (-1))), [(1, 12), (2, 2147483647)], [], 101)], 1, 22, 0, 0)
def ck_h298 : List ck_Hd := []
set_option maxRecDepth 100000 in
theorem ck_k298 (l : Launch) (D : va_G) (st : Nat → Nat) : ck_Mt l D st ck_c298 := ck_sound (T := ck_T13) (cs := [ck_c294, ck_c297]) (hs := ck_h298) (sp := []) (fuel := 36) l ck_TSgood ck_okCl (ck_own (M0 := ck_m122) rfl rfl ck_okT13) (ck_cons (ck_k294 l D st) (ck_cons (ck_k297 l D st) ck_nil)) (by decide +kernel)
/-- SLModel.in -/
def ck_c299 : ck_C := (21, 101, [.inl ((-2147483648), 0), .inl (1, 1), .inl (12, 12)], [], [], [(some (.inl (0, 0)), [((-2147483648), 0), (1, 1), (12, 12)], [], 101)], 0, 0, 0, 0)
def ck_h299 : List ck_Hd := []
set_option maxRecDepth 100000 in
theorem ck_k299 (l : Launch) (D : va_G) (st : Nat → Nat) : ck_Mt l D st ck_c299 := ck_sound (T := ck_T13) (cs := []) (hs := ck_h299) (sp := []) (fuel := 29) l ck_TSgood ck_okCl (ck_own (M0 := ck_m21) rfl rfl ck_okT13) ck_nil (by decide +kernel)
/-- SLModel.choice -/
def ck_c300 : ck_C := (122, 101, [.inr (0, 77), .inl ((-2147483648), 0), .inl (0, 1)], [], [], [(some (.inl ((-1), (-1))), [((-2147483648), 0), (0, 1)], [], 101)], 1, 22, 0, 0)
def ck_h300 : List ck_Hd := []
set_option maxRecDepth 100000 in
theorem ck_k300 (l : Launch) (D : va_G) (st : Nat → Nat) : ck_Mt l D st ck_c300 := ck_sound (T := ck_T13) (cs := [ck_c299]) (hs := ck_h300) (sp := []) (fuel := 31) l ck_TSgood ck_okCl (ck_own (M0 := ck_m122) rfl rfl ck_okT13) (ck_cons (ck_k299 l D st) ck_nil) (by decide +kernel)
/-- SLModel.in -/
def ck_c301 : ck_C := (21, 101, [.inl (1, 2147483647), .inl (1, 1), .inl (12, 12)], [], [], [(some (.inl (0, 0)), [(13, 2147483647), (1, 1), (12, 12)], [], 101), (some (.inl (1, 1)), [(1, 12), (1, 1), (12, 12)], [], 101)], 0, 0, 0, 0)
def ck_h301 : List ck_Hd := []
set_option maxRecDepth 100000 in
theorem ck_k301 (l : Launch) (D : va_G) (st : Nat → Nat) : ck_Mt l D st ck_c301 := ck_sound (T := ck_T13) (cs := []) (hs := ck_h301) (sp := []) (fuel := 33) l ck_TSgood ck_okCl (ck_own (M0 := ck_m21) rfl rfl ck_okT13) ck_nil (by decide +kernel)
/-- SLModel.in -/
def ck_c302 : ck_C := (21, 101, [.inl (0, 1), .inl (0, 0), .inl (1, 1)], [], [], [(some (.inl (1, 1)), [(0, 1), (0, 0), (1, 1)], [], 101)], 0, 0, 0, 0)
def ck_h302 : List ck_Hd := []
set_option maxRecDepth 100000 in
theorem ck_k302 (l : Launch) (D : va_G) (st : Nat → Nat) : ck_Mt l D st ck_c302 := ck_sound (T := ck_T13) (cs := []) (hs := ck_h302) (sp := []) (fuel := 33) l ck_TSgood ck_okCl (ck_own (M0 := ck_m21) rfl rfl ck_okT13) ck_nil (by decide +kernel)
/-- SLModel.isBestThere -/
def ck_c303 : ck_C := (123, 101, [.inr (0, 77)], [((77, 30), .inl ((-1), (-1)))], [], [(some (.inl (0, 0)), [], [], 101)], 0, 0, 0, 0)
def ck_h303 : List ck_Hd := [(2, ([], [(1, .inl (0, 0, 0)), (0, .inr (0, 77))], [], [((77, 30), .inl ((-1), (-1)))], 101, 0, 0), 0, 2)]
set_option maxRecDepth 100000 in
theorem ck_k303 (l : Launch) (D : va_G) (st : Nat → Nat) : ck_Mt l D st ck_c303 := ck_sound (T := ck_T13) (cs := []) (hs := ck_h303) (sp := []) (fuel := 36) l ck_TSgood ck_okCl (ck_own (M0 := ck_m123) rfl rfl ck_okT13) ck_nil (by decide +kernel)
/-- SLModel.choice -/
def ck_c304 : ck_C := (122, 101, [.inr (0, 77), .inl (1, 2147483647), .inl (0, 1)], [((77, 30), .inl ((-1), (-1)))], [], [(some (.inl ((-1), (-1))), [(13, 2147483647), (0, 1)], [], 101), (some (.inl ((-1), (-1))), [(1, 12), (0, 1)], [], 101)], 1, 22, 0, 0)
def ck_h304 : List ck_Hd := []
set_option maxRecDepth 100000 in
theorem ck_k304 (l : Launch) (D : va_G) (st : Nat → Nat) : ck_Mt l D st ck_c304 := ck_sound (T := ck_T13) (cs := [ck_c301, ck_c302, ck_c303]) (hs := ck_h304) (sp := []) (fuel := 39) l ck_TSgood ck_okCl (ck_own (M0 := ck_m122) rfl rfl ck_okT13) (ck_cons (ck_k301 l D st) (ck_cons (ck_k302 l D st) (ck_cons (ck_k303 l D st) ck_nil))) (by decide +kernel)
/-- SL.dents -/
def ck_c305 : ck_C := (124, 101, [.inr (0, 0), .inl ((-2147483648), 2147483647), .inl ((-2147483648), 2147483647)], [((0, 1), .inr (0, 1)), ((1, 1), .inl (0, 0))], [], [(some (.inl ((-1), (-1))), [((-2147483648), 0), ((-2147483648), 2147483647)], [], 101), (some (.inl ((-1), (-1))), [(101, 2147483647), ((-2147483648), 2147483647)], [], 101), (some (.inl ((-1), (-1))), [(1, 100), ((-2147483648), (-1))], [], 101), (some (.inl ((-1), (-1))), [(1, 100), (0, 2147483647)], [], 101)], 1, 22, 0, 0)
def ck_h305 : List ck_Hd := []
set_option maxRecDepth 100000 in
theorem ck_k305 (l : Launch) (D : va_G) (st : Nat → Nat) : ck_Mt l D st ck_c305 := ck_sound (T := ck_T0) (cs := [ck_c20, ck_c48]) (hs := ck_h305) (sp := []) (fuel := 40) l ck_TSgood ck_okCl (ck_own (M0 := ck_m124) rfl rfl ck_okT0) (ck_cons (ck_k20 l D st) (ck_cons (ck_k48 l D st) ck_nil)) (by decide +kernel)
/-- SLModel.dents -/
def ck_c306 : ck_C := (125, 101, [.inr (0, 77), .inl ((-2147483648), 0), .inl ((-2147483648), 2147483647)], [], [], [(some (.inl ((-1), (-1))), [((-2147483648), 0), ((-2147483648), 2147483647)], [], 101)], 1, 22, 0, 0)
def ck_h306 : List ck_Hd := []
set_option maxRecDepth 100000 in
theorem ck_k306 (l : Launch) (D : va_G) (st : Nat → Nat) : ck_Mt l D st ck_c306 := ck_sound (T := ck_T13) (cs := [ck_c31]) (hs := ck_h306) (sp := []) (fuel := 31) l ck_TSgood ck_okCl (ck_own (M0 := ck_m125) rfl rfl ck_okT13) (ck_cons (ck_k31 l D st) ck_nil) (by decide +kernel)
/-- SLModel.dents -/
def ck_c307 : ck_C := (125, 101, [.inr (0, 77), .inl (101, 2147483647), .inl ((-2147483648), 2147483647)], [], [], [(some (.inl ((-1), (-1))), [(101, 2147483647), ((-2147483648), 2147483647)], [], 101)], 1, 22, 0, 0)
def ck_h307 : List ck_Hd := []
set_option maxRecDepth 100000 in
theorem ck_k307 (l : Launch) (D : va_G) (st : Nat → Nat) : ck_Mt l D st ck_c307 := ck_sound (T := ck_T13) (cs := [ck_c33]) (hs := ck_h307) (sp := []) (fuel := 31) l ck_TSgood ck_okCl (ck_own (M0 := ck_m125) rfl rfl ck_okT13) (ck_cons (ck_k33 l D st) ck_nil) (by decide +kernel)
/-- SLModel.dentsOf -/
def ck_c308 : ck_C := (126, 101, [.inr (0, 77), .inl (1, 100)], [((77, 2), .inr (0, 78)), ((78, 1293), .inl (0, 0))], [], [(none, [(1, 100)], [], 101)], 1, 20, 0, 0)
def ck_h308 : List ck_Hd := [(2, ([(1, 100, 0, (0, 0, 0))], [(2, .inl (0, 0, 0)), (0, .inr (0, 77)), (1, .inl (0, 1, 0))], [], [((77, 2), .inr (0, 78)), ((78, 1293), .inl (0, 0))], 101, 0, 0), 0, 2)]
set_option maxRecDepth 100000 in
theorem ck_k308 (l : Launch) (D : va_G) (st : Nat → Nat) : ck_Mt l D st ck_c308 := ck_sound (T := ck_T13) (cs := [ck_c41]) (hs := ck_h308) (sp := []) (fuel := 31) l ck_TSgood ck_okCl (ck_own (M0 := ck_m126) rfl rfl ck_okT13) (ck_cons (ck_k41 l D st) ck_nil) (by decide +kernel)
/-- SLModel.standing -/
def ck_c309 : ck_C := (127, 101, [.inr (0, 77), .inl ((-2147483648), (-1))], [((77, 2), .inr (0, 78)), ((78, 1293), .inl (0, 0))], [], [(some (.inl ((-1), (-1))), [((-2147483648), (-1))], [], 101)], 1, 20, 0, 0)
def ck_h309 : List ck_Hd := [(2, ([((-2147483648), (-1), 0, (0, 0, 0))], [(2, .inl (0, 0, 0)), (0, .inr (0, 77)), (1, .inl (0, 1, 0))], [], [((77, 2), .inr (0, 78)), ((78, 1293), .inl (0, 0))], 101, 0, 0), 0, 2)]
set_option maxRecDepth 100000 in
theorem ck_k309 (l : Launch) (D : va_G) (st : Nat → Nat) : ck_Mt l D st ck_c309 := ck_sound (T := ck_T13) (cs := [ck_c41]) (hs := ck_h309) (sp := []) (fuel := 32) l ck_TSgood ck_okCl (ck_own (M0 := ck_m127) rfl rfl ck_okT13) (ck_cons (ck_k41 l D st) ck_nil) (by decide +kernel)
/-- SLModel.dents -/
def ck_c310 : ck_C := (125, 101, [.inr (0, 77), .inl (1, 100), .inl ((-2147483648), (-1))], [((77, 2), .inr (0, 78)), ((78, 1293), .inl (0, 0))], [], [(some (.inl ((-1), (-1))), [(1, 100), ((-2147483648), (-1))], [], 101)], 2, 44, 0, 0)
def ck_h310 : List ck_Hd := []
set_option maxRecDepth 100000 in
theorem ck_k310 (l : Launch) (D : va_G) (st : Nat → Nat) : ck_Mt l D st ck_c310 := ck_sound (T := ck_T13) (cs := [ck_c35, ck_c308, ck_c309]) (hs := ck_h310) (sp := []) (fuel := 36) l ck_TSgood ck_okCl (ck_own (M0 := ck_m125) rfl rfl ck_okT13) (ck_cons (ck_k35 l D st) (ck_cons (ck_k308 l D st) (ck_cons (ck_k309 l D st) ck_nil))) (by decide +kernel)
/-- SLModel.standing -/
def ck_c311 : ck_C := (127, 101, [.inr (0, 77), .inl (0, 2147483647)], [((77, 2), .inr (0, 78)), ((78, 1293), .inl (0, 0))], [], [(some (.inl ((-1), (-1))), [(0, 2147483647)], [], 101)], 1, 20, 0, 0)
def ck_h311 : List ck_Hd := [(2, ([(0, 2147483647, 0, (0, 0, 0))], [(2, .inl (0, 0, 0)), (0, .inr (0, 77)), (1, .inl (0, 1, 0))], [], [((77, 2), .inr (0, 78)), ((78, 1293), .inl (0, 0))], 101, 0, 0), 0, 2)]
set_option maxRecDepth 100000 in
theorem ck_k311 (l : Launch) (D : va_G) (st : Nat → Nat) : ck_Mt l D st ck_c311 := ck_sound (T := ck_T13) (cs := [ck_c41]) (hs := ck_h311) (sp := []) (fuel := 32) l ck_TSgood ck_okCl (ck_own (M0 := ck_m127) rfl rfl ck_okT13) (ck_cons (ck_k41 l D st) ck_nil) (by decide +kernel)
/-- SLModel.dents -/
def ck_c312 : ck_C := (125, 101, [.inr (0, 77), .inl (1, 100), .inl (0, 2147483647)], [((77, 2), .inr (0, 78)), ((78, 1293), .inl (0, 0))], [], [(some (.inl ((-1), (-1))), [(1, 100), (0, 2147483647)], [], 101)], 2, 44, 0, 0)
def ck_h312 : List ck_Hd := []
set_option maxRecDepth 100000 in
theorem ck_k312 (l : Launch) (D : va_G) (st : Nat → Nat) : ck_Mt l D st ck_c312 := ck_sound (T := ck_T13) (cs := [ck_c35, ck_c308, ck_c311]) (hs := ck_h312) (sp := []) (fuel := 36) l ck_TSgood ck_okCl (ck_own (M0 := ck_m125) rfl rfl ck_okT13) (ck_cons (ck_k35 l D st) (ck_cons (ck_k308 l D st) (ck_cons (ck_k311 l D st) ck_nil))) (by decide +kernel)
/-- SL.grooves -/
def ck_c313 : ck_C := (128, 101, [.inr (0, 0), .inl ((-2147483648), 2147483647)], [((0, 1), .inr (0, 1)), ((1, 1), .inl (0, 0))], [], [(some (.inl ((-1), (-1))), [((-2147483648), (-1))], [], 101), (some (.inl ((-1), (-1))), [(0, 2147483647)], [], 101)], 1, 22, 0, 0)
def ck_h313 : List ck_Hd := []
set_option maxRecDepth 100000 in
theorem ck_k313 (l : Launch) (D : va_G) (st : Nat → Nat) : ck_Mt l D st ck_c313 := ck_sound (T := ck_T0) (cs := [ck_c48]) (hs := ck_h313) (sp := []) (fuel := 35) l ck_TSgood ck_okCl (ck_own (M0 := ck_m128) rfl rfl ck_okT0) (ck_cons (ck_k48 l D st) ck_nil) (by decide +kernel)
/-- SLModel.groovesOf -/
def ck_c314 : ck_C := (130, 101, [.inr (0, 77)], [((77, 2), .inr (0, 78)), ((78, 1293), .inl (0, 0))], [], [(none, [], [], 101)], 1, 20, 0, 0)
def ck_h314 : List ck_Hd := [(2, ([], [(1, .inl (0, 0, 0)), (0, .inr (0, 77))], [], [((77, 2), .inr (0, 78)), ((78, 1293), .inl (0, 0))], 101, 0, 0), 0, 2)]
set_option maxRecDepth 100000 in
theorem ck_k314 (l : Launch) (D : va_G) (st : Nat → Nat) : ck_Mt l D st ck_c314 := ck_sound (T := ck_T13) (cs := [ck_c41]) (hs := ck_h314) (sp := []) (fuel := 31) l ck_TSgood ck_okCl (ck_own (M0 := ck_m130) rfl rfl ck_okT13) (ck_cons (ck_k41 l D st) ck_nil) (by decide +kernel)
/-- SLModel.grooves -/
def ck_c315 : ck_C := (129, 101, [.inr (0, 77), .inl ((-2147483648), (-1))], [((77, 2), .inr (0, 78)), ((78, 1293), .inl (0, 0))], [], [(some (.inl ((-1), (-1))), [((-2147483648), (-1))], [], 101)], 2, 44, 0, 0)
def ck_h315 : List ck_Hd := []
set_option maxRecDepth 100000 in
theorem ck_k315 (l : Launch) (D : va_G) (st : Nat → Nat) : ck_Mt l D st ck_c315 := ck_sound (T := ck_T13) (cs := [ck_c314, ck_c309]) (hs := ck_h315) (sp := []) (fuel := 30) l ck_TSgood ck_okCl (ck_own (M0 := ck_m129) rfl rfl ck_okT13) (ck_cons (ck_k314 l D st) (ck_cons (ck_k309 l D st) ck_nil)) (by decide +kernel)
/-- SLModel.grooves -/
def ck_c316 : ck_C := (129, 101, [.inr (0, 77), .inl (0, 2147483647)], [((77, 2), .inr (0, 78)), ((78, 1293), .inl (0, 0))], [], [(some (.inl ((-1), (-1))), [(0, 2147483647)], [], 101)], 2, 44, 0, 0)
def ck_h316 : List ck_Hd := []
set_option maxRecDepth 100000 in
theorem ck_k316 (l : Launch) (D : va_G) (st : Nat → Nat) : ck_Mt l D st ck_c316 := ck_sound (T := ck_T13) (cs := [ck_c314, ck_c311]) (hs := ck_h316) (sp := []) (fuel := 30) l ck_TSgood ck_okCl (ck_own (M0 := ck_m129) rfl rfl ck_okT13) (ck_cons (ck_k314 l D st) (ck_cons (ck_k311 l D st) ck_nil)) (by decide +kernel)
/-- SL$Lineup.sort -/
def ck_c317 : ck_C := (133, 101, [.inr (0, 65)], [((1, 1), .inl (0, 0)), ((65, 1), .inr (0, 1))], [], [(none, [], [], 101)], 0, 0, 0, 0)
def ck_h317 : List ck_Hd := [(2, ([], [(1, .inl (0, 0, 0)), (0, .inr (0, 65))], [], [((1, 1), .inl (0, 0)), ((65, 1), .inr (0, 1))], 101, 0, 0), 0, 2)]
set_option maxRecDepth 100000 in
theorem ck_k317 (l : Launch) (D : va_G) (st : Nat → Nat) : ck_Mt l D st ck_c317 := ck_sound (T := ck_T2) (cs := []) (hs := ck_h317) (sp := []) (fuel := 32) l ck_TSgood ck_okCl (ck_own (M0 := ck_m133) rfl rfl ck_okT2) ck_nil (by decide +kernel)
/-- SL$Lineup.byDents -/
def ck_c318 : ck_C := (132, 101, [.inr (0, 65), .inl (1, 100)], [((1, 1), .inl (0, 0)), ((65, 1), .inr (0, 1))], [], [(none, [(1, 100)], [], 101)], 1, 22, 0, 0)
def ck_h318 : List ck_Hd := [(2, ([(1, 100, 0, (0, 0, 0))], [(2, .inl (0, 0, 0)), (0, .inr (0, 65)), (1, .inl (0, 1, 0))], [], [((1, 1), .inl (0, 0)), ((65, 1), .inr (0, 1))], 101, 0, 0), 0, 2)]
set_option maxRecDepth 100000 in
theorem ck_k318 (l : Launch) (D : va_G) (st : Nat → Nat) : ck_Mt l D st ck_c318 := ck_sound (T := ck_T2) (cs := [ck_c317]) (hs := ck_h318) (sp := []) (fuel := 34) l ck_TSgood ck_okCl (ck_own (M0 := ck_m132) rfl rfl ck_okT2) (ck_cons (ck_k317 l D st) ck_nil) (by decide +kernel)
/-- SL$Lineup.pairsOtherwise -/
def ck_c319 : ck_C := (134, 101, [.inr (0, 65), .inr (0, 59)], [((1, 1), .inl (0, 0)), ((65, 1), .inr (0, 1))], [], [(some (.inl (0, 0)), [], [], 101)], 0, 0, 0, 0)
def ck_h319 : List ck_Hd := [(4, ([], [(3, .inl (0, 0, 1)), (2, .inl (0, 0, 0)), (0, .inr (0, 65)), (1, .inr (0, 59))], [], [((1, 1), .inl (0, 0)), ((65, 1), .inr (0, 1))], 101, 0, 0), 0, 2)]
set_option maxRecDepth 100000 in
theorem ck_k319 (l : Launch) (D : va_G) (st : Nat → Nat) : ck_Mt l D st ck_c319 := ck_sound (T := ck_T2) (cs := []) (hs := ck_h319) (sp := []) (fuel := 35) l ck_TSgood ck_okCl (ck_own (M0 := ck_m134) rfl rfl ck_okT2) ck_nil (by decide +kernel)
end
section
/-- java/util/Arrays.fill -/
def ck_c320 : ck_C := (9, 101, [.inr (0, 67), .inl (0, 0)], [((67, 0), .inl (0, 0))], [(67, 0)], [(none, [(0, 0)], [((67, 0), .inl (0, 0))], 101)], 0, 0, 0, 0)
def ck_h320 : List ck_Hd := [(5, ([(0, 0, 0, (0, 0, 0)), (0, 12, 0, (0, 0, 0))], [(3, .inl (0, 0, 12)), (2, .inl (1, 1, 0)), (0, .inr (0, 67)), (1, .inl (0, 1, 0))], [], [((67, 0), .inl (0, 0))], 101, 0, 0), 1, 0)]
set_option maxRecDepth 100000 in
theorem ck_k320 (l : Launch) (D : va_G) (st : Nat → Nat) : ck_Mt l D st ck_c320 := ck_sound (T := ck_T15) (cs := []) (hs := ck_h320) (sp := []) (fuel := 39) l ck_TSgood ck_okCl (ck_own (M0 := ck_m9) rfl rfl ck_okT15) ck_nil (by decide +kernel)
/-- java/util/Arrays.fill -/
def ck_c321 : ck_C := (9, 101, [.inr (0, 68), .inl (0, 0)], [((68, 0), .inl (0, 0))], [(68, 0)], [(none, [(0, 0)], [((68, 0), .inl (0, 0))], 101)], 0, 0, 0, 0)
def ck_h321 : List ck_Hd := [(5, ([(0, 0, 0, (0, 0, 0)), (0, 12, 0, (0, 0, 0))], [(3, .inl (0, 0, 12)), (2, .inl (1, 1, 0)), (0, .inr (0, 68)), (1, .inl (0, 1, 0))], [], [((68, 0), .inl (0, 0))], 101, 0, 0), 1, 0)]
set_option maxRecDepth 100000 in
theorem ck_k321 (l : Launch) (D : va_G) (st : Nat → Nat) : ck_Mt l D st ck_c321 := ck_sound (T := ck_T15) (cs := []) (hs := ck_h321) (sp := []) (fuel := 39) l ck_TSgood ck_okCl (ck_own (M0 := ck_m9) rfl rfl ck_okT15) ck_nil (by decide +kernel)
/-- SL$Lineup.byGrooves -/
def ck_c322 : ck_C := (135, 101, [.inr (0, 65)], [((1, 1), .inl (0, 0)), ((1, 15), .inl (0, 0)), ((65, 1), .inr (0, 1)), ((65, 4), .inr (0, 67)), ((65, 5), .inr (0, 68)), ((67, 0), .inl (0, 0)), ((68, 0), .inl (0, 0))], [(67, 0), (68, 0)], [(none, [], [((67, 0), .inl (0, 0)), ((68, 0), .inl (0, 0))], 101)], 1, 23, 0, 0)
def ck_h322 : List ck_Hd := [(18, ([], [(1, .inl (0, 0, 0)), (0, .inr (0, 65))], [], [((1, 1), .inl (0, 0)), ((1, 15), .inl (0, 0)), ((65, 1), .inr (0, 1)), ((65, 4), .inr (0, 67)), ((65, 5), .inr (0, 68)), ((67, 0), .inl (0, 0)), ((68, 0), .inl (0, 0))], 101, 0, 0), 0, 2), (109, ([], [(1, .inl (0, 0, 0)), (0, .inr (0, 65))], [], [((1, 1), .inl (0, 0)), ((1, 15), .inl (0, 0)), ((65, 1), .inr (0, 1)), ((65, 4), .inr (0, 67)), ((65, 5), .inr (0, 68)), ((67, 0), .inl (0, 0)), ((68, 0), .inl (0, 0))], 101, 0, 0), 0, 2)]
set_option maxRecDepth 100000 in
theorem ck_k322 (l : Launch) (D : va_G) (st : Nat → Nat) : ck_Mt l D st ck_c322 := ck_sound (T := ck_T2) (cs := [ck_c320, ck_c321, ck_c317]) (hs := ck_h322) (sp := []) (fuel := 49) l ck_TSgood ck_okCl (ck_own (M0 := ck_m135) rfl rfl ck_okT2) (ck_cons (ck_k320 l D st) (ck_cons (ck_k321 l D st) (ck_cons (ck_k317 l D st) ck_nil))) (by decide +kernel)
/-- SL.otherwise -/
def ck_c323 : ck_C := (131, 101, [.inr (0, 0), .inl ((-2147483648), 2147483647)], [((0, 8), .inr (0, 59)), ((0, 9), .inr (0, 65)), ((1, 1), .inl (0, 0)), ((1, 15), .inl (0, 0)), ((65, 1), .inr (0, 1)), ((65, 4), .inr (0, 67)), ((65, 5), .inr (0, 68)), ((67, 0), .inl (0, 0)), ((68, 0), .inl (0, 0))], [(67, 0), (68, 0)], [(some (.inl ((-1), (-1))), [((-2147483648), (-1))], [((67, 0), .inl (0, 0)), ((68, 0), .inl (0, 0))], 101), (some (.inl ((-1), (-1))), [(101, 2147483647)], [((67, 0), .inl (0, 0)), ((68, 0), .inl (0, 0))], 101), (some (.inl (0, 0)), [(1, 100)], [((67, 0), .inl (0, 0)), ((68, 0), .inl (0, 0))], 101), (some (.inl (0, 0)), [(0, 0)], [((67, 0), .inl (0, 0)), ((68, 0), .inl (0, 0))], 101)], 2, 45, 0, 0)
def ck_h323 : List ck_Hd := []
set_option maxRecDepth 100000 in
theorem ck_k323 (l : Launch) (D : va_G) (st : Nat → Nat) : ck_Mt l D st ck_c323 := ck_sound (T := ck_T0) (cs := [ck_c115, ck_c318, ck_c319, ck_c322]) (hs := ck_h323) (sp := []) (fuel := 41) l ck_TSgood ck_okCl (ck_own (M0 := ck_m131) rfl rfl ck_okT0) (ck_cons (ck_k115 l D st) (ck_cons (ck_k318 l D st) (ck_cons (ck_k319 l D st) (ck_cons (ck_k322 l D st) ck_nil)))) (by decide +kernel)
/-- SLModel.otherwise -/
def ck_c324 : ck_C := (136, 101, [.inr (0, 77), .inl ((-2147483648), (-1))], [], [], [(some (.inl ((-1), (-1))), [((-2147483648), (-1))], [], 101)], 1, 22, 0, 0)
def ck_h324 : List ck_Hd := []
set_option maxRecDepth 100000 in
theorem ck_k324 (l : Launch) (D : va_G) (st : Nat → Nat) : ck_Mt l D st ck_c324 := ck_sound (T := ck_T13) (cs := [ck_c119]) (hs := ck_h324) (sp := []) (fuel := 31) l ck_TSgood ck_okCl (ck_own (M0 := ck_m136) rfl rfl ck_okT13) (ck_cons (ck_k119 l D st) ck_nil) (by decide +kernel)
/-- SLModel.otherwise -/
def ck_c325 : ck_C := (136, 101, [.inr (0, 77), .inl (101, 2147483647)], [], [], [(some (.inl ((-1), (-1))), [(101, 2147483647)], [], 101)], 1, 22, 0, 0)
def ck_h325 : List ck_Hd := []
set_option maxRecDepth 100000 in
theorem ck_k325 (l : Launch) (D : va_G) (st : Nat → Nat) : ck_Mt l D st ck_c325 := ck_sound (T := ck_T13) (cs := [ck_c121]) (hs := ck_h325) (sp := []) (fuel := 31) l ck_TSgood ck_okCl (ck_own (M0 := ck_m136) rfl rfl ck_okT13) (ck_cons (ck_k121 l D st) ck_nil) (by decide +kernel)
/-- SLModel.in -/
def ck_c326 : ck_C := (21, 101, [.inl (1, 100), .inl (0, 0), .inl (100, 100)], [], [], [(some (.inl (1, 1)), [(1, 100), (0, 0), (100, 100)], [], 101)], 0, 0, 0, 0)
def ck_h326 : List ck_Hd := []
set_option maxRecDepth 100000 in
theorem ck_k326 (l : Launch) (D : va_G) (st : Nat → Nat) : ck_Mt l D st ck_c326 := ck_sound (T := ck_T13) (cs := []) (hs := ck_h326) (sp := []) (fuel := 33) l ck_TSgood ck_okCl (ck_own (M0 := ck_m21) rfl rfl ck_okT13) ck_nil (by decide +kernel)
/-- SLModel.otherwise -/
def ck_c327 : ck_C := (136, 101, [.inr (0, 77), .inl (1, 100)], [((77, 2), .inr (0, 78)), ((77, 30), .inl ((-1), (-1))), ((78, 1293), .inl (0, 0))], [], [(some (.inl (0, 0)), [(1, 100)], [], 101)], 2, 42, 0, 0)
def ck_h327 : List ck_Hd := [(32, ([(1, 100, 0, (0, 0, 0))], [(3, .inl (0, 0, 0)), (2, .inl (0, 0, 0)), (0, .inr (0, 77)), (1, .inl (0, 1, 0))], [], [((77, 2), .inr (0, 78)), ((77, 30), .inl ((-1), (-1))), ((78, 1293), .inl (0, 0))], 101, 0, 0), 0, 2)]
set_option maxRecDepth 100000 in
theorem ck_k327 (l : Launch) (D : va_G) (st : Nat → Nat) : ck_Mt l D st ck_c327 := ck_sound (T := ck_T13) (cs := [ck_c326, ck_c308]) (hs := ck_h327) (sp := []) (fuel := 44) l ck_TSgood ck_okCl (ck_own (M0 := ck_m136) rfl rfl ck_okT13) (ck_cons (ck_k326 l D st) (ck_cons (ck_k308 l D st) ck_nil)) (by decide +kernel)
/-- SLModel.in -/
def ck_c328 : ck_C := (21, 101, [.inl (0, 0), .inl (0, 0), .inl (100, 100)], [], [], [(some (.inl (1, 1)), [(0, 0), (0, 0), (100, 100)], [], 101)], 0, 0, 0, 0)
def ck_h328 : List ck_Hd := []
set_option maxRecDepth 100000 in
theorem ck_k328 (l : Launch) (D : va_G) (st : Nat → Nat) : ck_Mt l D st ck_c328 := ck_sound (T := ck_T13) (cs := []) (hs := ck_h328) (sp := []) (fuel := 33) l ck_TSgood ck_okCl (ck_own (M0 := ck_m21) rfl rfl ck_okT13) ck_nil (by decide +kernel)
/-- SLModel.otherwise -/
def ck_c329 : ck_C := (136, 101, [.inr (0, 77), .inl (0, 0)], [((77, 2), .inr (0, 78)), ((77, 30), .inl ((-1), (-1))), ((78, 1293), .inl (0, 0))], [], [(some (.inl (0, 0)), [(0, 0)], [], 101)], 2, 44, 0, 0)
def ck_h329 : List ck_Hd := [(32, ([(0, 0, 0, (0, 0, 0))], [(3, .inl (0, 0, 0)), (2, .inl (0, 0, 0)), (0, .inr (0, 77)), (1, .inl (0, 1, 0))], [], [((77, 2), .inr (0, 78)), ((77, 30), .inl ((-1), (-1))), ((78, 1293), .inl (0, 0))], 101, 0, 0), 0, 2)]
set_option maxRecDepth 100000 in
theorem ck_k329 (l : Launch) (D : va_G) (st : Nat → Nat) : ck_Mt l D st ck_c329 := ck_sound (T := ck_T13) (cs := [ck_c328, ck_c314]) (hs := ck_h329) (sp := []) (fuel := 44) l ck_TSgood ck_okCl (ck_own (M0 := ck_m136) rfl rfl ck_okT13) (ck_cons (ck_k328 l D st) (ck_cons (ck_k314 l D st) ck_nil)) (by decide +kernel)
/-- SL.shapes -/
def ck_c330 : ck_C := (137, 101, [.inr (0, 0), .inl ((-2147483648), 2147483647), .inl ((-2147483648), 2147483647)], [((0, 1), .inr (0, 1)), ((1, 1), .inl (0, 0))], [], [(some (.inl ((-1), (-1))), [((-2147483648), (-1)), ((-2147483648), 2147483647)], [], 101), (some (.inl ((-1), (-1))), [(0, 2147483647), ((-2147483648), 2147483647)], [], 101)], 2, 43, 0, 0)
def ck_h330 : List ck_Hd := []
set_option maxRecDepth 100000 in
theorem ck_k330 (l : Launch) (D : va_G) (st : Nat → Nat) : ck_Mt l D st ck_c330 := ck_sound (T := ck_T0) (cs := [ck_c49]) (hs := ck_h330) (sp := []) (fuel := 31) l ck_TSgood ck_okCl (ck_own (M0 := ck_m137) rfl rfl ck_okT0) (ck_cons (ck_k49 l D st) ck_nil) (by decide +kernel)
/-- SLModel.shapes -/
def ck_c331 : ck_C := (138, 101, [.inr (0, 77), .inl ((-2147483648), (-1)), .inl ((-2147483648), 2147483647)], [((77, 2), .inr (0, 78)), ((78, 1293), .inl (0, 0))], [], [(some (.inl ((-1), (-1))), [((-2147483648), (-1)), ((-2147483648), 2147483647)], [], 101)], 2, 43, 0, 0)
def ck_h331 : List ck_Hd := []
set_option maxRecDepth 100000 in
theorem ck_k331 (l : Launch) (D : va_G) (st : Nat → Nat) : ck_Mt l D st ck_c331 := ck_sound (T := ck_T13) (cs := [ck_c68]) (hs := ck_h331) (sp := []) (fuel := 30) l ck_TSgood ck_okCl (ck_own (M0 := ck_m138) rfl rfl ck_okT13) (ck_cons (ck_k68 l D st) ck_nil) (by decide +kernel)
/-- SLModel.shapes -/
def ck_c332 : ck_C := (138, 101, [.inr (0, 77), .inl (0, 2147483647), .inl ((-2147483648), 2147483647)], [((77, 2), .inr (0, 78)), ((78, 1293), .inl (0, 0))], [], [(some (.inl ((-1), (-1))), [(0, 2147483647), ((-2147483648), 2147483647)], [], 101)], 2, 43, 0, 0)
def ck_h332 : List ck_Hd := []
set_option maxRecDepth 100000 in
theorem ck_k332 (l : Launch) (D : va_G) (st : Nat → Nat) : ck_Mt l D st ck_c332 := ck_sound (T := ck_T13) (cs := [ck_c72]) (hs := ck_h332) (sp := []) (fuel := 30) l ck_TSgood ck_okCl (ck_own (M0 := ck_m138) rfl rfl ck_okT13) (ck_cons (ck_k72 l D st) ck_nil) (by decide +kernel)
/-- SL.slips -/
def ck_c333 : ck_C := (139, 101, [.inr (0, 0), .inl ((-2147483648), 2147483647), .inl ((-2147483648), 2147483647)], [((0, 1), .inr (0, 1)), ((1, 15), .inl (0, 0))], [], [(some (.inl ((-1), (-1))), [((-2147483648), (-1)), ((-2147483648), 2147483647)], [], 101), (some (.inl ((-1), (-1))), [(4, 2147483647), ((-2147483648), 2147483647)], [], 101), (some (.inl ((-1), (-1))), [(0, 3), ((-2147483648), (-1))], [], 101), (some (.inl ((-1), (-1))), [(0, 3), (2, 2147483647)], [], 101), (some (.inl (0, 0)), [(0, 3), (0, 1)], [], 101)], 2, 42, 0, 0)
def ck_h333 : List ck_Hd := [(23, ([(0, 3, 0, (0, 0, 0)), (0, 1, 0, (0, 0, 0))], [(4, .inl (0, 0, 0)), (3, .inl (0, 0, 0)), (0, .inr (0, 0)), (1, .inl (0, 1, 0)), (2, .inl (1, 1, 0))], [], [((0, 1), .inr (0, 1)), ((1, 15), .inl (0, 0))], 101, 0, 0), 0, 2)]
set_option maxRecDepth 100000 in
theorem ck_k333 (l : Launch) (D : va_G) (st : Nat → Nat) : ck_Mt l D st ck_c333 := ck_sound (T := ck_T0) (cs := [ck_c114, ck_c281]) (hs := ck_h333) (sp := []) (fuel := 43) l ck_TSgood ck_okCl (ck_own (M0 := ck_m139) rfl rfl ck_okT0) (ck_cons (ck_k114 l D st) (ck_cons (ck_k281 l D st) ck_nil)) (by decide +kernel)
/-- SLModel.slips -/
def ck_c334 : ck_C := (140, 101, [.inr (0, 77), .inl ((-2147483648), (-1)), .inl ((-2147483648), 2147483647)], [], [], [(some (.inl ((-1), (-1))), [((-2147483648), (-1)), ((-2147483648), 2147483647)], [], 101)], 1, 22, 0, 0)
def ck_h334 : List ck_Hd := []
set_option maxRecDepth 100000 in
theorem ck_k334 (l : Launch) (D : va_G) (st : Nat → Nat) : ck_Mt l D st ck_c334 := ck_sound (T := ck_T13) (cs := [ck_c57]) (hs := ck_h334) (sp := []) (fuel := 31) l ck_TSgood ck_okCl (ck_own (M0 := ck_m140) rfl rfl ck_okT13) (ck_cons (ck_k57 l D st) ck_nil) (by decide +kernel)
/-- SLModel.slips -/
def ck_c335 : ck_C := (140, 101, [.inr (0, 77), .inl (4, 2147483647), .inl ((-2147483648), 2147483647)], [], [], [(some (.inl ((-1), (-1))), [(4, 2147483647), ((-2147483648), 2147483647)], [], 101)], 1, 22, 0, 0)
def ck_h335 : List ck_Hd := []
set_option maxRecDepth 100000 in
theorem ck_k335 (l : Launch) (D : va_G) (st : Nat → Nat) : ck_Mt l D st ck_c335 := ck_sound (T := ck_T13) (cs := [ck_c59]) (hs := ck_h335) (sp := []) (fuel := 31) l ck_TSgood ck_okCl (ck_own (M0 := ck_m140) rfl rfl ck_okT13) (ck_cons (ck_k59 l D st) ck_nil) (by decide +kernel)
/-- SLModel.slips -/
def ck_c336 : ck_C := (140, 101, [.inr (0, 77), .inl (0, 3), .inl ((-2147483648), (-1))], [], [], [(some (.inl ((-1), (-1))), [(0, 3), ((-2147483648), (-1))], [], 101)], 1, 22, 0, 0)
def ck_h336 : List ck_Hd := []
set_option maxRecDepth 100000 in
theorem ck_k336 (l : Launch) (D : va_G) (st : Nat → Nat) : ck_Mt l D st ck_c336 := ck_sound (T := ck_T13) (cs := [ck_c61, ck_c295]) (hs := ck_h336) (sp := []) (fuel := 36) l ck_TSgood ck_okCl (ck_own (M0 := ck_m140) rfl rfl ck_okT13) (ck_cons (ck_k61 l D st) (ck_cons (ck_k295 l D st) ck_nil)) (by decide +kernel)
/-- SLModel.slips -/
def ck_c337 : ck_C := (140, 101, [.inr (0, 77), .inl (0, 3), .inl (2, 2147483647)], [], [], [(some (.inl ((-1), (-1))), [(0, 3), (2, 2147483647)], [], 101)], 1, 22, 0, 0)
def ck_h337 : List ck_Hd := []
set_option maxRecDepth 100000 in
theorem ck_k337 (l : Launch) (D : va_G) (st : Nat → Nat) : ck_Mt l D st ck_c337 := ck_sound (T := ck_T13) (cs := [ck_c61, ck_c297]) (hs := ck_h337) (sp := []) (fuel := 36) l ck_TSgood ck_okCl (ck_own (M0 := ck_m140) rfl rfl ck_okT13) (ck_cons (ck_k61 l D st) (ck_cons (ck_k297 l D st) ck_nil)) (by decide +kernel)
/-- SLModel.slips -/
def ck_c338 : ck_C := (140, 101, [.inr (0, 77), .inl (0, 3), .inl (0, 1)], [((77, 2), .inr (0, 78)), ((78, 1294), .inl (0, 0))], [], [(some (.inl (0, 0)), [(0, 3), (0, 1)], [], 101)], 1, 22, 0, 0)
def ck_h338 : List ck_Hd := [(25, ([(0, 3, 0, (0, 0, 0)), (0, 1, 0, (0, 0, 0))], [(4, .inl (0, 0, 0)), (3, .inl (0, 0, 0)), (0, .inr (0, 77)), (1, .inl (0, 1, 0)), (2, .inl (1, 1, 0))], [], [((77, 2), .inr (0, 78)), ((78, 1294), .inl (0, 0))], 101, 0, 0), 0, 2)]
set_option maxRecDepth 100000 in
theorem ck_k338 (l : Launch) (D : va_G) (st : Nat → Nat) : ck_Mt l D st ck_c338 := ck_sound (T := ck_T13) (cs := [ck_c61, ck_c302]) (hs := ck_h338) (sp := []) (fuel := 46) l ck_TSgood ck_okCl (ck_own (M0 := ck_m140) rfl rfl ck_okT13) (ck_cons (ck_k61 l D st) (ck_cons (ck_k302 l D st) ck_nil)) (by decide +kernel)
/-- SL.glass -/
def ck_c339 : ck_C := (141, 101, [.inr (0, 0), .inl ((-2147483648), 2147483647), .inl ((-2147483648), 2147483647), .inl ((-2147483648), 2147483647)], [((0, 1), .inr (0, 1)), ((1, 1), .inl (0, 0))], [], [(some (.inl ((-1), (-1))), [((-2147483648), (-1)), ((-2147483648), 2147483647), ((-2147483648), 2147483647)], [], 101), (some (.inl ((-1), (-1))), [(0, 2147483647), ((-2147483648), 2147483647), ((-2147483648), 2147483647)], [], 101)], 3, 65, 0, 0)
def ck_h339 : List ck_Hd := []
set_option maxRecDepth 100000 in
theorem ck_k339 (l : Launch) (D : va_G) (st : Nat → Nat) : ck_Mt l D st ck_c339 := ck_sound (T := ck_T0) (cs := [ck_c234]) (hs := ck_h339) (sp := []) (fuel := 31) l ck_TSgood ck_okCl (ck_own (M0 := ck_m141) rfl rfl ck_okT0) (ck_cons (ck_k234 l D st) ck_nil) (by decide +kernel)
/-- SLModel.glass -/
def ck_c340 : ck_C := (142, 101, [.inr (0, 77), .inl ((-2147483648), (-1)), .inl ((-2147483648), 2147483647), .inl ((-2147483648), 2147483647)], [((77, 2), .inr (0, 78)), ((78, 1293), .inl (0, 0))], [], [(some (.inl ((-1), (-1))), [((-2147483648), (-1)), ((-2147483648), 2147483647), ((-2147483648), 2147483647)], [], 101)], 2, 43, 0, 0)
def ck_h340 : List ck_Hd := []
set_option maxRecDepth 100000 in
theorem ck_k340 (l : Launch) (D : va_G) (st : Nat → Nat) : ck_Mt l D st ck_c340 := ck_sound (T := ck_T13) (cs := [ck_c68]) (hs := ck_h340) (sp := []) (fuel := 30) l ck_TSgood ck_okCl (ck_own (M0 := ck_m142) rfl rfl ck_okT13) (ck_cons (ck_k68 l D st) ck_nil) (by decide +kernel)
/-- SLModel.glass -/
def ck_c341 : ck_C := (142, 101, [.inr (0, 77), .inl (0, 2147483647), .inl ((-2147483648), 2147483647), .inl ((-2147483648), 2147483647)], [((77, 2), .inr (0, 78)), ((78, 1293), .inl (0, 0))], [], [(some (.inl ((-1), (-1))), [(0, 2147483647), ((-2147483648), 2147483647), ((-2147483648), 2147483647)], [], 101)], 2, 43, 0, 0)
def ck_h341 : List ck_Hd := []
set_option maxRecDepth 100000 in
theorem ck_k341 (l : Launch) (D : va_G) (st : Nat → Nat) : ck_Mt l D st ck_c341 := ck_sound (T := ck_T13) (cs := [ck_c72]) (hs := ck_h341) (sp := []) (fuel := 30) l ck_TSgood ck_okCl (ck_own (M0 := ck_m142) rfl rfl ck_okT13) (ck_cons (ck_k72 l D st) ck_nil) (by decide +kernel)
/-- SL.within -/
def ck_c342 : ck_C := (16, 101, [.inl (0, 0), .inl (1, 1), .inl (8, 8)], [], [], [(some (.inl (0, 0)), [(0, 0), (1, 1), (8, 8)], [], 101)], 0, 0, 0, 0)
def ck_h342 : List ck_Hd := []
set_option maxRecDepth 100000 in
theorem ck_k342 (l : Launch) (D : va_G) (st : Nat → Nat) : ck_Mt l D st ck_c342 := ck_sound (T := ck_T0) (cs := []) (hs := ck_h342) (sp := []) (fuel := 29) l ck_TSgood ck_okCl (ck_own (M0 := ck_m16) rfl rfl ck_okT0) ck_nil (by decide +kernel)
/-- SL.called -/
def ck_c343 : ck_C := (143, 101, [.inr (0, 0), .inl ((-2147483648), 2147483647)], [((0, 1), .inr (0, 1)), ((1, 1), .inl (0, 0))], [], [(some (.inl ((-1), (-1))), [((-2147483648), (-1))], [], 101), (some (.inl ((-1), (-1))), [(3, 2147483647)], [], 101), (some (.inl ((-1), (-1))), [(0, 2)], [], 101)], 1, 22, 0, 0)
def ck_h343 : List ck_Hd := []
set_option maxRecDepth 100000 in
theorem ck_k343 (l : Launch) (D : va_G) (st : Nat → Nat) : ck_Mt l D st ck_c343 := ck_sound (T := ck_T0) (cs := [ck_c44, ck_c342]) (hs := ck_h343) (sp := []) (fuel := 38) l ck_TSgood ck_okCl (ck_own (M0 := ck_m143) rfl rfl ck_okT0) (ck_cons (ck_k44 l D st) (ck_cons (ck_k342 l D st) ck_nil)) (by decide +kernel)
/-- SLModel.called -/
def ck_c344 : ck_C := (144, 101, [.inr (0, 77), .inl ((-2147483648), (-1))], [((77, 2), .inr (0, 78)), ((78, 1293), .inl (0, 0))], [], [(some (.inl ((-1), (-1))), [((-2147483648), (-1))], [], 101)], 1, 22, 0, 0)
def ck_h344 : List ck_Hd := []
set_option maxRecDepth 100000 in
theorem ck_k344 (l : Launch) (D : va_G) (st : Nat → Nat) : ck_Mt l D st ck_c344 := ck_sound (T := ck_T13) (cs := [ck_c41, ck_c52]) (hs := ck_h344) (sp := []) (fuel := 34) l ck_TSgood ck_okCl (ck_own (M0 := ck_m144) rfl rfl ck_okT13) (ck_cons (ck_k41 l D st) (ck_cons (ck_k52 l D st) ck_nil)) (by decide +kernel)
/-- SLModel.called -/
def ck_c345 : ck_C := (144, 101, [.inr (0, 77), .inl (3, 2147483647)], [((77, 2), .inr (0, 78)), ((78, 1293), .inl (0, 0))], [], [(some (.inl ((-1), (-1))), [(3, 2147483647)], [], 101)], 1, 22, 0, 0)
def ck_h345 : List ck_Hd := []
set_option maxRecDepth 100000 in
theorem ck_k345 (l : Launch) (D : va_G) (st : Nat → Nat) : ck_Mt l D st ck_c345 := ck_sound (T := ck_T13) (cs := [ck_c41, ck_c54]) (hs := ck_h345) (sp := []) (fuel := 34) l ck_TSgood ck_okCl (ck_own (M0 := ck_m144) rfl rfl ck_okT13) (ck_cons (ck_k41 l D st) (ck_cons (ck_k54 l D st) ck_nil)) (by decide +kernel)
/-- SLModel.in -/
def ck_c346 : ck_C := (21, 101, [.inl (0, 0), .inl (1, 1), .inl (8, 8)], [], [], [(some (.inl (0, 0)), [(0, 0), (1, 1), (8, 8)], [], 101)], 0, 0, 0, 0)
def ck_h346 : List ck_Hd := []
set_option maxRecDepth 100000 in
theorem ck_k346 (l : Launch) (D : va_G) (st : Nat → Nat) : ck_Mt l D st ck_c346 := ck_sound (T := ck_T13) (cs := []) (hs := ck_h346) (sp := []) (fuel := 29) l ck_TSgood ck_okCl (ck_own (M0 := ck_m21) rfl rfl ck_okT13) ck_nil (by decide +kernel)
/-- SLModel.called -/
def ck_c347 : ck_C := (144, 101, [.inr (0, 77), .inl (0, 2)], [((77, 2), .inr (0, 78)), ((78, 1293), .inl (0, 0))], [], [(some (.inl ((-1), (-1))), [(0, 2)], [], 101)], 1, 22, 0, 0)
def ck_h347 : List ck_Hd := []
set_option maxRecDepth 100000 in
theorem ck_k347 (l : Launch) (D : va_G) (st : Nat → Nat) : ck_Mt l D st ck_c347 := ck_sound (T := ck_T13) (cs := [ck_c41, ck_c56, ck_c346]) (hs := ck_h347) (sp := []) (fuel := 39) l ck_TSgood ck_okCl (ck_own (M0 := ck_m144) rfl rfl ck_okT13) (ck_cons (ck_k41 l D st) (ck_cons (ck_k56 l D st) (ck_cons (ck_k346 l D st) ck_nil))) (by decide +kernel)
/-- SL.lose -/
def ck_c348 : ck_C := (145, 101, [.inr (0, 0)], [((0, 1), .inr (0, 1)), ((1, 15), .inl (0, 0))], [], [(some (.inl (0, 0)), [], [], 101)], 0, 0, 0, 0)
def ck_h348 : List ck_Hd := [(4, ([], [(2, .inl (0, 0, 0)), (1, .inl (0, 0, 0)), (0, .inr (0, 0))], [], [((0, 1), .inr (0, 1)), ((1, 15), .inl (0, 0))], 101, 0, 0), 0, 2)]
set_option maxRecDepth 100000 in
theorem ck_k348 (l : Launch) (D : va_G) (st : Nat → Nat) : ck_Mt l D st ck_c348 := ck_sound (T := ck_T0) (cs := []) (hs := ck_h348) (sp := []) (fuel := 35) l ck_TSgood ck_okCl (ck_own (M0 := ck_m145) rfl rfl ck_okT0) ck_nil (by decide +kernel)
/-- SLModel.lose -/
def ck_c349 : ck_C := (146, 101, [.inr (0, 77)], [((77, 2), .inr (0, 78)), ((78, 1294), .inl (0, 0))], [], [(some (.inl (0, 0)), [], [], 101)], 0, 0, 0, 0)
def ck_h349 : List ck_Hd := [(4, ([], [(2, .inl (0, 0, 0)), (1, .inl (0, 0, 0)), (0, .inr (0, 77))], [], [((77, 2), .inr (0, 78)), ((78, 1294), .inl (0, 0))], 101, 0, 0), 0, 2)]
set_option maxRecDepth 100000 in
theorem ck_k349 (l : Launch) (D : va_G) (st : Nat → Nat) : ck_Mt l D st ck_c349 := ck_sound (T := ck_T13) (cs := []) (hs := ck_h349) (sp := []) (fuel := 36) l ck_TSgood ck_okCl (ck_own (M0 := ck_m146) rfl rfl ck_okT13) ck_nil (by decide +kernel)
/-- SL.within -/
def ck_c350 : ck_C := (16, 101, [.inl ((-2147483648), 0), .inl (0, 0), .inl (1, 1)], [], [], [(some (.inl (0, 0)), [((-2147483648), (-1)), (0, 0), (1, 1)], [], 101), (some (.inl (1, 1)), [(0, 0), (0, 0), (1, 1)], [], 101)], 0, 0, 0, 0)
def ck_h350 : List ck_Hd := []
set_option maxRecDepth 100000 in
theorem ck_k350 (l : Launch) (D : va_G) (st : Nat → Nat) : ck_Mt l D st ck_c350 := ck_sound (T := ck_T0) (cs := []) (hs := ck_h350) (sp := []) (fuel := 33) l ck_TSgood ck_okCl (ck_own (M0 := ck_m16) rfl rfl ck_okT0) ck_nil (by decide +kernel)
/-- SL$Bench.copyRow -/
def ck_c351 : ck_C := (149, 101, [.inr (0, 2), .inr (0, 17)], [((2, 0), .inl (0, 0)), ((17, 0), .inl (0, 0))], [(17, 0)], [(none, [], [((17, 0), .inl (0, 0))], 101)], 1, 41, 0, 0)
def ck_h351 : List ck_Hd := []
set_option maxRecDepth 100000 in
theorem ck_k351 (l : Launch) (D : va_G) (st : Nat → Nat) : ck_Mt l D st ck_c351 := ck_sound (T := ck_T1) (cs := []) (hs := ck_h351) (sp := []) (fuel := 35) l ck_TSgood ck_okCl (ck_own (M0 := ck_m149) rfl rfl ck_okT1) ck_nil (by decide +kernel)
/-- SL$Bench.copyRow -/
def ck_c352 : ck_C := (149, 101, [.inr (0, 3), .inr (0, 18)], [((3, 0), .inl (0, 0)), ((18, 0), .inl (0, 0))], [(18, 0)], [(none, [], [((18, 0), .inl (0, 0))], 101)], 1, 41, 0, 0)
def ck_h352 : List ck_Hd := []
set_option maxRecDepth 100000 in
theorem ck_k352 (l : Launch) (D : va_G) (st : Nat → Nat) : ck_Mt l D st ck_c352 := ck_sound (T := ck_T1) (cs := []) (hs := ck_h352) (sp := []) (fuel := 35) l ck_TSgood ck_okCl (ck_own (M0 := ck_m149) rfl rfl ck_okT1) ck_nil (by decide +kernel)
/-- SL$Bench.copyRow -/
def ck_c353 : ck_C := (149, 101, [.inr (0, 4), .inr (0, 19)], [((4, 0), .inl (0, 0)), ((19, 0), .inl (0, 0))], [(19, 0)], [(none, [], [((19, 0), .inl (0, 0))], 101)], 1, 41, 0, 0)
def ck_h353 : List ck_Hd := []
set_option maxRecDepth 100000 in
theorem ck_k353 (l : Launch) (D : va_G) (st : Nat → Nat) : ck_Mt l D st ck_c353 := ck_sound (T := ck_T1) (cs := []) (hs := ck_h353) (sp := []) (fuel := 35) l ck_TSgood ck_okCl (ck_own (M0 := ck_m149) rfl rfl ck_okT1) ck_nil (by decide +kernel)
/-- SL$Bench.copyRow -/
def ck_c354 : ck_C := (149, 101, [.inr (0, 5), .inr (0, 20)], [((5, 0), .inl (0, 0)), ((20, 0), .inl (0, 0))], [(20, 0)], [(none, [], [((20, 0), .inl (0, 0))], 101)], 1, 41, 0, 0)
def ck_h354 : List ck_Hd := []
set_option maxRecDepth 100000 in
theorem ck_k354 (l : Launch) (D : va_G) (st : Nat → Nat) : ck_Mt l D st ck_c354 := ck_sound (T := ck_T1) (cs := []) (hs := ck_h354) (sp := []) (fuel := 35) l ck_TSgood ck_okCl (ck_own (M0 := ck_m149) rfl rfl ck_okT1) ck_nil (by decide +kernel)
/-- SL$Bench.copyRow -/
def ck_c355 : ck_C := (149, 101, [.inr (0, 6), .inr (0, 21)], [((6, 0), .inl (0, 0)), ((21, 0), .inl (0, 0))], [(21, 0)], [(none, [], [((21, 0), .inl (0, 0))], 101)], 1, 41, 0, 0)
def ck_h355 : List ck_Hd := []
set_option maxRecDepth 100000 in
theorem ck_k355 (l : Launch) (D : va_G) (st : Nat → Nat) : ck_Mt l D st ck_c355 := ck_sound (T := ck_T1) (cs := []) (hs := ck_h355) (sp := []) (fuel := 35) l ck_TSgood ck_okCl (ck_own (M0 := ck_m149) rfl rfl ck_okT1) ck_nil (by decide +kernel)
/-- SL$Bench.copyRow -/
def ck_c356 : ck_C := (149, 101, [.inr (0, 7), .inr (0, 22)], [((7, 0), .inl (0, 0)), ((22, 0), .inl (0, 0))], [(22, 0)], [(none, [], [((22, 0), .inl (0, 0))], 101)], 1, 41, 0, 0)
def ck_h356 : List ck_Hd := []
set_option maxRecDepth 100000 in
theorem ck_k356 (l : Launch) (D : va_G) (st : Nat → Nat) : ck_Mt l D st ck_c356 := ck_sound (T := ck_T1) (cs := []) (hs := ck_h356) (sp := []) (fuel := 35) l ck_TSgood ck_okCl (ck_own (M0 := ck_m149) rfl rfl ck_okT1) ck_nil (by decide +kernel)
/-- SL$Bench.copyRow -/
def ck_c357 : ck_C := (149, 101, [.inr (0, 8), .inr (0, 23)], [((8, 0), .inl (0, 0)), ((23, 0), .inl (0, 0))], [(23, 0)], [(none, [], [((23, 0), .inl (0, 0))], 101)], 1, 41, 0, 0)
def ck_h357 : List ck_Hd := []
set_option maxRecDepth 100000 in
theorem ck_k357 (l : Launch) (D : va_G) (st : Nat → Nat) : ck_Mt l D st ck_c357 := ck_sound (T := ck_T1) (cs := []) (hs := ck_h357) (sp := []) (fuel := 35) l ck_TSgood ck_okCl (ck_own (M0 := ck_m149) rfl rfl ck_okT1) ck_nil (by decide +kernel)
/-- SL$Bench.copyRow -/
def ck_c358 : ck_C := (149, 101, [.inr (0, 9), .inr (0, 24)], [((9, 0), .inl (0, 0)), ((24, 0), .inl (0, 0))], [(24, 0)], [(none, [], [((24, 0), .inl (0, 0))], 101)], 1, 41, 0, 0)
def ck_h358 : List ck_Hd := []
set_option maxRecDepth 100000 in
theorem ck_k358 (l : Launch) (D : va_G) (st : Nat → Nat) : ck_Mt l D st ck_c358 := ck_sound (T := ck_T1) (cs := []) (hs := ck_h358) (sp := []) (fuel := 35) l ck_TSgood ck_okCl (ck_own (M0 := ck_m149) rfl rfl ck_okT1) ck_nil (by decide +kernel)
/-- SL$Bench.copyRow -/
def ck_c359 : ck_C := (149, 101, [.inr (0, 14), .inr (0, 29)], [((14, 0), .inl (0, 0)), ((29, 0), .inl (0, 0))], [(29, 0)], [(none, [], [((29, 0), .inl (0, 0))], 101)], 1, 41, 0, 0)
def ck_h359 : List ck_Hd := []
set_option maxRecDepth 100000 in
theorem ck_k359 (l : Launch) (D : va_G) (st : Nat → Nat) : ck_Mt l D st ck_c359 := ck_sound (T := ck_T1) (cs := []) (hs := ck_h359) (sp := []) (fuel := 35) l ck_TSgood ck_okCl (ck_own (M0 := ck_m149) rfl rfl ck_okT1) ck_nil (by decide +kernel)
/-- SL$Bench.copyFrom -/
def ck_c360 : ck_C := (148, 101, [.inr (0, 16), .inr (0, 1)], [((1, 1), .inl (0, 0)), ((1, 2), .inr (0, 2)), ((1, 3), .inr (0, 3)), ((1, 4), .inr (0, 4)), ((1, 5), .inr (0, 5)), ((1, 6), .inr (0, 6)), ((1, 7), .inr (0, 7)), ((1, 8), .inr (0, 8)), ((1, 9), .inr (0, 9)), ((1, 10), .inl (0, 0)), ((1, 11), .inl ((-1), (-1))), ((1, 12), .inl (0, 0)), ((1, 13), .inr (0, 10)), ((1, 15), .inl (0, 0)), ((1, 16), .inr (0, 14)), ((1, 17), .inl (7, 7)), ((1, 18), .inl (15, 15)), ((1, 19), .inl (15, 15)), ((2, 0), .inl (0, 0)), ((3, 0), .inl (0, 0)), ((4, 0), .inl (0, 0)), ((5, 0), .inl (0, 0)), ((6, 0), .inl (0, 0)), ((7, 0), .inl (0, 0)), ((8, 0), .inl (0, 0)), ((9, 0), .inl (0, 0)), ((10, 0), .inr (1, 0)), ((14, 0), .inl (0, 0)), ((16, 2), .inr (0, 17)), ((16, 3), .inr (0, 18)), ((16, 4), .inr (0, 19)), ((16, 5), .inr (0, 20)), ((16, 6), .inr (0, 21)), ((16, 7), .inr (0, 22)), ((16, 8), .inr (0, 23)), ((16, 9), .inr (0, 24)), ((16, 13), .inr (0, 25)), ((16, 16), .inr (0, 29)), ((17, 0), .inl (0, 0)), ((18, 0), .inl (0, 0)), ((19, 0), .inl (0, 0)), ((20, 0), .inl (0, 0)), ((21, 0), .inl (0, 0)), ((22, 0), .inl (0, 0)), ((23, 0), .inl (0, 0)), ((24, 0), .inl (0, 0)), ((25, 0), .inr (1, 0)), ((29, 0), .inl (0, 0))], [(16, 1), (16, 10), (16, 11), (16, 12), (16, 15), (16, 17), (16, 18), (16, 19), (17, 0), (18, 0), (19, 0), (20, 0), (21, 0), (22, 0), (23, 0), (24, 0), (25, 0), (29, 0)], [(none, [], [((16, 1), .inl (0, 0)), ((16, 10), .inl (0, 0)), ((16, 11), .inl ((-1), (-1))), ((16, 12), .inl (0, 0)), ((16, 15), .inl (0, 0)), ((16, 17), .inl (7, 7)), ((16, 18), .inl (15, 15)), ((16, 19), .inl (15, 15)), ((17, 0), .inl (0, 0)), ((18, 0), .inl (0, 0)), ((19, 0), .inl (0, 0)), ((20, 0), .inl (0, 0)), ((21, 0), .inl (0, 0)), ((22, 0), .inl (0, 0)), ((23, 0), .inl (0, 0)), ((24, 0), .inl (0, 0)), ((25, 0), .inr (1, 0)), ((29, 0), .inl (0, 0))], 101)], 2, 62, 0, 0)
def ck_h360 : List ck_Hd := [(122, ([(0, 10, 0, (0, 0, 0))], [(2, .inl (0, 1, 0)), (0, .inr (0, 16)), (1, .inr (0, 1))], [], [((1, 1), .inl (0, 0)), ((1, 2), .inr (0, 2)), ((1, 3), .inr (0, 3)), ((1, 4), .inr (0, 4)), ((1, 5), .inr (0, 5)), ((1, 6), .inr (0, 6)), ((1, 7), .inr (0, 7)), ((1, 8), .inr (0, 8)), ((1, 9), .inr (0, 9)), ((1, 10), .inl (0, 0)), ((1, 11), .inl ((-1), (-1))), ((1, 12), .inl (0, 0)), ((1, 13), .inr (0, 10)), ((1, 15), .inl (0, 0)), ((1, 16), .inr (0, 14)), ((1, 17), .inl (7, 7)), ((1, 18), .inl (15, 15)), ((1, 19), .inl (15, 15)), ((2, 0), .inl (0, 0)), ((3, 0), .inl (0, 0)), ((4, 0), .inl (0, 0)), ((5, 0), .inl (0, 0)), ((6, 0), .inl (0, 0)), ((7, 0), .inl (0, 0)), ((8, 0), .inl (0, 0)), ((9, 0), .inl (0, 0)), ((10, 0), .inr (1, 0)), ((14, 0), .inl (0, 0)), ((16, 1), .inl (0, 0)), ((16, 2), .inr (0, 17)), ((16, 3), .inr (0, 18)), ((16, 4), .inr (0, 19)), ((16, 5), .inr (0, 20)), ((16, 6), .inr (0, 21)), ((16, 7), .inr (0, 22)), ((16, 8), .inr (0, 23)), ((16, 9), .inr (0, 24)), ((16, 10), .inl (0, 0)), ((16, 11), .inl ((-1), (-1))), ((16, 12), .inl (0, 0)), ((16, 13), .inr (0, 25)), ((16, 16), .inr (0, 29)), ((17, 0), .inl (0, 0)), ((18, 0), .inl (0, 0)), ((19, 0), .inl (0, 0)), ((20, 0), .inl (0, 0)), ((21, 0), .inl (0, 0)), ((22, 0), .inl (0, 0)), ((23, 0), .inl (0, 0)), ((24, 0), .inl (0, 0)), ((25, 0), .inr (1, 0)), ((29, 0), .inl (0, 0))], 101, 0, 0), 0, 0)]
set_option maxRecDepth 100000 in
theorem ck_k360 (l : Launch) (D : va_G) (st : Nat → Nat) : ck_Mt l D st ck_c360 := ck_sound (T := ck_T1) (cs := [ck_c351, ck_c352, ck_c353, ck_c354, ck_c355, ck_c356, ck_c357, ck_c358, ck_c359]) (hs := ck_h360) (sp := []) (fuel := 107) l ck_TSgood ck_okCl (ck_own (M0 := ck_m148) rfl rfl ck_okT1) (ck_cons (ck_k351 l D st) (ck_cons (ck_k352 l D st) (ck_cons (ck_k353 l D st) (ck_cons (ck_k354 l D st) (ck_cons (ck_k355 l D st) (ck_cons (ck_k356 l D st) (ck_cons (ck_k357 l D st) (ck_cons (ck_k358 l D st) (ck_cons (ck_k359 l D st) ck_nil))))))))) (by decide +kernel)
/-- SL.within -/
def ck_c361 : ck_C := (16, 101, [.inl (1, 2147483647), .inl (0, 0), .inl (1, 1)], [], [], [(some (.inl (0, 0)), [(2, 2147483647), (0, 0), (1, 1)], [], 101), (some (.inl (1, 1)), [(1, 1), (0, 0), (1, 1)], [], 101)], 0, 0, 0, 0)
def ck_h361 : List ck_Hd := []
set_option maxRecDepth 100000 in
theorem ck_k361 (l : Launch) (D : va_G) (st : Nat → Nat) : ck_Mt l D st ck_c361 := ck_sound (T := ck_T0) (cs := []) (hs := ck_h361) (sp := []) (fuel := 33) l ck_TSgood ck_okCl (ck_own (M0 := ck_m16) rfl rfl ck_okT0) ck_nil (by decide +kernel)
/-- SL$Bench.copyRow -/
def ck_c362 : ck_C := (149, 101, [.inr (0, 2), .inr (0, 31)], [((2, 0), .inl (0, 0)), ((31, 0), .inl (0, 0))], [(31, 0)], [(none, [], [((31, 0), .inl (0, 0))], 101)], 1, 41, 0, 0)
def ck_h362 : List ck_Hd := []
set_option maxRecDepth 100000 in
theorem ck_k362 (l : Launch) (D : va_G) (st : Nat → Nat) : ck_Mt l D st ck_c362 := ck_sound (T := ck_T1) (cs := []) (hs := ck_h362) (sp := []) (fuel := 35) l ck_TSgood ck_okCl (ck_own (M0 := ck_m149) rfl rfl ck_okT1) ck_nil (by decide +kernel)
/-- SL$Bench.copyRow -/
def ck_c363 : ck_C := (149, 101, [.inr (0, 3), .inr (0, 32)], [((3, 0), .inl (0, 0)), ((32, 0), .inl (0, 0))], [(32, 0)], [(none, [], [((32, 0), .inl (0, 0))], 101)], 1, 41, 0, 0)
def ck_h363 : List ck_Hd := []
set_option maxRecDepth 100000 in
theorem ck_k363 (l : Launch) (D : va_G) (st : Nat → Nat) : ck_Mt l D st ck_c363 := ck_sound (T := ck_T1) (cs := []) (hs := ck_h363) (sp := []) (fuel := 35) l ck_TSgood ck_okCl (ck_own (M0 := ck_m149) rfl rfl ck_okT1) ck_nil (by decide +kernel)
/-- SL$Bench.copyRow -/
def ck_c364 : ck_C := (149, 101, [.inr (0, 4), .inr (0, 33)], [((4, 0), .inl (0, 0)), ((33, 0), .inl (0, 0))], [(33, 0)], [(none, [], [((33, 0), .inl (0, 0))], 101)], 1, 41, 0, 0)
def ck_h364 : List ck_Hd := []
set_option maxRecDepth 100000 in
theorem ck_k364 (l : Launch) (D : va_G) (st : Nat → Nat) : ck_Mt l D st ck_c364 := ck_sound (T := ck_T1) (cs := []) (hs := ck_h364) (sp := []) (fuel := 35) l ck_TSgood ck_okCl (ck_own (M0 := ck_m149) rfl rfl ck_okT1) ck_nil (by decide +kernel)
/-- SL$Bench.copyRow -/
def ck_c365 : ck_C := (149, 101, [.inr (0, 5), .inr (0, 34)], [((5, 0), .inl (0, 0)), ((34, 0), .inl (0, 0))], [(34, 0)], [(none, [], [((34, 0), .inl (0, 0))], 101)], 1, 41, 0, 0)
def ck_h365 : List ck_Hd := []
set_option maxRecDepth 100000 in
theorem ck_k365 (l : Launch) (D : va_G) (st : Nat → Nat) : ck_Mt l D st ck_c365 := ck_sound (T := ck_T1) (cs := []) (hs := ck_h365) (sp := []) (fuel := 35) l ck_TSgood ck_okCl (ck_own (M0 := ck_m149) rfl rfl ck_okT1) ck_nil (by decide +kernel)
/-- SL$Bench.copyRow -/
def ck_c366 : ck_C := (149, 101, [.inr (0, 6), .inr (0, 35)], [((6, 0), .inl (0, 0)), ((35, 0), .inl (0, 0))], [(35, 0)], [(none, [], [((35, 0), .inl (0, 0))], 101)], 1, 41, 0, 0)
def ck_h366 : List ck_Hd := []
set_option maxRecDepth 100000 in
theorem ck_k366 (l : Launch) (D : va_G) (st : Nat → Nat) : ck_Mt l D st ck_c366 := ck_sound (T := ck_T1) (cs := []) (hs := ck_h366) (sp := []) (fuel := 35) l ck_TSgood ck_okCl (ck_own (M0 := ck_m149) rfl rfl ck_okT1) ck_nil (by decide +kernel)
/-- SL$Bench.copyRow -/
def ck_c367 : ck_C := (149, 101, [.inr (0, 7), .inr (0, 36)], [((7, 0), .inl (0, 0)), ((36, 0), .inl (0, 0))], [(36, 0)], [(none, [], [((36, 0), .inl (0, 0))], 101)], 1, 41, 0, 0)
def ck_h367 : List ck_Hd := []
set_option maxRecDepth 100000 in
theorem ck_k367 (l : Launch) (D : va_G) (st : Nat → Nat) : ck_Mt l D st ck_c367 := ck_sound (T := ck_T1) (cs := []) (hs := ck_h367) (sp := []) (fuel := 35) l ck_TSgood ck_okCl (ck_own (M0 := ck_m149) rfl rfl ck_okT1) ck_nil (by decide +kernel)
/-- SL$Bench.copyRow -/
def ck_c368 : ck_C := (149, 101, [.inr (0, 8), .inr (0, 37)], [((8, 0), .inl (0, 0)), ((37, 0), .inl (0, 0))], [(37, 0)], [(none, [], [((37, 0), .inl (0, 0))], 101)], 1, 41, 0, 0)
def ck_h368 : List ck_Hd := []
set_option maxRecDepth 100000 in
theorem ck_k368 (l : Launch) (D : va_G) (st : Nat → Nat) : ck_Mt l D st ck_c368 := ck_sound (T := ck_T1) (cs := []) (hs := ck_h368) (sp := []) (fuel := 35) l ck_TSgood ck_okCl (ck_own (M0 := ck_m149) rfl rfl ck_okT1) ck_nil (by decide +kernel)
/-- SL$Bench.copyRow -/
def ck_c369 : ck_C := (149, 101, [.inr (0, 9), .inr (0, 38)], [((9, 0), .inl (0, 0)), ((38, 0), .inl (0, 0))], [(38, 0)], [(none, [], [((38, 0), .inl (0, 0))], 101)], 1, 41, 0, 0)
def ck_h369 : List ck_Hd := []
set_option maxRecDepth 100000 in
theorem ck_k369 (l : Launch) (D : va_G) (st : Nat → Nat) : ck_Mt l D st ck_c369 := ck_sound (T := ck_T1) (cs := []) (hs := ck_h369) (sp := []) (fuel := 35) l ck_TSgood ck_okCl (ck_own (M0 := ck_m149) rfl rfl ck_okT1) ck_nil (by decide +kernel)
/-- SL$Bench.copyRow -/
def ck_c370 : ck_C := (149, 101, [.inr (0, 14), .inr (0, 43)], [((14, 0), .inl (0, 0)), ((43, 0), .inl (0, 0))], [(43, 0)], [(none, [], [((43, 0), .inl (0, 0))], 101)], 1, 41, 0, 0)
def ck_h370 : List ck_Hd := []
set_option maxRecDepth 100000 in
theorem ck_k370 (l : Launch) (D : va_G) (st : Nat → Nat) : ck_Mt l D st ck_c370 := ck_sound (T := ck_T1) (cs := []) (hs := ck_h370) (sp := []) (fuel := 35) l ck_TSgood ck_okCl (ck_own (M0 := ck_m149) rfl rfl ck_okT1) ck_nil (by decide +kernel)
/-- SL$Bench.copyFrom -/
def ck_c371 : ck_C := (148, 101, [.inr (0, 30), .inr (0, 1)], [((1, 1), .inl (0, 0)), ((1, 2), .inr (0, 2)), ((1, 3), .inr (0, 3)), ((1, 4), .inr (0, 4)), ((1, 5), .inr (0, 5)), ((1, 6), .inr (0, 6)), ((1, 7), .inr (0, 7)), ((1, 8), .inr (0, 8)), ((1, 9), .inr (0, 9)), ((1, 10), .inl (0, 0)), ((1, 11), .inl ((-1), (-1))), ((1, 12), .inl (0, 0)), ((1, 13), .inr (0, 10)), ((1, 15), .inl (0, 0)), ((1, 16), .inr (0, 14)), ((1, 17), .inl (7, 7)), ((1, 18), .inl (15, 15)), ((1, 19), .inl (15, 15)), ((2, 0), .inl (0, 0)), ((3, 0), .inl (0, 0)), ((4, 0), .inl (0, 0)), ((5, 0), .inl (0, 0)), ((6, 0), .inl (0, 0)), ((7, 0), .inl (0, 0)), ((8, 0), .inl (0, 0)), ((9, 0), .inl (0, 0)), ((10, 0), .inr (1, 0)), ((14, 0), .inl (0, 0)), ((30, 2), .inr (0, 31)), ((30, 3), .inr (0, 32)), ((30, 4), .inr (0, 33)), ((30, 5), .inr (0, 34)), ((30, 6), .inr (0, 35)), ((30, 7), .inr (0, 36)), ((30, 8), .inr (0, 37)), ((30, 9), .inr (0, 38)), ((30, 13), .inr (0, 39)), ((30, 16), .inr (0, 43)), ((31, 0), .inl (0, 0)), ((32, 0), .inl (0, 0)), ((33, 0), .inl (0, 0)), ((34, 0), .inl (0, 0)), ((35, 0), .inl (0, 0)), ((36, 0), .inl (0, 0)), ((37, 0), .inl (0, 0)), ((38, 0), .inl (0, 0)), ((39, 0), .inr (1, 0)), ((43, 0), .inl (0, 0))], [(30, 1), (30, 10), (30, 11), (30, 12), (30, 15), (30, 17), (30, 18), (30, 19), (31, 0), (32, 0), (33, 0), (34, 0), (35, 0), (36, 0), (37, 0), (38, 0), (39, 0), (43, 0)], [(none, [], [((30, 1), .inl (0, 0)), ((30, 10), .inl (0, 0)), ((30, 11), .inl ((-1), (-1))), ((30, 12), .inl (0, 0)), ((30, 15), .inl (0, 0)), ((30, 17), .inl (7, 7)), ((30, 18), .inl (15, 15)), ((30, 19), .inl (15, 15)), ((31, 0), .inl (0, 0)), ((32, 0), .inl (0, 0)), ((33, 0), .inl (0, 0)), ((34, 0), .inl (0, 0)), ((35, 0), .inl (0, 0)), ((36, 0), .inl (0, 0)), ((37, 0), .inl (0, 0)), ((38, 0), .inl (0, 0)), ((39, 0), .inr (1, 0)), ((43, 0), .inl (0, 0))], 101)], 2, 62, 0, 0)
def ck_h371 : List ck_Hd := [(122, ([(0, 10, 0, (0, 0, 0))], [(2, .inl (0, 1, 0)), (0, .inr (0, 30)), (1, .inr (0, 1))], [], [((1, 1), .inl (0, 0)), ((1, 2), .inr (0, 2)), ((1, 3), .inr (0, 3)), ((1, 4), .inr (0, 4)), ((1, 5), .inr (0, 5)), ((1, 6), .inr (0, 6)), ((1, 7), .inr (0, 7)), ((1, 8), .inr (0, 8)), ((1, 9), .inr (0, 9)), ((1, 10), .inl (0, 0)), ((1, 11), .inl ((-1), (-1))), ((1, 12), .inl (0, 0)), ((1, 13), .inr (0, 10)), ((1, 15), .inl (0, 0)), ((1, 16), .inr (0, 14)), ((1, 17), .inl (7, 7)), ((1, 18), .inl (15, 15)), ((1, 19), .inl (15, 15)), ((2, 0), .inl (0, 0)), ((3, 0), .inl (0, 0)), ((4, 0), .inl (0, 0)), ((5, 0), .inl (0, 0)), ((6, 0), .inl (0, 0)), ((7, 0), .inl (0, 0)), ((8, 0), .inl (0, 0)), ((9, 0), .inl (0, 0)), ((10, 0), .inr (1, 0)), ((14, 0), .inl (0, 0)), ((30, 1), .inl (0, 0)), ((30, 2), .inr (0, 31)), ((30, 3), .inr (0, 32)), ((30, 4), .inr (0, 33)), ((30, 5), .inr (0, 34)), ((30, 6), .inr (0, 35)), ((30, 7), .inr (0, 36)), ((30, 8), .inr (0, 37)), ((30, 9), .inr (0, 38)), ((30, 10), .inl (0, 0)), ((30, 11), .inl ((-1), (-1))), ((30, 12), .inl (0, 0)), ((30, 13), .inr (0, 39)), ((30, 16), .inr (0, 43)), ((31, 0), .inl (0, 0)), ((32, 0), .inl (0, 0)), ((33, 0), .inl (0, 0)), ((34, 0), .inl (0, 0)), ((35, 0), .inl (0, 0)), ((36, 0), .inl (0, 0)), ((37, 0), .inl (0, 0)), ((38, 0), .inl (0, 0)), ((39, 0), .inr (1, 0)), ((43, 0), .inl (0, 0))], 101, 0, 0), 0, 0)]
set_option maxRecDepth 100000 in
theorem ck_k371 (l : Launch) (D : va_G) (st : Nat → Nat) : ck_Mt l D st ck_c371 := ck_sound (T := ck_T1) (cs := [ck_c362, ck_c363, ck_c364, ck_c365, ck_c366, ck_c367, ck_c368, ck_c369, ck_c370]) (hs := ck_h371) (sp := []) (fuel := 107) l ck_TSgood ck_okCl (ck_own (M0 := ck_m148) rfl rfl ck_okT1) (ck_cons (ck_k362 l D st) (ck_cons (ck_k363 l D st) (ck_cons (ck_k364 l D st) (ck_cons (ck_k365 l D st) (ck_cons (ck_k366 l D st) (ck_cons (ck_k367 l D st) (ck_cons (ck_k368 l D st) (ck_cons (ck_k369 l D st) (ck_cons (ck_k370 l D st) ck_nil))))))))) (by decide +kernel)
/-- SL.image -/
def ck_c372 : ck_C := (147, 101, [.inr (0, 0), .inl ((-2147483648), 2147483647)], [((0, 1), .inr (0, 1)), ((0, 2), .inr (0, 15)), ((0, 3), .inr (0, 44)), ((1, 1), .inl (0, 0)), ((1, 2), .inr (0, 2)), ((1, 3), .inr (0, 3)), ((1, 4), .inr (0, 4)), ((1, 5), .inr (0, 5)), ((1, 6), .inr (0, 6)), ((1, 7), .inr (0, 7)), ((1, 8), .inr (0, 8)), ((1, 9), .inr (0, 9)), ((1, 10), .inl (0, 0)), ((1, 11), .inl ((-1), (-1))), ((1, 12), .inl (0, 0)), ((1, 13), .inr (0, 10)), ((1, 15), .inl (0, 0)), ((1, 16), .inr (0, 14)), ((1, 17), .inl (7, 7)), ((1, 18), .inl (15, 15)), ((1, 19), .inl (15, 15)), ((2, 0), .inl (0, 0)), ((3, 0), .inl (0, 0)), ((4, 0), .inl (0, 0)), ((5, 0), .inl (0, 0)), ((6, 0), .inl (0, 0)), ((7, 0), .inl (0, 0)), ((8, 0), .inl (0, 0)), ((9, 0), .inl (0, 0)), ((10, 0), .inr (1, 0)), ((14, 0), .inl (0, 0)), ((15, 1), .inr (0, 16)), ((15, 2), .inr (0, 30)), ((16, 2), .inr (0, 17)), ((16, 3), .inr (0, 18)), ((16, 4), .inr (0, 19)), ((16, 5), .inr (0, 20)), ((16, 6), .inr (0, 21)), ((16, 7), .inr (0, 22)), ((16, 8), .inr (0, 23)), ((16, 9), .inr (0, 24)), ((16, 13), .inr (0, 25)), ((16, 16), .inr (0, 29)), ((17, 0), .inl (0, 0)), ((18, 0), .inl (0, 0)), ((19, 0), .inl (0, 0)), ((20, 0), .inl (0, 0)), ((21, 0), .inl (0, 0)), ((22, 0), .inl (0, 0)), ((23, 0), .inl (0, 0)), ((24, 0), .inl (0, 0)), ((25, 0), .inr (1, 0)), ((29, 0), .inl (0, 0)), ((30, 2), .inr (0, 31)), ((30, 3), .inr (0, 32)), ((30, 4), .inr (0, 33)), ((30, 5), .inr (0, 34)), ((30, 6), .inr (0, 35)), ((30, 7), .inr (0, 36)), ((30, 8), .inr (0, 37)), ((30, 9), .inr (0, 38)), ((30, 13), .inr (0, 39)), ((30, 16), .inr (0, 43)), ((31, 0), .inl (0, 0)), ((32, 0), .inl (0, 0)), ((33, 0), .inl (0, 0)), ((34, 0), .inl (0, 0)), ((35, 0), .inl (0, 0)), ((36, 0), .inl (0, 0)), ((37, 0), .inl (0, 0)), ((38, 0), .inl (0, 0)), ((39, 0), .inr (1, 0)), ((43, 0), .inl (0, 0)), ((44, 0), .inl (0, 0))], [(0, 15), (16, 1), (16, 10), (16, 11), (16, 12), (16, 15), (16, 17), (16, 18), (16, 19), (17, 0), (18, 0), (19, 0), (20, 0), (21, 0), (22, 0), (23, 0), (24, 0), (25, 0), (29, 0), (30, 1), (30, 10), (30, 11), (30, 12), (30, 15), (30, 17), (30, 18), (30, 19), (31, 0), (32, 0), (33, 0), (34, 0), (35, 0), (36, 0), (37, 0), (38, 0), (39, 0), (43, 0), (44, 0)], [(some (.inl ((-1), (-1))), [((-2147483648), (-1))], [((0, 15), .inl ((-1), (-1))), ((17, 0), .inl (0, 0)), ((18, 0), .inl (0, 0)), ((19, 0), .inl (0, 0)), ((20, 0), .inl (0, 0)), ((21, 0), .inl (0, 0)), ((22, 0), .inl (0, 0)), ((23, 0), .inl (0, 0)), ((24, 0), .inl (0, 0)), ((25, 0), .inr (1, 0)), ((29, 0), .inl (0, 0)), ((31, 0), .inl (0, 0)), ((32, 0), .inl (0, 0)), ((33, 0), .inl (0, 0)), ((34, 0), .inl (0, 0)), ((35, 0), .inl (0, 0)), ((36, 0), .inl (0, 0)), ((37, 0), .inl (0, 0)), ((38, 0), .inl (0, 0)), ((39, 0), .inr (1, 0)), ((43, 0), .inl (0, 0)), ((44, 0), .inl (0, 0))], 101), (some (.inl (0, 0)), [(0, 0)], [((0, 15), .inl (0, 0)), ((16, 1), .inl (0, 0)), ((16, 10), .inl (0, 0)), ((16, 11), .inl ((-1), (-1))), ((16, 12), .inl (0, 0)), ((16, 15), .inl (0, 0)), ((16, 17), .inl (7, 7)), ((16, 18), .inl (15, 15)), ((16, 19), .inl (15, 15)), ((17, 0), .inl (0, 0)), ((18, 0), .inl (0, 0)), ((19, 0), .inl (0, 0)), ((20, 0), .inl (0, 0)), ((21, 0), .inl (0, 0)), ((22, 0), .inl (0, 0)), ((23, 0), .inl (0, 0)), ((24, 0), .inl (0, 0)), ((25, 0), .inr (1, 0)), ((29, 0), .inl (0, 0)), ((31, 0), .inl (0, 0)), ((32, 0), .inl (0, 0)), ((33, 0), .inl (0, 0)), ((34, 0), .inl (0, 0)), ((35, 0), .inl (0, 0)), ((36, 0), .inl (0, 0)), ((37, 0), .inl (0, 0)), ((38, 0), .inl (0, 0)), ((39, 0), .inr (1, 0)), ((43, 0), .inl (0, 0)), ((44, 0), .inl (0, 1))], 101), (some (.inl ((-1), (-1))), [(2, 2147483647)], [((0, 15), .inl ((-1), (-1))), ((17, 0), .inl (0, 0)), ((18, 0), .inl (0, 0)), ((19, 0), .inl (0, 0)), ((20, 0), .inl (0, 0)), ((21, 0), .inl (0, 0)), ((22, 0), .inl (0, 0)), ((23, 0), .inl (0, 0)), ((24, 0), .inl (0, 0)), ((25, 0), .inr (1, 0)), ((29, 0), .inl (0, 0)), ((31, 0), .inl (0, 0)), ((32, 0), .inl (0, 0)), ((33, 0), .inl (0, 0)), ((34, 0), .inl (0, 0)), ((35, 0), .inl (0, 0)), ((36, 0), .inl (0, 0)), ((37, 0), .inl (0, 0)), ((38, 0), .inl (0, 0)), ((39, 0), .inr (1, 0)), ((43, 0), .inl (0, 0)), ((44, 0), .inl (0, 0))], 101), (some (.inl (0, 0)), [(1, 1)], [((0, 15), .inl (0, 0)), ((17, 0), .inl (0, 0)), ((18, 0), .inl (0, 0)), ((19, 0), .inl (0, 0)), ((20, 0), .inl (0, 0)), ((21, 0), .inl (0, 0)), ((22, 0), .inl (0, 0)), ((23, 0), .inl (0, 0)), ((24, 0), .inl (0, 0)), ((25, 0), .inr (1, 0)), ((29, 0), .inl (0, 0)), ((30, 1), .inl (0, 0)), ((30, 10), .inl (0, 0)), ((30, 11), .inl ((-1), (-1))), ((30, 12), .inl (0, 0)), ((30, 15), .inl (0, 0)), ((30, 17), .inl (7, 7)), ((30, 18), .inl (15, 15)), ((30, 19), .inl (15, 15)), ((31, 0), .inl (0, 0)), ((32, 0), .inl (0, 0)), ((33, 0), .inl (0, 0)), ((34, 0), .inl (0, 0)), ((35, 0), .inl (0, 0)), ((36, 0), .inl (0, 0)), ((37, 0), .inl (0, 0)), ((38, 0), .inl (0, 0)), ((39, 0), .inr (1, 0)), ((43, 0), .inl (0, 0)), ((44, 0), .inl (0, 1))], 101)], 3, 84, 0, 0)
def ck_h372 : List ck_Hd := []
set_option maxRecDepth 100000 in
theorem ck_k372 (l : Launch) (D : va_G) (st : Nat → Nat) : ck_Mt l D st ck_c372 := ck_sound (T := ck_T0) (cs := [ck_c350, ck_c19, ck_c360, ck_c23, ck_c361, ck_c371]) (hs := ck_h372) (sp := [(0, 0, 0)]) (fuel := 46) l ck_TSgood ck_okCl (ck_own (M0 := ck_m147) rfl rfl ck_okT0) (ck_cons (ck_k350 l D st) (ck_cons (ck_k19 l D st) (ck_cons (ck_k360 l D st) (ck_cons (ck_k23 l D st) (ck_cons (ck_k361 l D st) (ck_cons (ck_k371 l D st) ck_nil)))))) (by decide +kernel)
/-- SLModel.image -/
def ck_c373 : ck_C := (150, 101, [.inr (0, 77), .inl ((-2147483648), (-1))], [], [(77, 1)], [(some (.inl ((-1), (-1))), [((-2147483648), (-1))], [((77, 1), .inl ((-1), (-1)))], 101)], 1, 22, 0, 0)
def ck_h373 : List ck_Hd := []
set_option maxRecDepth 100000 in
theorem ck_k373 (l : Launch) (D : va_G) (st : Nat → Nat) : ck_Mt l D st ck_c373 := ck_sound (T := ck_T13) (cs := [ck_c295, ck_c26]) (hs := ck_h373) (sp := []) (fuel := 33) l ck_TSgood ck_okCl (ck_own (M0 := ck_m150) rfl rfl ck_okT13) (ck_cons (ck_k295 l D st) (ck_cons (ck_k26 l D st) ck_nil)) (by decide +kernel)
/-- SLModel.in -/
def ck_c374 : ck_C := (21, 101, [.inl (0, 0), .inl (0, 0), .inl (1, 1)], [], [], [(some (.inl (1, 1)), [(0, 0), (0, 0), (1, 1)], [], 101)], 0, 0, 0, 0)
def ck_h374 : List ck_Hd := []
set_option maxRecDepth 100000 in
theorem ck_k374 (l : Launch) (D : va_G) (st : Nat → Nat) : ck_Mt l D st ck_c374 := ck_sound (T := ck_T13) (cs := []) (hs := ck_h374) (sp := []) (fuel := 33) l ck_TSgood ck_okCl (ck_own (M0 := ck_m21) rfl rfl ck_okT13) ck_nil (by decide +kernel)
/-- SLModel.image -/
def ck_c375 : ck_C := (150, 101, [.inr (0, 77), .inl (0, 0)], [((77, 2), .inr (0, 78)), ((77, 3), .inr (0, 79)), ((77, 4), .inr (0, 80)), ((78, 0), .inl ((-1), 15)), ((79, 0), .inl (0, 0)), ((80, 0), .inl (0, 0))], [(77, 1), (79, 0), (80, 0)], [(some (.inl (0, 0)), [(0, 0)], [((77, 1), .inl (0, 0)), ((79, 0), .inl ((-1), 15)), ((80, 0), .inl (0, 1))], 101)], 1, 22, 0, 0)
def ck_h375 : List ck_Hd := [(17, ([(0, 0, 0, (0, 0, 0)), (0, 9310, 0, (0, 0, 0))], [(2, .inl (1, 1, 0)), (0, .inr (0, 77)), (1, .inl (0, 1, 0))], [], [((77, 2), .inr (0, 78)), ((77, 3), .inr (0, 79)), ((77, 4), .inr (0, 80)), ((78, 0), .inl ((-1), 15)), ((79, 0), .inl ((-1), 15)), ((80, 0), .inl (0, 0))], 101, 0, 0), 1, 0)]
set_option maxRecDepth 100000 in
theorem ck_k375 (l : Launch) (D : va_G) (st : Nat → Nat) : ck_Mt l D st ck_c375 := ck_sound (T := ck_T13) (cs := [ck_c374, ck_c42]) (hs := ck_h375) (sp := []) (fuel := 49) l ck_TSgood ck_okCl (ck_own (M0 := ck_m150) rfl rfl ck_okT13) (ck_cons (ck_k374 l D st) (ck_cons (ck_k42 l D st) ck_nil)) (by decide +kernel)
/-- SLModel.image -/
def ck_c376 : ck_C := (150, 101, [.inr (0, 77), .inl (2, 2147483647)], [], [(77, 1)], [(some (.inl ((-1), (-1))), [(2, 2147483647)], [((77, 1), .inl ((-1), (-1)))], 101)], 1, 22, 0, 0)
def ck_h376 : List ck_Hd := []
set_option maxRecDepth 100000 in
theorem ck_k376 (l : Launch) (D : va_G) (st : Nat → Nat) : ck_Mt l D st ck_c376 := ck_sound (T := ck_T13) (cs := [ck_c297, ck_c26]) (hs := ck_h376) (sp := []) (fuel := 33) l ck_TSgood ck_okCl (ck_own (M0 := ck_m150) rfl rfl ck_okT13) (ck_cons (ck_k297 l D st) (ck_cons (ck_k26 l D st) ck_nil)) (by decide +kernel)
/-- SLModel.in -/
def ck_c377 : ck_C := (21, 101, [.inl (1, 1), .inl (0, 0), .inl (1, 1)], [], [], [(some (.inl (1, 1)), [(1, 1), (0, 0), (1, 1)], [], 101)], 0, 0, 0, 0)
def ck_h377 : List ck_Hd := []
set_option maxRecDepth 100000 in
theorem ck_k377 (l : Launch) (D : va_G) (st : Nat → Nat) : ck_Mt l D st ck_c377 := ck_sound (T := ck_T13) (cs := []) (hs := ck_h377) (sp := []) (fuel := 33) l ck_TSgood ck_okCl (ck_own (M0 := ck_m21) rfl rfl ck_okT13) ck_nil (by decide +kernel)
/-- SLModel.image -/
def ck_c378 : ck_C := (150, 101, [.inr (0, 77), .inl (1, 1)], [((77, 2), .inr (0, 78)), ((77, 3), .inr (0, 79)), ((77, 4), .inr (0, 80)), ((78, 0), .inl ((-1), 15)), ((79, 0), .inl (0, 0)), ((80, 0), .inl (0, 0))], [(77, 1), (79, 0), (80, 0)], [(some (.inl (0, 0)), [(1, 1)], [((77, 1), .inl (0, 0)), ((79, 0), .inl ((-1), 15)), ((80, 0), .inl (0, 1))], 101)], 1, 22, 0, 0)
def ck_h378 : List ck_Hd := [(17, ([(1, 1, 0, (0, 0, 0)), (0, 9310, 0, (0, 0, 0))], [(2, .inl (1, 1, 0)), (0, .inr (0, 77)), (1, .inl (0, 1, 0))], [], [((77, 2), .inr (0, 78)), ((77, 3), .inr (0, 79)), ((77, 4), .inr (0, 80)), ((78, 0), .inl ((-1), 15)), ((79, 0), .inl ((-1), 15)), ((80, 0), .inl (0, 0))], 101, 0, 0), 1, 0)]
set_option maxRecDepth 100000 in
theorem ck_k378 (l : Launch) (D : va_G) (st : Nat → Nat) : ck_Mt l D st ck_c378 := ck_sound (T := ck_T13) (cs := [ck_c377, ck_c42]) (hs := ck_h378) (sp := []) (fuel := 49) l ck_TSgood ck_okCl (ck_own (M0 := ck_m150) rfl rfl ck_okT13) (ck_cons (ck_k377 l D st) (ck_cons (ck_k42 l D st) ck_nil)) (by decide +kernel)
/-- SL.back -/
def ck_c379 : ck_C := (151, 101, [.inr (0, 0), .inl ((-2147483648), 2147483647)], [((0, 3), .inr (0, 44)), ((44, 0), .inl (0, 0))], [(0, 15)], [(some (.inl ((-1), (-1))), [((-2147483648), (-1))], [((0, 15), .inl ((-1), (-1)))], 101), (some (.inl ((-1), (-1))), [(2, 2147483647)], [((0, 15), .inl ((-1), (-1)))], 101), (some (.inl ((-2), (-2))), [(0, 1)], [((0, 15), .inl ((-2), (-2)))], 101)], 1, 22, 0, 0)
def ck_h379 : List ck_Hd := []
set_option maxRecDepth 100000 in
theorem ck_k379 (l : Launch) (D : va_G) (st : Nat → Nat) : ck_Mt l D st ck_c379 := ck_sound (T := ck_T0) (cs := [ck_c281, ck_c19, ck_c50]) (hs := ck_h379) (sp := []) (fuel := 38) l ck_TSgood ck_okCl (ck_own (M0 := ck_m151) rfl rfl ck_okT0) (ck_cons (ck_k281 l D st) (ck_cons (ck_k19 l D st) (ck_cons (ck_k50 l D st) ck_nil))) (by decide +kernel)
/-- SLModel.back -/
def ck_c380 : ck_C := (152, 101, [.inr (0, 77), .inl ((-2147483648), (-1))], [], [(77, 1)], [(some (.inl ((-1), (-1))), [((-2147483648), (-1))], [((77, 1), .inl ((-1), (-1)))], 101)], 1, 22, 0, 0)
def ck_h380 : List ck_Hd := []
set_option maxRecDepth 100000 in
theorem ck_k380 (l : Launch) (D : va_G) (st : Nat → Nat) : ck_Mt l D st ck_c380 := ck_sound (T := ck_T13) (cs := [ck_c295, ck_c26]) (hs := ck_h380) (sp := []) (fuel := 33) l ck_TSgood ck_okCl (ck_own (M0 := ck_m152) rfl rfl ck_okT13) (ck_cons (ck_k295 l D st) (ck_cons (ck_k26 l D st) ck_nil)) (by decide +kernel)
/-- SLModel.back -/
def ck_c381 : ck_C := (152, 101, [.inr (0, 77), .inl (2, 2147483647)], [], [(77, 1)], [(some (.inl ((-1), (-1))), [(2, 2147483647)], [((77, 1), .inl ((-1), (-1)))], 101)], 1, 22, 0, 0)
def ck_h381 : List ck_Hd := []
set_option maxRecDepth 100000 in
theorem ck_k381 (l : Launch) (D : va_G) (st : Nat → Nat) : ck_Mt l D st ck_c381 := ck_sound (T := ck_T13) (cs := [ck_c297, ck_c26]) (hs := ck_h381) (sp := []) (fuel := 33) l ck_TSgood ck_okCl (ck_own (M0 := ck_m152) rfl rfl ck_okT13) (ck_cons (ck_k297 l D st) (ck_cons (ck_k26 l D st) ck_nil)) (by decide +kernel)
/-- SLModel.back -/
def ck_c382 : ck_C := (152, 101, [.inr (0, 77), .inl (0, 1)], [((77, 4), .inr (0, 80)), ((80, 0), .inl (0, 0))], [(77, 1)], [(some (.inl ((-2), (-2))), [(0, 1)], [((77, 1), .inl ((-2), (-2)))], 101)], 1, 22, 0, 0)
def ck_h382 : List ck_Hd := []
set_option maxRecDepth 100000 in
theorem ck_k382 (l : Launch) (D : va_G) (st : Nat → Nat) : ck_Mt l D st ck_c382 := ck_sound (T := ck_T13) (cs := [ck_c302, ck_c69]) (hs := ck_h382) (sp := []) (fuel := 38) l ck_TSgood ck_okCl (ck_own (M0 := ck_m152) rfl rfl ck_okT13) (ck_cons (ck_k302 l D st) (ck_cons (ck_k69 l D st) ck_nil)) (by decide +kernel)
/-- SL$Bench.usesLeft -/
def ck_c383 : ck_C := (154, 101, [.inr (0, 1)], [((1, 1), .inl (0, 0))], [], [(some (.inl (0, 0)), [], [], 101)], 0, 0, 0, 0)
def ck_h383 : List ck_Hd := [(4, ([], [(2, .inl (0, 0, 0)), (1, .inl (0, 0, 0)), (0, .inr (0, 1))], [], [((1, 1), .inl (0, 0))], 101, 0, 0), 0, 2)]
set_option maxRecDepth 100000 in
theorem ck_k383 (l : Launch) (D : va_G) (st : Nat → Nat) : ck_Mt l D st ck_c383 := ck_sound (T := ck_T1) (cs := []) (hs := ck_h383) (sp := []) (fuel := 34) l ck_TSgood ck_okCl (ck_own (M0 := ck_m154) rfl rfl ck_okT1) ck_nil (by decide +kernel)
/-- SL.count -/
def ck_c384 : ck_C := (153, 101, [.inr (0, 0), .inl ((-2147483648), 2147483647)], [((0, 1), .inr (0, 1)), ((0, 4), .inr (0, 45)), ((1, 1), .inl (0, 0)), ((1, 12), .inl (0, 0)), ((1, 15), .inl (0, 0)), ((45, 2), .inl (0, 0))], [], [(some (.inl ((-1), (-1))), [((-2147483648), (-1))], [], 101), (some (.inl ((-1), (-1))), [(5, 2147483647)], [], 101), (some (.inl (0, 0)), [(0, 0)], [], 101), (some (.inl (0, 0)), [(1, 1)], [], 101), (some (.inl (0, 0)), [(2, 2)], [], 101), (some (.inl (0, 0)), [(3, 3)], [], 101), (some (.inl (0, 0)), [(4, 4)], [], 101)], 1, 22, 0, 0)
def ck_h384 : List ck_Hd := []
set_option maxRecDepth 100000 in
theorem ck_k384 (l : Launch) (D : va_G) (st : Nat → Nat) : ck_Mt l D st ck_c384 := ck_sound (T := ck_T0) (cs := [ck_c383]) (hs := ck_h384) (sp := []) (fuel := 30) l ck_TSgood ck_okCl (ck_own (M0 := ck_m153) rfl rfl ck_okT0) (ck_cons (ck_k383 l D st) ck_nil) (by decide +kernel)
/-- SLModel.count -/
def ck_c385 : ck_C := (155, 101, [.inr (0, 77), .inl ((-2147483648), (-1))], [((77, 2), .inr (0, 78)), ((78, 1293), .inl (0, 0))], [], [(some (.inl ((-1), (-1))), [((-2147483648), (-1))], [], 101)], 1, 20, 0, 0)
def ck_h385 : List ck_Hd := [(4, ([((-2147483648), (-1), 0, (0, 0, 0))], [(3, .inl (0, 0, 0)), (2, .inl (0, 0, 0)), (0, .inr (0, 77)), (1, .inl (0, 1, 0))], [], [((77, 2), .inr (0, 78)), ((78, 1293), .inl (0, 0))], 101, 0, 0), 0, 2)]
set_option maxRecDepth 100000 in
theorem ck_k385 (l : Launch) (D : va_G) (st : Nat → Nat) : ck_Mt l D st ck_c385 := ck_sound (T := ck_T13) (cs := [ck_c41]) (hs := ck_h385) (sp := []) (fuel := 36) l ck_TSgood ck_okCl (ck_own (M0 := ck_m155) rfl rfl ck_okT13) (ck_cons (ck_k41 l D st) ck_nil) (by decide +kernel)
/-- SLModel.count -/
def ck_c386 : ck_C := (155, 101, [.inr (0, 77), .inl (5, 2147483647)], [((77, 2), .inr (0, 78)), ((78, 1293), .inl (0, 0))], [], [(some (.inl ((-1), (-1))), [(5, 2147483647)], [], 101)], 1, 20, 0, 0)
def ck_h386 : List ck_Hd := [(4, ([(5, 2147483647, 0, (0, 0, 0))], [(3, .inl (0, 0, 0)), (2, .inl (0, 0, 0)), (0, .inr (0, 77)), (1, .inl (0, 1, 0))], [], [((77, 2), .inr (0, 78)), ((78, 1293), .inl (0, 0))], 101, 0, 0), 0, 2)]
set_option maxRecDepth 100000 in
theorem ck_k386 (l : Launch) (D : va_G) (st : Nat → Nat) : ck_Mt l D st ck_c386 := ck_sound (T := ck_T13) (cs := [ck_c41]) (hs := ck_h386) (sp := []) (fuel := 36) l ck_TSgood ck_okCl (ck_own (M0 := ck_m155) rfl rfl ck_okT13) (ck_cons (ck_k41 l D st) ck_nil) (by decide +kernel)
/-- SLModel.count -/
def ck_c387 : ck_C := (155, 101, [.inr (0, 77), .inl (0, 0)], [((77, 2), .inr (0, 78)), ((78, 1293), .inl (0, 0))], [], [(some (.inl (0, 0)), [(0, 0)], [], 101)], 1, 20, 0, 0)
def ck_h387 : List ck_Hd := [(4, ([(0, 0, 0, (0, 0, 0))], [(3, .inl (0, 0, 0)), (2, .inl (0, 0, 0)), (0, .inr (0, 77)), (1, .inl (0, 1, 0))], [], [((77, 2), .inr (0, 78)), ((78, 1293), .inl (0, 0))], 101, 0, 0), 0, 2)]
set_option maxRecDepth 100000 in
theorem ck_k387 (l : Launch) (D : va_G) (st : Nat → Nat) : ck_Mt l D st ck_c387 := ck_sound (T := ck_T13) (cs := [ck_c41]) (hs := ck_h387) (sp := []) (fuel := 37) l ck_TSgood ck_okCl (ck_own (M0 := ck_m155) rfl rfl ck_okT13) (ck_cons (ck_k41 l D st) ck_nil) (by decide +kernel)
/-- SLModel.count -/
def ck_c388 : ck_C := (155, 101, [.inr (0, 77), .inl (1, 1)], [((77, 2), .inr (0, 78)), ((78, 1293), .inl (0, 0)), ((78, 1295), .inl (0, 0))], [], [(some (.inl (0, 0)), [(1, 1)], [], 101)], 1, 20, 0, 0)
def ck_h388 : List ck_Hd := [(4, ([(1, 1, 0, (0, 0, 0))], [(3, .inl (0, 0, 0)), (2, .inl (0, 0, 0)), (0, .inr (0, 77)), (1, .inl (0, 1, 0))], [], [((77, 2), .inr (0, 78)), ((78, 1293), .inl (0, 0)), ((78, 1295), .inl (0, 0))], 101, 0, 0), 0, 2)]
set_option maxRecDepth 100000 in
theorem ck_k388 (l : Launch) (D : va_G) (st : Nat → Nat) : ck_Mt l D st ck_c388 := ck_sound (T := ck_T13) (cs := [ck_c41]) (hs := ck_h388) (sp := []) (fuel := 39) l ck_TSgood ck_okCl (ck_own (M0 := ck_m155) rfl rfl ck_okT13) (ck_cons (ck_k41 l D st) ck_nil) (by decide +kernel)
/-- SLModel.count -/
def ck_c389 : ck_C := (155, 101, [.inr (0, 77), .inl (2, 2)], [((77, 2), .inr (0, 78)), ((78, 1293), .inl (0, 0)), ((78, 1294), .inl (0, 0))], [], [(some (.inl (0, 0)), [(2, 2)], [], 101)], 1, 20, 0, 0)
def ck_h389 : List ck_Hd := [(4, ([(2, 2, 0, (0, 0, 0))], [(3, .inl (0, 0, 0)), (2, .inl (0, 0, 0)), (0, .inr (0, 77)), (1, .inl (0, 1, 0))], [], [((77, 2), .inr (0, 78)), ((78, 1293), .inl (0, 0)), ((78, 1294), .inl (0, 0))], 101, 0, 0), 0, 2)]
set_option maxRecDepth 100000 in
theorem ck_k389 (l : Launch) (D : va_G) (st : Nat → Nat) : ck_Mt l D st ck_c389 := ck_sound (T := ck_T13) (cs := [ck_c41]) (hs := ck_h389) (sp := []) (fuel := 39) l ck_TSgood ck_okCl (ck_own (M0 := ck_m155) rfl rfl ck_okT13) (ck_cons (ck_k41 l D st) ck_nil) (by decide +kernel)
/-- SLModel.count -/
def ck_c390 : ck_C := (155, 101, [.inr (0, 77), .inl (3, 3)], [((77, 2), .inr (0, 78)), ((78, 1293), .inl (0, 0))], [], [(some (.inl (0, 0)), [(3, 3)], [], 101)], 1, 20, 0, 0)
def ck_h390 : List ck_Hd := [(4, ([(3, 3, 0, (0, 0, 0))], [(3, .inl (0, 0, 0)), (2, .inl (0, 0, 0)), (0, .inr (0, 77)), (1, .inl (0, 1, 0))], [], [((77, 2), .inr (0, 78)), ((78, 1293), .inl (0, 0))], 101, 0, 0), 0, 2)]
set_option maxRecDepth 100000 in
theorem ck_k390 (l : Launch) (D : va_G) (st : Nat → Nat) : ck_Mt l D st ck_c390 := ck_sound (T := ck_T13) (cs := [ck_c41]) (hs := ck_h390) (sp := []) (fuel := 36) l ck_TSgood ck_okCl (ck_own (M0 := ck_m155) rfl rfl ck_okT13) (ck_cons (ck_k41 l D st) ck_nil) (by decide +kernel)
/-- SLModel.count -/
def ck_c391 : ck_C := (155, 101, [.inr (0, 77), .inl (4, 4)], [((77, 2), .inr (0, 78)), ((77, 8), .inl (0, 0)), ((78, 1293), .inl (0, 0))], [], [(some (.inl (0, 0)), [(4, 4)], [], 101)], 1, 20, 0, 0)
def ck_h391 : List ck_Hd := [(4, ([(4, 4, 0, (0, 0, 0))], [(3, .inl (0, 0, 0)), (2, .inl (0, 0, 0)), (0, .inr (0, 77)), (1, .inl (0, 1, 0))], [], [((77, 2), .inr (0, 78)), ((77, 8), .inl (0, 0)), ((78, 1293), .inl (0, 0))], 101, 0, 0), 0, 2)]
set_option maxRecDepth 100000 in
theorem ck_k391 (l : Launch) (D : va_G) (st : Nat → Nat) : ck_Mt l D st ck_c391 := ck_sound (T := ck_T13) (cs := [ck_c41]) (hs := ck_h391) (sp := []) (fuel := 37) l ck_TSgood ck_okCl (ck_own (M0 := ck_m155) rfl rfl ck_okT13) (ck_cons (ck_k41 l D st) ck_nil) (by decide +kernel)
/-- SL.status -/
def ck_c392 : ck_C := (156, 101, [.inr (0, 0)], [((0, 15), .inl (0, 0))], [], [(some (.inl (0, 0)), [], [], 101)], 0, 0, 0, 0)
def ck_h392 : List ck_Hd := []
set_option maxRecDepth 100000 in
theorem ck_k392 (l : Launch) (D : va_G) (st : Nat → Nat) : ck_Mt l D st ck_c392 := ck_sound (T := ck_T0) (cs := []) (hs := ck_h392) (sp := []) (fuel := 27) l ck_TSgood ck_okCl (ck_own (M0 := ck_m156) rfl rfl ck_okT0) ck_nil (by decide +kernel)
/-- SLModel.status -/
def ck_c393 : ck_C := (157, 101, [.inr (0, 77)], [((77, 1), .inl (0, 0))], [], [(some (.inl (0, 0)), [], [], 101)], 0, 0, 0, 0)
def ck_h393 : List ck_Hd := []
set_option maxRecDepth 100000 in
theorem ck_k393 (l : Launch) (D : va_G) (st : Nat → Nat) : ck_Mt l D st ck_c393 := ck_sound (T := ck_T13) (cs := []) (hs := ck_h393) (sp := []) (fuel := 27) l ck_TSgood ck_okCl (ck_own (M0 := ck_m157) rfl rfl ck_okT13) ck_nil (by decide +kernel)
end
section
/-! THE LAW'S CASES: written by wip/gen/pr.py -/
def ck_wrL : List (Nat × Nat) := [(0, 1), (0, 2), (0, 3), (0, 4), (0, 5), (0, 6), (0, 7), (0, 8), (0, 9), (0, 10), (0, 11), (0, 12), (0, 13), (0, 14), (0, 15), (1, 1), (1, 2), (1, 3), (1, 4), (1, 5), (1, 6), (1, 7), (1, 8), (1, 9), (1, 10), (1, 11), (1, 12), (1, 13), (1, 14), (1, 15), (1, 16), (1, 17), (1, 18), (1, 19), (2, 0), (3, 0), (4, 0), (7, 0), (8, 0), (9, 0), (11, 1), (11, 2), (15, 0), (16, 1), (16, 2), (16, 3), (16, 4), (16, 5), (16, 6), (16, 7), (16, 8), (16, 9), (16, 10), (16, 11), (16, 12), (16, 13), (16, 14), (16, 15), (16, 16), (16, 17), (16, 18), (16, 19), (17, 0), (18, 0), (19, 0), (20, 0), (21, 0), (22, 0), (23, 0), (24, 0), (25, 0), (26, 1), (26, 2), (29, 0), (30, 1), (30, 2), (30, 3), (30, 4), (30, 5), (30, 6), (30, 7), (30, 8), (30, 9), (30, 10), (30, 11), (30, 12), (30, 13), (30, 14), (30, 15), (30, 16), (30, 17), (30, 18), (30, 19), (31, 0), (32, 0), (33, 0), (34, 0), (35, 0), (36, 0), (37, 0), (38, 0), (39, 0), (40, 1), (40, 2), (43, 0), (44, 0), (45, 1), (45, 2), (46, 0), (47, 1), (47, 2), (47, 3), (47, 4), (47, 5), (47, 6), (47, 7), (47, 8), (47, 9), (47, 10), (47, 11), (50, 1), (50, 2), (50, 3), (53, 1), (53, 2), (53, 3), (53, 4), (53, 5), (53, 6), (54, 0), (55, 0), (56, 0), (57, 0), (58, 0), (59, 1), (59, 2), (59, 3), (59, 4), (59, 5), (59, 6), (59, 7), (60, 0), (64, 0), (65, 1), (65, 2), (65, 3), (65, 4), (65, 5), (65, 6), (67, 0), (68, 0), (70, 1), (70, 2), (71, 1), (71, 2), (71, 3), (71, 4), (71, 5), (74, 1), (74, 2), (74, 3), (77, 1), (77, 2), (77, 3), (77, 4), (77, 5), (77, 6), (77, 7), (77, 8), (77, 9), (77, 10), (77, 11), (77, 12), (77, 13), (77, 14), (77, 15), (77, 16), (77, 20), (77, 25), (77, 26), (77, 27), (77, 28), (77, 29), (77, 30), (77, 31), (77, 32), (77, 36), (77, 37), (77, 38), (77, 39), (77, 40), (77, 41), (78, 0), (79, 0), (80, 0), (81, 0), (82, 0), (83, 0), (84, 0), (85, 0), (86, 0), (88, 0), (89, 0), (90, 0), (91, 0)]
def ck_fI : ck_I := ((-2147483648), 2147483647, 0, (0, 0, 0))
def ck_csP : List ck_C := [ck_c16, ck_c17]
def ck_cs1454 : List ck_C := []
def ck_sF1454 : ck_S := (List.replicate 7 ck_fI, [(0, .inr (2, 900)), (1, .inr (0, 0)), (2, .inr (0, 77)), (3, .inl (0, 0, 0))], [], [], 101, 101, 109468)
set_option maxRecDepth 100000 in
theorem ck_lc1454 : ck_run (ck_stepL vwCl ck_mts ck_sh ck_T12 ck_cs1454 ck_wrL 900 7) [] [] [] 600 [] 7 1454 ck_sF1454 = true := by decide +kernel
def ck_cs216 : List ck_C := [ck_c24, ck_c27, ck_c29, ck_c32, ck_c34, ck_c37, ck_c39, ck_c43]
def ck_sF216 : ck_S := (List.replicate 7 ck_fI, [(0, .inr (2, 900)), (1, .inr (0, 0)), (2, .inr (0, 77)), (3, .inl (0, 0, 0))], [], [((0, 1), .inr (0, 1)), ((1, 1), .inl (0, 0)), ((1, 2), .inr (0, 2)), ((1, 3), .inr (0, 3)), ((1, 4), .inr (0, 4)), ((2, 0), .inl (0, 0)), ((3, 0), .inl (0, 0)), ((4, 0), .inl (0, 0)), ((77, 2), .inr (0, 78)), ((78, 0), .inl ((-1), 15)), ((78, 193), .inl (0, 0)), ((78, 194), .inl (0, 0)), ((78, 195), .inl (0, 0)), ((78, 196), .inl (0, 0)), ((78, 197), .inl (0, 0)), ((78, 198), .inl (0, 0)), ((78, 199), .inl (0, 0)), ((78, 200), .inl (0, 0)), ((78, 201), .inl (0, 0)), ((78, 202), .inl (0, 0)), ((78, 203), .inl (0, 0)), ((78, 204), .inl (0, 0)), ((78, 1293), .inl (0, 0)), ((78, 1294), .inl (0, 0)), ((78, 1295), .inl (0, 0))], 101, 101, 109468)
set_option maxRecDepth 100000 in
theorem ck_lc216 : ck_run (ck_stepL vwCl ck_mts ck_sh ck_T12 ck_cs216 ck_wrL 900 7) [] [] [] 600 [] 7 216 ck_sF216 = true := by decide +kernel
def ck_cs259 : List ck_C := [ck_c51, ck_c53, ck_c55, ck_c58, ck_c60, ck_c63, ck_c65, ck_c70, ck_c73]
def ck_sF259 : ck_S := (List.replicate 7 ck_fI, [(0, .inr (2, 900)), (1, .inr (0, 0)), (2, .inr (0, 77)), (3, .inl (0, 0, 0))], [], [((0, 1), .inr (0, 1)), ((1, 1), .inl (0, 0)), ((77, 2), .inr (0, 78)), ((78, 1293), .inl (0, 0))], 101, 101, 109468)
set_option maxRecDepth 100000 in
theorem ck_lc259 : ck_run (ck_stepL vwCl ck_mts ck_sh ck_T12 ck_cs259 ck_wrL 900 7) [] [] [] 600 [] 7 259 ck_sF259 = true := by decide +kernel
def ck_cs312 : List ck_C := [ck_c74, ck_c75, ck_c76, ck_c77, ck_c78]
def ck_sF312 : ck_S := (List.replicate 7 ck_fI, [(0, .inr (2, 900)), (1, .inr (0, 0)), (2, .inr (0, 77)), (3, .inl (0, 0, 0))], [], [((0, 1), .inr (0, 1)), ((1, 1), .inl (0, 0)), ((77, 2), .inr (0, 78)), ((78, 1293), .inl (0, 0))], 101, 101, 109468)
set_option maxRecDepth 100000 in
theorem ck_lc312 : ck_run (ck_stepL vwCl ck_mts ck_sh ck_T12 ck_cs312 ck_wrL 900 7) [] [] [] 600 [] 7 312 ck_sF312 = true := by decide +kernel
end
section
def ck_cs345 : List ck_C := [ck_c81, ck_c82, ck_c83, ck_c97, ck_c99, ck_c113]
def ck_sF345 : ck_S := (List.replicate 7 ck_fI, [(0, .inr (2, 900)), (1, .inr (0, 0)), (2, .inr (0, 77)), (3, .inl (0, 0, 0))], [], [((0, 1), .inr (0, 1)), ((1, 7), .inr (0, 7)), ((7, 0), .inl (0, 0)), ((77, 2), .inr (0, 78)), ((78, 0), .inl ((-1), 15)), ((78, 193), .inl (0, 0)), ((78, 194), .inl (0, 0)), ((78, 195), .inl (0, 0)), ((78, 196), .inl (0, 0)), ((78, 197), .inl (0, 0)), ((78, 198), .inl (0, 0)), ((78, 199), .inl (0, 0)), ((78, 200), .inl (0, 0)), ((78, 201), .inl (0, 0)), ((78, 202), .inl (0, 0)), ((78, 203), .inl (0, 0)), ((78, 204), .inl (0, 0)), ((78, 1293), .inl (0, 0)), ((78, 1294), .inl (0, 0)), ((78, 1295), .inl (0, 0))], 101, 101, 109468)
set_option maxRecDepth 100000 in
theorem ck_lc345 : ck_run (ck_stepL vwCl ck_mts ck_sh ck_T12 ck_cs345 ck_wrL 900 7) [] [] [] 600 [] 7 345 ck_sF345 = true := by decide +kernel
def ck_cs378 : List ck_C := [ck_c116, ck_c117, ck_c118, ck_c120, ck_c122, ck_c124, ck_c125, ck_c126]
def ck_sF378 : ck_S := (List.replicate 7 ck_fI, [(0, .inr (2, 900)), (1, .inr (0, 0)), (2, .inr (0, 77)), (3, .inl (0, 0, 0))], [], [((0, 1), .inr (0, 1)), ((1, 8), .inr (0, 8)), ((1, 9), .inr (0, 9)), ((8, 0), .inl (0, 0)), ((9, 0), .inl (0, 0)), ((77, 2), .inr (0, 78)), ((78, 0), .inl ((-1), 15)), ((78, 193), .inl (0, 0)), ((78, 194), .inl (0, 0)), ((78, 195), .inl (0, 0)), ((78, 196), .inl (0, 0)), ((78, 197), .inl (0, 0)), ((78, 198), .inl (0, 0)), ((78, 199), .inl (0, 0)), ((78, 200), .inl (0, 0)), ((78, 201), .inl (0, 0)), ((78, 202), .inl (0, 0)), ((78, 203), .inl (0, 0)), ((78, 204), .inl (0, 0)), ((78, 1293), .inl (0, 0)), ((78, 1294), .inl (0, 0)), ((78, 1295), .inl (0, 0))], 101, 101, 109468)
set_option maxRecDepth 100000 in
theorem ck_lc378 : ck_run (ck_stepL vwCl ck_mts ck_sh ck_T12 ck_cs378 ck_wrL 900 7) [] [] [] 600 [] 7 378 ck_sF378 = true := by decide +kernel
def ck_cs421 : List ck_C := [ck_c128, ck_c130, ck_c132, ck_c134]
def ck_sF421 : ck_S := (List.replicate 7 ck_fI, [(0, .inr (2, 900)), (1, .inr (0, 0)), (2, .inr (0, 77)), (3, .inl (0, 0, 0))], [], [((0, 1), .inr (0, 1)), ((77, 2), .inr (0, 78)), ((78, 0), .inl ((-1), 15)), ((78, 193), .inl (0, 0)), ((78, 194), .inl (0, 0)), ((78, 195), .inl (0, 0)), ((78, 196), .inl (0, 0)), ((78, 197), .inl (0, 0)), ((78, 198), .inl (0, 0)), ((78, 199), .inl (0, 0)), ((78, 200), .inl (0, 0)), ((78, 201), .inl (0, 0)), ((78, 202), .inl (0, 0)), ((78, 203), .inl (0, 0)), ((78, 204), .inl (0, 0)), ((78, 1293), .inl (0, 0)), ((78, 1294), .inl (0, 0)), ((78, 1295), .inl (0, 0))], 101, 101, 109468)
set_option maxRecDepth 100000 in
theorem ck_lc421 : ck_run (ck_stepL vwCl ck_mts ck_sh ck_T12 ck_cs421 ck_wrL 900 7) [] [] [] 600 [] 7 421 ck_sF421 = true := by decide +kernel
def ck_cs444 : List ck_C := [ck_c140, ck_c141]
def ck_sF444 : ck_S := (List.replicate 7 ck_fI, [(0, .inr (2, 900)), (1, .inr (0, 0)), (2, .inr (0, 77)), (3, .inl (0, 0, 0))], [], [((0, 4), .inr (0, 45)), ((45, 1), .inr (0, 46)), ((45, 2), .inl (0, 0)), ((46, 0), .inl (0, 0)), ((77, 6), .inr (0, 82)), ((77, 7), .inr (0, 83)), ((77, 8), .inl (0, 0)), ((82, 0), .inl (0, 0)), ((83, 0), .inl (0, 0))], 101, 101, 109468)
set_option maxRecDepth 100000 in
theorem ck_lc444 : ck_run (ck_stepL vwCl ck_mts ck_sh ck_T12 ck_cs444 ck_wrL 900 7) [] [] [] 600 [] 7 444 ck_sF444 = true := by decide +kernel
end
section
def ck_cs507 : List ck_C := [ck_c143, ck_c145, ck_c147, ck_c149]
def ck_sF507 : ck_S := (List.replicate 7 ck_fI, [(0, .inr (2, 900)), (1, .inr (0, 0)), (2, .inr (0, 77)), (3, .inl (0, 0, 0))], [], [((0, 4), .inr (0, 45)), ((45, 2), .inl (0, 0)), ((77, 8), .inl (0, 0))], 101, 101, 109468)
set_option maxRecDepth 100000 in
theorem ck_lc507 : ck_run (ck_stepL vwCl ck_mts ck_sh ck_T12 ck_cs507 ck_wrL 900 7) [] [] [] 600 [] 7 507 ck_sF507 = true := by decide +kernel
def ck_cs530 : List ck_C := [ck_c163, ck_c180]
def ck_sF530 : ck_S := (List.replicate 7 ck_fI, [(0, .inr (2, 900)), (1, .inr (0, 0)), (2, .inr (0, 77)), (3, .inl (0, 0, 0))], [], [((0, 1), .inr (0, 1)), ((0, 4), .inr (0, 45)), ((0, 5), .inr (0, 47)), ((1, 12), .inl (0, 0)), ((45, 2), .inl (0, 0)), ((47, 1), .inr (0, 45)), ((47, 8), .inl (0, 0)), ((47, 9), .inl (0, 0)), ((47, 10), .inl (0, 0)), ((77, 2), .inr (0, 78)), ((77, 8), .inl (0, 0)), ((77, 10), .inr (0, 84)), ((77, 11), .inr (0, 85)), ((77, 12), .inr (0, 86)), ((77, 13), .inl (0, 0)), ((77, 14), .inl (0, 0)), ((77, 16), .inl (0, 0)), ((78, 1295), .inl (0, 0)), ((84, 0), .inl (0, 0)), ((85, 0), .inl (0, 0)), ((86, 0), .inl (0, 0))], 101, 101, 109468)
set_option maxRecDepth 100000 in
theorem ck_lc530 : ck_run (ck_stepL vwCl ck_mts ck_sh ck_T12 ck_cs530 ck_wrL 900 7) [] [] [] 600 [] 7 530 ck_sF530 = true := by decide +kernel
def ck_cs543 : List ck_C := [ck_c181, ck_c182]
def ck_sF543 : ck_S := (List.replicate 7 ck_fI, [(0, .inr (2, 900)), (1, .inr (0, 0)), (2, .inr (0, 77)), (3, .inl (0, 0, 0))], [], [((0, 14), .inl ((-1), (-1))), ((77, 9), .inl ((-1), (-1)))], 101, 101, 109468)
set_option maxRecDepth 100000 in
theorem ck_lc543 : ck_run (ck_stepL vwCl ck_mts ck_sh ck_T12 ck_cs543 ck_wrL 900 7) [] [] [] 600 [] 7 543 ck_sF543 = true := by decide +kernel
def ck_cs556 : List ck_C := [ck_c183, ck_c185, ck_c187]
def ck_sF556 : ck_S := (List.replicate 7 ck_fI, [(0, .inr (2, 900)), (1, .inr (0, 0)), (2, .inr (0, 77)), (3, .inl (0, 0, 0))], [], [((0, 1), .inr (0, 1)), ((1, 12), .inl (0, 0)), ((77, 2), .inr (0, 78)), ((78, 1295), .inl (0, 0))], 101, 101, 109468)
set_option maxRecDepth 100000 in
theorem ck_lc556 : ck_run (ck_stepL vwCl ck_mts ck_sh ck_T12 ck_cs556 ck_wrL 900 7) [] [] [] 600 [] 7 556 ck_sF556 = true := by decide +kernel
end
section
def ck_cs579 : List ck_C := [ck_c188, ck_c189, ck_c190]
def ck_sF579 : ck_S := (List.replicate 7 ck_fI, [(0, .inr (2, 900)), (1, .inr (0, 0)), (2, .inr (0, 77)), (3, .inl (0, 0, 0))], [], [((0, 1), .inr (0, 1)), ((1, 1), .inl (0, 0)), ((77, 2), .inr (0, 78)), ((78, 1293), .inl (0, 0))], 101, 101, 109468)
set_option maxRecDepth 100000 in
theorem ck_lc579 : ck_run (ck_stepL vwCl ck_mts ck_sh ck_T12 ck_cs579 ck_wrL 900 7) [] [] [] 600 [] 7 579 ck_sF579 = true := by decide +kernel
def ck_cs632 : List ck_C := [ck_c191, ck_c193, ck_c195, ck_c197, ck_c199, ck_c201, ck_c202, ck_c203, ck_c204, ck_c205, ck_c206]
def ck_sF632 : ck_S := (List.replicate 7 ck_fI, [(0, .inr (2, 900)), (1, .inr (0, 0)), (2, .inr (0, 77)), (3, .inl (0, 0, 0))], [], [((0, 1), .inr (0, 1)), ((1, 1), .inl (0, 0)), ((77, 2), .inr (0, 78)), ((78, 1293), .inl (0, 0))], 101, 101, 109468)
set_option maxRecDepth 100000 in
theorem ck_lc632 : ck_run (ck_stepL vwCl ck_mts ck_sh ck_T12 ck_cs632 ck_wrL 900 7) [] [] [] 600 [] 7 632 ck_sF632 = true := by decide +kernel
def ck_cs707 : List ck_C := [ck_c207, ck_c208]
def ck_sF707 : ck_S := (List.replicate 7 ck_fI, [(0, .inr (2, 900)), (1, .inr (0, 0)), (2, .inr (0, 77)), (3, .inl (0, 0, 0))], [], [((0, 4), .inr (0, 45)), ((45, 2), .inl (0, 0)), ((77, 8), .inl (0, 0))], 101, 101, 109468)
set_option maxRecDepth 100000 in
theorem ck_lc707 : ck_run (ck_stepL vwCl ck_mts ck_sh ck_T12 ck_cs707 ck_wrL 900 7) [] [] [] 600 [] 7 707 ck_sF707 = true := by decide +kernel
def ck_cs720 : List ck_C := [ck_c210, ck_c212, ck_c214]
def ck_sF720 : ck_S := (List.replicate 7 ck_fI, [(0, .inr (2, 900)), (1, .inr (0, 0)), (2, .inr (0, 77)), (3, .inl (0, 0, 0))], [], [((0, 1), .inr (0, 1)), ((1, 15), .inl (0, 0)), ((77, 2), .inr (0, 78)), ((78, 1294), .inl (0, 0))], 101, 101, 109468)
set_option maxRecDepth 100000 in
theorem ck_lc720 : ck_run (ck_stepL vwCl ck_mts ck_sh ck_T12 ck_cs720 ck_wrL 900 7) [] [] [] 600 [] 7 720 ck_sF720 = true := by decide +kernel
end
section
def ck_cs753 : List ck_C := [ck_c215, ck_c216, ck_c217]
def ck_sF753 : ck_S := (List.replicate 7 ck_fI, [(0, .inr (2, 900)), (1, .inr (0, 0)), (2, .inr (0, 77)), (3, .inl (0, 0, 0))], [], [((0, 1), .inr (0, 1)), ((1, 15), .inl (0, 0)), ((77, 2), .inr (0, 78)), ((78, 1294), .inl (0, 0))], 101, 101, 109468)
set_option maxRecDepth 100000 in
theorem ck_lc753 : ck_run (ck_stepL vwCl ck_mts ck_sh ck_T12 ck_cs753 ck_wrL 900 7) [] [] [] 600 [] 7 753 ck_sF753 = true := by decide +kernel
def ck_cs776 : List ck_C := [ck_c220, ck_c222, ck_c224, ck_c227, ck_c229, ck_c231, ck_c232, ck_c233]
def ck_sF776 : ck_S := (List.replicate 7 ck_fI, [(0, .inr (2, 900)), (1, .inr (0, 0)), (2, .inr (0, 77)), (3, .inl (0, 0, 0))], [], [((0, 1), .inr (0, 1)), ((1, 15), .inl (0, 0)), ((77, 2), .inr (0, 78)), ((78, 0), .inl ((-1), 15)), ((78, 193), .inl (0, 0)), ((78, 194), .inl (0, 0)), ((78, 195), .inl (0, 0)), ((78, 196), .inl (0, 0)), ((78, 197), .inl (0, 0)), ((78, 198), .inl (0, 0)), ((78, 199), .inl (0, 0)), ((78, 200), .inl (0, 0)), ((78, 201), .inl (0, 0)), ((78, 202), .inl (0, 0)), ((78, 203), .inl (0, 0)), ((78, 204), .inl (0, 0)), ((78, 1293), .inl (0, 0)), ((78, 1294), .inl (0, 0)), ((78, 1295), .inl (0, 0))], 101, 101, 109468)
set_option maxRecDepth 100000 in
theorem ck_lc776 : ck_run (ck_stepL vwCl ck_mts ck_sh ck_T12 ck_cs776 ck_wrL 900 7) [] [] [] 600 [] 7 776 ck_sF776 = true := by decide +kernel
def ck_cs819 : List ck_C := [ck_c235, ck_c236, ck_c237]
def ck_sF819 : ck_S := (List.replicate 7 ck_fI, [(0, .inr (2, 900)), (1, .inr (0, 0)), (2, .inr (0, 77)), (3, .inl (0, 0, 0))], [], [((0, 1), .inr (0, 1)), ((1, 1), .inl (0, 0)), ((77, 2), .inr (0, 78)), ((78, 1293), .inl (0, 0))], 101, 101, 109468)
set_option maxRecDepth 100000 in
theorem ck_lc819 : ck_run (ck_stepL vwCl ck_mts ck_sh ck_T12 ck_cs819 ck_wrL 900 7) [] [] [] 600 [] 7 819 ck_sF819 = true := by decide +kernel
def ck_cs852 : List ck_C := [ck_c238, ck_c239, ck_c240]
def ck_sF852 : ck_S := (List.replicate 7 ck_fI, [(0, .inr (2, 900)), (1, .inr (0, 0)), (2, .inr (0, 77)), (3, .inl (0, 0, 0))], [], [((0, 1), .inr (0, 1)), ((1, 1), .inl (0, 0)), ((77, 2), .inr (0, 78)), ((78, 1293), .inl (0, 0))], 101, 101, 109468)
set_option maxRecDepth 100000 in
theorem ck_lc852 : ck_run (ck_stepL vwCl ck_mts ck_sh ck_T12 ck_cs852 ck_wrL 900 7) [] [] [] 600 [] 7 852 ck_sF852 = true := by decide +kernel
end
section
def ck_cs885 : List ck_C := [ck_c250, ck_c253]
def ck_sF885 : ck_S := (List.replicate 7 ck_fI, [(0, .inr (2, 900)), (1, .inr (0, 0)), (2, .inr (0, 77)), (3, .inl (0, 0, 0))], [], [((0, 7), .inr (0, 53)), ((0, 8), .inr (0, 59)), ((1, 1), .inl (0, 0)), ((1, 15), .inl (0, 0)), ((53, 1), .inr (0, 1)), ((53, 2), .inr (0, 54)), ((53, 3), .inr (0, 55)), ((53, 4), .inr (0, 56)), ((53, 5), .inr (0, 57)), ((53, 6), .inr (0, 58)), ((54, 0), .inl (0, 0)), ((55, 0), .inl (0, 0)), ((56, 0), .inl (0, 0)), ((57, 0), .inl (0, 0)), ((58, 0), .inl (0, 0)), ((59, 1), .inr (0, 1)), ((59, 2), .inr (0, 60)), ((60, 0), .inl (0, 0)), ((60, 1), .inl (0, 0)), ((77, 2), .inr (0, 78)), ((77, 25), .inr (0, 88)), ((77, 26), .inr (0, 89)), ((77, 27), .inr (0, 90)), ((78, 1293), .inl (0, 0)), ((78, 1294), .inl (0, 0)), ((88, 0), .inl (0, 0)), ((89, 0), .inl (0, 0)), ((90, 0), .inl (0, 0)), ((90, 1), .inl (0, 0))], 101, 101, 109468)
set_option maxRecDepth 100000 in
theorem ck_lc885 : ck_run (ck_stepL vwCl ck_mts ck_sh ck_T12 ck_cs885 ck_wrL 900 7) [] [] [] 600 [] 7 885 ck_sF885 = true := by decide +kernel
def ck_cs898 : List ck_C := [ck_c254, ck_c255, ck_c256]
def ck_sF898 : ck_S := (List.replicate 7 ck_fI, [(0, .inr (2, 900)), (1, .inr (0, 0)), (2, .inr (0, 77)), (3, .inl (0, 0, 0))], [], [((0, 1), .inr (0, 1)), ((1, 1), .inl (0, 0)), ((77, 2), .inr (0, 78)), ((78, 1293), .inl (0, 0))], 101, 101, 109468)
set_option maxRecDepth 100000 in
theorem ck_lc898 : ck_run (ck_stepL vwCl ck_mts ck_sh ck_T12 ck_cs898 ck_wrL 900 7) [] [] [] 600 [] 7 898 ck_sF898 = true := by decide +kernel
def ck_cs931 : List ck_C := [ck_c257, ck_c258, ck_c259]
def ck_sF931 : ck_S := (List.replicate 7 ck_fI, [(0, .inr (2, 900)), (1, .inr (0, 0)), (2, .inr (0, 77)), (3, .inl (0, 0, 0))], [], [((0, 1), .inr (0, 1)), ((1, 1), .inl (0, 0)), ((77, 2), .inr (0, 78)), ((78, 1293), .inl (0, 0))], 101, 101, 109468)
set_option maxRecDepth 100000 in
theorem ck_lc931 : ck_run (ck_stepL vwCl ck_mts ck_sh ck_T12 ck_cs931 ck_wrL 900 7) [] [] [] 600 [] 7 931 ck_sF931 = true := by decide +kernel
def ck_cs954 : List ck_C := [ck_c260, ck_c261]
def ck_sF954 : ck_S := (List.replicate 7 ck_fI, [(0, .inr (2, 900)), (1, .inr (0, 0)), (2, .inr (0, 77)), (3, .inl (0, 0, 0))], [], [((0, 1), .inr (0, 1)), ((0, 7), .inr (0, 53)), ((1, 1), .inl (0, 0)), ((1, 15), .inl (0, 0)), ((53, 1), .inr (0, 1)), ((53, 2), .inr (0, 54)), ((53, 3), .inr (0, 55)), ((53, 4), .inr (0, 56)), ((53, 5), .inr (0, 57)), ((53, 6), .inr (0, 58)), ((54, 0), .inl (0, 0)), ((55, 0), .inl (0, 0)), ((56, 0), .inl (0, 0)), ((57, 0), .inl (0, 0)), ((58, 0), .inl (0, 0)), ((77, 2), .inr (0, 78)), ((78, 1293), .inl (0, 0))], 101, 101, 109468)
set_option maxRecDepth 100000 in
theorem ck_lc954 : ck_run (ck_stepL vwCl ck_mts ck_sh ck_T12 ck_cs954 ck_wrL 900 7) [] [] [] 600 [] 7 954 ck_sF954 = true := by decide +kernel
end
section
def ck_cs967 : List ck_C := [ck_c266, ck_c267]
def ck_sF967 : ck_S := (List.replicate 7 ck_fI, [(0, .inr (2, 900)), (1, .inr (0, 0)), (2, .inr (0, 77)), (3, .inl (0, 0, 0))], [], [((0, 7), .inr (0, 53)), ((0, 8), .inr (0, 59)), ((1, 1), .inl (0, 0)), ((1, 15), .inl (0, 0)), ((53, 1), .inr (0, 1)), ((53, 2), .inr (0, 54)), ((53, 3), .inr (0, 55)), ((53, 4), .inr (0, 56)), ((53, 5), .inr (0, 57)), ((53, 6), .inr (0, 58)), ((54, 0), .inl (0, 0)), ((55, 0), .inl (0, 0)), ((56, 0), .inl (0, 0)), ((57, 0), .inl (0, 0)), ((58, 0), .inl (0, 0)), ((59, 1), .inr (0, 1)), ((59, 2), .inr (0, 60)), ((59, 5), .inl (0, 0)), ((59, 7), .inr (0, 64)), ((60, 0), .inl (0, 0)), ((60, 1), .inl (0, 0)), ((64, 0), .inl ((-1), 0)), ((77, 2), .inr (0, 78)), ((77, 25), .inr (0, 88)), ((77, 26), .inr (0, 89)), ((77, 28), .inr (0, 91)), ((78, 1293), .inl (0, 0)), ((78, 1294), .inl (0, 0)), ((88, 0), .inl (0, 0)), ((89, 0), .inl (0, 0)), ((91, 0), .inl (0, 0)), ((91, 1), .inl (0, 0))], 101, 101, 109468)
set_option maxRecDepth 100000 in
theorem ck_lc967 : ck_run (ck_stepL vwCl ck_mts ck_sh ck_T12 ck_cs967 ck_wrL 900 7) [] [] [] 600 [] 7 967 ck_sF967 = true := by decide +kernel
def ck_cs980 : List ck_C := [ck_c268, ck_c270, ck_c272]
def ck_sF980 : ck_S := (List.replicate 7 ck_fI, [(0, .inr (2, 900)), (1, .inr (0, 0)), (2, .inr (0, 77)), (3, .inl (0, 0, 0))], [], [((0, 8), .inr (0, 59)), ((59, 5), .inl (0, 0)), ((77, 30), .inl ((-1), (-1)))], 101, 101, 109468)
set_option maxRecDepth 100000 in
theorem ck_lc980 : ck_run (ck_stepL vwCl ck_mts ck_sh ck_T12 ck_cs980 ck_wrL 900 7) [] [] [] 600 [] 7 980 ck_sF980 = true := by decide +kernel
def ck_cs1003 : List ck_C := [ck_c273, ck_c274]
def ck_sF1003 : ck_S := (List.replicate 7 ck_fI, [(0, .inr (2, 900)), (1, .inr (0, 0)), (2, .inr (0, 77)), (3, .inl (0, 0, 0))], [], [((0, 1), .inr (0, 1)), ((1, 15), .inl (0, 0)), ((77, 2), .inr (0, 78)), ((78, 1294), .inl (0, 0))], 101, 101, 109468)
set_option maxRecDepth 100000 in
theorem ck_lc1003 : ck_run (ck_stepL vwCl ck_mts ck_sh ck_T12 ck_cs1003 ck_wrL 900 7) [] [] [] 600 [] 7 1003 ck_sF1003 = true := by decide +kernel
def ck_cs1026 : List ck_C := [ck_c275, ck_c276, ck_c277]
def ck_sF1026 : ck_S := (List.replicate 7 ck_fI, [(0, .inr (2, 900)), (1, .inr (0, 0)), (2, .inr (0, 77)), (3, .inl (0, 0, 0))], [], [((0, 1), .inr (0, 1)), ((1, 1), .inl (0, 0)), ((77, 2), .inr (0, 78)), ((78, 1293), .inl (0, 0))], 101, 101, 109468)
set_option maxRecDepth 100000 in
theorem ck_lc1026 : ck_run (ck_stepL vwCl ck_mts ck_sh ck_T12 ck_cs1026 ck_wrL 900 7) [] [] [] 600 [] 7 1026 ck_sF1026 = true := by decide +kernel
end
section
def ck_cs1059 : List ck_C := [ck_c278, ck_c279, ck_c280]
def ck_sF1059 : ck_S := (List.replicate 7 ck_fI, [(0, .inr (2, 900)), (1, .inr (0, 0)), (2, .inr (0, 77)), (3, .inl (0, 0, 0))], [], [((0, 1), .inr (0, 1)), ((1, 1), .inl (0, 0)), ((77, 2), .inr (0, 78)), ((78, 1293), .inl (0, 0))], 101, 101, 109468)
set_option maxRecDepth 100000 in
theorem ck_lc1059 : ck_run (ck_stepL vwCl ck_mts ck_sh ck_T12 ck_cs1059 ck_wrL 900 7) [] [] [] 600 [] 7 1059 ck_sF1059 = true := by decide +kernel
def ck_cs1082 : List ck_C := [ck_c284, ck_c287, ck_c288, ck_c289, ck_c290, ck_c291]
def ck_sF1082 : ck_S := (List.replicate 7 ck_fI, [(0, .inr (2, 900)), (1, .inr (0, 0)), (2, .inr (0, 77)), (3, .inl (0, 0, 0))], [], [((0, 1), .inr (0, 1)), ((1, 1), .inl (0, 0)), ((77, 2), .inr (0, 78)), ((78, 1293), .inl (0, 0))], 101, 101, 109468)
set_option maxRecDepth 100000 in
theorem ck_lc1082 : ck_run (ck_stepL vwCl ck_mts ck_sh ck_T12 ck_cs1082 ck_wrL 900 7) [] [] [] 600 [] 7 1082 ck_sF1082 = true := by decide +kernel
def ck_cs1115 : List ck_C := [ck_c293, ck_c296, ck_c298, ck_c300, ck_c304]
def ck_sF1115 : ck_S := (List.replicate 7 ck_fI, [(0, .inr (2, 900)), (1, .inr (0, 0)), (2, .inr (0, 77)), (3, .inl (0, 0, 0))], [], [((0, 8), .inr (0, 59)), ((59, 5), .inl (0, 0)), ((77, 30), .inl ((-1), (-1)))], 101, 101, 109468)
set_option maxRecDepth 100000 in
theorem ck_lc1115 : ck_run (ck_stepL vwCl ck_mts ck_sh ck_T12 ck_cs1115 ck_wrL 900 7) [] [] [] 600 [] 7 1115 ck_sF1115 = true := by decide +kernel
def ck_cs1148 : List ck_C := [ck_c305, ck_c306, ck_c307, ck_c310, ck_c312]
def ck_sF1148 : ck_S := (List.replicate 7 ck_fI, [(0, .inr (2, 900)), (1, .inr (0, 0)), (2, .inr (0, 77)), (3, .inl (0, 0, 0))], [], [((0, 1), .inr (0, 1)), ((1, 1), .inl (0, 0)), ((77, 2), .inr (0, 78)), ((78, 1293), .inl (0, 0))], 101, 101, 109468)
set_option maxRecDepth 100000 in
theorem ck_lc1148 : ck_run (ck_stepL vwCl ck_mts ck_sh ck_T12 ck_cs1148 ck_wrL 900 7) [] [] [] 600 [] 7 1148 ck_sF1148 = true := by decide +kernel
end
section
def ck_cs1181 : List ck_C := [ck_c313, ck_c315, ck_c316]
def ck_sF1181 : ck_S := (List.replicate 7 ck_fI, [(0, .inr (2, 900)), (1, .inr (0, 0)), (2, .inr (0, 77)), (3, .inl (0, 0, 0))], [], [((0, 1), .inr (0, 1)), ((1, 1), .inl (0, 0)), ((77, 2), .inr (0, 78)), ((78, 1293), .inl (0, 0))], 101, 101, 109468)
set_option maxRecDepth 100000 in
theorem ck_lc1181 : ck_run (ck_stepL vwCl ck_mts ck_sh ck_T12 ck_cs1181 ck_wrL 900 7) [] [] [] 600 [] 7 1181 ck_sF1181 = true := by decide +kernel
def ck_cs1204 : List ck_C := [ck_c323, ck_c324, ck_c325, ck_c327, ck_c329]
def ck_sF1204 : ck_S := (List.replicate 7 ck_fI, [(0, .inr (2, 900)), (1, .inr (0, 0)), (2, .inr (0, 77)), (3, .inl (0, 0, 0))], [], [((0, 8), .inr (0, 59)), ((0, 9), .inr (0, 65)), ((1, 1), .inl (0, 0)), ((1, 15), .inl (0, 0)), ((65, 1), .inr (0, 1)), ((65, 4), .inr (0, 67)), ((65, 5), .inr (0, 68)), ((67, 0), .inl (0, 0)), ((68, 0), .inl (0, 0)), ((77, 2), .inr (0, 78)), ((77, 30), .inl ((-1), (-1))), ((78, 1293), .inl (0, 0))], 101, 101, 109468)
set_option maxRecDepth 100000 in
theorem ck_lc1204 : ck_run (ck_stepL vwCl ck_mts ck_sh ck_T12 ck_cs1204 ck_wrL 900 7) [] [] [] 600 [] 7 1204 ck_sF1204 = true := by decide +kernel
def ck_cs1227 : List ck_C := [ck_c330, ck_c331, ck_c332]
def ck_sF1227 : ck_S := (List.replicate 7 ck_fI, [(0, .inr (2, 900)), (1, .inr (0, 0)), (2, .inr (0, 77)), (3, .inl (0, 0, 0))], [], [((0, 1), .inr (0, 1)), ((1, 1), .inl (0, 0)), ((77, 2), .inr (0, 78)), ((78, 1293), .inl (0, 0))], 101, 101, 109468)
set_option maxRecDepth 100000 in
theorem ck_lc1227 : ck_run (ck_stepL vwCl ck_mts ck_sh ck_T12 ck_cs1227 ck_wrL 900 7) [] [] [] 600 [] 7 1227 ck_sF1227 = true := by decide +kernel
def ck_cs1260 : List ck_C := [ck_c333, ck_c334, ck_c335, ck_c336, ck_c337, ck_c338]
def ck_sF1260 : ck_S := (List.replicate 7 ck_fI, [(0, .inr (2, 900)), (1, .inr (0, 0)), (2, .inr (0, 77)), (3, .inl (0, 0, 0))], [], [((0, 1), .inr (0, 1)), ((1, 15), .inl (0, 0)), ((77, 2), .inr (0, 78)), ((78, 1294), .inl (0, 0))], 101, 101, 109468)
set_option maxRecDepth 100000 in
theorem ck_lc1260 : ck_run (ck_stepL vwCl ck_mts ck_sh ck_T12 ck_cs1260 ck_wrL 900 7) [] [] [] 600 [] 7 1260 ck_sF1260 = true := by decide +kernel
end
section
def ck_cs1293 : List ck_C := [ck_c339, ck_c340, ck_c341]
def ck_sF1293 : ck_S := (List.replicate 7 ck_fI, [(0, .inr (2, 900)), (1, .inr (0, 0)), (2, .inr (0, 77)), (3, .inl (0, 0, 0))], [], [((0, 1), .inr (0, 1)), ((1, 1), .inl (0, 0)), ((77, 2), .inr (0, 78)), ((78, 1293), .inl (0, 0))], 101, 101, 109468)
set_option maxRecDepth 100000 in
theorem ck_lc1293 : ck_run (ck_stepL vwCl ck_mts ck_sh ck_T12 ck_cs1293 ck_wrL 900 7) [] [] [] 600 [] 7 1293 ck_sF1293 = true := by decide +kernel
def ck_cs1336 : List ck_C := [ck_c343, ck_c344, ck_c345, ck_c347]
def ck_sF1336 : ck_S := (List.replicate 7 ck_fI, [(0, .inr (2, 900)), (1, .inr (0, 0)), (2, .inr (0, 77)), (3, .inl (0, 0, 0))], [], [((0, 1), .inr (0, 1)), ((1, 1), .inl (0, 0)), ((77, 2), .inr (0, 78)), ((78, 1293), .inl (0, 0))], 101, 101, 109468)
set_option maxRecDepth 100000 in
theorem ck_lc1336 : ck_run (ck_stepL vwCl ck_mts ck_sh ck_T12 ck_cs1336 ck_wrL 900 7) [] [] [] 600 [] 7 1336 ck_sF1336 = true := by decide +kernel
def ck_cs1359 : List ck_C := [ck_c348, ck_c349]
def ck_sF1359 : ck_S := (List.replicate 7 ck_fI, [(0, .inr (2, 900)), (1, .inr (0, 0)), (2, .inr (0, 77)), (3, .inl (0, 0, 0))], [], [((0, 1), .inr (0, 1)), ((1, 15), .inl (0, 0)), ((77, 2), .inr (0, 78)), ((78, 1294), .inl (0, 0))], 101, 101, 109468)
set_option maxRecDepth 100000 in
theorem ck_lc1359 : ck_run (ck_stepL vwCl ck_mts ck_sh ck_T12 ck_cs1359 ck_wrL 900 7) [] [] [] 600 [] 7 1359 ck_sF1359 = true := by decide +kernel
def ck_cs1372 : List ck_C := [ck_c372, ck_c373, ck_c375, ck_c376, ck_c378]
def ck_sF1372 : ck_S := (List.replicate 7 ck_fI, [(0, .inr (2, 900)), (1, .inr (0, 0)), (2, .inr (0, 77)), (3, .inl (0, 0, 0))], [], [((0, 1), .inr (0, 1)), ((0, 2), .inr (0, 15)), ((0, 3), .inr (0, 44)), ((1, 1), .inl (0, 0)), ((1, 2), .inr (0, 2)), ((1, 3), .inr (0, 3)), ((1, 4), .inr (0, 4)), ((1, 5), .inr (0, 5)), ((1, 6), .inr (0, 6)), ((1, 7), .inr (0, 7)), ((1, 8), .inr (0, 8)), ((1, 9), .inr (0, 9)), ((1, 10), .inl (0, 0)), ((1, 11), .inl ((-1), (-1))), ((1, 12), .inl (0, 0)), ((1, 13), .inr (0, 10)), ((1, 15), .inl (0, 0)), ((1, 16), .inr (0, 14)), ((1, 17), .inl (7, 7)), ((1, 18), .inl (15, 15)), ((1, 19), .inl (15, 15)), ((2, 0), .inl (0, 0)), ((3, 0), .inl (0, 0)), ((4, 0), .inl (0, 0)), ((5, 0), .inl (0, 0)), ((6, 0), .inl (0, 0)), ((7, 0), .inl (0, 0)), ((8, 0), .inl (0, 0)), ((9, 0), .inl (0, 0)), ((10, 0), .inr (1, 0)), ((14, 0), .inl (0, 0)), ((15, 1), .inr (0, 16)), ((15, 2), .inr (0, 30)), ((16, 2), .inr (0, 17)), ((16, 3), .inr (0, 18)), ((16, 4), .inr (0, 19)), ((16, 5), .inr (0, 20)), ((16, 6), .inr (0, 21)), ((16, 7), .inr (0, 22)), ((16, 8), .inr (0, 23)), ((16, 9), .inr (0, 24)), ((16, 13), .inr (0, 25)), ((16, 16), .inr (0, 29)), ((17, 0), .inl (0, 0)), ((18, 0), .inl (0, 0)), ((19, 0), .inl (0, 0)), ((20, 0), .inl (0, 0)), ((21, 0), .inl (0, 0)), ((22, 0), .inl (0, 0)), ((23, 0), .inl (0, 0)), ((24, 0), .inl (0, 0)), ((25, 0), .inr (1, 0)), ((29, 0), .inl (0, 0)), ((30, 2), .inr (0, 31)), ((30, 3), .inr (0, 32)), ((30, 4), .inr (0, 33)), ((30, 5), .inr (0, 34)), ((30, 6), .inr (0, 35)), ((30, 7), .inr (0, 36)), ((30, 8), .inr (0, 37)), ((30, 9), .inr (0, 38)), ((30, 13), .inr (0, 39)), ((30, 16), .inr (0, 43)), ((31, 0), .inl (0, 0)), ((32, 0), .inl (0, 0)), ((33, 0), .inl (0, 0)), ((34, 0), .inl (0, 0)), ((35, 0), .inl (0, 0)), ((36, 0), .inl (0, 0)), ((37, 0), .inl (0, 0)), ((38, 0), .inl (0, 0)), ((39, 0), .inr (1, 0)), ((43, 0), .inl (0, 0)), ((44, 0), .inl (0, 0)), ((77, 2), .inr (0, 78)), ((77, 3), .inr (0, 79)), ((77, 4), .inr (0, 80)), ((78, 0), .inl ((-1), 15)), ((79, 0), .inl (0, 0)), ((80, 0), .inl (0, 0))], 101, 101, 109468)
set_option maxRecDepth 100000 in
theorem ck_lc1372 : ck_run (ck_stepL vwCl ck_mts ck_sh ck_T12 ck_cs1372 ck_wrL 900 7) [] [] [] 600 [] 7 1372 ck_sF1372 = true := by decide +kernel
end
section
def ck_cs1395 : List ck_C := [ck_c379, ck_c380, ck_c381, ck_c382]
def ck_sF1395 : ck_S := (List.replicate 7 ck_fI, [(0, .inr (2, 900)), (1, .inr (0, 0)), (2, .inr (0, 77)), (3, .inl (0, 0, 0))], [], [((0, 3), .inr (0, 44)), ((44, 0), .inl (0, 0)), ((77, 4), .inr (0, 80)), ((80, 0), .inl (0, 0))], 101, 101, 109468)
set_option maxRecDepth 100000 in
theorem ck_lc1395 : ck_run (ck_stepL vwCl ck_mts ck_sh ck_T12 ck_cs1395 ck_wrL 900 7) [] [] [] 600 [] 7 1395 ck_sF1395 = true := by decide +kernel
def ck_cs1418 : List ck_C := [ck_c384, ck_c385, ck_c386, ck_c387, ck_c388, ck_c389, ck_c390, ck_c391]
def ck_sF1418 : ck_S := (List.replicate 7 ck_fI, [(0, .inr (2, 900)), (1, .inr (0, 0)), (2, .inr (0, 77)), (3, .inl (0, 0, 0))], [], [((0, 1), .inr (0, 1)), ((0, 4), .inr (0, 45)), ((1, 1), .inl (0, 0)), ((1, 12), .inl (0, 0)), ((1, 15), .inl (0, 0)), ((45, 2), .inl (0, 0)), ((77, 2), .inr (0, 78)), ((77, 8), .inl (0, 0)), ((78, 1293), .inl (0, 0)), ((78, 1294), .inl (0, 0)), ((78, 1295), .inl (0, 0))], 101, 101, 109468)
set_option maxRecDepth 100000 in
theorem ck_lc1418 : ck_run (ck_stepL vwCl ck_mts ck_sh ck_T12 ck_cs1418 ck_wrL 900 7) [] [] [] 600 [] 7 1418 ck_sF1418 = true := by decide +kernel
def ck_cs1441 : List ck_C := [ck_c392, ck_c393]
def ck_sF1441 : ck_S := (List.replicate 7 ck_fI, [(0, .inr (2, 900)), (1, .inr (0, 0)), (2, .inr (0, 77)), (3, .inl (0, 0, 0))], [], [((0, 15), .inl (0, 0)), ((77, 1), .inl (0, 0))], 101, 101, 109468)
set_option maxRecDepth 100000 in
theorem ck_lc1441 : ck_run (ck_stepL vwCl ck_mts ck_sh ck_T12 ck_cs1441 ck_wrL 900 7) [] [] [] 600 [] 7 1441 ck_sF1441 = true := by decide +kernel
end
section
def ck_lv : List (Nat × ck_S) := [(1454, ck_sF1454), (216, ck_sF216), (259, ck_sF259), (312, ck_sF312), (345, ck_sF345), (378, ck_sF378), (421, ck_sF421), (444, ck_sF444), (507, ck_sF507), (530, ck_sF530), (543, ck_sF543), (556, ck_sF556), (579, ck_sF579), (632, ck_sF632), (707, ck_sF707), (720, ck_sF720), (753, ck_sF753), (776, ck_sF776), (819, ck_sF819), (852, ck_sF852), (885, ck_sF885), (898, ck_sF898), (931, ck_sF931), (954, ck_sF954), (967, ck_sF967), (980, ck_sF980), (1003, ck_sF1003), (1026, ck_sF1026), (1059, ck_sF1059), (1082, ck_sF1082), (1115, ck_sF1115), (1148, ck_sF1148), (1181, ck_sF1181), (1204, ck_sF1204), (1227, ck_sF1227), (1260, ck_sF1260), (1293, ck_sF1293), (1336, ck_sF1336), (1359, ck_sF1359), (1372, ck_sF1372), (1395, ck_sF1395), (1418, ck_sF1418), (1441, ck_sF1441)]
set_option maxRecDepth 100000 in
theorem ck_lp : ck_run (ck_stepL vwCl ck_mts ck_sh ck_T12 ck_csP ck_wrL 900 7) [] [] ck_lv 600 [] 7 0 (List.replicate 7 ck_fI, [(0, .inr (2, 900))], [], [], 0, 0, 0) = true := by decide +kernel
set_option maxRecDepth 100000 in
theorem ck_ls : ∀ n, n < 7 → ck_run (ck_stepL vwCl ck_mts ck_sh ck_T12 ck_csP ck_wrL 900 n) [] [] [] 600 [] n 0 (List.replicate n ck_fI, [(0, .inr (2, 900))], [], [], 0, 0, 0) = true := by decide +kernel
end
section
/-! THE LAW FROM ITS ENTRY -/
theorem ck_okIn : ∀ (ci : Nat) (C : String) (T : u_T) (N : Nat), vwCl[ci]? = some (C, T, N) → Cond.instantiable C N ∈ ck_TS := by
  intro ci C T N h
  match ci, h with
  | 0, h => cases h; exact (ck_mem 153 (by decide +kernel) (by decide +kernel))
  | 1, h => cases h; exact (ck_mem 396 (by decide +kernel) (by decide +kernel))
  | 2, h => cases h; exact (ck_mem 457 (by decide +kernel) (by decide +kernel))
  | 3, h => cases h; exact (ck_mem 363 (by decide +kernel) (by decide +kernel))
  | 4, h => cases h; exact (ck_mem 317 (by decide +kernel) (by decide +kernel))
  | 5, h => cases h; exact (ck_mem 277 (by decide +kernel) (by decide +kernel))
  | 6, h => cases h; exact (ck_mem 422 (by decide +kernel) (by decide +kernel))
  | 7, h => cases h; exact (ck_mem 435 (by decide +kernel) (by decide +kernel))
  | 8, h => cases h; exact (ck_mem 259 (by decide +kernel) (by decide +kernel))
  | 9, h => cases h; exact (ck_mem 160 (by decide +kernel) (by decide +kernel))
  | 10, h => cases h; exact (ck_mem 334 (by decide +kernel) (by decide +kernel))
  | 11, h => cases h; exact (ck_mem 145 (by decide +kernel) (by decide +kernel))
  | 12, h => cases h; exact (ck_mem 1294 (by decide +kernel) (by decide +kernel))
  | k + 13, h => simp [vwCl] at h
theorem ck_lit {own tx : String} {x : Nat} {b : Nat} {s : State} (hts : ∀ w ∈ lw_tbl, w.before #[Value.ref b] s = true) (hgv : (Jvm.Cond.and given_1 narrow_1).before #[Value.ref b] s = true) (h1 : Cond.stringRef own x tx ∈ lw_tbl) (h2 : Cond.exactly (.string own x) "java/lang/String" ∈ flatC (Jvm.Cond.and given_1 narrow_1)) : ∃ a, ∃ tx, vk_R own x tx a s := by
  obtain ⟨a, c, cA, kA, q1, -⟩ := Cond.exactly_spec (args := #[Value.ref b]) (first := s) (o := none) (s := s) (idx := []) (t := .string own x) (cls := "java/lang/String") (flat_of_before _ hgv _ h2)
  exact ⟨a, tx, vk_R.of (hts _ h1) q1⟩
theorem ck_giR {ν : Nat → Int} {xs : Nat → Int32} (h : ∀ j, ν j = (xs j).toInt) (n : Nat) : ck_gi ν (List.replicate n ck_fI) := fun j q hq => by
  have e : q = ck_fI := by
    have := List.mem_of_getElem? hq
    exact (List.mem_replicate.mp this).2
  subst e
  rw [h j]
  have := ck_i32 (xs j)
  exact ⟨this.1, this.2, fun z => by cases z, fun z => by cases z⟩
set_option maxHeartbeats 4000000 in
set_option maxRecDepth 100000 in
/-- THE LAW, from its entry -/
theorem whole_start {p : Program} {e : Env} {s : State} {m : MethodId} {below : List Frame} {meth : Method} {c : Code} (l : Launch) {b L : Nat} {xs : Nat → Int32} (hL : L ≤ 7) (C0 : lw_At p s m meth c b L xs) : W p l e room_1 s m #[Value.ref b] below meth c s.heap [] 0 0 (lw_Z below #[Value.ref b] s) (entryFrame m ([Value.ref b] : List Value).toArray 4) := by
  obtain ⟨hx, hb, hr, hml, hown, hts0, hX, hbl, hlocks, hgv⟩ := id C0
  have hts : ∀ w ∈ ck_TS, w.before #[Value.ref b] s = true := fun w h => hts0 w (List.mem_filter.mp h).1
  have hk : ∀ k : Nat, ∃ y : ClassId × (Nat → Nat), ∀ q, vwCl[k]? = some q → u_Kn s q.1 q.2.1 q.2.2 y.1 y.2 := fun k => by
    cases hq : vwCl[k]? with
    | none => exact ⟨(0, fun _ => 0), fun q h => by cases h⟩
    | some q =>
      obtain ⟨C, T, N⟩ := q
      obtain ⟨cC, iS, h1⟩ := u_known hts (ck_okCl k C T N hq).1 (hts _ (ck_okIn k C T N hq))
      exact ⟨(cC, iS), fun q h => by cases h; exact h1⟩
  obtain ⟨y, hy⟩ := Classical.axiomOfChoice hk
  obtain ⟨D, hDk⟩ : ∃ D : va_G, ∀ k q, vwCl[k]? = some q → u_Kn s q.1 q.2.1 q.2.2 (D.1 k) (D.2 k) := ⟨(fun k => (y k).1, fun k => (y k).2), hy⟩
  have hK : va_K D vwCl [] s := ⟨hDk, fun k q h => by simp at h⟩
  obtain ⟨a0, t0⟩ := ck_lit (own := "ScratchLadder$Reader") (tx := "rung") (x := 104) hts0 hgv (List.mem_of_getElem? (i := 611) (by decide +kernel)) (by decide +kernel)
  obtain ⟨a1, t1⟩ := ck_lit (own := "ScratchLadder$Reader") (tx := "cuts") (x := 127) hts0 hgv (List.mem_of_getElem? (i := 685) (by decide +kernel)) (by decide +kernel)
  obtain ⟨a2, t2⟩ := ck_lit (own := "ScratchLadder$Reader") (tx := "both") (x := 129) hts0 hgv (List.mem_of_getElem? (i := 686) (by decide +kernel)) (by decide +kernel)
  obtain ⟨a3, t3⟩ := ck_lit (own := "ScratchLadder$Reader") (tx := "deep") (x := 131) hts0 hgv (List.mem_of_getElem? (i := 687) (by decide +kernel)) (by decide +kernel)
  obtain ⟨a4, t4⟩ := ck_lit (own := "ScratchLadder$Reader") (tx := "dent") (x := 133) hts0 hgv (List.mem_of_getElem? (i := 688) (by decide +kernel)) (by decide +kernel)
  obtain ⟨st, hsb, hs0, hs1, hs2, hs3, hs4⟩ : ∃ st : Nat → Nat, st 900 = b ∧ st 0 = a0 ∧ st 1 = a1 ∧ st 2 = a2 ∧ st 3 = a3 ∧ st 4 = a4 := ⟨fun i => if i = 900 then b else if i = 0 then a0 else if i = 1 then a1 else if i = 2 then a2 else if i = 3 then a3 else if i = 4 then a4 else 0, rfl, rfl, rfl, rfl, rfl, rfl⟩
  rw [← hs0] at t0
  rw [← hs1] at t1
  rw [← hs2] at t2
  rw [← hs3] at t3
  rw [← hs4] at t4
  have hamb : ck_amb ck_NM ck_AO ck_SL st s := ⟨(ck_cons (va_Nw.of rfl (hts0 _ (List.mem_of_getElem? (i := 154) (by decide +kernel)))) (ck_cons (va_Nw.of rfl (hts0 _ (List.mem_of_getElem? (i := 260) (by decide +kernel)))) (ck_cons (va_Nw.of rfl (hts0 _ (List.mem_of_getElem? (i := 436) (by decide +kernel)))) (ck_cons (va_Nw.of rfl (hts0 _ (List.mem_of_getElem? (i := 548) (by decide +kernel)))) ck_nil)))), (ck_cons (va_AO.of (hts0 _ (List.mem_of_getElem? (i := 257) (by decide +kernel)))) (ck_cons (va_AO.of (hts0 _ (List.mem_of_getElem? (i := 159) (by decide +kernel)))) ck_nil)), (ck_cons t0 (ck_cons t1 (ck_cons t2 (ck_cons t3 (ck_cons t4 ck_nil)))))⟩
  have hl := lv_entry ([.ref b]) (n := 4) (Nat.le_of_ble_eq_true rfl)
  rw [lg_entry_eq]
  generalize (lg_sl ([.ref b]) ++ List.replicate (4 - (lg_sl ([.ref b])).length) Slot.unset).toArray = ls at hl ⊢
  have hG0 : ∀ n, ck_G D vwCl st ck_sh (fun q : Nat => s.heap.size ≤ q) s 4 ck_wrL [] (List.replicate n ck_fI) [(0, .inr (2, 900))] [] [] 0 (fun j => (xs j).toInt) [] [] s.heap [] ls [] := fun n =>
    ⟨ck_giR (fun _ => rfl) n, ⟨_, hl, fun q hq => by
      have eq := List.mem_singleton.mp hq
      subst eq
      exact ⟨.ref b, List.mem_cons_self, by show Value.ref b = Value.ref (st 900); rw [hsb]⟩⟩, trivial, fun x hx => by cases hx, ⟨rfl, fun i q h => by simp at h⟩, hK, fun k q h => by simp at h, ⟨fun i j p q h => by simp at h, fun k q h => by simp at h⟩, va_S.rf, fun i q h => by simp at h⟩
  have hcP : ∀ co ∈ ck_csP, ck_Mt l D st co := (ck_cons (ck_k16 l D st) (ck_cons (ck_k17 l D st) ck_nil))
  rcases Nat.lt_or_ge L 7 with h7 | h7
  · exact ck_run_ok (n0 := L) (ν0 := fun j => (xs j).toInt) (ck_stepL_ok C0 hsb (fun _ _ => rfl) (Nat.le_refl _) hts ck_TSgood hamb ck_okCl ck_okT12 hcP) (fun x hx => by cases hx) 600 [] L 0 _ (ck_ls L h7) (fun j => (xs j).toInt) [] [] s.heap [] ls [] (Nat.le_refl _) (fun _ _ => rfl) (fun g hg => by cases hg) (hG0 L)
  · have e7 : L = 7 := by omega
    subst e7
    have leaf : ∀ {cs : List ck_C} {pc : Nat} {sF : ck_S}, (∀ co ∈ cs, ck_Mt l D st co) → ck_run (ck_stepL vwCl ck_mts ck_sh ck_T12 cs ck_wrL 900 7) [] [] [] 600 [] 7 pc sF = true → ∀ (ν : Nat → Int) (ws : va_W) (tys : List (ClassId × FieldType)) (H : Heap) (locs : List Loc) (ls : Array Slot) (vs : List Value), (∀ j, j < 7 → ν j = (xs j).toInt) → ck_G D vwCl st ck_sh (fun q : Nat => s.heap.size ≤ q) s 4 ck_wrL [] sF.1 sF.2.1 sF.2.2.1 sF.2.2.2.1 sF.2.2.2.2.1 ν ws tys H locs ls vs → W p l e room_1 s m #[Value.ref b] below meth c H locs sF.2.2.2.2.2.1 sF.2.2.2.2.2.2 (lw_Z below #[Value.ref b] s) (F0 m pc ls vs) := fun {cs pc sF} hcs hrun ν ws tys H locs ls vs hν hG =>
      ck_run_ok (n0 := 7) (ν0 := fun j => (xs j).toInt) (ck_stepL_ok C0 hsb (fun _ _ => rfl) (Nat.le_refl _) hts ck_TSgood hamb ck_okCl ck_okT12 hcs) (fun x hx => by cases hx) 600 [] 7 pc sF hrun ν ws tys H locs ls vs (Nat.le_refl _) hν (fun g hg => by cases hg) hG
    have hc1454 : ∀ co ∈ ck_cs1454, ck_Mt l D st co := ck_nil
    have hc216 : ∀ co ∈ ck_cs216, ck_Mt l D st co := (ck_cons (ck_k24 l D st) (ck_cons (ck_k27 l D st) (ck_cons (ck_k29 l D st) (ck_cons (ck_k32 l D st) (ck_cons (ck_k34 l D st) (ck_cons (ck_k37 l D st) (ck_cons (ck_k39 l D st) (ck_cons (ck_k43 l D st) ck_nil))))))))
    have hc259 : ∀ co ∈ ck_cs259, ck_Mt l D st co := (ck_cons (ck_k51 l D st) (ck_cons (ck_k53 l D st) (ck_cons (ck_k55 l D st) (ck_cons (ck_k58 l D st) (ck_cons (ck_k60 l D st) (ck_cons (ck_k63 l D st) (ck_cons (ck_k65 l D st) (ck_cons (ck_k70 l D st) (ck_cons (ck_k73 l D st) ck_nil)))))))))
    have hc312 : ∀ co ∈ ck_cs312, ck_Mt l D st co := (ck_cons (ck_k74 l D st) (ck_cons (ck_k75 l D st) (ck_cons (ck_k76 l D st) (ck_cons (ck_k77 l D st) (ck_cons (ck_k78 l D st) ck_nil)))))
    have hc345 : ∀ co ∈ ck_cs345, ck_Mt l D st co := (ck_cons (ck_k81 l D st) (ck_cons (ck_k82 l D st) (ck_cons (ck_k83 l D st) (ck_cons (ck_k97 l D st) (ck_cons (ck_k99 l D st) (ck_cons (ck_k113 l D st) ck_nil))))))
    have hc378 : ∀ co ∈ ck_cs378, ck_Mt l D st co := (ck_cons (ck_k116 l D st) (ck_cons (ck_k117 l D st) (ck_cons (ck_k118 l D st) (ck_cons (ck_k120 l D st) (ck_cons (ck_k122 l D st) (ck_cons (ck_k124 l D st) (ck_cons (ck_k125 l D st) (ck_cons (ck_k126 l D st) ck_nil))))))))
    have hc421 : ∀ co ∈ ck_cs421, ck_Mt l D st co := (ck_cons (ck_k128 l D st) (ck_cons (ck_k130 l D st) (ck_cons (ck_k132 l D st) (ck_cons (ck_k134 l D st) ck_nil))))
    have hc444 : ∀ co ∈ ck_cs444, ck_Mt l D st co := (ck_cons (ck_k140 l D st) (ck_cons (ck_k141 l D st) ck_nil))
    have hc507 : ∀ co ∈ ck_cs507, ck_Mt l D st co := (ck_cons (ck_k143 l D st) (ck_cons (ck_k145 l D st) (ck_cons (ck_k147 l D st) (ck_cons (ck_k149 l D st) ck_nil))))
    have hc530 : ∀ co ∈ ck_cs530, ck_Mt l D st co := (ck_cons (ck_k163 l D st) (ck_cons (ck_k180 l D st) ck_nil))
    have hc543 : ∀ co ∈ ck_cs543, ck_Mt l D st co := (ck_cons (ck_k181 l D st) (ck_cons (ck_k182 l D st) ck_nil))
    have hc556 : ∀ co ∈ ck_cs556, ck_Mt l D st co := (ck_cons (ck_k183 l D st) (ck_cons (ck_k185 l D st) (ck_cons (ck_k187 l D st) ck_nil)))
    have hc579 : ∀ co ∈ ck_cs579, ck_Mt l D st co := (ck_cons (ck_k188 l D st) (ck_cons (ck_k189 l D st) (ck_cons (ck_k190 l D st) ck_nil)))
    have hc632 : ∀ co ∈ ck_cs632, ck_Mt l D st co := (ck_cons (ck_k191 l D st) (ck_cons (ck_k193 l D st) (ck_cons (ck_k195 l D st) (ck_cons (ck_k197 l D st) (ck_cons (ck_k199 l D st) (ck_cons (ck_k201 l D st) (ck_cons (ck_k202 l D st) (ck_cons (ck_k203 l D st) (ck_cons (ck_k204 l D st) (ck_cons (ck_k205 l D st) (ck_cons (ck_k206 l D st) ck_nil)))))))))))
    have hc707 : ∀ co ∈ ck_cs707, ck_Mt l D st co := (ck_cons (ck_k207 l D st) (ck_cons (ck_k208 l D st) ck_nil))
    have hc720 : ∀ co ∈ ck_cs720, ck_Mt l D st co := (ck_cons (ck_k210 l D st) (ck_cons (ck_k212 l D st) (ck_cons (ck_k214 l D st) ck_nil)))
    have hc753 : ∀ co ∈ ck_cs753, ck_Mt l D st co := (ck_cons (ck_k215 l D st) (ck_cons (ck_k216 l D st) (ck_cons (ck_k217 l D st) ck_nil)))
    have hc776 : ∀ co ∈ ck_cs776, ck_Mt l D st co := (ck_cons (ck_k220 l D st) (ck_cons (ck_k222 l D st) (ck_cons (ck_k224 l D st) (ck_cons (ck_k227 l D st) (ck_cons (ck_k229 l D st) (ck_cons (ck_k231 l D st) (ck_cons (ck_k232 l D st) (ck_cons (ck_k233 l D st) ck_nil))))))))
    have hc819 : ∀ co ∈ ck_cs819, ck_Mt l D st co := (ck_cons (ck_k235 l D st) (ck_cons (ck_k236 l D st) (ck_cons (ck_k237 l D st) ck_nil)))
    have hc852 : ∀ co ∈ ck_cs852, ck_Mt l D st co := (ck_cons (ck_k238 l D st) (ck_cons (ck_k239 l D st) (ck_cons (ck_k240 l D st) ck_nil)))
    have hc885 : ∀ co ∈ ck_cs885, ck_Mt l D st co := (ck_cons (ck_k250 l D st) (ck_cons (ck_k253 l D st) ck_nil))
    have hc898 : ∀ co ∈ ck_cs898, ck_Mt l D st co := (ck_cons (ck_k254 l D st) (ck_cons (ck_k255 l D st) (ck_cons (ck_k256 l D st) ck_nil)))
    have hc931 : ∀ co ∈ ck_cs931, ck_Mt l D st co := (ck_cons (ck_k257 l D st) (ck_cons (ck_k258 l D st) (ck_cons (ck_k259 l D st) ck_nil)))
    have hc954 : ∀ co ∈ ck_cs954, ck_Mt l D st co := (ck_cons (ck_k260 l D st) (ck_cons (ck_k261 l D st) ck_nil))
    have hc967 : ∀ co ∈ ck_cs967, ck_Mt l D st co := (ck_cons (ck_k266 l D st) (ck_cons (ck_k267 l D st) ck_nil))
    have hc980 : ∀ co ∈ ck_cs980, ck_Mt l D st co := (ck_cons (ck_k268 l D st) (ck_cons (ck_k270 l D st) (ck_cons (ck_k272 l D st) ck_nil)))
    have hc1003 : ∀ co ∈ ck_cs1003, ck_Mt l D st co := (ck_cons (ck_k273 l D st) (ck_cons (ck_k274 l D st) ck_nil))
    have hc1026 : ∀ co ∈ ck_cs1026, ck_Mt l D st co := (ck_cons (ck_k275 l D st) (ck_cons (ck_k276 l D st) (ck_cons (ck_k277 l D st) ck_nil)))
    have hc1059 : ∀ co ∈ ck_cs1059, ck_Mt l D st co := (ck_cons (ck_k278 l D st) (ck_cons (ck_k279 l D st) (ck_cons (ck_k280 l D st) ck_nil)))
    have hc1082 : ∀ co ∈ ck_cs1082, ck_Mt l D st co := (ck_cons (ck_k284 l D st) (ck_cons (ck_k287 l D st) (ck_cons (ck_k288 l D st) (ck_cons (ck_k289 l D st) (ck_cons (ck_k290 l D st) (ck_cons (ck_k291 l D st) ck_nil))))))
    have hc1115 : ∀ co ∈ ck_cs1115, ck_Mt l D st co := (ck_cons (ck_k293 l D st) (ck_cons (ck_k296 l D st) (ck_cons (ck_k298 l D st) (ck_cons (ck_k300 l D st) (ck_cons (ck_k304 l D st) ck_nil)))))
    have hc1148 : ∀ co ∈ ck_cs1148, ck_Mt l D st co := (ck_cons (ck_k305 l D st) (ck_cons (ck_k306 l D st) (ck_cons (ck_k307 l D st) (ck_cons (ck_k310 l D st) (ck_cons (ck_k312 l D st) ck_nil)))))
    have hc1181 : ∀ co ∈ ck_cs1181, ck_Mt l D st co := (ck_cons (ck_k313 l D st) (ck_cons (ck_k315 l D st) (ck_cons (ck_k316 l D st) ck_nil)))
    have hc1204 : ∀ co ∈ ck_cs1204, ck_Mt l D st co := (ck_cons (ck_k323 l D st) (ck_cons (ck_k324 l D st) (ck_cons (ck_k325 l D st) (ck_cons (ck_k327 l D st) (ck_cons (ck_k329 l D st) ck_nil)))))
    have hc1227 : ∀ co ∈ ck_cs1227, ck_Mt l D st co := (ck_cons (ck_k330 l D st) (ck_cons (ck_k331 l D st) (ck_cons (ck_k332 l D st) ck_nil)))
    have hc1260 : ∀ co ∈ ck_cs1260, ck_Mt l D st co := (ck_cons (ck_k333 l D st) (ck_cons (ck_k334 l D st) (ck_cons (ck_k335 l D st) (ck_cons (ck_k336 l D st) (ck_cons (ck_k337 l D st) (ck_cons (ck_k338 l D st) ck_nil))))))
    have hc1293 : ∀ co ∈ ck_cs1293, ck_Mt l D st co := (ck_cons (ck_k339 l D st) (ck_cons (ck_k340 l D st) (ck_cons (ck_k341 l D st) ck_nil)))
    have hc1336 : ∀ co ∈ ck_cs1336, ck_Mt l D st co := (ck_cons (ck_k343 l D st) (ck_cons (ck_k344 l D st) (ck_cons (ck_k345 l D st) (ck_cons (ck_k347 l D st) ck_nil))))
    have hc1359 : ∀ co ∈ ck_cs1359, ck_Mt l D st co := (ck_cons (ck_k348 l D st) (ck_cons (ck_k349 l D st) ck_nil))
    have hc1372 : ∀ co ∈ ck_cs1372, ck_Mt l D st co := (ck_cons (ck_k372 l D st) (ck_cons (ck_k373 l D st) (ck_cons (ck_k375 l D st) (ck_cons (ck_k376 l D st) (ck_cons (ck_k378 l D st) ck_nil)))))
    have hc1395 : ∀ co ∈ ck_cs1395, ck_Mt l D st co := (ck_cons (ck_k379 l D st) (ck_cons (ck_k380 l D st) (ck_cons (ck_k381 l D st) (ck_cons (ck_k382 l D st) ck_nil))))
    have hc1418 : ∀ co ∈ ck_cs1418, ck_Mt l D st co := (ck_cons (ck_k384 l D st) (ck_cons (ck_k385 l D st) (ck_cons (ck_k386 l D st) (ck_cons (ck_k387 l D st) (ck_cons (ck_k388 l D st) (ck_cons (ck_k389 l D st) (ck_cons (ck_k390 l D st) (ck_cons (ck_k391 l D st) ck_nil))))))))
    have hc1441 : ∀ co ∈ ck_cs1441, ck_Mt l D st co := (ck_cons (ck_k392 l D st) (ck_cons (ck_k393 l D st) ck_nil))
    exact ck_run_ok (n0 := 7) (ν0 := fun j => (xs j).toInt) (ck_stepL_ok C0 hsb (fun _ _ => rfl) (Nat.le_refl _) hts ck_TSgood hamb ck_okCl ck_okT12 hcP) (ck_cons (leaf hc1454 ck_lc1454) (ck_cons (leaf hc216 ck_lc216) (ck_cons (leaf hc259 ck_lc259) (ck_cons (leaf hc312 ck_lc312) (ck_cons (leaf hc345 ck_lc345) (ck_cons (leaf hc378 ck_lc378) (ck_cons (leaf hc421 ck_lc421) (ck_cons (leaf hc444 ck_lc444) (ck_cons (leaf hc507 ck_lc507) (ck_cons (leaf hc530 ck_lc530) (ck_cons (leaf hc543 ck_lc543) (ck_cons (leaf hc556 ck_lc556) (ck_cons (leaf hc579 ck_lc579) (ck_cons (leaf hc632 ck_lc632) (ck_cons (leaf hc707 ck_lc707) (ck_cons (leaf hc720 ck_lc720) (ck_cons (leaf hc753 ck_lc753) (ck_cons (leaf hc776 ck_lc776) (ck_cons (leaf hc819 ck_lc819) (ck_cons (leaf hc852 ck_lc852) (ck_cons (leaf hc885 ck_lc885) (ck_cons (leaf hc898 ck_lc898) (ck_cons (leaf hc931 ck_lc931) (ck_cons (leaf hc954 ck_lc954) (ck_cons (leaf hc967 ck_lc967) (ck_cons (leaf hc980 ck_lc980) (ck_cons (leaf hc1003 ck_lc1003) (ck_cons (leaf hc1026 ck_lc1026) (ck_cons (leaf hc1059 ck_lc1059) (ck_cons (leaf hc1082 ck_lc1082) (ck_cons (leaf hc1115 ck_lc1115) (ck_cons (leaf hc1148 ck_lc1148) (ck_cons (leaf hc1181 ck_lc1181) (ck_cons (leaf hc1204 ck_lc1204) (ck_cons (leaf hc1227 ck_lc1227) (ck_cons (leaf hc1260 ck_lc1260) (ck_cons (leaf hc1293 ck_lc1293) (ck_cons (leaf hc1336 ck_lc1336) (ck_cons (leaf hc1359 ck_lc1359) (ck_cons (leaf hc1372 ck_lc1372) (ck_cons (leaf hc1395 ck_lc1395) (ck_cons (leaf hc1418 ck_lc1418) (ck_cons (leaf hc1441 ck_lc1441) ck_nil))))))))))))))))))))))))))))))))))))))))))) 600 [] 7 0 _ ck_lp (fun j => (xs j).toInt) [] [] s.heap [] ls [] (Nat.le_refl _) (fun _ _ => rfl) (fun g hg => by cases hg) (hG0 7)
end
section
set_option maxHeartbeats 4000000 in
theorem lw_walk (l : Launch) (b : Addr) (xs : List Int32) : MetFree l x (headSpec (Jvm.Cond.code x code maxLocals ret :: tables_1) room_1) (lw_P b xs) (fun _ _ _ _ _ => True) lw_Q := by
  refine MetFree.of_bodyS (code := code) (maxLocals := maxLocals) (ret := ret) (by decide) ?_ ?_
  · intro args s m h hn
    obtain ⟨meth, c, h1, h2, h3, h4, h5, h6, -, -⟩ := Cond.code_spec hn (atoms_spec (ws := Jvm.Cond.code x code maxLocals ret :: tables_1) h _ List.mem_cons_self)
    exact ⟨meth, c, h1, h2, h3, h4, h5, h6⟩
  · intro p e s m args below meth c s₁ B hml0 hP _
    obtain ⟨rfl, hx, hbd, hgv⟩ := hP
    obtain ⟨scr, harrAt, hlist, hof, hsmall⟩ := hx
    obtain ⟨hcb, hkn, -, -⟩ := State.arrayAt?_spec harrAt
    have hown : s.vm.findClass R_law = some m.cls := findClass_of_methodNamed B.named
    have hts0 : ∀ c ∈ (Jvm.Cond.code x code maxLocals ret :: tables_1), c.before #[Value.ref b] s = true := atoms_spec (ws := Jvm.Cond.code x code maxLocals ret :: tables_1) B.pre
    have hts : ∀ w ∈ lw_tbl, w.before #[Value.ref b] s = true := k2_hts_sels lw_privs (fun w hw => hts0 w (List.mem_cons_of_mem _ hw)) lw_privs_ok
    have hml : c.maxLocals = 4 := B.maxLocals_eq (hts0 _ List.mem_cons_self)
    have X₀ : Stand p l e room_1 s m #[Value.ref b] below meth c s₁ [] 0 0 := Stand.of_body B
    have hh0 : s₁.heap = s.heap := by rw [B.state]; rfl
    have hsz : scr.slots.size = xs.length := by rw [← Array.length_toList, hlist, List.length_map]
    have hval : ∀ j : Nat, j < xs.length → scr.slots[j]? = some (.int (xs.getD j 0)) := fun j hj => by
      rw [← Array.getElem?_toList, hlist]
      simp [hj]
    have hbl : b < s.heap.size := (Array.getElem?_eq_some_iff.mp hcb).1
    have hX : va_X b xs.length (fun j => xs.getD j 0) s s.heap := ⟨scr, hcb, hof, hkn, hsz, hval⟩
    have K : W p l e room_1 s m #[Value.ref b] below meth c s₁.heap [] 0 0 (lw_Z below #[Value.ref b] s) (entryFrame m ([Value.ref b] : List Value).toArray 4) := by
      rw [hh0]
      exact whole_start l hbd ⟨B.exec, B.bytes, B.returns, hml, hown, hts, hX, hbl, B.notSynchronized, hgv⟩
    obtain ⟨t, a1, o, b1, b2, b3⟩ := K s₁ rfl X₀
    exact ⟨t, o, a1, b1, b2, b3⟩
theorem lw_pre_spec {args : Array Value} {s : State} (h : (Jvm.Cond.and given_1 narrow_1).before args s = true) (hr : rest_1_c.before args s = true) : ∃ (b : Addr) (xs : List Int32), lw_P b xs args s := by
  have hs := flat_of_before _ h
  have hq := flat_of_before _ hr
  have hc : (Cond.count 1).before args s = true := hs _ (by decide +kernel)
  have harr : (Cond.arrayOf (.arg 0) .int).before args s = true := hs _ (by decide +kernel)
  have hle : (Cond.le (.length (.arg 0)) (.int 7)).before args s = true := hs _ (by decide +kernel)
  have hlen : (Cond.isInt (.length (.arg 0))).before args s = true := hq _ (by decide +kernel)
  have hall : (Cond.all (.arg 0) (.isInt (.elem (.arg 0) (.index 0)))).before args s = true := hq _ (by decide +kernel)
  obtain ⟨b, xs, hb, hx⟩ := State.ints_of_pre rfl harr hlen hall
  have hsm : xs.length < 2 ^ 31 := hx.choose_spec.2.2.2
  have hev : (Term.length (.arg 0)).eval args s none [] s = some (.int xs.length.toInt32) := hx.length_eval hb
  have hv := Cond.le_ints hev (show (Term.int 7).eval args s none [] s = some (.int 7) from rfl)
  have hd : xs.length.toInt32 ≤ 7 := by
    simpa [Cond.before, Cond.holds, hv] using hle
  have hN : xs.length ≤ 7 := (Int32.ofNat_le_ofNat hsm (by decide)).mp (show Int32.ofNat xs.length ≤ Int32.ofNat 7 from hd)
  exact ⟨b, xs, Cond.one_arg hc (show args[0]? = some (.ref b) from hb), hx, hN, h⟩
theorem lw_comes (l : Launch) : Comes l x (Jvm.Cond.code x code maxLocals ret :: tables_1) room_1 (fun tb e args s => Calls_1 tb e args s ∧ rest_1 tb e args s ∧ Pre_1 tb e args s)
    (fun _ _ args s o t => lw_Q args s o t) := by
  intro p e ha hc hk s m args below hf hfit hheap happ hpre
  obtain ⟨b, xs, hP⟩ := lw_pre_spec hpre.2.2 hpre.2.1
  obtain ⟨k, o, h1, h2, h3, hQ⟩ := lw_walk l b xs p e ha hc hk s m args below hf ((Spec.applies_iff_loose hf).mp happ).1 hP trivial
  exact ⟨k, o, h1, h2, h3, hQ⟩
theorem lw_frame {s t : State} {o : Outcome} {args : Array Value} (h : Framed s o t [] 600000 7302250) :
    Framed s o t (fieldLocs frame_1_writes args s ++ arrayLocs frame_1_arrays args s ++ staticLocs frame_1_statics s) 600000 7302250 := h
theorem lw_limb (L : Cond) (hL : ∀ (args : Array Value) (s t : State), L.after args s (.returned (some (.int 1))) t = true) :
    ArmFor flags0 classFile x code maxLocals ret World_1 tables_1 room_1 Calls_1 rest_1 Pre_1
      (fun tb e a s o t => postC L tb e a s o t ∧ Framed s o t (fieldLocs frame_1_writes a s ++ arrayLocs frame_1_arrays a s ++ staticLocs frame_1_statics s) 600000 7302250) := by
  intro l _ _ _ p e ha hc hk s m args below hf hfit hheap happ hpre
  obtain ⟨k, o, h1, h2, h3, rfl, hF⟩ := lw_comes l p e ha hc hk s m args below hf hfit hheap happ hpre
  exact ⟨k, _, h1, h2, h3, hL args s _, lw_frame hF⟩
theorem i_vc : Claimed_1_1 ∧ Claimed_1_2 := ⟨lw_limb limb_1_1 (fun args s t => by simp [limb_1_1, Cond.after, Cond.holds, Cond.value]), lw_limb limb_1_2 (fun args s t => Cond.after_iff.mpr (by
  first | (rw [show limb_1_2 = Cond.eq .result (.int 1) from rfl, Cond.eq_ints (x := 1) (y := 1) rfl rfl]; simp; done) | (simp [limb_1_2, Cond.value, Term.eval]; done)))⟩
end
