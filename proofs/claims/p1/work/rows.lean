section
-- ===== PART A: goes FIRST, ahead of the names: the tables' words, and 'selects' of the private methods out of them =====
/-- a private method of a class that the tables say can be made, by its rows of tables_1 -/
def lw_okq (q : MethodName × Nat) : Prop := (q.1.cls ≠ "java/lang/invoke/MethodHandle" ∧ q.1.cls ≠ "java/lang/invoke/VarHandle") ∧ Cond.instantiable q.1.cls q.2 ∈ tables_1 ∧ Cond.privateMethod q.1 ∈ tables_1 ∧ Cond.instanceMethod q.1 ∈ tables_1
theorem lw_p0 : lw_okq (⟨"ScratchLadder", "refuse", "(I)I"⟩, 15) := ⟨⟨by decide +kernel, by decide +kernel⟩, List.mem_of_getElem? (i := 23) (by decide +kernel), List.mem_of_getElem? (i := 404) (by decide +kernel), List.mem_of_getElem? (i := 405) (by decide +kernel)⟩
theorem lw_p1 : lw_okq (⟨"ScratchLadder", "accept", "(I)I"⟩, 15) := ⟨⟨by decide +kernel, by decide +kernel⟩, List.mem_of_getElem? (i := 23) (by decide +kernel), List.mem_of_getElem? (i := 412) (by decide +kernel), List.mem_of_getElem? (i := 413) (by decide +kernel)⟩
theorem lw_p2 : lw_okq (⟨"ScratchLadder$Reader", "advance", "()V"⟩, 11) := ⟨⟨by decide +kernel, by decide +kernel⟩, List.mem_of_getElem? (i := 155) (by decide +kernel), List.mem_of_getElem? (i := 474) (by decide +kernel), List.mem_of_getElem? (i := 475) (by decide +kernel)⟩
theorem lw_p3 : lw_okq (⟨"ScratchLadder$Reader", "kindAt", "(I)I"⟩, 11) := ⟨⟨by decide +kernel, by decide +kernel⟩, List.mem_of_getElem? (i := 155) (by decide +kernel), List.mem_of_getElem? (i := 478) (by decide +kernel), List.mem_of_getElem? (i := 479) (by decide +kernel)⟩
theorem lw_p4 : lw_okq (⟨"ScratchLadder$Reader", "readClause", "()Z"⟩, 11) := ⟨⟨by decide +kernel, by decide +kernel⟩, List.mem_of_getElem? (i := 155) (by decide +kernel), List.mem_of_getElem? (i := 486) (by decide +kernel), List.mem_of_getElem? (i := 487) (by decide +kernel)⟩
theorem lw_p5 : lw_okq (⟨"ScratchLadder$Reader", "passWord", "(Ljava/lang/String;)Z"⟩, 11) := ⟨⟨by decide +kernel, by decide +kernel⟩, List.mem_of_getElem? (i := 155) (by decide +kernel), List.mem_of_getElem? (i := 491) (by decide +kernel), List.mem_of_getElem? (i := 492) (by decide +kernel)⟩
theorem lw_p6 : lw_okq (⟨"ScratchLadder$Reader", "isWord", "(Ljava/lang/String;)Z"⟩, 11) := ⟨⟨by decide +kernel, by decide +kernel⟩, List.mem_of_getElem? (i := 155) (by decide +kernel), List.mem_of_getElem? (i := 495) (by decide +kernel), List.mem_of_getElem? (i := 496) (by decide +kernel)⟩
theorem lw_p7 : lw_okq (⟨"ScratchLadder$Reader", "readRung", "()Z"⟩, 11) := ⟨⟨by decide +kernel, by decide +kernel⟩, List.mem_of_getElem? (i := 155) (by decide +kernel), List.mem_of_getElem? (i := 547) (by decide +kernel), List.mem_of_getElem? (i := 548) (by decide +kernel)⟩
theorem lw_p8 : lw_okq (⟨"ScratchLadder$Reader", "isNumber", "(I)Z"⟩, 11) := ⟨⟨by decide +kernel, by decide +kernel⟩, List.mem_of_getElem? (i := 155) (by decide +kernel), List.mem_of_getElem? (i := 551) (by decide +kernel), List.mem_of_getElem? (i := 552) (by decide +kernel)⟩
theorem lw_p9 : lw_okq (⟨"ScratchLadder$Reader", "addClause", "(IIII)Z"⟩, 11) := ⟨⟨by decide +kernel, by decide +kernel⟩, List.mem_of_getElem? (i := 155) (by decide +kernel), List.mem_of_getElem? (i := 556) (by decide +kernel), List.mem_of_getElem? (i := 557) (by decide +kernel)⟩
theorem lw_p10 : lw_okq (⟨"ScratchLadder$Reader", "headKind", "()I"⟩, 11) := ⟨⟨by decide +kernel, by decide +kernel⟩, List.mem_of_getElem? (i := 155) (by decide +kernel), List.mem_of_getElem? (i := 560) (by decide +kernel), List.mem_of_getElem? (i := 561) (by decide +kernel)⟩
theorem lw_p11 : lw_okq (⟨"ScratchLadder$Reader", "readSum", "()Z"⟩, 11) := ⟨⟨by decide +kernel, by decide +kernel⟩, List.mem_of_getElem? (i := 155) (by decide +kernel), List.mem_of_getElem? (i := 568) (by decide +kernel), List.mem_of_getElem? (i := 569) (by decide +kernel)⟩
theorem lw_p12 : lw_okq (⟨"ScratchLadder$Reader", "readTerm", "()Z"⟩, 11) := ⟨⟨by decide +kernel, by decide +kernel⟩, List.mem_of_getElem? (i := 155) (by decide +kernel), List.mem_of_getElem? (i := 572) (by decide +kernel), List.mem_of_getElem? (i := 573) (by decide +kernel)⟩
theorem lw_p13 : lw_okq (⟨"ScratchLadder$Reader", "readPart", "()Z"⟩, 11) := ⟨⟨by decide +kernel, by decide +kernel⟩, List.mem_of_getElem? (i := 155) (by decide +kernel), List.mem_of_getElem? (i := 576) (by decide +kernel), List.mem_of_getElem? (i := 577) (by decide +kernel)⟩
theorem lw_p14 : lw_okq (⟨"ScratchLadder$Reader", "isSign", "(C)Z"⟩, 11) := ⟨⟨by decide +kernel, by decide +kernel⟩, List.mem_of_getElem? (i := 155) (by decide +kernel), List.mem_of_getElem? (i := 580) (by decide +kernel), List.mem_of_getElem? (i := 581) (by decide +kernel)⟩
theorem lw_p15 : lw_okq (⟨"ScratchLadder$Reader", "readBracketedSum", "()Z"⟩, 11) := ⟨⟨by decide +kernel, by decide +kernel⟩, List.mem_of_getElem? (i := 155) (by decide +kernel), List.mem_of_getElem? (i := 584) (by decide +kernel), List.mem_of_getElem? (i := 585) (by decide +kernel)⟩
def lw_privs_1 : List (MethodName × Nat) := [(⟨"ScratchLadder", "refuse", "(I)I"⟩, 15), (⟨"ScratchLadder", "accept", "(I)I"⟩, 15), (⟨"ScratchLadder$Reader", "advance", "()V"⟩, 11), (⟨"ScratchLadder$Reader", "kindAt", "(I)I"⟩, 11), (⟨"ScratchLadder$Reader", "readClause", "()Z"⟩, 11), (⟨"ScratchLadder$Reader", "passWord", "(Ljava/lang/String;)Z"⟩, 11), (⟨"ScratchLadder$Reader", "isWord", "(Ljava/lang/String;)Z"⟩, 11), (⟨"ScratchLadder$Reader", "readRung", "()Z"⟩, 11), (⟨"ScratchLadder$Reader", "isNumber", "(I)Z"⟩, 11), (⟨"ScratchLadder$Reader", "addClause", "(IIII)Z"⟩, 11), (⟨"ScratchLadder$Reader", "headKind", "()I"⟩, 11), (⟨"ScratchLadder$Reader", "readSum", "()Z"⟩, 11), (⟨"ScratchLadder$Reader", "readTerm", "()Z"⟩, 11), (⟨"ScratchLadder$Reader", "readPart", "()Z"⟩, 11), (⟨"ScratchLadder$Reader", "isSign", "(C)Z"⟩, 11), (⟨"ScratchLadder$Reader", "readBracketedSum", "()Z"⟩, 11)]
theorem lw_r1 : ∀ q ∈ lw_privs_1, lw_okq q := List.forall_mem_cons.mpr ⟨lw_p0, List.forall_mem_cons.mpr ⟨lw_p1, List.forall_mem_cons.mpr ⟨lw_p2, List.forall_mem_cons.mpr ⟨lw_p3, List.forall_mem_cons.mpr ⟨lw_p4, List.forall_mem_cons.mpr ⟨lw_p5, List.forall_mem_cons.mpr ⟨lw_p6, List.forall_mem_cons.mpr ⟨lw_p7, List.forall_mem_cons.mpr ⟨lw_p8, List.forall_mem_cons.mpr ⟨lw_p9, List.forall_mem_cons.mpr ⟨lw_p10, List.forall_mem_cons.mpr ⟨lw_p11, List.forall_mem_cons.mpr ⟨lw_p12, List.forall_mem_cons.mpr ⟨lw_p13, List.forall_mem_cons.mpr ⟨lw_p14, List.forall_mem_cons.mpr ⟨lw_p15, fun _ h => absurd h List.not_mem_nil⟩⟩⟩⟩⟩⟩⟩⟩⟩⟩⟩⟩⟩⟩⟩⟩
theorem lw_p16 : lw_okq (⟨"ScratchLadder$Reader", "openBracket", "()Z"⟩, 11) := ⟨⟨by decide +kernel, by decide +kernel⟩, List.mem_of_getElem? (i := 155) (by decide +kernel), List.mem_of_getElem? (i := 588) (by decide +kernel), List.mem_of_getElem? (i := 589) (by decide +kernel)⟩
theorem lw_p17 : lw_okq (⟨"ScratchLadder$Reader", "passSign", "(C)Z"⟩, 11) := ⟨⟨by decide +kernel, by decide +kernel⟩, List.mem_of_getElem? (i := 155) (by decide +kernel), List.mem_of_getElem? (i := 592) (by decide +kernel), List.mem_of_getElem? (i := 593) (by decide +kernel)⟩
theorem lw_p18 : lw_okq (⟨"ScratchLadder$Reader", "partWord", "()I"⟩, 11) := ⟨⟨by decide +kernel, by decide +kernel⟩, List.mem_of_getElem? (i := 155) (by decide +kernel), List.mem_of_getElem? (i := 596) (by decide +kernel), List.mem_of_getElem? (i := 597) (by decide +kernel)⟩
theorem lw_p19 : lw_okq (⟨"ScratchLadder$Reader", "addStep", "(II)Z"⟩, 11) := ⟨⟨by decide +kernel, by decide +kernel⟩, List.mem_of_getElem? (i := 155) (by decide +kernel), List.mem_of_getElem? (i := 609) (by decide +kernel), List.mem_of_getElem? (i := 610) (by decide +kernel)⟩
theorem lw_p20 : lw_okq (⟨"ScratchLadder$Reader", "readTest", "()Z"⟩, 11) := ⟨⟨by decide +kernel, by decide +kernel⟩, List.mem_of_getElem? (i := 155) (by decide +kernel), List.mem_of_getElem? (i := 614) (by decide +kernel), List.mem_of_getElem? (i := 615) (by decide +kernel)⟩
theorem lw_p21 : lw_okq (⟨"ScratchLadder$Reader", "readBoth", "()Z"⟩, 11) := ⟨⟨by decide +kernel, by decide +kernel⟩, List.mem_of_getElem? (i := 155) (by decide +kernel), List.mem_of_getElem? (i := 618) (by decide +kernel), List.mem_of_getElem? (i := 619) (by decide +kernel)⟩
theorem lw_p22 : lw_okq (⟨"ScratchLadder$Reader", "readPlain", "()Z"⟩, 11) := ⟨⟨by decide +kernel, by decide +kernel⟩, List.mem_of_getElem? (i := 155) (by decide +kernel), List.mem_of_getElem? (i := 622) (by decide +kernel), List.mem_of_getElem? (i := 623) (by decide +kernel)⟩
theorem lw_p23 : lw_okq (⟨"ScratchLadder$Reader", "readBracketedTest", "()Z"⟩, 11) := ⟨⟨by decide +kernel, by decide +kernel⟩, List.mem_of_getElem? (i := 155) (by decide +kernel), List.mem_of_getElem? (i := 627) (by decide +kernel), List.mem_of_getElem? (i := 628) (by decide +kernel)⟩
theorem lw_p24 : lw_okq (⟨"ScratchLadder$Reader", "comparisonKind", "()I"⟩, 11) := ⟨⟨by decide +kernel, by decide +kernel⟩, List.mem_of_getElem? (i := 155) (by decide +kernel), List.mem_of_getElem? (i := 631) (by decide +kernel), List.mem_of_getElem? (i := 632) (by decide +kernel)⟩
theorem lw_p25 : lw_okq (⟨"ScratchLadder$Reader", "closePass", "(I)V"⟩, 11) := ⟨⟨by decide +kernel, by decide +kernel⟩, List.mem_of_getElem? (i := 155) (by decide +kernel), List.mem_of_getElem? (i := 636) (by decide +kernel), List.mem_of_getElem? (i := 637) (by decide +kernel)⟩
theorem lw_p26 : lw_okq (⟨"ScratchLadder$Question", "testOf", "(LScratchLadder$Text;I)J"⟩, 3) := ⟨⟨by decide +kernel, by decide +kernel⟩, List.mem_of_getElem? (i := 195) (by decide +kernel), List.mem_of_getElem? (i := 700) (by decide +kernel), List.mem_of_getElem? (i := 701) (by decide +kernel)⟩
theorem lw_p27 : lw_okq (⟨"ScratchLadder$Question", "worked", "([III)J"⟩, 3) := ⟨⟨by decide +kernel, by decide +kernel⟩, List.mem_of_getElem? (i := 195) (by decide +kernel), List.mem_of_getElem? (i := 704) (by decide +kernel), List.mem_of_getElem? (i := 705) (by decide +kernel)⟩
theorem lw_p28 : lw_okq (⟨"ScratchLadder", "whatIsLeftBy", "(I)I"⟩, 15) := ⟨⟨by decide +kernel, by decide +kernel⟩, List.mem_of_getElem? (i := 23) (by decide +kernel), List.mem_of_getElem? (i := 723) (by decide +kernel), List.mem_of_getElem? (i := 724) (by decide +kernel)⟩
theorem lw_p29 : lw_okq (⟨"ScratchLadder", "areTwo", "(II)Z"⟩, 15) := ⟨⟨by decide +kernel, by decide +kernel⟩, List.mem_of_getElem? (i := 23) (by decide +kernel), List.mem_of_getElem? (i := 794) (by decide +kernel), List.mem_of_getElem? (i := 795) (by decide +kernel)⟩
theorem lw_p30 : lw_okq (⟨"ScratchLadder$Ties", "take", "(I)V"⟩, 6) := ⟨⟨by decide +kernel, by decide +kernel⟩, List.mem_of_getElem? (i := 212) (by decide +kernel), List.mem_of_getElem? (i := 804) (by decide +kernel), List.mem_of_getElem? (i := 805) (by decide +kernel)⟩
theorem lw_p31 : lw_okq (⟨"ScratchLadder$Ties", "close", "()V"⟩, 6) := ⟨⟨by decide +kernel, by decide +kernel⟩, List.mem_of_getElem? (i := 212) (by decide +kernel), List.mem_of_getElem? (i := 814) (by decide +kernel), List.mem_of_getElem? (i := 815) (by decide +kernel)⟩
def lw_privs_2 : List (MethodName × Nat) := [(⟨"ScratchLadder$Reader", "openBracket", "()Z"⟩, 11), (⟨"ScratchLadder$Reader", "passSign", "(C)Z"⟩, 11), (⟨"ScratchLadder$Reader", "partWord", "()I"⟩, 11), (⟨"ScratchLadder$Reader", "addStep", "(II)Z"⟩, 11), (⟨"ScratchLadder$Reader", "readTest", "()Z"⟩, 11), (⟨"ScratchLadder$Reader", "readBoth", "()Z"⟩, 11), (⟨"ScratchLadder$Reader", "readPlain", "()Z"⟩, 11), (⟨"ScratchLadder$Reader", "readBracketedTest", "()Z"⟩, 11), (⟨"ScratchLadder$Reader", "comparisonKind", "()I"⟩, 11), (⟨"ScratchLadder$Reader", "closePass", "(I)V"⟩, 11), (⟨"ScratchLadder$Question", "testOf", "(LScratchLadder$Text;I)J"⟩, 3), (⟨"ScratchLadder$Question", "worked", "([III)J"⟩, 3), (⟨"ScratchLadder", "whatIsLeftBy", "(I)I"⟩, 15), (⟨"ScratchLadder", "areTwo", "(II)Z"⟩, 15), (⟨"ScratchLadder$Ties", "take", "(I)V"⟩, 6), (⟨"ScratchLadder$Ties", "close", "()V"⟩, 6)]
theorem lw_r2 : ∀ q ∈ lw_privs_2, lw_okq q := List.forall_mem_cons.mpr ⟨lw_p16, List.forall_mem_cons.mpr ⟨lw_p17, List.forall_mem_cons.mpr ⟨lw_p18, List.forall_mem_cons.mpr ⟨lw_p19, List.forall_mem_cons.mpr ⟨lw_p20, List.forall_mem_cons.mpr ⟨lw_p21, List.forall_mem_cons.mpr ⟨lw_p22, List.forall_mem_cons.mpr ⟨lw_p23, List.forall_mem_cons.mpr ⟨lw_p24, List.forall_mem_cons.mpr ⟨lw_p25, List.forall_mem_cons.mpr ⟨lw_p26, List.forall_mem_cons.mpr ⟨lw_p27, List.forall_mem_cons.mpr ⟨lw_p28, List.forall_mem_cons.mpr ⟨lw_p29, List.forall_mem_cons.mpr ⟨lw_p30, List.forall_mem_cons.mpr ⟨lw_p31, fun _ h => absurd h List.not_mem_nil⟩⟩⟩⟩⟩⟩⟩⟩⟩⟩⟩⟩⟩⟩⟩⟩
theorem lw_p32 : lw_okq (⟨"ScratchLadder$Orders", "spread", "(I[I)V"⟩, 7) := ⟨⟨by decide +kernel, by decide +kernel⟩, List.mem_of_getElem? (i := 241) (by decide +kernel), List.mem_of_getElem? (i := 841) (by decide +kernel), List.mem_of_getElem? (i := 842) (by decide +kernel)⟩
theorem lw_p33 : lw_okq (⟨"ScratchLadder$Ties", "belowAnyOf", "(I)I"⟩, 6) := ⟨⟨by decide +kernel, by decide +kernel⟩, List.mem_of_getElem? (i := 212) (by decide +kernel), List.mem_of_getElem? (i := 857) (by decide +kernel), List.mem_of_getElem? (i := 858) (by decide +kernel)⟩
theorem lw_p34 : lw_okq (⟨"ScratchLadder$Orders", "countHalves", "([I)V"⟩, 7) := ⟨⟨by decide +kernel, by decide +kernel⟩, List.mem_of_getElem? (i := 241) (by decide +kernel), List.mem_of_getElem? (i := 879) (by decide +kernel), List.mem_of_getElem? (i := 880) (by decide +kernel)⟩
theorem lw_p35 : lw_okq (⟨"ScratchLadder$Orders", "least", "(I)I"⟩, 7) := ⟨⟨by decide +kernel, by decide +kernel⟩, List.mem_of_getElem? (i := 241) (by decide +kernel), List.mem_of_getElem? (i := 884) (by decide +kernel), List.mem_of_getElem? (i := 885) (by decide +kernel)⟩
theorem lw_p36 : lw_okq (⟨"ScratchLadder$Orders", "withFirst", "(II)I"⟩, 7) := ⟨⟨by decide +kernel, by decide +kernel⟩, List.mem_of_getElem? (i := 241) (by decide +kernel), List.mem_of_getElem? (i := 889) (by decide +kernel), List.mem_of_getElem? (i := 890) (by decide +kernel)⟩
theorem lw_p37 : lw_okq (⟨"ScratchLadder$Orders", "keepBest", "(I)V"⟩, 7) := ⟨⟨by decide +kernel, by decide +kernel⟩, List.mem_of_getElem? (i := 241) (by decide +kernel), List.mem_of_getElem? (i := 894) (by decide +kernel), List.mem_of_getElem? (i := 895) (by decide +kernel)⟩
theorem lw_p38 : lw_okq (⟨"ScratchLadder$Orders", "lowestFirst", "(I)I"⟩, 7) := ⟨⟨by decide +kernel, by decide +kernel⟩, List.mem_of_getElem? (i := 241) (by decide +kernel), List.mem_of_getElem? (i := 898) (by decide +kernel), List.mem_of_getElem? (i := 899) (by decide +kernel)⟩
theorem lw_p39 : lw_okq (⟨"ScratchLadder$Rungs", "isRung", "(LScratchLadder$Text;I)Z"⟩, 2) := ⟨⟨by decide +kernel, by decide +kernel⟩, List.mem_of_getElem? (i := 300) (by decide +kernel), List.mem_of_getElem? (i := 930) (by decide +kernel), List.mem_of_getElem? (i := 931) (by decide +kernel)⟩
theorem lw_p40 : lw_okq (⟨"ScratchLadder$Rungs", "isBetween", "(LScratchLadder$Text;IIII)Z"⟩, 2) := ⟨⟨by decide +kernel, by decide +kernel⟩, List.mem_of_getElem? (i := 300) (by decide +kernel), List.mem_of_getElem? (i := 959) (by decide +kernel), List.mem_of_getElem? (i := 960) (by decide +kernel)⟩
theorem lw_p41 : lw_okq (⟨"ScratchLadder$Rungs", "aheadOf", "(LScratchLadder$Text;III)I"⟩, 2) := ⟨⟨by decide +kernel, by decide +kernel⟩, List.mem_of_getElem? (i := 300) (by decide +kernel), List.mem_of_getElem? (i := 963) (by decide +kernel), List.mem_of_getElem? (i := 964) (by decide +kernel)⟩
theorem lw_p42 : lw_okq (⟨"ScratchLadder$Sorter", "rowsLeft", "(I)I"⟩, 5) := ⟨⟨by decide +kernel, by decide +kernel⟩, List.mem_of_getElem? (i := 313) (by decide +kernel), List.mem_of_getElem? (i := 983) (by decide +kernel), List.mem_of_getElem? (i := 984) (by decide +kernel)⟩
theorem lw_p43 : lw_okq (⟨"ScratchLadder$Sorter", "goodPair", "(III)I"⟩, 5) := ⟨⟨by decide +kernel, by decide +kernel⟩, List.mem_of_getElem? (i := 313) (by decide +kernel), List.mem_of_getElem? (i := 988) (by decide +kernel), List.mem_of_getElem? (i := 989) (by decide +kernel)⟩
theorem lw_p44 : lw_okq (⟨"ScratchLadder$Sorter", "isGood", "(IIIII)Z"⟩, 5) := ⟨⟨by decide +kernel, by decide +kernel⟩, List.mem_of_getElem? (i := 313) (by decide +kernel), List.mem_of_getElem? (i := 992) (by decide +kernel), List.mem_of_getElem? (i := 993) (by decide +kernel)⟩
theorem lw_p45 : lw_okq (⟨"ScratchLadder$Sorter", "with", "(III)I"⟩, 5) := ⟨⟨by decide +kernel, by decide +kernel⟩, List.mem_of_getElem? (i := 313) (by decide +kernel), List.mem_of_getElem? (i := 996) (by decide +kernel), List.mem_of_getElem? (i := 997) (by decide +kernel)⟩
theorem lw_p46 : lw_okq (⟨"ScratchLadder$Sorter", "areEnough", "(III)Z"⟩, 5) := ⟨⟨by decide +kernel, by decide +kernel⟩, List.mem_of_getElem? (i := 313) (by decide +kernel), List.mem_of_getElem? (i := 1000) (by decide +kernel), List.mem_of_getElem? (i := 1001) (by decide +kernel)⟩
theorem lw_p47 : lw_okq (⟨"ScratchLadder$Orders", "hasPlace", "(II)Z"⟩, 7) := ⟨⟨by decide +kernel, by decide +kernel⟩, List.mem_of_getElem? (i := 241) (by decide +kernel), List.mem_of_getElem? (i := 1020) (by decide +kernel), List.mem_of_getElem? (i := 1021) (by decide +kernel)⟩
def lw_privs_3 : List (MethodName × Nat) := [(⟨"ScratchLadder$Orders", "spread", "(I[I)V"⟩, 7), (⟨"ScratchLadder$Ties", "belowAnyOf", "(I)I"⟩, 6), (⟨"ScratchLadder$Orders", "countHalves", "([I)V"⟩, 7), (⟨"ScratchLadder$Orders", "least", "(I)I"⟩, 7), (⟨"ScratchLadder$Orders", "withFirst", "(II)I"⟩, 7), (⟨"ScratchLadder$Orders", "keepBest", "(I)V"⟩, 7), (⟨"ScratchLadder$Orders", "lowestFirst", "(I)I"⟩, 7), (⟨"ScratchLadder$Rungs", "isRung", "(LScratchLadder$Text;I)Z"⟩, 2), (⟨"ScratchLadder$Rungs", "isBetween", "(LScratchLadder$Text;IIII)Z"⟩, 2), (⟨"ScratchLadder$Rungs", "aheadOf", "(LScratchLadder$Text;III)I"⟩, 2), (⟨"ScratchLadder$Sorter", "rowsLeft", "(I)I"⟩, 5), (⟨"ScratchLadder$Sorter", "goodPair", "(III)I"⟩, 5), (⟨"ScratchLadder$Sorter", "isGood", "(IIIII)Z"⟩, 5), (⟨"ScratchLadder$Sorter", "with", "(III)I"⟩, 5), (⟨"ScratchLadder$Sorter", "areEnough", "(III)Z"⟩, 5), (⟨"ScratchLadder$Orders", "hasPlace", "(II)Z"⟩, 7)]
theorem lw_r3 : ∀ q ∈ lw_privs_3, lw_okq q := List.forall_mem_cons.mpr ⟨lw_p32, List.forall_mem_cons.mpr ⟨lw_p33, List.forall_mem_cons.mpr ⟨lw_p34, List.forall_mem_cons.mpr ⟨lw_p35, List.forall_mem_cons.mpr ⟨lw_p36, List.forall_mem_cons.mpr ⟨lw_p37, List.forall_mem_cons.mpr ⟨lw_p38, List.forall_mem_cons.mpr ⟨lw_p39, List.forall_mem_cons.mpr ⟨lw_p40, List.forall_mem_cons.mpr ⟨lw_p41, List.forall_mem_cons.mpr ⟨lw_p42, List.forall_mem_cons.mpr ⟨lw_p43, List.forall_mem_cons.mpr ⟨lw_p44, List.forall_mem_cons.mpr ⟨lw_p45, List.forall_mem_cons.mpr ⟨lw_p46, List.forall_mem_cons.mpr ⟨lw_p47, fun _ h => absurd h List.not_mem_nil⟩⟩⟩⟩⟩⟩⟩⟩⟩⟩⟩⟩⟩⟩⟩⟩
theorem lw_p48 : lw_okq (⟨"ScratchLadder$Lineup", "sort", "()V"⟩, 6) := ⟨⟨by decide +kernel, by decide +kernel⟩, List.mem_of_getElem? (i := 274) (by decide +kernel), List.mem_of_getElem? (i := 1039) (by decide +kernel), List.mem_of_getElem? (i := 1040) (by decide +kernel)⟩
theorem lw_p49 : lw_okq (⟨"ScratchLadder$Question", "waysCut", "(III)I"⟩, 3) := ⟨⟨by decide +kernel, by decide +kernel⟩, List.mem_of_getElem? (i := 195) (by decide +kernel), List.mem_of_getElem? (i := 1072) (by decide +kernel), List.mem_of_getElem? (i := 1073) (by decide +kernel)⟩
theorem lw_p50 : lw_okq (⟨"ScratchLadder$Naming", "rowsWith", "(I)I"⟩, 3) := ⟨⟨by decide +kernel, by decide +kernel⟩, List.mem_of_getElem? (i := 335) (by decide +kernel), List.mem_of_getElem? (i := 1098) (by decide +kernel), List.mem_of_getElem? (i := 1099) (by decide +kernel)⟩
theorem lw_p51 : lw_okq (⟨"ScratchLadder$Naming", "nextNumber", "(I)I"⟩, 3) := ⟨⟨by decide +kernel, by decide +kernel⟩, List.mem_of_getElem? (i := 335) (by decide +kernel), List.mem_of_getElem? (i := 1103) (by decide +kernel), List.mem_of_getElem? (i := 1104) (by decide +kernel)⟩
theorem lw_p52 : lw_okq (⟨"ScratchLadder$Naming", "namesKnownAs", "(I)I"⟩, 3) := ⟨⟨by decide +kernel, by decide +kernel⟩, List.mem_of_getElem? (i := 335) (by decide +kernel), List.mem_of_getElem? (i := 1113) (by decide +kernel), List.mem_of_getElem? (i := 1114) (by decide +kernel)⟩
theorem lw_p53 : lw_okq (⟨"ScratchLadder$Naming", "giveOut", "(III)V"⟩, 3) := ⟨⟨by decide +kernel, by decide +kernel⟩, List.mem_of_getElem? (i := 335) (by decide +kernel), List.mem_of_getElem? (i := 1117) (by decide +kernel), List.mem_of_getElem? (i := 1118) (by decide +kernel)⟩
theorem lw_p54 : lw_okq (⟨"ScratchLadder$Naming", "readyAfter", "(I)I"⟩, 3) := ⟨⟨by decide +kernel, by decide +kernel⟩, List.mem_of_getElem? (i := 335) (by decide +kernel), List.mem_of_getElem? (i := 1122) (by decide +kernel), List.mem_of_getElem? (i := 1123) (by decide +kernel)⟩
theorem lw_p55 : lw_okq (⟨"ScratchLadder$Naming", "canBeExchanged", "(I)Z"⟩, 3) := ⟨⟨by decide +kernel, by decide +kernel⟩, List.mem_of_getElem? (i := 335) (by decide +kernel), List.mem_of_getElem? (i := 1135) (by decide +kernel), List.mem_of_getElem? (i := 1136) (by decide +kernel)⟩
theorem lw_p56 : lw_okq (⟨"ScratchLadderModel", "refuses", "(I)I"⟩, 41) := ⟨⟨by decide +kernel, by decide +kernel⟩, List.mem_of_getElem? (i := 1172) (by decide +kernel), List.mem_of_getElem? (i := 1310) (by decide +kernel), List.mem_of_getElem? (i := 1311) (by decide +kernel)⟩
theorem lw_p57 : lw_okq (⟨"ScratchLadderModel", "good", "(I)I"⟩, 41) := ⟨⟨by decide +kernel, by decide +kernel⟩, List.mem_of_getElem? (i := 1172) (by decide +kernel), List.mem_of_getElem? (i := 1314) (by decide +kernel), List.mem_of_getElem? (i := 1315) (by decide +kernel)⟩
theorem lw_p58 : lw_okq (⟨"ScratchLadderModel", "many", "()I"⟩, 41) := ⟨⟨by decide +kernel, by decide +kernel⟩, List.mem_of_getElem? (i := 1172) (by decide +kernel), List.mem_of_getElem? (i := 1326) (by decide +kernel), List.mem_of_getElem? (i := 1327) (by decide +kernel)⟩
theorem lw_p59 : lw_okq (⟨"ScratchLadderModel", "isStone", "(I)Z"⟩, 41) := ⟨⟨by decide +kernel, by decide +kernel⟩, List.mem_of_getElem? (i := 1172) (by decide +kernel), List.mem_of_getElem? (i := 1334) (by decide +kernel), List.mem_of_getElem? (i := 1335) (by decide +kernel)⟩
theorem lw_p60 : lw_okq (⟨"ScratchLadderModel", "replaces", "(II)I"⟩, 41) := ⟨⟨by decide +kernel, by decide +kernel⟩, List.mem_of_getElem? (i := 1172) (by decide +kernel), List.mem_of_getElem? (i := 1338) (by decide +kernel), List.mem_of_getElem? (i := 1339) (by decide +kernel)⟩
theorem lw_p61 : lw_okq (⟨"ScratchLadderModel", "reads", "()Z"⟩, 41) := ⟨⟨by decide +kernel, by decide +kernel⟩, List.mem_of_getElem? (i := 1172) (by decide +kernel), List.mem_of_getElem? (i := 1371) (by decide +kernel), List.mem_of_getElem? (i := 1372) (by decide +kernel)⟩
theorem lw_p62 : lw_okq (⟨"ScratchLadderModel", "splits", "(I)V"⟩, 41) := ⟨⟨by decide +kernel, by decide +kernel⟩, List.mem_of_getElem? (i := 1172) (by decide +kernel), List.mem_of_getElem? (i := 1375) (by decide +kernel), List.mem_of_getElem? (i := 1376) (by decide +kernel)⟩
theorem lw_p63 : lw_okq (⟨"ScratchLadderModel", "wordOf", "(II)I"⟩, 41) := ⟨⟨by decide +kernel, by decide +kernel⟩, List.mem_of_getElem? (i := 1172) (by decide +kernel), List.mem_of_getElem? (i := 1385) (by decide +kernel), List.mem_of_getElem? (i := 1386) (by decide +kernel)⟩
def lw_privs_4 : List (MethodName × Nat) := [(⟨"ScratchLadder$Lineup", "sort", "()V"⟩, 6), (⟨"ScratchLadder$Question", "waysCut", "(III)I"⟩, 3), (⟨"ScratchLadder$Naming", "rowsWith", "(I)I"⟩, 3), (⟨"ScratchLadder$Naming", "nextNumber", "(I)I"⟩, 3), (⟨"ScratchLadder$Naming", "namesKnownAs", "(I)I"⟩, 3), (⟨"ScratchLadder$Naming", "giveOut", "(III)V"⟩, 3), (⟨"ScratchLadder$Naming", "readyAfter", "(I)I"⟩, 3), (⟨"ScratchLadder$Naming", "canBeExchanged", "(I)Z"⟩, 3), (⟨"ScratchLadderModel", "refuses", "(I)I"⟩, 41), (⟨"ScratchLadderModel", "good", "(I)I"⟩, 41), (⟨"ScratchLadderModel", "many", "()I"⟩, 41), (⟨"ScratchLadderModel", "isStone", "(I)Z"⟩, 41), (⟨"ScratchLadderModel", "replaces", "(II)I"⟩, 41), (⟨"ScratchLadderModel", "reads", "()Z"⟩, 41), (⟨"ScratchLadderModel", "splits", "(I)V"⟩, 41), (⟨"ScratchLadderModel", "wordOf", "(II)I"⟩, 41)]
theorem lw_r4 : ∀ q ∈ lw_privs_4, lw_okq q := List.forall_mem_cons.mpr ⟨lw_p48, List.forall_mem_cons.mpr ⟨lw_p49, List.forall_mem_cons.mpr ⟨lw_p50, List.forall_mem_cons.mpr ⟨lw_p51, List.forall_mem_cons.mpr ⟨lw_p52, List.forall_mem_cons.mpr ⟨lw_p53, List.forall_mem_cons.mpr ⟨lw_p54, List.forall_mem_cons.mpr ⟨lw_p55, List.forall_mem_cons.mpr ⟨lw_p56, List.forall_mem_cons.mpr ⟨lw_p57, List.forall_mem_cons.mpr ⟨lw_p58, List.forall_mem_cons.mpr ⟨lw_p59, List.forall_mem_cons.mpr ⟨lw_p60, List.forall_mem_cons.mpr ⟨lw_p61, List.forall_mem_cons.mpr ⟨lw_p62, List.forall_mem_cons.mpr ⟨lw_p63, fun _ h => absurd h List.not_mem_nil⟩⟩⟩⟩⟩⟩⟩⟩⟩⟩⟩⟩⟩⟩⟩⟩
theorem lw_p64 : lw_okq (⟨"ScratchLadderModel", "readClause", "()V"⟩, 41) := ⟨⟨by decide +kernel, by decide +kernel⟩, List.mem_of_getElem? (i := 1172) (by decide +kernel), List.mem_of_getElem? (i := 1389) (by decide +kernel), List.mem_of_getElem? (i := 1390) (by decide +kernel)⟩
theorem lw_p65 : lw_okq (⟨"ScratchLadderModel", "takes", "(I)Z"⟩, 41) := ⟨⟨by decide +kernel, by decide +kernel⟩, List.mem_of_getElem? (i := 1172) (by decide +kernel), List.mem_of_getElem? (i := 1393) (by decide +kernel), List.mem_of_getElem? (i := 1394) (by decide +kernel)⟩
theorem lw_p66 : lw_okq (⟨"ScratchLadderModel", "fine", "()Z"⟩, 41) := ⟨⟨by decide +kernel, by decide +kernel⟩, List.mem_of_getElem? (i := 1172) (by decide +kernel), List.mem_of_getElem? (i := 1397) (by decide +kernel), List.mem_of_getElem? (i := 1398) (by decide +kernel)⟩
theorem lw_p67 : lw_okq (⟨"ScratchLadderModel", "number", "(I)V"⟩, 41) := ⟨⟨by decide +kernel, by decide +kernel⟩, List.mem_of_getElem? (i := 1172) (by decide +kernel), List.mem_of_getElem? (i := 1401) (by decide +kernel), List.mem_of_getElem? (i := 1402) (by decide +kernel)⟩
theorem lw_p68 : lw_okq (⟨"ScratchLadderModel", "faults", "()V"⟩, 41) := ⟨⟨by decide +kernel, by decide +kernel⟩, List.mem_of_getElem? (i := 1172) (by decide +kernel), List.mem_of_getElem? (i := 1405) (by decide +kernel), List.mem_of_getElem? (i := 1406) (by decide +kernel)⟩
theorem lw_p69 : lw_okq (⟨"ScratchLadderModel", "must", "(I)V"⟩, 41) := ⟨⟨by decide +kernel, by decide +kernel⟩, List.mem_of_getElem? (i := 1172) (by decide +kernel), List.mem_of_getElem? (i := 1409) (by decide +kernel), List.mem_of_getElem? (i := 1410) (by decide +kernel)⟩
theorem lw_p70 : lw_okq (⟨"ScratchLadderModel", "readSum", "(I)V"⟩, 41) := ⟨⟨by decide +kernel, by decide +kernel⟩, List.mem_of_getElem? (i := 1172) (by decide +kernel), List.mem_of_getElem? (i := 1413) (by decide +kernel), List.mem_of_getElem? (i := 1414) (by decide +kernel)⟩
theorem lw_p71 : lw_okq (⟨"ScratchLadderModel", "readTerm", "(I)V"⟩, 41) := ⟨⟨by decide +kernel, by decide +kernel⟩, List.mem_of_getElem? (i := 1172) (by decide +kernel), List.mem_of_getElem? (i := 1417) (by decide +kernel), List.mem_of_getElem? (i := 1418) (by decide +kernel)⟩
theorem lw_p72 : lw_okq (⟨"ScratchLadderModel", "readPart", "(I)V"⟩, 41) := ⟨⟨by decide +kernel, by decide +kernel⟩, List.mem_of_getElem? (i := 1172) (by decide +kernel), List.mem_of_getElem? (i := 1421) (by decide +kernel), List.mem_of_getElem? (i := 1422) (by decide +kernel)⟩
theorem lw_p73 : lw_okq (⟨"ScratchLadderModel", "leaf", "()V"⟩, 41) := ⟨⟨by decide +kernel, by decide +kernel⟩, List.mem_of_getElem? (i := 1172) (by decide +kernel), List.mem_of_getElem? (i := 1429) (by decide +kernel), List.mem_of_getElem? (i := 1430) (by decide +kernel)⟩
theorem lw_p74 : lw_okq (⟨"ScratchLadderModel", "readTest", "(I)V"⟩, 41) := ⟨⟨by decide +kernel, by decide +kernel⟩, List.mem_of_getElem? (i := 1172) (by decide +kernel), List.mem_of_getElem? (i := 1433) (by decide +kernel), List.mem_of_getElem? (i := 1434) (by decide +kernel)⟩
theorem lw_p75 : lw_okq (⟨"ScratchLadderModel", "readBoth", "(I)V"⟩, 41) := ⟨⟨by decide +kernel, by decide +kernel⟩, List.mem_of_getElem? (i := 1172) (by decide +kernel), List.mem_of_getElem? (i := 1437) (by decide +kernel), List.mem_of_getElem? (i := 1438) (by decide +kernel)⟩
theorem lw_p76 : lw_okq (⟨"ScratchLadderModel", "readPlain", "(I)V"⟩, 41) := ⟨⟨by decide +kernel, by decide +kernel⟩, List.mem_of_getElem? (i := 1172) (by decide +kernel), List.mem_of_getElem? (i := 1441) (by decide +kernel), List.mem_of_getElem? (i := 1442) (by decide +kernel)⟩
theorem lw_p77 : lw_okq (⟨"ScratchLadderModel", "isText", "(I)Z"⟩, 41) := ⟨⟨by decide +kernel, by decide +kernel⟩, List.mem_of_getElem? (i := 1172) (by decide +kernel), List.mem_of_getElem? (i := 1453) (by decide +kernel), List.mem_of_getElem? (i := 1454) (by decide +kernel)⟩
theorem lw_p78 : lw_okq (⟨"ScratchLadderModel", "isCut", "(IIII)Z"⟩, 41) := ⟨⟨by decide +kernel, by decide +kernel⟩, List.mem_of_getElem? (i := 1172) (by decide +kernel), List.mem_of_getElem? (i := 1464) (by decide +kernel), List.mem_of_getElem? (i := 1465) (by decide +kernel)⟩
theorem lw_p79 : lw_okq (⟨"ScratchLadderModel", "asks", "(IIIIII)V"⟩, 41) := ⟨⟨by decide +kernel, by decide +kernel⟩, List.mem_of_getElem? (i := 1172) (by decide +kernel), List.mem_of_getElem? (i := 1468) (by decide +kernel), List.mem_of_getElem? (i := 1469) (by decide +kernel)⟩
def lw_privs_5 : List (MethodName × Nat) := [(⟨"ScratchLadderModel", "readClause", "()V"⟩, 41), (⟨"ScratchLadderModel", "takes", "(I)Z"⟩, 41), (⟨"ScratchLadderModel", "fine", "()Z"⟩, 41), (⟨"ScratchLadderModel", "number", "(I)V"⟩, 41), (⟨"ScratchLadderModel", "faults", "()V"⟩, 41), (⟨"ScratchLadderModel", "must", "(I)V"⟩, 41), (⟨"ScratchLadderModel", "readSum", "(I)V"⟩, 41), (⟨"ScratchLadderModel", "readTerm", "(I)V"⟩, 41), (⟨"ScratchLadderModel", "readPart", "(I)V"⟩, 41), (⟨"ScratchLadderModel", "leaf", "()V"⟩, 41), (⟨"ScratchLadderModel", "readTest", "(I)V"⟩, 41), (⟨"ScratchLadderModel", "readBoth", "(I)V"⟩, 41), (⟨"ScratchLadderModel", "readPlain", "(I)V"⟩, 41), (⟨"ScratchLadderModel", "isText", "(I)Z"⟩, 41), (⟨"ScratchLadderModel", "isCut", "(IIII)Z"⟩, 41), (⟨"ScratchLadderModel", "asks", "(IIIIII)V"⟩, 41)]
theorem lw_r5 : ∀ q ∈ lw_privs_5, lw_okq q := List.forall_mem_cons.mpr ⟨lw_p64, List.forall_mem_cons.mpr ⟨lw_p65, List.forall_mem_cons.mpr ⟨lw_p66, List.forall_mem_cons.mpr ⟨lw_p67, List.forall_mem_cons.mpr ⟨lw_p68, List.forall_mem_cons.mpr ⟨lw_p69, List.forall_mem_cons.mpr ⟨lw_p70, List.forall_mem_cons.mpr ⟨lw_p71, List.forall_mem_cons.mpr ⟨lw_p72, List.forall_mem_cons.mpr ⟨lw_p73, List.forall_mem_cons.mpr ⟨lw_p74, List.forall_mem_cons.mpr ⟨lw_p75, List.forall_mem_cons.mpr ⟨lw_p76, List.forall_mem_cons.mpr ⟨lw_p77, List.forall_mem_cons.mpr ⟨lw_p78, List.forall_mem_cons.mpr ⟨lw_p79, fun _ h => absurd h List.not_mem_nil⟩⟩⟩⟩⟩⟩⟩⟩⟩⟩⟩⟩⟩⟩⟩⟩
theorem lw_p80 : lw_okq (⟨"ScratchLadderModel", "stoneOf", "(II)I"⟩, 41) := ⟨⟨by decide +kernel, by decide +kernel⟩, List.mem_of_getElem? (i := 1172) (by decide +kernel), List.mem_of_getElem? (i := 1472) (by decide +kernel), List.mem_of_getElem? (i := 1473) (by decide +kernel)⟩
theorem lw_p81 : lw_okq (⟨"ScratchLadderModel", "codeAt", "(I)I"⟩, 41) := ⟨⟨by decide +kernel, by decide +kernel⟩, List.mem_of_getElem? (i := 1172) (by decide +kernel), List.mem_of_getElem? (i := 1476) (by decide +kernel), List.mem_of_getElem? (i := 1477) (by decide +kernel)⟩
theorem lw_p82 : lw_okq (⟨"ScratchLadderModel", "sumOf", "(Z)J"⟩, 41) := ⟨⟨by decide +kernel, by decide +kernel⟩, List.mem_of_getElem? (i := 1172) (by decide +kernel), List.mem_of_getElem? (i := 1480) (by decide +kernel), List.mem_of_getElem? (i := 1481) (by decide +kernel)⟩
theorem lw_p83 : lw_okq (⟨"ScratchLadderModel", "termOf", "(Z)J"⟩, 41) := ⟨⟨by decide +kernel, by decide +kernel⟩, List.mem_of_getElem? (i := 1172) (by decide +kernel), List.mem_of_getElem? (i := 1484) (by decide +kernel), List.mem_of_getElem? (i := 1485) (by decide +kernel)⟩
theorem lw_p84 : lw_okq (⟨"ScratchLadderModel", "partOf", "(Z)J"⟩, 41) := ⟨⟨by decide +kernel, by decide +kernel⟩, List.mem_of_getElem? (i := 1172) (by decide +kernel), List.mem_of_getElem? (i := 1488) (by decide +kernel), List.mem_of_getElem? (i := 1489) (by decide +kernel)⟩
theorem lw_p85 : lw_okq (⟨"ScratchLadderModel", "passes", "(I)Z"⟩, 41) := ⟨⟨by decide +kernel, by decide +kernel⟩, List.mem_of_getElem? (i := 1172) (by decide +kernel), List.mem_of_getElem? (i := 1492) (by decide +kernel), List.mem_of_getElem? (i := 1493) (by decide +kernel)⟩
theorem lw_p86 : lw_okq (⟨"ScratchLadderModel", "bounded", "(JZ)J"⟩, 41) := ⟨⟨by decide +kernel, by decide +kernel⟩, List.mem_of_getElem? (i := 1172) (by decide +kernel), List.mem_of_getElem? (i := 1496) (by decide +kernel), List.mem_of_getElem? (i := 1497) (by decide +kernel)⟩
theorem lw_p87 : lw_okq (⟨"ScratchLadderModel", "testOf", "(Z)Z"⟩, 41) := ⟨⟨by decide +kernel, by decide +kernel⟩, List.mem_of_getElem? (i := 1172) (by decide +kernel), List.mem_of_getElem? (i := 1502) (by decide +kernel), List.mem_of_getElem? (i := 1503) (by decide +kernel)⟩
theorem lw_p88 : lw_okq (⟨"ScratchLadderModel", "bothOf", "(Z)Z"⟩, 41) := ⟨⟨by decide +kernel, by decide +kernel⟩, List.mem_of_getElem? (i := 1172) (by decide +kernel), List.mem_of_getElem? (i := 1506) (by decide +kernel), List.mem_of_getElem? (i := 1507) (by decide +kernel)⟩
theorem lw_p89 : lw_okq (⟨"ScratchLadderModel", "plainOf", "(Z)Z"⟩, 41) := ⟨⟨by decide +kernel, by decide +kernel⟩, List.mem_of_getElem? (i := 1172) (by decide +kernel), List.mem_of_getElem? (i := 1510) (by decide +kernel), List.mem_of_getElem? (i := 1511) (by decide +kernel)⟩
theorem lw_p90 : lw_okq (⟨"ScratchLadderModel", "positiveOf", "(Z)Z"⟩, 41) := ⟨⟨by decide +kernel, by decide +kernel⟩, List.mem_of_getElem? (i := 1172) (by decide +kernel), List.mem_of_getElem? (i := 1514) (by decide +kernel), List.mem_of_getElem? (i := 1515) (by decide +kernel)⟩
theorem lw_p91 : lw_okq (⟨"ScratchLadderModel", "draws", "(I)I"⟩, 41) := ⟨⟨by decide +kernel, by decide +kernel⟩, List.mem_of_getElem? (i := 1172) (by decide +kernel), List.mem_of_getElem? (i := 1526) (by decide +kernel), List.mem_of_getElem? (i := 1527) (by decide +kernel)⟩
theorem lw_p92 : lw_okq (⟨"ScratchLadderModel", "keeps", "(IIIIIIII)V"⟩, 41) := ⟨⟨by decide +kernel, by decide +kernel⟩, List.mem_of_getElem? (i := 1172) (by decide +kernel), List.mem_of_getElem? (i := 1533) (by decide +kernel), List.mem_of_getElem? (i := 1534) (by decide +kernel)⟩
theorem lw_p93 : lw_okq (⟨"ScratchLadderModel", "isTrial", "(I)Z"⟩, 41) := ⟨⟨by decide +kernel, by decide +kernel⟩, List.mem_of_getElem? (i := 1172) (by decide +kernel), List.mem_of_getElem? (i := 1545) (by decide +kernel), List.mem_of_getElem? (i := 1546) (by decide +kernel)⟩
theorem lw_p94 : lw_okq (⟨"ScratchLadderModel", "trialOf", "(II)I"⟩, 41) := ⟨⟨by decide +kernel, by decide +kernel⟩, List.mem_of_getElem? (i := 1172) (by decide +kernel), List.mem_of_getElem? (i := 1549) (by decide +kernel), List.mem_of_getElem? (i := 1550) (by decide +kernel)⟩
theorem lw_p95 : lw_okq (⟨"ScratchLadderModel", "counts", "(I)Z"⟩, 41) := ⟨⟨by decide +kernel, by decide +kernel⟩, List.mem_of_getElem? (i := 1172) (by decide +kernel), List.mem_of_getElem? (i := 1561) (by decide +kernel), List.mem_of_getElem? (i := 1562) (by decide +kernel)⟩
def lw_privs_6 : List (MethodName × Nat) := [(⟨"ScratchLadderModel", "stoneOf", "(II)I"⟩, 41), (⟨"ScratchLadderModel", "codeAt", "(I)I"⟩, 41), (⟨"ScratchLadderModel", "sumOf", "(Z)J"⟩, 41), (⟨"ScratchLadderModel", "termOf", "(Z)J"⟩, 41), (⟨"ScratchLadderModel", "partOf", "(Z)J"⟩, 41), (⟨"ScratchLadderModel", "passes", "(I)Z"⟩, 41), (⟨"ScratchLadderModel", "bounded", "(JZ)J"⟩, 41), (⟨"ScratchLadderModel", "testOf", "(Z)Z"⟩, 41), (⟨"ScratchLadderModel", "bothOf", "(Z)Z"⟩, 41), (⟨"ScratchLadderModel", "plainOf", "(Z)Z"⟩, 41), (⟨"ScratchLadderModel", "positiveOf", "(Z)Z"⟩, 41), (⟨"ScratchLadderModel", "draws", "(I)I"⟩, 41), (⟨"ScratchLadderModel", "keeps", "(IIIIIIII)V"⟩, 41), (⟨"ScratchLadderModel", "isTrial", "(I)Z"⟩, 41), (⟨"ScratchLadderModel", "trialOf", "(II)I"⟩, 41), (⟨"ScratchLadderModel", "counts", "(I)Z"⟩, 41)]
theorem lw_r6 : ∀ q ∈ lw_privs_6, lw_okq q := List.forall_mem_cons.mpr ⟨lw_p80, List.forall_mem_cons.mpr ⟨lw_p81, List.forall_mem_cons.mpr ⟨lw_p82, List.forall_mem_cons.mpr ⟨lw_p83, List.forall_mem_cons.mpr ⟨lw_p84, List.forall_mem_cons.mpr ⟨lw_p85, List.forall_mem_cons.mpr ⟨lw_p86, List.forall_mem_cons.mpr ⟨lw_p87, List.forall_mem_cons.mpr ⟨lw_p88, List.forall_mem_cons.mpr ⟨lw_p89, List.forall_mem_cons.mpr ⟨lw_p90, List.forall_mem_cons.mpr ⟨lw_p91, List.forall_mem_cons.mpr ⟨lw_p92, List.forall_mem_cons.mpr ⟨lw_p93, List.forall_mem_cons.mpr ⟨lw_p94, List.forall_mem_cons.mpr ⟨lw_p95, fun _ h => absurd h List.not_mem_nil⟩⟩⟩⟩⟩⟩⟩⟩⟩⟩⟩⟩⟩⟩⟩⟩
theorem lw_p96 : lw_okq (⟨"ScratchLadderModel", "hears", "()V"⟩, 41) := ⟨⟨by decide +kernel, by decide +kernel⟩, List.mem_of_getElem? (i := 1172) (by decide +kernel), List.mem_of_getElem? (i := 1569) (by decide +kernel), List.mem_of_getElem? (i := 1570) (by decide +kernel)⟩
theorem lw_p97 : lw_okq (⟨"ScratchLadderModel", "speaks", "(I)Z"⟩, 41) := ⟨⟨by decide +kernel, by decide +kernel⟩, List.mem_of_getElem? (i := 1172) (by decide +kernel), List.mem_of_getElem? (i := 1573) (by decide +kernel), List.mem_of_getElem? (i := 1574) (by decide +kernel)⟩
theorem lw_p98 : lw_okq (⟨"ScratchLadderModel", "isOver", "(II)Z"⟩, 41) := ⟨⟨by decide +kernel, by decide +kernel⟩, List.mem_of_getElem? (i := 1172) (by decide +kernel), List.mem_of_getElem? (i := 1581) (by decide +kernel), List.mem_of_getElem? (i := 1582) (by decide +kernel)⟩
theorem lw_p99 : lw_okq (⟨"ScratchLadderModel", "ordersWith", "(II)I"⟩, 41) := ⟨⟨by decide +kernel, by decide +kernel⟩, List.mem_of_getElem? (i := 1172) (by decide +kernel), List.mem_of_getElem? (i := 1589) (by decide +kernel), List.mem_of_getElem? (i := 1590) (by decide +kernel)⟩
theorem lw_p100 : lw_okq (⟨"ScratchLadderModel", "against", "(II)I"⟩, 41) := ⟨⟨by decide +kernel, by decide +kernel⟩, List.mem_of_getElem? (i := 1172) (by decide +kernel), List.mem_of_getElem? (i := 1609) (by decide +kernel), List.mem_of_getElem? (i := 1610) (by decide +kernel)⟩
theorem lw_p101 : lw_okq (⟨"ScratchLadderModel", "isAgainst", "(I)Z"⟩, 41) := ⟨⟨by decide +kernel, by decide +kernel⟩, List.mem_of_getElem? (i := 1172) (by decide +kernel), List.mem_of_getElem? (i := 1621) (by decide +kernel), List.mem_of_getElem? (i := 1622) (by decide +kernel)⟩
theorem lw_p102 : lw_okq (⟨"ScratchLadderModel", "placeOf", "(I)I"⟩, 41) := ⟨⟨by decide +kernel, by decide +kernel⟩, List.mem_of_getElem? (i := 1172) (by decide +kernel), List.mem_of_getElem? (i := 1625) (by decide +kernel), List.mem_of_getElem? (i := 1626) (by decide +kernel)⟩
theorem lw_p103 : lw_okq (⟨"ScratchLadderModel", "spans", "(I)V"⟩, 41) := ⟨⟨by decide +kernel, by decide +kernel⟩, List.mem_of_getElem? (i := 1172) (by decide +kernel), List.mem_of_getElem? (i := 1633) (by decide +kernel), List.mem_of_getElem? (i := 1634) (by decide +kernel)⟩
theorem lw_p104 : lw_okq (⟨"ScratchLadderModel", "climbs", "()V"⟩, 41) := ⟨⟨by decide +kernel, by decide +kernel⟩, List.mem_of_getElem? (i := 1172) (by decide +kernel), List.mem_of_getElem? (i := 1637) (by decide +kernel), List.mem_of_getElem? (i := 1638) (by decide +kernel)⟩
theorem lw_p105 : lw_okq (⟨"ScratchLadderModel", "isBetween", "(II)Z"⟩, 41) := ⟨⟨by decide +kernel, by decide +kernel⟩, List.mem_of_getElem? (i := 1172) (by decide +kernel), List.mem_of_getElem? (i := 1645) (by decide +kernel), List.mem_of_getElem? (i := 1646) (by decide +kernel)⟩
theorem lw_p106 : lw_okq (⟨"ScratchLadderModel", "closed", "(I)I"⟩, 41) := ⟨⟨by decide +kernel, by decide +kernel⟩, List.mem_of_getElem? (i := 1172) (by decide +kernel), List.mem_of_getElem? (i := 1656) (by decide +kernel), List.mem_of_getElem? (i := 1657) (by decide +kernel)⟩
theorem lw_p107 : lw_okq (⟨"ScratchLadderModel", "fews", "(I)V"⟩, 41) := ⟨⟨by decide +kernel, by decide +kernel⟩, List.mem_of_getElem? (i := 1172) (by decide +kernel), List.mem_of_getElem? (i := 1660) (by decide +kernel), List.mem_of_getElem? (i := 1661) (by decide +kernel)⟩
theorem lw_p108 : lw_okq (⟨"ScratchLadderModel", "untold", "(II)I"⟩, 41) := ⟨⟨by decide +kernel, by decide +kernel⟩, List.mem_of_getElem? (i := 1172) (by decide +kernel), List.mem_of_getElem? (i := 1668) (by decide +kernel), List.mem_of_getElem? (i := 1669) (by decide +kernel)⟩
theorem lw_p109 : lw_okq (⟨"ScratchLadderModel", "lays", "(II)V"⟩, 41) := ⟨⟨by decide +kernel, by decide +kernel⟩, List.mem_of_getElem? (i := 1172) (by decide +kernel), List.mem_of_getElem? (i := 1672) (by decide +kernel), List.mem_of_getElem? (i := 1673) (by decide +kernel)⟩
theorem lw_p110 : lw_okq (⟨"ScratchLadderModel", "worst", "(IIII)I"⟩, 41) := ⟨⟨by decide +kernel, by decide +kernel⟩, List.mem_of_getElem? (i := 1172) (by decide +kernel), List.mem_of_getElem? (i := 1676) (by decide +kernel), List.mem_of_getElem? (i := 1677) (by decide +kernel)⟩
theorem lw_p111 : lw_okq (⟨"ScratchLadderModel", "with", "(IIII)I"⟩, 41) := ⟨⟨by decide +kernel, by decide +kernel⟩, List.mem_of_getElem? (i := 1172) (by decide +kernel), List.mem_of_getElem? (i := 1683) (by decide +kernel), List.mem_of_getElem? (i := 1684) (by decide +kernel)⟩
def lw_privs_7 : List (MethodName × Nat) := [(⟨"ScratchLadderModel", "hears", "()V"⟩, 41), (⟨"ScratchLadderModel", "speaks", "(I)Z"⟩, 41), (⟨"ScratchLadderModel", "isOver", "(II)Z"⟩, 41), (⟨"ScratchLadderModel", "ordersWith", "(II)I"⟩, 41), (⟨"ScratchLadderModel", "against", "(II)I"⟩, 41), (⟨"ScratchLadderModel", "isAgainst", "(I)Z"⟩, 41), (⟨"ScratchLadderModel", "placeOf", "(I)I"⟩, 41), (⟨"ScratchLadderModel", "spans", "(I)V"⟩, 41), (⟨"ScratchLadderModel", "climbs", "()V"⟩, 41), (⟨"ScratchLadderModel", "isBetween", "(II)Z"⟩, 41), (⟨"ScratchLadderModel", "closed", "(I)I"⟩, 41), (⟨"ScratchLadderModel", "fews", "(I)V"⟩, 41), (⟨"ScratchLadderModel", "untold", "(II)I"⟩, 41), (⟨"ScratchLadderModel", "lays", "(II)V"⟩, 41), (⟨"ScratchLadderModel", "worst", "(IIII)I"⟩, 41), (⟨"ScratchLadderModel", "with", "(IIII)I"⟩, 41)]
theorem lw_r7 : ∀ q ∈ lw_privs_7, lw_okq q := List.forall_mem_cons.mpr ⟨lw_p96, List.forall_mem_cons.mpr ⟨lw_p97, List.forall_mem_cons.mpr ⟨lw_p98, List.forall_mem_cons.mpr ⟨lw_p99, List.forall_mem_cons.mpr ⟨lw_p100, List.forall_mem_cons.mpr ⟨lw_p101, List.forall_mem_cons.mpr ⟨lw_p102, List.forall_mem_cons.mpr ⟨lw_p103, List.forall_mem_cons.mpr ⟨lw_p104, List.forall_mem_cons.mpr ⟨lw_p105, List.forall_mem_cons.mpr ⟨lw_p106, List.forall_mem_cons.mpr ⟨lw_p107, List.forall_mem_cons.mpr ⟨lw_p108, List.forall_mem_cons.mpr ⟨lw_p109, List.forall_mem_cons.mpr ⟨lw_p110, List.forall_mem_cons.mpr ⟨lw_p111, fun _ h => absurd h List.not_mem_nil⟩⟩⟩⟩⟩⟩⟩⟩⟩⟩⟩⟩⟩⟩⟩⟩
theorem lw_p112 : lw_okq (⟨"ScratchLadderModel", "isBestThere", "()Z"⟩, 41) := ⟨⟨by decide +kernel, by decide +kernel⟩, List.mem_of_getElem? (i := 1172) (by decide +kernel), List.mem_of_getElem? (i := 1691) (by decide +kernel), List.mem_of_getElem? (i := 1692) (by decide +kernel)⟩
theorem lw_p113 : lw_okq (⟨"ScratchLadderModel", "apart", "(I)I"⟩, 41) := ⟨⟨by decide +kernel, by decide +kernel⟩, List.mem_of_getElem? (i := 1172) (by decide +kernel), List.mem_of_getElem? (i := 1695) (by decide +kernel), List.mem_of_getElem? (i := 1696) (by decide +kernel)⟩
theorem lw_p114 : lw_okq (⟨"ScratchLadderModel", "dentsOf", "(I)V"⟩, 41) := ⟨⟨by decide +kernel, by decide +kernel⟩, List.mem_of_getElem? (i := 1172) (by decide +kernel), List.mem_of_getElem? (i := 1706) (by decide +kernel), List.mem_of_getElem? (i := 1707) (by decide +kernel)⟩
theorem lw_p115 : lw_okq (⟨"ScratchLadderModel", "standing", "(I)I"⟩, 41) := ⟨⟨by decide +kernel, by decide +kernel⟩, List.mem_of_getElem? (i := 1172) (by decide +kernel), List.mem_of_getElem? (i := 1710) (by decide +kernel), List.mem_of_getElem? (i := 1711) (by decide +kernel)⟩
theorem lw_p116 : lw_okq (⟨"ScratchLadderModel", "isAhead", "(II)Z"⟩, 41) := ⟨⟨by decide +kernel, by decide +kernel⟩, List.mem_of_getElem? (i := 1172) (by decide +kernel), List.mem_of_getElem? (i := 1714) (by decide +kernel), List.mem_of_getElem? (i := 1715) (by decide +kernel)⟩
theorem lw_p117 : lw_okq (⟨"ScratchLadderModel", "groovesOf", "()V"⟩, 41) := ⟨⟨by decide +kernel, by decide +kernel⟩, List.mem_of_getElem? (i := 1172) (by decide +kernel), List.mem_of_getElem? (i := 1722) (by decide +kernel), List.mem_of_getElem? (i := 1723) (by decide +kernel)⟩
theorem lw_p118 : lw_okq (⟨"ScratchLadderModel", "cutsOn", "(II)I"⟩, 41) := ⟨⟨by decide +kernel, by decide +kernel⟩, List.mem_of_getElem? (i := 1172) (by decide +kernel), List.mem_of_getElem? (i := 1742) (by decide +kernel), List.mem_of_getElem? (i := 1743) (by decide +kernel)⟩
theorem lw_p119 : lw_okq (⟨"ScratchLadderModel", "isRow", "(I)Z"⟩, 41) := ⟨⟨by decide +kernel, by decide +kernel⟩, List.mem_of_getElem? (i := 1172) (by decide +kernel), List.mem_of_getElem? (i := 1750) (by decide +kernel), List.mem_of_getElem? (i := 1751) (by decide +kernel)⟩
theorem lw_p120 : lw_okq (⟨"ScratchLadderModel", "knownOf", "(I)I"⟩, 41) := ⟨⟨by decide +kernel, by decide +kernel⟩, List.mem_of_getElem? (i := 1172) (by decide +kernel), List.mem_of_getElem? (i := 1754) (by decide +kernel), List.mem_of_getElem? (i := 1755) (by decide +kernel)⟩
theorem lw_p121 : lw_okq (⟨"ScratchLadderModel", "nextRow", "(I)Z"⟩, 41) := ⟨⟨by decide +kernel, by decide +kernel⟩, List.mem_of_getElem? (i := 1172) (by decide +kernel), List.mem_of_getElem? (i := 1758) (by decide +kernel), List.mem_of_getElem? (i := 1759) (by decide +kernel)⟩
def lw_privs_8 : List (MethodName × Nat) := [(⟨"ScratchLadderModel", "isBestThere", "()Z"⟩, 41), (⟨"ScratchLadderModel", "apart", "(I)I"⟩, 41), (⟨"ScratchLadderModel", "dentsOf", "(I)V"⟩, 41), (⟨"ScratchLadderModel", "standing", "(I)I"⟩, 41), (⟨"ScratchLadderModel", "isAhead", "(II)Z"⟩, 41), (⟨"ScratchLadderModel", "groovesOf", "()V"⟩, 41), (⟨"ScratchLadderModel", "cutsOn", "(II)I"⟩, 41), (⟨"ScratchLadderModel", "isRow", "(I)Z"⟩, 41), (⟨"ScratchLadderModel", "knownOf", "(I)I"⟩, 41), (⟨"ScratchLadderModel", "nextRow", "(I)Z"⟩, 41)]
theorem lw_r8 : ∀ q ∈ lw_privs_8, lw_okq q := List.forall_mem_cons.mpr ⟨lw_p112, List.forall_mem_cons.mpr ⟨lw_p113, List.forall_mem_cons.mpr ⟨lw_p114, List.forall_mem_cons.mpr ⟨lw_p115, List.forall_mem_cons.mpr ⟨lw_p116, List.forall_mem_cons.mpr ⟨lw_p117, List.forall_mem_cons.mpr ⟨lw_p118, List.forall_mem_cons.mpr ⟨lw_p119, List.forall_mem_cons.mpr ⟨lw_p120, List.forall_mem_cons.mpr ⟨lw_p121, fun _ h => absurd h List.not_mem_nil⟩⟩⟩⟩⟩⟩⟩⟩⟩⟩
def lw_privs : List (MethodName × Nat) := lw_privs_1 ++ (lw_privs_2 ++ (lw_privs_3 ++ (lw_privs_4 ++ (lw_privs_5 ++ (lw_privs_6 ++ (lw_privs_7 ++ (lw_privs_8)))))))
def lw_tbl : List Cond := k2_sels lw_privs ++ tables_1
theorem lw_privs_ok : ∀ q ∈ lw_privs, lw_okq q := by
  show ∀ q ∈ lw_privs_1 ++ (lw_privs_2 ++ (lw_privs_3 ++ (lw_privs_4 ++ (lw_privs_5 ++ (lw_privs_6 ++ (lw_privs_7 ++ (lw_privs_8))))))), lw_okq q
  exact List.forall_mem_append.mpr ⟨lw_r1, List.forall_mem_append.mpr ⟨lw_r2, List.forall_mem_append.mpr ⟨lw_r3, List.forall_mem_append.mpr ⟨lw_r4, List.forall_mem_append.mpr ⟨lw_r5, List.forall_mem_append.mpr ⟨lw_r6, List.forall_mem_append.mpr ⟨lw_r7, lw_r8⟩⟩⟩⟩⟩⟩⟩
-- ===== end of PART A; then your names; then what follows =====
end
section
/-! NUMBERS THAT A TABLE BOUNDS: forms a * symbol + b over symbols with a lowest and a highest value. Plain facts; nothing of the machine. -/
abbrev ck_L : Type := Nat × Int × Int
abbrev ck_I : Type := Int × Int × Nat × ck_L
def ck_ev (ν : Nat → Int) (f : ck_L) : Int := f.2.1 * ν f.1 + f.2.2
/-- a form speaks of symbols below n alone -/
def ck_wf (n : Nat) (f : ck_L) : Prop := f.2.1 = 0 ∨ f.1 < n
/-- the symbols are as the table says; 1: at least the form, 2: at most the form -/
def ck_gi (ν : Nat → Int) (I : List ck_I) : Prop := ∀ (j : Nat) (q : ck_I), I[j]? = some q → q.1 ≤ ν j ∧ ν j ≤ q.2.1 ∧ (q.2.2.1 = 1 → ck_wf I.length q.2.2.2 ∧ ck_ev ν q.2.2.2 ≤ ν j) ∧ (q.2.2.1 = 2 → ck_wf I.length q.2.2.2 ∧ ν j ≤ ck_ev ν q.2.2.2)
theorem ck_wf.mono {n n' : Nat} {f : ck_L} (h : ck_wf n f) (hn : n ≤ n') : ck_wf n' f := h.imp id (fun q => Nat.lt_of_lt_of_le q hn)
theorem ck_ev_congr {ν ν' : Nat → Int} {n : Nat} {f : ck_L} (hf : ck_wf n f) (h : ∀ j, j < n → ν' j = ν j) : ck_ev ν' f = ck_ev ν f := by
  unfold ck_ev
  rcases hf with h0 | h1
  · rw [h0, Int.zero_mul, Int.zero_mul]
  · rw [h _ h1]
/-- what an operation gives: a longer table, a form of the answer z; the old symbols stay -/
def ck_res (ν : Nat → Int) (I I' : List ck_I) (f : ck_L) (z : Int) : Prop := ∃ ν' : Nat → Int, (∀ j, j < I.length → ν' j = ν j) ∧ I.length ≤ I'.length ∧ ck_gi ν' I' ∧ ck_wf I'.length f ∧ ck_ev ν' f = z
theorem ck_same {ν : Nat → Int} {I : List ck_I} {f : ck_L} {z : Int} (h : ck_gi ν I) (hf : ck_wf I.length f) (hz : ck_ev ν f = z) : ck_res ν I I f z := ⟨ν, fun _ _ => rfl, Nat.le_refl _, h, hf, hz⟩
theorem ck_fresh {ν : Nat → Int} {I : List ck_I} {z : Int} (h : ck_gi ν I) (q : ck_I) (h1 : q.1 ≤ z) (h2 : z ≤ q.2.1) (h3 : q.2.2.1 = 1 → ck_wf I.length q.2.2.2 ∧ ck_ev ν q.2.2.2 ≤ z) (h4 : q.2.2.1 = 2 → ck_wf I.length q.2.2.2 ∧ z ≤ ck_ev ν q.2.2.2) : ck_res ν I (I ++ [q]) (I.length, 1, 0) z := by
  have hag : ∀ j, j < I.length → (fun j => if j = I.length then z else ν j) j = ν j := fun j hj => if_neg (Nat.ne_of_lt hj)
  have hlen : (I ++ [q]).length = I.length + 1 := by simp
  refine ⟨fun j => if j = I.length then z else ν j, hag, by omega, ?_, Or.inr (by show I.length < _; omega), by simp [ck_ev]⟩
  intro j r hr
  rw [hlen]
  rcases Nat.lt_trichotomy j I.length with hj | hj | hj
  · rw [List.getElem?_append_left hj] at hr
    obtain ⟨a1, a2, a3, a4⟩ := h j r hr
    rw [hag j hj]
    refine ⟨a1, a2, fun e => ?_, fun e => ?_⟩
    · obtain ⟨w, v⟩ := a3 e
      exact ⟨w.mono (by omega), by rw [ck_ev_congr w hag]; exact v⟩
    · obtain ⟨w, v⟩ := a4 e
      exact ⟨w.mono (by omega), by rw [ck_ev_congr w hag]; exact v⟩
  · subst hj
    have hq : r = q := by simpa using hr.symm
    subst hq
    simp only [if_true]
    refine ⟨h1, h2, fun e => ?_, fun e => ?_⟩
    · obtain ⟨w, v⟩ := h3 e
      exact ⟨w.mono (by omega), by rw [ck_ev_congr w hag]; exact v⟩
    · obtain ⟨w, v⟩ := h4 e
      exact ⟨w.mono (by omega), by rw [ck_ev_congr w hag]; exact v⟩
  · rw [List.getElem?_eq_none (by omega)] at hr
    cases hr
/-- lowest and highest value of a form that is an int -/
def ck_rng (I : List ck_I) (f : ck_L) : Int × Int :=
  if f.2.1 = 0 then (f.2.2, f.2.2) else
  match I[f.1]? with
  | none => (-2147483648, 2147483647)
  | some q => if 0 ≤ f.2.1 then (f.2.1 * q.1 + f.2.2, f.2.1 * q.2.1 + f.2.2) else (f.2.1 * q.2.1 + f.2.2, f.2.1 * q.1 + f.2.2)
theorem ck_i32 (x : Int32) : -2147483648 ≤ x.toInt ∧ x.toInt ≤ 2147483647 := by
  have h1 := x.le_toInt
  have h2 := x.toInt_lt
  omega
theorem ck_rng_ok {ν : Nat → Int} {I : List ck_I} {f : ck_L} {x : Int} (h : ck_gi ν I) (hx : x = ck_ev ν f) (hl : -2147483648 ≤ x ∧ x ≤ 2147483647) : (ck_rng I f).1 ≤ x ∧ x ≤ (ck_rng I f).2 := by
  unfold ck_rng
  by_cases h0 : f.2.1 = 0
  · rw [if_pos h0]
    unfold ck_ev at hx
    rw [h0, Int.zero_mul, Int.zero_add] at hx
    rw [hx]
    exact ⟨Int.le_refl _, Int.le_refl _⟩
  · rw [if_neg h0]
    cases hq : I[f.1]? with
    | none => exact hl
    | some q =>
      obtain ⟨a1, a2, -, -⟩ := h _ _ hq
      unfold ck_ev at hx
      dsimp only
      by_cases hp : 0 ≤ f.2.1
      · rw [if_pos hp]
        have b1 := Int.mul_le_mul_of_nonneg_left a1 hp
        have b2 := Int.mul_le_mul_of_nonneg_left a2 hp
        dsimp only
        omega
      · rw [if_neg hp]
        have hp' : f.2.1 ≤ 0 := by omega
        have b1 := Int.mul_le_mul_of_nonpos_left hp' a1
        have b2 := Int.mul_le_mul_of_nonpos_left hp' a2
        dsimp only
        omega
theorem ck_rng32 {ν : Nat → Int} {I : List ck_I} {f : ck_L} {x : Int32} (h : ck_gi ν I) (hx : x.toInt = ck_ev ν f) : (ck_rng I f).1 ≤ x.toInt ∧ x.toInt ≤ (ck_rng I f).2 := ck_rng_ok h hx (ck_i32 x)
def ck_full (I : List ck_I) : List ck_I × ck_L := (I ++ [(-2147483648, 2147483647, 0, (0, 0, 0))], (I.length, 1, 0))
theorem ck_full_ok {ν : Nat → Int} {I : List ck_I} (h : ck_gi ν I) (x : Int32) : ck_res ν I (ck_full I).1 (ck_full I).2 x.toInt :=
  ck_fresh h _ (ck_i32 x).1 (ck_i32 x).2 (fun e => by cases e) (fun e => by cases e)
def ck_btw (I : List ck_I) (lo hi : Int) : List ck_I × ck_L := (I ++ [(lo, hi, 0, (0, 0, 0))], (I.length, 1, 0))
theorem ck_btw_ok {ν : Nat → Int} {I : List ck_I} (h : ck_gi ν I) {lo hi z : Int} (h1 : lo ≤ z) (h2 : z ≤ hi) : ck_res ν I (ck_btw I lo hi).1 (ck_btw I lo hi).2 z :=
  ck_fresh h _ h1 h2 (fun e => by cases e) (fun e => by cases e)
def ck_k (z : Int) : ck_L := (0, 0, z)
theorem ck_k_ok {ν : Nat → Int} {I : List ck_I} (h : ck_gi ν I) (z : Int) : ck_res ν I I (ck_k z) z := ck_same h (Or.inl rfl) (by simp [ck_ev, ck_k])
theorem ck_bmod {z : Int} (h1 : -2147483648 ≤ z) (h2 : z ≤ 2147483647) : z.bmod (2 ^ 32) = z := Int.bmod_eq_of_le_mul_two (by omega) (by omega)
theorem ck_addI {x y : Int32} (h1 : -2147483648 ≤ x.toInt + y.toInt) (h2 : x.toInt + y.toInt ≤ 2147483647) : (x + y).toInt = x.toInt + y.toInt := by
  rw [Int32.toInt_add]; exact ck_bmod h1 h2
theorem ck_subI {x y : Int32} (h1 : -2147483648 ≤ x.toInt - y.toInt) (h2 : x.toInt - y.toInt ≤ 2147483647) : (x - y).toInt = x.toInt - y.toInt := by
  rw [Int32.toInt_sub]; exact ck_bmod h1 h2
theorem ck_mulI {x y : Int32} (h1 : -2147483648 ≤ x.toInt * y.toInt) (h2 : x.toInt * y.toInt ≤ 2147483647) : (x * y).toInt = x.toInt * y.toInt := by
  rw [Int32.toInt_mul]; exact ck_bmod h1 h2
theorem ck_negI {x : Int32} (h1 : -2147483648 ≤ -x.toInt) (h2 : -x.toInt ≤ 2147483647) : (-x).toInt = -x.toInt := by
  rw [Int32.toInt_neg]; exact ck_bmod h1 h2
def ck_in32 (z : Int × Int) : Bool := decide (-2147483648 ≤ z.1) && decide (z.2 ≤ 2147483647)
theorem ck_in32_ok {z : Int × Int} (h : ck_in32 z = true) : -2147483648 ≤ z.1 ∧ z.2 ≤ 2147483647 := by
  simpa [ck_in32] using h
/-- x + y -/
def ck_add (I : List ck_I) (f g : ck_L) : List ck_I × ck_L :=
  let a := ck_rng I f
  let b := ck_rng I g
  if ck_in32 (a.1 + b.1, a.2 + b.2) = true then
    if f.2.1 = 0 then (I, (g.1, g.2.1, f.2.2 + g.2.2))
    else if g.2.1 = 0 then (I, (f.1, f.2.1, f.2.2 + g.2.2))
    else if f.1 = g.1 then (I, (f.1, f.2.1 + g.2.1, f.2.2 + g.2.2))
    else if 0 ≤ b.1 then (I ++ [(a.1 + b.1, a.2 + b.2, 1, f)], (I.length, 1, 0))
    else if 0 ≤ a.1 then (I ++ [(a.1 + b.1, a.2 + b.2, 1, g)], (I.length, 1, 0))
    else ck_btw I (a.1 + b.1) (a.2 + b.2)
  else ck_full I
theorem ck_add_ok {ν : Nat → Int} {I : List ck_I} {f g : ck_L} {x y : Int32} (h : ck_gi ν I) (wf : ck_wf I.length f) (wg : ck_wf I.length g) (hx : x.toInt = ck_ev ν f) (hy : y.toInt = ck_ev ν g) : ck_res ν I (ck_add I f g).1 (ck_add I f g).2 (x + y).toInt := by
  have rx := ck_rng32 h hx
  have ry := ck_rng32 h hy
  unfold ck_add
  dsimp only
  by_cases hc : ck_in32 ((ck_rng I f).1 + (ck_rng I g).1, (ck_rng I f).2 + (ck_rng I g).2) = true
  · have hc' := ck_in32_ok hc
    dsimp only at hc'
    have e := ck_addI (x := x) (y := y) (by omega) (by omega)
    rw [if_pos hc, e]
    by_cases h0 : f.2.1 = 0
    · rw [if_pos h0]
      refine ck_same h wg ?_
      rw [hx, hy]; unfold ck_ev; dsimp only; rw [h0, Int.zero_mul]; omega
    · rw [if_neg h0]
      by_cases h1 : g.2.1 = 0
      · rw [if_pos h1]
        refine ck_same h wf ?_
        rw [hx, hy]; unfold ck_ev; dsimp only; rw [h1, Int.zero_mul]; omega
      · rw [if_neg h1]
        by_cases h2 : f.1 = g.1
        · rw [if_pos h2]
          refine ck_same h (wf.elim (fun q => absurd q h0) Or.inr) ?_
          rw [hx, hy]; unfold ck_ev; dsimp only; rw [h2, Int.add_mul]; omega
        · rw [if_neg h2]
          by_cases h3 : 0 ≤ (ck_rng I g).1
          · rw [if_pos h3]
            exact ck_fresh h _ (by dsimp only; omega) (by dsimp only; omega) (fun _ => ⟨wf, by dsimp only; omega⟩) (fun e => by cases e)
          · rw [if_neg h3]
            by_cases h4 : 0 ≤ (ck_rng I f).1
            · rw [if_pos h4]
              exact ck_fresh h _ (by dsimp only; omega) (by dsimp only; omega) (fun _ => ⟨wg, by dsimp only; omega⟩) (fun e => by cases e)
            · rw [if_neg h4]
              exact ck_btw_ok h (by omega) (by omega)
  · rw [if_neg hc]
    exact ck_full_ok h _
/-- x - y -/
def ck_sub (I : List ck_I) (f g : ck_L) : List ck_I × ck_L :=
  let a := ck_rng I f
  let b := ck_rng I g
  if ck_in32 (a.1 - b.2, a.2 - b.1) = true then
    if g.2.1 = 0 then (I, (f.1, f.2.1, f.2.2 - g.2.2))
    else if f.2.1 = 0 then (I, (g.1, -g.2.1, f.2.2 - g.2.2))
    else if f.1 = g.1 then (I, (f.1, f.2.1 - g.2.1, f.2.2 - g.2.2))
    else if 0 ≤ b.1 then (I ++ [(a.1 - b.2, a.2 - b.1, 2, f)], (I.length, 1, 0))
    else ck_btw I (a.1 - b.2) (a.2 - b.1)
  else ck_full I
theorem ck_sub_ok {ν : Nat → Int} {I : List ck_I} {f g : ck_L} {x y : Int32} (h : ck_gi ν I) (wf : ck_wf I.length f) (wg : ck_wf I.length g) (hx : x.toInt = ck_ev ν f) (hy : y.toInt = ck_ev ν g) : ck_res ν I (ck_sub I f g).1 (ck_sub I f g).2 (x - y).toInt := by
  have rx := ck_rng32 h hx
  have ry := ck_rng32 h hy
  unfold ck_sub
  dsimp only
  by_cases hc : ck_in32 ((ck_rng I f).1 - (ck_rng I g).2, (ck_rng I f).2 - (ck_rng I g).1) = true
  · have hc' := ck_in32_ok hc
    dsimp only at hc'
    have e := ck_subI (x := x) (y := y) (by omega) (by omega)
    rw [if_pos hc, e]
    by_cases h1 : g.2.1 = 0
    · rw [if_pos h1]
      refine ck_same h wf ?_
      rw [hx, hy]; unfold ck_ev; dsimp only; rw [h1, Int.zero_mul]; omega
    · rw [if_neg h1]
      by_cases h0 : f.2.1 = 0
      · rw [if_pos h0]
        refine ck_same h (wg.elim (fun q => absurd q h1) Or.inr) ?_
        rw [hx, hy]; unfold ck_ev; dsimp only; rw [h0, Int.zero_mul, Int.neg_mul]; omega
      · rw [if_neg h0]
        by_cases h2 : f.1 = g.1
        · rw [if_pos h2]
          refine ck_same h (wf.elim (fun q => absurd q h0) Or.inr) ?_
          rw [hx, hy]; unfold ck_ev; dsimp only; rw [h2, Int.sub_mul]; omega
        · rw [if_neg h2]
          by_cases h3 : 0 ≤ (ck_rng I g).1
          · rw [if_pos h3]
            exact ck_fresh h _ (by dsimp only; omega) (by dsimp only; omega) (fun e => by cases e) (fun _ => ⟨wf, by dsimp only; omega⟩)
          · rw [if_neg h3]
            exact ck_btw_ok h (by omega) (by omega)
  · rw [if_neg hc]
    exact ck_full_ok h _
theorem ck_corner {x y a b c d : Int} (h1 : a ≤ x) (h2 : x ≤ b) (h3 : c ≤ y) (h4 : y ≤ d) : min (min (a * c) (a * d)) (min (b * c) (b * d)) ≤ x * y ∧ x * y ≤ max (max (a * c) (a * d)) (max (b * c) (b * d)) := by
  have lo : ∀ t : Int, min (t * c) (t * d) ≤ t * y ∧ t * y ≤ max (t * c) (t * d) := fun t => by
    rcases Int.le_total 0 t with ht | ht
    · have := Int.mul_le_mul_of_nonneg_left h3 ht
      have := Int.mul_le_mul_of_nonneg_left h4 ht
      omega
    · have := Int.mul_le_mul_of_nonpos_left ht h3
      have := Int.mul_le_mul_of_nonpos_left ht h4
      omega
  have ha := lo a
  have hb := lo b
  rcases Int.le_total 0 y with hy | hy
  · have := Int.mul_le_mul_of_nonneg_right h1 hy
    have := Int.mul_le_mul_of_nonneg_right h2 hy
    omega
  · have := Int.mul_le_mul_of_nonpos_right h1 hy
    have := Int.mul_le_mul_of_nonpos_right h2 hy
    omega
/-- x * y -/
def ck_mul (I : List ck_I) (f g : ck_L) : List ck_I × ck_L :=
  let a := ck_rng I f
  let b := ck_rng I g
  let z : Int × Int := (min (min (a.1 * b.1) (a.1 * b.2)) (min (a.2 * b.1) (a.2 * b.2)), max (max (a.1 * b.1) (a.1 * b.2)) (max (a.2 * b.1) (a.2 * b.2)))
  if ck_in32 z = true then
    if f.2.1 = 0 then (I, (g.1, f.2.2 * g.2.1, f.2.2 * g.2.2))
    else if g.2.1 = 0 then (I, (f.1, g.2.2 * f.2.1, g.2.2 * f.2.2))
    else ck_btw I z.1 z.2
  else ck_full I
theorem ck_mul_ok {ν : Nat → Int} {I : List ck_I} {f g : ck_L} {x y : Int32} (h : ck_gi ν I) (wf : ck_wf I.length f) (wg : ck_wf I.length g) (hx : x.toInt = ck_ev ν f) (hy : y.toInt = ck_ev ν g) : ck_res ν I (ck_mul I f g).1 (ck_mul I f g).2 (x * y).toInt := by
  have rx := ck_rng32 h hx
  have ry := ck_rng32 h hy
  have hz := ck_corner rx.1 rx.2 ry.1 ry.2
  unfold ck_mul
  dsimp only
  split
  · rename_i hc
    have hc' := ck_in32_ok hc
    dsimp only at hc'
    have e := ck_mulI (x := x) (y := y) (Int.le_trans hc'.1 hz.1) (Int.le_trans hz.2 hc'.2)
    rw [e]
    by_cases h0 : f.2.1 = 0
    · rw [if_pos h0]
      refine ck_same h (wg.imp (fun q => by dsimp only; rw [q, Int.mul_zero]) id) ?_
      rw [hx, hy]; unfold ck_ev; dsimp only; rw [h0, Int.zero_mul, Int.zero_add, Int.mul_add, Int.mul_assoc]
    · rw [if_neg h0]
      by_cases h1 : g.2.1 = 0
      · rw [if_pos h1]
        refine ck_same h (wf.imp (fun q => by dsimp only; rw [q, Int.mul_zero]) id) ?_
        rw [hx, hy]; unfold ck_ev; dsimp only; rw [h1, Int.zero_mul, Int.zero_add, Int.mul_comm (f.2.1 * ν f.1 + f.2.2), Int.mul_add, Int.mul_assoc]
      · rw [if_neg h1]
        exact ck_btw_ok h hz.1 hz.2
  · exact ck_full_ok h _
/-- -x -/
def ck_neg (I : List ck_I) (f : ck_L) : List ck_I × ck_L :=
  let a := ck_rng I f
  if ck_in32 (-a.2, -a.1) = true then (I, (f.1, -f.2.1, -f.2.2)) else ck_full I
theorem ck_neg_ok {ν : Nat → Int} {I : List ck_I} {f : ck_L} {x : Int32} (h : ck_gi ν I) (wf : ck_wf I.length f) (hx : x.toInt = ck_ev ν f) : ck_res ν I (ck_neg I f).1 (ck_neg I f).2 (-x).toInt := by
  have rx := ck_rng32 h hx
  unfold ck_neg
  dsimp only
  by_cases hc : ck_in32 (-(ck_rng I f).2, -(ck_rng I f).1) = true
  · have hc' := ck_in32_ok hc
    dsimp only at hc'
    rw [if_pos hc, ck_negI (x := x) (by omega) (by omega)]
    refine ck_same h (wf.imp (fun q => by dsimp only; rw [q]; rfl) id) ?_
    rw [hx]; unfold ck_ev; dsimp only; rw [Int.neg_mul]; omega
  · rw [if_neg hc]
    exact ck_full_ok h _
/-- both are told numbers: the machine's own operation tells the answer -/
def ck_two (o : Int32 → Int32 → Int32) (I : List ck_I) (f g : ck_L) (r : List ck_I × ck_L) : List ck_I × ck_L :=
  if f.2.1 = 0 ∧ g.2.1 = 0 then (I, ck_k (o (Int32.ofInt f.2.2) (Int32.ofInt g.2.2)).toInt) else r
theorem ck_told {ν : Nat → Int} {f : ck_L} {x : Int32} (h0 : f.2.1 = 0) (hx : x.toInt = ck_ev ν f) : x = Int32.ofInt f.2.2 := by
  have e : x.toInt = f.2.2 := by rw [hx]; unfold ck_ev; rw [h0, Int.zero_mul, Int.zero_add]
  rw [← e, Int32.ofInt_toInt]
theorem ck_two_ok {o : Int32 → Int32 → Int32} {ν : Nat → Int} {I : List ck_I} {f g : ck_L} {x y : Int32} {r : List ck_I × ck_L} (h : ck_gi ν I) (hx : x.toInt = ck_ev ν f) (hy : y.toInt = ck_ev ν g) (hr : ck_res ν I r.1 r.2 (o x y).toInt) : ck_res ν I (ck_two o I f g r).1 (ck_two o I f g r).2 (o x y).toInt := by
  unfold ck_two
  by_cases hc : f.2.1 = 0 ∧ g.2.1 = 0
  · rw [if_pos hc, ck_told hc.1 hx, ck_told hc.2 hy]
    exact ck_k_ok h _
  · rw [if_neg hc]; exact hr
/-- x / y for y at least 1 -/
def ck_div (I : List ck_I) (f g : ck_L) : List ck_I × ck_L :=
  ck_two (fun x y => x / y) I f g (
    let a := ck_rng I f
    let b := ck_rng I g
    if 0 ≤ a.1 ∧ g.2.1 = 0 then ck_btw I (a.1 / g.2.2) (a.2 / g.2.2)
    else if 1 ≤ b.1 then ck_btw I (min a.1 0) (max a.2 0)
    else ck_full I)
theorem ck_tdiv {x y : Int} (hy : 1 ≤ y) : min x 0 ≤ x.tdiv y ∧ x.tdiv y ≤ max x 0 := by
  rcases Int.le_total 0 x with h | h
  · have h1 := Int.tdiv_nonneg h (show (0 : Int) ≤ y by omega)
    have h2 := Int.tdiv_le_self y h
    omega
  · have h' : 0 ≤ -x := by omega
    have h1 := Int.tdiv_nonneg h' (show (0 : Int) ≤ y by omega)
    have h2 := Int.tdiv_le_self y h'
    rw [Int.neg_tdiv] at h1 h2
    omega
theorem ck_divI {x y : Int32} (hy : 1 ≤ y.toInt) : (x / y).toInt = x.toInt.tdiv y.toInt := by
  rw [Int32.toInt_div]
  have h1 := ck_tdiv (x := x.toInt) hy
  have h2 := ck_i32 x
  exact ck_bmod (by omega) (by omega)
theorem ck_div_ok {ν : Nat → Int} {I : List ck_I} {f g : ck_L} {x y : Int32} (h : ck_gi ν I) (hx : x.toInt = ck_ev ν f) (hy : y.toInt = ck_ev ν g) (hp : 1 ≤ y.toInt) : ck_res ν I (ck_div I f g).1 (ck_div I f g).2 (x / y).toInt := by
  have rx := ck_rng32 h hx
  have ry := ck_rng32 h hy
  refine ck_two_ok (o := fun x y => x / y) h hx hy ?_
  dsimp only
  have e := ck_divI (x := x) hp
  have ht := ck_tdiv (x := x.toInt) hp
  by_cases hc : 0 ≤ (ck_rng I f).1 ∧ g.2.1 = 0
  · rw [if_pos hc, e, Int.tdiv_eq_ediv_of_nonneg (by omega)]
    have e2 : y.toInt = g.2.2 := by rw [hy]; unfold ck_ev; rw [hc.2, Int.zero_mul, Int.zero_add]
    rw [← e2]
    exact ck_btw_ok h (Int.ediv_le_ediv (by omega) rx.1) (Int.ediv_le_ediv (by omega) rx.2)
  · rw [if_neg hc]
    by_cases h1 : 1 ≤ (ck_rng I g).1
    · rw [if_pos h1, e]
      exact ck_btw_ok h (by omega) (by omega)
    · rw [if_neg h1]
      exact ck_full_ok h _
/-- the machine's remainder for y at least 1 -/
def ck_rem (I : List ck_I) (f g : ck_L) : List ck_I × ck_L :=
  ck_two (fun x y => x - x / y * y) I f g (
    let a := ck_rng I f
    let b := ck_rng I g
    if 0 ≤ a.1 then ck_btw I 0 (min a.2 (b.2 - 1)) else ck_btw I (1 - b.2) (b.2 - 1))
theorem ck_remI {x y : Int32} (hy : 1 ≤ y.toInt) : (x - x / y * y).toInt = x.toInt.tmod y.toInt := by
  have e := ck_divI (x := x) hy
  have h2 := ck_i32 x
  have h3 := ck_i32 y
  have ed := Int.mul_tdiv_add_tmod x.toInt y.toInt
  have em : y.toInt * x.toInt.tdiv y.toInt = x.toInt - x.toInt.tmod y.toInt := by omega
  have hm : -2147483648 ≤ x.toInt - x.toInt.tmod y.toInt ∧ x.toInt - x.toInt.tmod y.toInt ≤ 2147483647 := by
    rcases Int.le_total 0 x.toInt with h | h
    · have h1 := Int.tmod_nonneg y.toInt h
      have h4 := Int.tdiv_nonneg h (show (0 : Int) ≤ y.toInt by omega)
      have h5 : 0 ≤ y.toInt * x.toInt.tdiv y.toInt := Int.mul_nonneg (by omega) h4
      omega
    · have h1 := Int.tmod_nonneg y.toInt (show (0 : Int) ≤ -x.toInt by omega)
      have h4 := Int.tdiv_nonneg (show (0 : Int) ≤ -x.toInt by omega) (show (0 : Int) ≤ y.toInt by omega)
      rw [Int.neg_tmod] at h1
      rw [Int.neg_tdiv] at h4
      have h5 : 0 ≤ y.toInt * -x.toInt.tdiv y.toInt := Int.mul_nonneg (by omega) h4
      rw [Int.mul_neg] at h5
      omega
  have e1 : (x / y * y).toInt = x.toInt - x.toInt.tmod y.toInt := by
    rw [ck_mulI (by rw [e, Int.mul_comm]; omega) (by rw [e, Int.mul_comm]; omega), e, Int.mul_comm]
    exact em
  have h6 : -2147483648 ≤ x.toInt.tmod y.toInt ∧ x.toInt.tmod y.toInt ≤ 2147483647 := by
    rcases Int.le_total 0 x.toInt with h | h
    · have h1 := Int.tmod_nonneg y.toInt h
      have h4 := Int.tmod_lt_of_pos x.toInt (show (0 : Int) < y.toInt by omega)
      omega
    · have h1 := Int.tmod_nonneg y.toInt (show (0 : Int) ≤ -x.toInt by omega)
      have h4 := Int.tmod_lt_of_pos (-x.toInt) (show (0 : Int) < y.toInt by omega)
      rw [Int.neg_tmod] at h1 h4
      omega
  rw [ck_subI (by rw [e1]; omega) (by rw [e1]; omega), e1]
  omega
theorem ck_rem_ok {ν : Nat → Int} {I : List ck_I} {f g : ck_L} {x y : Int32} (h : ck_gi ν I) (hx : x.toInt = ck_ev ν f) (hy : y.toInt = ck_ev ν g) (hp : 1 ≤ y.toInt) : ck_res ν I (ck_rem I f g).1 (ck_rem I f g).2 (x - x / y * y).toInt := by
  have rx := ck_rng32 h hx
  have ry := ck_rng32 h hy
  refine ck_two_ok (o := fun x y => x - x / y * y) h hx hy ?_
  dsimp only
  rw [ck_remI hp]
  have h4 := Int.tmod_lt_of_pos x.toInt (show (0 : Int) < y.toInt by omega)
  have h5 := Int.tmod_lt_of_pos (-x.toInt) (show (0 : Int) < y.toInt by omega)
  rw [Int.neg_tmod] at h5
  by_cases hc : 0 ≤ (ck_rng I f).1
  · rw [if_pos hc]
    have h6 := Int.tmod_nonneg y.toInt (show (0 : Int) ≤ x.toInt by omega)
    have h7 : x.toInt.tmod y.toInt ≤ x.toInt := by
      rw [Int.tmod_eq_emod_of_nonneg (by omega)]
      have h8 := Int.emod_add_mul_ediv x.toInt y.toInt
      have h9 : 0 ≤ y.toInt * (x.toInt / y.toInt) := Int.mul_nonneg (by omega) (Int.ediv_nonneg (by omega) (by omega))
      omega
    exact ck_btw_ok h h6 (by omega)
  · rw [if_neg hc]
    exact ck_btw_ok h (by omega) (by omega)
end
section
/-! BITS OF BOUNDED NUMBERS, AND WHAT A COMPARISON TELLS -/
theorem ck_nat {x : Int32} (h : 0 ≤ x.toInt) : x.toInt = (x.toBitVec.toNat : Int) := by
  have e : x.toBitVec.toInt = x.toInt := Int32.toInt_toBitVec x
  rw [← e] at h ⊢
  have h2 := BitVec.toInt_eq_toNat_cond x.toBitVec
  have h3 := x.toBitVec.isLt
  split at h2 <;> omega
theorem ck_ofnat {x : Int32} (h : x.toBitVec.toNat ≤ 2147483647) : x.toInt = (x.toBitVec.toNat : Int) := by
  have e : x.toBitVec.toInt = x.toInt := Int32.toInt_toBitVec x
  rw [← e]
  have h2 := BitVec.toInt_eq_toNat_cond x.toBitVec
  split at h2 <;> omega
theorem ck_andN (x y : Int32) : (x &&& y).toBitVec.toNat = x.toBitVec.toNat &&& y.toBitVec.toNat := by
  rw [Int32.toBitVec_and, BitVec.toNat_and]
theorem ck_orN (x y : Int32) : (x ||| y).toBitVec.toNat = x.toBitVec.toNat ||| y.toBitVec.toNat := by
  rw [Int32.toBitVec_or, BitVec.toNat_or]
theorem ck_xorN (x y : Int32) : (x ^^^ y).toBitVec.toNat = x.toBitVec.toNat ^^^ y.toBitVec.toNat := by
  rw [Int32.toBitVec_xor, BitVec.toNat_xor]
theorem ck_andL {x : Int32} (y : Int32) (h : 0 ≤ x.toInt) : 0 ≤ (x &&& y).toInt ∧ (x &&& y).toInt ≤ x.toInt := by
  have e := ck_nat h
  have h2 := ck_i32 x
  have h3 : (x &&& y).toBitVec.toNat ≤ x.toBitVec.toNat := by rw [ck_andN]; exact Nat.and_le_left
  rw [ck_ofnat (x := x &&& y) (by omega)]
  omega
theorem ck_andR (x : Int32) {y : Int32} (h : 0 ≤ y.toInt) : 0 ≤ (x &&& y).toInt ∧ (x &&& y).toInt ≤ y.toInt := by
  have e := ck_nat h
  have h2 := ck_i32 y
  have h3 : (x &&& y).toBitVec.toNat ≤ y.toBitVec.toNat := by rw [ck_andN]; exact Nat.and_le_right
  rw [ck_ofnat (x := x &&& y) (by omega)]
  omega
/-- x & y -/
def ck_and (I : List ck_I) (f g : ck_L) : List ck_I × ck_L :=
  ck_two (fun x y => x &&& y) I f g (
    let a := ck_rng I f
    let b := ck_rng I g
    if 0 ≤ a.1 then
      if 0 ≤ b.1 then (I ++ [(0, min a.2 b.2, 2, f)], (I.length, 1, 0)) else (I ++ [(0, a.2, 2, f)], (I.length, 1, 0))
    else if 0 ≤ b.1 then (I ++ [(0, b.2, 2, g)], (I.length, 1, 0)) else ck_full I)
theorem ck_and_ok {ν : Nat → Int} {I : List ck_I} {f g : ck_L} {x y : Int32} (h : ck_gi ν I) (wf : ck_wf I.length f) (wg : ck_wf I.length g) (hx : x.toInt = ck_ev ν f) (hy : y.toInt = ck_ev ν g) : ck_res ν I (ck_and I f g).1 (ck_and I f g).2 (x &&& y).toInt := by
  have rx := ck_rng32 h hx
  have ry := ck_rng32 h hy
  refine ck_two_ok (o := fun x y => x &&& y) h hx hy ?_
  dsimp only
  by_cases ha : 0 ≤ (ck_rng I f).1
  · have hl := ck_andL y (show 0 ≤ x.toInt by omega)
    rw [if_pos ha]
    by_cases hb : 0 ≤ (ck_rng I g).1
    · have hr := ck_andR x (show 0 ≤ y.toInt by omega)
      rw [if_pos hb]
      exact ck_fresh h _ hl.1 (by dsimp only; omega) (fun e => by cases e) (fun _ => ⟨wf, by dsimp only; omega⟩)
    · rw [if_neg hb]
      exact ck_fresh h _ hl.1 (by dsimp only; omega) (fun e => by cases e) (fun _ => ⟨wf, by dsimp only; omega⟩)
  · rw [if_neg ha]
    by_cases hb : 0 ≤ (ck_rng I g).1
    · have hr := ck_andR x (show 0 ≤ y.toInt by omega)
      rw [if_pos hb]
      exact ck_fresh h _ hr.1 (by dsimp only; omega) (fun e => by cases e) (fun _ => ⟨wg, by dsimp only; omega⟩)
    · rw [if_neg hb]
      exact ck_full_ok h _
def ck_pow (a b : Int × Int) : Nat := (max a.2 b.2).toNat.log2 + 1
theorem ck_pow_ok {a b : Int × Int} {x y : Int32} (hx : x.toInt ≤ a.2) (hy : y.toInt ≤ b.2) (h0 : 0 ≤ x.toInt) (h1 : 0 ≤ y.toInt) : x.toBitVec.toNat < 2 ^ ck_pow a b ∧ y.toBitVec.toNat < 2 ^ ck_pow a b := by
  have e := ck_nat h0
  have e2 := ck_nat h1
  have h2 : (max a.2 b.2).toNat < 2 ^ ck_pow a b := Nat.lt_log2_self
  omega
/-- x | y -/
def ck_or (I : List ck_I) (f g : ck_L) : List ck_I × ck_L :=
  ck_two (fun x y => x ||| y) I f g (
    let a := ck_rng I f
    let b := ck_rng I g
    if 0 ≤ a.1 ∧ 0 ≤ b.1 ∧ ck_pow a b ≤ 31 then ck_btw I 0 (2 ^ ck_pow a b - 1) else ck_full I)
theorem ck_small {n k : Nat} (h : n < 2 ^ k) (hk : k ≤ 31) : n ≤ 2147483647 ∧ (n : Int) ≤ 2 ^ k - 1 := by
  have h1 : 2 ^ k ≤ 2 ^ 31 := Nat.pow_le_pow_right (by omega) hk
  have h2 : ((2 ^ k : Nat) : Int) = (2 : Int) ^ k := by simp
  omega
theorem ck_or_ok {ν : Nat → Int} {I : List ck_I} {f g : ck_L} {x y : Int32} (h : ck_gi ν I) (hx : x.toInt = ck_ev ν f) (hy : y.toInt = ck_ev ν g) : ck_res ν I (ck_or I f g).1 (ck_or I f g).2 (x ||| y).toInt := by
  have rx := ck_rng32 h hx
  have ry := ck_rng32 h hy
  refine ck_two_ok (o := fun x y => x ||| y) h hx hy ?_
  dsimp only
  by_cases hc : 0 ≤ (ck_rng I f).1 ∧ 0 ≤ (ck_rng I g).1 ∧ ck_pow (ck_rng I f) (ck_rng I g) ≤ 31
  · rw [if_pos hc]
    obtain ⟨p1, p2⟩ := ck_pow_ok rx.2 ry.2 (by omega) (by omega)
    have h3 : (x ||| y).toBitVec.toNat < 2 ^ ck_pow (ck_rng I f) (ck_rng I g) := by rw [ck_orN]; exact Nat.or_lt_two_pow p1 p2
    obtain ⟨s1, s2⟩ := ck_small h3 hc.2.2
    rw [ck_ofnat s1]
    exact ck_btw_ok h (by omega) s2
  · rw [if_neg hc]
    exact ck_full_ok h _
/-- x ^ y -/
def ck_xor (I : List ck_I) (f g : ck_L) : List ck_I × ck_L :=
  ck_two (fun x y => x ^^^ y) I f g (
    let a := ck_rng I f
    let b := ck_rng I g
    if 0 ≤ a.1 ∧ 0 ≤ b.1 ∧ ck_pow a b ≤ 31 then ck_btw I 0 (2 ^ ck_pow a b - 1) else ck_full I)
theorem ck_xor_ok {ν : Nat → Int} {I : List ck_I} {f g : ck_L} {x y : Int32} (h : ck_gi ν I) (hx : x.toInt = ck_ev ν f) (hy : y.toInt = ck_ev ν g) : ck_res ν I (ck_xor I f g).1 (ck_xor I f g).2 (x ^^^ y).toInt := by
  have rx := ck_rng32 h hx
  have ry := ck_rng32 h hy
  refine ck_two_ok (o := fun x y => x ^^^ y) h hx hy ?_
  dsimp only
  by_cases hc : 0 ≤ (ck_rng I f).1 ∧ 0 ≤ (ck_rng I g).1 ∧ ck_pow (ck_rng I f) (ck_rng I g) ≤ 31
  · rw [if_pos hc]
    obtain ⟨p1, p2⟩ := ck_pow_ok rx.2 ry.2 (by omega) (by omega)
    have h3 : (x ^^^ y).toBitVec.toNat < 2 ^ ck_pow (ck_rng I f) (ck_rng I g) := by rw [ck_xorN]; exact Nat.xor_lt_two_pow p1 p2
    obtain ⟨s1, s2⟩ := ck_small h3 hc.2.2
    rw [ck_ofnat s1]
    exact ck_btw_ok h (by omega) s2
  · rw [if_neg hc]
    exact ck_full_ok h _
theorem ck_sl : ∀ n, n < 32 → ((nI n &&& 31).toBitVec.smod 32).toNat = n := by decide +kernel
theorem ck_su : ∀ n, n < 32 → (((nI n).toUInt32 &&& Int32.toUInt32 31).toBitVec % 32).toNat = n := by decide +kernel
theorem ck_isnI {y : Int32} (h0 : 0 ≤ y.toInt) : y = nI y.toInt.toNat := by
  apply Int32.toInt_inj.mp
  have h2 := ck_i32 y
  rw [nI_toInt (by omega)]
  omega
/-- x << y -/
def ck_shl (I : List ck_I) (f g : ck_L) : List ck_I × ck_L :=
  ck_two (fun x y => x <<< (y &&& 31)) I f g (
    let a := ck_rng I f
    let b := ck_rng I g
    if 0 ≤ b.1 ∧ b.2 ≤ 31 ∧ 0 ≤ a.1 ∧ a.2 * 2 ^ b.2.toNat ≤ 2147483647 then ck_btw I (a.1 * 2 ^ b.1.toNat) (a.2 * 2 ^ b.2.toNat) else ck_full I)
theorem ck_powL {u w : Int} {m n : Nat} (hu : 0 ≤ u) (h : u ≤ w) (hm : m ≤ n) : u * 2 ^ m ≤ w * 2 ^ n := by
  have h1 : (2 : Int) ^ m ≤ 2 ^ n := by
    have h2 : 2 ^ m ≤ 2 ^ n := Nat.pow_le_pow_right (by omega) hm
    have h3 : ((2 ^ m : Nat) : Int) = (2 : Int) ^ m := by simp
    have h4 : ((2 ^ n : Nat) : Int) = (2 : Int) ^ n := by simp
    omega
  have h5 : (0 : Int) ≤ 2 ^ m := Int.pow_nonneg (by omega)
  exact Int.le_trans (Int.mul_le_mul_of_nonneg_left h1 hu) (Int.mul_le_mul_of_nonneg_right h (Int.le_trans h5 h1))
theorem ck_shlI {x y : Int32} (hx : 0 ≤ x.toInt) (hy : 0 ≤ y.toInt) (hy2 : y.toInt ≤ 31) (hs : x.toInt * 2 ^ y.toInt.toNat ≤ 2147483647) : (x <<< (y &&& 31)).toInt = x.toInt * 2 ^ y.toInt.toNat := by
  have ey := ck_isnI hy
  have e := pk_shl x (y &&& 31) y.toInt.toNat (by rw [ey, nI_toInt (by omega)]; exact ck_sl _ (by omega))
  have ex := ck_nat hx
  have h3 : ((x.toBitVec.toNat * 2 ^ y.toInt.toNat : Nat) : Int) = x.toInt * 2 ^ y.toInt.toNat := by rw [ex]; simp
  have h4 : x.toBitVec.toNat * 2 ^ y.toInt.toNat % 2 ^ 32 = x.toBitVec.toNat * 2 ^ y.toInt.toNat := Nat.mod_eq_of_lt (by omega)
  rw [h4] at e
  rw [ck_ofnat (by omega), e, h3]
theorem ck_shl_ok {ν : Nat → Int} {I : List ck_I} {f g : ck_L} {x y : Int32} (h : ck_gi ν I) (hx : x.toInt = ck_ev ν f) (hy : y.toInt = ck_ev ν g) : ck_res ν I (ck_shl I f g).1 (ck_shl I f g).2 (x <<< (y &&& 31)).toInt := by
  have rx := ck_rng32 h hx
  have ry := ck_rng32 h hy
  refine ck_two_ok (o := fun x y => x <<< (y &&& 31)) h hx hy ?_
  dsimp only
  split
  · rename_i hc
    obtain ⟨c1, c2, c3, c4⟩ := hc
    have u1 : x.toInt * 2 ^ y.toInt.toNat ≤ (ck_rng I f).2 * 2 ^ (ck_rng I g).2.toNat := ck_powL (by omega) rx.2 (by omega)
    have u2 : (ck_rng I f).1 * 2 ^ (ck_rng I g).1.toNat ≤ x.toInt * 2 ^ y.toInt.toNat := ck_powL c3 rx.1 (by omega)
    rw [ck_shlI (by omega) (by omega) (by omega) (Int.le_trans u1 c4)]
    exact ck_btw_ok h u2 u1
  · exact ck_full_ok h _
theorem ck_divP {u : Int} {n : Nat} (hu : 0 ≤ u) : 0 ≤ u / 2 ^ n ∧ u / 2 ^ n ≤ u := by
  have h5 : (0 : Int) ≤ 2 ^ n := Int.pow_nonneg (by omega)
  exact ⟨Int.ediv_nonneg hu h5, Int.ediv_le_self _ hu⟩
/-- x >> y -/
def ck_shr (I : List ck_I) (f g : ck_L) : List ck_I × ck_L :=
  ck_two (fun x y => x >>> (y &&& 31)) I f g (
    let a := ck_rng I f
    let b := ck_rng I g
    if 0 ≤ b.1 ∧ b.2 ≤ 31 ∧ 0 ≤ a.1 then (if g.2.1 = 0 then ck_btw I 0 (a.2 / 2 ^ g.2.2.toNat) else ck_btw I 0 a.2) else ck_full I)
theorem ck_shrI {x y : Int32} (hy : 0 ≤ y.toInt) (hy2 : y.toInt ≤ 31) : (x >>> (y &&& 31)).toInt = x.toInt / 2 ^ y.toInt.toNat := by
  have ey := ck_isnI hy
  rw [pk_shr x (y &&& 31) y.toInt.toNat (by rw [ey, nI_toInt (by omega)]; exact ck_sl _ (by omega)), Int.shiftRight_eq_div_pow]
  simp
theorem ck_shr_ok {ν : Nat → Int} {I : List ck_I} {f g : ck_L} {x y : Int32} (h : ck_gi ν I) (hx : x.toInt = ck_ev ν f) (hy : y.toInt = ck_ev ν g) : ck_res ν I (ck_shr I f g).1 (ck_shr I f g).2 (x >>> (y &&& 31)).toInt := by
  have rx := ck_rng32 h hx
  have ry := ck_rng32 h hy
  refine ck_two_ok (o := fun x y => x >>> (y &&& 31)) h hx hy ?_
  dsimp only
  by_cases hc : 0 ≤ (ck_rng I g).1 ∧ (ck_rng I g).2 ≤ 31 ∧ 0 ≤ (ck_rng I f).1
  · rw [if_pos hc, ck_shrI (by omega) (by omega)]
    have h1 := ck_divP (u := x.toInt) (n := y.toInt.toNat) (by omega)
    by_cases h0 : g.2.1 = 0
    · rw [if_pos h0]
      have e2 : y.toInt = g.2.2 := by rw [hy]; unfold ck_ev; rw [h0, Int.zero_mul, Int.zero_add]
      rw [← e2]
      refine ck_btw_ok h h1.1 (Int.ediv_le_ediv ?_ rx.2)
      exact Int.pow_pos (by omega)
    · rw [if_neg h0]
      exact ck_btw_ok h h1.1 (by omega)
  · rw [if_neg hc]
    exact ck_full_ok h _
/-- x >>> y -/
def ck_ushr (I : List ck_I) (f g : ck_L) : List ck_I × ck_L :=
  ck_two (fun x y => (x.toUInt32 >>> (y.toUInt32 &&& Int32.toUInt32 31)).toInt32) I f g (
    let a := ck_rng I f
    let b := ck_rng I g
    if 0 ≤ b.1 ∧ b.2 ≤ 31 ∧ 0 ≤ a.1 then ck_btw I 0 a.2 else ck_full I)
theorem ck_ushr_ok {ν : Nat → Int} {I : List ck_I} {f g : ck_L} {x y : Int32} (h : ck_gi ν I) (hx : x.toInt = ck_ev ν f) (hy : y.toInt = ck_ev ν g) : ck_res ν I (ck_ushr I f g).1 (ck_ushr I f g).2 (x.toUInt32 >>> (y.toUInt32 &&& Int32.toUInt32 31)).toInt32.toInt := by
  have rx := ck_rng32 h hx
  have ry := ck_rng32 h hy
  refine ck_two_ok (o := fun x y => (x.toUInt32 >>> (y.toUInt32 &&& Int32.toUInt32 31)).toInt32) h hx hy ?_
  dsimp only
  by_cases hc : 0 ≤ (ck_rng I g).1 ∧ (ck_rng I g).2 ≤ 31 ∧ 0 ≤ (ck_rng I f).1
  · rw [if_pos hc]
    have ey := ck_isnI (y := y) (by omega)
    have e := pk_ushr x y y.toInt.toNat (by rw [ey, nI_toInt (by omega)]; exact ck_su _ (by omega))
    have ex := ck_nat (x := x) (by omega)
    have h2 := ck_i32 x
    have h3 := Nat.div_le_self x.toBitVec.toNat (2 ^ y.toInt.toNat)
    rw [ck_ofnat (by omega), e]
    exact ck_btw_ok h (by omega) (by omega)
  · rw [if_neg hc]
    exact ck_full_ok h _
/-! what a comparison tells -/
def ck_cutHi (I : List ck_I) (s : Nat) (c : Int) : Option (List ck_I) :=
  match I[s]? with
  | none => some I
  | some q => if q.1 ≤ min q.2.1 c then some (I.set s (q.1, min q.2.1 c, q.2.2)) else none
def ck_cutLo (I : List ck_I) (s : Nat) (c : Int) : Option (List ck_I) :=
  match I[s]? with
  | none => some I
  | some q => if max q.1 c ≤ q.2.1 then some (I.set s (max q.1 c, q.2.1, q.2.2)) else none
theorem ck_gi_set {ν : Nat → Int} {I : List ck_I} {s : Nat} {q : ck_I} {lo hi : Int} (h : ck_gi ν I) (hq : I[s]? = some q) (h1 : lo ≤ ν s) (h2 : ν s ≤ hi) : ck_gi ν (I.set s (lo, hi, q.2.2)) := by
  intro j r hr
  rw [List.length_set]
  by_cases hj : s = j
  · subst hj
    obtain ⟨a1, a2, a3, a4⟩ := h _ _ hq
    have hs : s < I.length := (List.getElem?_eq_some_iff.mp hq).1
    rw [List.getElem?_set_self hs] at hr
    cases hr
    exact ⟨h1, h2, a3, a4⟩
  · rw [List.getElem?_set_ne hj] at hr
    exact h j r hr
theorem ck_cutHi_ok {ν : Nat → Int} {I : List ck_I} {s : Nat} {c : Int} (h : ck_gi ν I) (hc : ν s ≤ c) : ∃ I', ck_cutHi I s c = some I' ∧ ck_gi ν I' ∧ I'.length = I.length := by
  unfold ck_cutHi
  cases hq : I[s]? with
  | none => exact ⟨I, rfl, h, rfl⟩
  | some q =>
    obtain ⟨a1, a2, -, -⟩ := h _ _ hq
    dsimp only
    rw [if_pos (by omega)]
    exact ⟨_, rfl, ck_gi_set h hq a1 (by omega), List.length_set⟩
theorem ck_cutLo_ok {ν : Nat → Int} {I : List ck_I} {s : Nat} {c : Int} (h : ck_gi ν I) (hc : c ≤ ν s) : ∃ I', ck_cutLo I s c = some I' ∧ ck_gi ν I' ∧ I'.length = I.length := by
  unfold ck_cutLo
  cases hq : I[s]? with
  | none => exact ⟨I, rfl, h, rfl⟩
  | some q =>
    obtain ⟨a1, a2, -, -⟩ := h _ _ hq
    dsimp only
    rw [if_pos (by omega)]
    exact ⟨_, rfl, ck_gi_set h hq (by omega) a2, List.length_set⟩
/-- the form is at most c -/
def ck_le (I : List ck_I) (f : ck_L) (c : Int) : Option (List ck_I) :=
  if f.2.1 = 0 then (if f.2.2 ≤ c then some I else none)
  else if 0 < f.2.1 then ck_cutHi I f.1 ((c - f.2.2) / f.2.1)
  else ck_cutLo I f.1 (-((c - f.2.2) / (-f.2.1)))
theorem ck_le_ok {ν : Nat → Int} {I : List ck_I} {f : ck_L} {c : Int} (h : ck_gi ν I) (hc : ck_ev ν f ≤ c) : ∃ I', ck_le I f c = some I' ∧ ck_gi ν I' ∧ I'.length = I.length := by
  unfold ck_ev at hc
  unfold ck_le
  by_cases h0 : f.2.1 = 0
  · rw [if_pos h0, if_pos (by rw [h0, Int.zero_mul] at hc; omega)]
    exact ⟨I, rfl, h, rfl⟩
  · rw [if_neg h0]
    by_cases hp : 0 < f.2.1
    · rw [if_pos hp]
      refine ck_cutHi_ok h (Int.le_ediv_of_mul_le hp ?_)
      rw [Int.mul_comm]; omega
    · rw [if_neg hp]
      refine ck_cutLo_ok h ?_
      have h1 : -ν f.1 ≤ (c - f.2.2) / (-f.2.1) := by
        refine Int.le_ediv_of_mul_le (by omega) ?_
        rw [Int.neg_mul_neg, Int.mul_comm]; omega
      omega
def ck_ge (I : List ck_I) (f : ck_L) (c : Int) : Option (List ck_I) := ck_le I (f.1, -f.2.1, -f.2.2) (-c)
theorem ck_ge_ok {ν : Nat → Int} {I : List ck_I} {f : ck_L} {c : Int} (h : ck_gi ν I) (hc : c ≤ ck_ev ν f) : ∃ I', ck_ge I f c = some I' ∧ ck_gi ν I' ∧ I'.length = I.length := by
  refine ck_le_ok h ?_
  unfold ck_ev at hc ⊢
  dsimp only
  rw [Int.neg_mul]; omega
/-- x < y -/
def ck_lt2 (I : List ck_I) (f g : ck_L) : Option (List ck_I) := (ck_le I f ((ck_rng I g).2 - 1)).bind fun J => ck_ge J g ((ck_rng I f).1 + 1)
/-- x ≤ y -/
def ck_le2 (I : List ck_I) (f g : ck_L) : Option (List ck_I) := (ck_le I f (ck_rng I g).2).bind fun J => ck_ge J g (ck_rng I f).1
/-- x = y -/
def ck_eq2 (I : List ck_I) (f g : ck_L) : Option (List ck_I) := (ck_le2 I f g).bind fun J => ck_le2 J g f
/-- x ≠ y -/
def ck_ne2 (I : List ck_I) (f g : ck_L) : Option (List ck_I) :=
  let a := ck_rng I f
  let b := ck_rng I g
  if b.1 = b.2 then (if a.1 = b.1 then ck_ge I f (b.1 + 1) else if a.2 = b.1 then ck_le I f (b.1 - 1) else some I)
  else if a.1 = a.2 then (if b.1 = a.1 then ck_ge I g (a.1 + 1) else if b.2 = a.1 then ck_le I g (a.1 - 1) else some I)
  else some I
theorem ck_lt2_ok {ν : Nat → Int} {I : List ck_I} {f g : ck_L} {x y : Int32} (h : ck_gi ν I) (hx : x.toInt = ck_ev ν f) (hy : y.toInt = ck_ev ν g) (hc : x.toInt < y.toInt) : ∃ I', ck_lt2 I f g = some I' ∧ ck_gi ν I' ∧ I'.length = I.length := by
  have rx := ck_rng32 h hx
  have ry := ck_rng32 h hy
  obtain ⟨J, e1, h1, l1⟩ := ck_le_ok (f := f) (c := (ck_rng I g).2 - 1) h (by omega)
  obtain ⟨K, e2, h2, l2⟩ := ck_ge_ok (f := g) (c := (ck_rng I f).1 + 1) h1 (by omega)
  exact ⟨K, by unfold ck_lt2; rw [e1]; exact e2, h2, l2.trans l1⟩
theorem ck_le2_ok {ν : Nat → Int} {I : List ck_I} {f g : ck_L} {x y : Int32} (h : ck_gi ν I) (hx : x.toInt = ck_ev ν f) (hy : y.toInt = ck_ev ν g) (hc : x.toInt ≤ y.toInt) : ∃ I', ck_le2 I f g = some I' ∧ ck_gi ν I' ∧ I'.length = I.length := by
  have rx := ck_rng32 h hx
  have ry := ck_rng32 h hy
  obtain ⟨J, e1, h1, l1⟩ := ck_le_ok (f := f) (c := (ck_rng I g).2) h (by omega)
  obtain ⟨K, e2, h2, l2⟩ := ck_ge_ok (f := g) (c := (ck_rng I f).1) h1 (by omega)
  exact ⟨K, by unfold ck_le2; rw [e1]; exact e2, h2, l2.trans l1⟩
theorem ck_eq2_ok {ν : Nat → Int} {I : List ck_I} {f g : ck_L} {x y : Int32} (h : ck_gi ν I) (hx : x.toInt = ck_ev ν f) (hy : y.toInt = ck_ev ν g) (hc : x.toInt = y.toInt) : ∃ I', ck_eq2 I f g = some I' ∧ ck_gi ν I' ∧ I'.length = I.length := by
  obtain ⟨J, e1, h1, l1⟩ := ck_le2_ok h hx hy (by omega)
  obtain ⟨K, e2, h2, l2⟩ := ck_le2_ok h1 hy hx (by omega)
  exact ⟨K, by unfold ck_eq2; rw [e1]; exact e2, h2, l2.trans l1⟩
theorem ck_ne2_ok {ν : Nat → Int} {I : List ck_I} {f g : ck_L} {x y : Int32} (h : ck_gi ν I) (hx : x.toInt = ck_ev ν f) (hy : y.toInt = ck_ev ν g) (hc : x.toInt ≠ y.toInt) : ∃ I', ck_ne2 I f g = some I' ∧ ck_gi ν I' ∧ I'.length = I.length := by
  have rx := ck_rng32 h hx
  have ry := ck_rng32 h hy
  unfold ck_ne2
  dsimp only
  split
  · split
    · exact ck_ge_ok h (by omega)
    · split
      · exact ck_le_ok h (by omega)
      · exact ⟨I, rfl, h, rfl⟩
  · split
    · split
      · exact ck_ge_ok h (by omega)
      · split
        · exact ck_le_ok h (by omega)
        · exact ⟨I, rfl, h, rfl⟩
    · exact ⟨I, rfl, h, rfl⟩
end
section
/-! THE TABLE RUN, 1: what is known at a place of the code, and what that says of the machine's cells -/
abbrev ck_F : Type := (Int × Int) ⊕ (Nat × Nat)
abbrev ck_V : Type := ck_L ⊕ (Nat × Nat)
abbrev ck_D : Type := List ((Nat × Nat) × ck_F)
/-- symbols; numbered places of the frame; operand stack; slots; cells of the world, new cells, new slots so far -/
abbrev ck_S : Type := List ck_I × List (Nat × ck_V) × List ck_V × ck_D × Nat × Nat × Nat
/-- an object: its number in the list, how many fields; a row: its type, how long -/
abbrev ck_Sh : Type := (Nat × Nat) ⊕ (FieldType × Nat)
abbrev ck_Cn : Type := (Nat → Int32) ⊕ (Nat → Int64) ⊕ (Nat → UInt32) ⊕ (Nat → UInt64) ⊕ (Nat → Option Nat)
def ck_elem (c : ck_Cn) (q : Nat) : Value := match c with
  | .inl f => .int (f q)
  | .inr (.inl f) => .long (f q)
  | .inr (.inr (.inl f)) => .float (f q)
  | .inr (.inr (.inr (.inl f))) => .double (f q)
  | .inr (.inr (.inr (.inr f))) => va_rf (f q)
/-- v stands in slot j: of an object field k is slot k + 1; of a row 0 is any place, k + 1 the place k -/
def ck_slot (e : va_E) (j : Nat) (v : Value) : Prop := match e, j with
  | .inl x, 0 => ∃ q, q < x.2.1 ∧ v = ck_elem x.2.2 q
  | .inl x, k + 1 => k < x.2.1 ∧ v = ck_elem x.2.2 k
  | .inr _, 0 => False
  | .inr x, k + 1 => x.2[k]? = some v
/-- a value of a kind: a number between; 0 the cell i; 1 null; 2 the literal i; else anything -/
def ck_fv (st : Nat → Nat) (ws : va_W) (F : ck_F) (v : Value) : Prop := match F with
  | .inl z => ∃ x : Int32, v = .int x ∧ z.1 ≤ x.toInt ∧ x.toInt ≤ z.2
  | .inr (0, i) => ∃ q, ws[i]? = some q ∧ v = .ref q.1
  | .inr (1, _) => v = .null
  | .inr (2, i) => v = .ref (st i)
  | .inr (_, _) => True
def ck_gv (ν : Nat → Int) (st : Nat → Nat) (ws : va_W) (n : Nat) (V : ck_V) (v : Value) : Prop := match V with
  | .inl f => ck_wf n f ∧ ∃ x : Int32, v = .int x ∧ x.toInt = ck_ev ν f
  | .inr k => ck_fv st ws (.inr k) v
/-- the world goes on: the same addresses, perhaps more of them -/
def ck_on (ws ws' : va_W) : Prop := ∀ (i : Nat) (q : Nat × va_E), ws[i]? = some q → ∃ e, ws'[i]? = some (q.1, e)
theorem ck_on.rf {ws : va_W} : ck_on ws ws := fun i q h => ⟨q.2, h⟩
theorem ck_on.trans {a b c : va_W} (h1 : ck_on a b) (h2 : ck_on b c) : ck_on a c := fun i q h => by
  obtain ⟨e, h3⟩ := h1 i q h
  obtain ⟨e2, h4⟩ := h2 i _ h3
  exact ⟨e2, h4⟩
theorem ck_on.set {ws : va_W} {i : Nat} {a : Nat} {e e' : va_E} (h : ws[i]? = some (a, e)) : ck_on ws (ws.set i (a, e')) := fun j q hq => by
  by_cases hj : i = j
  · subst hj
    have hi : i < ws.length := (List.getElem?_eq_some_iff.mp h).1
    rw [List.getElem?_set_self hi]
    have e1 : q = (a, e) := Option.some.inj (hq.symm.trans h)
    exact ⟨e', by rw [e1]⟩
  · rw [List.getElem?_set_ne hj]
    exact ⟨q.2, hq⟩
theorem ck_on.push {ws : va_W} (x : Nat × va_E) : ck_on ws (ws ++ [x]) := fun j q hq => by
  have hj : j < ws.length := (List.getElem?_eq_some_iff.mp hq).1
  rw [List.getElem?_append_left hj]
  exact ⟨q.2, hq⟩
theorem ck_fv.on {st : Nat → Nat} {ws ws' : va_W} {F : ck_F} {v : Value} (h : ck_on ws ws') (hv : ck_fv st ws F v) : ck_fv st ws' F v := by
  rcases F with z | ⟨t, i⟩
  · exact hv
  · match t, hv with
    | 0, hv =>
      obtain ⟨q, h1, h2⟩ := hv
      obtain ⟨e, h3⟩ := h i q h1
      exact ⟨(q.1, e), h3, h2⟩
    | 1, hv => exact hv
    | 2, hv => exact hv
    | _ + 3, _ => trivial
theorem ck_gv.on {ν ν' : Nat → Int} {st : Nat → Nat} {ws ws' : va_W} {n n' : Nat} {V : ck_V} {v : Value} (h : ck_on ws ws') (hn : n ≤ n') (hν : ∀ j, j < n → ν' j = ν j) (hv : ck_gv ν st ws n V v) : ck_gv ν' st ws' n' V v := by
  cases V with
  | inl f =>
    obtain ⟨w, x, h1, h2⟩ := hv
    exact ⟨w.mono hn, x, h1, by rw [ck_ev_congr w hν]; exact h2⟩
  | inr k => exact ck_fv.on h hv
def ck_gs (ν : Nat → Int) (st : Nat → Nat) (ws : va_W) (n : Nat) : List ck_V → List Value → Prop
  | [], [] => True
  | V :: S, v :: vs => ck_gv ν st ws n V v ∧ ck_gs ν st ws n S vs
  | _, _ => False
theorem ck_gs.on {ν ν' : Nat → Int} {st : Nat → Nat} {ws ws' : va_W} {n n' : Nat} (h : ck_on ws ws') (hn : n ≤ n') (hν : ∀ j, j < n → ν' j = ν j) : ∀ {S : List ck_V} {vs : List Value}, ck_gs ν st ws n S vs → ck_gs ν' st ws' n' S vs
  | [], [], _ => trivial
  | _ :: _, _ :: _, hs => ⟨hs.1.on h hn hν, ck_gs.on h hn hν hs.2⟩
  | [], _ :: _, hs => hs.elim
  | _ :: _, [], hs => hs.elim
def ck_gl (ν : Nat → Int) (st : Nat → Nat) (ws : va_W) (n nL : Nat) (L : List (Nat × ck_V)) (ls : Array Slot) : Prop := ∃ lv : List (Nat × Value), lv_has ls nL lv ∧ ∀ q ∈ L, ∃ v, (q.1, v) ∈ lv ∧ ck_gv ν st ws n q.2 v
theorem ck_gl.on {ν ν' : Nat → Int} {st : Nat → Nat} {ws ws' : va_W} {n n' nL : Nat} {L : List (Nat × ck_V)} {ls : Array Slot} (h : ck_on ws ws') (hn : n ≤ n') (hν : ∀ j, j < n → ν' j = ν j) (hl : ck_gl ν st ws n nL L ls) : ck_gl ν' st ws' n' nL L ls := by
  obtain ⟨lv, h1, h2⟩ := hl
  refine ⟨lv, h1, fun q hq => ?_⟩
  obtain ⟨v, h3, h4⟩ := h2 q hq
  exact ⟨v, h3, h4.on h hn hν⟩
/-- of which place: the value's form -/
def ck_get (L : List (Nat × ck_V)) (j : Nat) : Option ck_V := (L.find? (fun q => q.1 == j)).map Prod.snd
theorem ck_get_mem {L : List (Nat × ck_V)} {j : Nat} {V : ck_V} (h : ck_get L j = some V) : (j, V) ∈ L := by
  unfold ck_get at h
  cases hq : L.find? (fun q => q.1 == j) with
  | none => rw [hq] at h; cases h
  | some q =>
    rw [hq] at h
    have h1 := List.mem_of_find?_eq_some hq
    have h2 := List.find?_some hq
    have e : q = (j, V) := by
      have h3 : q.1 = j := by simpa using h2
      have h4 : q.2 = V := Option.some.inj h
      rw [← h3, ← h4]
    rw [← e]; exact h1
theorem ck_gl.get {ν : Nat → Int} {st : Nat → Nat} {ws : va_W} {n nL : Nat} {L : List (Nat × ck_V)} {ls : Array Slot} {j : Nat} {V : ck_V} (hl : ck_gl ν st ws n nL L ls) (h : ck_get L j = some V) : ∃ v, ls[j]? = some (.val v) ∧ ck_gv ν st ws n V v := by
  obtain ⟨lv, h1, h2⟩ := hl
  obtain ⟨v, h3, h4⟩ := h2 _ (ck_get_mem h)
  exact ⟨v, h1.2.2 _ h3, h4⟩
/-- values of one word -/
def ck_one (V : ck_V) : Bool := match V with
  | .inl _ => true
  | .inr (0, _) => true
  | .inr (1, _) => true
  | .inr (2, _) => true
  | .inr (_, _) => false
theorem ck_one_cat {ν : Nat → Int} {st : Nat → Nat} {ws : va_W} {n : Nat} {V : ck_V} {v : Value} (h1 : ck_one V = true) (h : ck_gv ν st ws n V v) : v.category = 1 := by
  rcases V with f | ⟨t, i⟩
  · obtain ⟨-, x, rfl, -⟩ := h; rfl
  · match t, h1, h with
    | 0, _, h => obtain ⟨q, -, rfl⟩ := h; rfl
    | 1, _, h =>
      have e : v = .null := h
      rw [e]; rfl
    | 2, _, h =>
      have e : v = .ref (st i) := h
      rw [e]; rfl
    | _ + 3, h1, _ => cases h1
def ck_put (L : List (Nat × ck_V)) (j : Nat) (V : ck_V) : List (Nat × ck_V) := (j, V) :: L.filter (fun q => !(q.1 == j) && ck_one q.2)
theorem ck_gl.put {ν : Nat → Int} {st : Nat → Nat} {ws : va_W} {n nL : Nat} {L : List (Nat × ck_V)} {lv : List (Nat × Value)} {ls' : Array Slot} {j : Nat} {V : ck_V} {v : Value} (h2 : ∀ q ∈ L, ∃ v, (q.1, v) ∈ lv ∧ ck_gv ν st ws n q.2 v) (hv : ck_gv ν st ws n V v) (h : lv_has ls' nL ((j, v) :: lv.filter (fun q => !(q.1 == j) && !(q.1 + 1 == j && q.2.category == 2)))) : ck_gl ν st ws n nL (ck_put L j V) ls' := by
  refine ⟨_, h, fun q hq => ?_⟩
  rcases List.mem_cons.mp hq with e | hq
  · subst e
    exact ⟨v, List.mem_cons_self, hv⟩
  · obtain ⟨h3, h4⟩ := List.mem_filter.mp hq
    simp only [Bool.and_eq_true, Bool.not_eq_true'] at h4
    obtain ⟨w, h5, h6⟩ := h2 q h3
    refine ⟨w, List.mem_cons_of_mem _ (List.mem_filter.mpr ⟨h5, ?_⟩), h6⟩
    have hc := ck_one_cat h4.2 h6
    simp only [h4.1, hc]
    simp
/-! slots -/
def ck_gd (st : Nat → Nat) (ws : va_W) (X : ck_D) : Prop := ∀ x ∈ X, ∃ q, ws[x.1.1]? = some q ∧ ∀ v, ck_slot q.2 x.1.2 v → ck_fv st ws x.2 v
def ck_look (X : ck_D) (i j : Nat) : Option ck_F := (X.find? (fun x => x.1.1 == i && x.1.2 == j)).map Prod.snd
theorem ck_look_mem {X : ck_D} {i j : Nat} {F : ck_F} (h : ck_look X i j = some F) : ((i, j), F) ∈ X := by
  unfold ck_look at h
  cases hq : X.find? (fun x => x.1.1 == i && x.1.2 == j) with
  | none => rw [hq] at h; cases h
  | some q =>
    rw [hq] at h
    have h1 := List.mem_of_find?_eq_some hq
    have h2 := List.find?_some hq
    have e : q = ((i, j), F) := by
      simp only [Bool.and_eq_true, beq_iff_eq] at h2
      have h4 : q.2 = F := Option.some.inj h
      obtain ⟨⟨a, b⟩, c⟩ := q
      simp only at h2 h4
      rw [h2.1, h2.2, h4]
    rw [← e]; exact h1
/-- what the cells are: their shapes -/
def ck_cnt (ty : FieldType) (c : ck_Cn) : Prop := match ty, c with
  | .int, .inl _ => True
  | .boolean, .inl _ => True
  | .byte, .inl _ => True
  | .long, .inr (.inl _) => True
  | .object _, .inr (.inr (.inr (.inr _))) => True
  | _, _ => False
def ck_fit (tys : List (ClassId × FieldType)) (S : ck_Sh) (e : va_E) : Prop := match S, e with
  | .inl o, .inr x => x.1 = o.1 ∧ x.2.length = o.2
  | .inr r, .inl x => x.2.1 = r.2 ∧ (∃ t : Nat, tys[t]? = some (x.1, r.1)) ∧ ck_cnt r.1 x.2.2
  | _, _ => False
def ck_w (sh : List ck_Sh) (tys : List (ClassId × FieldType)) (ws : va_W) (nc : Nat) : Prop := ws.length = nc ∧ ∀ (i : Nat) (q : Nat × va_E), ws[i]? = some q → ∃ S, sh[i]? = some S ∧ ck_fit tys S q.2
theorem ck_fit.more {tys tys' : List (ClassId × FieldType)} {S : ck_Sh} {e : va_E} (h : ∀ (t : Nat) (x : ClassId × FieldType), tys[t]? = some x → ∃ t' : Nat, tys'[t']? = some x) (hf : ck_fit tys S e) : ck_fit tys' S e := by
  rcases S with o | r <;> rcases e with x | x
  · exact hf.elim
  · exact hf
  · obtain ⟨h1, ⟨t, h2⟩, h3⟩ := hf
    exact ⟨h1, h t _ h2, h3⟩
  · exact hf.elim
theorem ck_w.set {sh : List ck_Sh} {tys : List (ClassId × FieldType)} {ws : va_W} {nc i a : Nat} {e e' : va_E} (h : ck_w sh tys ws nc) (hi : ws[i]? = some (a, e)) (hf : ∀ S, ck_fit tys S e → ck_fit tys S e') : ck_w sh tys (ws.set i (a, e')) nc := by
  refine ⟨by rw [List.length_set]; exact h.1, fun j q hq => ?_⟩
  by_cases hj : i = j
  · subst hj
    have hl : i < ws.length := (List.getElem?_eq_some_iff.mp hi).1
    rw [List.getElem?_set_self hl] at hq
    cases hq
    obtain ⟨S, h1, h2⟩ := h.2 i _ hi
    exact ⟨S, h1, hf S h2⟩
  · rw [List.getElem?_set_ne hj] at hq
    exact h.2 j q hq
/-- the slots that are not in wr hold nothing that they didn't hold -/
def ck_fr (wr : List (Nat × Nat)) (ws0 ws : va_W) : Prop := ∀ (i : Nat) (q : Nat × va_E), ws0[i]? = some q → ∃ e, ws[i]? = some (q.1, e) ∧ ∀ j, (i, j) ∉ wr → (i, 0) ∉ wr → ∀ v, ck_slot e j v → ck_slot q.2 j v
theorem ck_fr.on {wr : List (Nat × Nat)} {ws0 ws : va_W} (h : ck_fr wr ws0 ws) : ck_on ws0 ws := fun i q hq => by
  obtain ⟨e, h1, -⟩ := h i q hq
  exact ⟨e, h1⟩
theorem ck_fr.rf {wr : List (Nat × Nat)} {ws : va_W} : ck_fr wr ws ws := fun i q h => ⟨q.2, h, fun _ _ _ _ hv => hv⟩
theorem ck_fr.trans {wr : List (Nat × Nat)} {a b c : va_W} (h1 : ck_fr wr a b) (h2 : ck_fr wr b c) : ck_fr wr a c := fun i q h => by
  obtain ⟨e, h3, h4⟩ := h1 i q h
  obtain ⟨e2, h5, h6⟩ := h2 i _ h3
  exact ⟨e2, h5, fun j hj h0 v hv => h4 j hj h0 v (h6 j hj h0 v hv)⟩
theorem ck_fr.wide {wr wr' : List (Nat × Nat)} {a b : va_W} (h : ck_fr wr a b) (hw : ∀ x ∈ wr, x ∈ wr') : ck_fr wr' a b := fun i q hq => by
  obtain ⟨e, h3, h4⟩ := h i q hq
  exact ⟨e, h3, fun j hj h0 v hv => h4 j (fun z => hj (hw _ z)) (fun z => h0 (hw _ z)) v hv⟩
theorem ck_fr.push {wr : List (Nat × Nat)} {ws : va_W} (x : Nat × va_E) : ck_fr wr ws (ws ++ [x]) := fun j q hq => by
  have hj : j < ws.length := (List.getElem?_eq_some_iff.mp hq).1
  rw [List.getElem?_append_left hj]
  exact ⟨q.2, hq, fun _ _ _ _ hv => hv⟩
theorem ck_fr.set {wr : List (Nat × Nat)} {ws : va_W} {i a : Nat} {e e' : va_E} (h : ws[i]? = some (a, e)) (hs : ∀ j, (i, j) ∉ wr → (i, 0) ∉ wr → ∀ v, ck_slot e' j v → ck_slot e j v) : ck_fr wr ws (ws.set i (a, e')) := fun j q hq => by
  by_cases hj : i = j
  · subst hj
    have hi : i < ws.length := (List.getElem?_eq_some_iff.mp h).1
    rw [List.getElem?_set_self hi]
    have e1 : q = (a, e) := Option.some.inj (hq.symm.trans h)
    subst e1
    exact ⟨e', rfl, hs⟩
  · rw [List.getElem?_set_ne hj]
    exact ⟨q.2, hq, fun _ _ _ _ hv => hv⟩
/-- what is known of slots outlives a change of others -/
theorem ck_gd.fr {st : Nat → Nat} {wr : List (Nat × Nat)} {ws ws' : va_W} {X : ck_D} (h : ck_fr wr ws ws') (hX : ck_gd st ws X) : ck_gd st ws' (X.filter (fun x => !(wr.contains x.1) && !(wr.contains (x.1.1, 0)))) := fun x hx => by
  obtain ⟨h1, h2⟩ := List.mem_filter.mp hx
  have hn : x.1 ∉ wr ∧ (x.1.1, 0) ∉ wr := by simpa using h2
  obtain ⟨q, hq, hv⟩ := hX x h1
  obtain ⟨e, h3, h4⟩ := h x.1.1 q hq
  exact ⟨(q.1, e), h3, fun v hs => (hv v (h4 x.1.2 hn.1 hn.2 v hs)).on h.on⟩
theorem ck_gd.sub {st : Nat → Nat} {ws : va_W} {X Y : ck_D} (h : ∀ x ∈ Y, x ∈ X) (hX : ck_gd st ws X) : ck_gd st ws Y := fun x hx => hX x (h x hx)
theorem ck_gd.app {st : Nat → Nat} {ws : va_W} {X Y : ck_D} (hX : ck_gd st ws X) (hY : ck_gd st ws Y) : ck_gd st ws (X ++ Y) := fun x hx => (List.mem_append.mp hx).elim (hX x) (hY x)
theorem ck_gd.push {st : Nat → Nat} {ws : va_W} {X : ck_D} (y : Nat × va_E) (hX : ck_gd st ws X) : ck_gd st (ws ++ [y]) X := fun x hx => by
  obtain ⟨q, hq, hv⟩ := hX x hx
  obtain ⟨e, h3, h4⟩ := ck_fr.push (wr := []) y x.1.1 q hq
  exact ⟨(q.1, e), h3, fun v hs => (hv v (h4 x.1.2 (by simp) (by simp) v hs)).on (ck_on.push y)⟩
end
section
/-! THE TABLE RUN, 2: steps that leave the cells as they are -/
section CKA
variable {p : Program} {l : Launch} {e : Env} {R : Room} {s : State} {m : MethodId} {args : Array Value} {below : List Frame} {meth : Method} {c : Code} {Q : State → Prop}
variable {cc : ByteArray} {D : va_G} {cl : List vw_C} {st : Nat → Nat} {sh : List ck_Sh} {A : Nat → Prop} {nL : Nat} {wr : List (Nat × Nat)} {ws0 : va_W}
/-- the machine is as the table says -/
def ck_G (D : va_G) (cl : List vw_C) (st : Nat → Nat) (sh : List ck_Sh) (A : Nat → Prop) (s : State) (nL : Nat) (wr : List (Nat × Nat)) (ws0 : va_W) (I : List ck_I) (L : List (Nat × ck_V)) (S : List ck_V) (X : ck_D) (nc : Nat) (ν : Nat → Int) (ws : va_W) (tys : List (ClassId × FieldType)) (H : Heap) (locs : List Loc) (ls : Array Slot) (vs : List Value) : Prop :=
  ck_gi ν I ∧ ck_gl ν st ws I.length nL L ls ∧ ck_gs ν st ws I.length S vs ∧ ck_gd st ws X ∧ ck_w sh tys ws nc ∧ va_K D cl tys s ∧ va_P D cl ws H ∧ va_D A ws ∧ va_S A s.heap H locs ∧ ck_fr wr ws0 ws
/-- from the place x on all goes well, whatever the old symbols I grew to -/
def ck_N (p : Program) (l : Launch) (e : Env) (R : Room) (s : State) (m : MethodId) (args : Array Value) (below : List Frame) (meth : Method) (c : Code) (Q : State → Prop) (D : va_G) (cl : List vw_C) (st : Nat → Nat) (sh : List ck_Sh) (A : Nat → Prop) (nL : Nat) (wr : List (Nat × Nat)) (ws0 : va_W) (n : Nat) (ν : Nat → Int) (x : Nat × ck_S) : Prop :=
  ∀ (ν' : Nat → Int) (ws' : va_W) (tys' : List (ClassId × FieldType)) (H' : Heap) (locs' : List Loc) (ls' : Array Slot) (vs' : List Value), (∀ j, j < n → ν' j = ν j) → ck_G D cl st sh A s nL wr ws0 x.2.1 x.2.2.1 x.2.2.2.1 x.2.2.2.2.1 x.2.2.2.2.2.1 ν' ws' tys' H' locs' ls' vs' → W p l e R s m args below meth c H' locs' x.2.2.2.2.2.2.1 x.2.2.2.2.2.2.2 Q (F0 m x.1 ls' vs')
variable {I I' : List ck_I} {L : List (Nat × ck_V)} {S S' : List ck_V} {X : ck_D} {nc mc ms n : Nat} {ν ν' : Nat → Int} {ws : va_W} {tys : List (ClassId × FieldType)} {H : Heap} {locs : List Loc} {ls : Array Slot} {vs vs' : List Value} {pc : Nat}
theorem ck_G.grow (h : ck_G D cl st sh A s nL wr ws0 I L S X nc ν ws tys H locs ls vs) (hν : ∀ j, j < I.length → ν' j = ν j) (hn : I.length ≤ I'.length) (hi : ck_gi ν' I') : ck_G D cl st sh A s nL wr ws0 I' L S X nc ν' ws tys H locs ls vs := by
  obtain ⟨h1, h2, h3, h4⟩ := h
  exact ⟨hi, h2.on ck_on.rf hn hν, h3.on ck_on.rf hn hν, h4⟩
theorem ck_G.stk (h : ck_G D cl st sh A s nL wr ws0 I L S X nc ν ws tys H locs ls vs) (hs : ck_gs ν st ws I.length S' vs') : ck_G D cl st sh A s nL wr ws0 I L S' X nc ν ws tys H locs ls vs' := by
  obtain ⟨h1, h2, h3, h4⟩ := h
  exact ⟨h1, h2, hs, h4⟩
theorem ck_G.gs (h : ck_G D cl st sh A s nL wr ws0 I L S X nc ν ws tys H locs ls vs) : ck_gs ν st ws I.length S vs := h.2.2.1
theorem ck_G.gi (h : ck_G D cl st sh A s nL wr ws0 I L S X nc ν ws tys H locs ls vs) : ck_gi ν I := h.1
theorem ck_G.cut (h : ck_G D cl st sh A s nL wr ws0 I L S X nc ν ws tys H locs ls vs) (hn : I'.length = I.length) (hi : ck_gi ν I') : ck_G D cl st sh A s nL wr ws0 I' L S X nc ν ws tys H locs ls vs := h.grow (fun _ _ => rfl) (by omega) hi
theorem ck_gs.pop {V : ck_V} (h : ck_gs ν st ws n (V :: S) vs) : ∃ v vs', vs = v :: vs' ∧ ck_gv ν st ws n V v ∧ ck_gs ν st ws n S vs' := by
  cases vs with
  | nil => exact h.elim
  | cons v vs' => exact ⟨v, vs', rfl, h.1, h.2⟩
/-- a number that an operation gave goes on the stack -/
theorem ck_pushv {f : ck_L} {x : Int32} (hG : ck_G D cl st sh A s nL wr ws0 I L S X nc ν ws tys H locs ls vs) (hn : n ≤ I.length) (hr : ck_res ν I I' f x.toInt) (K : ck_N p l e R s m args below meth c Q D cl st sh A nL wr ws0 n ν (pc, (I', L, .inl f :: S, X, nc, mc, ms))) : W p l e R s m args below meth c H locs mc ms Q (F0 m pc ls (.int x :: vs)) := by
  obtain ⟨ν', h1, h2, h3, h4, h5⟩ := hr
  have hG' := hG.grow h1 h2 h3
  exact K ν' ws tys H locs ls _ (fun j hj => h1 j (by omega)) (hG'.stk ⟨⟨h4, x, rfl, h5.symm⟩, hG'.gs⟩)
/-- a value whose form is there goes on the stack -/
theorem ck_pushV {V : ck_V} {v : Value} (hG : ck_G D cl st sh A s nL wr ws0 I L S X nc ν ws tys H locs ls vs) (hv : ck_gv ν st ws I.length V v) (K : ck_N p l e R s m args below meth c Q D cl st sh A nL wr ws0 n ν (pc, (I, L, V :: S, X, nc, mc, ms))) : W p l e R s m args below meth c H locs mc ms Q (F0 m pc ls (v :: vs)) :=
  K ν ws tys H locs ls _ (fun _ _ => rfl) (hG.stk ⟨hv, hG.gs⟩)
/-- a form of which the table knows the value is that number -/
def ck_norm (I : List ck_I) (f : ck_L) : ck_L := if (ck_rng I f).1 = (ck_rng I f).2 then ck_k (ck_rng I f).1 else f
theorem ck_norm_ok {f : ck_L} {x : Int32} (hi : ck_gi ν I) (w : ck_wf I.length f) (hx : x.toInt = ck_ev ν f) : ck_wf I.length (ck_norm I f) ∧ x.toInt = ck_ev ν (ck_norm I f) := by
  have rx := ck_rng32 hi hx
  unfold ck_norm
  split
  · refine ⟨Or.inl rfl, ?_⟩
    simp only [ck_ev, ck_k, Int.zero_mul, Int.zero_add]
    omega
  · exact ⟨w, hx⟩
/-- constants and loads -/
def ck_a (pc : Nat) (i : Instr × Nat) (I : List ck_I) (L : List (Nat × ck_V)) (S : List ck_V) (X : ck_D) (k : Nat × Nat × Nat) : Option (List (Nat × ck_S)) := match i with
  | (.iconst z, 1) => some [(pc + 1, (I, L, .inl (ck_k (Int32.ofInt z).toInt) :: S, X, k))]
  | (.bipush z, 2) => some [(pc + 2, (I, L, .inl (ck_k (Int8.ofInt z).toInt32.toInt) :: S, X, k))]
  | (.sipush z, 3) => some [(pc + 3, (I, L, .inl (ck_k (Int16.ofInt z).toInt32.toInt) :: S, X, k))]
  | (.aconst_null, 1) => some [(pc + 1, (I, L, .inr (1, 0) :: S, X, k))]
  | (.iload_n j, 1) => match ck_get L j.val with
    | some (.inl f) => some [(pc + 1, (I, L, .inl (ck_norm I f) :: S, X, k))]
    | _ => none
  | (.iload j, 2) => match ck_get L j with
    | some (.inl f) => some [(pc + 2, (I, L, .inl (ck_norm I f) :: S, X, k))]
    | _ => none
  | (.aload_n j, 1) => match ck_get L j.val with
    | some (.inr q) => if ck_one (.inr q) = true then some [(pc + 1, (I, L, .inr q :: S, X, k))] else none
    | _ => none
  | (.aload j, 2) => match ck_get L j with
    | some (.inr q) => if ck_one (.inr q) = true then some [(pc + 2, (I, L, .inr q :: S, X, k))] else none
    | _ => none
  | _ => none
theorem ck_refs {q : Nat × Nat} {v : Value} (h1 : ck_one (.inr q) = true) (h : ck_fv st ws (.inr q) v) : v = .null ∨ ∃ a, v = .ref a := by
  obtain ⟨t, i⟩ := q
  match t, h1, h with
  | 0, _, h => obtain ⟨q, -, rfl⟩ := h; exact Or.inr ⟨_, rfl⟩
  | 1, _, h => exact Or.inl h
  | 2, _, h => exact Or.inr ⟨_, h⟩
  | _ + 3, h1, _ => cases h1
theorem ck_a_ok {i : Instr × Nat} {xs : List (Nat × ck_S)} (hx : p.tables.exec = Jvm.exec) (hb : c.code = cc) (hd : decode cc pc = .ok i) (h : ck_a pc i I L S X (nc, mc, ms) = some xs) (hn : n ≤ I.length) (hG : ck_G D cl st sh A s nL wr ws0 I L S X nc ν ws tys H locs ls vs)
    (K : ∀ x ∈ xs, ck_N p l e R s m args below meth c Q D cl st sh A nL wr ws0 n ν x) : W p l e R s m args below meth c H locs mc ms Q (F0 m pc ls vs) := by
  unfold ck_a at h
  split at h
  · cases h
    exact lv_iconst hx hb hd rfl (ck_pushv hG hn (ck_k_ok hG.gi _) (K _ List.mem_cons_self))
  · cases h
    exact lv_bipush hx hb hd rfl (ck_pushv hG hn (ck_k_ok hG.gi _) (K _ List.mem_cons_self))
  · cases h
    exact lv_sipush hx hb hd rfl (ck_pushv hG hn (ck_k_ok hG.gi _) (K _ List.mem_cons_self))
  · cases h
    exact lv_null hx hb hd (ck_pushV (V := .inr (1, 0)) hG rfl (K _ List.mem_cons_self))
  · split at h
    · rename_i hg
      cases h
      obtain ⟨v, h1, h2⟩ := hG.2.1.get hg
      obtain ⟨w, x, rfl, h3⟩ := id h2
      exact lv_iload_n hx hb hd rfl h1 (ck_pushV (V := .inl (ck_norm I _)) hG ⟨(ck_norm_ok hG.gi w h3).1, x, rfl, (ck_norm_ok hG.gi w h3).2⟩ (K _ List.mem_cons_self))
    · cases h
  · split at h
    · rename_i hg
      cases h
      obtain ⟨v, h1, h2⟩ := hG.2.1.get hg
      obtain ⟨w, x, rfl, h3⟩ := id h2
      exact lv_iload hx hb hd h1 (ck_pushV (V := .inl (ck_norm I _)) hG ⟨(ck_norm_ok hG.gi w h3).1, x, rfl, (ck_norm_ok hG.gi w h3).2⟩ (K _ List.mem_cons_self))
    · cases h
  · split at h
    · rename_i hg
      split at h
      · rename_i ho
        cases h
        obtain ⟨v, h1, h2⟩ := hG.2.1.get hg
        rcases ck_refs ho h2 with rfl | ⟨a, rfl⟩
        · exact lv_aload_nN hx hb hd rfl h1 (ck_pushV hG h2 (K _ List.mem_cons_self))
        · exact lv_aload_n hx hb hd rfl h1 (ck_pushV hG h2 (K _ List.mem_cons_self))
      · cases h
    · cases h
  · split at h
    · rename_i hg
      split at h
      · rename_i ho
        cases h
        obtain ⟨v, h1, h2⟩ := hG.2.1.get hg
        rcases ck_refs ho h2 with rfl | ⟨a, rfl⟩
        · exact lv_aloadN hx hb hd h1 (ck_pushV hG h2 (K _ List.mem_cons_self))
        · exact lv_aload hx hb hd h1 (ck_pushV hG h2 (K _ List.mem_cons_self))
      · cases h
    · cases h
  · cases h
/-- stores -/
def ck_b (nL : Nat) (pc : Nat) (i : Instr × Nat) (I : List ck_I) (L : List (Nat × ck_V)) (S : List ck_V) (X : ck_D) (k : Nat × Nat × Nat) : Option (List (Nat × ck_S)) := match i, S with
  | (.istore_n j, 1), .inl f :: S => if j.val < nL then some [(pc + 1, (I, ck_put L j.val (.inl f), S, X, k))] else none
  | (.istore j, 2), .inl f :: S => if j < nL then some [(pc + 2, (I, ck_put L j (.inl f), S, X, k))] else none
  | (.astore_n j, 1), .inr q :: S => if j.val < nL ∧ ck_one (.inr q) = true then some [(pc + 1, (I, ck_put L j.val (.inr q), S, X, k))] else none
  | (.astore j, 2), .inr q :: S => if j < nL ∧ ck_one (.inr q) = true then some [(pc + 2, (I, ck_put L j (.inr q), S, X, k))] else none
  | (.iinc j z, 3), S => match ck_get L j with
    | some (.inl f) => if j < nL then let r := ck_add I f (ck_k (Int32.ofInt z).toInt); some [(pc + 3, (r.1, ck_put L j (.inl r.2), S, X, k))] else none
    | _ => none
  | _, _ => none
theorem ck_G.put {V : ck_V} {v : Value} {j : Nat} {lv : List (Nat × Value)} {ls' : Array Slot} (hG : ck_G D cl st sh A s nL wr ws0 I L S X nc ν ws tys H locs ls vs) (h2 : ∀ q ∈ L, ∃ v, (q.1, v) ∈ lv ∧ ck_gv ν st ws I.length q.2 v) (hv : ck_gv ν st ws I.length V v) (h : lv_has ls' nL ((j, v) :: lv.filter (fun q => !(q.1 == j) && !(q.1 + 1 == j && q.2.category == 2)))) : ck_G D cl st sh A s nL wr ws0 I (ck_put L j V) S X nc ν ws tys H locs ls' vs :=
  ⟨hG.1, ck_gl.put h2 hv h, hG.2.2⟩
theorem ck_b_ok {i : Instr × Nat} {xs : List (Nat × ck_S)} (hx : p.tables.exec = Jvm.exec) (hb : c.code = cc) (hd : decode cc pc = .ok i) (h : ck_b nL pc i I L S X (nc, mc, ms) = some xs) (hn : n ≤ I.length) (hG : ck_G D cl st sh A s nL wr ws0 I L S X nc ν ws tys H locs ls vs)
    (K : ∀ x ∈ xs, ck_N p l e R s m args below meth c Q D cl st sh A nL wr ws0 n ν x) : W p l e R s m args below meth c H locs mc ms Q (F0 m pc ls vs) := by
  unfold ck_b at h
  split at h
  · split at h
    · rename_i hj
      cases h
      obtain ⟨v, vs', rfl, h1, h2⟩ := hG.gs.pop
      obtain ⟨w, x, rfl, h3⟩ := id h1
      obtain ⟨lv, hl, hm⟩ := hG.2.1
      exact lv_istore_n hx hb hd rfl hl hj rfl (fun ls' hl' => K _ List.mem_cons_self ν ws tys H locs ls' _ (fun _ _ => rfl) ((hG.stk h2).put hm h1 hl'))
    · cases h
  · split at h
    · rename_i hj
      cases h
      obtain ⟨v, vs', rfl, h1, h2⟩ := hG.gs.pop
      obtain ⟨w, x, rfl, h3⟩ := id h1
      obtain ⟨lv, hl, hm⟩ := hG.2.1
      exact lv_istore hx hb hd hl hj rfl (fun ls' hl' => K _ List.mem_cons_self ν ws tys H locs ls' _ (fun _ _ => rfl) ((hG.stk h2).put hm h1 hl'))
    · cases h
  · split at h
    · rename_i hj
      cases h
      obtain ⟨v, vs', rfl, h1, h2⟩ := hG.gs.pop
      obtain ⟨lv, hl, hm⟩ := hG.2.1
      rcases ck_refs hj.2 h1 with rfl | ⟨a, rfl⟩
      · exact lv_astore_nN hx hb hd rfl hl hj.1 rfl (fun ls' hl' => K _ List.mem_cons_self ν ws tys H locs ls' _ (fun _ _ => rfl) ((hG.stk h2).put hm h1 hl'))
      · exact lv_astore_n hx hb hd rfl hl hj.1 rfl (fun ls' hl' => K _ List.mem_cons_self ν ws tys H locs ls' _ (fun _ _ => rfl) ((hG.stk h2).put hm h1 hl'))
    · cases h
  · split at h
    · rename_i hj
      cases h
      obtain ⟨v, vs', rfl, h1, h2⟩ := hG.gs.pop
      obtain ⟨lv, hl, hm⟩ := hG.2.1
      rcases ck_refs hj.2 h1 with rfl | ⟨a, rfl⟩
      · exact lv_astoreN hx hb hd hl hj.1 rfl (fun ls' hl' => K _ List.mem_cons_self ν ws tys H locs ls' _ (fun _ _ => rfl) ((hG.stk h2).put hm h1 hl'))
      · exact lv_astore hx hb hd hl hj.1 rfl (fun ls' hl' => K _ List.mem_cons_self ν ws tys H locs ls' _ (fun _ _ => rfl) ((hG.stk h2).put hm h1 hl'))
    · cases h
  · split at h
    · rename_i f hg
      split at h
      · rename_i hj
        cases h
        obtain ⟨lv, hl, hm⟩ := hG.2.1
        obtain ⟨v, h1, w, x, rfl, h3⟩ := hm _ (ck_get_mem hg)
        obtain ⟨k, hk⟩ := List.getElem?_of_mem h1
        obtain ⟨ν', a1, a2, a3, a4, a5⟩ := ck_add_ok (y := Int32.ofInt _) hG.gi w (Or.inl rfl) h3 (show (Int32.ofInt _).toInt = ck_ev ν (ck_k _) by simp only [ck_ev, ck_k, Int.zero_mul, Int.zero_add]; rfl)
        refine lv_iinc hx hb hd hl hk rfl hj rfl (fun ls' hl' => K _ List.mem_cons_self ν' ws tys H locs ls' _ (fun j hj => a1 j (by omega)) ?_)
        have hG' := hG.grow a1 a2 a3
        exact hG'.put (fun q hq => by obtain ⟨v, b1, b2⟩ := hm q hq; exact ⟨v, b1, b2.on ck_on.rf a2 a1⟩) ⟨a4, _, rfl, a5.symm⟩ hl'
      · cases h
    · cases h
  · cases h
/-- numbers of two -/
def ck_bop (i : Instr) : Option ((Int32 → Int32 → Int32) × (List ck_I → ck_L → ck_L → List ck_I × ck_L)) := match i with
  | .iadd => some (fun x y => x + y, ck_add)
  | .isub => some (fun x y => x - y, ck_sub)
  | .imul => some (fun x y => x * y, ck_mul)
  | .iand => some (fun x y => x &&& y, ck_and)
  | .ior => some (fun x y => x ||| y, ck_or)
  | .ixor => some (fun x y => x ^^^ y, ck_xor)
  | .ishl => some (fun x y => x <<< (y &&& 31), ck_shl)
  | .ishr => some (fun x y => x >>> (y &&& 31), ck_shr)
  | .iushr => some (fun x y => (x.toUInt32 >>> (y.toUInt32 &&& Int32.toUInt32 31)).toInt32, ck_ushr)
  | _ => none
theorem ck_bop_ok {i : Instr} {o : Int32 → Int32 → Int32} {g : List ck_I → ck_L → ck_L → List ck_I × ck_L} (h : ck_bop i = some (o, g)) {f f' : ck_L} {x y : Int32} (hi : ck_gi ν I) (wf : ck_wf I.length f) (wg : ck_wf I.length f') (hx : x.toInt = ck_ev ν f) (hy : y.toInt = ck_ev ν f') : ck_res ν I (g I f f').1 (g I f f').2 (o x y).toInt := by
  unfold ck_bop at h
  split at h <;> cases h
  · exact ck_add_ok hi wf wg hx hy
  · exact ck_sub_ok hi wf wg hx hy
  · exact ck_mul_ok hi wf wg hx hy
  · exact ck_and_ok hi wf wg hx hy
  · exact ck_or_ok hi hx hy
  · exact ck_xor_ok hi hx hy
  · exact ck_shl_ok hi hx hy
  · exact ck_shr_ok hi hx hy
  · exact ck_ushr_ok hi hx hy
theorem ck_bop_row {i : Instr} {o : Int32 → Int32 → Int32} {g : List ck_I → ck_L → ck_L → List ck_I × ck_L} (h : ck_bop i = some (o, g)) (hx : p.tables.exec = Jvm.exec) (hb : c.code = cc) (hd : decode cc pc = .ok (i, 1)) {x y : Int32} (K : W p l e R s m args below meth c H locs mc ms Q (F0 m (pc + 1) ls (.int (o x y) :: vs))) : W p l e R s m args below meth c H locs mc ms Q (F0 m pc ls (.int y :: .int x :: vs)) := by
  unfold ck_bop at h
  split at h <;> cases h
  · exact lv_iadd hx hb hd K
  · exact lv_isub hx hb hd K
  · exact lv_imul hx hb hd K
  · exact lv_iand hx hb hd K
  · exact lv_ior hx hb hd K
  · exact lv_ixor hx hb hd K
  · exact lv_ishl hx hb hd K
  · exact lv_ishr hx hb hd K
  · exact lv_iushr hx hb hd rfl K
/-- x to a byte -/
def ck_i2b (I : List ck_I) (f : ck_L) : List ck_I × ck_L := let a := ck_rng I f; if -128 ≤ a.1 ∧ a.2 ≤ 127 then (I, f) else ck_btw I (-128) 127
theorem ck_byteI {x : Int32} (h1 : -128 ≤ x.toInt) (h2 : x.toInt ≤ 127) : x.toInt8.toInt32 = x := by
  apply Int32.toInt_inj.mp
  rw [Int8.toInt_toInt32, Int32.toInt_toInt8]
  exact Int.bmod_eq_of_le_mul_two (by omega) (by omega)
theorem ck_byteR (x : Int32) : -128 ≤ x.toInt8.toInt32.toInt ∧ x.toInt8.toInt32.toInt ≤ 127 := by
  rw [Int8.toInt_toInt32]
  have h1 := x.toInt8.le_toInt
  have h2 := x.toInt8.toInt_lt
  omega
theorem ck_i2b_ok {f : ck_L} {x : Int32} (hi : ck_gi ν I) (wf : ck_wf I.length f) (hx : x.toInt = ck_ev ν f) : ck_res ν I (ck_i2b I f).1 (ck_i2b I f).2 x.toInt8.toInt32.toInt := by
  have rx := ck_rng32 hi hx
  unfold ck_i2b
  dsimp only
  split
  · rename_i hc
    rw [ck_byteI (by omega) (by omega)]
    exact ck_same hi wf hx.symm
  · exact ck_btw_ok hi (ck_byteR x).1 (ck_byteR x).2
def ck_c (pc : Nat) (i : Instr × Nat) (I : List ck_I) (L : List (Nat × ck_V)) (S : List ck_V) (X : ck_D) (k : Nat × Nat × Nat) : Option (List (Nat × ck_S)) := match i, S with
  | (.idiv, 1), .inl g :: .inl f :: S => if 1 ≤ (ck_rng I g).1 then let r := ck_div I f g; some [(pc + 1, (r.1, L, .inl r.2 :: S, X, k))] else none
  | (.irem, 1), .inl g :: .inl f :: S => if 1 ≤ (ck_rng I g).1 then let r := ck_rem I f g; some [(pc + 1, (r.1, L, .inl r.2 :: S, X, k))] else none
  | (.ineg, 1), .inl f :: S => let r := ck_neg I f; some [(pc + 1, (r.1, L, .inl r.2 :: S, X, k))]
  | (.i2b, 1), .inl f :: S => let r := ck_i2b I f; some [(pc + 1, (r.1, L, .inl r.2 :: S, X, k))]
  | (j, 1), .inl g :: .inl f :: S => match ck_bop j with
    | some o => let r := o.2 I f g; some [(pc + 1, (r.1, L, .inl r.2 :: S, X, k))]
    | none => none
  | _, _ => none
theorem ck_c_ok {i : Instr × Nat} {xs : List (Nat × ck_S)} (hx : p.tables.exec = Jvm.exec) (hb : c.code = cc) (hd : decode cc pc = .ok i) (h : ck_c pc i I L S X (nc, mc, ms) = some xs) (hn : n ≤ I.length) (hG : ck_G D cl st sh A s nL wr ws0 I L S X nc ν ws tys H locs ls vs)
    (K : ∀ x ∈ xs, ck_N p l e R s m args below meth c Q D cl st sh A nL wr ws0 n ν x) : W p l e R s m args below meth c H locs mc ms Q (F0 m pc ls vs) := by
  unfold ck_c at h
  split at h
  · split at h
    · rename_i hp
      cases h
      obtain ⟨v, vs', rfl, ⟨w1, y, rfl, e1⟩, h2⟩ := hG.gs.pop
      obtain ⟨v, vs', rfl, ⟨w2, x, rfl, e2⟩, h4⟩ := h2.pop
      have hy := (ck_rng32 hG.gi e1).1
      exact lv_idiv hx hb hd (fun q => by rw [q] at hy; have : (0 : Int32).toInt = 0 := rfl; omega) (ck_pushv (hG.stk h4) hn (ck_div_ok hG.gi e2 e1 (by omega)) (K _ List.mem_cons_self))
    · cases h
  · split at h
    · rename_i hp
      cases h
      obtain ⟨v, vs', rfl, ⟨w1, y, rfl, e1⟩, h2⟩ := hG.gs.pop
      obtain ⟨v, vs', rfl, ⟨w2, x, rfl, e2⟩, h4⟩ := h2.pop
      have hy := (ck_rng32 hG.gi e1).1
      exact lv_irem hx hb hd (fun q => by rw [q] at hy; have : (0 : Int32).toInt = 0 := rfl; omega) (ck_pushv (hG.stk h4) hn (ck_rem_ok hG.gi e2 e1 (by omega)) (K _ List.mem_cons_self))
    · cases h
  · cases h
    obtain ⟨v, vs', rfl, ⟨w1, x, rfl, e1⟩, h2⟩ := hG.gs.pop
    exact lv_ineg hx hb hd (ck_pushv (hG.stk h2) hn (ck_neg_ok hG.gi w1 e1) (K _ List.mem_cons_self))
  · cases h
    obtain ⟨v, vs', rfl, ⟨w1, x, rfl, e1⟩, h2⟩ := hG.gs.pop
    exact lv_i2b hx hb hd rfl (ck_pushv (hG.stk h2) hn (ck_i2b_ok hG.gi w1 e1) (K _ List.mem_cons_self))
  · split at h
    · rename_i o ho
      cases h
      obtain ⟨v, vs', rfl, ⟨w1, y, rfl, e1⟩, h2⟩ := hG.gs.pop
      obtain ⟨v, vs', rfl, ⟨w2, x, rfl, e2⟩, h4⟩ := h2.pop
      exact ck_bop_row ho hx hb hd (ck_pushv (hG.stk h4) hn (ck_bop_ok ho hG.gi w2 w1 e2 e1) (K _ List.mem_cons_self))
    · cases h
  · cases h
/-- the stack's own -/
def ck_d (pc : Nat) (i : Instr × Nat) (I : List ck_I) (L : List (Nat × ck_V)) (S : List ck_V) (X : ck_D) (k : Nat × Nat × Nat) : Option (List (Nat × ck_S)) := match i, S with
  | (.dup, 1), V :: S => if ck_one V = true then some [(pc + 1, (I, L, V :: V :: S, X, k))] else none
  | (.pop, 1), V :: S => if ck_one V = true then some [(pc + 1, (I, L, S, X, k))] else none
  | (.dup_x1, 1), V :: V' :: S => if ck_one V = true ∧ ck_one V' = true then some [(pc + 1, (I, L, V :: V' :: V :: S, X, k))] else none
  | (.dup2, 1), V :: V' :: S => if ck_one V = true ∧ ck_one V' = true then some [(pc + 1, (I, L, V :: V' :: V :: V' :: S, X, k))] else none
  | _, _ => none
theorem ck_d_ok {i : Instr × Nat} {xs : List (Nat × ck_S)} (hx : p.tables.exec = Jvm.exec) (hb : c.code = cc) (hd : decode cc pc = .ok i) (h : ck_d pc i I L S X (nc, mc, ms) = some xs) (hG : ck_G D cl st sh A s nL wr ws0 I L S X nc ν ws tys H locs ls vs)
    (K : ∀ x ∈ xs, ck_N p l e R s m args below meth c Q D cl st sh A nL wr ws0 n ν x) : W p l e R s m args below meth c H locs mc ms Q (F0 m pc ls vs) := by
  unfold ck_d at h
  split at h
  · split at h
    · rename_i ho
      cases h
      obtain ⟨v, vs', rfl, h1, h2⟩ := hG.gs.pop
      exact lv_dup hx hb hd (ck_one_cat ho h1) (K _ List.mem_cons_self ν ws tys H locs ls _ (fun _ _ => rfl) (hG.stk ⟨h1, h1, h2⟩))
    · cases h
  · split at h
    · rename_i ho
      cases h
      obtain ⟨v, vs', rfl, h1, h2⟩ := hG.gs.pop
      exact lv_pop hx hb hd (ck_one_cat ho h1) (K _ List.mem_cons_self ν ws tys H locs ls _ (fun _ _ => rfl) (hG.stk h2))
    · cases h
  · split at h
    · rename_i ho
      cases h
      obtain ⟨v, vs', rfl, h1, h2⟩ := hG.gs.pop
      obtain ⟨v', vs', rfl, h3, h4⟩ := h2.pop
      exact lv_dup_x1 hx hb hd (ck_one_cat ho.1 h1) (ck_one_cat ho.2 h3) (K _ List.mem_cons_self ν ws tys H locs ls _ (fun _ _ => rfl) (hG.stk ⟨h1, h3, h1, h4⟩))
    · cases h
  · split at h
    · rename_i ho
      cases h
      obtain ⟨v, vs', rfl, h1, h2⟩ := hG.gs.pop
      obtain ⟨v', vs', rfl, h3, h4⟩ := h2.pop
      exact lv_dup2_11 hx hb hd (ck_one_cat ho.1 h1) (ck_one_cat ho.2 h3) (K _ List.mem_cons_self ν ws tys H locs ls _ (fun _ _ => rfl) (hG.stk ⟨h1, h3, h1, h3, h4⟩))
    · cases h
  · cases h
end CKA
end
section
/-! THE TABLE RUN, 3: branches, fields, rows -/
section CKB
variable {p : Program} {l : Launch} {e : Env} {R : Room} {s : State} {m : MethodId} {args : Array Value} {below : List Frame} {meth : Method} {c : Code} {Q : State → Prop}
variable {cc : ByteArray} {D : va_G} {cl : List vw_C} {st : Nat → Nat} {sh : List ck_Sh} {A : Nat → Prop} {nL : Nat} {wr : List (Nat × Nat)} {ws0 : va_W}
variable {I I' : List ck_I} {L : List (Nat × ck_V)} {S S' : List ck_V} {X : ck_D} {nc mc ms n : Nat} {ν ν' : Nat → Int} {ws : va_W} {tys : List (ClassId × FieldType)} {H : Heap} {locs : List Loc} {ls : Array Slot} {vs vs' : List Value} {pc : Nat}
def ck_cref (o : Jvm.ClassFile.Cond) (I : List ck_I) (f g : ck_L) : Option (List ck_I) := match o with
  | .eq => ck_eq2 I f g
  | .ne => ck_ne2 I f g
  | .lt => ck_lt2 I f g
  | .ge => ck_le2 I g f
  | .gt => ck_lt2 I g f
  | .le => ck_le2 I f g
def ck_cneg (o : Jvm.ClassFile.Cond) : Jvm.ClassFile.Cond := match o with
  | .eq => .ne
  | .ne => .eq
  | .lt => .ge
  | .ge => .lt
  | .gt => .le
  | .le => .gt
def ck_chold (o : Jvm.ClassFile.Cond) (x y : Int32) : Prop := match o with
  | .eq => x.toInt = y.toInt
  | .ne => x.toInt ≠ y.toInt
  | .lt => x.toInt < y.toInt
  | .ge => y.toInt ≤ x.toInt
  | .gt => y.toInt < x.toInt
  | .le => x.toInt ≤ y.toInt
theorem ck_cref_ok {o : Jvm.ClassFile.Cond} {f g : ck_L} {x y : Int32} (h : ck_gi ν I) (hx : x.toInt = ck_ev ν f) (hy : y.toInt = ck_ev ν g) (hc : ck_chold o x y) : ∃ I', ck_cref o I f g = some I' ∧ ck_gi ν I' ∧ I'.length = I.length := by
  cases o
  · exact ck_eq2_ok h hx hy hc
  · exact ck_ne2_ok h hx hy hc
  · exact ck_lt2_ok h hx hy hc
  · exact ck_le2_ok h hy hx hc
  · exact ck_lt2_ok h hy hx hc
  · exact ck_le2_ok h hx hy hc
theorem ck_icmp_row {o : Jvm.ClassFile.Cond} {off : Int} {tgt : Nat} {x y : Int32} (hx : p.tables.exec = Jvm.exec) (hb : c.code = cc) (hd : decode cc pc = .ok (.if_icmp o off, 3)) (ht : (pc : Int) + off = (tgt : Int))
    (kt : ck_chold o x y → W p l e R s m args below meth c H locs mc ms Q (F0 m tgt ls vs)) (kf : ck_chold (ck_cneg o) x y → W p l e R s m args below meth c H locs mc ms Q (F0 m (pc + 3) ls vs)) : W p l e R s m args below meth c H locs mc ms Q (F0 m pc ls (.int y :: .int x :: vs)) := by
  cases o
  · exact lv_icmp_eq hx hb hd ht (fun q => kt (by rw [q]; exact rfl)) (fun q => kf (fun z => q (Int32.toInt_inj.mp z)))
  · exact lv_icmp_ne hx hb hd ht (fun q => kt (fun z => q (Int32.toInt_inj.mp z))) (fun q => kf (by rw [q]; exact rfl))
  · exact lv_icmp_lt hx hb hd ht (fun q => kt (Int32.lt_iff_toInt_lt.mp q)) (fun q => kf (Int.not_lt.mp (fun z => q (Int32.lt_iff_toInt_lt.mpr z))))
  · exact lv_icmp_ge hx hb hd ht (fun q => kt (Int32.le_iff_toInt_le.mp q)) (fun q => kf (Int.not_le.mp (fun z => q (Int32.le_iff_toInt_le.mpr z))))
  · exact lv_icmp_gt hx hb hd ht (fun q => kt (Int32.lt_iff_toInt_lt.mp q)) (fun q => kf (Int.not_lt.mp (fun z => q (Int32.lt_iff_toInt_lt.mpr z))))
  · exact lv_icmp_le hx hb hd ht (fun q => kt (Int32.le_iff_toInt_le.mp q)) (fun q => kf (Int.not_le.mp (fun z => q (Int32.le_iff_toInt_le.mpr z))))
theorem ck_if_row {o : Jvm.ClassFile.Cond} {off : Int} {tgt : Nat} {x : Int32} (hx : p.tables.exec = Jvm.exec) (hb : c.code = cc) (hd : decode cc pc = .ok (.ifCond o off, 3)) (ht : (pc : Int) + off = (tgt : Int))
    (kt : ck_chold o x 0 → W p l e R s m args below meth c H locs mc ms Q (F0 m tgt ls vs)) (kf : ck_chold (ck_cneg o) x 0 → W p l e R s m args below meth c H locs mc ms Q (F0 m (pc + 3) ls vs)) : W p l e R s m args below meth c H locs mc ms Q (F0 m pc ls (.int x :: vs)) := by
  cases o
  · exact lv_if_eq hx hb hd ht (fun q => kt (by rw [q]; exact rfl)) (fun q => kf (fun z => q (Int32.toInt_inj.mp z)))
  · exact lv_if_ne hx hb hd ht (fun q => kt (fun z => q (Int32.toInt_inj.mp z))) (fun q => kf (by rw [q]; exact rfl))
  · exact lv_if_lt hx hb hd ht (fun q => kt (Int32.lt_iff_toInt_lt.mp q)) (fun q => kf (Int.not_lt.mp (fun z => q (Int32.lt_iff_toInt_lt.mpr z))))
  · exact lv_if_ge hx hb hd ht (fun q => kt (Int32.le_iff_toInt_le.mp q)) (fun q => kf (Int.not_le.mp (fun z => q (Int32.le_iff_toInt_le.mpr z))))
  · exact lv_if_gt hx hb hd ht (fun q => kt (Int32.lt_iff_toInt_lt.mp q)) (fun q => kf (Int.not_lt.mp (fun z => q (Int32.lt_iff_toInt_lt.mpr z))))
  · exact lv_if_le hx hb hd ht (fun q => kt (Int32.le_iff_toInt_le.mp q)) (fun q => kf (Int.not_le.mp (fun z => q (Int32.le_iff_toInt_le.mpr z))))
def ck_br (J : Option (List ck_I)) (t : Nat) (L : List (Nat × ck_V)) (S : List ck_V) (X : ck_D) (k : Nat × Nat × Nat) : List (Nat × ck_S) := match J with
  | some I => [(t, (I, L, S, X, k))]
  | none => []
theorem ck_br_ok {J : Option (List ck_I)} {t : Nat} (hG : ck_G D cl st sh A s nL wr ws0 I L S X nc ν ws tys H locs ls vs) (hJ : ∃ I', J = some I' ∧ ck_gi ν I' ∧ I'.length = I.length)
    (K : ∀ x ∈ ck_br J t L S X (nc, mc, ms), ck_N p l e R s m args below meth c Q D cl st sh A nL wr ws0 n ν x) : W p l e R s m args below meth c H locs mc ms Q (F0 m t ls vs) := by
  obtain ⟨I', rfl, h1, h2⟩ := hJ
  exact K _ List.mem_cons_self ν ws tys H locs ls vs (fun _ _ => rfl) (hG.cut h2 h1)
def ck_tg (pc : Nat) (off : Int) : Nat := ((pc : Int) + off).toNat
theorem ck_tg_ok {pc : Nat} {off : Int} (h : 0 ≤ (pc : Int) + off) : (pc : Int) + off = (ck_tg pc off : Int) := by unfold ck_tg; omega
def ck_sw (pc : Nat) (lo : Int) (I : List ck_I) (f : ck_L) (L : List (Nat × ck_V)) (S : List ck_V) (X : ck_D) (k : Nat × Nat × Nat) : Nat → List Int → List (Nat × ck_S)
  | _, [] => []
  | j, o :: os => ck_br ((ck_ge I f (lo + j)).bind fun J => ck_le J f (lo + j)) (ck_tg pc o) L S X k ++ ck_sw pc lo I f L S X k (j + 1) os
theorem ck_sw_in {lo : Int} {f : ck_L} {k : Nat × Nat × Nat} {o : Int} : ∀ (os : List Int) (b j : Nat), os[j]? = some o → ∀ x, x ∈ ck_br ((ck_ge I f (lo + ((b + j : Nat) : Int))).bind fun J => ck_le J f (lo + ((b + j : Nat) : Int))) (ck_tg pc o) L S X k → x ∈ ck_sw pc lo I f L S X k b os
  | [], _, _, h, _, _ => by simp at h
  | a :: os, b, 0, h, x, hx => by
    have e : a = o := by simpa using h
    subst e
    exact List.mem_append_left _ hx
  | a :: os, b, j + 1, h, x, hx => by
    refine List.mem_append_right _ (ck_sw_in os (b + 1) j (by simpa using h) x ?_)
    have e : b + 1 + j = b + (j + 1) := by omega
    rw [e]; exact hx
def ck_e (pc : Nat) (i : Instr × Nat) (I : List ck_I) (L : List (Nat × ck_V)) (S : List ck_V) (X : ck_D) (k : Nat × Nat × Nat) : Option (List (Nat × ck_S)) := match i, S with
  | (.if_icmp o off, 3), .inl g :: .inl f :: S => if 0 ≤ (pc : Int) + off then some (ck_br (ck_cref o I f g) (ck_tg pc off) L S X k ++ ck_br (ck_cref (ck_cneg o) I f g) (pc + 3) L S X k) else none
  | (.ifCond o off, 3), .inl f :: S => if 0 ≤ (pc : Int) + off then some (ck_br (ck_cref o I f (ck_k 0)) (ck_tg pc off) L S X k ++ ck_br (ck_cref (ck_cneg o) I f (ck_k 0)) (pc + 3) L S X k) else none
  | (.goto off, 3), S => if 0 ≤ (pc : Int) + off then some [(ck_tg pc off, (I, L, S, X, k))] else none
  | (.ifnull off, 3), .inr (1, _) :: S => if 0 ≤ (pc : Int) + off then some [(ck_tg pc off, (I, L, S, X, k))] else none
  | (.ifnull _, 3), .inr (0, _) :: S => some [(pc + 3, (I, L, S, X, k))]
  | (.ifnonnull _, 3), .inr (1, _) :: S => some [(pc + 3, (I, L, S, X, k))]
  | (.ifnonnull off, 3), .inr (0, _) :: S => if 0 ≤ (pc : Int) + off then some [(ck_tg pc off, (I, L, S, X, k))] else none
  | (.tableswitch dflt lo hi offs, _), .inl f :: S => if (offs.toList.length : Int) = hi - lo + 1 ∧ 0 ≤ (pc : Int) + dflt ∧ offs.toList.all (fun o => decide (0 ≤ (pc : Int) + o)) = true then some (ck_br (ck_le I f (lo - 1)) (ck_tg pc dflt) L S X k ++ (ck_br (ck_ge I f (hi + 1)) (ck_tg pc dflt) L S X k ++ ck_sw pc lo I f L S X k 0 offs.toList)) else none
  | _, _ => none
theorem ck_e_ok {i : Instr × Nat} {xs : List (Nat × ck_S)} (hx : p.tables.exec = Jvm.exec) (hb : c.code = cc) (hd : decode cc pc = .ok i) (h : ck_e pc i I L S X (nc, mc, ms) = some xs) (hG : ck_G D cl st sh A s nL wr ws0 I L S X nc ν ws tys H locs ls vs)
    (K : ∀ x ∈ xs, ck_N p l e R s m args below meth c Q D cl st sh A nL wr ws0 n ν x) : W p l e R s m args below meth c H locs mc ms Q (F0 m pc ls vs) := by
  unfold ck_e at h
  split at h
  · split at h
    · rename_i ho
      cases h
      obtain ⟨v, vs', rfl, ⟨w1, y, rfl, e1⟩, h2⟩ := hG.gs.pop
      obtain ⟨v, vs', rfl, ⟨w2, x, rfl, e2⟩, h4⟩ := h2.pop
      exact ck_icmp_row hx hb hd (ck_tg_ok ho) (fun q => ck_br_ok (hG.stk h4) (ck_cref_ok hG.gi e2 e1 q) (fun x hx => K x (List.mem_append_left _ hx))) (fun q => ck_br_ok (hG.stk h4) (ck_cref_ok hG.gi e2 e1 q) (fun x hx => K x (List.mem_append_right _ hx)))
    · cases h
  · split at h
    · rename_i ho
      cases h
      obtain ⟨v, vs', rfl, ⟨w1, x, rfl, e1⟩, h2⟩ := hG.gs.pop
      have e0 : (0 : Int32).toInt = ck_ev ν (ck_k 0) := by simp [ck_ev, ck_k]
      exact ck_if_row hx hb hd (ck_tg_ok ho) (fun q => ck_br_ok (hG.stk h2) (ck_cref_ok hG.gi e1 e0 q) (fun x hx => K x (List.mem_append_left _ hx))) (fun q => ck_br_ok (hG.stk h2) (ck_cref_ok hG.gi e1 e0 q) (fun x hx => K x (List.mem_append_right _ hx)))
    · cases h
  · split at h
    · rename_i ho
      cases h
      exact lv_goto hx hb hd (ck_tg_ok ho) (K _ List.mem_cons_self ν ws tys H locs ls vs (fun _ _ => rfl) hG)
    · cases h
  · split at h
    · rename_i ho
      cases h
      obtain ⟨v, vs', rfl, h1, h2⟩ := hG.gs.pop
      have e1 : v = .null := h1
      subst e1
      exact lv_ifnullN hx hb hd (ck_tg_ok ho) (K _ List.mem_cons_self ν ws tys H locs ls _ (fun _ _ => rfl) (hG.stk h2))
    · cases h
  · cases h
    obtain ⟨v, vs', rfl, ⟨q, h1, rfl⟩, h2⟩ := hG.gs.pop
    exact lv_ifnull hx hb hd (K _ List.mem_cons_self ν ws tys H locs ls _ (fun _ _ => rfl) (hG.stk h2))
  · cases h
    obtain ⟨v, vs', rfl, h1, h2⟩ := hG.gs.pop
    have e1 : v = .null := h1
    subst e1
    exact lv_ifnonnullN hx hb hd (K _ List.mem_cons_self ν ws tys H locs ls _ (fun _ _ => rfl) (hG.stk h2))
  · split at h
    · rename_i ho
      cases h
      obtain ⟨v, vs', rfl, ⟨q, h1, rfl⟩, h2⟩ := hG.gs.pop
      exact lv_ifnonnull hx hb hd (ck_tg_ok ho) (K _ List.mem_cons_self ν ws tys H locs ls _ (fun _ _ => rfl) (hG.stk h2))
    · cases h
  · split at h
    · rename_i dflt lo hi offs len f S' ho
      obtain ⟨o1, o2, o3⟩ := ho
      cases h
      obtain ⟨v, vs', rfl, ⟨w1, x, rfl, e1⟩, h2⟩ := hG.gs.pop
      rcases Int.lt_or_le x.toInt lo with q | q
      · exact lv_tableOut hx hb hd (Or.inl q) (ck_tg_ok o2) (ck_br_ok (hG.stk h2) (ck_le_ok hG.gi (by omega)) (fun x hx => K x (List.mem_append_left _ hx)))
      · rcases Int.lt_or_le hi x.toInt with q2 | q2
        · exact lv_tableOut hx hb hd (Or.inr q2) (ck_tg_ok o2) (ck_br_ok (hG.stk h2) (ck_ge_ok hG.gi (by omega)) (fun x hx => K x (List.mem_append_right _ (List.mem_append_left _ hx))))
        · have hj : (x.toInt - lo).toNat < offs.toList.length := by omega
          have hg : offs.toList[(x.toInt - lo).toNat]? = some offs.toList[(x.toInt - lo).toNat] := List.getElem?_eq_getElem hj
          have ht := ck_tg_ok (of_decide_eq_true (List.all_eq_true.mp o3 _ (List.getElem_mem hj)))
          have ev : ck_ev ν f = lo + ((0 + (x.toInt - lo).toNat : Nat) : Int) := by rw [← e1]; omega
          refine lv_tableIn hx hb hd (by omega) (by omega) (by rw [← Array.getElem?_toList]; exact hg) ht (ck_br_ok (hG.stk h2) ?_ (fun x hx => K x (List.mem_append_right _ (List.mem_append_right _ (ck_sw_in _ 0 _ hg x hx)))))
          obtain ⟨J, j1, j2, j3⟩ := ck_ge_ok (f := f) (c := lo + ((0 + (x.toInt - lo).toNat : Nat) : Int)) hG.gi (by omega)
          obtain ⟨J2, k1, k2, k3⟩ := ck_le_ok (f := f) (c := lo + ((0 + (x.toInt - lo).toNat : Nat) : Int)) j2 (by omega)
          exact ⟨J2, by rw [j1]; exact k1, k2, k3.trans j3⟩
    · cases h
  · cases h
end CKB
end
section
/-! THE TABLE RUN, 4: fields and rows -/
section CKC
variable {p : Program} {l : Launch} {e : Env} {R : Room} {s : State} {m : MethodId} {args : Array Value} {below : List Frame} {meth : Method} {c : Code} {Q : State → Prop}
variable {cc : ByteArray} {D : va_G} {cl : List vw_C} {st : Nat → Nat} {sh : List ck_Sh} {A : Nat → Prop} {nL : Nat} {wr : List (Nat × Nat)} {ws0 : va_W}
variable {I I' : List ck_I} {L : List (Nat × ck_V)} {S S' : List ck_V} {X : ck_D} {nc mc ms n : Nat} {ν ν' : Nat → Int} {ws : va_W} {tys : List (ClassId × FieldType)} {H : Heap} {locs : List Loc} {ls : Array Slot} {vs vs' : List Value} {pc : Nat}
variable {Ts : List Cond} {own : String}
/-- a link to a field: pool number, object kind, field, its type (char: it is only read here), whether it is written once -/
abbrev ck_FL : Type := Nat × Nat × Nat × FieldType × Bool
def ck_okF (cl : List vw_C) (Ts : List Cond) (own : String) (q : ck_FL) : Prop := ∃ (C : String) (T : u_T) (N : Nat), cl[q.2.1]? = some (C, T, N) ∧ q.2.2.1 < N ∧ Cond.fieldLink own q.1 (T q.2.2.1).1 (T q.2.2.1).2.1 (T q.2.2.1).2.2.1 ∈ Ts ∧ (q.2.2.2.1 = .char ∨ (parseFieldDescriptor (T q.2.2.1).2.2.1 = some q.2.2.2.1 ∧ (T q.2.2.1).2.2.2 = q.2.2.2.2 ∧ (q.2.2.2.2 = true → (T q.2.2.1).1 = own)))
def ck_okC (cl : List vw_C) (Ts : List Cond) : Prop := ∀ (ci : Nat) (C : String) (T : u_T) (N : Nat), cl[ci]? = some (C, T, N) → (∀ w ∈ u_ws C T N, w ∈ Ts) ∧ (∃ ty : Nat → FieldType, ∀ k, k < N → parseFieldDescriptor (T k).2.2.1 = some (ty k)) ∧ (∀ a, a < N → ∀ b, b < N → a ≠ b → (T a).2.1 ≠ (T b).2.1)
def ck_num (I : List ck_I) (z : Int × Int) : List ck_I × ck_L := if z.1 = z.2 then (I, ck_k z.1) else ck_btw I z.1 z.2
theorem ck_num_ok {z : Int × Int} {x : Int} (h : ck_gi ν I) (h1 : z.1 ≤ x) (h2 : x ≤ z.2) : ck_res ν I (ck_num I z).1 (ck_num I z).2 x := by
  unfold ck_num
  split
  · have e : x = z.1 := by omega
    rw [e]; exact ck_k_ok h _
  · exact ck_btw_ok h h1 h2
def ck_pushF (I : List ck_I) (F : ck_F) : Option (List ck_I × ck_V) := match F with
  | .inl z => some ((ck_num I z).1, .inl (ck_num I z).2)
  | .inr q => if ck_one (.inr q) = true then some (I, .inr q) else none
theorem ck_pushF_ok {F : ck_F} {v : Value} {r : List ck_I × ck_V} (hG : ck_G D cl st sh A s nL wr ws0 I L S X nc ν ws tys H locs ls vs) (hn : n ≤ I.length) (hv : ck_fv st ws F v) (h : ck_pushF I F = some r) (K : ck_N p l e R s m args below meth c Q D cl st sh A nL wr ws0 n ν (pc, (r.1, L, r.2 :: S, X, nc, mc, ms))) : W p l e R s m args below meth c H locs mc ms Q (F0 m pc ls (v :: vs)) := by
  rcases F with z | q
  · cases h
    obtain ⟨x, rfl, h1, h2⟩ := hv
    exact ck_pushv hG hn (ck_num_ok hG.gi h1 h2) K
  · by_cases ho : ck_one (.inr q) = true
    · rw [ck_pushF, if_pos ho] at h
      cases h
      exact ck_pushV (V := .inr q) hG hv K
    · rw [ck_pushF, if_neg ho] at h
      cases h
def ck_toF (I : List ck_I) (V : ck_V) : ck_F := match V with
  | .inl f => .inl (ck_rng I f)
  | .inr q => .inr q
theorem ck_toF_ok {V : ck_V} {v : Value} (hi : ck_gi ν I) (h : ck_gv ν st ws I.length V v) : ck_fv st ws (ck_toF I V) v := by
  cases V with
  | inl f =>
    obtain ⟨-, x, rfl, h1⟩ := h
    exact ⟨x, rfl, ck_rng32 hi h1⟩
  | inr q => exact h
def ck_tyok (ty : FieldType) (V : ck_V) : Bool := match ty, V with
  | .int, .inl _ => true
  | .object _, .inr q => ck_one (.inr q)
  | .array _, .inr q => ck_one (.inr q)
  | _, _ => false
theorem ck_tychar {V : ck_V} (h : ck_tyok .char V = true) : False := by
  cases V <;> cases h
theorem ck_tyok_ok {ty : FieldType} {V : ck_V} {v : Value} (h : ck_tyok ty V = true) (hv : ck_gv ν st ws I.length V v) : narrow ty v = v ∧ fits ty v = true := by
  unfold ck_tyok at h
  split at h
  · obtain ⟨-, x, rfl, -⟩ := hv
    exact ⟨rfl, rfl⟩
  · rcases ck_refs h hv with rfl | ⟨a, rfl⟩ <;> exact ⟨rfl, rfl⟩
  · rcases ck_refs h hv with rfl | ⟨a, rfl⟩ <;> exact ⟨rfl, rfl⟩
  · cases h
def ck_obj (sh : List ck_Sh) (i : Nat) : Option (Nat × Nat) := match sh[i]? with
  | some (.inl o) => some o
  | _ => none
def ck_row (sh : List ck_Sh) (i : Nat) : Option (FieldType × Nat) := match sh[i]? with
  | some (.inr r) => some r
  | _ => none
theorem ck_obj_ok {i : Nat} {o : Nat × Nat} {q : Nat × va_E} (h : ck_obj sh i = some o) (hw : ck_w sh tys ws nc) (hq : ws[i]? = some q) : ∃ fs : List Value, q.2 = .inr (o.1, fs) ∧ fs.length = o.2 := by
  obtain ⟨S, h1, h2⟩ := hw.2 i q hq
  unfold ck_obj at h
  rw [h1] at h
  rcases S with o' | r
  · cases h
    obtain ⟨a, e⟩ := q
    rcases e with x | ⟨ci, fs⟩
    · exact h2.elim
    · obtain ⟨h3, h4⟩ := h2
      exact ⟨fs, by rw [← h3], h4⟩
  · cases h
theorem ck_row_ok {i : Nat} {r : FieldType × Nat} {q : Nat × va_E} (h : ck_row sh i = some r) (hw : ck_w sh tys ws nc) (hq : ws[i]? = some q) : ∃ (cA : ClassId) (cn : ck_Cn) (t : Nat), q.2 = .inl (cA, r.2, cn) ∧ tys[t]? = some (cA, r.1) ∧ ck_cnt r.1 cn := by
  obtain ⟨S, h1, h2⟩ := hw.2 i q hq
  unfold ck_row at h
  rw [h1] at h
  rcases S with o' | r
  · cases h
  · cases h
    obtain ⟨a, e⟩ := q
    rcases e with ⟨cA, n, cn⟩ | x
    · obtain ⟨h3, ⟨t, h4⟩, h5⟩ := h2
      exact ⟨cA, cn, t, by rw [← h3], h4, h5⟩
    · exact h2.elim
theorem ck_look_ok {i j : Nat} {F : ck_F} {q : Nat × va_E} {v : Value} (h : ck_look X i j = some F) (hX : ck_gd st ws X) (hq : ws[i]? = some q) (hv : ck_slot q.2 j v) : ck_fv st ws F v := by
  obtain ⟨q', h1, h2⟩ := hX _ (ck_look_mem h)
  have e : q' = q := Option.some.inj (h1.symm.trans hq)
  subst e
  exact h2 v hv
def ck_fld (fl : List ck_FL) (x : Nat) : Option ck_FL := fl.find? (fun q => q.1 == x)
theorem ck_fld_ok {fl : List ck_FL} {x : Nat} {q : ck_FL} (h : ck_fld fl x = some q) (hF : ∀ q ∈ fl, ck_okF cl Ts own q) : q.1 = x ∧ ck_okF cl Ts own q := ⟨by simpa using List.find?_some h, hF _ (List.mem_of_find?_eq_some h)⟩
def ck_putX (X : ck_D) (i j : Nat) (F : ck_F) : ck_D := ((i, j), F) :: X.filter (fun x => !(x.1.1 == i && x.1.2 == j))
def ck_f (fl : List ck_FL) (sh : List ck_Sh) (wr : List (Nat × Nat)) (ini : Bool) (pc : Nat) (i : Instr × Nat) (I : List ck_I) (L : List (Nat × ck_V)) (S : List ck_V) (X : ck_D) (k : Nat × Nat × Nat) : Option (List (Nat × ck_S)) := match i, S with
  | (.getfield x, 3), .inr (0, i) :: S => match ck_fld fl x, ck_obj sh i with
    | some q, some o => if o.1 = q.2.1 ∧ q.2.2.1 < o.2 then (match ck_look X i (q.2.2.1 + 1) with
      | some F => (match ck_pushF I F with
        | some r => some [(pc + 3, (r.1, L, r.2 :: S, X, k))]
        | none => none)
      | none => none) else none
    | _, _ => none
  | (.putfield x, 3), V :: .inr (0, i) :: S => match ck_fld fl x, ck_obj sh i with
    | some q, some o => if o.1 = q.2.1 ∧ q.2.2.1 < o.2 ∧ ck_tyok q.2.2.2.1 V = true ∧ wr.contains (i, q.2.2.1 + 1) = true ∧ (q.2.2.2.2 = true → ini = true) then some [(pc + 3, (I, L, S, ck_putX X i (q.2.2.1 + 1) (ck_toF I V), k))] else none
    | _, _ => none
  | _, _ => none
theorem ck_setobj {i a ci k : Nat} {fs : List Value} {v : Value} {F : ck_F} (hG : ck_G D cl st sh A s nL wr ws0 I L S X nc ν ws tys H locs ls vs) (hi : ws[i]? = some (a, .inr (ci, fs))) (hk : k < fs.length) (hv : ck_fv st ws F v) (hwr : (i, k + 1) ∈ wr) {H1 : Heap} {locs1 : List Loc} (hP : va_P D cl (ws.set i (a, .inr (ci, fs.set k v))) H1) (hD : va_D A (ws.set i (a, .inr (ci, fs.set k v)))) (hS : va_S A s.heap H1 locs1) : ck_G D cl st sh A s nL wr ws0 I L S (ck_putX X i (k + 1) F) nc ν (ws.set i (a, .inr (ci, fs.set k v))) tys H1 locs1 ls vs := by
  obtain ⟨h1, h2, h3, h4, h5, h6, h7, h8, h9, h10⟩ := hG
  have ho := ck_on.set (e' := .inr (ci, fs.set k v)) hi
  have hfr : ck_fr wr ws (ws.set i (a, .inr (ci, fs.set k v))) := ck_fr.set hi (fun j hj h0 w hw => by
    match j, hj, hw with
    | 0, _, hw => exact hw
    | j + 1, hj, hw =>
      have hne : k ≠ j := fun z => hj (by rw [← z]; exact hwr)
      have hw' : (fs.set k v)[j]? = some w := hw
      rw [List.getElem?_set_ne hne] at hw'
      exact hw')
  refine ⟨h1, h2.on ho (Nat.le_refl _) (fun _ _ => rfl), h3.on ho (Nat.le_refl _) (fun _ _ => rfl), ?_, h5.set hi ?_, h6, hP, hD, hS, h10.trans hfr⟩
  · intro x hx
    rcases List.mem_cons.mp hx with rfl | hx
    · refine ⟨(a, .inr (ci, fs.set k v)), List.getElem?_set_self (List.getElem?_eq_some_iff.mp hi).1, fun w hw => ?_⟩
      have hw' : (fs.set k v)[k]? = some w := hw
      rw [List.getElem?_set_self hk] at hw'
      have e : v = w := Option.some.inj hw'
      rw [← e]; exact hv.on ho
    · obtain ⟨g1, g2⟩ := List.mem_filter.mp hx
      obtain ⟨q, hq, hv'⟩ := h4 x g1
      by_cases hc : i = x.1.1
      · have hne : x.1.2 ≠ k + 1 := fun z => by simp [hc.symm, z] at g2
        rw [← hc] at hq
        have e : q = (a, .inr (ci, fs)) := Option.some.inj (hq.symm.trans hi)
        subst e
        refine ⟨(a, .inr (ci, fs.set k v)), by rw [← hc]; exact List.getElem?_set_self (List.getElem?_eq_some_iff.mp hi).1, fun w hw => (hv' w ?_).on ho⟩
        match hj : x.1.2, hw with
        | 0, hw => exact hw.elim
        | j + 1, hw =>
          have hne2 : k ≠ j := fun z => hne (by rw [hj, z])
          have hw' : (fs.set k v)[j]? = some w := hw
          rw [List.getElem?_set_ne hne2] at hw'
          exact hw'
      · exact ⟨q, by rw [List.getElem?_set_ne hc]; exact hq, fun w hw => (hv' w hw).on ho⟩
  · intro S hf
    rcases S with o | r
    · exact ⟨hf.1, by show (fs.set k v).length = _; rw [List.length_set]; exact hf.2⟩
    · exact hf.elim
theorem ck_f_ok {fl : List ck_FL} {ini : Bool} {i : Instr × Nat} {xs : List (Nat × ck_S)} (hx : p.tables.exec = Jvm.exec) (hb : c.code = cc) (hown : s.vm.findClass own = some m.cls) (hts : ∀ w ∈ Ts, w.before args s = true) (hC : ck_okC cl Ts) (hF : ∀ q ∈ fl, ck_okF cl Ts own q) (hini : ini = true → meth.name = "<init>") (hd : decode cc pc = .ok i) (h : ck_f fl sh wr ini pc i I L S X (nc, mc, ms) = some xs) (hn : n ≤ I.length) (hG : ck_G D cl st sh A s nL wr ws0 I L S X nc ν ws tys H locs ls vs)
    (K : ∀ x ∈ xs, ck_N p l e R s m args below meth c Q D cl st sh A nL wr ws0 n ν x) : W p l e R s m args below meth c H locs mc ms Q (F0 m pc ls vs) := by
  unfold ck_f at h
  split at h
  · split at h
    · rename_i q o hq ho
      split at h
      · rename_i hc
        split at h
        · rename_i F hF'
          split at h
          · rename_i r hr
            cases h
            obtain ⟨v, vs', rfl, ⟨a, h1, rfl⟩, h2⟩ := hG.gs.pop
            obtain ⟨fs, h3, h4⟩ := ck_obj_ok ho hG.2.2.2.2.1 h1
            obtain ⟨e1, C, T, N, g1, g2, g3, g4⟩ := ck_fld_ok hq hF
            obtain ⟨a, e⟩ := a
            simp only at h3
            subst h3
            rw [e1] at g3
            rw [hc.1] at h1
            have hk : q.2.2.1 < fs.length := by omega
            refine va_get hx hb hts (hC _ _ _ _ g1).1 hown hG.2.2.2.2.2.1 hG.2.2.2.2.2.2.1 _ h1 g1 _ g2 (hts _ g3) (fun _ z => z) (List.getElem?_eq_getElem hk) hd ?_
            exact ck_pushF_ok (hG.stk h2) hn (ck_look_ok hF' hG.2.2.2.1 h1 (List.getElem?_eq_getElem hk)) hr (K _ List.mem_cons_self)
          · cases h
        · cases h
      · cases h
    · cases h
  · split at h
    · rename_i q o hq ho
      split at h
      · rename_i hc
        obtain ⟨c1, c2, c3, c4, c5⟩ := hc
        cases h
        obtain ⟨v, vs', rfl, hv, h2⟩ := hG.gs.pop
        obtain ⟨w, vs2, rfl, ⟨a, h1, rfl⟩, h5⟩ := h2.pop
        obtain ⟨fs, h3, h4⟩ := ck_obj_ok ho hG.2.2.2.2.1 h1
        obtain ⟨e1, C, T, N, g1, g2, g3, g456⟩ := ck_fld_ok hq hF
        obtain ⟨g4, g5, g6⟩ := g456.resolve_left (fun z => by rw [z] at c3; exact ck_tychar c3)
        obtain ⟨a, e⟩ := a
        simp only at h3
        subst h3
        rw [e1] at g3
        rw [c1] at h1
        have hk : q.2.2.1 < fs.length := by omega
        obtain ⟨t1, t2⟩ := ck_tyok_ok c3 hv
        obtain ⟨b1, ⟨ty0, b2⟩, b3⟩ := hC _ _ _ _ g1
        have hwr : (_, q.2.2.1 + 1) ∈ wr := List.contains_iff_mem.mp c4
        have KK := fun (H1 : Heap) (locs1 : List Loc) hP hD hS => K _ List.mem_cons_self ν (ws.set _ (a, .inr (q.2.1, fs.set q.2.2.1 v))) tys H1 locs1 ls vs2 (fun _ _ => rfl) (ck_setobj (hG.stk h5) h1 hk (ck_toF_ok hG.gi hv) hwr hP hD hS)
        cases hfin : q.2.2.2.2 with
        | false => exact va_put hx hb hts b1 ty0 b2 b3 hown hG.2.2.2.2.2.1 hG.2.2.2.2.2.2.1 hG.2.2.2.2.2.2.2.1 hG.2.2.2.2.2.2.2.2.1 _ h1 g1 _ g2 (hts _ g3) (fun _ z => z) (g5.trans hfin) g4 t1 t2 hk hd KK
        | true => exact va_putF hx hb hts b1 ty0 b2 b3 hown hG.2.2.2.2.2.1 hG.2.2.2.2.2.2.1 hG.2.2.2.2.2.2.2.1 hG.2.2.2.2.2.2.2.2.1 _ h1 g1 _ g2 (hts _ g3) (fun _ z => z) (g5.trans hfin) (hini (c5 hfin)) (g6 hfin) g4 t1 t2 hk hd KK
      · cases h
    · cases h
  · cases h
end CKC
end
section
/-! THE TABLE RUN, 5: rows read and written -/
section CKR
variable {p : Program} {l : Launch} {e : Env} {R : Room} {s : State} {m : MethodId} {args : Array Value} {below : List Frame} {meth : Method} {c : Code} {Q : State → Prop}
variable {cc : ByteArray} {D : va_G} {cl : List vw_C} {st : Nat → Nat} {sh : List ck_Sh} {A : Nat → Prop} {nL : Nat} {wr : List (Nat × Nat)} {ws0 : va_W}
variable {I I' : List ck_I} {L : List (Nat × ck_V)} {S S' : List ck_V} {X : ck_D} {nc mc ms n : Nat} {ν ν' : Nat → Int} {ws : va_W} {tys : List (ClassId × FieldType)} {H : Heap} {locs : List Loc} {ls : Array Slot} {vs vs' : List Value} {pc : Nat}
def ck_inR (I : List ck_I) (f : ck_L) (n : Nat) : Bool := decide (0 ≤ (ck_rng I f).1) && decide ((ck_rng I f).2 < (n : Int))
theorem ck_inR_ok {f : ck_L} {N : Nat} {x : Int32} (h : ck_inR I f N = true) (hi : ck_gi ν I) (hx : x.toInt = ck_ev ν f) : vp_in x N ∧ x.toNatClampNeg < N ∧ x.toNatClampNeg = x.toInt.toNat ∧ 0 ≤ x.toInt := by
  have rx := ck_rng32 hi hx
  simp only [ck_inR, Bool.and_eq_true, decide_eq_true_eq] at h
  have e : x.toNatClampNeg = x.toInt.toNat := rfl
  refine ⟨vp_in_iff.mpr ⟨by omega, by omega⟩, by omega, e, by omega⟩
def ck_lookA (X : ck_D) (i : Nat) (f : ck_L) : Option ck_F := if f.2.1 = 0 then (match ck_look X i (f.2.2.toNat + 1) with
  | some F => some F
  | none => ck_look X i 0) else ck_look X i 0
theorem ck_lookA_ok {i N j : Nat} {f : ck_L} {F : ck_F} {q : Nat × va_E} {cA : ClassId} {cn : ck_Cn} {x : Int32} (h : ck_lookA X i f = some F) (hX : ck_gd st ws X) (hq : ws[i]? = some q) (e : q.2 = .inl (cA, N, cn)) (hx : x.toInt = ck_ev ν f) (hj : j = x.toInt.toNat) (hN : j < N) : ck_fv st ws F (ck_elem cn j) := by
  have any : ∀ G, ck_look X i 0 = some G → ck_fv st ws G (ck_elem cn j) := fun G hG => ck_look_ok hG hX hq (by rw [e]; exact ⟨j, hN, rfl⟩)
  unfold ck_lookA at h
  split at h
  · rename_i h0
    have ex : x.toInt = f.2.2 := by rw [hx]; unfold ck_ev; rw [h0, Int.zero_mul, Int.zero_add]
    split at h
    · rename_i G hG
      cases h
      refine ck_look_ok hG hX hq ?_
      rw [e, ← ex, ← hj]
      exact ⟨hN, rfl⟩
    · exact any _ h
  · exact any _ h
def ck_join (F G : ck_F) : Option ck_F := match F, G with
  | .inl a, .inl b => some (.inl (min a.1 b.1, max a.2 b.2))
  | .inr a, .inr b => if a = b then some (.inr a) else none
  | _, _ => none
theorem ck_join_ok {F G K : ck_F} {v : Value} (h : ck_join F G = some K) (hv : ck_fv st ws F v ∨ ck_fv st ws G v) : ck_fv st ws K v := by
  unfold ck_join at h
  split at h
  · cases h
    rcases hv with ⟨x, rfl, h1, h2⟩ | ⟨x, rfl, h1, h2⟩
    · exact ⟨x, rfl, by dsimp only; omega, by dsimp only; omega⟩
    · exact ⟨x, rfl, by dsimp only; omega, by dsimp only; omega⟩
  · split at h
    · rename_i e
      cases h
      subst e
      exact hv.elim id id
    · cases h
  · cases h
def ck_wrA (X : ck_D) (i : Nat) (f : ck_L) (F : ck_F) : ck_D := X.filterMap fun x =>
  if x.1.1 = i then (if f.2.1 = 0 ∧ x.1.2 ≠ 0 then (if x.1.2 = f.2.2.toNat + 1 then some (x.1, F) else some x) else (ck_join x.2 F).map fun G => (x.1, G)) else some x
theorem ck_setrow {i a N j : Nat} {cA : ClassId} {cn cn' : ck_Cn} {v : Value} {F : ck_F} {f : ck_L} (hG : ck_G D cl st sh A s nL wr ws0 I L S X nc ν ws tys H locs ls vs) (hi : ws[i]? = some (a, .inl (cA, N, cn))) (hel : ∀ q, ck_elem cn' q = if q = j then v else ck_elem cn q) (hcn : ∀ ty, ck_cnt ty cn → ck_cnt ty cn') (hf : f.2.1 = 0 → j = f.2.2.toNat) (hv : ck_fv st ws F v) (hwr : (i, 0) ∈ wr) {H1 : Heap} {locs1 : List Loc} (hP : va_P D cl (ws.set i (a, .inl (cA, N, cn'))) H1) (hD : va_D A (ws.set i (a, .inl (cA, N, cn')))) (hS : va_S A s.heap H1 locs1) : ck_G D cl st sh A s nL wr ws0 I L S (ck_wrA X i f F) nc ν (ws.set i (a, .inl (cA, N, cn'))) tys H1 locs1 ls vs := by
  obtain ⟨h1, h2, h3, h4, h5, h6, h7, h8, h9, h10⟩ := hG
  have ho := ck_on.set (e' := .inl (cA, N, cn')) hi
  have hfr : ck_fr wr ws (ws.set i (a, .inl (cA, N, cn'))) := ck_fr.set hi (fun j hj h0 w hw => absurd hwr h0)
  refine ⟨h1, h2.on ho (Nat.le_refl _) (fun _ _ => rfl), h3.on ho (Nat.le_refl _) (fun _ _ => rfl), ?_, h5.set hi ?_, h6, hP, hD, hS, h10.trans hfr⟩
  · intro y hy
    obtain ⟨x, hx, hxy⟩ := List.mem_filterMap.mp hy
    obtain ⟨q, hq, hv'⟩ := h4 x hx
    by_cases hc : x.1.1 = i
    · rw [if_pos hc] at hxy
      rw [hc] at hq
      have eq : q = (a, .inl (cA, N, cn)) := Option.some.inj (hq.symm.trans hi)
      subst eq
      have hnew : (ws.set i (a, .inl (cA, N, cn')))[i]? = some (a, .inl (cA, N, cn')) := List.getElem?_set_self (List.getElem?_eq_some_iff.mp hi).1
      by_cases hz : f.2.1 = 0 ∧ x.1.2 ≠ 0
      · rw [if_pos hz] at hxy
        have ej := hf hz.1
        obtain ⟨k, hk⟩ : ∃ k, x.1.2 = k + 1 := ⟨x.1.2 - 1, by omega⟩
        by_cases hs : x.1.2 = f.2.2.toNat + 1
        · rw [if_pos hs] at hxy
          cases hxy
          refine ⟨_, by rw [hc]; exact hnew, fun w hw => ?_⟩
          dsimp only at hw
          rw [hk] at hw
          obtain ⟨-, ew⟩ := hw
          rw [ew, hel k, if_pos (by omega)]
          exact hv.on ho
        · rw [if_neg hs] at hxy
          cases hxy
          refine ⟨_, by rw [hc]; exact hnew, fun w hw => (hv' w ?_).on ho⟩
          dsimp only at hw ⊢
          rw [hk] at hw ⊢
          obtain ⟨hl, ew⟩ := hw
          rw [hel k, if_neg (by omega)] at ew
          exact ⟨hl, ew⟩
      · rw [if_neg hz] at hxy
        cases hjn : ck_join x.2 F with
        | none => rw [hjn] at hxy; cases hxy
        | some G =>
          rw [hjn] at hxy
          cases hxy
          refine ⟨_, by rw [hc]; exact hnew, fun w hw => ?_⟩
          dsimp only at hw
          have key : ∀ k, k < N → w = ck_elem cn' k → (ck_slot (.inl (cA, N, cn)) x.1.2 (ck_elem cn k)) → ck_fv st (ws.set i (a, .inl (cA, N, cn'))) G w := fun k hk ew hs => by
            rw [hel k] at ew
            by_cases hkj : k = j
            · rw [if_pos hkj] at ew
              rw [ew]
              exact (ck_join_ok hjn (Or.inr hv)).on ho
            · rw [if_neg hkj] at ew
              rw [ew]
              exact (ck_join_ok hjn (Or.inl (hv' _ hs))).on ho
          match hx2 : x.1.2, hw with
          | 0, hw =>
            obtain ⟨k, hk, ew⟩ := hw
            exact key k hk ew (by rw [hx2]; exact ⟨k, hk, rfl⟩)
          | k + 1, hw =>
            obtain ⟨hk, ew⟩ := hw
            exact key k hk ew (by rw [hx2]; exact ⟨hk, rfl⟩)
    · rw [if_neg hc] at hxy
      cases hxy
      exact ⟨q, by rw [List.getElem?_set_ne (fun z => hc z.symm)]; exact hq, fun w hw => (hv' w hw).on ho⟩
  · intro S hs
    rcases S with o | r
    · exact hs.elim
    · exact ⟨hs.1, hs.2.1, hcn _ hs.2.2⟩
def ck_boolF (I : List ck_I) (f : ck_L) : Option ck_F := let a := ck_rng I f; if 0 ≤ a.1 ∧ a.2 ≤ 1 then some (.inl a) else none
theorem ck_boolI {x : Int32} (h0 : 0 ≤ x.toInt) (h1 : x.toInt ≤ 1) : vp_nar .boolean x = x := by
  rcases (show x.toInt = 0 ∨ x.toInt = 1 by omega) with q | q
  · have e : x = 0 := Int32.toInt_inj.mp q
    rw [e]; rfl
  · have e : x = 1 := Int32.toInt_inj.mp q
    rw [e]; rfl
def ck_byteF (I : List ck_I) (f : ck_L) : ck_F := let a := ck_rng I f; if -128 ≤ a.1 ∧ a.2 ≤ 127 then .inl a else .inl (-128, 127)
theorem ck_byteF_ok {f : ck_L} {x : Int32} (hi : ck_gi ν I) (hx : x.toInt = ck_ev ν f) : ck_fv st ws (ck_byteF I f) (.int (vp_nar .byte x)) := by
  have rx := ck_rng32 hi hx
  rw [vp_nar_byte]
  unfold ck_byteF
  dsimp only
  split
  · rw [ck_byteI (by omega) (by omega)]
    exact ⟨x, rfl, rx⟩
  · exact ⟨_, rfl, ck_byteR x⟩
theorem ck_upd_el (f : Nat → Int32) (j : Nat) (x : Int32) (q : Nat) : ck_elem (.inl (upd f j x)) q = if q = j then .int x else ck_elem (.inl f) q := by
  show Value.int (if q = j then x else f q) = _
  split <;> rfl
theorem ck_up_el (f : Nat → Option Nat) (j : Nat) (x : Option Nat) (q : Nat) : ck_elem (.inr (.inr (.inr (.inr (va_up f j x))))) q = if q = j then va_rf x else ck_elem (.inr (.inr (.inr (.inr f)))) q := by
  show va_rf (if q = j then x else f q) = _
  split <;> rfl
def ck_ld (sh : List ck_Sh) (pc : Nat) (i : Instr × Nat) (I : List ck_I) (L : List (Nat × ck_V)) (S : List ck_V) (X : ck_D) (k : Nat × Nat × Nat) : Option (List (Nat × ck_S)) := match i, S with
  | (.iaload, 1), .inl f :: .inr (0, i) :: S => match ck_row sh i, ck_lookA X i f with
    | some (.int, N), some F => if ck_inR I f N = true then (match ck_pushF I F with
      | some r => some [(pc + 1, (r.1, L, r.2 :: S, X, k))]
      | none => none) else none
    | _, _ => none
  | (.baload, 1), .inl f :: .inr (0, i) :: S => match ck_row sh i, ck_lookA X i f with
    | some (.byte, N), some F => if ck_inR I f N = true then (match ck_pushF I F with
      | some r => some [(pc + 1, (r.1, L, r.2 :: S, X, k))]
      | none => none) else none
    | some (.boolean, N), some F => if ck_inR I f N = true then (match ck_pushF I F with
      | some r => some [(pc + 1, (r.1, L, r.2 :: S, X, k))]
      | none => none) else none
    | _, _ => none
  | (.aaload, 1), .inl f :: .inr (0, i) :: S => match ck_row sh i, ck_lookA X i f with
    | some (.object _, N), some F => if ck_inR I f N = true then (match ck_pushF I F with
      | some r => some [(pc + 1, (r.1, L, r.2 :: S, X, k))]
      | none => none) else none
    | _, _ => none
  | (.arraylength, 1), .inr (0, i) :: S => match ck_row sh i with
    | some r => if r.2 < 2147483648 then some [(pc + 1, (I, L, .inl (ck_k r.2) :: S, X, k))] else none
    | none => none
  | _, _ => none
theorem ck_ld_ok {i : Instr × Nat} {xs : List (Nat × ck_S)} (hx : p.tables.exec = Jvm.exec) (hb : c.code = cc) (hd : decode cc pc = .ok i) (h : ck_ld sh pc i I L S X (nc, mc, ms) = some xs) (hn : n ≤ I.length) (hG : ck_G D cl st sh A s nL wr ws0 I L S X nc ν ws tys H locs ls vs)
    (K : ∀ x ∈ xs, ck_N p l e R s m args below meth c Q D cl st sh A nL wr ws0 n ν x) : W p l e R s m args below meth c H locs mc ms Q (F0 m pc ls vs) := by
  have hK := hG.2.2.2.2.2.1
  have hP := hG.2.2.2.2.2.2.1
  unfold ck_ld at h
  split at h
  · split at h
    · rename_i N F hr hF
      split at h
      · rename_i hin
        split at h
        · rename_i r hpu
          cases h
          obtain ⟨v, vs', rfl, ⟨w1, x, rfl, e1⟩, h2⟩ := hG.gs.pop
          obtain ⟨v, vs2, rfl, ⟨⟨a, ee⟩, h1, rfl⟩, h5⟩ := h2.pop
          obtain ⟨cA, cn, t, h3, h4, h6⟩ := ck_row_ok hr hG.2.2.2.2.1 h1
          obtain ⟨b1, b2, b3, b4⟩ := ck_inR_ok hin hG.gi e1
          have hfv := ck_lookA_ok hF hG.2.2.2.1 h1 h3 e1 b3 b2
          dsimp only at h3 h4
          subst h3
          rcases cn with g | cn
          · exact va_iald hx hb hK hP _ t h1 h4 b1 hd (ck_pushF_ok (hG.stk h5) hn hfv hpu (K _ List.mem_cons_self))
          · exact h6.elim
        · cases h
      · cases h
    · cases h
  · split at h
    · rename_i N F hr hF
      split at h
      · rename_i hin
        split at h
        · rename_i r hpu
          cases h
          obtain ⟨v, vs', rfl, ⟨w1, x, rfl, e1⟩, h2⟩ := hG.gs.pop
          obtain ⟨v, vs2, rfl, ⟨⟨a, ee⟩, h1, rfl⟩, h5⟩ := h2.pop
          obtain ⟨cA, cn, t, h3, h4, h6⟩ := ck_row_ok hr hG.2.2.2.2.1 h1
          obtain ⟨b1, b2, b3, b4⟩ := ck_inR_ok hin hG.gi e1
          have hfv := ck_lookA_ok hF hG.2.2.2.1 h1 h3 e1 b3 b2
          dsimp only at h3 h4
          subst h3
          rcases cn with g | cn
          · exact va_bald hx hb hK hP _ t h1 h4 b1 hd (ck_pushF_ok (hG.stk h5) hn hfv hpu (K _ List.mem_cons_self))
          · exact h6.elim
        · cases h
      · cases h
    · rename_i N F hr hF
      split at h
      · rename_i hin
        split at h
        · rename_i r hpu
          cases h
          obtain ⟨v, vs', rfl, ⟨w1, x, rfl, e1⟩, h2⟩ := hG.gs.pop
          obtain ⟨v, vs2, rfl, ⟨⟨a, ee⟩, h1, rfl⟩, h5⟩ := h2.pop
          obtain ⟨cA, cn, t, h3, h4, h6⟩ := ck_row_ok hr hG.2.2.2.2.1 h1
          obtain ⟨b1, b2, b3, b4⟩ := ck_inR_ok hin hG.gi e1
          have hfv := ck_lookA_ok hF hG.2.2.2.1 h1 h3 e1 b3 b2
          dsimp only at h3 h4
          subst h3
          rcases cn with g | cn
          · exact va_zald hx hb hK hP _ t h1 h4 b1 hd (ck_pushF_ok (hG.stk h5) hn hfv hpu (K _ List.mem_cons_self))
          · exact h6.elim
        · cases h
      · cases h
    · cases h
  · split at h
    · rename_i C N F hr hF
      split at h
      · rename_i hin
        split at h
        · rename_i r hpu
          cases h
          obtain ⟨v, vs', rfl, ⟨w1, x, rfl, e1⟩, h2⟩ := hG.gs.pop
          obtain ⟨v, vs2, rfl, ⟨⟨a, ee⟩, h1, rfl⟩, h5⟩ := h2.pop
          obtain ⟨cA, cn, t, h3, h4, h6⟩ := ck_row_ok hr hG.2.2.2.2.1 h1
          obtain ⟨b1, b2, b3, b4⟩ := ck_inR_ok hin hG.gi e1
          have hfv := ck_lookA_ok hF hG.2.2.2.1 h1 h3 e1 b3 b2
          dsimp only at h3 h4
          subst h3
          rcases cn with g | g | g | g | g
          · exact h6.elim
          · exact h6.elim
          · exact h6.elim
          · exact h6.elim
          · exact va_aldq hx hb hK hP _ t h1 h4 b1 hd (ck_pushF_ok (hG.stk h5) hn hfv hpu (K _ List.mem_cons_self))
        · cases h
      · cases h
    · cases h
  · split at h
    · rename_i r hr
      split at h
      · rename_i hlt
        cases h
        obtain ⟨v, vs', rfl, ⟨⟨a, ee⟩, h1, rfl⟩, h5⟩ := hG.gs.pop
        obtain ⟨cA, cn, t, h3, h4, h6⟩ := ck_row_ok hr hG.2.2.2.2.1 h1
        dsimp only at h3 h4
        subst h3
        refine va_alen hx hb hK hP _ t h1 h4 rfl hd (ck_pushv (hG.stk h5) hn (f := ck_k r.2) ?_ (K _ List.mem_cons_self))
        have e1 : (Int32.ofNat r.2).toInt = (r.2 : Int) := nI_toInt (n := r.2) (by omega)
        rw [e1]
        exact ck_k_ok hG.gi _
      · cases h
    · cases h
  · cases h
def ck_sr (cl : List vw_C) (sh : List ck_Sh) (wr : List (Nat × Nat)) (pc : Nat) (i : Instr × Nat) (I : List ck_I) (L : List (Nat × ck_V)) (S : List ck_V) (X : ck_D) (k : Nat × Nat × Nat) : Option (List (Nat × ck_S)) := match i, S with
  | (.iastore, 1), .inl g :: .inl f :: .inr (0, i) :: S => match ck_row sh i with
    | some (.int, N) => if ck_inR I f N = true ∧ wr.contains (i, 0) = true then some [(pc + 1, (I, L, S, ck_wrA X i f (.inl (ck_rng I g)), k))] else none
    | _ => none
  | (.bastore, 1), .inl g :: .inl f :: .inr (0, i) :: S => match ck_row sh i with
    | some (.byte, N) => if ck_inR I f N = true ∧ wr.contains (i, 0) = true then some [(pc + 1, (I, L, S, ck_wrA X i f (ck_byteF I g), k))] else none
    | some (.boolean, N) => if ck_inR I f N = true ∧ wr.contains (i, 0) = true ∧ 0 ≤ (ck_rng I g).1 ∧ (ck_rng I g).2 ≤ 1 then some [(pc + 1, (I, L, S, ck_wrA X i f (.inl (ck_rng I g)), k))] else none
    | _ => none
  | (.aastore, 1), .inr (1, z) :: .inl f :: .inr (0, i) :: S => match ck_row sh i with
    | some (.object _, N) => if ck_inR I f N = true ∧ wr.contains (i, 0) = true then some [(pc + 1, (I, L, S, ck_wrA X i f (.inr (1, z)), k))] else none
    | _ => none
  | (.aastore, 1), .inr (0, z) :: .inl f :: .inr (0, i) :: S => match ck_row sh i, ck_obj sh z with
    | some (.object C, N), some o => match cl[o.1]? with
      | some r => if r.1 = C ∧ ck_inR I f N = true ∧ wr.contains (i, 0) = true then some [(pc + 1, (I, L, S, ck_wrA X i f (.inr (0, z)), k))] else none
      | none => none
    | _, _ => none
  | _, _ => none
theorem ck_sr_ok {i : Instr × Nat} {xs : List (Nat × ck_S)} (hx : p.tables.exec = Jvm.exec) (hb : c.code = cc) (hd : decode cc pc = .ok i) (h : ck_sr cl sh wr pc i I L S X (nc, mc, ms) = some xs) (hG : ck_G D cl st sh A s nL wr ws0 I L S X nc ν ws tys H locs ls vs)
    (K : ∀ x ∈ xs, ck_N p l e R s m args below meth c Q D cl st sh A nL wr ws0 n ν x) : W p l e R s m args below meth c H locs mc ms Q (F0 m pc ls vs) := by
  have hK := hG.2.2.2.2.2.1
  have hP := hG.2.2.2.2.2.2.1
  have hD := hG.2.2.2.2.2.2.2.1
  have hS := hG.2.2.2.2.2.2.2.2.1
  have hcst : ∀ {f : ck_L} {x : Int32} {j : Nat}, x.toInt = ck_ev ν f → j = x.toInt.toNat → f.2.1 = 0 → j = f.2.2.toNat := fun {f x j} e1 e2 e3 => by
    rw [e2, e1]; unfold ck_ev; rw [e3, Int.zero_mul, Int.zero_add]
  unfold ck_sr at h
  split at h
  · split at h
    · rename_i N hr
      split at h
      · rename_i hin
        cases h
        obtain ⟨v, vs', rfl, ⟨w0, y, rfl, e0⟩, h0⟩ := hG.gs.pop
        obtain ⟨v, vs', rfl, ⟨w1, x, rfl, e1⟩, h2⟩ := h0.pop
        obtain ⟨v, vs2, rfl, ⟨⟨a, ee⟩, h1, rfl⟩, h5⟩ := h2.pop
        obtain ⟨cA, cn, t, h3, h4, h6⟩ := ck_row_ok hr hG.2.2.2.2.1 h1
        obtain ⟨b1, b2, b3, b4⟩ := ck_inR_ok hin.1 hG.gi e1
        dsimp only at h3 h4
        subst h3
        rcases cn with g | cn
        · have hfv : ck_fv st ws (.inl (ck_rng I _)) (.int y) := ⟨y, rfl, ck_rng32 hG.gi e0⟩
          exact va_iast hx hb hK hP hD hS _ t h1 h4 b1 hd (fun H1 locs1 hP1 hD1 hS1 => K _ List.mem_cons_self ν _ tys H1 locs1 ls vs2 (fun _ _ => rfl) (ck_setrow (hG.stk h5) h1 (ck_upd_el g _ _) (fun ty hty => by cases ty <;> exact hty) (hcst e1 b3) hfv (List.contains_iff_mem.mp hin.2) hP1 hD1 hS1))
        · exact h6.elim
      · cases h
    · cases h
  · split at h
    · rename_i N hr
      split at h
      · rename_i hin
        cases h
        obtain ⟨v, vs', rfl, ⟨w0, y, rfl, e0⟩, h0⟩ := hG.gs.pop
        obtain ⟨v, vs', rfl, ⟨w1, x, rfl, e1⟩, h2⟩ := h0.pop
        obtain ⟨v, vs2, rfl, ⟨⟨a, ee⟩, h1, rfl⟩, h5⟩ := h2.pop
        obtain ⟨cA, cn, t, h3, h4, h6⟩ := ck_row_ok hr hG.2.2.2.2.1 h1
        obtain ⟨b1, b2, b3, b4⟩ := ck_inR_ok hin.1 hG.gi e1
        dsimp only at h3 h4
        subst h3
        rcases cn with g | cn
        · exact va_bast hx hb hK hP hD hS _ t h1 h4 b1 hd (fun H1 locs1 hP1 hD1 hS1 => K _ List.mem_cons_self ν _ tys H1 locs1 ls vs2 (fun _ _ => rfl) (ck_setrow (hG.stk h5) h1 (ck_upd_el g _ _) (fun ty hty => by cases ty <;> exact hty) (hcst e1 b3) (ck_byteF_ok hG.gi e0) (List.contains_iff_mem.mp hin.2) hP1 hD1 hS1))
        · exact h6.elim
      · cases h
    · rename_i N hr
      split at h
      · rename_i hin
        cases h
        obtain ⟨v, vs', rfl, ⟨w0, y, rfl, e0⟩, h0⟩ := hG.gs.pop
        obtain ⟨v, vs', rfl, ⟨w1, x, rfl, e1⟩, h2⟩ := h0.pop
        obtain ⟨v, vs2, rfl, ⟨⟨a, ee⟩, h1, rfl⟩, h5⟩ := h2.pop
        obtain ⟨cA, cn, t, h3, h4, h6⟩ := ck_row_ok hr hG.2.2.2.2.1 h1
        obtain ⟨b1, b2, b3, b4⟩ := ck_inR_ok hin.1 hG.gi e1
        have ry := ck_rng32 hG.gi e0
        dsimp only at h3 h4
        subst h3
        rcases cn with g | cn
        · exact va_zast hx hb hK hP hD hS _ t h1 h4 b1 hd (fun H1 locs1 hP1 hD1 hS1 => K _ List.mem_cons_self ν _ tys H1 locs1 ls vs2 (fun _ _ => rfl) (ck_setrow (hG.stk h5) h1 (ck_upd_el g _ _) (fun ty hty => by cases ty <;> exact hty) (hcst e1 b3) (by rw [ck_boolI (by omega) (by omega)]; exact ⟨y, rfl, ry⟩) (List.contains_iff_mem.mp hin.2.1) hP1 hD1 hS1))
        · exact h6.elim
      · cases h
    · cases h
  · split at h
    · rename_i C N hr
      split at h
      · rename_i hin
        cases h
        obtain ⟨v, vs', rfl, hv, h0⟩ := hG.gs.pop
        have ev : v = .null := hv
        subst ev
        have hv2 : ∀ z, ck_fv st ws (.inr (1, z)) Value.null := fun _ => rfl
        obtain ⟨v, vs', rfl, ⟨w1, x, rfl, e1⟩, h2⟩ := h0.pop
        obtain ⟨v, vs2, rfl, ⟨⟨a, ee⟩, h1, rfl⟩, h5⟩ := h2.pop
        obtain ⟨cA, cn, t, h3, h4, h6⟩ := ck_row_ok hr hG.2.2.2.2.1 h1
        obtain ⟨b1, b2, b3, b4⟩ := ck_inR_ok hin.1 hG.gi e1
        dsimp only at h3 h4
        subst h3
        rcases cn with g | g | g | g | g
        · exact h6.elim
        · exact h6.elim
        · exact h6.elim
        · exact h6.elim
        · exact va_astqN hx hb hK hP hD hS _ t h1 h4 b1 hd (fun H1 locs1 hP1 hD1 hS1 => K _ List.mem_cons_self ν _ tys H1 locs1 ls vs2 (fun _ _ => rfl) (ck_setrow (hG.stk h5) h1 (ck_up_el g _ _) (fun ty hty => by cases ty <;> exact hty) (hcst e1 b3) (hv2 _) (List.contains_iff_mem.mp hin.2) hP1 hD1 hS1))
      · cases h
    · cases h
  · split at h
    · rename_i C N o hr ho
      split at h
      · rename_i r hcl
        split at h
        · rename_i hin
          obtain ⟨hC, hin⟩ := hin
          cases h
          obtain ⟨v, vs', rfl, hv, h0⟩ := hG.gs.pop
          have hv2 : ck_fv st ws (.inr (0, _)) v := hv
          obtain ⟨⟨b, be⟩, hq, rfl⟩ := hv
          obtain ⟨fs, hq2, -⟩ := ck_obj_ok ho hG.2.2.2.2.1 hq
          obtain ⟨v, vs', rfl, ⟨w1, x, rfl, e1⟩, h2⟩ := h0.pop
          obtain ⟨v, vs2, rfl, ⟨⟨a, ee⟩, h1, rfl⟩, h5⟩ := h2.pop
          obtain ⟨cA, cn, t, h3, h4, h6⟩ := ck_row_ok hr hG.2.2.2.2.1 h1
          obtain ⟨b1, b2, b3, b4⟩ := ck_inR_ok hin.1 hG.gi e1
          dsimp only at h3 h4 hq2
          subst h3
          subst hq2
          subst hC
          rcases cn with g | g | g | g | g
          · exact h6.elim
          · exact h6.elim
          · exact h6.elim
          · exact h6.elim
          · exact va_astq hx hb hK hP hD hS _ t _ _ h1 h4 hq hcl b1 hd (fun H1 locs1 hP1 hD1 hS1 => K _ List.mem_cons_self ν _ tys H1 locs1 ls vs2 (fun _ _ => rfl) (ck_setrow (hG.stk h5) h1 (ck_up_el g _ _) (fun ty hty => by cases ty <;> exact hty) (hcst e1 b3) hv2 (List.contains_iff_mem.mp hin.2) hP1 hD1 hS1))
        · cases h
      · cases h
    · cases h
  · cases h
end CKR
end
section
/-! THE TABLE RUN, 6: what is made, constants -/
section CKM
variable {p : Program} {l : Launch} {e : Env} {R : Room} {s : State} {m : MethodId} {args : Array Value} {below : List Frame} {meth : Method} {c : Code} {Q : State → Prop}
variable {cc : ByteArray} {D : va_G} {cl : List vw_C} {st : Nat → Nat} {sh : List ck_Sh} {A : Nat → Prop} {nL : Nat} {wr : List (Nat × Nat)} {ws0 : va_W}
variable {I I' : List ck_I} {L : List (Nat × ck_V)} {S S' : List ck_V} {X : ck_D} {nc mc ms n : Nat} {ν ν' : Nat → Int} {ws : va_W} {tys : List (ClassId × FieldType)} {H : Heap} {locs : List Loc} {ls : Array Slot} {vs vs' : List Value} {pc : Nat}
variable {Ts : List Cond} {AO : List String} {own : String}
def ck_okN (cl : List vw_C) (Ts : List Cond) (own : String) (q : Nat × Nat) : Prop := ∃ (C : String) (T : u_T) (N : Nat), cl[q.2]? = some (C, T, N) ∧ Cond.classLink own q.1 C ∈ Ts ∧ Cond.instantiable C N ∈ Ts ∧ Cond.initialized C ∈ Ts
def ck_okD (cl : List vw_C) (dt : List (List FieldType)) : Prop := ∀ (ci : Nat) (tl : List FieldType), dt[ci]? = some tl → ∃ (C : String) (T : u_T), cl[ci]? = some (C, T, tl.length) ∧ ∀ (k : Nat) (t : FieldType), tl[k]? = some t → parseFieldDescriptor (T k).2.2.1 = some t
def ck_okA (Ts : List Cond) (AO : List String) (own : String) (q : Nat × String) : Prop := Cond.classLink own q.1 q.2 ∈ Ts ∧ q.2 ∈ AO
def ck_dfl (t : FieldType) : ck_F := match t with
  | .int => .inl (0, 0)
  | .boolean => .inl (0, 0)
  | .byte => .inl (0, 0)
  | .object _ => .inr (1, 0)
  | .array _ => .inr (1, 0)
  | _ => .inr (9, 0)
theorem ck_dfl_ok (t : FieldType) : ck_fv st ws (ck_dfl t) (defaultValue t) := by
  unfold ck_dfl
  split
  · exact ⟨0, rfl, Int.le_refl _, Int.le_refl _⟩
  · exact ⟨0, rfl, Int.le_refl _, Int.le_refl _⟩
  · exact ⟨0, rfl, Int.le_refl _, Int.le_refl _⟩
  · exact rfl
  · exact rfl
  · trivial
def ck_newX (nc : Nat) : Nat → List FieldType → ck_D
  | _, [] => []
  | k, t :: tl => ((nc, k + 1), ck_dfl t) :: ck_newX nc (k + 1) tl
theorem ck_newX_mem {x : (Nat × Nat) × ck_F} : ∀ (tl : List FieldType) (k : Nat), x ∈ ck_newX nc k tl → ∃ (j : Nat) (t : FieldType), tl[j]? = some t ∧ x = ((nc, k + j + 1), ck_dfl t)
  | [], _, h => by cases h
  | t :: tl, k, h => by
    rcases List.mem_cons.mp h with e | h
    · exact ⟨0, t, rfl, e⟩
    · obtain ⟨j, t', h1, h2⟩ := ck_newX_mem tl (k + 1) h
      exact ⟨j + 1, t', by simpa using h1, by rw [h2]; congr 2; congr 1; omega⟩
/-- the world with one more cell -/
theorem ck_G.more {S2 : ck_Sh} {q : Nat} {x : va_E} {Y : ck_D} {tys' : List (ClassId × FieldType)} {H1 : Heap} (hG : ck_G D cl st sh A s nL wr ws0 I L S X nc ν ws tys H locs ls vs) (hsh : sh[nc]? = some S2) (hf : ck_fit tys' S2 x) (htys : ∀ (t : Nat) (y : ClassId × FieldType), tys[t]? = some y → ∃ t' : Nat, tys'[t']? = some y) (hY : ck_gd st (ws ++ [(q, x)]) Y) (hK : va_K D cl tys' s) (hP : va_P D cl (ws ++ [(q, x)]) H1) (hD : va_D A (ws ++ [(q, x)])) (hS : va_S A s.heap H1 locs) : ck_G D cl st sh A s nL wr ws0 I L (.inr (0, nc) :: S) (Y ++ X) (nc + 1) ν (ws ++ [(q, x)]) tys' H1 locs ls (.ref q :: vs) := by
  obtain ⟨h1, h2, h3, h4, h5, h6, h7, h8, h9, h10⟩ := hG
  have ho := ck_on.push (ws := ws) (q, x)
  have hl : ws.length = nc := h5.1
  have hat : (ws ++ [(q, x)])[nc]? = some (q, x) := by rw [← hl]; simp
  refine ⟨h1, h2.on ho (Nat.le_refl _) (fun _ _ => rfl), ⟨⟨(q, x), hat, rfl⟩, h3.on ho (Nat.le_refl _) (fun _ _ => rfl)⟩, hY.app (h4.push _), ⟨by simp [hl], fun i r hr => ?_⟩, hK, hP, hD, hS, h10.trans (ck_fr.push _)⟩
  rcases Nat.lt_trichotomy i ws.length with hi | hi | hi
  · rw [List.getElem?_append_left hi] at hr
    obtain ⟨S3, a1, a2⟩ := h5.2 i r hr
    exact ⟨S3, a1, a2.more htys⟩
  · rw [hi, hl, hat] at hr
    cases hr
    exact ⟨S2, by rw [hi, hl]; exact hsh, hf⟩
  · rw [List.getElem?_eq_none (by simp; omega)] at hr
    cases hr
def ck_rowX (nc : Nat) (F : ck_F) (tr : List (Nat × List Nat)) : ck_D := ((nc, 0), F) :: (match tr.find? (fun q => q.1 == nc) with
  | some q => q.2.map (fun j => ((nc, j + 1), F))
  | none => [])
theorem ck_rowX_ok {F : ck_F} {tr : List (Nat × List Nat)} {q N : Nat} {cA : ClassId} {cn : ck_Cn} (hl : ws.length = nc) (hv : ∀ j, ck_fv st (ws ++ [(q, .inl (cA, N, cn))]) F (ck_elem cn j)) : ck_gd st (ws ++ [(q, .inl (cA, N, cn))]) (ck_rowX nc F tr) := by
  have hat : (ws ++ [(q, (.inl (cA, N, cn) : va_E))])[nc]? = some (q, .inl (cA, N, cn)) := by rw [← hl]; simp
  intro x hx
  rcases List.mem_cons.mp hx with rfl | hx
  · exact ⟨_, hat, fun v hs => by obtain ⟨j, -, rfl⟩ := hs; exact hv j⟩
  · split at hx
    · obtain ⟨j, -, rfl⟩ := List.mem_map.mp hx
      exact ⟨_, hat, fun v hs => by obtain ⟨-, rfl⟩ := hs; exact hv j⟩
    · cases hx
theorem ck_tysapp {y : ClassId × FieldType} : ∀ (t : Nat) (z : ClassId × FieldType), tys[t]? = some z → ∃ t' : Nat, (tys ++ [y])[t']? = some z := fun t z h => ⟨t, by rw [List.getElem?_append_left (List.getElem?_eq_some_iff.mp h).1]; exact h⟩
theorem ck_tyslast {y : ClassId × FieldType} : ∃ t : Nat, (tys ++ [y])[t]? = some y := ⟨tys.length, by simp⟩
/-- what is made: objects, rows of numbers, rows of objects -/
def ck_n (nl : List (Nat × Nat)) (dt : List (List FieldType)) (ats : List FieldType) (al : List (Nat × String)) (tr : List (Nat × List Nat)) (sh : List ck_Sh) (CM SM : Nat) (pc : Nat) (i : Instr × Nat) (I : List ck_I) (L : List (Nat × ck_V)) (S : List ck_V) (X : ck_D) (k : Nat × Nat × Nat) : Option (List (Nat × ck_S)) := match i, S with
  | (.new x, 3), S => match nl.find? (fun q => q.1 == x), ck_obj sh k.1 with
    | some q, some o => match dt[o.1]? with
      | some tl => if o.1 = q.2 ∧ tl.length = o.2 ∧ k.2.1 + 1 ≤ CM ∧ k.2.2 + o.2 ≤ SM then some [(pc + 3, (I, L, .inr (0, k.1) :: S, ck_newX k.1 0 tl ++ X, k.1 + 1, k.2.1 + 1, k.2.2 + o.2))] else none
      | none => none
    | _, _ => none
  | (.newarray a, 2), .inl f :: S => match ck_row sh k.1 with
    | some r => if newarray.typeOf a = r.1 ∧ ats.contains r.1 = true ∧ f.2.1 = 0 ∧ f.2.2 = (r.2 : Int) ∧ r.2 * componentBytes r.1 ≤ 536870912 ∧ k.2.1 + 1 ≤ CM ∧ k.2.2 + r.2 ≤ SM then (match r.1 with
      | .int => some [(pc + 2, (I, L, .inr (0, k.1) :: S, ck_rowX k.1 (.inl (0, 0)) tr ++ X, k.1 + 1, k.2.1 + 1, k.2.2 + r.2))]
      | .byte => some [(pc + 2, (I, L, .inr (0, k.1) :: S, ck_rowX k.1 (.inl (0, 0)) tr ++ X, k.1 + 1, k.2.1 + 1, k.2.2 + r.2))]
      | .boolean => some [(pc + 2, (I, L, .inr (0, k.1) :: S, ck_rowX k.1 (.inl (0, 0)) tr ++ X, k.1 + 1, k.2.1 + 1, k.2.2 + r.2))]
      | .long => some [(pc + 2, (I, L, .inr (0, k.1) :: S, [] ++ X, k.1 + 1, k.2.1 + 1, k.2.2 + r.2))]
      | _ => none) else none
    | none => none
  | (.anewarray x, 3), .inl f :: S => match al.find? (fun q => q.1 == x), ck_row sh k.1 with
    | some q, some (.object C, N) => if q.2 = C ∧ f.2.1 = 0 ∧ f.2.2 = (N : Int) ∧ N * 4 ≤ 536870912 ∧ k.2.1 + 1 ≤ CM ∧ k.2.2 + N ≤ SM then some [(pc + 3, (I, L, .inr (0, k.1) :: S, ck_rowX k.1 (.inr (1, 0)) tr ++ X, k.1 + 1, k.2.1 + 1, k.2.2 + N))] else none
    | _, _ => none
  | _, _ => none
theorem ck_found {α : Type} {ql : List (Nat × α)} {x : Nat} {q : Nat × α} (h : ql.find? (fun q => q.1 == x) = some q) : q ∈ ql ∧ q.1 = x := ⟨List.mem_of_find?_eq_some h, by simpa using List.find?_some h⟩
theorem ck_told2 {f : ck_L} {x : Int32} {N : Nat} (h0 : f.2.1 = 0) (h1 : f.2.2 = (N : Int)) (hx : x.toInt = ck_ev ν f) : ¬ x < 0 ∧ x.toNatClampNeg = N := by
  have e : x.toInt = (N : Int) := by rw [hx]; unfold ck_ev; rw [h0, Int.zero_mul, Int.zero_add, h1]
  refine ⟨fun z => ?_, ?_⟩
  · have z2 := Int32.lt_iff_toInt_lt.mp z
    have z3 : (0 : Int32).toInt = 0 := rfl
    omega
  · show x.toInt.toNat = N
    omega
theorem ck_sh_obj {i : Nat} {o : Nat × Nat} (h : ck_obj sh i = some o) : sh[i]? = some (.inl o) := by
  unfold ck_obj at h
  split at h
  · rename_i e; cases h; exact e
  · cases h
theorem ck_sh_row {i : Nat} {r : FieldType × Nat} (h : ck_row sh i = some r) : sh[i]? = some (.inr r) := by
  unfold ck_row at h
  split at h
  · rename_i e; cases h; exact e
  · cases h
theorem ck_n_ok {nl : List (Nat × Nat)} {dt : List (List FieldType)} {ats : List FieldType} {al : List (Nat × String)} {tr : List (Nat × List Nat)} {CM SM : Nat} {i : Instr × Nat} {xs : List (Nat × ck_S)} (hx : p.tables.exec = Jvm.exec) (hb : c.code = cc) (hown : s.vm.findClass own = some m.cls) (hts : ∀ w ∈ Ts, w.before args s = true) (hAO : ∀ C ∈ AO, va_AO C s) (hC : ck_okC cl Ts) (hN : ∀ q ∈ nl, ck_okN cl Ts own q) (hDt : ck_okD cl dt) (hAt : ∀ t ∈ ats, Cond.arrayClass t ∈ Ts) (hAl : ∀ q ∈ al, ck_okA Ts AO own q) (hA : ∀ q, s.heap.size ≤ q → A q) (hRc : R.cells = CM) (hRs : R.slots = SM) (hd : decode cc pc = .ok i) (h : ck_n nl dt ats al tr sh CM SM pc i I L S X (nc, mc, ms) = some xs) (hG : ck_G D cl st sh A s nL wr ws0 I L S X nc ν ws tys H locs ls vs)
    (K : ∀ x ∈ xs, ck_N p l e R s m args below meth c Q D cl st sh A nL wr ws0 n ν x) : W p l e R s m args below meth c H locs mc ms Q (F0 m pc ls vs) := by
  have hK := hG.2.2.2.2.2.1
  have hP := hG.2.2.2.2.2.2.1
  have hD := hG.2.2.2.2.2.2.2.1
  have hS := hG.2.2.2.2.2.2.2.2.1
  have hl : ws.length = nc := hG.2.2.2.2.1.1
  unfold ck_n at h
  split at h
  · split at h
    · rename_i q o hq ho
      split at h
      · rename_i tl htl
        split at h
        · rename_i hc
          obtain ⟨c1, c2, c3, c4⟩ := hc
          cases h
          obtain ⟨hmem, e1⟩ := ck_found hq
          obtain ⟨C, T, N, g1, g2, g3, g4⟩ := hN _ hmem
          obtain ⟨C', T', g5, g6⟩ := hDt _ _ htl
          rw [c1] at g5
          have g7 := Option.some.inj (g1.symm.trans g5)
          cases g7
          rw [e1] at g2
          have hsz : tl.length = o.2 := c2
          refine va_new hx hb hts (hC _ _ _ _ g1).1 (fun k => tl.getD k .int) (fun k hk => g6 k _ (by simp [List.getD_eq_getElem?_getD, hk])) hown (hts _ g2) (hts _ g3) (hts _ g4) hK hP hD hS hA g1 (fs := tl.map defaultValue) (fun j hj => by simp [vp_V, List.getD_eq_getElem?_getD, hj]) (by rw [hRc]; exact c3) (by rw [hRs, hsz]; exact c4) hd (fun a H1 hP1 hD1 hS1 => ?_)
          rw [hsz]
          refine K _ List.mem_cons_self ν _ tys H1 locs ls _ (fun _ _ => rfl) (hG.more (x := .inr (q.2, tl.map defaultValue)) (ck_sh_obj ho) (show ck_fit tys (.inl o) (.inr (q.2, tl.map defaultValue)) from ⟨c1.symm, by simp [hsz]⟩) (fun t y h => ⟨t, h⟩) ?_ hK hP1 hD1 hS1)
          intro x hx
          obtain ⟨j, t, b1, rfl⟩ := ck_newX_mem tl 0 hx
          refine ⟨(a, .inr (q.2, tl.map defaultValue)), by rw [← hl]; simp, fun v hv => ?_⟩
          have hv' : (tl.map defaultValue)[0 + j]? = some v := hv
          rw [Nat.zero_add, List.getElem?_map, b1] at hv'
          have ev : defaultValue t = v := Option.some.inj hv'
          rw [← ev]
          exact ck_dfl_ok t
        · cases h
      · cases h
    · cases h
  · split at h
    · rename_i r hr
      split at h
      · rename_i hc
        obtain ⟨c1, c2, c3, c4, c5, c6, c7⟩ := hc
        obtain ⟨v, vs', rfl, ⟨w1, x, rfl, e1⟩, h2⟩ := hG.gs.pop
        obtain ⟨n1, n2⟩ := ck_told2 c3 c4 e1
        have harr := hts _ (hAt _ (List.contains_iff_mem.mp c2))
        have hrow := ck_sh_row hr
        obtain ⟨ty, N⟩ := r
        dsimp only at h c1 c2 c4 c5 c7 n2 harr
        split at h
        · cases h
          exact va_newa hx hb (by rw [c1]; exact harr) c1 hK hP hD hS hA (a0 := (N, .inl (fun _ => 0))) (fun cA => rfl) n1 n2 c5 (by rw [hRc]; exact c6) (by rw [hRs]; exact c7) hd (fun a cA H1 hK1 hP1 hD1 hS1 => K _ List.mem_cons_self ν _ _ H1 locs ls _ (fun _ _ => rfl) ((hG.stk h2).more hrow (show ck_fit _ (.inr (.int, N)) (.inl (cA, N, .inl (fun _ => 0))) from ⟨rfl, ck_tyslast, trivial⟩) ck_tysapp (ck_rowX_ok hl (fun j => ⟨0, rfl, Int.le_refl _, Int.le_refl _⟩)) hK1 hP1 hD1 hS1))
        · cases h
          exact va_newa hx hb (by rw [c1]; exact harr) c1 hK hP hD hS hA (a0 := (N, .inl (fun _ => 0))) (fun cA => rfl) n1 n2 c5 (by rw [hRc]; exact c6) (by rw [hRs]; exact c7) hd (fun a cA H1 hK1 hP1 hD1 hS1 => K _ List.mem_cons_self ν _ _ H1 locs ls _ (fun _ _ => rfl) ((hG.stk h2).more hrow (show ck_fit _ (.inr (.byte, N)) (.inl (cA, N, .inl (fun _ => 0))) from ⟨rfl, ck_tyslast, trivial⟩) ck_tysapp (ck_rowX_ok hl (fun j => ⟨0, rfl, Int.le_refl _, Int.le_refl _⟩)) hK1 hP1 hD1 hS1))
        · cases h
          exact va_newa hx hb (by rw [c1]; exact harr) c1 hK hP hD hS hA (a0 := (N, .inl (fun _ => 0))) (fun cA => rfl) n1 n2 c5 (by rw [hRc]; exact c6) (by rw [hRs]; exact c7) hd (fun a cA H1 hK1 hP1 hD1 hS1 => K _ List.mem_cons_self ν _ _ H1 locs ls _ (fun _ _ => rfl) ((hG.stk h2).more hrow (show ck_fit _ (.inr (.boolean, N)) (.inl (cA, N, .inl (fun _ => 0))) from ⟨rfl, ck_tyslast, trivial⟩) ck_tysapp (ck_rowX_ok hl (fun j => ⟨0, rfl, Int.le_refl _, Int.le_refl _⟩)) hK1 hP1 hD1 hS1))
        · cases h
          exact va_newa hx hb (by rw [c1]; exact harr) c1 hK hP hD hS hA (a0 := (N, .inr (.inl (fun _ => 0)))) (fun cA => rfl) n1 n2 c5 (by rw [hRc]; exact c6) (by rw [hRs]; exact c7) hd (fun a cA H1 hK1 hP1 hD1 hS1 => K _ List.mem_cons_self ν _ _ H1 locs ls _ (fun _ _ => rfl) ((hG.stk h2).more hrow (show ck_fit _ (.inr (.long, N)) (.inl (cA, N, .inr (.inl (fun _ => 0)))) from ⟨rfl, ck_tyslast, trivial⟩) ck_tysapp (fun x hx => by cases hx) hK1 hP1 hD1 hS1))
        · cases h
      · cases h
    · cases h
  · split at h
    · rename_i q C N hq hr
      split at h
      · rename_i hc
        obtain ⟨c1, c3, c4, c5, c6, c7⟩ := hc
        cases h
        obtain ⟨v, vs', rfl, ⟨w1, x, rfl, e1⟩, h2⟩ := hG.gs.pop
        obtain ⟨n1, n2⟩ := ck_told2 c3 c4 e1
        obtain ⟨hmem, e2⟩ := ck_found hq
        obtain ⟨g1, g2⟩ := hAl _ hmem
        rw [c1] at g1 g2
        rw [e2] at g1
        exact va_newq hx hb hown (hts _ g1) (hAO _ g2) hK hP hD hS hA n1 n2 c5 (by rw [hRc]; exact c6) (by rw [hRs]; exact c7) hd (fun a cA H1 hK1 hP1 hD1 hS1 => K _ List.mem_cons_self ν _ _ H1 locs ls _ (fun _ _ => rfl) ((hG.stk h2).more (ck_sh_row hr) (show ck_fit _ (.inr (.object C, N)) (.inl (cA, N, .inr (.inr (.inr (.inr (fun _ => none)))))) from ⟨rfl, ck_tyslast, trivial⟩) ck_tysapp (ck_rowX_ok hl (fun j => rfl)) hK1 hP1 hD1 hS1))
      · cases h
    · cases h
  · cases h
/-- constants of the pool, literals -/
def ck_ldc (kl : List (Nat × Int)) (sl : List (Nat × Nat)) (pc : Nat) (i : Instr × Nat) (I : List ck_I) (L : List (Nat × ck_V)) (S : List ck_V) (X : ck_D) (k : Nat × Nat × Nat) : Option (List (Nat × ck_S)) := match i with
  | (.ldc x, 2) => match kl.find? (fun q => q.1 == x), sl.find? (fun q => q.1 == x) with
    | some q, _ => some [(pc + 2, (I, L, .inl (ck_k (Int32.ofInt q.2).toInt) :: S, X, k))]
    | none, some q => some [(pc + 2, (I, L, .inr (2, q.2) :: S, X, k))]
    | _, _ => none
  | (.ldc_w x, 3) => match kl.find? (fun q => q.1 == x) with
    | some q => some [(pc + 3, (I, L, .inl (ck_k (Int32.ofInt q.2).toInt) :: S, X, k))]
    | none => none
  | _ => none
theorem ck_ldc_ok {kl : List (Nat × Int)} {sl : List (Nat × Nat)} {i : Instr × Nat} {xs : List (Nat × ck_S)} (hx : p.tables.exec = Jvm.exec) (hb : c.code = cc) (hown : s.vm.findClass own = some m.cls) (hts : ∀ w ∈ Ts, w.before args s = true) (hkl : ∀ q ∈ kl, Cond.constant own q.1 (Int32.ofInt q.2) ∈ Ts) (hsl : ∀ q ∈ sl, ∃ tx, vk_R own q.1 tx (st q.2) s) (hd : decode cc pc = .ok i) (h : ck_ldc kl sl pc i I L S X (nc, mc, ms) = some xs) (hn : n ≤ I.length) (hG : ck_G D cl st sh A s nL wr ws0 I L S X nc ν ws tys H locs ls vs)
    (K : ∀ x ∈ xs, ck_N p l e R s m args below meth c Q D cl st sh A nL wr ws0 n ν x) : W p l e R s m args below meth c H locs mc ms Q (F0 m pc ls vs) := by
  unfold ck_ldc at h
  split at h
  · split at h
    · rename_i q hq
      cases h
      obtain ⟨hmem, e1⟩ := ck_found hq
      have g := hkl _ hmem
      rw [e1] at g
      exact lv_ldc hx hb hown (hts _ g) hd (ck_pushv hG hn (ck_k_ok hG.gi _) (K _ List.mem_cons_self))
    · rename_i q hq0 hq
      cases h
      obtain ⟨hmem, e1⟩ := ck_found hq
      obtain ⟨tx, g⟩ := hsl _ hmem
      rw [e1] at g
      exact va_ldcS hx hb hown g hd (ck_pushV (V := .inr (2, q.2)) hG rfl (K _ List.mem_cons_self))
    · cases h
  · split at h
    · rename_i q hq
      cases h
      obtain ⟨hmem, e1⟩ := ck_found hq
      have g := hkl _ hmem
      rw [e1] at g
      exact lv_ldcw hx hb hown (hts _ g) hd (ck_pushv hG hn (ck_k_ok hG.gi _) (K _ List.mem_cons_self))
    · cases h
  · cases h
end CKM
end
section
/-! THE TABLE RUN, 7: what a method is known to do, calls, returns -/
abbrev ck_O : Type := Option ck_F × List (Int × Int) × ck_D × Nat
/-- method, cells at its entry, its arguments, slots that it reads, slots that it may write, its ends; frames, words, cells, slots -/
abbrev ck_C : Type := Nat × Nat × List ck_F × ck_D × List (Nat × Nat) × List ck_O × Nat × Nat × Nat × Nat
/-- name, bytes, places of its frame, what it gives back, how many arguments its descriptor has -/
abbrev ck_MT : Type := MethodName × ByteArray × Nat × Option FieldType × Nat
def ck_av (st : Nat → Nat) (ws : va_W) : List ck_F → List Value → Prop
  | [], [] => True
  | F :: Fs, v :: vs => ck_fv st ws F v ∧ ck_av st ws Fs vs
  | _, _ => False
def ck_ints : List Value → List Int32
  | [] => []
  | .int x :: vs => x :: ck_ints vs
  | _ :: vs => ck_ints vs
def ck_iv : List (Int × Int) → List Int32 → Prop
  | [], [] => True
  | z :: zs, x :: xs => z.1 ≤ x.toInt ∧ x.toInt ≤ z.2 ∧ ck_iv zs xs
  | _, _ => False
def ck_amb (NM : List (String × Nat × MethodName × String)) (AO : List String) (SL : List (String × Nat × Nat)) (st : Nat → Nat) (U : State) : Prop := (∀ q ∈ NM, va_Nw (.methodLinkNest q.1 q.2.1 q.2.2.1 q.2.2.2) U) ∧ (∀ C ∈ AO, va_AO C U) ∧ ∀ q ∈ SL, ∃ tx, vk_R q.1 q.2.1 tx (st q.2.2) U
theorem ck_amb.warm {NM : List (String × Nat × MethodName × String)} {AO : List String} {SL : List (String × Nat × Nat)} {st : Nat → Nat} {s U : State} (h : ck_amb NM AO SL st s) (hW : s.WarmedH U.vm) : ck_amb NM AO SL st U :=
  ⟨fun q hq => va_Nw.warmM hW (h.1 q hq), fun C hC => va_AO.moved hW.alike (h.2.1 C hC), fun q hq => by obtain ⟨tx, h1⟩ := h.2.2 q hq; exact ⟨tx, h1.warm hW⟩⟩
theorem ck_amb.same {NM : List (String × Nat × MethodName × String)} {AO : List String} {SL : List (String × Nat × Nat)} {st : Nat → Nat} {u U : State} (h : ck_amb NM AO SL st u) (hv : U.vm = u.vm) : ck_amb NM AO SL st U :=
  ⟨fun q hq => va_Nw.same rfl hv.symm (h.1 q hq), fun C hC => va_AO.moved (by rw [hv]; exact Vm.Alike.refl _) (h.2.1 C hC), fun q hq => by obtain ⟨tx, h1⟩ := h.2.2 q hq; exact ⟨tx, h1.same hv⟩⟩
def ck_Pre (D : va_G) (cl : List vw_C) (NM : List (String × Nat × MethodName × String)) (AO : List String) (SL : List (String × Nat × Nat)) (st : Nat → Nat) (tys : List (ClassId × FieldType)) (ws : va_W) (sz : Nat) : State → Prop := fun U => U.heap.size = sz ∧ va_P D cl ws U.heap ∧ va_K D cl tys U ∧ va_D (fun _ => True) ws ∧ ck_amb NM AO SL st U
def ck_rv (st : Nat → Nat) (ws : va_W) : Option ck_F → Option Value → Prop
  | none, none => True
  | some F, some v => ck_fv st ws F v
  | _, _ => False
def ck_Post (D : va_G) (cl : List vw_C) (st : Nat → Nat) (sh : List ck_Sh) (c : ck_C) (ws : va_W) (vs : List Value) (A : Nat → Prop) : Array Value → State → Outcome → State → Prop := fun _ s0 oc t => (∃ o ∈ c.2.2.2.2.2.1, ∃ (r : Option Value) (ws' : va_W) (tys' : List (ClassId × FieldType)), oc = .returned r ∧ ck_rv st ws' o.1 r ∧ ck_iv o.2.1 (ck_ints vs) ∧ ck_gd st ws' o.2.2.1 ∧ ck_w sh tys' ws' o.2.2.2 ∧ ck_fr c.2.2.2.2.1 ws ws' ∧ va_P D cl ws' t.heap ∧ va_K D cl tys' t ∧ va_D A ws') ∧ va_F A s0 t
def ck_rm (c : ck_C) : Room := { frames := c.2.2.2.2.2.2.1, cells := c.2.2.2.2.2.2.2.2.1, slots := c.2.2.2.2.2.2.2.2.2, locals := c.2.2.2.2.2.2.2.1 }
def ck_Met (l : Launch) (Ts : List Cond) (mts : List ck_MT) (D : va_G) (cl : List vw_C) (NM : List (String × Nat × MethodName × String)) (AO : List String) (SL : List (String × Nat × Nat)) (st : Nat → Nat) (sh : List ck_Sh) (c : ck_C) : Prop := ∀ (M : ck_MT), mts[c.1]? = some M → ∀ (ws : va_W) (tys : List (ClassId × FieldType)) (vs : List Value) (sz : Nat), ck_w sh tys ws c.2.1 → ck_av st ws c.2.2.1 vs → ck_gd st ws c.2.2.2.1 → Met l M.1 (Cond.code M.1 M.2.1 M.2.2.1 M.2.2.2.1 :: Ts) (ck_rm c) (va_Pc vs (ck_Pre D cl NM AO SL st tys ws sz)) (ck_Post D cl st sh c ws vs (va_A ws sz)) c.2.2.2.2.2.2.2.2.1 c.2.2.2.2.2.2.2.2.2 (va_A ws sz)
theorem ck_blind {D : va_G} {cl : List vw_C} {NM : List (String × Nat × MethodName × String)} {AO : List String} {SL : List (String × Nat × Nat)} {st : Nat → Nat} {tys : List (ClassId × FieldType)} {ws : va_W} {sz : Nat} {vs : List Value} : FrameBlind (va_Pc vs (ck_Pre D cl NM AO SL st tys ws sz)) := fun a U g mk q => by
  obtain ⟨q0, q1, qP, qK, qD, qA⟩ := q
  exact ⟨q0, q1, qP, va_K.moved (u := U) (U := U.calling g mk a) (Vm.Alike.refl U.vm) qK, qD, qA.same rfl⟩
def ck_subF (G F : ck_F) : Bool := match G, F with
  | .inl a, .inl b => decide (b.1 ≤ a.1) && decide (a.2 ≤ b.2)
  | .inr a, .inr b => decide (a = b)
  | _, _ => false
theorem ck_subF_ok {st : Nat → Nat} {ws : va_W} {G F : ck_F} {v : Value} (h : ck_subF G F = true) (hv : ck_fv st ws G v) : ck_fv st ws F v := by
  unfold ck_subF at h
  split at h
  · simp only [Bool.and_eq_true, decide_eq_true_eq] at h
    obtain ⟨x, rfl, h1, h2⟩ := hv
    exact ⟨x, rfl, by omega, by omega⟩
  · have e := of_decide_eq_true h
    rw [← e]; exact hv
  · cases h
def ck_subD (X Y : ck_D) : Bool := Y.all fun x => match ck_look X x.1.1 x.1.2 with
  | some G => ck_subF G x.2
  | none => false
theorem ck_subD_ok {st : Nat → Nat} {ws : va_W} {X Y : ck_D} (h : ck_subD X Y = true) (hX : ck_gd st ws X) : ck_gd st ws Y := fun x hx => by
  have h1 := List.all_eq_true.mp h x hx
  split at h1
  · rename_i G hG
    obtain ⟨q, hq, hv⟩ := hX _ (ck_look_mem hG)
    exact ⟨q, hq, fun v hs => ck_subF_ok h1 (hv v hs)⟩
  · cases h1
section CKL
variable {p : Program} {l : Launch} {e : Env} {R : Room} {s : State} {m : MethodId} {args : Array Value} {below : List Frame} {meth : Method} {c : Code} {Q : State → Prop}
variable {cc : ByteArray} {D : va_G} {cl : List vw_C} {st : Nat → Nat} {sh : List ck_Sh} {A : Nat → Prop} {nL : Nat} {wr : List (Nat × Nat)} {ws0 : va_W}
variable {I I' : List ck_I} {L : List (Nat × ck_V)} {S S' : List ck_V} {X : ck_D} {nc mc ms n : Nat} {ν ν' : Nat → Int} {ws : va_W} {tys : List (ClassId × FieldType)} {H : Heap} {locs : List Loc} {ls : Array Slot} {vs vs' : List Value} {pc : Nat}
variable {Ts : List Cond} {AO : List String} {own : String} {NM : List (String × Nat × MethodName × String)} {SL : List (String × Nat × Nat)} {mts : List ck_MT}
/-- numbers among what was handed over: their forms -/
def ck_forms : List ck_V → List ck_L
  | [] => []
  | .inl f :: Vs => f :: ck_forms Vs
  | .inr _ :: Vs => ck_forms Vs
def ck_cutZ : List ck_I → List ck_L → List (Int × Int) → Option (List ck_I)
  | I, [], [] => some I
  | I, f :: fs, z :: zs => (ck_ge I f z.1).bind fun J => (ck_le J f z.2).bind fun K => ck_cutZ K fs zs
  | _, _, _ => none
theorem ck_cutZ_ok : ∀ {fs : List ck_L} {zs : List (Int × Int)} {xs : List Int32} {I : List ck_I}, ck_gi ν I → ck_iv zs xs → (∀ (j : Nat) (f : ck_L), fs[j]? = some f → ∃ x, xs[j]? = some x ∧ x.toInt = ck_ev ν f) → fs.length = xs.length → ∃ I', ck_cutZ I fs zs = some I' ∧ ck_gi ν I' ∧ I'.length = I.length
  | [], [], [], I, hi, _, _, _ => ⟨I, rfl, hi, rfl⟩
  | f :: fs, z :: zs, x :: xs, I, hi, hz, hf, hlen => by
    obtain ⟨y, h1, h2⟩ := hf 0 f rfl
    have e : x = y := by simpa using h1
    subst e
    obtain ⟨J, j1, j2, j3⟩ := ck_ge_ok (f := f) (c := z.1) hi (by rw [← h2]; exact hz.1)
    obtain ⟨K, k1, k2, k3⟩ := ck_le_ok (f := f) (c := z.2) j2 (by rw [← h2]; exact hz.2.1)
    obtain ⟨I', a1, a2, a3⟩ := ck_cutZ_ok (fs := fs) (zs := zs) (xs := xs) k2 hz.2.2 (fun j g hg => hf (j + 1) g (by simpa using hg)) (by simpa using hlen)
    exact ⟨I', by unfold ck_cutZ; rw [j1]; show (ck_le J f z.2).bind _ = _; rw [k1]; exact a1, a2, by rw [a3, k3, j3]⟩
  | [], z :: zs, [], _, _, hz, _, _ => hz.elim
  | _ :: _, _, [], _, _, _, _, hl => by simp at hl
  | [], _, _ :: _, _, _, _, _, hl => by simp at hl
  | _ :: _, [], _ :: _, _, _, hz, _, _ => hz.elim
def ck_okL (Ts : List Cond) (NM : List (String × Nat × MethodName × String)) (mts : List ck_MT) (own : String) (q : Nat × Nat × Nat) : Prop := ∃ M, mts[q.2.2]? = some M ∧ Cond.code M.1 M.2.1 M.2.2.1 M.2.2.2.1 ∈ Ts ∧ Cond.initialized M.1.cls ∈ Ts ∧ (M.1.cls ≠ "java/lang/invoke/MethodHandle" ∧ M.1.cls ≠ "java/lang/invoke/VarHandle") ∧ (parseMethodDescriptor M.1.desc).map (fun d => d.parameters.length) = some M.2.2.2.2 ∧ (match q.2.1 with
  | 0 => Cond.methodLink own q.1 M.1 ∈ Ts ∧ Cond.instanceMethod M.1 ∈ Ts ∧ Cond.selects M.1.cls M.1 M.1 ∈ Ts
  | 1 => Cond.methodLink own q.1 M.1 ∈ Ts ∧ Cond.static M.1 ∈ Ts
  | 2 => Cond.methodLink own q.1 M.1 ∈ Ts ∧ Cond.instanceMethod M.1 ∈ Ts ∧ M.1.name = "<init>" ∧ M.2.2.2.1 = none
  | 3 => ∃ h, (own, q.1, M.1, h) ∈ NM ∧ Cond.instanceMethod M.1 ∈ Ts ∧ Cond.selects M.1.cls M.1 M.1 ∈ Ts
  | 4 => ∃ h, (own, q.1, M.1, h) ∈ NM ∧ Cond.static M.1 ∈ Ts
  | 5 => ∃ h, (own, q.1, M.1, h) ∈ NM ∧ Cond.instanceMethod M.1 ∈ Ts ∧ M.1.name = "<init>" ∧ M.2.2.2.1 = none
  | _ => False)
def ck_avb (I : List ck_I) : List ck_V → List ck_F → Bool
  | [], [] => true
  | V :: Vs, F :: Fs => ck_subF (ck_toF I V) F && ck_avb I Vs Fs
  | _, _ => false
theorem ck_avb_ok : ∀ {Vs : List ck_V} {Fs : List ck_F} {vs : List Value}, ck_avb I Vs Fs = true → ck_gi ν I → ck_gs ν st ws I.length Vs vs → ck_av st ws Fs vs
  | [], [], [], _, _, _ => trivial
  | V :: Vs, F :: Fs, v :: vs, h, hi, hs => by
    simp only [ck_avb, Bool.and_eq_true] at h
    exact ⟨ck_subF_ok h.1 (ck_toF_ok hi hs.1), ck_avb_ok h.2 hi hs.2⟩
  | [], _ :: _, _, h, _, _ => by simp [ck_avb] at h
  | _ :: _, [], _, h, _, _ => by simp [ck_avb] at h
  | [], [], _ :: _, _, _, hs => hs.elim
  | _ :: _, _ :: _, [], _, _, hs => hs.elim
theorem ck_forms_ok : ∀ {Vs : List ck_V} {vs : List Value}, Vs.all ck_one = true → ck_gs ν st ws n Vs vs → (ck_forms Vs).length = (ck_ints vs).length ∧ ∀ (j : Nat) (f : ck_L), (ck_forms Vs)[j]? = some f → ∃ x, (ck_ints vs)[j]? = some x ∧ x.toInt = ck_ev ν f
  | [], [], _, _ => ⟨rfl, fun j f h => by simp [ck_forms] at h⟩
  | .inl f :: Vs, v :: vs, h1, hs => by
    obtain ⟨⟨w, x, rfl, e1⟩, h2⟩ := hs
    simp only [List.all_cons, Bool.and_eq_true] at h1
    obtain ⟨a1, a2⟩ := ck_forms_ok h1.2 h2
    refine ⟨by simp [ck_forms, ck_ints, a1], fun j g hg => ?_⟩
    match j, hg with
    | 0, hg =>
      have e : f = g := by simpa [ck_forms] using hg
      exact ⟨x, rfl, by rw [← e]; exact e1⟩
    | j + 1, hg =>
      obtain ⟨y, b1, b2⟩ := a2 j g (by simpa [ck_forms] using hg)
      exact ⟨y, by simpa [ck_ints] using b1, b2⟩
  | .inr q :: Vs, v :: vs, h1, hs => by
    obtain ⟨hq, h2⟩ := hs
    simp only [List.all_cons, Bool.and_eq_true] at h1
    obtain ⟨a1, a2⟩ := ck_forms_ok h1.2 h2
    rcases ck_refs h1.1 hq with rfl | ⟨a, rfl⟩ <;> exact ⟨a1, a2⟩
  | [], _ :: _, _, hs => hs.elim
  | _ :: _, [], _, hs => hs.elim
theorem ck_gs.split : ∀ {Vs S : List ck_V} {us : List Value}, ck_gs ν st ws n (Vs ++ S) us → ∃ as rest, us = as ++ rest ∧ ck_gs ν st ws n Vs as ∧ ck_gs ν st ws n S rest
  | [], S, us, h => ⟨[], us, rfl, trivial, h⟩
  | V :: Vs, S, [], h => h.elim
  | V :: Vs, S, v :: us, h => by
    obtain ⟨as, rest, h1, h2, h3⟩ := ck_gs.split h.2
    exact ⟨v :: as, rest, by rw [h1]; rfl, ⟨h.1, h2⟩, h3⟩
theorem ck_gs.app : ∀ {Vs S : List ck_V} {as bs : List Value}, ck_gs ν st ws n Vs as → ck_gs ν st ws n S bs → ck_gs ν st ws n (Vs ++ S) (as ++ bs)
  | [], S, [], bs, _, h => h
  | [], S, _ :: _, bs, h, _ => h.elim
  | _ :: _, S, [], bs, h, _ => h.elim
  | V :: Vs, S, v :: as, bs, h, h2 => ⟨h.1, ck_gs.app h.2 h2⟩
theorem ck_gs.rev : ∀ {Vs : List ck_V} {as : List Value}, ck_gs ν st ws n Vs as → ck_gs ν st ws n Vs.reverse as.reverse
  | [], [], h => h
  | [], _ :: _, h => h.elim
  | _ :: _, [], h => h.elim
  | V :: Vs, v :: as, h => by
    rw [List.reverse_cons, List.reverse_cons]
    exact ck_gs.app (ck_gs.rev h.2) ⟨h.1, trivial⟩
theorem ck_gs.len : ∀ {Vs : List ck_V} {as : List Value}, ck_gs ν st ws n Vs as → Vs.length = as.length
  | [], [], _ => rfl
  | [], _ :: _, h => h.elim
  | _ :: _, [], h => h.elim
  | V :: Vs, v :: as, h => by simp [ck_gs.len h.2]
theorem ck_words : ∀ {Vs : List ck_V} {as : List Value}, Vs.all ck_one = true → ck_gs ν st ws n Vs as → (as.map fun v => v.category).sum = Vs.length
  | [], [], _, _ => rfl
  | [], _ :: _, _, h => h.elim
  | _ :: _, [], _, h => h.elim
  | V :: Vs, v :: as, h1, h => by
    simp only [List.all_cons, Bool.and_eq_true] at h1
    simp only [List.map_cons, List.sum_cons, List.length_cons, ck_one_cat h1.1 h.1, ck_words h1.2 h.2]
    omega
/-- one end of a call, seen from the caller -/
def ck_after (co : ck_C) (pc : Nat) (fs : List ck_L) (I : List ck_I) (L : List (Nat × ck_V)) (S : List ck_V) (X : ck_D) (k : Nat × Nat × Nat) (o : ck_O) : Option (List (Nat × ck_S)) :=
  match ck_cutZ I fs o.2.1 with
  | none => some []
  | some J => match o.1 with
    | none => some [(pc + 3, (J, L, S, o.2.2.1 ++ X.filter (fun x => !(co.2.2.2.2.1.contains x.1) && !(co.2.2.2.2.1.contains (x.1.1, 0))), o.2.2.2, k.2.1 + co.2.2.2.2.2.2.2.2.1, k.2.2 + co.2.2.2.2.2.2.2.2.2))]
    | some F => match ck_pushF J F with
      | some r => some [(pc + 3, (r.1, L, r.2 :: S, o.2.2.1 ++ X.filter (fun x => !(co.2.2.2.2.1.contains x.1) && !(co.2.2.2.2.1.contains (x.1.1, 0))), o.2.2.2, k.2.1 + co.2.2.2.2.2.2.2.2.1, k.2.2 + co.2.2.2.2.2.2.2.2.2))]
      | none => none
def ck_ends (co : ck_C) (pc : Nat) (fs : List ck_L) (I : List ck_I) (L : List (Nat × ck_V)) (S : List ck_V) (X : ck_D) (k : Nat × Nat × Nat) : List ck_O → Option (List (Nat × ck_S))
  | [] => some []
  | o :: os => match ck_after co pc fs I L S X k o, ck_ends co pc fs I L S X k os with
    | some a, some b => some (a ++ b)
    | _, _ => none
theorem ck_ends_ok {co : ck_C} {fs : List ck_L} {k : Nat × Nat × Nat} {o : ck_O} : ∀ {os : List ck_O} {xs : List (Nat × ck_S)}, ck_ends co pc fs I L S X k os = some xs → o ∈ os → ∃ a, ck_after co pc fs I L S X k o = some a ∧ ∀ x ∈ a, x ∈ xs
  | [], _, _, ho => by cases ho
  | q :: os, xs, h, ho => by
    unfold ck_ends at h
    split at h
    · rename_i a b ha hb
      cases h
      rcases List.mem_cons.mp ho with rfl | ho
      · exact ⟨a, ha, fun x hx => List.mem_append_left _ hx⟩
      · obtain ⟨a', h1, h2⟩ := ck_ends_ok hb ho
        exact ⟨a', h1, fun x hx => List.mem_append_right _ (h2 x hx)⟩
    · cases h
/-- behind the call -/
theorem ck_behind {co : ck_C} {Vs : List ck_V} {as rest st0 : List Value} {xs : List (Nat × ck_S)} (hone : Vs.all ck_one = true) (hn : n ≤ I.length) (hVs : ck_gs ν st ws I.length Vs as) (hG : ck_G D cl st sh A s nL wr ws0 I L S X nc ν ws tys H locs ls rest) (hwr : ∀ x ∈ co.2.2.2.2.1, x ∈ wr) (hA : ∀ q, s.heap.size ≤ q → A q)
    (hr : va_Run p l e R s m args below meth c H locs mc ms co.2.2.2.2.2.2.2.2.1 co.2.2.2.2.2.2.2.2.2 (F0 m pc ls st0) rest (ck_Post D cl st sh co ws as (va_A ws H.size) as.toArray) (va_A ws H.size))
    (hx : ck_ends co pc (ck_forms Vs) I L S X (nc, mc, ms) co.2.2.2.2.2.1 = some xs) (K : ∀ x ∈ xs, ck_N p l e R s m args below meth c Q D cl st sh A nL wr ws0 n ν x) : W p l e R s m args below meth c H locs mc ms Q (F0 m pc ls st0) := by
  intro T hT Xs
  obtain ⟨v, s0, t, T', Ls, h0, X', hL, e1, e2, ⟨⟨o, ho, r, ws', tys', hv, hrv, hiv, hgd, hw, hfr, hP', hK', hD'⟩, hz, hk⟩, go⟩ := hr T hT Xs
  cases hv
  rw [h0] at hz hk
  obtain ⟨g1, g2, g3, g4, g5, g6, g7, g8, g9, g10⟩ := hG
  obtain ⟨f1, f2⟩ := ck_forms_ok hone hVs
  obtain ⟨J, j1, j2, j3⟩ := ck_cutZ_ok g1 hiv f2 f1
  have hAA : ∀ q, va_A ws H.size q → A q := fun q hq => by
    rcases hq with ⟨k, ee, h⟩ | h
    · exact g8.2 k _ h
    · exact hA q (Nat.le_trans g9.1 h)
  have hal : s.vm.Alike t.vm := by rw [← e2]; exact X'.warmed.alike
  have hS' : va_S A s.heap T'.heap (locs ++ Ls) := ⟨Nat.le_trans g9.1 (by rw [e1]; exact hz), fun q h1 h2 => by
    rw [e1, hk q (Nat.lt_of_lt_of_le h1 g9.1) (fun z => h2 (hAA q z))]; exact g9.2.1 q h1 h2, fun q hq => by
    rcases List.mem_append.mp hq with h | h
    · exact g9.2.2 q h
    · exact hAA _ (hL q h)⟩
  have hG' : ck_G D cl st sh A s nL wr ws0 J L S (o.2.2.1 ++ X.filter (fun x => !(co.2.2.2.2.1.contains x.1) && !(co.2.2.2.2.1.contains (x.1.1, 0)))) o.2.2.2 ν ws' tys' T'.heap (locs ++ Ls) ls rest :=
    ⟨j2, g2.on hfr.on (by omega) (fun _ _ => rfl), g3.on hfr.on (by omega) (fun _ _ => rfl), hgd.app (g4.fr hfr), hw, va_K.moved hal.symm hK', by rw [e1]; exact hP', hD'.weaken (fun _ q _ h => hAA q.1 h), hS', g10.trans (hfr.wide hwr)⟩
  obtain ⟨a, ha, hsub⟩ := ck_ends_ok hx ho
  unfold ck_after at ha
  rw [j1] at ha
  have hn2 : n ≤ J.length := by omega
  obtain ⟨t2, a1, b1⟩ : ∃ t2, Steps p.tables e below (T'.setTop { F0 m pc ls st0 with pc := pc + 3, stack := v.toList ++ rest }) t2 ∧ Q t2 := by
    split at ha
    · rename_i hq0
      cases hq0
    · rename_i J' hJ'
      cases hJ'
      split at ha
      · rename_i ho1
        cases ha
        rw [ho1] at hrv
        cases v with
        | none => exact K _ (hsub _ List.mem_cons_self) ν ws' tys' T'.heap (locs ++ Ls) ls rest (fun _ _ => rfl) hG' T' rfl X'
        | some v => exact hrv.elim
      · rename_i F ho1
        rw [ho1] at hrv
        split at ha
        · rename_i r hpu
          cases ha
          cases v with
          | none => exact hrv.elim
          | some v => exact ck_pushF_ok (pc := pc + 3) hG' hn2 hrv hpu (K _ (hsub _ List.mem_cons_self)) T' rfl X'
        · cases ha
  exact ⟨t2, go t2 a1, b1⟩
end CKL
end
section
/-! THE TABLE RUN, 8: the call itself, the copy of rows, the first constructor -/
section CKI
variable {p : Program} {l : Launch} {e : Env} {R : Room} {s : State} {m : MethodId} {args : Array Value} {below : List Frame} {meth : Method} {c : Code} {Q : State → Prop}
variable {cc : ByteArray} {D : va_G} {cl : List vw_C} {st : Nat → Nat} {sh : List ck_Sh} {A : Nat → Prop} {nL : Nat} {wr : List (Nat × Nat)} {ws0 : va_W}
variable {I I' : List ck_I} {L : List (Nat × ck_V)} {S S' : List ck_V} {X : ck_D} {nc mc ms n : Nat} {ν ν' : Nat → Int} {ws : va_W} {tys : List (ClassId × FieldType)} {H : Heap} {locs : List Loc} {ls : Array Slot} {vs vs' : List Value} {pc : Nat}
variable {Ts : List Cond} {AO : List String} {own : String} {NM : List (String × Nat × MethodName × String)} {SL : List (String × Nat × Nat)} {mts : List ck_MT}
def ck_inv (i : Instr × Nat) : Option (Nat × Nat) := match i with
  | (.invokevirtual x, 3) => some (x, 0)
  | (.invokestatic x, 3) => some (x, 1)
  | (.invokespecial x, 3) => some (x, 2)
  | _ => none
def ck_fitC (co : ck_C) (I : List ck_I) (S : List ck_V) (X : ck_D) (nc : Nat) : Bool := decide (co.2.1 = nc) && ck_avb I (S.take co.2.2.1.length).reverse co.2.2.1 && ck_subD X co.2.2.2.1
/-- the callee's own object: its cell, and that it is of the class that the method is of -/
def ck_self (cl : List vw_C) (sh : List ck_Sh) (M : ck_MT) (o : Nat) (Vs : List ck_V) : Bool := match o, Vs with
  | 1, Vs => decide (Vs.length = M.2.2.2.2)
  | 0, .inr (0, i) :: Vs => decide (Vs.length = M.2.2.2.2) && (match ck_obj sh i with
    | some ob => (match cl[ob.1]? with
      | some r => decide (r.1 = M.1.cls)
      | none => false)
    | none => false)
  | 2, .inr (0, _) :: Vs => decide (Vs.length = M.2.2.2.2)
  | _, _ => false
theorem ck_self0 {M : ck_MT} : ∀ {Vs : List ck_V}, ck_self cl sh M 0 Vs = true → ∃ Us i0, Vs = .inr (0, i0) :: Us ∧ Us.length = M.2.2.2.2 ∧ ∃ ob, ck_obj sh i0 = some ob ∧ ∃ r0, cl[ob.1]? = some r0 ∧ r0.1 = M.1.cls
  | .inr (0, i0) :: Us, h => by
    simp only [ck_self, Bool.and_eq_true, decide_eq_true_eq] at h
    obtain ⟨h1, h2⟩ := h
    split at h2
    · rename_i ob hob
      split at h2
      · rename_i r0 hr0
        exact ⟨Us, i0, rfl, h1, ob, hob, r0, hr0, of_decide_eq_true h2⟩
      · cases h2
    · cases h2
  | [], h => by simp [ck_self] at h
  | .inl _ :: _, h => by simp [ck_self] at h
  | .inr (_ + 1, _) :: _, h => by simp [ck_self] at h
theorem ck_self2 {M : ck_MT} : ∀ {Vs : List ck_V}, ck_self cl sh M 2 Vs = true → ∃ Us i0, Vs = .inr (0, i0) :: Us ∧ Us.length = M.2.2.2.2
  | .inr (0, i0) :: Us, h => ⟨Us, i0, rfl, of_decide_eq_true h⟩
  | [], h => by simp [ck_self] at h
  | .inl _ :: _, h => by simp [ck_self] at h
  | .inr (_ + 1, _) :: _, h => by simp [ck_self] at h
def ck_cal (cl : List vw_C) (mts : List ck_MT) (ml : List (Nat × Nat × Nat)) (cs : List ck_C) (sh : List ck_Sh) (wr : List (Nat × Nat)) (CM SM FM LM : Nat) (pc : Nat) (i : Instr × Nat) (I : List ck_I) (L : List (Nat × ck_V)) (S : List ck_V) (X : ck_D) (k : Nat × Nat × Nat) : Option (List (Nat × ck_S)) := match ck_inv i with
  | none => none
  | some xo => match ml.find? (fun q => q.1 == xo.1) with
    | none => none
    | some q => match mts[q.2.2]? with
      | none => none
      | some M => match cs.find? (fun co => decide (co.1 = q.2.2) && ck_fitC co I S X k.1) with
        | none => none
        | some co => if q.2.1 < 6 ∧ q.2.1 % 3 = xo.2 ∧ ck_self cl sh M xo.2 (S.take co.2.2.1.length).reverse = true ∧ (S.take co.2.2.1.length).all ck_one = true ∧ (S.drop co.2.2.1.length).all ck_one = true ∧ (S.drop co.2.2.1.length).length ≤ 8 ∧ co.2.2.2.2.2.2.1 + 1 ≤ FM ∧ 8 + (M.2.2.1 + 11) + co.2.2.2.2.2.2.2.1 ≤ LM ∧ k.2.1 + co.2.2.2.2.2.2.2.2.1 ≤ CM ∧ k.2.2 + co.2.2.2.2.2.2.2.2.2 ≤ SM ∧ co.2.2.2.2.1.all (fun x => wr.contains x) = true then ck_ends co pc (ck_forms (S.take co.2.2.1.length).reverse) I L (S.drop co.2.2.1.length) X k co.2.2.2.2.2.1 else none
theorem ck_cal_ok {ml : List (Nat × Nat × Nat)} {cs : List ck_C} {CM SM FM LM : Nat} {i : Instr × Nat} {xs : List (Nat × ck_S)} (hx : p.tables.exec = Jvm.exec) (hb : c.code = cc) (hml : c.maxLocals = nL) (hown : s.vm.findClass own = some m.cls) (hts : ∀ w ∈ Ts, w.before args s = true) (hgood : GoodIn Ts Ts) (hamb : ck_amb NM AO SL st s) (hL : ∀ q ∈ ml, q.2.1 < 6 → ck_okL Ts NM mts own q) (hCs : ∀ co ∈ cs, ck_Met l Ts mts D cl NM AO SL st sh co) (hA : ∀ q, s.heap.size ≤ q → A q) (hRc : R.cells = CM) (hRs : R.slots = SM) (hRf : R.frames = FM) (hRl : R.locals = LM) (hd : decode cc pc = .ok i) (h : ck_cal cl mts ml cs sh wr CM SM FM LM pc i I L S X (nc, mc, ms) = some xs) (hn : n ≤ I.length) (hG : ck_G D cl st sh A s nL wr ws0 I L S X nc ν ws tys H locs ls vs)
    (K : ∀ x ∈ xs, ck_N p l e R s m args below meth c Q D cl st sh A nL wr ws0 n ν x) : W p l e R s m args below meth c H locs mc ms Q (F0 m pc ls vs) := by
  have hK := hG.2.2.2.2.2.1
  have hP := hG.2.2.2.2.2.2.1
  have hD := hG.2.2.2.2.2.2.2.1
  unfold ck_cal at h
  split at h
  · cases h
  · rename_i xo hxo
    split at h
    · cases h
    · rename_i q hq
      split at h
      · cases h
      · rename_i M hM
        split at h
        · cases h
        · rename_i co hco
          split at h
          · rename_i hc
            obtain ⟨c0, c1, c2, c3, c4, c5, c6, c7, c8, c9, c10⟩ := hc
            obtain ⟨hmem, e1⟩ := ck_found hq
            have hcm := List.mem_of_find?_eq_some hco
            have hcf := List.find?_some hco
            simp only [Bool.and_eq_true, decide_eq_true_eq, ck_fitC] at hcf
            obtain ⟨hmt, ⟨hnc, hav⟩, hsd⟩ := hcf
            obtain ⟨M', hM', w1, w2, w3, w4, w5⟩ := hL q hmem c0
            have eM : M' = M := Option.some.inj (hM'.symm.trans hM)
            subst eM
            have hgs := hG.gs
            rw [← List.take_append_drop co.2.2.1.length S] at hgs
            obtain ⟨ar, rest, hvs, ga, gr⟩ := hgs.split
            subst hvs
            have gas := ga.rev
            have hone : ((S.take co.2.2.1.length).reverse).all ck_one = true := by rw [List.all_reverse]; exact c3
            have hG' := hG.stk gr
            have hwords := ck_words c4 gr
            have hMet := hCs co hcm M' (by rw [hmt]; exact hM') ws tys ar.reverse H.size (by rw [hnc]; exact hG.2.2.2.2.1) (ck_avb_ok hav hG.gi gas) (ck_subD_ok hsd hG.2.2.2.1)
            have hwr : ∀ x ∈ co.2.2.2.2.1, x ∈ wr := fun x hx => List.contains_iff_mem.mp (List.all_eq_true.mp c10 x hx)
            have hGI : GoodIn Ts (Cond.code M'.1 M'.2.1 M'.2.2.1 M'.2.2.2.1 :: Ts) := fun w hw => by
              rcases List.mem_cons.mp hw with rfl | hw
              · exact hgood _ w1
              · exact hgood _ hw
            have hpre : ∀ U : State, U.heap = H → s.WarmedH U.vm → va_Pc ar.reverse (ck_Pre D cl NM AO SL st tys ws H.size) ar.reverse.toArray U := fun U hU hW => ⟨rfl, by rw [hU], by rw [hU]; exact hP, va_K.moved hW.alike hK, hD.weaken (fun _ _ _ _ => trivial), hamb.warm hW⟩
            have hfit : mc + co.2.2.2.2.2.2.2.2.1 ≤ R.cells ∧ ms + co.2.2.2.2.2.2.2.2.2 ≤ R.slots := ⟨by rw [hRc]; exact c8, by rw [hRs]; exact c9⟩
            have hroom : (ck_rm co).frames + 1 ≤ R.frames ∧ 8 + (M'.2.2.1 + 11) + (ck_rm co).locals ≤ R.locals := ⟨by rw [hRf]; exact c6, by rw [hRl]; exact c7⟩
            have hsz : ls.size = nL := by obtain ⟨lv, hl, -⟩ := hG.2.1; exact hl.1
            have hwd : (rest.map fun v => v.category).sum ≤ 8 := by rw [hwords]; exact c5
            have hst : ∀ (b : Addr) (As : List Value), ar.reverse = .ref b :: As → ar ++ rest = As.reverse ++ .ref b :: rest := fun b As hh => by
              have h1 : ar = (Value.ref b :: As).reverse := by rw [← hh, List.reverse_reverse]
              rw [h1]; simp
            have B : ∀ (y : Nat), CallB R s args own y M'.1 M'.2.1 M'.2.2.1 M'.2.2.2.1 (Cond.code M'.1 M'.2.1 M'.2.2.1 M'.2.2.2.1 :: Ts) (ck_rm co) co.2.2.2.2.2.2.2.2.1 co.2.2.2.2.2.2.2.2.2 M'.2.2.2.2 ∨ ¬ Cond.methodLink own y M'.1 ∈ Ts := fun y => by
              by_cases hm : Cond.methodLink own y M'.1 ∈ Ts
              · exact Or.inl (callB_of M'.2.2.2.2 hts hGI rfl rfl rfl (hts _ w2) (hts _ hm) ⟨w3.1, w3.2, w4⟩ hroom)
              · exact Or.inr hm
            have BN : ∀ (y : Nat) (host : String), (own, y, M'.1, host) ∈ NM → va_CN R s args own y M'.1 host M'.2.1 M'.2.2.1 M'.2.2.2.1 (Cond.code M'.1 M'.2.1 M'.2.2.1 M'.2.2.2.1 :: Ts) (ck_rm co) co.2.2.2.2.2.2.2.2.1 co.2.2.2.2.2.2.2.2.2 M'.2.2.2.2 := fun y host hm => va_cnB M'.2.2.2.2 hts hGI rfl rfl rfl (hamb.1 _ hm) (hts _ w2) ⟨w3.1, w3.2, w4⟩ hroom
            have hfix : CallFix p m c cc nL s args Ts own := ⟨hx, hb, hml, hown, hts⟩
            unfold ck_inv at hxo
            split at hxo
            · cases hxo
              dsimp only at c1 c2 e1
              obtain ⟨Vs, i0, hV, hlenV, ob, hob, r0, hr0, hcls⟩ : ∃ Vs i0, (S.take co.2.2.1.length).reverse = .inr (0, i0) :: Vs ∧ Vs.length = M'.2.2.2.2 ∧ ∃ ob, ck_obj sh i0 = some ob ∧ ∃ r0, cl[ob.1]? = some r0 ∧ r0.1 = M'.1.cls := ck_self0 c2
              have gas2 := gas
              rw [hV] at gas2
              obtain ⟨v, As, hA1, ⟨⟨b, be⟩, hb1, rfl⟩, hA2⟩ := gas2.pop
              obtain ⟨fs, hfs, -⟩ := ck_obj_ok hob hG.2.2.2.2.1 hb1
              dsimp only at hfs
              subst hfs
              have hrec := va_recv hK hP hr0 hb1
              rw [hcls] at hrec
              have hpre2 := hpre
              rw [hA1] at hMet hpre2
              have hlA : As.length = M'.2.2.2.2 := by rw [← hlenV]; exact hA2.len.symm
              rcases (show q.2.1 = 0 ∨ q.2.1 = 3 by omega) with hk0 | hk0
              · rw [hk0] at w5
                obtain ⟨z1, z2, z3⟩ := w5
                rw [e1] at z1
                have cb := (B _).resolve_right (fun z => z z1)
                refine ck_behind (co := co) hone hn gas hG' hwr hA ?_ h K
                rw [hA1]
                exact va_runV hfix hMet ⟨cb, hts _ z2, hts _ z3⟩ ⟨ck_blind, hrec, hpre2⟩ rfl hlA hsz (hst b As hA1) (lv_room hwd) hd hfit
              · rw [hk0] at w5
                obtain ⟨host, z1, z2, z3⟩ := w5
                rw [e1] at z1
                refine ck_behind (co := co) hone hn gas hG' hwr hA ?_ h K
                rw [hA1]
                exact va_runVN hfix hMet ⟨BN _ _ z1, hts _ z2, hts _ z3⟩ ⟨ck_blind, hrec, hpre2⟩ rfl hlA hsz (hst b As hA1) (lv_room hwd) hd hfit
            · cases hxo
              dsimp only at c1 c2 e1
              have hlA : ar.reverse.length = M'.2.2.2.2 := by
                have c3' : (S.take co.2.2.1.length).reverse.length = M'.2.2.2.2 := of_decide_eq_true c2
                rw [← c3']; exact gas.len.symm
              rcases (show q.2.1 = 1 ∨ q.2.1 = 4 by omega) with hk0 | hk0
              · rw [hk0] at w5
                obtain ⟨z1, z2⟩ := w5
                rw [e1] at z1
                have cb := (B _).resolve_right (fun z => z z1)
                exact ck_behind (co := co) hone hn gas hG' hwr hA (va_runS hfix hMet ⟨cb, hts _ z2⟩ ⟨ck_blind, hpre⟩ rfl hlA hsz (by show ar ++ rest = ar.reverse.reverse ++ rest; rw [List.reverse_reverse]) (lv_room hwd) hd hfit) h K
              · rw [hk0] at w5
                obtain ⟨host, z1, z2⟩ := w5
                rw [e1] at z1
                exact ck_behind (co := co) hone hn gas hG' hwr hA (va_runSN hfix hMet ⟨BN _ _ z1, hts _ z2, trivial⟩ ⟨ck_blind, hpre⟩ rfl hlA hsz (by show ar ++ rest = ar.reverse.reverse ++ rest; rw [List.reverse_reverse]) (lv_room hwd) hd hfit) h K
            · cases hxo
              dsimp only at c1 c2 e1
              obtain ⟨Vs, i0, hV, hlenV⟩ : ∃ Vs i0, (S.take co.2.2.1.length).reverse = .inr (0, i0) :: Vs ∧ Vs.length = M'.2.2.2.2 := ck_self2 c2
              have gas2 := gas
              rw [hV] at gas2
              obtain ⟨v, As, hA1, ⟨⟨b, be⟩, hb1, rfl⟩, hA2⟩ := gas2.pop
              have hpre2 := hpre
              rw [hA1] at hMet hpre2
              have hlA : As.length = M'.2.2.2.2 := by rw [← hlenV]; exact hA2.len.symm
              rcases (show q.2.1 = 2 ∨ q.2.1 = 5 by omega) with hk0 | hk0
              · rw [hk0] at w5
                obtain ⟨z1, z2, z3, z4⟩ := w5
                rw [e1] at z1
                have cb := (B _).resolve_right (fun z => z z1)
                rw [z4] at hMet cb
                refine ck_behind (co := co) hone hn gas hG' hwr hA ?_ h K
                rw [hA1]
                exact va_runI hfix hMet ⟨cb, z3, hts _ z2⟩ ⟨ck_blind, hpre2⟩ rfl hlA hsz (hst b As hA1) (lv_room hwd) hd hfit
              · rw [hk0] at w5
                obtain ⟨host, z1, z2, z3, z4⟩ := w5
                rw [e1] at z1
                have cb := BN _ _ z1
                rw [z4] at hMet cb
                refine ck_behind (co := co) hone hn gas hG' hwr hA ?_ h K
                rw [hA1]
                exact va_runIN hfix hMet ⟨cb, z3, hts _ z2⟩ ⟨ck_blind, hpre2⟩ rfl hlA hsz (hst b As hA1) (lv_room hwd) hd hfit
            · cases hxo
          · cases h
end CKI
end
section
/-! THE TABLE RUN, 9: the copy of rows, the first constructor, returns -/
section CKE
variable {p : Program} {l : Launch} {e : Env} {R : Room} {s : State} {m : MethodId} {args : Array Value} {below : List Frame} {meth : Method} {c : Code} {Q : State → Prop}
variable {cc : ByteArray} {D : va_G} {cl : List vw_C} {st : Nat → Nat} {sh : List ck_Sh} {A : Nat → Prop} {nL : Nat} {wr : List (Nat × Nat)} {ws0 : va_W}
variable {I I' : List ck_I} {L : List (Nat × ck_V)} {S S' : List ck_V} {X : ck_D} {nc mc ms n : Nat} {ν ν' : Nat → Int} {ws : va_W} {tys : List (ClassId × FieldType)} {H : Heap} {locs : List Loc} {ls : Array Slot} {vs vs' : List Value} {pc : Nat}
variable {Ts : List Cond} {own : String}
def ck_cpX (X : ck_D) (a b : Nat) : ck_D := X.filterMap fun x => if x.1.1 = b then (match ck_look X a 0 with
  | some F => (ck_join x.2 F).map fun G => (x.1, G)
  | none => none) else some x
theorem ck_setany {i a0 a N : Nat} {cA : ClassId} {cn cn' : ck_Cn} (hG : ck_G D cl st sh A s nL wr ws0 I L S X nc ν ws tys H locs ls vs) (hi : ws[i]? = some (a, .inl (cA, N, cn))) (hel : ∀ q, q < N → ck_elem cn' q = ck_elem cn q ∨ ∀ F, ck_look X a0 0 = some F → ck_fv st ws F (ck_elem cn' q)) (hcn : ∀ ty, ck_cnt ty cn → ck_cnt ty cn') (hwr : (i, 0) ∈ wr) {H1 : Heap} {locs1 : List Loc} (hP : va_P D cl (ws.set i (a, .inl (cA, N, cn'))) H1) (hD : va_D A (ws.set i (a, .inl (cA, N, cn')))) (hS : va_S A s.heap H1 locs1) : ck_G D cl st sh A s nL wr ws0 I L S (ck_cpX X a0 i) nc ν (ws.set i (a, .inl (cA, N, cn'))) tys H1 locs1 ls vs := by
  obtain ⟨h1, h2, h3, h4, h5, h6, h7, h8, h9, h10⟩ := hG
  have ho := ck_on.set (e' := .inl (cA, N, cn')) hi
  have hfr : ck_fr wr ws (ws.set i (a, .inl (cA, N, cn'))) := ck_fr.set hi (fun j hj h0 w hw => absurd hwr h0)
  refine ⟨h1, h2.on ho (Nat.le_refl _) (fun _ _ => rfl), h3.on ho (Nat.le_refl _) (fun _ _ => rfl), ?_, h5.set hi ?_, h6, hP, hD, hS, h10.trans hfr⟩
  · intro y hy
    obtain ⟨x, hx, hxy⟩ := List.mem_filterMap.mp hy
    obtain ⟨q, hq, hv'⟩ := h4 x hx
    by_cases hc : x.1.1 = i
    · rw [if_pos hc] at hxy
      rw [hc] at hq
      have eq : q = (a, .inl (cA, N, cn)) := Option.some.inj (hq.symm.trans hi)
      subst eq
      have hnew : (ws.set i (a, .inl (cA, N, cn')))[i]? = some (a, .inl (cA, N, cn')) := List.getElem?_set_self (List.getElem?_eq_some_iff.mp hi).1
      cases hF : ck_look X a0 0 with
      | none => rw [hF] at hxy; cases hxy
      | some F =>
        rw [hF] at hxy
        dsimp only at hxy
        cases hjn : ck_join x.2 F with
        | none => rw [hjn] at hxy; cases hxy
        | some G =>
          rw [hjn] at hxy
          cases hxy
          refine ⟨_, by rw [hc]; exact hnew, fun w hw => ?_⟩
          dsimp only at hw
          have key : ∀ k, k < N → w = ck_elem cn' k → (ck_slot (.inl (cA, N, cn)) x.1.2 (ck_elem cn k)) → ck_fv st (ws.set i (a, .inl (cA, N, cn'))) G w := fun k hk ew hs => by
            rw [ew]
            rcases hel k hk with z | z
            · rw [z]
              exact (ck_join_ok hjn (Or.inl (hv' _ hs))).on ho
            · exact (ck_join_ok hjn (Or.inr (z F hF))).on ho
          match hx2 : x.1.2, hw with
          | 0, hw =>
            obtain ⟨k, hk, ew⟩ := hw
            exact key k hk ew (by rw [hx2]; exact ⟨k, hk, rfl⟩)
          | k + 1, hw =>
            obtain ⟨hk, ew⟩ := hw
            exact key k hk ew (by rw [hx2]; exact ⟨hk, rfl⟩)
    · rw [if_neg hc] at hxy
      cases hxy
      exact ⟨q, by rw [List.getElem?_set_ne (fun z => hc z.symm)]; exact hq, fun w hw => (hv' w hw).on ho⟩
  · intro S hs
    rcases S with o | r
    · exact hs.elim
    · exact ⟨hs.1, hs.2.1, hcn _ hs.2.2⟩
def ck_okY (Ts : List Cond) (own : String) (q : Nat × Nat × Nat) : Prop := (q.2.1 = 6 → Cond.methodLink own q.1 arraycopyName ∈ Ts ∧ Cond.native arraycopyName ∈ Ts ∧ Cond.static arraycopyName ∈ Ts ∧ Cond.initialized "java/lang/System" ∈ Ts) ∧ (q.2.1 = 7 → Cond.methodLink own q.1 Lib.objectInit ∈ Ts ∧ Cond.instanceMethod Lib.objectInit ∈ Ts ∧ Cond.code Lib.objectInit ⟨#[0xb1]⟩ 1 none ∈ Ts) ∧ (q.2.1 = 8 → Cond.methodLink own q.1 Lib.Math.min.name ∈ Ts ∧ Cond.static Lib.Math.min.name ∈ Ts ∧ Cond.initialized "java/lang/Math" ∈ Ts ∧ Cond.code Lib.Math.min.name Lib.Math.min.code 2 (some .int) ∈ Ts)
/-- the less of two -/
def ck_min (I : List ck_I) (f g : ck_L) : List ck_I × ck_L := ck_two (fun x y => if y < x then y else x) I f g (ck_btw I (min (ck_rng I f).1 (ck_rng I g).1) (min (ck_rng I f).2 (ck_rng I g).2))
theorem ck_min_ok {f g : ck_L} {x y : Int32} (h : ck_gi ν I) (hx : x.toInt = ck_ev ν f) (hy : y.toInt = ck_ev ν g) : ck_res ν I (ck_min I f g).1 (ck_min I f g).2 (if y < x then y else x).toInt := by
  have rx := ck_rng32 h hx
  have ry := ck_rng32 h hy
  refine ck_two_ok (o := fun x y => if y < x then y else x) h hx hy ?_
  show ck_res ν I _ _ (if y < x then y else x).toInt
  by_cases hc : y < x
  · have hc' := Int32.lt_iff_toInt_lt.mp hc
    rw [if_pos hc]
    exact ck_btw_ok h (by omega) (by omega)
  · have hc' : ¬ y.toInt < x.toInt := fun q => hc (Int32.lt_iff_toInt_lt.mpr q)
    rw [if_neg hc]
    exact ck_btw_ok h (by omega) (by omega)
def ck_y (ml : List (Nat × Nat × Nat)) (sh : List ck_Sh) (wr : List (Nat × Nat)) (CM SM FM LM : Nat) (pc : Nat) (i : Instr × Nat) (I : List ck_I) (L : List (Nat × ck_V)) (S : List ck_V) (X : ck_D) (k : Nat × Nat × Nat) : Option (List (Nat × ck_S)) := match i, S with
  | (.invokestatic x, 3), .inl g :: .inl f2 :: .inr (0, b) :: .inl f1 :: .inr (0, a) :: S => match ml.find? (fun q => q.1 == x), ck_row sh a, ck_row sh b with
    | some q, some (.int, n0), some (.int, n1) => if q.2.1 = 6 ∧ 0 ≤ (ck_rng I g).1 ∧ 0 ≤ (ck_rng I f1).1 ∧ 0 ≤ (ck_rng I f2).1 ∧ (ck_rng I f1).2 + (ck_rng I g).2 ≤ (n0 : Int) ∧ (ck_rng I f2).2 + (ck_rng I g).2 ≤ (n1 : Int) ∧ wr.contains (b, 0) = true ∧ 1 ≤ FM ∧ S.all ck_one = true ∧ S.length + (nativeFrameWords "java/lang/System" "arraycopy" 5 + 11) ≤ LM then some [(pc + 3, (I, L, S, ck_cpX X a b, k))] else none
    | _, _, _ => none
  | (.invokespecial x, 3), .inr (0, _) :: S => match ml.find? (fun q => q.1 == x) with
    | some q => if q.2.1 = 7 ∧ 1 ≤ FM ∧ S.all ck_one = true ∧ S.length + 12 ≤ LM then some [(pc + 3, (I, L, S, X, k))] else none
    | none => none
  | (.invokestatic x, 3), .inl g :: .inl f :: S => match ml.find? (fun q => q.1 == x) with
    | some q => if q.2.1 = 8 ∧ 1 ≤ FM ∧ S.all ck_one = true ∧ S.length + 13 ≤ LM ∧ k.2.1 ≤ CM ∧ k.2.2 ≤ SM then some [(pc + 3, ((ck_min I f g).1, L, .inl (ck_min I f g).2 :: S, X, k))] else none
    | none => none
  | _, _ => none
theorem ck_y_ok {ml : List (Nat × Nat × Nat)} {CM SM FM LM : Nat} {i : Instr × Nat} {xs : List (Nat × ck_S)} (hx : p.tables.exec = Jvm.exec) (hb : c.code = cc) (hml : c.maxLocals = nL) (hown : s.vm.findClass own = some m.cls) (hts : ∀ w ∈ Ts, w.before args s = true) (hY : ∀ q ∈ ml, ck_okY Ts own q) (hRc : R.cells = CM) (hRs : R.slots = SM) (hRf : R.frames = FM) (hRl : R.locals = LM) (hd : decode cc pc = .ok i) (h : ck_y ml sh wr CM SM FM LM pc i I L S X (nc, mc, ms) = some xs) (hn : n ≤ I.length) (hG : ck_G D cl st sh A s nL wr ws0 I L S X nc ν ws tys H locs ls vs)
    (K : ∀ x ∈ xs, ck_N p l e R s m args below meth c Q D cl st sh A nL wr ws0 n ν x) : W p l e R s m args below meth c H locs mc ms Q (F0 m pc ls vs) := by
  have hK := hG.2.2.2.2.2.1
  have hP := hG.2.2.2.2.2.2.1
  have hD := hG.2.2.2.2.2.2.2.1
  have hS := hG.2.2.2.2.2.2.2.2.1
  have hsz : ls.size = nL := by obtain ⟨lv, hl, -⟩ := hG.2.1; exact hl.1
  unfold ck_y at h
  split at h
  · split at h
    · rename_i q n0 n1 hq hr0 hr1
      split at h
      · rename_i hc
        obtain ⟨c0, c1, c2, c3, c4, c5, c6, c7, c8, c9⟩ := hc
        cases h
        obtain ⟨hmem, e1⟩ := ck_found hq
        obtain ⟨y1, y2, y3, y4⟩ := (hY q hmem).1 c0
        rw [e1] at y1
        obtain ⟨v, vs1, rfl, ⟨w1, z, rfl, ez⟩, g1⟩ := hG.gs.pop
        obtain ⟨v, vs2, rfl, ⟨w2, dp, rfl, ed⟩, g2⟩ := g1.pop
        obtain ⟨v, vs3, rfl, ⟨⟨ab, eb⟩, hb1, rfl⟩, g3⟩ := g2.pop
        obtain ⟨v, vs4, rfl, ⟨w4, sp, rfl, es⟩, g4⟩ := g3.pop
        obtain ⟨v, vs5, rfl, ⟨⟨aa, ea⟩, ha1, rfl⟩, g5⟩ := g4.pop
        obtain ⟨cA0, cn0, t0, p1, p2, p3⟩ := ck_row_ok hr0 hG.2.2.2.2.1 ha1
        obtain ⟨cA1, cn1, t1, q1, q2, q3⟩ := ck_row_ok hr1 hG.2.2.2.2.1 hb1
        dsimp only at p1 p2 q1 q2
        subst p1
        subst q1
        have rz := ck_rng32 hG.gi ez
        have rd := ck_rng32 hG.gi ed
        have rs := ck_rng32 hG.gi es
        rcases cn0 with f | cn0
        · rcases cn1 with g | cn1
          · have z0 : (0 : Int32).toInt = 0 := rfl
            have nn : ∀ {x : Int32}, 0 ≤ x.toInt → ¬ x < 0 := fun hx0 hx1 => by have := Int32.lt_iff_toInt_lt.mp hx1; omega
            have tc : ∀ x : Int32, x.toNatClampNeg = x.toInt.toNat := fun _ => rfl
            have hw := ck_words c8 g5
            refine va_copyi hx hb (hml.trans hsz.symm) hown (hts _ y1) (hts _ y2) (hts _ y3) (hts _ y4) hK hP hD hS _ _ t0 t1 ha1 hb1 p2 q2 rfl (nn (by omega)) (nn (by omega)) (nn (by omega)) (by rw [tc, tc]; omega) (by rw [tc, tc]; omega) (fun _ _ => rfl) (by rw [hRf]; exact c7) (by rw [hRl, hw]; exact c9) hd (fun H1 locs1 hP1 hD1 hS1 => K _ List.mem_cons_self ν _ tys H1 locs1 ls vs5 (fun _ _ => rfl) (ck_setany (hG.stk g5) hb1 ?_ (fun ty hty => by cases ty <;> exact hty) (List.contains_iff_mem.mp c6) hP1 hD1 hS1))
            intro j hj
            by_cases hin : dp.toNatClampNeg ≤ j ∧ j < dp.toNatClampNeg + z.toNatClampNeg
            · refine Or.inr (fun F hF => ?_)
              show ck_fv st ws F (.int (va_cpy f g _ _ _ j))
              rw [pk_cpy_in hin.1 hin.2]
              refine ck_look_ok hF hG.2.2.2.1 ha1 ⟨sp.toNatClampNeg + (j - dp.toNatClampNeg), ?_, rfl⟩
              rw [tc, tc] at hin
              show _ < n0
              rw [tc, tc]
              omega
            · refine Or.inl ?_
              show Value.int (va_cpy f g _ _ _ j) = .int (g j)
              rw [pk_cpy_out (by omega)]
          · exact q3.elim
        · exact p3.elim
      · cases h
    · cases h
  · split at h
    · rename_i q hq
      split at h
      · rename_i hc
        obtain ⟨c0, c7, c8, c9⟩ := hc
        cases h
        obtain ⟨hmem, e1⟩ := ck_found hq
        obtain ⟨y1, y2, y3⟩ := (hY q hmem).2.1 c0
        rw [e1] at y1
        obtain ⟨v, vs1, rfl, ⟨a, ha, rfl⟩, g1⟩ := hG.gs.pop
        have hw := ck_words c8 g1
        have hroom : 2 * (F0 m pc ls (Value.ref a.1 :: vs1)).monitorRoom + (vs1.map fun v => v.category).sum + 12 ≤ R.locals := by
          rw [hw, hRl]
          show 2 * 0 + _ + 12 ≤ _
          omega
        exact W.objInit hx hb hown (hts _ y1) (hts _ y2) (hts _ y3) rfl (hsz.trans hml.symm) rfl hd (by rw [hRf]; exact c7) hroom (K _ List.mem_cons_self ν ws tys H locs ls vs1 (fun _ _ => rfl) (hG.stk g1))
      · cases h
    · cases h
  · split at h
    · rename_i q hq
      split at h
      · rename_i hc
        obtain ⟨c0, c7, c8, c9, c10, c11⟩ := hc
        cases h
        obtain ⟨hmem, e1⟩ := ck_found hq
        obtain ⟨y1, y2, y3, y4⟩ := (hY q hmem).2.2 c0
        rw [e1] at y1
        obtain ⟨v, vs1, rfl, ⟨w1, y, rfl, ey⟩, g1⟩ := hG.gs.pop
        obtain ⟨v, vs2, rfl, ⟨w2, x, rfl, ex⟩, g2⟩ := g1.pop
        have hw := ck_words c8 g2
        exact va_mmin hx hb (hml.trans hsz.symm) hown (hts _ y1) (hts _ y2) (hts _ y3) (hts _ y4) (by rw [hRf]; exact c7) (by rw [hRl, hw]; exact c9) (by rw [hRc]; exact c10) (by rw [hRs]; exact c11) hd (ck_pushv (hG.stk g2) hn (ck_min_ok hG.gi ex ey) (K _ List.mem_cons_self))
      · cases h
    · cases h
  · cases h
/-! returns -/
def ck_intsOk (I : List ck_I) : Nat → List (Int × Int) → Bool
  | _, [] => true
  | k, z :: zs => (match I[k]? with
    | some q => decide (z.1 ≤ q.1) && decide (q.2.1 ≤ z.2)
    | none => false) && ck_intsOk I (k + 1) zs
theorem ck_intsOk_ok : ∀ {zs : List (Int × Int)} {xs : List Int32} {k : Nat}, ck_intsOk I k zs = true → ck_gi ν I → zs.length = xs.length → (∀ (j : Nat) (x : Int32), xs[j]? = some x → ν (k + j) = x.toInt) → ck_iv zs xs
  | [], [], _, _, _, _, _ => trivial
  | z :: zs, x :: xs, k, h, hi, hl, hν => by
    simp only [ck_intsOk, Bool.and_eq_true] at h
    obtain ⟨h1, h2⟩ := h
    have e : ν k = x.toInt := by simpa using hν 0 x rfl
    split at h1
    · rename_i q hq
      simp only [Bool.and_eq_true, decide_eq_true_eq] at h1
      obtain ⟨a1, a2, -, -⟩ := hi k q hq
      refine ⟨by omega, by omega, ck_intsOk_ok h2 hi (by simpa using hl) (fun j y hy => ?_)⟩
      have := hν (j + 1) y (by simpa using hy)
      rw [← this]; congr 1; omega
    · cases h1
  | [], _ :: _, _, _, _, hl, _ => by simp at hl
  | _ :: _, [], _, _, _, hl, _ => by simp at hl
def ck_end (outs : List ck_O) (n0 : Nat) (I : List ck_I) (V : Option ck_V) (X : ck_D) (nc : Nat) : Bool := outs.any fun o => decide (o.2.2.2 = nc) && decide (o.2.1.length = n0) && (match V, o.1 with
  | none, none => true
  | some V, some F => ck_subF (ck_toF I V) F
  | _, _ => false) && ck_intsOk I 0 o.2.1 && ck_subD X o.2.2.1
def ck_ret (co : ck_C) (ret : Option FieldType) (n0 : Nat) (i : Instr × Nat) (I : List ck_I) (S : List ck_V) (X : ck_D) (k : Nat × Nat × Nat) : Bool := match i, S with
  | (.ireturn, 1), [.inl f] => (match ret with
    | some .int => true
    | some .boolean => decide (0 ≤ (ck_rng I f).1) && decide ((ck_rng I f).2 ≤ 1)
    | _ => false) && ck_end co.2.2.2.2.2.1 n0 I (some (.inl f)) X k.1 && decide (k.2.1 ≤ co.2.2.2.2.2.2.2.2.1) && decide (k.2.2 ≤ co.2.2.2.2.2.2.2.2.2)
  | (.areturn, 1), [.inr q] => (match ret with
    | some (.object _) => true
    | some (.array _) => true
    | _ => false) && ck_one (.inr q) && ck_end co.2.2.2.2.2.1 n0 I (some (.inr q)) X k.1 && decide (k.2.1 ≤ co.2.2.2.2.2.2.2.2.1) && decide (k.2.2 ≤ co.2.2.2.2.2.2.2.2.2)
  | (.return_, 1), [] => (match ret with
    | none => true
    | _ => false) && ck_end co.2.2.2.2.2.1 n0 I none X k.1 && decide (k.2.1 ≤ co.2.2.2.2.2.2.2.2.1) && decide (k.2.2 ≤ co.2.2.2.2.2.2.2.2.2)
  | _, _ => false
theorem ck_end_ok {co : ck_C} {n0 : Nat} {V : Option ck_V} {v : Option Value} {as : List Value} (h : ck_end co.2.2.2.2.2.1 n0 I V X nc = true) (hG : ck_G D cl st sh (va_A ws0 s.heap.size) s nL co.2.2.2.2.1 ws0 I L S X nc ν ws tys H locs ls vs) (hV : match V, v with
    | none, none => True
    | some V, some v => ck_gv ν st ws I.length V v
    | _, _ => False) (hn0 : (ck_ints as).length = n0) (hν : ∀ (j : Nat) (x : Int32), (ck_ints as)[j]? = some x → ν j = x.toInt) {t : State} (ht : t.heap = H) (hW : s.WarmedH t.vm) (args' : Array Value) : ck_Post D cl st sh co ws0 as (va_A ws0 s.heap.size) args' s (.returned v) t := by
  obtain ⟨o, ho, hh⟩ := List.any_eq_true.mp h
  simp only [Bool.and_eq_true, decide_eq_true_eq] at hh
  obtain ⟨⟨⟨⟨h1, h2⟩, h3⟩, h4⟩, h5⟩ := hh
  obtain ⟨g1, g2, g3, g4, g5, g6, g7, g8, g9, g10⟩ := hG
  refine ⟨⟨o, ho, v, ws, tys, rfl, ?_, ck_intsOk_ok h4 g1 (by omega) (fun j x hx => by rw [Nat.zero_add]; exact hν j x hx), ck_subD_ok h5 g4, by rw [h1]; exact g5, g10, by rw [ht]; exact g7, va_K.moved hW.alike g6, g8⟩, by rw [ht]; exact g9.1, fun q hq hA => by rw [ht]; exact g9.2.1 q hq hA⟩
  cases V with
  | none =>
    cases v with
    | none =>
      cases ho1 : o.1 with
      | none => trivial
      | some F => rw [ho1] at h3; cases h3
    | some v => exact hV.elim
  | some V =>
    cases v with
    | none => exact hV.elim
    | some v =>
      cases ho1 : o.1 with
      | none => rw [ho1] at h3; cases h3
      | some F =>
        rw [ho1] at h3
        exact ck_subF_ok h3 (ck_toF_ok g1 hV)
theorem ck_ret_ok {co : ck_C} {ret : Option FieldType} {n0 : Nat} {i : Instr × Nat} {as : List Value} (hx : p.tables.exec = Jvm.exec) (hb : c.code = cc) (hr : meth.sig.returnType = ret) (hlocks : meth.locks = false) (hn0 : (ck_ints as).length = n0) (hd : decode cc pc = .ok i) (h : ck_ret co ret n0 i I S X (nc, mc, ms) = true) (hν : ∀ (j : Nat) (x : Int32), (ck_ints as)[j]? = some x → ν j = x.toInt) (hG : ck_G D cl st sh (va_A ws0 s.heap.size) s nL co.2.2.2.2.1 ws0 I L S X nc ν ws tys H locs ls vs) :
    W p l e R s m args below meth c H locs mc ms (MQ below (ck_Post D cl st sh co ws0 as (va_A ws0 s.heap.size)) args s co.2.2.2.2.2.2.2.2.1 co.2.2.2.2.2.2.2.2.2 (va_A ws0 s.heap.size)) (F0 m pc ls vs) := by
  have hf : ∀ q ∈ locs, va_A ws0 s.heap.size q.base := hG.2.2.2.2.2.2.2.2.1.2.2
  unfold ck_ret at h
  split at h
  · simp only [Bool.and_eq_true, decide_eq_true_eq] at h
    obtain ⟨⟨⟨h1, h2⟩, h3⟩, h4⟩ := h
    obtain ⟨v, vs1, rfl, hv, g1⟩ := hG.gs.pop
    have hv' := hv
    obtain ⟨w, x, rfl, e1⟩ := hv'
    cases vs1 with
    | cons a b => exact g1.elim
    | nil =>
      refine W.widen h3 h4 ?_
      have rx := ck_rng32 hG.gi e1
      split at h1
      · exact W.zret hx hb hr rfl (fun t ht hW => ck_end_ok h2 hG hv hn0 hν ht hW _) hf hd hlocks
      · simp only [Bool.and_eq_true, decide_eq_true_eq] at h1
        refine W.zret hx hb hr ?_ (fun t ht hW => ck_end_ok h2 hG hv hn0 hν ht hW _) hf hd hlocks
        rcases (show x.toInt = 0 ∨ x.toInt = 1 by omega) with q | q
        · have ex : x = 0 := Int32.toInt_inj.mp q
          rw [ex]; rfl
        · have ex : x = 1 := Int32.toInt_inj.mp q
          rw [ex]; rfl
      · cases h1
  · simp only [Bool.and_eq_true, decide_eq_true_eq] at h
    obtain ⟨⟨⟨⟨h1, h0⟩, h2⟩, h3⟩, h4⟩ := h
    obtain ⟨v, vs1, rfl, hv, g1⟩ := hG.gs.pop
    cases vs1 with
    | cons a b => exact g1.elim
    | nil =>
      refine W.widen h3 h4 ?_
      split at h1
      · exact W.aret hx hb hr (Or.inl ⟨_, rfl⟩) (ck_refs h0 hv) (fun t ht hW => ck_end_ok h2 hG hv hn0 hν ht hW _) hf hd hlocks
      · exact W.aret hx hb hr (Or.inr ⟨_, rfl⟩) (ck_refs h0 hv) (fun t ht hW => ck_end_ok h2 hG hv hn0 hν ht hW _) hf hd hlocks
      · cases h1
  · simp only [Bool.and_eq_true, decide_eq_true_eq] at h
    obtain ⟨⟨⟨h1, h2⟩, h3⟩, h4⟩ := h
    have g1 := hG.gs
    cases vs with
    | cons a b => exact g1.elim
    | nil =>
      refine W.widen h3 h4 ?_
      split at h1
      · exact W.vret hx hb hr (fun t ht hW => ck_end_ok (V := none) (v := none) h2 hG trivial hn0 hν ht hW _) hf hd hlocks
      · cases h1
  · cases h
end CKE
end
section
/-! THE TABLE RUN, 10: the run itself, with loops by their heads -/
/-- a head: its place, what is known there, the symbol that goes up (0) or down (1); 2: no loop, only a place to begin anew -/
abbrev ck_Hd : Type := Nat × ck_S × Nat × Nat
/-- tables of a method: fields, objects, types of fields, rows, rows of objects, places of rows looked at one by one, constants, literals, methods linked -/
abbrev ck_T : Type := List ck_FL × List (Nat × Nat) × List (List FieldType) × List FieldType × List (Nat × String) × List (Nat × List Nat) × List (Nat × Int) × List (Nat × Nat) × List (Nat × Nat × Nat)
def ck_step (cl : List vw_C) (mts : List ck_MT) (sh : List ck_Sh) (T : ck_T) (cs : List ck_C) (wr : List (Nat × Nat)) (ini : Bool) (nL CM SM FM LM : Nat) (rt : Instr × Nat → List ck_I → List ck_V → ck_D → Nat × Nat × Nat → Bool) (cc : ByteArray) (pc : Nat) (I : List ck_I) (L : List (Nat × ck_V)) (S : List ck_V) (X : ck_D) (k : Nat × Nat × Nat) : Option (List (Nat × ck_S)) := match decode cc pc with
  | .ok i => match ck_a pc i I L S X k with
    | some xs => some xs
    | none => match ck_b nL pc i I L S X k with
      | some xs => some xs
      | none => match ck_c pc i I L S X k with
        | some xs => some xs
        | none => match ck_d pc i I L S X k with
          | some xs => some xs
          | none => match ck_e pc i I L S X k with
            | some xs => some xs
            | none => match ck_f T.1 sh wr ini pc i I L S X k with
              | some xs => some xs
              | none => match ck_ld sh pc i I L S X k with
                | some xs => some xs
                | none => match ck_sr cl sh wr pc i I L S X k with
                  | some xs => some xs
                  | none => match ck_cal cl mts T.2.2.2.2.2.2.2.2 cs sh wr CM SM FM LM pc i I L S X k with
                    | some xs => some xs
                    | none => match ck_y T.2.2.2.2.2.2.2.2 sh wr CM SM FM LM pc i I L S X k with
                      | some xs => some xs
                      | none => match ck_n T.2.1 T.2.2.1 T.2.2.2.1 T.2.2.2.2.1 T.2.2.2.2.2.1 sh CM SM pc i I L S X k with
                        | some xs => some xs
                        | none => match ck_ldc T.2.2.2.2.2.2.1 T.2.2.2.2.2.2.2.1 pc i I L S X k with
                          | some xs => some xs
                          | none => if rt i I S X k = true then some [] else none
  | _ => none
/-- what the places of a head's table are, told by the table that comes to it -/
def ck_uni (t : List (Option ck_L)) (Vh V : ck_V) : Option (List (Option ck_L)) := match Vh, V with
  | .inr a, .inr b => if a = b then some t else none
  | .inl h, .inl f => if h.2.1 = 0 then (if f.2.1 = 0 ∧ f.2.2 = h.2.2 then some t else none)
    else if h.2.1 = 1 ∧ h.2.2 = 0 then (match t[h.1]? with
      | some none => some (t.set h.1 (some f))
      | some (some g) => if g = f then some t else none
      | none => none)
    else none
  | _, _ => none
def ck_uniL (L : List (Nat × ck_V)) : List (Option ck_L) → List (Nat × ck_V) → Option (List (Option ck_L))
  | t, [] => some t
  | t, q :: Lh => match ck_get L q.1 with
    | some V => match ck_uni t q.2 V with
      | some t' => ck_uniL L t' Lh
      | none => none
    | none => none
def ck_uniS : List (Option ck_L) → List ck_V → List ck_V → Option (List (Option ck_L))
  | t, [], [] => some t
  | t, Vh :: Sh, V :: S => match ck_uni t Vh V with
    | some t' => ck_uniS t' Sh S
    | none => none
  | _, _, _ => none
def ck_id (n : Nat) : List (Option ck_L) := (List.range n).map fun j => some (j, 1, 0)
def ck_bnd (I : List ck_I) : List ck_I → List (Option ck_L) → Bool
  | [], [] => true
  | q :: Ih, some f :: t => decide (q.2.2.1 = 0) && decide (q.1 ≤ (ck_rng I f).1) && decide ((ck_rng I f).2 ≤ q.2.1) && ck_bnd I Ih t
  | _, _ => false
def ck_wfT (n : Nat) (t : List (Option ck_L)) : Bool := t.all fun o => match o with
  | some f => decide (f.2.1 = 0) || decide (f.1 < n)
  | none => false
/-- the table σ is one of those that the head's table speaks of, the first n symbols being the same -/
def ck_subS (n : Nat) (σ h : ck_S) : Option (List (Option ck_L)) := match ck_uniL σ.2.1 (ck_id n ++ List.replicate (h.1.length - n) none) h.2.1 with
  | some t => match ck_uniS t h.2.2.1 σ.2.2.1 with
    | some t => if n ≤ h.1.length ∧ ck_bnd σ.1 h.1 t = true ∧ ck_wfT σ.1.length t = true ∧ ck_subD σ.2.2.2.1 h.2.2.2.1 = true ∧ σ.2.2.2.2.1 = h.2.2.2.2.1 ∧ σ.2.2.2.2.2.1 ≤ h.2.2.2.2.2.1 ∧ σ.2.2.2.2.2.2 ≤ h.2.2.2.2.2.2 then some t else none
    | none => none
  | none => none
/-- the loop's symbol has moved on -/
def ck_more (I : List ck_I) (μ d : Nat) (t : List (Option ck_L)) : Bool := match t[μ]? with
  | some (some f) => decide (f.2.1 = 1) && (if f.1 = μ then (if d = 0 then decide (1 ≤ f.2.2) else decide (f.2.2 ≤ -1)) else (match I[f.1]? with
    | some q => decide (q.2.2.2.1 = μ) && decide (q.2.2.2.2.1 = 1) && (if d = 0 then decide (q.2.2.1 = 1) && decide (1 ≤ f.2.2 + q.2.2.2.2.2) else decide (q.2.2.1 = 2) && decide (f.2.2 + q.2.2.2.2.2 ≤ -1))
    | none => false))
  | _ => false
def ck_run (step : Nat → List ck_I → List (Nat × ck_V) → List ck_V → ck_D → Nat × Nat × Nat → Option (List (Nat × ck_S))) (hs : List ck_Hd) (sp : List (Nat × Nat × Int)) (lv : List (Nat × ck_S)) : Nat → List (ck_Hd × Nat) → Nat → Nat → ck_S → Bool
  | 0, _, _, _, _ => false
  | fuel + 1, Γ, kp, pc, σ => decide (kp ≤ σ.1.length) && match lv.find? (fun x => x.1 == pc) with
    | some x => (ck_subS kp σ x.2).isSome
    | none => match sp.find? (fun q => q.1 == pc && (match σ.1[q.2.1]? with
      | some r => decide (r.1 ≤ q.2.2) && decide (q.2.2 < r.2.1)
      | none => false)) with
    | some q => (match ck_cutHi σ.1 q.2.1 q.2.2 with
        | some J => ck_run step hs sp lv fuel Γ kp pc (J, σ.2)
        | none => true) && (match ck_cutLo σ.1 q.2.1 (q.2.2 + 1) with
        | some J => ck_run step hs sp lv fuel Γ kp pc (J, σ.2)
        | none => true)
    | none => match Γ.find? (fun g => g.1.1 == pc) with
      | some g => (match ck_subS g.2 σ g.1.2.1 with
        | some t => ck_more σ.1 g.1.2.2.1 g.1.2.2.2 t
        | none => false)
      | none => match hs.find? (fun h => h.1 == pc) with
        | some h => (match ck_subS kp σ h.2.1 with
          | some _ => (match step pc h.2.1.1 h.2.1.2.1 h.2.1.2.2.1 h.2.1.2.2.2.1 h.2.1.2.2.2.2 with
            | some xs => decide (h.2.2.2 ≤ 2) && xs.all (fun x => if h.2.2.2 = 2 then ck_run step hs sp lv fuel Γ kp x.1 x.2 else decide (h.2.2.1 < h.2.1.1.length) && ck_run step hs sp lv fuel ((h, kp) :: Γ) h.2.1.1.length x.1 x.2)
            | none => false)
          | none => false)
        | none => match step pc σ.1 σ.2.1 σ.2.2.1 σ.2.2.2.1 σ.2.2.2.2 with
          | some xs => xs.all (fun x => ck_run step hs sp lv fuel Γ kp x.1 x.2)
          | none => false
section CKT
variable {p : Program} {l : Launch} {e : Env} {R : Room} {s : State} {m : MethodId} {args : Array Value} {below : List Frame} {meth : Method} {c : Code} {Q : State → Prop}
variable {cc : ByteArray} {D : va_G} {cl : List vw_C} {st : Nat → Nat} {sh : List ck_Sh} {A : Nat → Prop} {nL : Nat} {wr : List (Nat × Nat)} {ws0 : va_W}
variable {I I' : List ck_I} {L : List (Nat × ck_V)} {S S' : List ck_V} {X : ck_D} {nc mc ms n : Nat} {ν ν' : Nat → Int} {ws : va_W} {tys : List (ClassId × FieldType)} {H : Heap} {locs : List Loc} {ls : Array Slot} {vs vs' : List Value} {pc : Nat}
def ck_evT (ν : Nat → Int) (t : List (Option ck_L)) (j : Nat) : Int := match t[j]? with
  | some (some f) => ck_ev ν f
  | _ => 0
/-- t' only says more than t -/
def ck_ext (t t' : List (Option ck_L)) : Prop := t'.length = t.length ∧ ∀ (j : Nat) (f : ck_L), t[j]? = some (some f) → t'[j]? = some (some f)
theorem ck_ext.rf {t : List (Option ck_L)} : ck_ext t t := ⟨rfl, fun _ _ h => h⟩
theorem ck_ext.trans {a b d : List (Option ck_L)} (h1 : ck_ext a b) (h2 : ck_ext b d) : ck_ext a d := ⟨h2.1.trans h1.1, fun j f h => h2.2 j f (h1.2 j f h)⟩
theorem ck_uni_ok {t t' : List (Option ck_L)} {Vh V : ck_V} (h : ck_uni t Vh V = some t') : ck_ext t t' ∧ ∀ {t2 : List (Option ck_L)} {nh : Nat}, ck_ext t' t2 → t2.length = nh → ∀ {n : Nat} {v : Value}, ck_gv ν st ws n V v → ck_gv (ck_evT ν t2) st ws nh Vh v := by
  unfold ck_uni at h
  split at h
  · split at h
    · rename_i a b e
      cases h
      subst e
      exact ⟨ck_ext.rf, fun {t2 nh} _ _ {n v} hv => hv⟩
    · cases h
  · rename_i h0 f
    split at h
    · rename_i ha
      split at h
      · rename_i hb
        cases h
        refine ⟨ck_ext.rf, fun {t2 nh} _ _ {n v} hv => ?_⟩
        obtain ⟨w, x, rfl, e1⟩ := hv
        refine ⟨Or.inl ha, x, rfl, ?_⟩
        rw [e1]; unfold ck_ev; rw [ha, hb.1, Int.zero_mul, Int.zero_mul, hb.2]
      · cases h
    · split at h
      · rename_i hab
        have fin : ∀ {t2 : List (Option ck_L)} {nh : Nat}, t2[h0.1]? = some (some f) → t2.length = nh → ∀ {n : Nat} {v : Value}, ck_gv ν st ws n (.inl f) v → ck_gv (ck_evT ν t2) st ws nh (.inl h0) v := fun {t2 nh} h1 h2 {n v} hv => by
          obtain ⟨w, x, rfl, e1⟩ := hv
          refine ⟨Or.inr (by rw [← h2]; exact (List.getElem?_eq_some_iff.mp h1).1), x, rfl, ?_⟩
          rw [e1]
          show _ = h0.2.1 * ck_evT ν t2 h0.1 + h0.2.2
          unfold ck_evT
          rw [h1, hab.1, hab.2, Int.one_mul, Int.add_zero]
        split at h
        · rename_i hn
          cases h
          have hl : h0.1 < t.length := (List.getElem?_eq_some_iff.mp hn).1
          refine ⟨⟨List.length_set, fun j g hg => ?_⟩, fun {t2 nh} h1 h2 {n v} hv => fin (h1.2 _ _ (List.getElem?_set_self hl)) h2 hv⟩
          by_cases hj : h0.1 = j
          · rw [← hj, hn] at hg; cases hg
          · rw [List.getElem?_set_ne hj]; exact hg
        · rename_i g hg
          split at h
          · rename_i e
            cases h
            subst e
            exact ⟨ck_ext.rf, fun {t2 nh} h1 h2 {n v} hv => fin (h1.2 _ _ hg) h2 hv⟩
          · cases h
        · cases h
      · cases h
  · cases h
theorem ck_uniL_ok {ls : Array Slot} : ∀ {Lh : List (Nat × ck_V)} {t t' : List (Option ck_L)}, ck_uniL L t Lh = some t' → ck_ext t t' ∧ ∀ {t2 : List (Option ck_L)} {nh : Nat}, ck_ext t' t2 → t2.length = nh → ∀ {n : Nat}, ck_gl ν st ws n nL L ls → ck_gl (ck_evT ν t2) st ws nh nL Lh ls
  | [], t, t', h => by
    cases h
    exact ⟨ck_ext.rf, fun {t2 nh} _ _ {n} hl => by obtain ⟨lv, h1, -⟩ := hl; exact ⟨lv, h1, fun q hq => by cases hq⟩⟩
  | q :: Lh, t, t', h => by
    unfold ck_uniL at h
    split at h
    · rename_i V hV
      split at h
      · rename_i t1 ht1
        obtain ⟨a1, a2⟩ := ck_uni_ok (ν := ν) (st := st) (ws := ws) ht1
        obtain ⟨b1, b2⟩ := ck_uniL_ok (ls := ls) h
        refine ⟨a1.trans b1, fun {t2 nh} h1 h2 {n} hl => ?_⟩
        obtain ⟨lv, c1, c2⟩ := id hl
        obtain ⟨lv', d1, d2⟩ := b2 h1 h2 hl
        obtain ⟨v, c3, c4⟩ := c2 _ (ck_get_mem hV)
        refine ⟨lv ++ lv', ⟨c1.1, c1.2.1, fun r hr => (List.mem_append.mp hr).elim (c1.2.2 r) (d1.2.2 r)⟩, fun r hr => ?_⟩
        rcases List.mem_cons.mp hr with rfl | hr
        · exact ⟨v, List.mem_append_left _ c3, a2 (b1.trans h1) h2 c4⟩
        · obtain ⟨w, e1, e2⟩ := d2 r hr
          exact ⟨w, List.mem_append_right _ e1, e2⟩
      · cases h
    · cases h
theorem ck_uniS_ok : ∀ {Sh S : List ck_V} {vs : List Value} {t t' : List (Option ck_L)}, ck_uniS t Sh S = some t' → ck_ext t t' ∧ ∀ {t2 : List (Option ck_L)} {nh : Nat}, ck_ext t' t2 → t2.length = nh → ∀ {n : Nat}, ck_gs ν st ws n S vs → ck_gs (ck_evT ν t2) st ws nh Sh vs
  | [], [], vs, t, t', h => by
    cases h
    refine ⟨ck_ext.rf, fun {t2 nh} _ _ {n} hs => ?_⟩
    cases vs with
    | nil => trivial
    | cons a b => exact hs.elim
  | Vh :: Sh, V :: S, vs, t, t', h => by
    unfold ck_uniS at h
    split at h
    · rename_i t1 ht1
      obtain ⟨a1, a2⟩ := ck_uni_ok (ν := ν) (st := st) (ws := ws) ht1
      refine ⟨a1.trans (ck_uniS_ok (vs := []) h).1, fun {t2 nh} h1 h2 {n} hs => ?_⟩
      obtain ⟨v, vs', rfl, g1, g2⟩ := hs.pop
      obtain ⟨b1, b2⟩ := ck_uniS_ok (vs := vs') h
      exact ⟨a2 (b1.trans h1) h2 g1, b2 h1 h2 g2⟩
    · cases h
  | [], _ :: _, _, _, _, h => by simp [ck_uniS] at h
  | _ :: _, [], _, _, _, h => by simp [ck_uniS] at h
theorem ck_bnd_ok : ∀ {Ih : List ck_I} {t : List (Option ck_L)}, ck_bnd I Ih t = true → Ih.length = t.length ∧ ∀ (j : Nat) (q : ck_I), Ih[j]? = some q → q.2.2.1 = 0 ∧ ∃ f, t[j]? = some (some f) ∧ q.1 ≤ (ck_rng I f).1 ∧ (ck_rng I f).2 ≤ q.2.1
  | [], [], _ => ⟨rfl, fun j q h => by simp at h⟩
  | q :: Ih, some f :: t, h => by
    simp only [ck_bnd, Bool.and_eq_true, decide_eq_true_eq] at h
    obtain ⟨⟨⟨h1, h2⟩, h3⟩, h4⟩ := h
    obtain ⟨a1, a2⟩ := ck_bnd_ok h4
    refine ⟨by simp [a1], fun j r hr => ?_⟩
    match j, hr with
    | 0, hr =>
      have e : q = r := by simpa using hr
      subst e
      exact ⟨h1, f, rfl, h2, h3⟩
    | j + 1, hr =>
      obtain ⟨b1, g, b2, b3⟩ := a2 j r (by simpa using hr)
      exact ⟨b1, g, by simpa using b2, b3⟩
  | q :: Ih, none :: t, h => by simp [ck_bnd] at h
  | [], _ :: _, h => by simp [ck_bnd] at h
  | _ :: _, [], h => by simp [ck_bnd] at h
/-- a form within the table's symbols whose range lies in an int is an int: its value lies in its range -/
theorem ck_rngT {f : ck_L} (hi : ck_gi ν I) (hw : ck_wf I.length f) : (ck_rng I f).1 ≤ ck_ev ν f ∧ ck_ev ν f ≤ (ck_rng I f).2 := by
  by_cases h0 : f.2.1 = 0
  · unfold ck_rng ck_ev
    rw [if_pos h0, h0, Int.zero_mul, Int.zero_add]
    exact ⟨Int.le_refl _, Int.le_refl _⟩
  · have hl : f.1 < I.length := hw.resolve_left h0
    obtain ⟨a1, a2, -, -⟩ := hi f.1 _ (List.getElem?_eq_getElem hl)
    unfold ck_rng ck_ev
    rw [if_neg h0, List.getElem?_eq_getElem hl]
    dsimp only
    split
    · rename_i hp
      have b1 := Int.mul_le_mul_of_nonneg_left a1 hp
      have b2 := Int.mul_le_mul_of_nonneg_left a2 hp
      dsimp only
      omega
    · rename_i hp
      have hp' : f.2.1 ≤ 0 := by omega
      have b1 := Int.mul_le_mul_of_nonpos_left hp' a1
      have b2 := Int.mul_le_mul_of_nonpos_left hp' a2
      dsimp only
      omega
theorem ck_subS_ok {σ h : ck_S} {t : List (Option ck_L)} (hs : ck_subS n σ h = some t) (hG : ck_G D cl st sh A s nL wr ws0 σ.1 σ.2.1 σ.2.2.1 σ.2.2.2.1 σ.2.2.2.2.1 ν ws tys H locs ls vs) : ck_G D cl st sh A s nL wr ws0 h.1 h.2.1 h.2.2.1 h.2.2.2.1 h.2.2.2.2.1 (ck_evT ν t) ws tys H locs ls vs ∧ (∀ j, j < n → ck_evT ν t j = ν j) ∧ n ≤ h.1.length ∧ σ.2.2.2.2.2.1 ≤ h.2.2.2.2.2.1 ∧ σ.2.2.2.2.2.2 ≤ h.2.2.2.2.2.2 ∧ (∀ (j : Nat) (f : ck_L), t[j]? = some (some f) → ck_wf σ.1.length f) := by
  unfold ck_subS at hs
  split at hs
  · rename_i t1 ht1
    split at hs
    · rename_i t2 ht2
      split at hs
      · rename_i hc
        obtain ⟨c0, c1, c2, c3, c4, c5, c6⟩ := hc
        cases hs
        obtain ⟨g1, g2, g3, g4, g5, g6, g7, g8, g9, g10⟩ := hG
        obtain ⟨a1, a2⟩ := ck_uniL_ok (ν := ν) (st := st) (ws := ws) (nL := nL) (ls := ls) ht1
        obtain ⟨b1, b2⟩ := ck_uniS_ok (ν := ν) (st := st) (ws := ws) (vs := vs) ht2
        obtain ⟨d1, d2⟩ := ck_bnd_ok c1
        have hwf : ∀ (j : Nat) (f : ck_L), t[j]? = some (some f) → ck_wf σ.1.length f := fun j f hf => by
          have := List.all_eq_true.mp c2 _ (List.mem_of_getElem? hf)
          simp only [Bool.or_eq_true, decide_eq_true_eq] at this
          exact this
        refine ⟨⟨?_, a2 b1 d1.symm g2, b2 ck_ext.rf d1.symm g3, ck_subD_ok c3 g4, by rw [← c4]; exact g5, g6, g7, g8, g9, g10⟩, ?_, c0, c5, c6, hwf⟩
        · intro j q hq
          obtain ⟨e0, f, e1, e2, e3⟩ := d2 j q hq
          have hr := ck_rngT g1 (hwf j f e1)
          have ev : ck_evT ν t j = ck_ev ν f := by unfold ck_evT; rw [e1]
          rw [ev]
          exact ⟨by omega, by omega, fun z => by omega, fun z => by omega⟩
        · intro j hj
          have h1 : (ck_id n ++ List.replicate (h.1.length - n) (none : Option ck_L))[j]? = some (some (j, 1, 0)) := by
            rw [List.getElem?_append_left (by simp [ck_id]; exact hj)]
            simp [ck_id, hj]
          have h2 := (a1.trans b1).2 _ _ h1
          unfold ck_evT
          rw [h2]
          simp [ck_ev]
      · cases hs
    · cases hs
  · cases hs
theorem ck_more_ok {μ d : Nat} {t : List (Option ck_L)} (h : ck_more I μ d t = true) (hi : ck_gi ν I) : if d = 0 then ν μ < ck_evT ν t μ else ck_evT ν t μ < ν μ := by
  unfold ck_more at h
  split at h
  · rename_i f hf
    have ev : ck_evT ν t μ = ck_ev ν f := by unfold ck_evT; rw [hf]
    rw [ev]
    simp only [Bool.and_eq_true, decide_eq_true_eq] at h
    obtain ⟨h1, h2⟩ := h
    unfold ck_ev
    rw [h1, Int.one_mul]
    split at h2
    · rename_i hm
      rw [hm]
      split at h2
      · rename_i hd
        rw [if_pos hd]
        have := of_decide_eq_true h2
        omega
      · rename_i hd
        rw [if_neg hd]
        have := of_decide_eq_true h2
        omega
    · split at h2
      · rename_i q hq
        obtain ⟨-, -, a3, a4⟩ := hi _ _ hq
        simp only [Bool.and_eq_true, decide_eq_true_eq] at h2
        obtain ⟨⟨k1, k2⟩, k3⟩ := h2
        split at k3
        · rename_i hd
          rw [if_pos hd]
          simp only [Bool.and_eq_true, decide_eq_true_eq] at k3
          have := (a3 k3.1).2
          unfold ck_ev at this
          rw [k1, k2, Int.one_mul] at this
          omega
        · rename_i hd
          rw [if_neg hd]
          simp only [Bool.and_eq_true, decide_eq_true_eq] at k3
          have := (a4 k3.1).2
          unfold ck_ev at this
          rw [k1, k2, Int.one_mul] at this
          omega
      · cases h2
  · cases h
theorem ck_decU {a b w : Int} {N : Nat} (h1 : b < a) (h2 : a ≤ w) (hN : (w - b).toNat < N + 1) : (w - a).toNat < N := by omega
theorem ck_decD {a b w : Int} {N : Nat} (h1 : a < b) (h2 : w ≤ a) (hN : (b - w).toNat < N + 1) : (a - w).toNat < N := by omega
/-- what a loop's head promises while its body is walked: from the head on all goes well once its symbol has moved -/
def ck_PG (p : Program) (l : Launch) (e : Env) (R : Room) (s : State) (m : MethodId) (args : Array Value) (below : List Frame) (meth : Method) (c : Code) (Q : State → Prop) (D : va_G) (cl : List vw_C) (st : Nat → Nat) (sh : List ck_Sh) (A : Nat → Prop) (nL : Nat) (wr : List (Nat × Nat)) (ws0 : va_W) (n0 : Nat) (ν0 ν : Nat → Int) (g : ck_Hd × Nat) : Prop :=
  ∃ νg : Nat → Int, (∀ j, j < g.1.2.1.1.length → ν j = νg j) ∧ n0 ≤ g.2 ∧ (∀ j, j < n0 → νg j = ν0 j) ∧ g.1.2.2.1 < g.1.2.1.1.length ∧ ∀ (ν' : Nat → Int) (ws' : va_W) (tys' : List (ClassId × FieldType)) (H' : Heap) (locs' : List Loc) (ls' : Array Slot) (vs' : List Value), (∀ j, j < g.2 → ν' j = νg j) → (if g.1.2.2.2 = 0 then νg g.1.2.2.1 < ν' g.1.2.2.1 else ν' g.1.2.2.1 < νg g.1.2.2.1) → ck_G D cl st sh A s nL wr ws0 g.1.2.1.1 g.1.2.1.2.1 g.1.2.1.2.2.1 g.1.2.1.2.2.2.1 g.1.2.1.2.2.2.2.1 ν' ws' tys' H' locs' ls' vs' → W p l e R s m args below meth c H' locs' g.1.2.1.2.2.2.2.2.1 g.1.2.1.2.2.2.2.2.2 Q (F0 m g.1.1 ls' vs')
theorem ck_run_ok {step : Nat → List ck_I → List (Nat × ck_V) → List ck_V → ck_D → Nat × Nat × Nat → Option (List (Nat × ck_S))} {hs : List ck_Hd} {sp : List (Nat × Nat × Int)} {lv : List (Nat × ck_S)} {n0 : Nat} {ν0 : Nat → Int}
    (hstep : ∀ (n pc : Nat) (I : List ck_I) (L : List (Nat × ck_V)) (S : List ck_V) (X : ck_D) (nc mc ms : Nat) (xs : List (Nat × ck_S)) (ν : Nat → Int) (ws : va_W) (tys : List (ClassId × FieldType)) (H : Heap) (locs : List Loc) (ls : Array Slot) (vs : List Value), step pc I L S X (nc, mc, ms) = some xs → n ≤ I.length → (∀ j, j < n0 → ν j = ν0 j) → ck_G D cl st sh A s nL wr ws0 I L S X nc ν ws tys H locs ls vs → (∀ x ∈ xs, ck_N p l e R s m args below meth c Q D cl st sh A nL wr ws0 n ν x) → W p l e R s m args below meth c H locs mc ms Q (F0 m pc ls vs))
    (hlv : ∀ x ∈ lv, ∀ (ν : Nat → Int) (ws : va_W) (tys : List (ClassId × FieldType)) (H : Heap) (locs : List Loc) (ls : Array Slot) (vs : List Value), (∀ j, j < n0 → ν j = ν0 j) → ck_G D cl st sh A s nL wr ws0 x.2.1 x.2.2.1 x.2.2.2.1 x.2.2.2.2.1 x.2.2.2.2.2.1 ν ws tys H locs ls vs → W p l e R s m args below meth c H locs x.2.2.2.2.2.2.1 x.2.2.2.2.2.2.2 Q (F0 m x.1 ls vs)) :
    ∀ (fuel : Nat) (Γ : List (ck_Hd × Nat)) (kp pc : Nat) (σ : ck_S), ck_run step hs sp lv fuel Γ kp pc σ = true → ∀ (ν : Nat → Int) (ws : va_W) (tys : List (ClassId × FieldType)) (H : Heap) (locs : List Loc) (ls : Array Slot) (vs : List Value), n0 ≤ kp → (∀ j, j < n0 → ν j = ν0 j) → (∀ g ∈ Γ, g.1.2.1.1.length ≤ kp ∧ ck_PG p l e R s m args below meth c Q D cl st sh A nL wr ws0 n0 ν0 ν g) → ck_G D cl st sh A s nL wr ws0 σ.1 σ.2.1 σ.2.2.1 σ.2.2.2.1 σ.2.2.2.2.1 ν ws tys H locs ls vs → W p l e R s m args below meth c H locs σ.2.2.2.2.2.1 σ.2.2.2.2.2.2 Q (F0 m pc ls vs)
  | 0, _, _, _, _, h => by simp [ck_run] at h
  | fuel + 1, Γ, kp, pc, σ, h => by
    intro ν ws tys H locs ls vs hn0 hν hΓ hG
    have ih := ck_run_ok (hs := hs) (sp := sp) hstep hlv fuel
    -- where a successor's table stands when the same heads are open
    have next : ∀ {n : Nat} {ν1 : Nat → Int} {Γ' : List (ck_Hd × Nat)} {kp' : Nat} {x : Nat × ck_S}, n = kp' → n0 ≤ kp' → (∀ j, j < n0 → ν1 j = ν0 j) → (∀ g ∈ Γ', g.1.2.1.1.length ≤ kp' ∧ ck_PG p l e R s m args below meth c Q D cl st sh A nL wr ws0 n0 ν0 ν1 g) → ck_run step hs sp lv fuel Γ' kp' x.1 x.2 = true → ck_N p l e R s m args below meth c Q D cl st sh A nL wr ws0 n ν1 x := fun {n ν1 Γ' kp' x} e1 e2 e3 e4 e6 => by
      intro ν' ws' tys' H' locs' ls' vs' hag hG'
      subst e1
      refine ih Γ' _ x.1 x.2 e6 ν' ws' tys' H' locs' ls' vs' e2 (fun j hj => by rw [hag j (by omega)]; exact e3 j hj) (fun g hg => ?_) hG'
      obtain ⟨l1, νg, b1, b2⟩ := e4 g hg
      exact ⟨l1, νg, fun j hj => by rw [hag j (by omega)]; exact b1 j hj, b2⟩
    unfold ck_run at h
    rw [Bool.and_eq_true] at h
    obtain ⟨hkp0, h⟩ := h
    have hkp := of_decide_eq_true hkp0
    split at h
    · rename_i y hy
      have hyp : y.1 = pc := by simpa using List.find?_some hy
      cases ht : ck_subS kp σ y.2 with
      | none => rw [ht] at h; cases h
      | some t =>
        obtain ⟨s1, s2, s3, s4, s5, s6⟩ := ck_subS_ok ht hG
        refine W.widen s4 s5 ?_
        rw [← hyp]
        exact hlv y (List.mem_of_find?_eq_some hy) _ ws tys H locs ls vs (fun j hj => by rw [s2 j (by omega)]; exact hν j hj) s1
    split at h
    · rename_i q hq
      simp only [Bool.and_eq_true] at h
      obtain ⟨hA1, hB1⟩ := h
      rcases Int.lt_or_le q.2.2 (ν q.2.1) with hc | hc
      · obtain ⟨J, j1, j2, j3⟩ := ck_cutLo_ok (s := q.2.1) (c := q.2.2 + 1) hG.gi (by omega)
        rw [j1] at hB1
        exact ih Γ kp pc (J, σ.2) hB1 ν ws tys H locs ls vs hn0 hν hΓ (hG.cut j3 j2)
      · obtain ⟨J, j1, j2, j3⟩ := ck_cutHi_ok (s := q.2.1) (c := q.2.2) hG.gi hc
        rw [j1] at hA1
        exact ih Γ kp pc (J, σ.2) hA1 ν ws tys H locs ls vs hn0 hν hΓ (hG.cut j3 j2)
    · split at h
      · rename_i g hg
        have hgm := List.mem_of_find?_eq_some hg
        have hgp : g.1.1 = pc := by simpa using List.find?_some hg
        split at h
        · rename_i t ht
          obtain ⟨s1, s2, s3, s4, s5, s6⟩ := ck_subS_ok ht hG
          obtain ⟨l1, νg, b1, b2, b3, b4, b5⟩ := hΓ g hgm
          have hm := ck_more_ok h hG.gi
          refine W.widen s4 s5 ?_
          rw [← hgp]
          refine b5 (ck_evT ν t) ws tys H locs ls vs (fun j hj => ?_) ?_ s1
          · rw [s2 j hj]; exact b1 j (by omega)
          · have e1 := b1 g.1.2.2.1 b4
            rw [← e1]; exact hm
        · cases h
      · split at h
        · rename_i hd hhd
          have hpc : hd.1 = pc := by simpa using List.find?_some hhd
          split at h
          · rename_i t ht
            split at h
            · rename_i xs hxs
              simp only [Bool.and_eq_true, decide_eq_true_eq] at h
              obtain ⟨hdir, hall⟩ := h
              obtain ⟨s1, s2, s3, s4, s5, s6⟩ := ck_subS_ok ht hG
              refine W.widen s4 s5 ?_
              have hν1 : ∀ j, j < n0 → ck_evT ν t j = ν0 j := fun j hj => by rw [s2 j (by omega)]; exact hν j hj
              have hΓ1 : ∀ {ν1 : Nat → Int}, (∀ j, j < kp → ν1 j = ν j) → ∀ g ∈ Γ, g.1.2.1.1.length ≤ kp ∧ ck_PG p l e R s m args below meth c Q D cl st sh A nL wr ws0 n0 ν0 ν1 g := fun {ν1} hag g hg => by
                obtain ⟨l1, νg, b1, b2⟩ := hΓ g hg
                exact ⟨l1, νg, fun j hj => by rw [hag j (by omega)]; exact b1 j hj, b2⟩
              by_cases h2 : hd.2.2.2 = 2
              · have hk : ∀ x ∈ xs, ck_N p l e R s m args below meth c Q D cl st sh A nL wr ws0 kp (ck_evT ν t) x := fun x hx => by
                  have hr := List.all_eq_true.mp hall x hx
                  rw [if_pos h2] at hr
                  exact next rfl hn0 hν1 (hΓ1 s2) hr
                exact hstep kp pc _ _ _ _ _ _ _ xs _ ws tys H locs ls vs hxs s3 hν1 s1 hk
              · -- a loop: by how far its symbol still can go
                have key : ∀ (N : Nat) (ν1 : Nat → Int) (ws1 : va_W) (tys1 : List (ClassId × FieldType)) (H1 : Heap) (locs1 : List Loc) (ls1 : Array Slot) (vs1 : List Value), (∀ j, j < kp → ν1 j = ν j) → (if hd.2.2.2 = 0 then (match hd.2.1.1[hd.2.2.1]? with
                    | some q => (q.2.1 - ν1 hd.2.2.1).toNat
                    | none => 0) else (match hd.2.1.1[hd.2.2.1]? with
                    | some q => (ν1 hd.2.2.1 - q.1).toNat
                    | none => 0)) < N → ck_G D cl st sh A s nL wr ws0 hd.2.1.1 hd.2.1.2.1 hd.2.1.2.2.1 hd.2.1.2.2.2.1 hd.2.1.2.2.2.2.1 ν1 ws1 tys1 H1 locs1 ls1 vs1 → W p l e R s m args below meth c H1 locs1 hd.2.1.2.2.2.2.2.1 hd.2.1.2.2.2.2.2.2 Q (F0 m pc ls1 vs1) := by
                  intro N
                  induction N with
                  | zero => intro ν1 ws1 tys1 H1 locs1 ls1 vs1 _ hN; omega
                  | succ N ihN =>
                    intro ν1 ws1 tys1 H1 locs1 ls1 vs1 hag hN hG1
                    have hν2 : ∀ j, j < n0 → ν1 j = ν0 j := fun j hj => by rw [hag j (by omega)]; exact hν j hj
                    have hk : ∀ x ∈ xs, ck_N p l e R s m args below meth c Q D cl st sh A nL wr ws0 hd.2.1.1.length ν1 x := fun x hx => by
                      have hr := List.all_eq_true.mp hall x hx
                      rw [if_neg h2] at hr
                      simp only [Bool.and_eq_true, decide_eq_true_eq] at hr
                      obtain ⟨hμ, hr⟩ := hr
                      refine next (n := hd.2.1.1.length) rfl (by omega) hν2 (fun g hg => ?_) hr
                      · rcases List.mem_cons.mp hg with rfl | hg
                        · refine ⟨Nat.le_refl _, ν1, fun _ _ => rfl, hn0, hν2, hμ, fun ν3 ws3 tys3 H3 locs3 ls3 vs3 hag3 hm3 hG3 => ?_⟩
                          show W p l e R s m args below meth c H3 locs3 hd.2.1.2.2.2.2.2.1 hd.2.1.2.2.2.2.2.2 Q (F0 m hd.1 ls3 vs3)
                          rw [hpc]
                          refine ihN ν3 ws3 tys3 H3 locs3 ls3 vs3 (fun j hj => by rw [hag3 j hj]; exact hag j hj) ?_ hG3
                          have hq1 := List.getElem?_eq_getElem hμ
                          obtain ⟨u1, u2, -, -⟩ := hG1.1 _ _ hq1
                          obtain ⟨u3, u4, -, -⟩ := hG3.1 _ _ hq1
                          rw [hq1] at hN ⊢
                          dsimp only at hN hm3 ⊢
                          by_cases hd0 : hd.2.2.2 = 0
                          · rw [if_pos hd0] at hN hm3 ⊢
                            exact ck_decU hm3 u4 hN
                          · rw [if_neg hd0] at hN hm3 ⊢
                            exact ck_decD hm3 u3 hN
                        · obtain ⟨l1, l2⟩ := hΓ1 hag g hg
                          exact ⟨by omega, l2⟩
                    exact hstep hd.2.1.1.length pc _ _ _ _ _ _ _ xs _ ws1 tys1 H1 locs1 ls1 vs1 hxs (Nat.le_refl _) hν2 hG1 hk
                exact key _ (ck_evT ν t) ws tys H locs ls vs s2 (Nat.lt_succ_self _) s1
            · cases h
          · cases h
        · split at h
          · rename_i xs hxs
            refine hstep kp pc _ _ _ _ _ _ _ xs ν ws tys H locs ls vs hxs hkp hν hG (fun x hx => ?_)
            have hr := List.all_eq_true.mp h x hx
            exact next rfl hn0 hν hΓ hr
          · cases h
end CKT
end
section
/-! THE TABLE RUN, 11: a method checked is a method met -/
def ck_okT (cl : List vw_C) (Ts : List Cond) (NM : List (String × Nat × MethodName × String)) (AO : List String) (SL : List (String × Nat × Nat)) (mts : List ck_MT) (own : String) (T : ck_T) : Prop :=
  (∀ q ∈ T.1, ck_okF cl Ts own q) ∧ (∀ q ∈ T.2.1, ck_okN cl Ts own q) ∧ ck_okD cl T.2.2.1 ∧ (∀ t ∈ T.2.2.2.1, Cond.arrayClass t ∈ Ts) ∧ (∀ q ∈ T.2.2.2.2.1, ck_okA Ts AO own q) ∧ (∀ q ∈ T.2.2.2.2.2.2.1, Cond.constant own q.1 (Int32.ofInt q.2) ∈ Ts) ∧ (∀ q ∈ T.2.2.2.2.2.2.2.1, (own, q.1, q.2) ∈ SL) ∧ (∀ q ∈ T.2.2.2.2.2.2.2.2, q.2.1 < 6 → ck_okL Ts NM mts own q) ∧ ∀ q ∈ T.2.2.2.2.2.2.2.2, ck_okY Ts own q
section CKH
variable {p : Program} {l : Launch} {e : Env} {R : Room} {s : State} {m : MethodId} {args : Array Value} {below : List Frame} {meth : Method} {c : Code} {Q : State → Prop}
variable {cc : ByteArray} {D : va_G} {cl : List vw_C} {st : Nat → Nat} {sh : List ck_Sh} {A : Nat → Prop} {nL : Nat} {wr : List (Nat × Nat)} {ws0 : va_W}
variable {I I' : List ck_I} {L : List (Nat × ck_V)} {S S' : List ck_V} {X : ck_D} {nc mc ms n : Nat} {ν ν' : Nat → Int} {ws : va_W} {tys : List (ClassId × FieldType)} {H : Heap} {locs : List Loc} {ls : Array Slot} {vs vs' : List Value} {pc : Nat}
variable {Ts : List Cond} {AO : List String} {own : String} {NM : List (String × Nat × MethodName × String)} {SL : List (String × Nat × Nat)} {mts : List ck_MT}
theorem ck_step_ok {T : ck_T} {cs : List ck_C} {ini : Bool} {CM SM FM LM : Nat} {rt : Instr × Nat → List ck_I → List ck_V → ck_D → Nat × Nat × Nat → Bool} {xs : List (Nat × ck_S)} (hx : p.tables.exec = Jvm.exec) (hb : c.code = cc) (hml : c.maxLocals = nL) (hown : s.vm.findClass own = some m.cls) (hts : ∀ w ∈ Ts, w.before args s = true) (hgood : GoodIn Ts Ts) (hamb : ck_amb NM AO SL st s) (hC : ck_okC cl Ts) (hT : ck_okT cl Ts NM AO SL mts own T) (hCs : ∀ co ∈ cs, ck_Met l Ts mts D cl NM AO SL st sh co) (hA : ∀ q, s.heap.size ≤ q → A q) (hini : ini = true → meth.name = "<init>") (hRc : R.cells = CM) (hRs : R.slots = SM) (hRf : R.frames = FM) (hRl : R.locals = LM)
    (hrt : ∀ i, decode cc pc = .ok i → rt i I S X (nc, mc, ms) = true → ck_G D cl st sh A s nL wr ws0 I L S X nc ν ws tys H locs ls vs → W p l e R s m args below meth c H locs mc ms Q (F0 m pc ls vs))
    (h : ck_step cl mts sh T cs wr ini nL CM SM FM LM rt cc pc I L S X (nc, mc, ms) = some xs) (hn : n ≤ I.length) (hG : ck_G D cl st sh A s nL wr ws0 I L S X nc ν ws tys H locs ls vs)
    (K : ∀ x ∈ xs, ck_N p l e R s m args below meth c Q D cl st sh A nL wr ws0 n ν x) : W p l e R s m args below meth c H locs mc ms Q (F0 m pc ls vs) := by
  obtain ⟨t1, t2, t3, t4, t5, t6, t7, t8, t9⟩ := hT
  unfold ck_step at h
  split at h
  · rename_i i hd
    split at h
    · rename_i ys hy; cases h; exact ck_a_ok hx hb hd hy hn hG K
    split at h
    · rename_i ys hy; cases h; exact ck_b_ok hx hb hd hy hn hG K
    split at h
    · rename_i ys hy; cases h; exact ck_c_ok hx hb hd hy hn hG K
    split at h
    · rename_i ys hy; cases h; exact ck_d_ok hx hb hd hy hG K
    split at h
    · rename_i ys hy; cases h; exact ck_e_ok hx hb hd hy hG K
    split at h
    · rename_i ys hy; cases h; exact ck_f_ok hx hb hown hts hC t1 hini hd hy hn hG K
    split at h
    · rename_i ys hy; cases h; exact ck_ld_ok hx hb hd hy hn hG K
    split at h
    · rename_i ys hy; cases h; exact ck_sr_ok hx hb hd hy hG K
    split at h
    · rename_i ys hy; cases h; exact ck_cal_ok hx hb hml hown hts hgood hamb t8 hCs hA hRc hRs hRf hRl hd hy hn hG K
    split at h
    · rename_i ys hy; cases h; exact ck_y_ok hx hb hml hown hts t9 hRc hRs hRf hRl hd hy hn hG K
    split at h
    · rename_i ys hy; cases h; exact ck_n_ok hx hb hown hts hamb.2.1 hC t2 t3 t4 t5 hA hRc hRs hd hy hG K
    split at h
    · rename_i ys hy; cases h; exact ck_ldc_ok hx hb hown hts t6 (fun q hq => hamb.2.2 _ (t7 q hq)) hd hy hn hG K
    split at h
    · rename_i hr; exact hrt i hd hr hG
    · cases h
  · cases h
/-- the table at a method's entry -/
def ck_entI : List ck_F → List ck_I
  | [] => []
  | .inl z :: Fs => (z.1, z.2, 0, (0, 0, 0)) :: ck_entI Fs
  | .inr _ :: Fs => ck_entI Fs
def ck_entL : Nat → Nat → List ck_F → List (Nat × ck_V)
  | _, _, [] => []
  | j, k, .inl _ :: Fs => (j, .inl (k, 1, 0)) :: ck_entL (j + 1) (k + 1) Fs
  | j, k, .inr q :: Fs => (j, .inr q) :: ck_entL (j + 1) k Fs
def ck_oneF (F : ck_F) : Bool := match F with
  | .inl _ => true
  | .inr q => ck_one (.inr q)
def ck_check (cl : List vw_C) (mts : List ck_MT) (sh : List ck_Sh) (T : ck_T) (cs : List ck_C) (co : ck_C) (hs : List ck_Hd) (sp : List (Nat × Nat × Int)) (fuel : Nat) : Bool := match mts[co.1]? with
  | none => false
  | some M => plainName M.1.cls && co.2.2.1.all ck_oneF && decide (co.2.2.1.length ≤ M.2.2.1) && ck_run (ck_step cl mts sh T cs co.2.2.2.2.1 (decide (M.1.name = "<init>")) M.2.2.1 co.2.2.2.2.2.2.2.2.1 co.2.2.2.2.2.2.2.2.2 co.2.2.2.2.2.2.1 co.2.2.2.2.2.2.2.1 (ck_ret co M.2.2.2.1 (ck_entI co.2.2.1).length) M.2.1) hs sp [] fuel [] (ck_entI co.2.2.1).length 0 (ck_entI co.2.2.1, ck_entL 0 0 co.2.2.1, [], co.2.2.2.1, co.2.1, 0, 0)
def ck_nu (xs : List Int32) (j : Nat) : Int := match xs[j]? with
  | some x => x.toInt
  | none => 0
theorem ck_ent_one : ∀ {Fs : List ck_F} {vs : List Value}, Fs.all ck_oneF = true → ck_av st ws Fs vs → (∀ v ∈ vs, v.category = 1) ∧ Fs.length = vs.length
  | [], [], _, _ => ⟨fun _ h => absurd h List.not_mem_nil, rfl⟩
  | F :: Fs, v :: vs, h1, h => by
    simp only [List.all_cons, Bool.and_eq_true] at h1
    obtain ⟨a1, a2⟩ := ck_ent_one h1.2 h.2
    refine ⟨fun w hw => ?_, by simp [a2]⟩
    rcases List.mem_cons.mp hw with rfl | hw
    · rcases F with z | q
      · obtain ⟨x, rfl, -⟩ := h.1; rfl
      · rcases ck_refs h1.1 h.1 with rfl | ⟨a, rfl⟩ <;> rfl
    · exact a1 w hw
  | [], _ :: _, _, h => h.elim
  | _ :: _, [], _, h => h.elim
theorem ck_ent_ints : ∀ {Fs : List ck_F} {vs : List Value}, Fs.all ck_oneF = true → ck_av st ws Fs vs → (ck_entI Fs).length = (ck_ints vs).length ∧ ∀ (j : Nat) (q : ck_I), (ck_entI Fs)[j]? = some q → q.2.2.1 = 0 ∧ ∃ x, (ck_ints vs)[j]? = some x ∧ q.1 ≤ x.toInt ∧ x.toInt ≤ q.2.1
  | [], [], _, _ => ⟨rfl, fun j q h => by simp [ck_entI] at h⟩
  | .inl z :: Fs, v :: vs, h1, h => by
    simp only [List.all_cons, Bool.and_eq_true] at h1
    obtain ⟨⟨x, rfl, z1, z2⟩, h2⟩ := h
    obtain ⟨a1, a2⟩ := ck_ent_ints h1.2 h2
    refine ⟨by simp [ck_entI, ck_ints, a1], fun j q hq => ?_⟩
    match j, hq with
    | 0, hq =>
      have e : ((z.1, z.2, 0, (0, 0, 0)) : ck_I) = q := by simpa [ck_entI] using hq
      subst e
      exact ⟨rfl, x, rfl, z1, z2⟩
    | j + 1, hq =>
      obtain ⟨b0, y, b1, b2⟩ := a2 j q (by simpa [ck_entI] using hq)
      exact ⟨b0, y, by simpa [ck_ints] using b1, b2⟩
  | .inr q :: Fs, v :: vs, h1, h => by
    simp only [List.all_cons, Bool.and_eq_true] at h1
    obtain ⟨hq, h2⟩ := h
    obtain ⟨a1, a2⟩ := ck_ent_ints h1.2 h2
    rcases ck_refs h1.1 hq with rfl | ⟨a, rfl⟩ <;> exact ⟨a1, a2⟩
  | [], _ :: _, _, h => h.elim
  | _ :: _, [], _, h => h.elim
theorem ck_ent_vals {ys : List Int32} {N : Nat} : ∀ {Fs : List ck_F} {vs : List Value} {j k : Nat}, Fs.all ck_oneF = true → ck_av st ws Fs vs → (∀ i, k + i < ys.length ↔ i < (ck_ints vs).length) → (∀ i x, (ck_ints vs)[i]? = some x → ys[k + i]? = some x) → ys.length ≤ N → ∀ q ∈ ck_entL j k Fs, ∃ v, (q.1, v) ∈ lv_args j vs ∧ ck_gv (ck_nu ys) st ws N q.2 v
  | [], [], _, _, _, _, _, _, _ => fun q hq => by cases hq
  | .inl z :: Fs, v :: vs, j, k, h1, h, hk, hy, hN => by
    simp only [List.all_cons, Bool.and_eq_true] at h1
    obtain ⟨⟨x, rfl, z1, z2⟩, h2⟩ := h
    have ih := ck_ent_vals (ys := ys) (N := N) (j := j + 1) (k := k + 1) h1.2 h2 (fun i => by have := hk (i + 1); simp [ck_ints] at this; rw [← this]; omega) (fun i y hi => by have := hy (i + 1) y (by simpa [ck_ints] using hi); rw [← this]; congr 1; omega) hN
    intro q hq
    rcases List.mem_cons.mp hq with rfl | hq
    · have hx : ys[k]? = some x := by simpa using hy 0 x rfl
      have hl := (List.getElem?_eq_some_iff.mp hx).1
      refine ⟨.int x, List.mem_cons_self, Or.inr (by show k < N; omega), x, rfl, ?_⟩
      simp [ck_ev, ck_nu, hx]
    · obtain ⟨w, a1, a2⟩ := ih q hq
      exact ⟨w, List.mem_cons_of_mem _ a1, a2⟩
  | .inr r :: Fs, v :: vs, j, k, h1, h, hk, hy, hN => by
    simp only [List.all_cons, Bool.and_eq_true] at h1
    obtain ⟨hr, h2⟩ := h
    have hc : v.category = 1 := ck_one_cat (ν := ck_nu ys) (n := N) h1.1 hr
    have hint : ck_ints (v :: vs) = ck_ints vs := by rcases ck_refs h1.1 hr with rfl | ⟨a, rfl⟩ <;> rfl
    rw [hint] at hk hy
    have ih := ck_ent_vals (ys := ys) (N := N) (j := j + 1) (k := k) h1.2 h2 hk hy hN
    have hcons : lv_args j (v :: vs) = (j, v) :: lv_args (j + 1) vs := by
      show (j, v) :: lv_args (if v.category = 2 then j + 2 else j + 1) vs = _
      rw [if_neg (by omega)]
    rw [hcons]
    intro q hq
    rcases List.mem_cons.mp hq with rfl | hq
    · exact ⟨v, List.mem_cons_self, hr⟩
    · obtain ⟨w, a1, a2⟩ := ih q hq
      exact ⟨w, List.mem_cons_of_mem _ a1, a2⟩
  | [], _ :: _, _, _, _, h, _, _, _ => h.elim
  | _ :: _, [], _, _, _, h, _, _, _ => h.elim
theorem ck_slots : ∀ {vs : List Value}, (∀ v ∈ vs, v.category = 1) → (lg_sl vs).length = vs.length
  | [], _ => rfl
  | v :: vs, h => by
    have ih := ck_slots (vs := vs) (fun w hw => h w (List.mem_cons_of_mem _ hw))
    have hc := h v List.mem_cons_self
    cases v <;> simp_all [lg_sl, Value.category]
theorem ck_sound {T : ck_T} {cs : List ck_C} {co : ck_C} {hs : List ck_Hd} {sp : List (Nat × Nat × Int)} {fuel : Nat} (l : Launch) (hgood : GoodIn Ts Ts) (hC : ck_okC cl Ts) (hT : ∀ M, mts[co.1]? = some M → ck_okT cl Ts NM AO SL mts M.1.cls T) (hCs : ∀ c ∈ cs, ck_Met l Ts mts D cl NM AO SL st sh c) (h : ck_check cl mts sh T cs co hs sp fuel = true) : ck_Met l Ts mts D cl NM AO SL st sh co := by
  intro M hM ws tys vs sz hw hav hgd
  unfold ck_check at h
  rw [hM] at h
  simp only [Bool.and_eq_true, decide_eq_true_eq] at h
  obtain ⟨⟨⟨h1, h2⟩, h3⟩, h4⟩ := h
  refine Met.ofW (cc := M.2.1) (maxL := M.2.2.1) (ret := M.2.2.2.1) h1 rfl ?_
  intro p e s m args below meth c s₁ B hml hv
  obtain ⟨rfl, hsz, hP, hK, hD0, hamb⟩ := hv
  subst hsz
  have hx := B.exec
  have hb := B.bytes
  have hr := B.returns
  have hts0 := atoms_spec (ws := Cond.code M.1 M.2.1 M.2.2.1 M.2.2.2.1 :: Ts) B.pre
  have hts : ∀ w ∈ Ts, w.before vs.toArray s = true := fun w hw => hts0 w (List.mem_cons_of_mem _ hw)
  have hown : s.vm.findClass M.1.cls = some m.cls := findClass_of_methodNamed B.named
  have hlocks := B.notSynchronized
  obtain ⟨e1, e2⟩ := ck_ent_one h2 hav
  obtain ⟨i1, i2⟩ := ck_ent_ints h2 hav
  have hslots := ck_slots e1
  have hl := lv_entry vs (n := M.2.2.1) (by omega)
  rw [lg_entry_eq]
  generalize (lg_sl vs ++ List.replicate (M.2.2.1 - (lg_sl vs).length) Slot.unset).toArray = ls at hl ⊢
  have hvals := ck_ent_vals (st := st) (ws := ws) (ys := ck_ints vs) (N := (ck_entI co.2.2.1).length) (j := 0) (k := 0) h2 hav (fun i => by rw [Nat.zero_add]) (fun i x hi => by rw [Nat.zero_add]; exact hi) (by omega)
  have hG : ck_G D cl st sh (va_A ws s.heap.size) s M.2.2.1 co.2.2.2.2.1 ws (ck_entI co.2.2.1) (ck_entL 0 0 co.2.2.1) [] co.2.2.2.1 co.2.1 (ck_nu (ck_ints vs)) ws tys s.heap [] ls [] := by
    refine ⟨fun j q hq => ?_, ⟨_, hl, hvals⟩, trivial, hgd, hw, hK, hP, hD0.self, va_S.rf, ck_fr.rf⟩
    obtain ⟨b0, x, b1, b2, b3⟩ := i2 j q hq
    have ev : ck_nu (ck_ints vs) j = x.toInt := by unfold ck_nu; rw [b1]
    rw [ev]
    exact ⟨b2, b3, fun z => by omega, fun z => by omega⟩
  refine ck_run_ok (n0 := (ck_entI co.2.2.1).length) (ν0 := ck_nu (ck_ints vs)) ?_ (fun x hx => by cases hx) fuel [] _ 0 _ h4 (ck_nu (ck_ints vs)) ws tys s.heap [] ls [] (Nat.le_refl _) (fun _ _ => rfl) (fun g hg => by cases hg) hG
  intro n pc I L S X nc mc ms xs ν ws1 tys1 H1 locs1 ls1 vs1 hst hn hν hG1 K
  refine ck_step_ok hx hb hml hown hts hgood hamb hC (hT M hM) hCs (fun q hq => Or.inr hq) (fun hi => ?_) rfl rfl rfl rfl (fun i hd hrr hGG => ?_) hst hn hG1 K
  · have hname : M.1.name = "<init>" := of_decide_eq_true hi
    rw [← hname]
    exact (name_of_methodNamed B.named B.method).1
  · refine ck_ret_ok (as := vs) hx hb hr hlocks i1.symm hd hrr (fun j x hj => ?_) hGG
    have hjl : j < (ck_entI co.2.2.1).length := by rw [i1]; exact (List.getElem?_eq_some_iff.mp hj).1
    rw [hν j hjl]
    unfold ck_nu
    rw [hj]
end CKH
end
section
/-! THE CLAIM OUT OF ONE WALK OF THE LAW'S BODY. Your part is whole_start (and what it stands on); all else here is the same for every law, but numbers. -/
def R_law : String := "ScratchLadderLaw"
def lw_P (b : Addr) (xs : List Int32) (args : Array Value) (s : State) : Prop := args = #[.ref b] ∧ s.IntsAt b xs ∧ xs.length ≤ 7 ∧ (Jvm.Cond.and given_1 narrow_1).before args s = true
def lw_Q (_ : Array Value) (s : State) (o : Outcome) (t : State) : Prop := o = .returned (some (.int 1)) ∧ Framed s o t [] 600000 7302250
def lw_Z (below : List Frame) (a : Array Value) (s : State) : State → Prop := fun t => ∃ o, t.status = .running ∧ Ended t below o ∧ lw_Q a s o t
/-- the law's own end, with 1 on the stack, nothing written that was there before, its room as the claim has it -/
theorem lw_ret {p : Program} {l : Launch} {e : Env} {s : State} {m : MethodId} {below : List Frame} {meth : Method} {c : Code} {b : Nat} (hx : p.tables.exec = Jvm.exec) (hb : c.code = code) (hr : meth.sig.returnType = ret) (hlocks : meth.locks = false) {pc : Nat} {H : Heap} {ls : Array Slot} (hdg : decode code pc = .ok (.ireturn, 1)) : W p l e room_1 s m #[Value.ref b] below meth c H [] 600000 7302250 (lw_Z below #[Value.ref b] s) (F0 m pc ls [.int 1]) := by
  intro T hT X
  obtain ⟨fs, hret, hrun, hended, hW, hframe⟩ := X.leave (v := some (.int 1)) (hlocks := hlocks) (fun h => by rw [hr] at h; cases h)
  have hmeth' : T.vm.method? m = some meth := X.method'
  refine ⟨T.setFrames fs, ?_, .returned (some (.int 1)), hrun, hended, rfl, ⟨_, rfl⟩, hW, hframe⟩
  jvm_step X.here [X.here.top, hx, hb, hdg, hmeth', hr, ret, narrow_b1]
  (try refine ⟨rfl, ?_⟩); (try refine ⟨rfl, ?_⟩)
  first | (intro acts; rw [hret _ acts rfl rfl rfl]) | rw [hret _ _ rfl rfl rfl]
  exact Steps.refl _
/-- what holds at the law's entry: the machine, the code, the tables' words (any of lw_tbl by 'hts w (by decide +kernel)'), the script of L ints xs at the cell b, what the Statement gives of the start (any of its parts by flat_of_before) -/
def lw_At (p : Program) (s : State) (m : MethodId) (meth : Method) (c : Code) (b L : Nat) (xs : Nat → Int32) : Prop :=
  p.tables.exec = Jvm.exec ∧ c.code = code ∧ meth.sig.returnType = ret ∧ c.maxLocals = 4 ∧ s.vm.findClass R_law = some m.cls ∧ (∀ w ∈ lw_tbl, w.before #[Value.ref b] s = true) ∧ va_X b L xs s s.heap ∧ b < s.heap.size ∧ meth.locks = false ∧ (Jvm.Cond.and given_1 narrow_1).before #[Value.ref b] s = true
/-! the law's own run: the script's numbers are the first symbols -/
/-- the script z of n numbers: what stands in it, how long it is -/
def ck_scr (zz n : Nat) (pc : Nat) (i : Instr × Nat) (I : List ck_I) (L : List (Nat × ck_V)) (S : List ck_V) (X : ck_D) (k : Nat × Nat × Nat) : Option (List (Nat × ck_S)) := match i, S with
  | (.iaload, 1), .inl f :: .inr (2, z) :: S => if z = zz ∧ f.2.1 = 0 ∧ 0 ≤ f.2.2 ∧ f.2.2 < (n : Int) ∧ n ≤ I.length then some [(pc + 1, (I, L, .inl (f.2.2.toNat, 1, 0) :: S, X, k))] else none
  | (.arraylength, 1), .inr (2, z) :: S => if z = zz ∧ n < 2147483648 then some [(pc + 1, (I, L, .inl (ck_k n) :: S, X, k))] else none
  | _, _ => none
def ck_rtL (i : Instr × Nat) (I : List ck_I) (S : List ck_V) (_ : ck_D) (k : Nat × Nat × Nat) : Bool := match i, S with
  | (.ireturn, 1), [.inl f] => decide ((ck_rng I f).1 = 1) && decide ((ck_rng I f).2 = 1) && decide (k.2.1 ≤ 600000) && decide (k.2.2 ≤ 7302250)
  | _, _ => false
def ck_stepL (cl : List vw_C) (mts : List ck_MT) (sh : List ck_Sh) (T : ck_T) (cs : List ck_C) (wr : List (Nat × Nat)) (zz n : Nat) (pc : Nat) (I : List ck_I) (L : List (Nat × ck_V)) (S : List ck_V) (X : ck_D) (k : Nat × Nat × Nat) : Option (List (Nat × ck_S)) := match decode code pc with
  | .ok i => match ck_scr zz n pc i I L S X k with
    | some xs => some xs
    | none => ck_step cl mts sh T cs wr false 4 600000 7302250 2048 84000 ck_rtL code pc I L S X k
  | _ => none
section CKW
variable {p : Program} {l : Launch} {e : Env} {s : State} {m : MethodId} {below : List Frame} {meth : Method} {c : Code}
variable {D : va_G} {cl : List vw_C} {st : Nat → Nat} {sh : List ck_Sh} {wr : List (Nat × Nat)} {ws0 : va_W}
variable {Ts : List Cond} {AO : List String} {NM : List (String × Nat × MethodName × String)} {SL : List (String × Nat × Nat)} {mts : List ck_MT}
theorem ck_stepL_ok {T : ck_T} {cs : List ck_C} {b Ln zz n0 : Nat} {xsc : Nat → Int32} {ν0 : Nat → Int} (C0 : lw_At p s m meth c b Ln xsc) (hzz : st zz = b) (hν0 : ∀ j, j < n0 → ν0 j = (xsc j).toInt) (hLn : Ln ≤ n0) (hts : ∀ w ∈ Ts, w.before #[Value.ref b] s = true) (hgood : GoodIn Ts Ts) (hamb : ck_amb NM AO SL st s) (hC : ck_okC cl Ts) (hT : ck_okT cl Ts NM AO SL mts R_law T) (hCs : ∀ co ∈ cs, ck_Met l Ts mts D cl NM AO SL st sh co)
    (n pc : Nat) (I : List ck_I) (L : List (Nat × ck_V)) (S : List ck_V) (X : ck_D) (nc mc ms : Nat) (xs : List (Nat × ck_S)) (ν : Nat → Int) (ws : va_W) (tys : List (ClassId × FieldType)) (H : Heap) (locs : List Loc) (ls : Array Slot) (vs : List Value) (h : ck_stepL cl mts sh T cs wr zz Ln pc I L S X (nc, mc, ms) = some xs) (hn : n ≤ I.length) (hν : ∀ j, j < n0 → ν j = ν0 j) (hG : ck_G D cl st sh (fun q : Nat => s.heap.size ≤ q) s 4 wr ws0 I L S X nc ν ws tys H locs ls vs) (K : ∀ x ∈ xs, ck_N p l e room_1 s m #[Value.ref b] below meth c (lw_Z below #[Value.ref b] s) D cl st sh (fun q : Nat => s.heap.size ≤ q) 4 wr ws0 n ν x) : W p l e room_1 s m #[Value.ref b] below meth c H locs mc ms (lw_Z below #[Value.ref b] s) (F0 m pc ls vs) := by
  obtain ⟨hx, hb, hr, hml, hown, -, hX, hbl, hlocks, -⟩ := C0
  have hbA : ¬ (fun q : Nat => s.heap.size ≤ q) b := Nat.not_le.mpr hbl
  have hS := hG.2.2.2.2.2.2.2.2.1
  unfold ck_stepL at h
  split at h
  · rename_i i hd
    split at h
    · rename_i ys hy
      cases h
      unfold ck_scr at hy
      split at hy
      · rename_i f0 z0 S0
        split at hy
        · rename_i hc
          obtain ⟨c1, c2, c3, c4, c5⟩ := hc
          cases hy
          obtain ⟨v, vs', rfl, ⟨w1, x, rfl, e1⟩, h2⟩ := hG.gs.pop
          obtain ⟨v, vs2, rfl, hv, h5⟩ := h2.pop
          have ev : v = .ref (st _) := hv
          subst ev
          rw [c1, hzz]
          have ex : x.toInt = f0.2.2 := by rw [e1]; unfold ck_ev; rw [c2, Int.zero_mul, Int.zero_add]
          have ec : x.toNatClampNeg = x.toInt.toNat := rfl
          refine va_sld hx hb hX hbl hbA hS (vp_in_iff.mpr ⟨by omega, by omega⟩) hd ?_
          have hj : x.toNatClampNeg < n0 := by omega
          refine ck_pushV (V := .inl (f0.2.2.toNat, 1, 0)) (hG.stk h5) ⟨Or.inr ?_, _, rfl, ?_⟩ (K _ List.mem_cons_self)
          · show f0.2.2.toNat < I.length
            omega
          · show _ = 1 * ν f0.2.2.toNat + 0
            rw [← ex, ← ec, hν _ hj, hν0 _ hj]
            omega
        · cases hy
      · split at hy
        · rename_i hc
          obtain ⟨c1, c2⟩ := hc
          cases hy
          obtain ⟨v, vs2, rfl, hv, h5⟩ := hG.gs.pop
          have ev : v = .ref (st _) := hv
          subst ev
          rw [c1, hzz]
          refine va_slen hx hb hX hbl hbA hS hd (ck_pushv (hG.stk h5) hn (f := ck_k Ln) ?_ (K _ List.mem_cons_self))
          have e2 : (Int32.ofNat Ln).toInt = (Ln : Int) := nI_toInt (n := Ln) (by omega)
          rw [e2]
          exact ck_k_ok hG.gi _
        · cases hy
      · cases hy
    · refine ck_step_ok hx hb hml hown hts hgood hamb hC hT hCs (fun q hq => hq) (fun z => by cases z) rfl rfl rfl rfl (fun i hd hrr hGG => ?_) h hn hG K
      unfold ck_rtL at hrr
      split at hrr
      · simp only [Bool.and_eq_true, decide_eq_true_eq] at hrr
        obtain ⟨⟨⟨r1, r2⟩, r3⟩, r4⟩ := hrr
        obtain ⟨v, vs2, rfl, ⟨w1, x, rfl, e1⟩, h5⟩ := hGG.gs.pop
        cases vs2 with
        | cons a b => exact h5.elim
        | nil =>
          have rx := ck_rng32 hGG.gi e1
          have ex : x = 1 := Int32.toInt_inj.mp (by have : (1 : Int32).toInt = 1 := rfl; omega)
          subst ex
          refine va_forget (fun q hq => hGG.2.2.2.2.2.2.2.2.1.2.2 q hq) ?_
          refine W.widen r3 r4 ?_
          exact lw_ret hx hb hr hlocks hd
      · cases hrr
  · cases h
end CKW
end
section
/-! THE LAW'S RUN BY A TABLE OF ITS INSTRUCTIONS: the same steps, the instruction looked up in a list that was decoded once -/
def ck_stepI (cl : List vw_C) (mts : List ck_MT) (sh : List ck_Sh) (T : ck_T) (cs : List ck_C) (wr : List (Nat × Nat)) (ini : Bool) (nL CM SM FM LM : Nat) (rt : Instr × Nat → List ck_I → List ck_V → ck_D → Nat × Nat × Nat → Bool) (i : Instr × Nat) (pc : Nat) (I : List ck_I) (L : List (Nat × ck_V)) (S : List ck_V) (X : ck_D) (k : Nat × Nat × Nat) : Option (List (Nat × ck_S)) :=
  match ck_a pc i I L S X k with
    | some xs => some xs
    | none => match ck_b nL pc i I L S X k with
      | some xs => some xs
      | none => match ck_c pc i I L S X k with
        | some xs => some xs
        | none => match ck_d pc i I L S X k with
          | some xs => some xs
          | none => match ck_e pc i I L S X k with
            | some xs => some xs
            | none => match ck_f T.1 sh wr ini pc i I L S X k with
              | some xs => some xs
              | none => match ck_ld sh pc i I L S X k with
                | some xs => some xs
                | none => match ck_sr cl sh wr pc i I L S X k with
                  | some xs => some xs
                  | none => match ck_cal cl mts T.2.2.2.2.2.2.2.2 cs sh wr CM SM FM LM pc i I L S X k with
                    | some xs => some xs
                    | none => match ck_y T.2.2.2.2.2.2.2.2 sh wr CM SM FM LM pc i I L S X k with
                      | some xs => some xs
                      | none => match ck_n T.2.1 T.2.2.1 T.2.2.2.1 T.2.2.2.2.1 T.2.2.2.2.2.1 sh CM SM pc i I L S X k with
                        | some xs => some xs
                        | none => match ck_ldc T.2.2.2.2.2.2.1 T.2.2.2.2.2.2.2.1 pc i I L S X k with
                          | some xs => some xs
                          | none => if rt i I S X k = true then some [] else none
theorem ck_step_eq {cl : List vw_C} {mts : List ck_MT} {sh : List ck_Sh} {T : ck_T} {cs : List ck_C} {wr : List (Nat × Nat)} {ini : Bool} {nL CM SM FM LM : Nat} {rt : Instr × Nat → List ck_I → List ck_V → ck_D → Nat × Nat × Nat → Bool} {cc : ByteArray} {i : Instr × Nat} {pc : Nat} {I : List ck_I} {L : List (Nat × ck_V)} {S : List ck_V} {X : ck_D} {k : Nat × Nat × Nat} (hd : decode cc pc = .ok i) : ck_step cl mts sh T cs wr ini nL CM SM FM LM rt cc pc I L S X k = ck_stepI cl mts sh T cs wr ini nL CM SM FM LM rt i pc I L S X k := by
  unfold ck_step
  rw [hd]
  rfl
def ck_at (dt : List (Nat × Instr × Nat)) (pc : Nat) : Option (Instr × Nat) := (dt.find? (fun q => q.1 == pc)).map Prod.snd
theorem ck_at_ok {dt : List (Nat × Instr × Nat)} {pc : Nat} {i : Instr × Nat} (hdt : ∀ q ∈ dt, decode code q.1 = .ok q.2) (h : ck_at dt pc = some i) : decode code pc = .ok i := by
  unfold ck_at at h
  cases hq : dt.find? (fun q => q.1 == pc) with
  | none => rw [hq] at h; cases h
  | some q =>
    rw [hq] at h
    have h1 := hdt q (List.mem_of_find?_eq_some hq)
    have h2 := List.find?_some hq
    have h3 : q.1 = pc := by simpa using h2
    have h4 : q.2 = i := Option.some.inj h
    rw [h3, h4] at h1
    exact h1
def ck_stepD (dt : List (Nat × Instr × Nat)) (cl : List vw_C) (mts : List ck_MT) (sh : List ck_Sh) (T : ck_T) (cs : List ck_C) (wr : List (Nat × Nat)) (zz n : Nat) (pc : Nat) (I : List ck_I) (L : List (Nat × ck_V)) (S : List ck_V) (X : ck_D) (k : Nat × Nat × Nat) : Option (List (Nat × ck_S)) := match ck_at dt pc with
  | some i => match ck_scr zz n pc i I L S X k with
    | some xs => some xs
    | none => ck_stepI cl mts sh T cs wr false 4 600000 7302250 2048 84000 ck_rtL i pc I L S X k
  | none => none
theorem ck_stepD_eq {dt : List (Nat × Instr × Nat)} {cl : List vw_C} {mts : List ck_MT} {sh : List ck_Sh} {T : ck_T} {cs : List ck_C} {wr : List (Nat × Nat)} {zz n pc : Nat} {I : List ck_I} {L : List (Nat × ck_V)} {S : List ck_V} {X : ck_D} {k : Nat × Nat × Nat} {xs : List (Nat × ck_S)} (hdt : ∀ q ∈ dt, decode code q.1 = .ok q.2) (h : ck_stepD dt cl mts sh T cs wr zz n pc I L S X k = some xs) : ck_stepL cl mts sh T cs wr zz n pc I L S X k = some xs := by
  unfold ck_stepD at h
  split at h
  · rename_i i hi
    have hd := ck_at_ok hdt hi
    unfold ck_stepL
    rw [hd]
    dsimp only
    rw [ck_step_eq hd]
    exact h
  · cases h
section CKV
variable {p : Program} {l : Launch} {e : Env} {s : State} {m : MethodId} {below : List Frame} {meth : Method} {c : Code}
variable {D : va_G} {cl : List vw_C} {st : Nat → Nat} {sh : List ck_Sh} {wr : List (Nat × Nat)} {ws0 : va_W}
variable {Ts : List Cond} {AO : List String} {NM : List (String × Nat × MethodName × String)} {SL : List (String × Nat × Nat)} {mts : List ck_MT}
theorem ck_stepD_ok {dt : List (Nat × Instr × Nat)} (hdt : ∀ q ∈ dt, decode code q.1 = .ok q.2) {T : ck_T} {cs : List ck_C} {b Ln zz n0 : Nat} {xsc : Nat → Int32} {ν0 : Nat → Int} (C0 : lw_At p s m meth c b Ln xsc) (hzz : st zz = b) (hν0 : ∀ j, j < n0 → ν0 j = (xsc j).toInt) (hLn : Ln ≤ n0) (hts : ∀ w ∈ Ts, w.before #[Value.ref b] s = true) (hgood : GoodIn Ts Ts) (hamb : ck_amb NM AO SL st s) (hC : ck_okC cl Ts) (hT : ck_okT cl Ts NM AO SL mts R_law T) (hCs : ∀ co ∈ cs, ck_Met l Ts mts D cl NM AO SL st sh co)
    (n pc : Nat) (I : List ck_I) (L : List (Nat × ck_V)) (S : List ck_V) (X : ck_D) (nc mc ms : Nat) (xs : List (Nat × ck_S)) (ν : Nat → Int) (ws : va_W) (tys : List (ClassId × FieldType)) (H : Heap) (locs : List Loc) (ls : Array Slot) (vs : List Value) (h : ck_stepD dt cl mts sh T cs wr zz Ln pc I L S X (nc, mc, ms) = some xs) (hn : n ≤ I.length) (hν : ∀ j, j < n0 → ν j = ν0 j) (hG : ck_G D cl st sh (fun q : Nat => s.heap.size ≤ q) s 4 wr ws0 I L S X nc ν ws tys H locs ls vs) (K : ∀ x ∈ xs, ck_N p l e room_1 s m #[Value.ref b] below meth c (lw_Z below #[Value.ref b] s) D cl st sh (fun q : Nat => s.heap.size ≤ q) 4 wr ws0 n ν x) : W p l e room_1 s m #[Value.ref b] below meth c H locs mc ms (lw_Z below #[Value.ref b] s) (F0 m pc ls vs) :=
  ck_stepL_ok C0 hzz hν0 hLn hts hgood hamb hC hT hCs n pc I L S X nc mc ms xs ν ws tys H locs ls vs (ck_stepD_eq hdt h) hn hν hG K
end CKV
end
