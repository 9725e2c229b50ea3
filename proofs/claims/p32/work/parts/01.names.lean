-- ===== PART A: goes FIRST, ahead of the names: the tables' words, and 'selects' of the private methods out of them =====
/-- a private method of a class that the tables say can be made, by its rows of tables_1 -/
def lw_okq (q : MethodName × Nat) : Prop := (q.1.cls ≠ "java/lang/invoke/MethodHandle" ∧ q.1.cls ≠ "java/lang/invoke/VarHandle") ∧ Cond.instantiable q.1.cls q.2 ∈ tables_1 ∧ Cond.privateMethod q.1 ∈ tables_1 ∧ Cond.instanceMethod q.1 ∈ tables_1
theorem lw_p0 : lw_okq (⟨"StillInIt", "doText", "()I"⟩, 10) := ⟨⟨by decide +kernel, by decide +kernel⟩, List.mem_of_getElem? (i := 16) (by decide +kernel), List.mem_of_getElem? (i := 254) (by decide +kernel), List.mem_of_getElem? (i := 255) (by decide +kernel)⟩
theorem lw_p1 : lw_okq (⟨"StillInIt$Tape", "sortAt", "(I)I"⟩, 5) := ⟨⟨by decide +kernel, by decide +kernel⟩, List.mem_of_getElem? (i := 24) (by decide +kernel), List.mem_of_getElem? (i := 265) (by decide +kernel), List.mem_of_getElem? (i := 266) (by decide +kernel)⟩
theorem lw_p2 : lw_okq (⟨"StillInIt", "doTeam", "()I"⟩, 10) := ⟨⟨by decide +kernel, by decide +kernel⟩, List.mem_of_getElem? (i := 16) (by decide +kernel), List.mem_of_getElem? (i := 322) (by decide +kernel), List.mem_of_getElem? (i := 323) (by decide +kernel)⟩
theorem lw_p3 : lw_okq (⟨"StillInIt$Group", "isNamed", "(I[III)Z"⟩, 10) := ⟨⟨by decide +kernel, by decide +kernel⟩, List.mem_of_getElem? (i := 51) (by decide +kernel), List.mem_of_getElem? (i := 340) (by decide +kernel), List.mem_of_getElem? (i := 341) (by decide +kernel)⟩
theorem lw_p4 : lw_okq (⟨"StillInIt", "doStart", "()I"⟩, 10) := ⟨⟨by decide +kernel, by decide +kernel⟩, List.mem_of_getElem? (i := 16) (by decide +kernel), List.mem_of_getElem? (i := 358) (by decide +kernel), List.mem_of_getElem? (i := 359) (by decide +kernel)⟩
theorem lw_p5 : lw_okq (⟨"StillInIt", "readTeam", "(I)I"⟩, 10) := ⟨⟨by decide +kernel, by decide +kernel⟩, List.mem_of_getElem? (i := 16) (by decide +kernel), List.mem_of_getElem? (i := 362) (by decide +kernel), List.mem_of_getElem? (i := 363) (by decide +kernel)⟩
theorem lw_p6 : lw_okq (⟨"StillInIt", "doGame", "()I"⟩, 10) := ⟨⟨by decide +kernel, by decide +kernel⟩, List.mem_of_getElem? (i := 16) (by decide +kernel), List.mem_of_getElem? (i := 371) (by decide +kernel), List.mem_of_getElem? (i := 372) (by decide +kernel)⟩
theorem lw_p7 : lw_okq (⟨"StillInIt", "doPlay", "(Z)I"⟩, 10) := ⟨⟨by decide +kernel, by decide +kernel⟩, List.mem_of_getElem? (i := 16) (by decide +kernel), List.mem_of_getElem? (i := 384) (by decide +kernel), List.mem_of_getElem? (i := 385) (by decide +kernel)⟩
theorem lw_p8 : lw_okq (⟨"StillInIt", "pointsOf", "(LStillInIt$Group;I)I"⟩, 10) := ⟨⟨by decide +kernel, by decide +kernel⟩, List.mem_of_getElem? (i := 16) (by decide +kernel), List.mem_of_getElem? (i := 439) (by decide +kernel), List.mem_of_getElem? (i := 440) (by decide +kernel)⟩
theorem lw_p9 : lw_okq (⟨"StillInIt", "reachOf", "(LStillInIt$Group;I)I"⟩, 10) := ⟨⟨by decide +kernel, by decide +kernel⟩, List.mem_of_getElem? (i := 16) (by decide +kernel), List.mem_of_getElem? (i := 455) (by decide +kernel), List.mem_of_getElem? (i := 456) (by decide +kernel)⟩
theorem lw_p10 : lw_okq (⟨"StillInIt", "canWin", "(LStillInIt$Group;I)Z"⟩, 10) := ⟨⟨by decide +kernel, by decide +kernel⟩, List.mem_of_getElem? (i := 16) (by decide +kernel), List.mem_of_getElem? (i := 490) (by decide +kernel), List.mem_of_getElem? (i := 491) (by decide +kernel)⟩
theorem lw_p11 : lw_okq (⟨"StillInIt$Shutter", "open", "(LStillInIt$Group;I)V"⟩, 5) := ⟨⟨by decide +kernel, by decide +kernel⟩, List.mem_of_getElem? (i := 105) (by decide +kernel), List.mem_of_getElem? (i := 498) (by decide +kernel), List.mem_of_getElem? (i := 499) (by decide +kernel)⟩
theorem lw_p12 : lw_okq (⟨"StillInIt$Shutter", "aboveOf", "(ILStillInIt$Group;)I"⟩, 5) := ⟨⟨by decide +kernel, by decide +kernel⟩, List.mem_of_getElem? (i := 105) (by decide +kernel), List.mem_of_getElem? (i := 511) (by decide +kernel), List.mem_of_getElem? (i := 512) (by decide +kernel)⟩
theorem lw_p13 : lw_okq (⟨"StillInIt$Race", "enter", "(III)V"⟩, 9) := ⟨⟨by decide +kernel, by decide +kernel⟩, List.mem_of_getElem? (i := 129) (by decide +kernel), List.mem_of_getElem? (i := 540) (by decide +kernel), List.mem_of_getElem? (i := 541) (by decide +kernel)⟩
theorem lw_p14 : lw_okq (⟨"StillInIt$Race", "fits", "(I)Z"⟩, 9) := ⟨⟨by decide +kernel, by decide +kernel⟩, List.mem_of_getElem? (i := 129) (by decide +kernel), List.mem_of_getElem? (i := 549) (by decide +kernel), List.mem_of_getElem? (i := 550) (by decide +kernel)⟩
theorem lw_p15 : lw_okq (⟨"StillInIt$Race", "fitsWon", "(III)Z"⟩, 9) := ⟨⟨by decide +kernel, by decide +kernel⟩, List.mem_of_getElem? (i := 129) (by decide +kernel), List.mem_of_getElem? (i := 553) (by decide +kernel), List.mem_of_getElem? (i := 554) (by decide +kernel)⟩
def lw_privs_1 : List (MethodName × Nat) := [(⟨"StillInIt", "doText", "()I"⟩, 10), (⟨"StillInIt$Tape", "sortAt", "(I)I"⟩, 5), (⟨"StillInIt", "doTeam", "()I"⟩, 10), (⟨"StillInIt$Group", "isNamed", "(I[III)Z"⟩, 10), (⟨"StillInIt", "doStart", "()I"⟩, 10), (⟨"StillInIt", "readTeam", "(I)I"⟩, 10), (⟨"StillInIt", "doGame", "()I"⟩, 10), (⟨"StillInIt", "doPlay", "(Z)I"⟩, 10), (⟨"StillInIt", "pointsOf", "(LStillInIt$Group;I)I"⟩, 10), (⟨"StillInIt", "reachOf", "(LStillInIt$Group;I)I"⟩, 10), (⟨"StillInIt", "canWin", "(LStillInIt$Group;I)Z"⟩, 10), (⟨"StillInIt$Shutter", "open", "(LStillInIt$Group;I)V"⟩, 5), (⟨"StillInIt$Shutter", "aboveOf", "(ILStillInIt$Group;)I"⟩, 5), (⟨"StillInIt$Race", "enter", "(III)V"⟩, 9), (⟨"StillInIt$Race", "fits", "(I)Z"⟩, 9), (⟨"StillInIt$Race", "fitsWon", "(III)Z"⟩, 9)]
theorem lw_r1 : ∀ q ∈ lw_privs_1, lw_okq q := List.forall_mem_cons.mpr ⟨lw_p0, List.forall_mem_cons.mpr ⟨lw_p1, List.forall_mem_cons.mpr ⟨lw_p2, List.forall_mem_cons.mpr ⟨lw_p3, List.forall_mem_cons.mpr ⟨lw_p4, List.forall_mem_cons.mpr ⟨lw_p5, List.forall_mem_cons.mpr ⟨lw_p6, List.forall_mem_cons.mpr ⟨lw_p7, List.forall_mem_cons.mpr ⟨lw_p8, List.forall_mem_cons.mpr ⟨lw_p9, List.forall_mem_cons.mpr ⟨lw_p10, List.forall_mem_cons.mpr ⟨lw_p11, List.forall_mem_cons.mpr ⟨lw_p12, List.forall_mem_cons.mpr ⟨lw_p13, List.forall_mem_cons.mpr ⟨lw_p14, List.forall_mem_cons.mpr ⟨lw_p15, fun _ h => absurd h List.not_mem_nil⟩⟩⟩⟩⟩⟩⟩⟩⟩⟩⟩⟩⟩⟩⟩⟩
theorem lw_p16 : lw_okq (⟨"StillInIt$Race", "hasRoomForAll", "(II)Z"⟩, 9) := ⟨⟨by decide +kernel, by decide +kernel⟩, List.mem_of_getElem? (i := 129) (by decide +kernel), List.mem_of_getElem? (i := 557) (by decide +kernel), List.mem_of_getElem? (i := 558) (by decide +kernel)⟩
theorem lw_p17 : lw_okq (⟨"StillInIt$Race", "fitsDrawn", "(I)Z"⟩, 9) := ⟨⟨by decide +kernel, by decide +kernel⟩, List.mem_of_getElem? (i := 129) (by decide +kernel), List.mem_of_getElem? (i := 561) (by decide +kernel), List.mem_of_getElem? (i := 562) (by decide +kernel)⟩
theorem lw_p18 : lw_okq (⟨"StillInIt", "whoCanWin", "(LStillInIt$Group;)I"⟩, 10) := ⟨⟨by decide +kernel, by decide +kernel⟩, List.mem_of_getElem? (i := 16) (by decide +kernel), List.mem_of_getElem? (i := 569) (by decide +kernel), List.mem_of_getElem? (i := 570) (by decide +kernel)⟩
theorem lw_p19 : lw_okq (⟨"StillInIt", "fewestFor", "(IIZ)I"⟩, 10) := ⟨⟨by decide +kernel, by decide +kernel⟩, List.mem_of_getElem? (i := 16) (by decide +kernel), List.mem_of_getElem? (i := 596) (by decide +kernel), List.mem_of_getElem? (i := 597) (by decide +kernel)⟩
theorem lw_p20 : lw_okq (⟨"StillInIt", "suffices", "(IIZ)Z"⟩, 10) := ⟨⟨by decide +kernel, by decide +kernel⟩, List.mem_of_getElem? (i := 16) (by decide +kernel), List.mem_of_getElem? (i := 600) (by decide +kernel), List.mem_of_getElem? (i := 601) (by decide +kernel)⟩
theorem lw_p21 : lw_okq (⟨"StillInIt", "isSure", "(LStillInIt$Group;I)Z"⟩, 10) := ⟨⟨by decide +kernel, by decide +kernel⟩, List.mem_of_getElem? (i := 16) (by decide +kernel), List.mem_of_getElem? (i := 631) (by decide +kernel), List.mem_of_getElem? (i := 632) (by decide +kernel)⟩
theorem lw_p22 : lw_okq (⟨"StillInIt$Walk", "from", "(ILStillInIt$Group;LStillInIt$Sheet;)I"⟩, 5) := ⟨⟨by decide +kernel, by decide +kernel⟩, List.mem_of_getElem? (i := 163) (by decide +kernel), List.mem_of_getElem? (i := 658) (by decide +kernel), List.mem_of_getElem? (i := 659) (by decide +kernel)⟩
theorem lw_p23 : lw_okq (⟨"StillInIt$Walk", "isNew", "()Z"⟩, 5) := ⟨⟨by decide +kernel, by decide +kernel⟩, List.mem_of_getElem? (i := 163) (by decide +kernel), List.mem_of_getElem? (i := 662) (by decide +kernel), List.mem_of_getElem? (i := 663) (by decide +kernel)⟩
theorem lw_p24 : lw_okq (⟨"StillInIt$Walk", "isAsTold", "(LStillInIt$Sheet;)Z"⟩, 5) := ⟨⟨by decide +kernel, by decide +kernel⟩, List.mem_of_getElem? (i := 163) (by decide +kernel), List.mem_of_getElem? (i := 666) (by decide +kernel), List.mem_of_getElem? (i := 667) (by decide +kernel)⟩
theorem lw_p25 : lw_okq (⟨"StillInIt", "drawInto", "(I)V"⟩, 10) := ⟨⟨by decide +kernel, by decide +kernel⟩, List.mem_of_getElem? (i := 16) (by decide +kernel), List.mem_of_getElem? (i := 677) (by decide +kernel), List.mem_of_getElem? (i := 678) (by decide +kernel)⟩
theorem lw_p26 : lw_okq (⟨"StillInItModel", "next", "()V"⟩, 21) := ⟨⟨by decide +kernel, by decide +kernel⟩, List.mem_of_getElem? (i := 749) (by decide +kernel), List.mem_of_getElem? (i := 835) (by decide +kernel), List.mem_of_getElem? (i := 836) (by decide +kernel)⟩
theorem lw_p27 : lw_okq (⟨"StillInItModel", "byteAt", "(I)I"⟩, 21) := ⟨⟨by decide +kernel, by decide +kernel⟩, List.mem_of_getElem? (i := 749) (by decide +kernel), List.mem_of_getElem? (i := 839) (by decide +kernel), List.mem_of_getElem? (i := 840) (by decide +kernel)⟩
theorem lw_p28 : lw_okq (⟨"StillInItModel", "isWord", "()Z"⟩, 21) := ⟨⟨by decide +kernel, by decide +kernel⟩, List.mem_of_getElem? (i := 749) (by decide +kernel), List.mem_of_getElem? (i := 853) (by decide +kernel), List.mem_of_getElem? (i := 854) (by decide +kernel)⟩
theorem lw_p29 : lw_okq (⟨"StillInItModel", "key", "()I"⟩, 21) := ⟨⟨by decide +kernel, by decide +kernel⟩, List.mem_of_getElem? (i := 749) (by decide +kernel), List.mem_of_getElem? (i := 857) (by decide +kernel), List.mem_of_getElem? (i := 858) (by decide +kernel)⟩
theorem lw_p30 : lw_okq (⟨"StillInItModel", "faults", "()I"⟩, 21) := ⟨⟨by decide +kernel, by decide +kernel⟩, List.mem_of_getElem? (i := 749) (by decide +kernel), List.mem_of_getElem? (i := 861) (by decide +kernel), List.mem_of_getElem? (i := 862) (by decide +kernel)⟩
theorem lw_p31 : lw_okq (⟨"StillInItModel", "isName", "()Z"⟩, 21) := ⟨⟨by decide +kernel, by decide +kernel⟩, List.mem_of_getElem? (i := 749) (by decide +kernel), List.mem_of_getElem? (i := 865) (by decide +kernel), List.mem_of_getElem? (i := 866) (by decide +kernel)⟩
def lw_privs_2 : List (MethodName × Nat) := [(⟨"StillInIt$Race", "hasRoomForAll", "(II)Z"⟩, 9), (⟨"StillInIt$Race", "fitsDrawn", "(I)Z"⟩, 9), (⟨"StillInIt", "whoCanWin", "(LStillInIt$Group;)I"⟩, 10), (⟨"StillInIt", "fewestFor", "(IIZ)I"⟩, 10), (⟨"StillInIt", "suffices", "(IIZ)Z"⟩, 10), (⟨"StillInIt", "isSure", "(LStillInIt$Group;I)Z"⟩, 10), (⟨"StillInIt$Walk", "from", "(ILStillInIt$Group;LStillInIt$Sheet;)I"⟩, 5), (⟨"StillInIt$Walk", "isNew", "()Z"⟩, 5), (⟨"StillInIt$Walk", "isAsTold", "(LStillInIt$Sheet;)Z"⟩, 5), (⟨"StillInIt", "drawInto", "(I)V"⟩, 10), (⟨"StillInItModel", "next", "()V"⟩, 21), (⟨"StillInItModel", "byteAt", "(I)I"⟩, 21), (⟨"StillInItModel", "isWord", "()Z"⟩, 21), (⟨"StillInItModel", "key", "()I"⟩, 21), (⟨"StillInItModel", "faults", "()I"⟩, 21), (⟨"StillInItModel", "isName", "()Z"⟩, 21)]
theorem lw_r2 : ∀ q ∈ lw_privs_2, lw_okq q := List.forall_mem_cons.mpr ⟨lw_p16, List.forall_mem_cons.mpr ⟨lw_p17, List.forall_mem_cons.mpr ⟨lw_p18, List.forall_mem_cons.mpr ⟨lw_p19, List.forall_mem_cons.mpr ⟨lw_p20, List.forall_mem_cons.mpr ⟨lw_p21, List.forall_mem_cons.mpr ⟨lw_p22, List.forall_mem_cons.mpr ⟨lw_p23, List.forall_mem_cons.mpr ⟨lw_p24, List.forall_mem_cons.mpr ⟨lw_p25, List.forall_mem_cons.mpr ⟨lw_p26, List.forall_mem_cons.mpr ⟨lw_p27, List.forall_mem_cons.mpr ⟨lw_p28, List.forall_mem_cons.mpr ⟨lw_p29, List.forall_mem_cons.mpr ⟨lw_p30, List.forall_mem_cons.mpr ⟨lw_p31, fun _ h => absurd h List.not_mem_nil⟩⟩⟩⟩⟩⟩⟩⟩⟩⟩⟩⟩⟩⟩⟩⟩
theorem lw_p32 : lw_okq (⟨"StillInItModel", "whose", "(II)I"⟩, 21) := ⟨⟨by decide +kernel, by decide +kernel⟩, List.mem_of_getElem? (i := 749) (by decide +kernel), List.mem_of_getElem? (i := 869) (by decide +kernel), List.mem_of_getElem? (i := 870) (by decide +kernel)⟩
theorem lw_p33 : lw_okq (⟨"StillInItModel", "comesTeam", "()I"⟩, 21) := ⟨⟨by decide +kernel, by decide +kernel⟩, List.mem_of_getElem? (i := 749) (by decide +kernel), List.mem_of_getElem? (i := 873) (by decide +kernel), List.mem_of_getElem? (i := 874) (by decide +kernel)⟩
theorem lw_p34 : lw_okq (⟨"StillInItModel", "isOver", "()Z"⟩, 21) := ⟨⟨by decide +kernel, by decide +kernel⟩, List.mem_of_getElem? (i := 749) (by decide +kernel), List.mem_of_getElem? (i := 877) (by decide +kernel), List.mem_of_getElem? (i := 878) (by decide +kernel)⟩
theorem lw_p35 : lw_okq (⟨"StillInItModel", "starts", "()I"⟩, 21) := ⟨⟨by decide +kernel, by decide +kernel⟩, List.mem_of_getElem? (i := 749) (by decide +kernel), List.mem_of_getElem? (i := 881) (by decide +kernel), List.mem_of_getElem? (i := 882) (by decide +kernel)⟩
theorem lw_p36 : lw_okq (⟨"StillInItModel", "number", "(II)I"⟩, 21) := ⟨⟨by decide +kernel, by decide +kernel⟩, List.mem_of_getElem? (i := 749) (by decide +kernel), List.mem_of_getElem? (i := 885) (by decide +kernel), List.mem_of_getElem? (i := 886) (by decide +kernel)⟩
theorem lw_p37 : lw_okq (⟨"StillInItModel", "games", "(I)I"⟩, 21) := ⟨⟨by decide +kernel, by decide +kernel⟩, List.mem_of_getElem? (i := 749) (by decide +kernel), List.mem_of_getElem? (i := 889) (by decide +kernel), List.mem_of_getElem? (i := 890) (by decide +kernel)⟩
theorem lw_p38 : lw_okq (⟨"StillInItModel", "comesGame", "(III)I"⟩, 21) := ⟨⟨by decide +kernel, by decide +kernel⟩, List.mem_of_getElem? (i := 749) (by decide +kernel), List.mem_of_getElem? (i := 893) (by decide +kernel), List.mem_of_getElem? (i := 894) (by decide +kernel)⟩
theorem lw_p39 : lw_okq (⟨"StillInItModel", "isPlayed", "(IIZ)I"⟩, 21) := ⟨⟨by decide +kernel, by decide +kernel⟩, List.mem_of_getElem? (i := 749) (by decide +kernel), List.mem_of_getElem? (i := 897) (by decide +kernel), List.mem_of_getElem? (i := 898) (by decide +kernel)⟩
theorem lw_p40 : lw_okq (⟨"StillInItModel", "isOf", "(II)Z"⟩, 21) := ⟨⟨by decide +kernel, by decide +kernel⟩, List.mem_of_getElem? (i := 749) (by decide +kernel), List.mem_of_getElem? (i := 901) (by decide +kernel), List.mem_of_getElem? (i := 902) (by decide +kernel)⟩
theorem lw_p41 : lw_okq (⟨"StillInItModel", "isGame", "(I)Z"⟩, 21) := ⟨⟨by decide +kernel, by decide +kernel⟩, List.mem_of_getElem? (i := 749) (by decide +kernel), List.mem_of_getElem? (i := 918) (by decide +kernel), List.mem_of_getElem? (i := 919) (by decide +kernel)⟩
theorem lw_p42 : lw_okq (⟨"StillInItModel", "isTeam", "(I)Z"⟩, 21) := ⟨⟨by decide +kernel, by decide +kernel⟩, List.mem_of_getElem? (i := 749) (by decide +kernel), List.mem_of_getElem? (i := 930) (by decide +kernel), List.mem_of_getElem? (i := 931) (by decide +kernel)⟩
theorem lw_p43 : lw_okq (⟨"StillInItModel", "looks", "()V"⟩, 21) := ⟨⟨by decide +kernel, by decide +kernel⟩, List.mem_of_getElem? (i := 749) (by decide +kernel), List.mem_of_getElem? (i := 934) (by decide +kernel), List.mem_of_getElem? (i := 935) (by decide +kernel)⟩
theorem lw_p44 : lw_okq (⟨"StillInItModel", "counts", "()V"⟩, 21) := ⟨⟨by decide +kernel, by decide +kernel⟩, List.mem_of_getElem? (i := 749) (by decide +kernel), List.mem_of_getElem? (i := 938) (by decide +kernel), List.mem_of_getElem? (i := 939) (by decide +kernel)⟩
theorem lw_p45 : lw_okq (⟨"StillInItModel", "brings", "(III)V"⟩, 21) := ⟨⟨by decide +kernel, by decide +kernel⟩, List.mem_of_getElem? (i := 749) (by decide +kernel), List.mem_of_getElem? (i := 942) (by decide +kernel), List.mem_of_getElem? (i := 943) (by decide +kernel)⟩
theorem lw_p46 : lw_okq (⟨"StillInItModel", "wonBrings", "()I"⟩, 21) := ⟨⟨by decide +kernel, by decide +kernel⟩, List.mem_of_getElem? (i := 749) (by decide +kernel), List.mem_of_getElem? (i := 946) (by decide +kernel), List.mem_of_getElem? (i := 947) (by decide +kernel)⟩
theorem lw_p47 : lw_okq (⟨"StillInItModel", "drawnBrings", "()I"⟩, 21) := ⟨⟨by decide +kernel, by decide +kernel⟩, List.mem_of_getElem? (i := 749) (by decide +kernel), List.mem_of_getElem? (i := 950) (by decide +kernel), List.mem_of_getElem? (i := 951) (by decide +kernel)⟩
def lw_privs_3 : List (MethodName × Nat) := [(⟨"StillInItModel", "whose", "(II)I"⟩, 21), (⟨"StillInItModel", "comesTeam", "()I"⟩, 21), (⟨"StillInItModel", "isOver", "()Z"⟩, 21), (⟨"StillInItModel", "starts", "()I"⟩, 21), (⟨"StillInItModel", "number", "(II)I"⟩, 21), (⟨"StillInItModel", "games", "(I)I"⟩, 21), (⟨"StillInItModel", "comesGame", "(III)I"⟩, 21), (⟨"StillInItModel", "isPlayed", "(IIZ)I"⟩, 21), (⟨"StillInItModel", "isOf", "(II)Z"⟩, 21), (⟨"StillInItModel", "isGame", "(I)Z"⟩, 21), (⟨"StillInItModel", "isTeam", "(I)Z"⟩, 21), (⟨"StillInItModel", "looks", "()V"⟩, 21), (⟨"StillInItModel", "counts", "()V"⟩, 21), (⟨"StillInItModel", "brings", "(III)V"⟩, 21), (⟨"StillInItModel", "wonBrings", "()I"⟩, 21), (⟨"StillInItModel", "drawnBrings", "()I"⟩, 21)]
theorem lw_r3 : ∀ q ∈ lw_privs_3, lw_okq q := List.forall_mem_cons.mpr ⟨lw_p32, List.forall_mem_cons.mpr ⟨lw_p33, List.forall_mem_cons.mpr ⟨lw_p34, List.forall_mem_cons.mpr ⟨lw_p35, List.forall_mem_cons.mpr ⟨lw_p36, List.forall_mem_cons.mpr ⟨lw_p37, List.forall_mem_cons.mpr ⟨lw_p38, List.forall_mem_cons.mpr ⟨lw_p39, List.forall_mem_cons.mpr ⟨lw_p40, List.forall_mem_cons.mpr ⟨lw_p41, List.forall_mem_cons.mpr ⟨lw_p42, List.forall_mem_cons.mpr ⟨lw_p43, List.forall_mem_cons.mpr ⟨lw_p44, List.forall_mem_cons.mpr ⟨lw_p45, List.forall_mem_cons.mpr ⟨lw_p46, List.forall_mem_cons.mpr ⟨lw_p47, fun _ h => absurd h List.not_mem_nil⟩⟩⟩⟩⟩⟩⟩⟩⟩⟩⟩⟩⟩⟩⟩⟩
theorem lw_p48 : lw_okq (⟨"StillInItModel", "reach", "(I)I"⟩, 21) := ⟨⟨by decide +kernel, by decide +kernel⟩, List.mem_of_getElem? (i := 749) (by decide +kernel), List.mem_of_getElem? (i := 954) (by decide +kernel), List.mem_of_getElem? (i := 955) (by decide +kernel)⟩
theorem lw_p49 : lw_okq (⟨"StillInItModel", "ownLeft", "(I)I"⟩, 21) := ⟨⟨by decide +kernel, by decide +kernel⟩, List.mem_of_getElem? (i := 749) (by decide +kernel), List.mem_of_getElem? (i := 958) (by decide +kernel), List.mem_of_getElem? (i := 959) (by decide +kernel)⟩
theorem lw_p50 : lw_okq (⟨"StillInItModel", "isInNow", "(IZ)Z"⟩, 21) := ⟨⟨by decide +kernel, by decide +kernel⟩, List.mem_of_getElem? (i := 749) (by decide +kernel), List.mem_of_getElem? (i := 984) (by decide +kernel), List.mem_of_getElem? (i := 985) (by decide +kernel)⟩
theorem lw_p51 : lw_okq (⟨"StillInItModel", "leftSet", "()I"⟩, 21) := ⟨⟨by decide +kernel, by decide +kernel⟩, List.mem_of_getElem? (i := 749) (by decide +kernel), List.mem_of_getElem? (i := 991) (by decide +kernel), List.mem_of_getElem? (i := 992) (by decide +kernel)⟩
theorem lw_p52 : lw_okq (⟨"StillInItModel", "goes", "(II)Z"⟩, 21) := ⟨⟨by decide +kernel, by decide +kernel⟩, List.mem_of_getElem? (i := 749) (by decide +kernel), List.mem_of_getElem? (i := 995) (by decide +kernel), List.mem_of_getElem? (i := 996) (by decide +kernel)⟩
theorem lw_p53 : lw_okq (⟨"StillInItModel", "isTooMuch", "()Z"⟩, 21) := ⟨⟨by decide +kernel, by decide +kernel⟩, List.mem_of_getElem? (i := 749) (by decide +kernel), List.mem_of_getElem? (i := 999) (by decide +kernel), List.mem_of_getElem? (i := 1000) (by decide +kernel)⟩
theorem lw_p54 : lw_okq (⟨"StillInItModel", "notesDrawn", "()V"⟩, 21) := ⟨⟨by decide +kernel, by decide +kernel⟩, List.mem_of_getElem? (i := 749) (by decide +kernel), List.mem_of_getElem? (i := 1003) (by decide +kernel), List.mem_of_getElem? (i := 1004) (by decide +kernel)⟩
theorem lw_p55 : lw_okq (⟨"StillInItModel", "results", "()I"⟩, 21) := ⟨⟨by decide +kernel, by decide +kernel⟩, List.mem_of_getElem? (i := 749) (by decide +kernel), List.mem_of_getElem? (i := 1007) (by decide +kernel), List.mem_of_getElem? (i := 1008) (by decide +kernel)⟩
theorem lw_p56 : lw_okq (⟨"StillInItModel", "inSet", "()I"⟩, 21) := ⟨⟨by decide +kernel, by decide +kernel⟩, List.mem_of_getElem? (i := 749) (by decide +kernel), List.mem_of_getElem? (i := 1018) (by decide +kernel), List.mem_of_getElem? (i := 1019) (by decide +kernel)⟩
theorem lw_p57 : lw_okq (⟨"StillInItModel", "aboveOf", "(II)I"⟩, 21) := ⟨⟨by decide +kernel, by decide +kernel⟩, List.mem_of_getElem? (i := 749) (by decide +kernel), List.mem_of_getElem? (i := 1026) (by decide +kernel), List.mem_of_getElem? (i := 1027) (by decide +kernel)⟩
theorem lw_p58 : lw_okq (⟨"StillInItModel", "isEnough", "(III)Z"⟩, 21) := ⟨⟨by decide +kernel, by decide +kernel⟩, List.mem_of_getElem? (i := 749) (by decide +kernel), List.mem_of_getElem? (i := 1042) (by decide +kernel), List.mem_of_getElem? (i := 1043) (by decide +kernel)⟩
theorem lw_p59 : lw_okq (⟨"StillInItModel", "looksAsOf", "(I)V"⟩, 21) := ⟨⟨by decide +kernel, by decide +kernel⟩, List.mem_of_getElem? (i := 749) (by decide +kernel), List.mem_of_getElem? (i := 1050) (by decide +kernel), List.mem_of_getElem? (i := 1051) (by decide +kernel)⟩
theorem lw_p60 : lw_okq (⟨"StillInItModel", "canBePassed", "(II)Z"⟩, 21) := ⟨⟨by decide +kernel, by decide +kernel⟩, List.mem_of_getElem? (i := 749) (by decide +kernel), List.mem_of_getElem? (i := 1054) (by decide +kernel), List.mem_of_getElem? (i := 1055) (by decide +kernel)⟩
theorem lw_p61 : lw_okq (⟨"StillInItModel", "looksWith", "(II)V"⟩, 21) := ⟨⟨by decide +kernel, by decide +kernel⟩, List.mem_of_getElem? (i := 749) (by decide +kernel), List.mem_of_getElem? (i := 1062) (by decide +kernel), List.mem_of_getElem? (i := 1063) (by decide +kernel)⟩
theorem lw_p62 : lw_okq (⟨"StillInItModel", "tablesFrom", "(I)V"⟩, 21) := ⟨⟨by decide +kernel, by decide +kernel⟩, List.mem_of_getElem? (i := 749) (by decide +kernel), List.mem_of_getElem? (i := 1074) (by decide +kernel), List.mem_of_getElem? (i := 1075) (by decide +kernel)⟩
theorem lw_p63 : lw_okq (⟨"StillInItModel", "notesRow", "()V"⟩, 21) := ⟨⟨by decide +kernel, by decide +kernel⟩, List.mem_of_getElem? (i := 749) (by decide +kernel), List.mem_of_getElem? (i := 1078) (by decide +kernel), List.mem_of_getElem? (i := 1079) (by decide +kernel)⟩
def lw_privs_4 : List (MethodName × Nat) := [(⟨"StillInItModel", "reach", "(I)I"⟩, 21), (⟨"StillInItModel", "ownLeft", "(I)I"⟩, 21), (⟨"StillInItModel", "isInNow", "(IZ)Z"⟩, 21), (⟨"StillInItModel", "leftSet", "()I"⟩, 21), (⟨"StillInItModel", "goes", "(II)Z"⟩, 21), (⟨"StillInItModel", "isTooMuch", "()Z"⟩, 21), (⟨"StillInItModel", "notesDrawn", "()V"⟩, 21), (⟨"StillInItModel", "results", "()I"⟩, 21), (⟨"StillInItModel", "inSet", "()I"⟩, 21), (⟨"StillInItModel", "aboveOf", "(II)I"⟩, 21), (⟨"StillInItModel", "isEnough", "(III)Z"⟩, 21), (⟨"StillInItModel", "looksAsOf", "(I)V"⟩, 21), (⟨"StillInItModel", "canBePassed", "(II)Z"⟩, 21), (⟨"StillInItModel", "looksWith", "(II)V"⟩, 21), (⟨"StillInItModel", "tablesFrom", "(I)V"⟩, 21), (⟨"StillInItModel", "notesRow", "()V"⟩, 21)]
theorem lw_r4 : ∀ q ∈ lw_privs_4, lw_okq q := List.forall_mem_cons.mpr ⟨lw_p48, List.forall_mem_cons.mpr ⟨lw_p49, List.forall_mem_cons.mpr ⟨lw_p50, List.forall_mem_cons.mpr ⟨lw_p51, List.forall_mem_cons.mpr ⟨lw_p52, List.forall_mem_cons.mpr ⟨lw_p53, List.forall_mem_cons.mpr ⟨lw_p54, List.forall_mem_cons.mpr ⟨lw_p55, List.forall_mem_cons.mpr ⟨lw_p56, List.forall_mem_cons.mpr ⟨lw_p57, List.forall_mem_cons.mpr ⟨lw_p58, List.forall_mem_cons.mpr ⟨lw_p59, List.forall_mem_cons.mpr ⟨lw_p60, List.forall_mem_cons.mpr ⟨lw_p61, List.forall_mem_cons.mpr ⟨lw_p62, List.forall_mem_cons.mpr ⟨lw_p63, fun _ h => absurd h List.not_mem_nil⟩⟩⟩⟩⟩⟩⟩⟩⟩⟩⟩⟩⟩⟩⟩⟩
theorem lw_p64 : lw_okq (⟨"StillInItModel", "draws", "(I)V"⟩, 21) := ⟨⟨by decide +kernel, by decide +kernel⟩, List.mem_of_getElem? (i := 749) (by decide +kernel), List.mem_of_getElem? (i := 1086) (by decide +kernel), List.mem_of_getElem? (i := 1087) (by decide +kernel)⟩
theorem lw_p65 : lw_okq (⟨"StillInItModel", "firstOnes", "()I"⟩, 21) := ⟨⟨by decide +kernel, by decide +kernel⟩, List.mem_of_getElem? (i := 749) (by decide +kernel), List.mem_of_getElem? (i := 1091) (by decide +kernel), List.mem_of_getElem? (i := 1092) (by decide +kernel)⟩
theorem lw_p66 : lw_okq (⟨"StillInItModel", "firstTold", "(I)I"⟩, 21) := ⟨⟨by decide +kernel, by decide +kernel⟩, List.mem_of_getElem? (i := 749) (by decide +kernel), List.mem_of_getElem? (i := 1107) (by decide +kernel), List.mem_of_getElem? (i := 1108) (by decide +kernel)⟩
theorem lw_p67 : lw_okq (⟨"StillInItModel", "runsSo", "(II)I"⟩, 21) := ⟨⟨by decide +kernel, by decide +kernel⟩, List.mem_of_getElem? (i := 749) (by decide +kernel), List.mem_of_getElem? (i := 1111) (by decide +kernel), List.mem_of_getElem? (i := 1112) (by decide +kernel)⟩
def lw_privs_5 : List (MethodName × Nat) := [(⟨"StillInItModel", "draws", "(I)V"⟩, 21), (⟨"StillInItModel", "firstOnes", "()I"⟩, 21), (⟨"StillInItModel", "firstTold", "(I)I"⟩, 21), (⟨"StillInItModel", "runsSo", "(II)I"⟩, 21)]
theorem lw_r5 : ∀ q ∈ lw_privs_5, lw_okq q := List.forall_mem_cons.mpr ⟨lw_p64, List.forall_mem_cons.mpr ⟨lw_p65, List.forall_mem_cons.mpr ⟨lw_p66, List.forall_mem_cons.mpr ⟨lw_p67, fun _ h => absurd h List.not_mem_nil⟩⟩⟩⟩
def lw_privs : List (MethodName × Nat) := lw_privs_1 ++ (lw_privs_2 ++ (lw_privs_3 ++ (lw_privs_4 ++ (lw_privs_5))))
def lw_tbl : List Cond := k2_sels lw_privs ++ tables_1
theorem lw_privs_ok : ∀ q ∈ lw_privs, lw_okq q := by
  show ∀ q ∈ lw_privs_1 ++ (lw_privs_2 ++ (lw_privs_3 ++ (lw_privs_4 ++ (lw_privs_5)))), lw_okq q
  exact List.forall_mem_append.mpr ⟨lw_r1, List.forall_mem_append.mpr ⟨lw_r2, List.forall_mem_append.mpr ⟨lw_r3, List.forall_mem_append.mpr ⟨lw_r4, lw_r5⟩⟩⟩⟩
def RX0 : String := "StillInIt$Group"
def TX0 : u_T := fun k => match k with
  | 0 => ("StillInIt$Group", "teams", "I", false)
  | 1 => ("StillInIt$Group", "games", "I", false)
  | 2 => ("StillInIt$Group", "kind", "I", false)
  | 3 => ("StillInIt$Group", "starts", "[I", true)
  | 4 => ("StillInIt$Group", "sizes", "[I", true)
  | 5 => ("StillInIt$Group", "letters", "[I", true)
  | 6 => ("StillInIt$Group", "ones", "[I", true)
  | 7 => ("StillInIt$Group", "others", "[I", true)
  | 8 => ("StillInIt$Group", "days", "[I", true)
  | _ => ("StillInIt$Group", "results", "[I", true)
def tyX0 : Nat → FieldType := fun k => match k with
  | 0 => .int
  | 1 => .int
  | 2 => .int
  | 3 => .array .int
  | 4 => .array .int
  | 5 => .array .int
  | 6 => .array .int
  | 7 => .array .int
  | 8 => .array .int
  | _ => .array .int
theorem nmX0 : ∀ a, a < 10 → ∀ b, b < 10 → a ≠ b → (TX0 a).2.1 ≠ (TX0 b).2.1 := by decide +kernel
theorem tyX0_ok : ∀ k, k < 10 → parseFieldDescriptor (TX0 k).2.2.1 = some (tyX0 k) := by decide +kernel
abbrev cX0_init : ByteArray := prog_2_method_1_code
def yX0_init : MethodName := ⟨RX0, "<init>", "()V"⟩
abbrev cX0_takeFrom : ByteArray := prog_2_method_2_code
def yX0_takeFrom : MethodName := ⟨RX0, "takeFrom", "(LStillInIt$Group;)V"⟩
abbrev cX0_hasTeam : ByteArray := prog_2_method_3_code
def yX0_hasTeam : MethodName := ⟨RX0, "hasTeam", "(I)Z"⟩
abbrev cX0_hasGame : ByteArray := prog_2_method_4_code
def yX0_hasGame : MethodName := ⟨RX0, "hasGame", "(I)Z"⟩
abbrev cX0_isLeft : ByteArray := prog_2_method_5_code
def yX0_isLeft : MethodName := ⟨RX0, "isLeft", "(I)Z"⟩
abbrev cX0_winBrings : ByteArray := prog_2_method_6_code
def yX0_winBrings : MethodName := ⟨RX0, "winBrings", "()I"⟩
abbrev cX0_drawBrings : ByteArray := prog_2_method_7_code
def yX0_drawBrings : MethodName := ⟨RX0, "drawBrings", "()I"⟩
abbrev cX0_leastGiven : ByteArray := prog_2_method_8_code
def yX0_leastGiven : MethodName := ⟨RX0, "leastGiven", "()I"⟩
abbrev cX0_firstResult : ByteArray := prog_2_method_9_code
def yX0_firstResult : MethodName := ⟨RX0, "firstResult", "()I"⟩
abbrev cX0_letter : ByteArray := prog_2_method_10_code
def yX0_letter : MethodName := ⟨RX0, "letter", "(II)I"⟩
abbrev cX0_whose : ByteArray := prog_2_method_11_code
def yX0_whose : MethodName := ⟨RX0, "whose", "([III)I"⟩
abbrev cX0_isNamed : ByteArray := prog_2_method_12_code
def yX0_isNamed : MethodName := ⟨RX0, "isNamed", "(I[III)Z"⟩
abbrev cX0_addTeam : ByteArray := prog_2_method_13_code
def yX0_addTeam : MethodName := ⟨RX0, "addTeam", "([III)I"⟩
abbrev cX0_addGame : ByteArray := prog_2_method_14_code
def yX0_addGame : MethodName := ⟨RX0, "addGame", "(III)I"⟩
abbrev cX0_drop : ByteArray := prog_2_method_15_code
def yX0_drop : MethodName := ⟨RX0, "drop", "(I)V"⟩
abbrev cX0_wasPlayedOn : ByteArray := prog_2_method_16_code
def yX0_wasPlayedOn : MethodName := ⟨RX0, "wasPlayedOn", "(I)Z"⟩
abbrev cX0_forget : ByteArray := prog_2_method_17_code
def yX0_forget : MethodName := ⟨RX0, "forget", "(I)V"⟩
abbrev cX0_foe : ByteArray := prog_2_method_18_code
def yX0_foe : MethodName := ⟨RX0, "foe", "(II)I"⟩
abbrev cX0_left : ByteArray := prog_2_method_19_code
def yX0_left : MethodName := ⟨RX0, "left", "()I"⟩
abbrev cX0_leftOf : ByteArray := prog_2_method_20_code
def yX0_leftOf : MethodName := ⟨RX0, "leftOf", "(I)I"⟩
abbrev cX0_nextBetween : ByteArray := prog_2_method_21_code
def yX0_nextBetween : MethodName := ⟨RX0, "nextBetween", "(II)I"⟩
abbrev cX0_pointsInto : ByteArray := prog_2_method_22_code
def yX0_pointsInto : MethodName := ⟨RX0, "pointsInto", "([I)V"⟩
abbrev cX0_award : ByteArray := prog_2_method_23_code
def yX0_award : MethodName := ⟨RX0, "award", "([IIII)V"⟩
def RX1 : String := "StillInIt$Race"
def TX1 : u_T := fun k => match k with
  | 0 => ("StillInIt$Race", "room", "[I", true)
  | 1 => ("StillInIt$Race", "ones", "[I", true)
  | 2 => ("StillInIt$Race", "others", "[I", true)
  | 3 => ("StillInIt$Race", "numbers", "[I", true)
  | 4 => ("StillInIt$Race", "picks", "[I", true)
  | 5 => ("StillInIt$Race", "size", "I", false)
  | 6 => ("StillInIt$Race", "win", "I", false)
  | 7 => ("StillInIt$Race", "draw", "I", false)
  | _ => ("StillInIt$Race", "mayDraw", "Z", false)
def tyX1 : Nat → FieldType := fun k => match k with
  | 0 => .array .int
  | 1 => .array .int
  | 2 => .array .int
  | 3 => .array .int
  | 4 => .array .int
  | 5 => .int
  | 6 => .int
  | 7 => .int
  | _ => .boolean
theorem nmX1 : ∀ a, a < 9 → ∀ b, b < 9 → a ≠ b → (TX1 a).2.1 ≠ (TX1 b).2.1 := by decide +kernel
theorem tyX1_ok : ∀ k, k < 9 → parseFieldDescriptor (TX1 k).2.2.1 = some (tyX1 k) := by decide +kernel
abbrev cX1_init : ByteArray := prog_3_method_1_code
def yX1_init : MethodName := ⟨RX1, "<init>", "()V"⟩
abbrev cX1_open : ByteArray := prog_3_method_2_code
def yX1_open : MethodName := ⟨RX1, "open", "(LStillInIt$Group;II)V"⟩
abbrev cX1_enter : ByteArray := prog_3_method_3_code
def yX1_enter : MethodName := ⟨RX1, "enter", "(III)V"⟩
abbrev cX1_drawOnly : ByteArray := prog_3_method_4_code
def yX1_drawOnly : MethodName := ⟨RX1, "drawOnly", "(I)V"⟩
abbrev cX1_canEnd : ByteArray := prog_3_method_5_code
def yX1_canEnd : MethodName := ⟨RX1, "canEnd", "()Z"⟩
abbrev cX1_pickOf : ByteArray := prog_3_method_6_code
def yX1_pickOf : MethodName := ⟨RX1, "pickOf", "(I)I"⟩
abbrev cX1_fits : ByteArray := prog_3_method_7_code
def yX1_fits : MethodName := ⟨RX1, "fits", "(I)Z"⟩
abbrev cX1_fitsWon : ByteArray := prog_3_method_8_code
def yX1_fitsWon : MethodName := ⟨RX1, "fitsWon", "(III)Z"⟩
abbrev cX1_fitsDrawn : ByteArray := prog_3_method_9_code
def yX1_fitsDrawn : MethodName := ⟨RX1, "fitsDrawn", "(I)Z"⟩
abbrev cX1_hasRoomForAll : ByteArray := prog_3_method_10_code
def yX1_hasRoomForAll : MethodName := ⟨RX1, "hasRoomForAll", "(II)Z"⟩
def RX2 : String := "StillInIt$Sheet"
def TX2 : u_T := fun k => match k with
  | 0 => ("StillInIt$Sheet", "items", "[I", true)
  | 1 => ("StillInIt$Sheet", "sort", "I", false)
  | _ => ("StillInIt$Sheet", "size", "I", false)
def tyX2 : Nat → FieldType := fun k => match k with
  | 0 => .array .int
  | 1 => .int
  | _ => .int
theorem nmX2 : ∀ a, a < 3 → ∀ b, b < 3 → a ≠ b → (TX2 a).2.1 ≠ (TX2 b).2.1 := by decide +kernel
theorem tyX2_ok : ∀ k, k < 3 → parseFieldDescriptor (TX2 k).2.2.1 = some (tyX2 k) := by decide +kernel
abbrev cX2_init : ByteArray := prog_4_method_1_code
def yX2_init : MethodName := ⟨RX2, "<init>", "()V"⟩
abbrev cX2_isMissing : ByteArray := prog_4_method_2_code
def yX2_isMissing : MethodName := ⟨RX2, "isMissing", "()Z"⟩
abbrev cX2_become : ByteArray := prog_4_method_3_code
def yX2_become : MethodName := ⟨RX2, "become", "(II)V"⟩
abbrev cX2_holds : ByteArray := prog_4_method_4_code
def yX2_holds : MethodName := ⟨RX2, "holds", "(II)Z"⟩
def RX3 : String := "StillInIt$Shutter"
def TX3 : u_T := fun k => match k with
  | 0 => ("StillInIt$Shutter", "over", "[I", true)
  | 1 => ("StillInIt$Shutter", "pairs", "[I", true)
  | 2 => ("StillInIt$Shutter", "size", "I", false)
  | 3 => ("StillInIt$Shutter", "teams", "I", false)
  | _ => ("StillInIt$Shutter", "above", "I", false)
def tyX3 : Nat → FieldType := fun k => match k with
  | 0 => .array .int
  | 1 => .array .int
  | 2 => .int
  | 3 => .int
  | _ => .int
theorem nmX3 : ∀ a, a < 5 → ∀ b, b < 5 → a ≠ b → (TX3 a).2.1 ≠ (TX3 b).2.1 := by decide +kernel
theorem tyX3_ok : ∀ k, k < 5 → parseFieldDescriptor (TX3 k).2.2.1 = some (tyX3 k) := by decide +kernel
abbrev cX3_init : ByteArray := prog_5_method_1_code
def yX3_init : MethodName := ⟨RX3, "<init>", "()V"⟩
abbrev cX3_find : ByteArray := prog_5_method_2_code
def yX3_find : MethodName := ⟨RX3, "find", "(LStillInIt$Group;I)I"⟩
abbrev cX3_open : ByteArray := prog_5_method_3_code
def yX3_open : MethodName := ⟨RX3, "open", "(LStillInIt$Group;I)V"⟩
abbrev cX3_aboveOf : ByteArray := prog_5_method_4_code
def yX3_aboveOf : MethodName := ⟨RX3, "aboveOf", "(ILStillInIt$Group;)I"⟩
def RX4 : String := "StillInIt$Tape"
def TX4 : u_T := fun k => match k with
  | 0 => ("StillInIt$Tape", "bytes", "[I", true)
  | 1 => ("StillInIt$Tape", "size", "I", false)
  | 2 => ("StillInIt$Tape", "begin", "I", false)
  | 3 => ("StillInIt$Tape", "end", "I", false)
  | _ => ("StillInIt$Tape", "sort", "I", false)
def tyX4 : Nat → FieldType := fun k => match k with
  | 0 => .array .int
  | 1 => .int
  | 2 => .int
  | 3 => .int
  | _ => .int
theorem nmX4 : ∀ a, a < 5 → ∀ b, b < 5 → a ≠ b → (TX4 a).2.1 ≠ (TX4 b).2.1 := by decide +kernel
theorem tyX4_ok : ∀ k, k < 5 → parseFieldDescriptor (TX4 k).2.2.1 = some (tyX4 k) := by decide +kernel
abbrev cX4_init : ByteArray := prog_6_method_1_code
def yX4_init : MethodName := ⟨RX4, "<init>", "()V"⟩
abbrev cX4_add : ByteArray := prog_6_method_2_code
def yX4_add : MethodName := ⟨RX4, "add", "(I)V"⟩
abbrev cX4_clear : ByteArray := prog_6_method_3_code
def yX4_clear : MethodName := ⟨RX4, "clear", "()V"⟩
abbrev cX4_step : ByteArray := prog_6_method_4_code
def yX4_step : MethodName := ⟨RX4, "step", "()V"⟩
abbrev cX4_isBlank : ByteArray := prog_6_method_5_code
def yX4_isBlank : MethodName := ⟨RX4, "isBlank", "(I)Z"⟩
abbrev cX4_sortAt : ByteArray := prog_6_method_6_code
def yX4_sortAt : MethodName := ⟨RX4, "sortAt", "(I)I"⟩
abbrev cX4_fault : ByteArray := prog_6_method_7_code
def yX4_fault : MethodName := ⟨RX4, "fault", "()I"⟩
abbrev cX4_ends : ByteArray := prog_6_method_8_code
def yX4_ends : MethodName := ⟨RX4, "ends", "()Z"⟩
abbrev cX4_is : ByteArray := prog_6_method_9_code
def yX4_is : MethodName := ⟨RX4, "is", "(Ljava/lang/String;)Z"⟩
abbrev cX4_isName : ByteArray := prog_6_method_10_code
def yX4_isName : MethodName := ⟨RX4, "isName", "()Z"⟩
abbrev cX4_number : ByteArray := prog_6_method_11_code
def yX4_number : MethodName := ⟨RX4, "number", "(II)I"⟩
def RX5 : String := "StillInIt$Walk"
def TX5 : u_T := fun k => match k with
  | 0 => ("StillInIt$Walk", "row", "[I", true)
  | 1 => ("StillInIt$Walk", "left", "[I", true)
  | 2 => ("StillInIt$Walk", "seen", "[J", true)
  | 3 => ("StillInIt$Walk", "size", "I", false)
  | _ => ("StillInIt$Walk", "known", "I", false)
def tyX5 : Nat → FieldType := fun k => match k with
  | 0 => .array .int
  | 1 => .array .int
  | 2 => .array .long
  | 3 => .int
  | _ => .int
theorem nmX5 : ∀ a, a < 5 → ∀ b, b < 5 → a ≠ b → (TX5 a).2.1 ≠ (TX5 b).2.1 := by decide +kernel
theorem tyX5_ok : ∀ k, k < 5 → parseFieldDescriptor (TX5 k).2.2.1 = some (tyX5 k) := by decide +kernel
abbrev cX5_init : ByteArray := prog_7_method_1_code
def yX5_init : MethodName := ⟨RX5, "<init>", "()V"⟩
abbrev cX5_open : ByteArray := prog_7_method_2_code
def yX5_open : MethodName := ⟨RX5, "open", "(LStillInIt$Group;)V"⟩
abbrev cX5_from : ByteArray := prog_7_method_3_code
def yX5_from : MethodName := ⟨RX5, "from", "(ILStillInIt$Group;LStillInIt$Sheet;)I"⟩
abbrev cX5_isNew : ByteArray := prog_7_method_4_code
def yX5_isNew : MethodName := ⟨RX5, "isNew", "()Z"⟩
abbrev cX5_isAsTold : ByteArray := prog_7_method_5_code
def yX5_isAsTold : MethodName := ⟨RX5, "isAsTold", "(LStillInIt$Sheet;)Z"⟩
def RX6 : String := "StillInIt"
def TX6 : u_T := fun k => match k with
  | 0 => ("StillInIt", "tape", "LStillInIt$Tape;", true)
  | 1 => ("StillInIt", "now", "LStillInIt$Group;", true)
  | 2 => ("StillInIt", "kept", "LStillInIt$Group;", true)
  | 3 => ("StillInIt", "thought", "LStillInIt$Group;", true)
  | 4 => ("StillInIt", "shutter", "LStillInIt$Shutter;", true)
  | 5 => ("StillInIt", "race", "LStillInIt$Race;", true)
  | 6 => ("StillInIt", "walk", "LStillInIt$Walk;", true)
  | 7 => ("StillInIt", "sheets", "[LStillInIt$Sheet;", true)
  | 8 => ("StillInIt", "table", "[I", true)
  | _ => ("StillInIt", "hasImage", "Z", false)
def tyX6 : Nat → FieldType := fun k => match k with
  | 0 => .object "StillInIt$Tape"
  | 1 => .object "StillInIt$Group"
  | 2 => .object "StillInIt$Group"
  | 3 => .object "StillInIt$Group"
  | 4 => .object "StillInIt$Shutter"
  | 5 => .object "StillInIt$Race"
  | 6 => .object "StillInIt$Walk"
  | 7 => .array (.object "StillInIt$Sheet")
  | 8 => .array .int
  | _ => .boolean
theorem nmX6 : ∀ a, a < 10 → ∀ b, b < 10 → a ≠ b → (TX6 a).2.1 ≠ (TX6 b).2.1 := by decide +kernel
theorem tyX6_ok : ∀ k, k < 10 → parseFieldDescriptor (TX6 k).2.2.1 = some (tyX6 k) := by decide +kernel
abbrev cX6_init : ByteArray := prog_1_method_1_code
def yX6_init : MethodName := ⟨RX6, "<init>", "()V"⟩
abbrev cX6_feed : ByteArray := prog_1_method_2_code
def yX6_feed : MethodName := ⟨RX6, "feed", "(IIIIII)I"⟩
abbrev cX6_text : ByteArray := prog_1_method_3_code
def yX6_text : MethodName := ⟨RX6, "text", "()I"⟩
abbrev cX6_named : ByteArray := prog_1_method_4_code
def yX6_named : MethodName := ⟨RX6, "named", "()I"⟩
abbrev cX6_system : ByteArray := prog_1_method_5_code
def yX6_system : MethodName := ⟨RX6, "system", "(I)I"⟩
abbrev cX6_play : ByteArray := prog_1_method_6_code
def yX6_play : MethodName := ⟨RX6, "play", "(II)I"⟩
abbrev cX6_unplay : ByteArray := prog_1_method_7_code
def yX6_unplay : MethodName := ⟨RX6, "unplay", "(I)I"⟩
abbrev cX6_told : ByteArray := prog_1_method_8_code
def yX6_told : MethodName := ⟨RX6, "told", "(II)I"⟩
abbrev cX6_game : ByteArray := prog_1_method_9_code
def yX6_game : MethodName := ⟨RX6, "game", "(II)I"⟩
abbrev cX6_between : ByteArray := prog_1_method_10_code
def yX6_between : MethodName := ⟨RX6, "between", "(II)I"⟩
abbrev cX6_taken : ByteArray := prog_1_method_11_code
def yX6_taken : MethodName := ⟨RX6, "taken", "(I)I"⟩
abbrev cX6_isIn : ByteArray := prog_1_method_12_code
def yX6_isIn : MethodName := ⟨RX6, "isIn", "(I)I"⟩
abbrev cX6_all : ByteArray := prog_1_method_13_code
def yX6_all : MethodName := ⟨RX6, "all", "()I"⟩
abbrev cX6_set : ByteArray := prog_1_method_14_code
def yX6_set : MethodName := ⟨RX6, "set", "(II)I"⟩
abbrev cX6_run : ByteArray := prog_1_method_15_code
def yX6_run : MethodName := ⟨RX6, "run", "(II)I"⟩
abbrev cX6_pattern : ByteArray := prog_1_method_16_code
def yX6_pattern : MethodName := ⟨RX6, "pattern", "(I)I"⟩
abbrev cX6_needs : ByteArray := prog_1_method_17_code
def yX6_needs : MethodName := ⟨RX6, "needs", "(II)I"⟩
abbrev cX6_since : ByteArray := prog_1_method_18_code
def yX6_since : MethodName := ⟨RX6, "since", "(II)I"⟩
abbrev cX6_help : ByteArray := prog_1_method_19_code
def yX6_help : MethodName := ⟨RX6, "help", "(II)I"⟩
abbrev cX6_without : ByteArray := prog_1_method_20_code
def yX6_without : MethodName := ⟨RX6, "without", "(I)I"⟩
abbrev cX6_tables : ByteArray := prog_1_method_21_code
def yX6_tables : MethodName := ⟨RX6, "tables", "()I"⟩
abbrev cX6_drawn : ByteArray := prog_1_method_22_code
def yX6_drawn : MethodName := ⟨RX6, "drawn", "(I)I"⟩
abbrev cX6_chance : ByteArray := prog_1_method_23_code
def yX6_chance : MethodName := ⟨RX6, "chance", "(IIII)I"⟩
abbrev cX6_tells : ByteArray := prog_1_method_24_code
def yX6_tells : MethodName := ⟨RX6, "tells", "(II)I"⟩
abbrev cX6_film : ByteArray := prog_1_method_25_code
def yX6_film : MethodName := ⟨RX6, "film", "(II)I"⟩
abbrev cX6_image : ByteArray := prog_1_method_26_code
def yX6_image : MethodName := ⟨RX6, "image", "()I"⟩
abbrev cX6_back : ByteArray := prog_1_method_27_code
def yX6_back : MethodName := ⟨RX6, "back", "()I"⟩
abbrev cX6_count : ByteArray := prog_1_method_28_code
def yX6_count : MethodName := ⟨RX6, "count", "(I)I"⟩
abbrev cX6_sheet : ByteArray := prog_1_method_29_code
def yX6_sheet : MethodName := ⟨RX6, "sheet", "(III)I"⟩
abbrev cX6_put : ByteArray := prog_1_method_30_code
def yX6_put : MethodName := ⟨RX6, "put", "(III)I"⟩
abbrev cX6_copy : ByteArray := prog_1_method_31_code
def yX6_copy : MethodName := ⟨RX6, "copy", "(IIIII)I"⟩
abbrev cX6_load : ByteArray := prog_1_method_32_code
def yX6_load : MethodName := ⟨RX6, "load", "(IIII)I"⟩
abbrev cX6_isByte : ByteArray := prog_1_method_33_code
def yX6_isByte : MethodName := ⟨RX6, "isByte", "(I)Z"⟩
abbrev cX6_isSystem : ByteArray := prog_1_method_34_code
def yX6_isSystem : MethodName := ⟨RX6, "isSystem", "(I)Z"⟩
abbrev cX6_isPart : ByteArray := prog_1_method_35_code
def yX6_isPart : MethodName := ⟨RX6, "isPart", "(I)Z"⟩
abbrev cX6_isSheet : ByteArray := prog_1_method_36_code
def yX6_isSheet : MethodName := ⟨RX6, "isSheet", "(I)Z"⟩
abbrev cX6_isSort : ByteArray := prog_1_method_37_code
def yX6_isSort : MethodName := ⟨RX6, "isSort", "(I)Z"⟩
abbrev cX6_has : ByteArray := prog_1_method_38_code
def yX6_has : MethodName := ⟨RX6, "has", "(II)Z"⟩
abbrev cX6_doText : ByteArray := prog_1_method_39_code
def yX6_doText : MethodName := ⟨RX6, "doText", "()I"⟩
abbrev cX6_doTeam : ByteArray := prog_1_method_40_code
def yX6_doTeam : MethodName := ⟨RX6, "doTeam", "()I"⟩
abbrev cX6_doStart : ByteArray := prog_1_method_41_code
def yX6_doStart : MethodName := ⟨RX6, "doStart", "()I"⟩
abbrev cX6_doGame : ByteArray := prog_1_method_42_code
def yX6_doGame : MethodName := ⟨RX6, "doGame", "()I"⟩
abbrev cX6_doPlay : ByteArray := prog_1_method_43_code
def yX6_doPlay : MethodName := ⟨RX6, "doPlay", "(Z)I"⟩
abbrev cX6_readTeam : ByteArray := prog_1_method_44_code
def yX6_readTeam : MethodName := ⟨RX6, "readTeam", "(I)I"⟩
abbrev cX6_pointsOf : ByteArray := prog_1_method_45_code
def yX6_pointsOf : MethodName := ⟨RX6, "pointsOf", "(LStillInIt$Group;I)I"⟩
abbrev cX6_reachOf : ByteArray := prog_1_method_46_code
def yX6_reachOf : MethodName := ⟨RX6, "reachOf", "(LStillInIt$Group;I)I"⟩
abbrev cX6_canWin : ByteArray := prog_1_method_47_code
def yX6_canWin : MethodName := ⟨RX6, "canWin", "(LStillInIt$Group;I)Z"⟩
abbrev cX6_whoCanWin : ByteArray := prog_1_method_48_code
def yX6_whoCanWin : MethodName := ⟨RX6, "whoCanWin", "(LStillInIt$Group;)I"⟩
abbrev cX6_isSure : ByteArray := prog_1_method_49_code
def yX6_isSure : MethodName := ⟨RX6, "isSure", "(LStillInIt$Group;I)Z"⟩
abbrev cX6_fewestFor : ByteArray := prog_1_method_50_code
def yX6_fewestFor : MethodName := ⟨RX6, "fewestFor", "(IIZ)I"⟩
abbrev cX6_suffices : ByteArray := prog_1_method_51_code
def yX6_suffices : MethodName := ⟨RX6, "suffices", "(IIZ)Z"⟩
abbrev cX6_drawInto : ByteArray := prog_1_method_52_code
def yX6_drawInto : MethodName := ⟨RX6, "drawInto", "(I)V"⟩
abbrev cX6_firstOf : ByteArray := prog_1_method_53_code
def yX6_firstOf : MethodName := ⟨RX6, "firstOf", "([II)I"⟩
abbrev cX6_commonDivisor : ByteArray := prog_1_method_54_code
def yX6_commonDivisor : MethodName := ⟨RX6, "commonDivisor", "(II)I"⟩
def RX7 : String := "StillInItModel"
def TX7 : u_T := fun k => match k with
  | 0 => ("StillInItModel", "w", "[I", true)
  | 1 => ("StillInItModel", "kept", "[I", true)
  | 2 => ("StillInItModel", "hasImage", "Z", false)
  | 3 => ("StillInItModel", "as", "[I", true)
  | 4 => ("StillInItModel", "points", "[I", true)
  | 5 => ("StillInItModel", "forWhom", "I", false)
  | 6 => ("StillInItModel", "most", "I", false)
  | 7 => ("StillInItModel", "run", "[I", true)
  | 8 => ("StillInItModel", "bestDrawn", "I", false)
  | 9 => ("StillInItModel", "wantsAll", "Z", false)
  | 10 => ("StillInItModel", "tape", "[I", true)
  | 11 => ("StillInItModel", "taped", "I", false)
  | 12 => ("StillInItModel", "at", "I", false)
  | 13 => ("StillInItModel", "begin", "I", false)
  | 14 => ("StillInItModel", "end", "I", false)
  | 15 => ("StillInItModel", "keys", "[I", true)
  | 16 => ("StillInItModel", "rows", "[I", true)
  | 17 => ("StillInItModel", "rowMany", "I", false)
  | 18 => ("StillInItModel", "sorts", "[I", true)
  | 19 => ("StillInItModel", "sizes", "[I", true)
  | _ => ("StillInItModel", "cells", "[I", true)
def tyX7 : Nat → FieldType := fun k => match k with
  | 0 => .array .int
  | 1 => .array .int
  | 2 => .boolean
  | 3 => .array .int
  | 4 => .array .int
  | 5 => .int
  | 6 => .int
  | 7 => .array .int
  | 8 => .int
  | 9 => .boolean
  | 10 => .array .int
  | 11 => .int
  | 12 => .int
  | 13 => .int
  | 14 => .int
  | 15 => .array .int
  | 16 => .array .int
  | 17 => .int
  | 18 => .array .int
  | 19 => .array .int
  | _ => .array .int
theorem nmX7 : ∀ a, a < 21 → ∀ b, b < 21 → a ≠ b → (TX7 a).2.1 ≠ (TX7 b).2.1 := by decide +kernel
theorem tyX7_ok : ∀ k, k < 21 → parseFieldDescriptor (TX7 k).2.2.1 = some (tyX7 k) := by decide +kernel
abbrev cX7_init : ByteArray := prog_9_method_1_code
def yX7_init : MethodName := ⟨RX7, "<init>", "()V"⟩
abbrev cX7_in : ByteArray := prog_9_method_2_code
def yX7_in : MethodName := ⟨RX7, "in", "(JJJ)Z"⟩
abbrev cX7_has : ByteArray := prog_9_method_3_code
def yX7_has : MethodName := ⟨RX7, "has", "(II)Z"⟩
abbrev cX7_ones : ByteArray := prog_9_method_4_code
def yX7_ones : MethodName := ⟨RX7, "ones", "(I)I"⟩
abbrev cX7_isTeam : ByteArray := prog_9_method_5_code
def yX7_isTeam : MethodName := ⟨RX7, "isTeam", "(I)Z"⟩
abbrev cX7_isGame : ByteArray := prog_9_method_6_code
def yX7_isGame : MethodName := ⟨RX7, "isGame", "(I)Z"⟩
abbrev cX7_wonBrings : ByteArray := prog_9_method_7_code
def yX7_wonBrings : MethodName := ⟨RX7, "wonBrings", "()I"⟩
abbrev cX7_drawnBrings : ByteArray := prog_9_method_8_code
def yX7_drawnBrings : MethodName := ⟨RX7, "drawnBrings", "()I"⟩
abbrev cX7_isOf : ByteArray := prog_9_method_9_code
def yX7_isOf : MethodName := ⟨RX7, "isOf", "(II)Z"⟩
abbrev cX7_brings : ByteArray := prog_9_method_10_code
def yX7_brings : MethodName := ⟨RX7, "brings", "(III)V"⟩
abbrev cX7_counts : ByteArray := prog_9_method_11_code
def yX7_counts : MethodName := ⟨RX7, "counts", "()V"⟩
abbrev cX7_looks : ByteArray := prog_9_method_12_code
def yX7_looks : MethodName := ⟨RX7, "looks", "()V"⟩
abbrev cX7_looksAsOf : ByteArray := prog_9_method_13_code
def yX7_looksAsOf : MethodName := ⟨RX7, "looksAsOf", "(I)V"⟩
abbrev cX7_looksWith : ByteArray := prog_9_method_14_code
def yX7_looksWith : MethodName := ⟨RX7, "looksWith", "(II)V"⟩
abbrev cX7_leftSet : ByteArray := prog_9_method_15_code
def yX7_leftSet : MethodName := ⟨RX7, "leftSet", "()I"⟩
abbrev cX7_ownLeft : ByteArray := prog_9_method_16_code
def yX7_ownLeft : MethodName := ⟨RX7, "ownLeft", "(I)I"⟩
abbrev cX7_reach : ByteArray := prog_9_method_17_code
def yX7_reach : MethodName := ⟨RX7, "reach", "(I)I"⟩
abbrev cX7_isTooMuch : ByteArray := prog_9_method_18_code
def yX7_isTooMuch : MethodName := ⟨RX7, "isTooMuch", "()Z"⟩
abbrev cX7_resultAt : ByteArray := prog_9_method_19_code
def yX7_resultAt : MethodName := ⟨RX7, "resultAt", "(I)I"⟩
abbrev cX7_results : ByteArray := prog_9_method_20_code
def yX7_results : MethodName := ⟨RX7, "results", "()I"⟩
abbrev cX7_notesDrawn : ByteArray := prog_9_method_21_code
def yX7_notesDrawn : MethodName := ⟨RX7, "notesDrawn", "()V"⟩
abbrev cX7_goes : ByteArray := prog_9_method_22_code
def yX7_goes : MethodName := ⟨RX7, "goes", "(II)Z"⟩
abbrev cX7_isInNow : ByteArray := prog_9_method_23_code
def yX7_isInNow : MethodName := ⟨RX7, "isInNow", "(IZ)Z"⟩
abbrev cX7_inSet : ByteArray := prog_9_method_24_code
def yX7_inSet : MethodName := ⟨RX7, "inSet", "()I"⟩
abbrev cX7_canBePassed : ByteArray := prog_9_method_25_code
def yX7_canBePassed : MethodName := ⟨RX7, "canBePassed", "(II)Z"⟩
abbrev cX7_isByte : ByteArray := prog_9_method_26_code
def yX7_isByte : MethodName := ⟨RX7, "isByte", "(I)Z"⟩
abbrev cX7_feed : ByteArray := prog_9_method_27_code
def yX7_feed : MethodName := ⟨RX7, "feed", "(IIIIII)I"⟩
abbrev cX7_byteAt : ByteArray := prog_9_method_28_code
def yX7_byteAt : MethodName := ⟨RX7, "byteAt", "(I)I"⟩
abbrev cX7_isLetter : ByteArray := prog_9_method_29_code
def yX7_isLetter : MethodName := ⟨RX7, "isLetter", "(I)Z"⟩
abbrev cX7_isDigit : ByteArray := prog_9_method_30_code
def yX7_isDigit : MethodName := ⟨RX7, "isDigit", "(I)Z"⟩
abbrev cX7_next : ByteArray := prog_9_method_31_code
def yX7_next : MethodName := ⟨RX7, "next", "()V"⟩
abbrev cX7_isWord : ByteArray := prog_9_method_32_code
def yX7_isWord : MethodName := ⟨RX7, "isWord", "()Z"⟩
abbrev cX7_key : ByteArray := prog_9_method_33_code
def yX7_key : MethodName := ⟨RX7, "key", "()I"⟩
abbrev cX7_whose : ByteArray := prog_9_method_34_code
def yX7_whose : MethodName := ⟨RX7, "whose", "(II)I"⟩
abbrev cX7_isName : ByteArray := prog_9_method_35_code
def yX7_isName : MethodName := ⟨RX7, "isName", "()Z"⟩
abbrev cX7_number : ByteArray := prog_9_method_36_code
def yX7_number : MethodName := ⟨RX7, "number", "(II)I"⟩
abbrev cX7_faults : ByteArray := prog_9_method_37_code
def yX7_faults : MethodName := ⟨RX7, "faults", "()I"⟩
abbrev cX7_isOver : ByteArray := prog_9_method_38_code
def yX7_isOver : MethodName := ⟨RX7, "isOver", "()Z"⟩
abbrev cX7_text : ByteArray := prog_9_method_39_code
def yX7_text : MethodName := ⟨RX7, "text", "()I"⟩
abbrev cX7_comesTeam : ByteArray := prog_9_method_40_code
def yX7_comesTeam : MethodName := ⟨RX7, "comesTeam", "()I"⟩
abbrev cX7_starts : ByteArray := prog_9_method_41_code
def yX7_starts : MethodName := ⟨RX7, "starts", "()I"⟩
abbrev cX7_games : ByteArray := prog_9_method_42_code
def yX7_games : MethodName := ⟨RX7, "games", "(I)I"⟩
abbrev cX7_comesGame : ByteArray := prog_9_method_43_code
def yX7_comesGame : MethodName := ⟨RX7, "comesGame", "(III)I"⟩
abbrev cX7_isPlayed : ByteArray := prog_9_method_44_code
def yX7_isPlayed : MethodName := ⟨RX7, "isPlayed", "(IIZ)I"⟩
abbrev cX7_named : ByteArray := prog_9_method_45_code
def yX7_named : MethodName := ⟨RX7, "named", "()I"⟩
abbrev cX7_system : ByteArray := prog_9_method_46_code
def yX7_system : MethodName := ⟨RX7, "system", "(I)I"⟩
abbrev cX7_play : ByteArray := prog_9_method_47_code
def yX7_play : MethodName := ⟨RX7, "play", "(II)I"⟩
abbrev cX7_unplay : ByteArray := prog_9_method_48_code
def yX7_unplay : MethodName := ⟨RX7, "unplay", "(I)I"⟩
abbrev cX7_told : ByteArray := prog_9_method_49_code
def yX7_told : MethodName := ⟨RX7, "told", "(II)I"⟩
abbrev cX7_game : ByteArray := prog_9_method_50_code
def yX7_game : MethodName := ⟨RX7, "game", "(II)I"⟩
abbrev cX7_between : ByteArray := prog_9_method_51_code
def yX7_between : MethodName := ⟨RX7, "between", "(II)I"⟩
abbrev cX7_taken : ByteArray := prog_9_method_52_code
def yX7_taken : MethodName := ⟨RX7, "taken", "(I)I"⟩
abbrev cX7_isIn : ByteArray := prog_9_method_53_code
def yX7_isIn : MethodName := ⟨RX7, "isIn", "(I)I"⟩
abbrev cX7_all : ByteArray := prog_9_method_54_code
def yX7_all : MethodName := ⟨RX7, "all", "()I"⟩
abbrev cX7_aboveOf : ByteArray := prog_9_method_55_code
def yX7_aboveOf : MethodName := ⟨RX7, "aboveOf", "(II)I"⟩
abbrev cX7_set : ByteArray := prog_9_method_56_code
def yX7_set : MethodName := ⟨RX7, "set", "(II)I"⟩
abbrev cX7_run : ByteArray := prog_9_method_57_code
def yX7_run : MethodName := ⟨RX7, "run", "(II)I"⟩
abbrev cX7_pattern : ByteArray := prog_9_method_58_code
def yX7_pattern : MethodName := ⟨RX7, "pattern", "(I)I"⟩
abbrev cX7_isEnough : ByteArray := prog_9_method_59_code
def yX7_isEnough : MethodName := ⟨RX7, "isEnough", "(III)Z"⟩
abbrev cX7_needs : ByteArray := prog_9_method_60_code
def yX7_needs : MethodName := ⟨RX7, "needs", "(II)I"⟩
abbrev cX7_since : ByteArray := prog_9_method_61_code
def yX7_since : MethodName := ⟨RX7, "since", "(II)I"⟩
abbrev cX7_help : ByteArray := prog_9_method_62_code
def yX7_help : MethodName := ⟨RX7, "help", "(II)I"⟩
abbrev cX7_without : ByteArray := prog_9_method_63_code
def yX7_without : MethodName := ⟨RX7, "without", "(I)I"⟩
abbrev cX7_notesRow : ByteArray := prog_9_method_64_code
def yX7_notesRow : MethodName := ⟨RX7, "notesRow", "()V"⟩
abbrev cX7_tablesFrom : ByteArray := prog_9_method_65_code
def yX7_tablesFrom : MethodName := ⟨RX7, "tablesFrom", "(I)V"⟩
abbrev cX7_tables : ByteArray := prog_9_method_66_code
def yX7_tables : MethodName := ⟨RX7, "tables", "()I"⟩
abbrev cX7_draws : ByteArray := prog_9_method_67_code
def yX7_draws : MethodName := ⟨RX7, "draws", "(I)V"⟩
abbrev cX7_firstOnes : ByteArray := prog_9_method_68_code
def yX7_firstOnes : MethodName := ⟨RX7, "firstOnes", "()I"⟩
abbrev cX7_drawn : ByteArray := prog_9_method_69_code
def yX7_drawn : MethodName := ⟨RX7, "drawn", "(I)I"⟩
abbrev cX7_chance : ByteArray := prog_9_method_70_code
def yX7_chance : MethodName := ⟨RX7, "chance", "(IIII)I"⟩
abbrev cX7_isSheet : ByteArray := prog_9_method_71_code
def yX7_isSheet : MethodName := ⟨RX7, "isSheet", "(I)Z"⟩
abbrev cX7_runsSo : ByteArray := prog_9_method_72_code
def yX7_runsSo : MethodName := ⟨RX7, "runsSo", "(II)I"⟩
abbrev cX7_firstTold : ByteArray := prog_9_method_73_code
def yX7_firstTold : MethodName := ⟨RX7, "firstTold", "(I)I"⟩
abbrev cX7_tells : ByteArray := prog_9_method_74_code
def yX7_tells : MethodName := ⟨RX7, "tells", "(II)I"⟩
abbrev cX7_film : ByteArray := prog_9_method_75_code
def yX7_film : MethodName := ⟨RX7, "film", "(II)I"⟩
abbrev cX7_copies : ByteArray := prog_9_method_76_code
def yX7_copies : MethodName := ⟨RX7, "copies", "([I[I)V"⟩
abbrev cX7_image : ByteArray := prog_9_method_77_code
def yX7_image : MethodName := ⟨RX7, "image", "()I"⟩
abbrev cX7_back : ByteArray := prog_9_method_78_code
def yX7_back : MethodName := ⟨RX7, "back", "()I"⟩
abbrev cX7_count : ByteArray := prog_9_method_79_code
def yX7_count : MethodName := ⟨RX7, "count", "(I)I"⟩
abbrev cX7_sheet : ByteArray := prog_9_method_80_code
def yX7_sheet : MethodName := ⟨RX7, "sheet", "(III)I"⟩
abbrev cX7_put : ByteArray := prog_9_method_81_code
def yX7_put : MethodName := ⟨RX7, "put", "(III)I"⟩
abbrev cX7_copy : ByteArray := prog_9_method_82_code
def yX7_copy : MethodName := ⟨RX7, "copy", "(IIIII)I"⟩
abbrev cX7_load : ByteArray := prog_9_method_83_code
def yX7_load : MethodName := ⟨RX7, "load", "(IIII)I"⟩
def RJ6 : String := "java/lang/Integer"
abbrev cJ6_bitCount_0f7a4 : ByteArray := prog_10_method_49_code
def yJ6_bitCount_0f7a4 : MethodName := ⟨RJ6, "bitCount", "(I)I"⟩
def RJ0 : String := "java/lang/String"
abbrev cJ0_length_8abf5 : ByteArray := prog_11_method_54_code
def yJ0_length_8abf5 : MethodName := ⟨RJ0, "length", "()I"⟩
abbrev cJ0_charAt_5068e : ByteArray := prog_11_method_56_code
def yJ0_charAt_5068e : MethodName := ⟨RJ0, "charAt", "(I)C"⟩
abbrev cJ0_coder_7d493 : ByteArray := prog_11_method_152_code
def yJ0_coder_7d493 : MethodName := ⟨RJ0, "coder", "()B"⟩
abbrev cJ0_isLatin1_aae02 : ByteArray := prog_11_method_154_code
def yJ0_isLatin1_aae02 : MethodName := ⟨RJ0, "isLatin1", "()Z"⟩
abbrev cJ0_checkIndex_df160 : ByteArray := prog_11_method_155_code
def yJ0_checkIndex_df160 : MethodName := ⟨RJ0, "checkIndex", "(II)V"⟩
def RJ1 : String := "java/lang/StringLatin1"
abbrev cJ1_charAt_3b067 : ByteArray := prog_12_method_2_code
def yJ1_charAt_3b067 : MethodName := ⟨RJ1, "charAt", "([BI)C"⟩
def RJ2 : String := "java/lang/StringUTF16"
abbrev cJ2_getChar_3b067 : ByteArray := prog_13_method_5_code
def yJ2_getChar_3b067 : MethodName := ⟨RJ2, "getChar", "([BI)C"⟩
abbrev cJ2_length_9d52b : ByteArray := prog_13_method_6_code
def yJ2_length_9d52b : MethodName := ⟨RJ2, "length", "([B)I"⟩
abbrev cJ2_charAt_3b067 : ByteArray := prog_13_method_83_code
def yJ2_charAt_3b067 : MethodName := ⟨RJ2, "charAt", "([BI)C"⟩
abbrev cJ2_checkIndex_2214a : ByteArray := prog_13_method_91_code
def yJ2_checkIndex_2214a : MethodName := ⟨RJ2, "checkIndex", "(I[B)V"⟩
def RJ10 : String := "java/lang/System"
def RJ3 : String := "jdk/internal/util/Preconditions"
abbrev cJ3_checkIndex_8e157 : ByteArray := prog_15_method_11_code
def yJ3_checkIndex_8e157 : MethodName := ⟨RJ3, "checkIndex", "(IILjava/util/function/BiFunction;)I"⟩
def RL : String := "StillInItLaw"
abbrev cL_law : ByteArray := code
def yL_law : MethodName := ⟨RL, "law", "([I)Z"⟩
abbrev vwCl : List vw_C := [(RX0, TX0, 10), (RX1, TX1, 9), (RX2, TX2, 3), (RX3, TX3, 5), (RX4, TX4, 5), (RX5, TX5, 5), (RX6, TX6, 10), (RX7, TX7, 21)]
def lw_good : List Cond := lw_tbl.filter goodWord
theorem lw_good_all : GoodIn lw_good lw_good := fun w hw => ⟨hw, good_of_word (List.mem_filter.mp hw).2⟩
theorem lw_mem {w : Cond} (i : Nat) (h : lw_tbl[i]? = some w) (g : goodWord w = true) : w ∈ lw_good := List.mem_filter.mpr ⟨List.mem_of_getElem? h, g⟩
theorem lw_m1 {w : Cond} (i : Nat) (h : tables_1_1[i]? = some w) (g : goodWord w = true) : w ∈ lw_good := by
  have hm : w ∈ tables_1_1 := List.mem_of_getElem? h
  exact List.mem_filter.mpr ⟨List.mem_append_right _ (show w ∈ tables_1 from List.mem_append_left _ hm), g⟩
theorem lw_m2 {w : Cond} (i : Nat) (h : tables_1_2[i]? = some w) (g : goodWord w = true) : w ∈ lw_good := by
  have hm : w ∈ tables_1_2 := List.mem_of_getElem? h
  exact List.mem_filter.mpr ⟨List.mem_append_right _ (show w ∈ tables_1 from List.mem_append_right _ (List.mem_append_left _ hm)), g⟩
theorem lw_m3 {w : Cond} (i : Nat) (h : tables_1_3[i]? = some w) (g : goodWord w = true) : w ∈ lw_good := by
  have hm : w ∈ tables_1_3 := List.mem_of_getElem? h
  exact List.mem_filter.mpr ⟨List.mem_append_right _ (show w ∈ tables_1 from List.mem_append_right _ (List.mem_append_right _ (List.mem_append_left _ hm))), g⟩
theorem lw_m4 {w : Cond} (i : Nat) (h : tables_1_4[i]? = some w) (g : goodWord w = true) : w ∈ lw_good := by
  have hm : w ∈ tables_1_4 := List.mem_of_getElem? h
  exact List.mem_filter.mpr ⟨List.mem_append_right _ (show w ∈ tables_1 from List.mem_append_right _ (List.mem_append_right _ (List.mem_append_right _ (List.mem_append_left _ hm)))), g⟩
theorem lw_m5 {w : Cond} (i : Nat) (h : tables_1_5[i]? = some w) (g : goodWord w = true) : w ∈ lw_good := by
  have hm : w ∈ tables_1_5 := List.mem_of_getElem? h
  exact List.mem_filter.mpr ⟨List.mem_append_right _ (show w ∈ tables_1 from List.mem_append_right _ (List.mem_append_right _ (List.mem_append_right _ (List.mem_append_right _ (hm))))), g⟩
theorem inlX0 : ∀ w ∈ u_ws RX0 TX0 10, w ∈ lw_good := by decide +kernel
theorem inlX1 : ∀ w ∈ u_ws RX1 TX1 9, w ∈ lw_good := by decide +kernel
theorem inlX2 : ∀ w ∈ u_ws RX2 TX2 3, w ∈ lw_good := by decide +kernel
theorem inlX3 : ∀ w ∈ u_ws RX3 TX3 5, w ∈ lw_good := by decide +kernel
theorem inlX4 : ∀ w ∈ u_ws RX4 TX4 5, w ∈ lw_good := by decide +kernel
theorem inlX5 : ∀ w ∈ u_ws RX5 TX5 5, w ∈ lw_good := by decide +kernel
theorem inlX6 : ∀ w ∈ u_ws RX6 TX6 10, w ∈ lw_good := by decide +kernel
theorem inlX7 : ∀ w ∈ u_ws RX7 TX7 21, w ∈ lw_good := by decide +kernel
def nestM : List (String × Nat × MethodName × String) := [("StillInIt", 9, ⟨"StillInIt$Tape", "<init>", "()V"⟩, "StillInIt"), ("StillInIt", 18, ⟨"StillInIt$Group", "<init>", "()V"⟩, "StillInIt"), ("StillInIt", 31, ⟨"StillInIt$Shutter", "<init>", "()V"⟩, "StillInIt"), ("StillInIt", 38, ⟨"StillInIt$Race", "<init>", "()V"⟩, "StillInIt"), ("StillInIt", 45, ⟨"StillInIt$Walk", "<init>", "()V"⟩, "StillInIt"), ("StillInIt", 60, ⟨"StillInIt$Sheet", "<init>", "()V"⟩, "StillInIt"), ("StillInIt$Shutter", 32, ⟨"StillInIt", "has", "(II)Z"⟩, "StillInIt"), ("StillInIt$Race", 80, ⟨"StillInIt", "has", "(II)Z"⟩, "StillInIt"), ("StillInIt", 208, ⟨"StillInIt$Walk", "from", "(ILStillInIt$Group;LStillInIt$Sheet;)I"⟩, "StillInIt")]
theorem nestM_in : ∀ w ∈ nestM, Cond.methodLinkNest w.1 w.2.1 w.2.2.1 w.2.2.2 ∈ lw_tbl := by decide +kernel
def nestF : List (String × Nat × String × String × String × String) := [("StillInIt$Group", 52, "StillInIt", "DRAWN", "[I", "StillInIt"), ("StillInIt$Group", 49, "StillInIt", "WON", "[I", "StillInIt"), ("StillInIt$Group", 55, "StillInIt", "LEAST", "[I", "StillInIt"), ("StillInIt$Group", 58, "StillInIt", "FIRST_RESULT", "[I", "StillInIt")]
theorem nestF_in : ∀ w ∈ nestF, Cond.fieldLinkNest w.1 w.2.1 w.2.2.1 w.2.2.2.1 w.2.2.2.2.1 w.2.2.2.2.2 ∈ lw_tbl := by decide +kernel
def strR : List (String × Nat × String × Nat) := [("StillInIt", 267, "team", 0), ("StillInIt$Tape", 49, "team", 0), ("StillInIt$Tape", 55, "start", 1), ("StillInIt$Tape", 57, "game", 2), ("StillInIt$Tape", 59, "won", 3), ("StillInIt$Tape", 61, "drew", 4), ("StillInIt", 276, "start", 1), ("StillInIt", 281, "game", 2), ("StillInIt", 286, "won", 3), ("StillInIt", 292, "drew", 4)]
theorem strR_in : ∀ w ∈ strR, Cond.stringRef w.1 w.2.1 w.2.2.1 ∈ lw_tbl := by decide +kernel
def strB : List (List Int32) := [[116, 101, 97, 109], [115, 116, 97, 114, 116], [103, 97, 109, 101], [119, 111, 110], [100, 114, 101, 119]]
theorem wd_native : Cond.native arraycopyName ∈ lw_good := lw_mem 693 (by decide +kernel) (by decide +kernel)
theorem wd_copystat : Cond.static arraycopyName ∈ lw_good := lw_mem 692 (by decide +kernel) (by decide +kernel)
theorem wd_sysinit : Cond.initialized "java/lang/System" ∈ lw_good := lw_mem 82 (by decide +kernel) (by decide +kernel)
theorem wd_oinst : Cond.instanceMethod Lib.objectInit ∈ lw_good := lw_mem 89 (by decide +kernel) (by decide +kernel)
theorem wd_ocode : Cond.code Lib.objectInit ⟨#[0xb1]⟩ 1 none ∈ lw_good := lw_mem 90 (by decide +kernel) (by decide +kernel)
