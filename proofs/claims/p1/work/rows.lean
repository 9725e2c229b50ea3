section
-- ===== PART A: goes FIRST, ahead of the names: the tables' words, and 'selects' of the private methods out of them =====
/-- a private method of a class that the tables say can be made, by its rows of tables_1 -/
def lw_okq (q : MethodName × Nat) : Prop := (q.1.cls ≠ "java/lang/invoke/MethodHandle" ∧ q.1.cls ≠ "java/lang/invoke/VarHandle") ∧ Cond.instantiable q.1.cls q.2 ∈ tables_1 ∧ Cond.privateMethod q.1 ∈ tables_1 ∧ Cond.instanceMethod q.1 ∈ tables_1
theorem lw_p0 : lw_okq (⟨"StillInIt", "doText", "()I"⟩, 10) := ⟨⟨by decide +kernel, by decide +kernel⟩, List.mem_of_getElem? (i := 16) (by decide +kernel), List.mem_of_getElem? (i := 254) (by decide +kernel), List.mem_of_getElem? (i := 255) (by decide +kernel)⟩
theorem lw_p1 : lw_okq (⟨"StillInIt$Tape", "sortAt", "(I)I"⟩, 5) := ⟨⟨by decide +kernel, by decide +kernel⟩, List.mem_of_getElem? (i := 24) (by decide +kernel), List.mem_of_getElem? (i := 265) (by decide +kernel), List.mem_of_getElem? (i := 266) (by decide +kernel)⟩
theorem lw_p2 : lw_okq (⟨"StillInIt", "doTeam", "()I"⟩, 10) := ⟨⟨by decide +kernel, by decide +kernel⟩, List.mem_of_getElem? (i := 16) (by decide +kernel), List.mem_of_getElem? (i := 322) (by decide +kernel), List.mem_of_getElem? (i := 323) (by decide +kernel)⟩
theorem lw_p3 : lw_okq (⟨"StillInIt$Group", "isNamed", "(I[III)Z"⟩, 10) := ⟨⟨by decide +kernel, by decide +kernel⟩, List.mem_of_getElem? (i := 51) (by decide +kernel), List.mem_of_getElem? (i := 340) (by decide +kernel), List.mem_of_getElem? (i := 341) (by decide +kernel)⟩
theorem lw_p4 : lw_okq (⟨"StillInIt", "doStart", "()I"⟩, 10) := ⟨⟨by decide +kernel, by decide +kernel⟩, List.mem_of_getElem? (i := 16) (by decide +kernel), List.mem_of_getElem? (i := 358) (by decide +kernel), List.mem_of_getElem? (i := 359) (by decide +kernel)⟩
theorem lw_p5 : lw_okq (⟨"StillInIt", "readTeam", "(I)I"⟩, 10) := ⟨⟨by decide +kernel, by decide +kernel⟩, List.mem_of_getElem? (i := 16) (by decide +kernel), List.mem_of_getElem? (i := 362) (by decide +kernel), List.mem_of_getElem? (i := 363) (by decide +kernel)⟩
theorem lw_p6 : lw_okq (⟨"StillInIt", "doGame", "()I"⟩, 10) := ⟨⟨by decide +kernel, by decide +kernel⟩, List.mem_of_getElem? (i := 16) (by decide +kernel), List.mem_of_getElem? (i := 371) (by decide +kernel), List.mem_of_getElem? (i := 372) (by decide +kernel)⟩
theorem lw_p7 : lw_okq (⟨"StillInIt", "doPlay", "(Z)I"⟩, 10) := ⟨⟨by decide +kernel, by decide +kernel⟩, List.mem_of_getElem? (i := 16) (by decide +kernel), List.mem_of_getElem? (i := 384) (by decide +kernel), List.mem_of_getElem? (i := 385) (by decide +kernel)⟩
theorem lw_p8 : lw_okq (⟨"StillInIt", "pointsOf", "(LStillInIt$Group;I)I"⟩, 10) := ⟨⟨by decide +kernel, by decide +kernel⟩, List.mem_of_getElem? (i := 16) (by decide +kernel), List.mem_of_getElem? (i := 439) (by decide +kernel), List.mem_of_getElem? (i := 440) (by decide +kernel)⟩
theorem lw_p9 : lw_okq (⟨"StillInIt", "reachOf", "(LStillInIt$Group;I)I"⟩, 10) := ⟨⟨by decide +kernel, by decide +kernel⟩, List.mem_of_getElem? (i := 16) (by decide +kernel), List.mem_of_getElem? (i := 455) (by decide +kernel), List.mem_of_getElem? (i := 456) (by decide +kernel)⟩
theorem lw_p10 : lw_okq (⟨"StillInIt", "canWin", "(LStillInIt$Group;I)Z"⟩, 10) := ⟨⟨by decide +kernel, by decide +kernel⟩, List.mem_of_getElem? (i := 16) (by decide +kernel), List.mem_of_getElem? (i := 490) (by decide +kernel), List.mem_of_getElem? (i := 491) (by decide +kernel)⟩
theorem lw_p11 : lw_okq (⟨"StillInIt$Shutter", "open", "(LStillInIt$Group;I)V"⟩, 5) := ⟨⟨by decide +kernel, by decide +kernel⟩, List.mem_of_getElem? (i := 105) (by decide +kernel), List.mem_of_getElem? (i := 498) (by decide +kernel), List.mem_of_getElem? (i := 499) (by decide +kernel)⟩
theorem lw_p12 : lw_okq (⟨"StillInIt$Shutter", "aboveOf", "(ILStillInIt$Group;)I"⟩, 5) := ⟨⟨by decide +kernel, by decide +kernel⟩, List.mem_of_getElem? (i := 105) (by decide +kernel), List.mem_of_getElem? (i := 511) (by decide +kernel), List.mem_of_getElem? (i := 512) (by decide +kernel)⟩
theorem lw_p13 : lw_okq (⟨"StillInIt$Race", "enter", "(III)V"⟩, 9) := ⟨⟨by decide +kernel, by decide +kernel⟩, List.mem_of_getElem? (i := 129) (by decide +kernel), List.mem_of_getElem? (i := 540) (by decide +kernel), List.mem_of_getElem? (i := 541) (by decide +kernel)⟩
theorem lw_p14 : lw_okq (⟨"StillInIt$Race", "fits", "(I)Z"⟩, 9) := ⟨⟨by decide +kernel, by decide +kernel⟩, List.mem_of_getElem? (i := 129) (by decide +kernel), List.mem_of_getElem? (i := 549) (by decide +kernel), List.mem_of_getElem? (i := 550) (by decide +kernel)⟩
theorem lw_p15 : lw_okq (⟨"StillInIt$Race", "fitsWon", "(III)Z"⟩, 9) := ⟨⟨by decide +kernel, by decide +kernel⟩, List.mem_of_getElem? (i := 129) (by decide +kernel), List.mem_of_getElem? (i := 553) (by decide +kernel), List.mem_of_getElem? (i := 554) (by decide +kernel)⟩
def lw_privs_1 : List (MethodName × Nat) := [(⟨"StillInIt", "doText", "()I"⟩, 10), (⟨"StillInIt$Tape", "sortAt", "(I)I"⟩, 5), (⟨"StillInIt", "doTeam", "()I"⟩, 10), (⟨"StillInIt$Group", "isNamed", "(I[III)Z"⟩, 10), (⟨"StillInIt", "doStart", "()I"⟩, 10), (⟨"StillInIt", "readTeam", "(I)I"⟩, 10), (⟨"StillInIt", "doGame", "()I"⟩, 10), (⟨"StillInIt", "doPlay", "(Z)I"⟩, 10), (⟨"StillInIt", "pointsOf", "(LStillInIt$Group;I)I"⟩, 10), (⟨"StillInIt", "reachOf", "(LStillInIt$Group;I)I"⟩, 10), (⟨"StillInIt", "canWin", "(LStillInIt$Group;I)Z"⟩, 10), (⟨"StillInIt$Shutter", "open", "(LStillInIt$Group;I)V"⟩, 5), (⟨"StillInIt$Shutter", "aboveOf", "(ILStillInIt$Group;)I"⟩, 5), (⟨"StillInIt$Race", "enter", "(III)V"⟩, 9), (⟨"StillInIt$Race", "fits", "(I)Z"⟩, 9), (⟨"StillInIt$Race", "fitsWon", "(III)Z"⟩, 9)]
theorem lw_r1 : ∀ q ∈ lw_privs_1, lw_okq q := List.forall_mem_cons.mpr ⟨lw_p0, List.forall_mem_cons.mpr ⟨lw_p1, List.forall_mem_cons.mpr ⟨lw_p2, List.forall_mem_cons.mpr ⟨lw_p3, List.forall_mem_cons.mpr ⟨lw_p4, List.forall_mem_cons.mpr ⟨lw_p5, List.forall_mem_cons.mpr ⟨lw_p6, List.forall_mem_cons.mpr ⟨lw_p7, List.forall_mem_cons.mpr ⟨lw_p8, List.forall_mem_cons.mpr ⟨lw_p9, List.forall_mem_cons.mpr ⟨lw_p10, List.forall_mem_cons.mpr ⟨lw_p11, List.forall_mem_cons.mpr ⟨lw_p12, List.forall_mem_cons.mpr ⟨lw_p13, List.forall_mem_cons.mpr ⟨lw_p14, List.forall_mem_cons.mpr ⟨lw_p15, fun _ h => absurd h List.not_mem_nil⟩⟩⟩⟩⟩⟩⟩⟩⟩⟩⟩⟩⟩⟩⟩⟩
theorem lw_p16 : lw_okq (⟨"StillInIt$Race", "hasRoomForAll", "(II)Z"⟩, 9) := ⟨⟨by decide +kernel, by decide +kernel⟩, List.mem_of_getElem? (i := 129) (by decide +kernel), List.mem_of_getElem? (i := 557) (by decide +kernel), List.mem_of_getElem? (i := 558) (by decide +kernel)⟩
theorem lw_p17 : lw_okq (⟨"StillInIt$Race", "fitsDrawn", "(I)Z"⟩, 9) := ⟨⟨by decide +kernel, by decide +kernel⟩, List.mem_of_getElem? (i := 129) (by decide +kernel), List.mem_of_getElem? (i := 561) (by decide +kernel), List.mem_of_getElem? (i := 562) (by decide +kernel)⟩
theorem lw_p18 : lw_okq (⟨"StillInIt", "whoCanWin", "(LStillInIt$Group;)I"⟩, 10) := ⟨⟨by decide +kernel, by decide +kernel⟩, List.mem_of_getElem? (i := 16) (by decide +kernel), List.mem_of_getElem? (i := 569) (by decide +kernel), List.mem_of_getElem? (i := 570) (by decide +kernel)⟩
theorem lw_p19 : lw_okq (⟨"StillInIt", "fewestFor", "(IIZ)I"⟩, 10) := ⟨⟨by decide +kernel, by decide +kernel⟩, List.mem_of_getElem? (i := 16) (by decide +kernel), List.mem_of_getElem? (i := 596) (by decide +kernel), List.mem_of_getElem? (i := 597) (by decide +kernel)⟩
theorem lw_p20 : lw_okq (⟨"StillInIt", "suffices", "(IIZ)Z"⟩, 10) := ⟨⟨by decide +kernel, by decide +kernel⟩, List.mem_of_getElem? (i := 16) (by decide +kernel), List.mem_of_getElem? (i := 600) (by decide +kernel), List.mem_of_getElem? (i := 601) (by decide +kernel)⟩
theorem lw_p21 : lw_okq (⟨"StillInIt", "isSure", "(LStillInIt$Group;I)Z"⟩, 10) := ⟨⟨by decide +kernel, by decide +kernel⟩, List.mem_of_getElem? (i := 16) (by decide +kernel), List.mem_of_getElem? (i := 631) (by decide +kernel), List.mem_of_getElem? (i := 632) (by decide +kernel)⟩
theorem lw_p22 : lw_okq (⟨"StillInIt$Walk", "from", "(ILStillInIt$Group;LStillInIt$Sheet;)I"⟩, 5) := ⟨⟨by decide +kernel, by decide +kernel⟩, List.mem_of_getElem? (i := 163) (by decide +kernel), List.mem_of_getElem? (i := 658) (by decide +kernel), List.mem_of_getElem? (i := 659) (by decide +kernel)⟩
theorem lw_p23 : lw_okq (⟨"StillInIt$Walk", "isNew", "()Z"⟩, 5) := ⟨⟨by decide +kernel, by decide +kernel⟩, List.mem_of_getElem? (i := 163) (by decide +kernel), List.mem_of_getElem? (i := 662) (by decide +kernel), List.mem_of_getElem? (i := 663) (by decide +kernel)⟩
theorem lw_p24 : lw_okq (⟨"StillInIt$Walk", "isAsTold", "(LStillInIt$Sheet;)Z"⟩, 5) := ⟨⟨by decide +kernel, by decide +kernel⟩, List.mem_of_getElem? (i := 163) (by decide +kernel), List.mem_of_getElem? (i := 666) (by decide +kernel), List.mem_of_getElem? (i := 667) (by decide +kernel)⟩
theorem lw_p25 : lw_okq (⟨"StillInIt", "drawInto", "(I)V"⟩, 10) := ⟨⟨by decide +kernel, by decide +kernel⟩, List.mem_of_getElem? (i := 16) (by decide +kernel), List.mem_of_getElem? (i := 677) (by decide +kernel), List.mem_of_getElem? (i := 678) (by decide +kernel)⟩
theorem lw_p26 : lw_okq (⟨"StillInItModel", "next", "()V"⟩, 21) := ⟨⟨by decide +kernel, by decide +kernel⟩, List.mem_of_getElem? (i := 749) (by decide +kernel), List.mem_of_getElem? (i := 835) (by decide +kernel), List.mem_of_getElem? (i := 836) (by decide +kernel)⟩
theorem lw_p27 : lw_okq (⟨"StillInItModel", "byteAt", "(I)I"⟩, 21) := ⟨⟨by decide +kernel, by decide +kernel⟩, List.mem_of_getElem? (i := 749) (by decide +kernel), List.mem_of_getElem? (i := 839) (by decide +kernel), List.mem_of_getElem? (i := 840) (by decide +kernel)⟩
theorem lw_p28 : lw_okq (⟨"StillInItModel", "isWord", "()Z"⟩, 21) := ⟨⟨by decide +kernel, by decide +kernel⟩, List.mem_of_getElem? (i := 749) (by decide +kernel), List.mem_of_getElem? (i := 853) (by decide +kernel), List.mem_of_getElem? (i := 854) (by decide +kernel)⟩
theorem lw_p29 : lw_okq (⟨"StillInItModel", "key", "()I"⟩, 21) := ⟨⟨by decide +kernel, by decide +kernel⟩, List.mem_of_getElem? (i := 749) (by decide +kernel), List.mem_of_getElem? (i := 857) (by decide +kernel), List.mem_of_getElem? (i := 858) (by decide +kernel)⟩
theorem lw_p30 : lw_okq (⟨"StillInItModel", "faults", "()I"⟩, 21) := ⟨⟨by decide +kernel, by decide +kernel⟩, List.mem_of_getElem? (i := 749) (by decide +kernel), List.mem_of_getElem? (i := 861) (by decide +kernel), List.mem_of_getElem? (i := 862) (by decide +kernel)⟩
theorem lw_p31 : lw_okq (⟨"StillInItModel", "isName", "()Z"⟩, 21) := ⟨⟨by decide +kernel, by decide +kernel⟩, List.mem_of_getElem? (i := 749) (by decide +kernel), List.mem_of_getElem? (i := 865) (by decide +kernel), List.mem_of_getElem? (i := 866) (by decide +kernel)⟩
def lw_privs_2 : List (MethodName × Nat) := [(⟨"StillInIt$Race", "hasRoomForAll", "(II)Z"⟩, 9), (⟨"StillInIt$Race", "fitsDrawn", "(I)Z"⟩, 9), (⟨"StillInIt", "whoCanWin", "(LStillInIt$Group;)I"⟩, 10), (⟨"StillInIt", "fewestFor", "(IIZ)I"⟩, 10), (⟨"StillInIt", "suffices", "(IIZ)Z"⟩, 10), (⟨"StillInIt", "isSure", "(LStillInIt$Group;I)Z"⟩, 10), (⟨"StillInIt$Walk", "from", "(ILStillInIt$Group;LStillInIt$Sheet;)I"⟩, 5), (⟨"StillInIt$Walk", "isNew", "()Z"⟩, 5), (⟨"StillInIt$Walk", "isAsTold", "(LStillInIt$Sheet;)Z"⟩, 5), (⟨"StillInIt", "drawInto", "(I)V"⟩, 10), (⟨"StillInItModel", "next", "()V"⟩, 21), (⟨"StillInItModel", "byteAt", "(I)I"⟩, 21), (⟨"StillInItModel", "isWord", "()Z"⟩, 21), (⟨"StillInItModel", "key", "()I"⟩, 21), (⟨"StillInItModel", "faults", "()I"⟩, 21), (⟨"StillInItModel", "isName", "()Z"⟩, 21)]
theorem lw_r2 : ∀ q ∈ lw_privs_2, lw_okq q := List.forall_mem_cons.mpr ⟨lw_p16, List.forall_mem_cons.mpr ⟨lw_p17, List.forall_mem_cons.mpr ⟨lw_p18, List.forall_mem_cons.mpr ⟨lw_p19, List.forall_mem_cons.mpr ⟨lw_p20, List.forall_mem_cons.mpr ⟨lw_p21, List.forall_mem_cons.mpr ⟨lw_p22, List.forall_mem_cons.mpr ⟨lw_p23, List.forall_mem_cons.mpr ⟨lw_p24, List.forall_mem_cons.mpr ⟨lw_p25, List.forall_mem_cons.mpr ⟨lw_p26, List.forall_mem_cons.mpr ⟨lw_p27, List.forall_mem_cons.mpr ⟨lw_p28, List.forall_mem_cons.mpr ⟨lw_p29, List.forall_mem_cons.mpr ⟨lw_p30, List.forall_mem_cons.mpr ⟨lw_p31, fun _ h => absurd h List.not_mem_nil⟩⟩⟩⟩⟩⟩⟩⟩⟩⟩⟩⟩⟩⟩⟩⟩
theorem lw_p32 : lw_okq (⟨"StillInItModel", "whose", "(II)I"⟩, 21) := ⟨⟨by decide +kernel, by decide +kernel⟩, List.mem_of_getElem? (i := 749) (by decide +kernel), List.mem_of_getElem? (i := 869) (by decide +kernel), List.mem_of_getElem? (i := 870) (by decide +kernel)⟩
theorem lw_p33 : lw_okq (⟨"StillInItModel", "comesTeam", "()I"⟩, 21) := ⟨⟨by decide +kernel, by decide +kernel⟩, List.mem_of_getElem? (i := 749) (by decide +kernel), List.mem_of_getElem? (i := 873) (by decide +kernel), List.mem_of_getElem? (i := 874) (by decide +kernel)⟩
theorem lw_p34 : lw_okq (⟨"StillInItModel", "isOver", "()Z"⟩, 21) := ⟨⟨by decide +kernel, by decide +kernel⟩, List.mem_of_getElem? (i := 749) (by decide +kernel), List.mem_of_getElem? (i := 877) (by decide +kernel), List.mem_of_getElem? (i := 878) (by decide +kernel)⟩
theorem lw_p35 : lw_okq (⟨"StillInItModel", "starts", "()I"⟩, 21) := ⟨⟨by decide +kernel, by decide +kernel⟩, List.mem_of_getElem? (i := 749) (by decide +kernel), List.mem_of_getElem? (i := 881) (by decide +kernel), List.mem_of_getElem? (i := 882) (by decide +kernel)⟩
theorem lw_p36 : lw_okq (⟨"StillInItModel", "number", "(II)I"⟩, 21) := ⟨⟨by decide +kernel, by decide +kernel⟩, List.mem_of_getElem? (i := 749) (by decide +kernel), List.mem_of_getElem? (i := 885) (by decide +kernel), List.mem_of_getElem? (i := 886) (by decide +kernel)⟩
theorem lw_p37 : lw_okq (⟨"StillInItModel", "games", "(I)I"⟩, 21) := ⟨⟨by decide +kernel, by decide +kernel⟩, List.mem_of_getElem? (i := 749) (by decide +kernel), List.mem_of_getElem? (i := 889) (by decide +kernel), List.mem_of_getElem? (i := 890) (by decide +kernel)⟩
theorem lw_p38 : lw_okq (⟨"StillInItModel", "comesGame", "(III)I"⟩, 21) := ⟨⟨by decide +kernel, by decide +kernel⟩, List.mem_of_getElem? (i := 749) (by decide +kernel), List.mem_of_getElem? (i := 893) (by decide +kernel), List.mem_of_getElem? (i := 894) (by decide +kernel)⟩
theorem lw_p39 : lw_okq (⟨"StillInItModel", "isPlayed", "(IIZ)I"⟩, 21) := ⟨⟨by decide +kernel, by decide +kernel⟩, List.mem_of_getElem? (i := 749) (by decide +kernel), List.mem_of_getElem? (i := 897) (by decide +kernel), List.mem_of_getElem? (i := 898) (by decide +kernel)⟩
theorem lw_p40 : lw_okq (⟨"StillInItModel", "isOf", "(II)Z"⟩, 21) := ⟨⟨by decide +kernel, by decide +kernel⟩, List.mem_of_getElem? (i := 749) (by decide +kernel), List.mem_of_getElem? (i := 901) (by decide +kernel), List.mem_of_getElem? (i := 902) (by decide +kernel)⟩
theorem lw_p41 : lw_okq (⟨"StillInItModel", "isGame", "(I)Z"⟩, 21) := ⟨⟨by decide +kernel, by decide +kernel⟩, List.mem_of_getElem? (i := 749) (by decide +kernel), List.mem_of_getElem? (i := 918) (by decide +kernel), List.mem_of_getElem? (i := 919) (by decide +kernel)⟩
theorem lw_p42 : lw_okq (⟨"StillInItModel", "isTeam", "(I)Z"⟩, 21) := ⟨⟨by decide +kernel, by decide +kernel⟩, List.mem_of_getElem? (i := 749) (by decide +kernel), List.mem_of_getElem? (i := 930) (by decide +kernel), List.mem_of_getElem? (i := 931) (by decide +kernel)⟩
theorem lw_p43 : lw_okq (⟨"StillInItModel", "looks", "()V"⟩, 21) := ⟨⟨by decide +kernel, by decide +kernel⟩, List.mem_of_getElem? (i := 749) (by decide +kernel), List.mem_of_getElem? (i := 934) (by decide +kernel), List.mem_of_getElem? (i := 935) (by decide +kernel)⟩
theorem lw_p44 : lw_okq (⟨"StillInItModel", "counts", "()V"⟩, 21) := ⟨⟨by decide +kernel, by decide +kernel⟩, List.mem_of_getElem? (i := 749) (by decide +kernel), List.mem_of_getElem? (i := 938) (by decide +kernel), List.mem_of_getElem? (i := 939) (by decide +kernel)⟩
theorem lw_p45 : lw_okq (⟨"StillInItModel", "brings", "(III)V"⟩, 21) := ⟨⟨by decide +kernel, by decide +kernel⟩, List.mem_of_getElem? (i := 749) (by decide +kernel), List.mem_of_getElem? (i := 942) (by decide +kernel), List.mem_of_getElem? (i := 943) (by decide +kernel)⟩
theorem lw_p46 : lw_okq (⟨"StillInItModel", "wonBrings", "()I"⟩, 21) := ⟨⟨by decide +kernel, by decide +kernel⟩, List.mem_of_getElem? (i := 749) (by decide +kernel), List.mem_of_getElem? (i := 946) (by decide +kernel), List.mem_of_getElem? (i := 947) (by decide +kernel)⟩
theorem lw_p47 : lw_okq (⟨"StillInItModel", "drawnBrings", "()I"⟩, 21) := ⟨⟨by decide +kernel, by decide +kernel⟩, List.mem_of_getElem? (i := 749) (by decide +kernel), List.mem_of_getElem? (i := 950) (by decide +kernel), List.mem_of_getElem? (i := 951) (by decide +kernel)⟩
def lw_privs_3 : List (MethodName × Nat) := [(⟨"StillInItModel", "whose", "(II)I"⟩, 21), (⟨"StillInItModel", "comesTeam", "()I"⟩, 21), (⟨"StillInItModel", "isOver", "()Z"⟩, 21), (⟨"StillInItModel", "starts", "()I"⟩, 21), (⟨"StillInItModel", "number", "(II)I"⟩, 21), (⟨"StillInItModel", "games", "(I)I"⟩, 21), (⟨"StillInItModel", "comesGame", "(III)I"⟩, 21), (⟨"StillInItModel", "isPlayed", "(IIZ)I"⟩, 21), (⟨"StillInItModel", "isOf", "(II)Z"⟩, 21), (⟨"StillInItModel", "isGame", "(I)Z"⟩, 21), (⟨"StillInItModel", "isTeam", "(I)Z"⟩, 21), (⟨"StillInItModel", "looks", "()V"⟩, 21), (⟨"StillInItModel", "counts", "()V"⟩, 21), (⟨"StillInItModel", "brings", "(III)V"⟩, 21), (⟨"StillInItModel", "wonBrings", "()I"⟩, 21), (⟨"StillInItModel", "drawnBrings", "()I"⟩, 21)]
theorem lw_r3 : ∀ q ∈ lw_privs_3, lw_okq q := List.forall_mem_cons.mpr ⟨lw_p32, List.forall_mem_cons.mpr ⟨lw_p33, List.forall_mem_cons.mpr ⟨lw_p34, List.forall_mem_cons.mpr ⟨lw_p35, List.forall_mem_cons.mpr ⟨lw_p36, List.forall_mem_cons.mpr ⟨lw_p37, List.forall_mem_cons.mpr ⟨lw_p38, List.forall_mem_cons.mpr ⟨lw_p39, List.forall_mem_cons.mpr ⟨lw_p40, List.forall_mem_cons.mpr ⟨lw_p41, List.forall_mem_cons.mpr ⟨lw_p42, List.forall_mem_cons.mpr ⟨lw_p43, List.forall_mem_cons.mpr ⟨lw_p44, List.forall_mem_cons.mpr ⟨lw_p45, List.forall_mem_cons.mpr ⟨lw_p46, List.forall_mem_cons.mpr ⟨lw_p47, fun _ h => absurd h List.not_mem_nil⟩⟩⟩⟩⟩⟩⟩⟩⟩⟩⟩⟩⟩⟩⟩⟩
theorem lw_p48 : lw_okq (⟨"StillInItModel", "reach", "(I)I"⟩, 21) := ⟨⟨by decide +kernel, by decide +kernel⟩, List.mem_of_getElem? (i := 749) (by decide +kernel), List.mem_of_getElem? (i := 954) (by decide +kernel), List.mem_of_getElem? (i := 955) (by decide +kernel)⟩
theorem lw_p49 : lw_okq (⟨"StillInItModel", "ownLeft", "(I)I"⟩, 21) := ⟨⟨by decide +kernel, by decide +kernel⟩, List.mem_of_getElem? (i := 749) (by decide +kernel), List.mem_of_getElem? (i := 958) (by decide +kernel), List.mem_of_getElem? (i := 959) (by decide +kernel)⟩
theorem lw_p50 : lw_okq (⟨"StillInItModel", "isInNow", "(IZ)Z"⟩, 21) := ⟨⟨by decide +kernel, by decide +kernel⟩, List.mem_of_getElem? (i := 749) (by decide +kernel), List.mem_of_getElem? (i := 984) (by decide +kernel), List.mem_of_getElem? (i := 985) (by decide +kernel)⟩
theorem lw_p51 : lw_okq (⟨"StillInItModel", "leftSet", "()I"⟩, 21) := ⟨⟨by decide +kernel, by decide +kernel⟩, List.mem_of_getElem? (i := 749) (by decide +kernel), List.mem_of_getElem? (i := 991) (by decide +kernel), List.mem_of_getElem? (i := 992) (by decide +kernel)⟩
theorem lw_p52 : lw_okq (⟨"StillInItModel", "goes", "(II)Z"⟩, 21) := ⟨⟨by decide +kernel, by decide +kernel⟩, List.mem_of_getElem? (i := 749) (by decide +kernel), List.mem_of_getElem? (i := 995) (by decide +kernel), List.mem_of_getElem? (i := 996) (by decide +kernel)⟩
theorem lw_p53 : lw_okq (⟨"StillInItModel", "isTooMuch", "()Z"⟩, 21) := ⟨⟨by decide +kernel, by decide +kernel⟩, List.mem_of_getElem? (i := 749) (by decide +kernel), List.mem_of_getElem? (i := 999) (by decide +kernel), List.mem_of_getElem? (i := 1000) (by decide +kernel)⟩
theorem lw_p54 : lw_okq (⟨"StillInItModel", "notesDrawn", "()V"⟩, 21) := ⟨⟨by decide +kernel, by decide +kernel⟩, List.mem_of_getElem? (i := 749) (by decide +kernel), List.mem_of_getElem? (i := 1003) (by decide +kernel), List.mem_of_getElem? (i := 1004) (by decide +kernel)⟩
theorem lw_p55 : lw_okq (⟨"StillInItModel", "results", "()I"⟩, 21) := ⟨⟨by decide +kernel, by decide +kernel⟩, List.mem_of_getElem? (i := 749) (by decide +kernel), List.mem_of_getElem? (i := 1007) (by decide +kernel), List.mem_of_getElem? (i := 1008) (by decide +kernel)⟩
theorem lw_p56 : lw_okq (⟨"StillInItModel", "inSet", "()I"⟩, 21) := ⟨⟨by decide +kernel, by decide +kernel⟩, List.mem_of_getElem? (i := 749) (by decide +kernel), List.mem_of_getElem? (i := 1018) (by decide +kernel), List.mem_of_getElem? (i := 1019) (by decide +kernel)⟩
theorem lw_p57 : lw_okq (⟨"StillInItModel", "aboveOf", "(II)I"⟩, 21) := ⟨⟨by decide +kernel, by decide +kernel⟩, List.mem_of_getElem? (i := 749) (by decide +kernel), List.mem_of_getElem? (i := 1026) (by decide +kernel), List.mem_of_getElem? (i := 1027) (by decide +kernel)⟩
theorem lw_p58 : lw_okq (⟨"StillInItModel", "isEnough", "(III)Z"⟩, 21) := ⟨⟨by decide +kernel, by decide +kernel⟩, List.mem_of_getElem? (i := 749) (by decide +kernel), List.mem_of_getElem? (i := 1042) (by decide +kernel), List.mem_of_getElem? (i := 1043) (by decide +kernel)⟩
theorem lw_p59 : lw_okq (⟨"StillInItModel", "looksAsOf", "(I)V"⟩, 21) := ⟨⟨by decide +kernel, by decide +kernel⟩, List.mem_of_getElem? (i := 749) (by decide +kernel), List.mem_of_getElem? (i := 1050) (by decide +kernel), List.mem_of_getElem? (i := 1051) (by decide +kernel)⟩
theorem lw_p60 : lw_okq (⟨"StillInItModel", "canBePassed", "(II)Z"⟩, 21) := ⟨⟨by decide +kernel, by decide +kernel⟩, List.mem_of_getElem? (i := 749) (by decide +kernel), List.mem_of_getElem? (i := 1054) (by decide +kernel), List.mem_of_getElem? (i := 1055) (by decide +kernel)⟩
theorem lw_p61 : lw_okq (⟨"StillInItModel", "looksWith", "(II)V"⟩, 21) := ⟨⟨by decide +kernel, by decide +kernel⟩, List.mem_of_getElem? (i := 749) (by decide +kernel), List.mem_of_getElem? (i := 1062) (by decide +kernel), List.mem_of_getElem? (i := 1063) (by decide +kernel)⟩
theorem lw_p62 : lw_okq (⟨"StillInItModel", "tablesFrom", "(I)V"⟩, 21) := ⟨⟨by decide +kernel, by decide +kernel⟩, List.mem_of_getElem? (i := 749) (by decide +kernel), List.mem_of_getElem? (i := 1074) (by decide +kernel), List.mem_of_getElem? (i := 1075) (by decide +kernel)⟩
theorem lw_p63 : lw_okq (⟨"StillInItModel", "notesRow", "()V"⟩, 21) := ⟨⟨by decide +kernel, by decide +kernel⟩, List.mem_of_getElem? (i := 749) (by decide +kernel), List.mem_of_getElem? (i := 1078) (by decide +kernel), List.mem_of_getElem? (i := 1079) (by decide +kernel)⟩
def lw_privs_4 : List (MethodName × Nat) := [(⟨"StillInItModel", "reach", "(I)I"⟩, 21), (⟨"StillInItModel", "ownLeft", "(I)I"⟩, 21), (⟨"StillInItModel", "isInNow", "(IZ)Z"⟩, 21), (⟨"StillInItModel", "leftSet", "()I"⟩, 21), (⟨"StillInItModel", "goes", "(II)Z"⟩, 21), (⟨"StillInItModel", "isTooMuch", "()Z"⟩, 21), (⟨"StillInItModel", "notesDrawn", "()V"⟩, 21), (⟨"StillInItModel", "results", "()I"⟩, 21), (⟨"StillInItModel", "inSet", "()I"⟩, 21), (⟨"StillInItModel", "aboveOf", "(II)I"⟩, 21), (⟨"StillInItModel", "isEnough", "(III)Z"⟩, 21), (⟨"StillInItModel", "looksAsOf", "(I)V"⟩, 21), (⟨"StillInItModel", "canBePassed", "(II)Z"⟩, 21), (⟨"StillInItModel", "looksWith", "(II)V"⟩, 21), (⟨"StillInItModel", "tablesFrom", "(I)V"⟩, 21), (⟨"StillInItModel", "notesRow", "()V"⟩, 21)]
theorem lw_r4 : ∀ q ∈ lw_privs_4, lw_okq q := List.forall_mem_cons.mpr ⟨lw_p48, List.forall_mem_cons.mpr ⟨lw_p49, List.forall_mem_cons.mpr ⟨lw_p50, List.forall_mem_cons.mpr ⟨lw_p51, List.forall_mem_cons.mpr ⟨lw_p52, List.forall_mem_cons.mpr ⟨lw_p53, List.forall_mem_cons.mpr ⟨lw_p54, List.forall_mem_cons.mpr ⟨lw_p55, List.forall_mem_cons.mpr ⟨lw_p56, List.forall_mem_cons.mpr ⟨lw_p57, List.forall_mem_cons.mpr ⟨lw_p58, List.forall_mem_cons.mpr ⟨lw_p59, List.forall_mem_cons.mpr ⟨lw_p60, List.forall_mem_cons.mpr ⟨lw_p61, List.forall_mem_cons.mpr ⟨lw_p62, List.forall_mem_cons.mpr ⟨lw_p63, fun _ h => absurd h List.not_mem_nil⟩⟩⟩⟩⟩⟩⟩⟩⟩⟩⟩⟩⟩⟩⟩⟩
theorem lw_p64 : lw_okq (⟨"StillInItModel", "draws", "(I)V"⟩, 21) := ⟨⟨by decide +kernel, by decide +kernel⟩, List.mem_of_getElem? (i := 749) (by decide +kernel), List.mem_of_getElem? (i := 1086) (by decide +kernel), List.mem_of_getElem? (i := 1087) (by decide +kernel)⟩
theorem lw_p65 : lw_okq (⟨"StillInItModel", "firstOnes", "()I"⟩, 21) := ⟨⟨by decide +kernel, by decide +kernel⟩, List.mem_of_getElem? (i := 749) (by decide +kernel), List.mem_of_getElem? (i := 1091) (by decide +kernel), List.mem_of_getElem? (i := 1092) (by decide +kernel)⟩
theorem lw_p66 : lw_okq (⟨"StillInItModel", "firstTold", "(I)I"⟩, 21) := ⟨⟨by decide +kernel, by decide +kernel⟩, List.mem_of_getElem? (i := 749) (by decide +kernel), List.mem_of_getElem? (i := 1107) (by decide +kernel), List.mem_of_getElem? (i := 1108) (by decide +kernel)⟩
theorem lw_p67 : lw_okq (⟨"StillInItModel", "runsSo", "(II)I"⟩, 21) := ⟨⟨by decide +kernel, by decide +kernel⟩, List.mem_of_getElem? (i := 749) (by decide +kernel), List.mem_of_getElem? (i := 1111) (by decide +kernel), List.mem_of_getElem? (i := 1112) (by decide +kernel)⟩
def lw_privs_5 : List (MethodName × Nat) := [(⟨"StillInItModel", "draws", "(I)V"⟩, 21), (⟨"StillInItModel", "firstOnes", "()I"⟩, 21), (⟨"StillInItModel", "firstTold", "(I)I"⟩, 21), (⟨"StillInItModel", "runsSo", "(II)I"⟩, 21)]
theorem lw_r5 : ∀ q ∈ lw_privs_5, lw_okq q := List.forall_mem_cons.mpr ⟨lw_p64, List.forall_mem_cons.mpr ⟨lw_p65, List.forall_mem_cons.mpr ⟨lw_p66, List.forall_mem_cons.mpr ⟨lw_p67, fun _ h => absurd h List.not_mem_nil⟩⟩⟩⟩
def lw_privs : List (MethodName × Nat) := lw_privs_1 ++ (lw_privs_2 ++ (lw_privs_3 ++ (lw_privs_4 ++ (lw_privs_5))))
def lw_tbl : List Cond := k2_sels lw_privs ++ tables_1
theorem lw_privs_ok : ∀ q ∈ lw_privs, lw_okq q := by
  show ∀ q ∈ lw_privs_1 ++ (lw_privs_2 ++ (lw_privs_3 ++ (lw_privs_4 ++ (lw_privs_5)))), lw_okq q
  exact List.forall_mem_append.mpr ⟨lw_r1, List.forall_mem_append.mpr ⟨lw_r2, List.forall_mem_append.mpr ⟨lw_r3, List.forall_mem_append.mpr ⟨lw_r4, lw_r5⟩⟩⟩⟩
def RX0 : String := "StillInIt$Group"
def TX0 : u_T := fun k => match k with
  | 0 => ("StillInIt$Group", "teams", "I", false)
  | 1 => ("StillInIt$Group", "games", "I", false)
  | 2 => ("StillInIt$Group", "kind", "I", false)
  | 3 => ("StillInIt$Group", "starts", "[I", true)
  | 4 => ("StillInIt$Group", "sizes", "[I", true)
  | 5 => ("StillInIt$Group", "letters", "[I", true)
  | 6 => ("StillInIt$Group", "ones", "[I", true)
  | 7 => ("StillInIt$Group", "others", "[I", true)
  | 8 => ("StillInIt$Group", "days", "[I", true)
  | _ => ("StillInIt$Group", "results", "[I", true)
def tyX0 : Nat → FieldType := fun k => match k with
  | 0 => .int
  | 1 => .int
  | 2 => .int
  | 3 => .array .int
  | 4 => .array .int
  | 5 => .array .int
  | 6 => .array .int
  | 7 => .array .int
  | 8 => .array .int
  | _ => .array .int
theorem nmX0 : ∀ a, a < 10 → ∀ b, b < 10 → a ≠ b → (TX0 a).2.1 ≠ (TX0 b).2.1 := by decide +kernel
theorem tyX0_ok : ∀ k, k < 10 → parseFieldDescriptor (TX0 k).2.2.1 = some (tyX0 k) := by decide +kernel
abbrev cX0_init : ByteArray := prog_2_method_1_code
def yX0_init : MethodName := ⟨RX0, "<init>", "()V"⟩
abbrev cX0_takeFrom : ByteArray := prog_2_method_2_code
def yX0_takeFrom : MethodName := ⟨RX0, "takeFrom", "(LStillInIt$Group;)V"⟩
abbrev cX0_hasTeam : ByteArray := prog_2_method_3_code
def yX0_hasTeam : MethodName := ⟨RX0, "hasTeam", "(I)Z"⟩
abbrev cX0_hasGame : ByteArray := prog_2_method_4_code
def yX0_hasGame : MethodName := ⟨RX0, "hasGame", "(I)Z"⟩
abbrev cX0_isLeft : ByteArray := prog_2_method_5_code
def yX0_isLeft : MethodName := ⟨RX0, "isLeft", "(I)Z"⟩
abbrev cX0_winBrings : ByteArray := prog_2_method_6_code
def yX0_winBrings : MethodName := ⟨RX0, "winBrings", "()I"⟩
abbrev cX0_drawBrings : ByteArray := prog_2_method_7_code
def yX0_drawBrings : MethodName := ⟨RX0, "drawBrings", "()I"⟩
abbrev cX0_leastGiven : ByteArray := prog_2_method_8_code
def yX0_leastGiven : MethodName := ⟨RX0, "leastGiven", "()I"⟩
abbrev cX0_firstResult : ByteArray := prog_2_method_9_code
def yX0_firstResult : MethodName := ⟨RX0, "firstResult", "()I"⟩
abbrev cX0_letter : ByteArray := prog_2_method_10_code
def yX0_letter : MethodName := ⟨RX0, "letter", "(II)I"⟩
abbrev cX0_whose : ByteArray := prog_2_method_11_code
def yX0_whose : MethodName := ⟨RX0, "whose", "([III)I"⟩
abbrev cX0_isNamed : ByteArray := prog_2_method_12_code
def yX0_isNamed : MethodName := ⟨RX0, "isNamed", "(I[III)Z"⟩
abbrev cX0_addTeam : ByteArray := prog_2_method_13_code
def yX0_addTeam : MethodName := ⟨RX0, "addTeam", "([III)I"⟩
abbrev cX0_addGame : ByteArray := prog_2_method_14_code
def yX0_addGame : MethodName := ⟨RX0, "addGame", "(III)I"⟩
abbrev cX0_drop : ByteArray := prog_2_method_15_code
def yX0_drop : MethodName := ⟨RX0, "drop", "(I)V"⟩
abbrev cX0_wasPlayedOn : ByteArray := prog_2_method_16_code
def yX0_wasPlayedOn : MethodName := ⟨RX0, "wasPlayedOn", "(I)Z"⟩
abbrev cX0_forget : ByteArray := prog_2_method_17_code
def yX0_forget : MethodName := ⟨RX0, "forget", "(I)V"⟩
abbrev cX0_foe : ByteArray := prog_2_method_18_code
def yX0_foe : MethodName := ⟨RX0, "foe", "(II)I"⟩
abbrev cX0_left : ByteArray := prog_2_method_19_code
def yX0_left : MethodName := ⟨RX0, "left", "()I"⟩
abbrev cX0_leftOf : ByteArray := prog_2_method_20_code
def yX0_leftOf : MethodName := ⟨RX0, "leftOf", "(I)I"⟩
abbrev cX0_nextBetween : ByteArray := prog_2_method_21_code
def yX0_nextBetween : MethodName := ⟨RX0, "nextBetween", "(II)I"⟩
abbrev cX0_pointsInto : ByteArray := prog_2_method_22_code
def yX0_pointsInto : MethodName := ⟨RX0, "pointsInto", "([I)V"⟩
abbrev cX0_award : ByteArray := prog_2_method_23_code
def yX0_award : MethodName := ⟨RX0, "award", "([IIII)V"⟩
def RX1 : String := "StillInIt$Race"
def TX1 : u_T := fun k => match k with
  | 0 => ("StillInIt$Race", "room", "[I", true)
  | 1 => ("StillInIt$Race", "ones", "[I", true)
  | 2 => ("StillInIt$Race", "others", "[I", true)
  | 3 => ("StillInIt$Race", "numbers", "[I", true)
  | 4 => ("StillInIt$Race", "picks", "[I", true)
  | 5 => ("StillInIt$Race", "size", "I", false)
  | 6 => ("StillInIt$Race", "win", "I", false)
  | 7 => ("StillInIt$Race", "draw", "I", false)
  | _ => ("StillInIt$Race", "mayDraw", "Z", false)
def tyX1 : Nat → FieldType := fun k => match k with
  | 0 => .array .int
  | 1 => .array .int
  | 2 => .array .int
  | 3 => .array .int
  | 4 => .array .int
  | 5 => .int
  | 6 => .int
  | 7 => .int
  | _ => .boolean
theorem nmX1 : ∀ a, a < 9 → ∀ b, b < 9 → a ≠ b → (TX1 a).2.1 ≠ (TX1 b).2.1 := by decide +kernel
theorem tyX1_ok : ∀ k, k < 9 → parseFieldDescriptor (TX1 k).2.2.1 = some (tyX1 k) := by decide +kernel
abbrev cX1_init : ByteArray := prog_3_method_1_code
def yX1_init : MethodName := ⟨RX1, "<init>", "()V"⟩
abbrev cX1_open : ByteArray := prog_3_method_2_code
def yX1_open : MethodName := ⟨RX1, "open", "(LStillInIt$Group;II)V"⟩
abbrev cX1_enter : ByteArray := prog_3_method_3_code
def yX1_enter : MethodName := ⟨RX1, "enter", "(III)V"⟩
abbrev cX1_drawOnly : ByteArray := prog_3_method_4_code
def yX1_drawOnly : MethodName := ⟨RX1, "drawOnly", "(I)V"⟩
abbrev cX1_canEnd : ByteArray := prog_3_method_5_code
def yX1_canEnd : MethodName := ⟨RX1, "canEnd", "()Z"⟩
abbrev cX1_pickOf : ByteArray := prog_3_method_6_code
def yX1_pickOf : MethodName := ⟨RX1, "pickOf", "(I)I"⟩
abbrev cX1_fits : ByteArray := prog_3_method_7_code
def yX1_fits : MethodName := ⟨RX1, "fits", "(I)Z"⟩
abbrev cX1_fitsWon : ByteArray := prog_3_method_8_code
def yX1_fitsWon : MethodName := ⟨RX1, "fitsWon", "(III)Z"⟩
abbrev cX1_fitsDrawn : ByteArray := prog_3_method_9_code
def yX1_fitsDrawn : MethodName := ⟨RX1, "fitsDrawn", "(I)Z"⟩
abbrev cX1_hasRoomForAll : ByteArray := prog_3_method_10_code
def yX1_hasRoomForAll : MethodName := ⟨RX1, "hasRoomForAll", "(II)Z"⟩
def RX2 : String := "StillInIt$Sheet"
def TX2 : u_T := fun k => match k with
  | 0 => ("StillInIt$Sheet", "items", "[I", true)
  | 1 => ("StillInIt$Sheet", "sort", "I", false)
  | _ => ("StillInIt$Sheet", "size", "I", false)
def tyX2 : Nat → FieldType := fun k => match k with
  | 0 => .array .int
  | 1 => .int
  | _ => .int
theorem nmX2 : ∀ a, a < 3 → ∀ b, b < 3 → a ≠ b → (TX2 a).2.1 ≠ (TX2 b).2.1 := by decide +kernel
theorem tyX2_ok : ∀ k, k < 3 → parseFieldDescriptor (TX2 k).2.2.1 = some (tyX2 k) := by decide +kernel
abbrev cX2_init : ByteArray := prog_4_method_1_code
def yX2_init : MethodName := ⟨RX2, "<init>", "()V"⟩
abbrev cX2_isMissing : ByteArray := prog_4_method_2_code
def yX2_isMissing : MethodName := ⟨RX2, "isMissing", "()Z"⟩
abbrev cX2_become : ByteArray := prog_4_method_3_code
def yX2_become : MethodName := ⟨RX2, "become", "(II)V"⟩
abbrev cX2_holds : ByteArray := prog_4_method_4_code
def yX2_holds : MethodName := ⟨RX2, "holds", "(II)Z"⟩
def RX3 : String := "StillInIt$Shutter"
def TX3 : u_T := fun k => match k with
  | 0 => ("StillInIt$Shutter", "over", "[I", true)
  | 1 => ("StillInIt$Shutter", "pairs", "[I", true)
  | 2 => ("StillInIt$Shutter", "size", "I", false)
  | 3 => ("StillInIt$Shutter", "teams", "I", false)
  | _ => ("StillInIt$Shutter", "above", "I", false)
def tyX3 : Nat → FieldType := fun k => match k with
  | 0 => .array .int
  | 1 => .array .int
  | 2 => .int
  | 3 => .int
  | _ => .int
theorem nmX3 : ∀ a, a < 5 → ∀ b, b < 5 → a ≠ b → (TX3 a).2.1 ≠ (TX3 b).2.1 := by decide +kernel
theorem tyX3_ok : ∀ k, k < 5 → parseFieldDescriptor (TX3 k).2.2.1 = some (tyX3 k) := by decide +kernel
abbrev cX3_init : ByteArray := prog_5_method_1_code
def yX3_init : MethodName := ⟨RX3, "<init>", "()V"⟩
abbrev cX3_find : ByteArray := prog_5_method_2_code
def yX3_find : MethodName := ⟨RX3, "find", "(LStillInIt$Group;I)I"⟩
abbrev cX3_open : ByteArray := prog_5_method_3_code
def yX3_open : MethodName := ⟨RX3, "open", "(LStillInIt$Group;I)V"⟩
abbrev cX3_aboveOf : ByteArray := prog_5_method_4_code
def yX3_aboveOf : MethodName := ⟨RX3, "aboveOf", "(ILStillInIt$Group;)I"⟩
def RX4 : String := "StillInIt$Tape"
def TX4 : u_T := fun k => match k with
  | 0 => ("StillInIt$Tape", "bytes", "[I", true)
  | 1 => ("StillInIt$Tape", "size", "I", false)
  | 2 => ("StillInIt$Tape", "begin", "I", false)
  | 3 => ("StillInIt$Tape", "end", "I", false)
  | _ => ("StillInIt$Tape", "sort", "I", false)
def tyX4 : Nat → FieldType := fun k => match k with
  | 0 => .array .int
  | 1 => .int
  | 2 => .int
  | 3 => .int
  | _ => .int
theorem nmX4 : ∀ a, a < 5 → ∀ b, b < 5 → a ≠ b → (TX4 a).2.1 ≠ (TX4 b).2.1 := by decide +kernel
theorem tyX4_ok : ∀ k, k < 5 → parseFieldDescriptor (TX4 k).2.2.1 = some (tyX4 k) := by decide +kernel
abbrev cX4_init : ByteArray := prog_6_method_1_code
def yX4_init : MethodName := ⟨RX4, "<init>", "()V"⟩
abbrev cX4_add : ByteArray := prog_6_method_2_code
def yX4_add : MethodName := ⟨RX4, "add", "(I)V"⟩
abbrev cX4_clear : ByteArray := prog_6_method_3_code
def yX4_clear : MethodName := ⟨RX4, "clear", "()V"⟩
abbrev cX4_step : ByteArray := prog_6_method_4_code
def yX4_step : MethodName := ⟨RX4, "step", "()V"⟩
abbrev cX4_isBlank : ByteArray := prog_6_method_5_code
def yX4_isBlank : MethodName := ⟨RX4, "isBlank", "(I)Z"⟩
abbrev cX4_sortAt : ByteArray := prog_6_method_6_code
def yX4_sortAt : MethodName := ⟨RX4, "sortAt", "(I)I"⟩
abbrev cX4_fault : ByteArray := prog_6_method_7_code
def yX4_fault : MethodName := ⟨RX4, "fault", "()I"⟩
abbrev cX4_ends : ByteArray := prog_6_method_8_code
def yX4_ends : MethodName := ⟨RX4, "ends", "()Z"⟩
abbrev cX4_is : ByteArray := prog_6_method_9_code
def yX4_is : MethodName := ⟨RX4, "is", "(Ljava/lang/String;)Z"⟩
abbrev cX4_isName : ByteArray := prog_6_method_10_code
def yX4_isName : MethodName := ⟨RX4, "isName", "()Z"⟩
abbrev cX4_number : ByteArray := prog_6_method_11_code
def yX4_number : MethodName := ⟨RX4, "number", "(II)I"⟩
def RX5 : String := "StillInIt$Walk"
def TX5 : u_T := fun k => match k with
  | 0 => ("StillInIt$Walk", "row", "[I", true)
  | 1 => ("StillInIt$Walk", "left", "[I", true)
  | 2 => ("StillInIt$Walk", "seen", "[J", true)
  | 3 => ("StillInIt$Walk", "size", "I", false)
  | _ => ("StillInIt$Walk", "known", "I", false)
def tyX5 : Nat → FieldType := fun k => match k with
  | 0 => .array .int
  | 1 => .array .int
  | 2 => .array .long
  | 3 => .int
  | _ => .int
theorem nmX5 : ∀ a, a < 5 → ∀ b, b < 5 → a ≠ b → (TX5 a).2.1 ≠ (TX5 b).2.1 := by decide +kernel
theorem tyX5_ok : ∀ k, k < 5 → parseFieldDescriptor (TX5 k).2.2.1 = some (tyX5 k) := by decide +kernel
abbrev cX5_init : ByteArray := prog_7_method_1_code
def yX5_init : MethodName := ⟨RX5, "<init>", "()V"⟩
abbrev cX5_open : ByteArray := prog_7_method_2_code
def yX5_open : MethodName := ⟨RX5, "open", "(LStillInIt$Group;)V"⟩
abbrev cX5_from : ByteArray := prog_7_method_3_code
def yX5_from : MethodName := ⟨RX5, "from", "(ILStillInIt$Group;LStillInIt$Sheet;)I"⟩
abbrev cX5_isNew : ByteArray := prog_7_method_4_code
def yX5_isNew : MethodName := ⟨RX5, "isNew", "()Z"⟩
abbrev cX5_isAsTold : ByteArray := prog_7_method_5_code
def yX5_isAsTold : MethodName := ⟨RX5, "isAsTold", "(LStillInIt$Sheet;)Z"⟩
def RX6 : String := "StillInIt"
def TX6 : u_T := fun k => match k with
  | 0 => ("StillInIt", "tape", "LStillInIt$Tape;", true)
  | 1 => ("StillInIt", "now", "LStillInIt$Group;", true)
  | 2 => ("StillInIt", "kept", "LStillInIt$Group;", true)
  | 3 => ("StillInIt", "thought", "LStillInIt$Group;", true)
  | 4 => ("StillInIt", "shutter", "LStillInIt$Shutter;", true)
  | 5 => ("StillInIt", "race", "LStillInIt$Race;", true)
  | 6 => ("StillInIt", "walk", "LStillInIt$Walk;", true)
  | 7 => ("StillInIt", "sheets", "[LStillInIt$Sheet;", true)
  | 8 => ("StillInIt", "table", "[I", true)
  | _ => ("StillInIt", "hasImage", "Z", false)
def tyX6 : Nat → FieldType := fun k => match k with
  | 0 => .object "StillInIt$Tape"
  | 1 => .object "StillInIt$Group"
  | 2 => .object "StillInIt$Group"
  | 3 => .object "StillInIt$Group"
  | 4 => .object "StillInIt$Shutter"
  | 5 => .object "StillInIt$Race"
  | 6 => .object "StillInIt$Walk"
  | 7 => .array (.object "StillInIt$Sheet")
  | 8 => .array .int
  | _ => .boolean
theorem nmX6 : ∀ a, a < 10 → ∀ b, b < 10 → a ≠ b → (TX6 a).2.1 ≠ (TX6 b).2.1 := by decide +kernel
theorem tyX6_ok : ∀ k, k < 10 → parseFieldDescriptor (TX6 k).2.2.1 = some (tyX6 k) := by decide +kernel
abbrev cX6_init : ByteArray := prog_1_method_1_code
def yX6_init : MethodName := ⟨RX6, "<init>", "()V"⟩
abbrev cX6_feed : ByteArray := prog_1_method_2_code
def yX6_feed : MethodName := ⟨RX6, "feed", "(IIIIII)I"⟩
abbrev cX6_text : ByteArray := prog_1_method_3_code
def yX6_text : MethodName := ⟨RX6, "text", "()I"⟩
abbrev cX6_named : ByteArray := prog_1_method_4_code
def yX6_named : MethodName := ⟨RX6, "named", "()I"⟩
abbrev cX6_system : ByteArray := prog_1_method_5_code
def yX6_system : MethodName := ⟨RX6, "system", "(I)I"⟩
abbrev cX6_play : ByteArray := prog_1_method_6_code
def yX6_play : MethodName := ⟨RX6, "play", "(II)I"⟩
abbrev cX6_unplay : ByteArray := prog_1_method_7_code
def yX6_unplay : MethodName := ⟨RX6, "unplay", "(I)I"⟩
abbrev cX6_told : ByteArray := prog_1_method_8_code
def yX6_told : MethodName := ⟨RX6, "told", "(II)I"⟩
abbrev cX6_game : ByteArray := prog_1_method_9_code
def yX6_game : MethodName := ⟨RX6, "game", "(II)I"⟩
abbrev cX6_between : ByteArray := prog_1_method_10_code
def yX6_between : MethodName := ⟨RX6, "between", "(II)I"⟩
abbrev cX6_taken : ByteArray := prog_1_method_11_code
def yX6_taken : MethodName := ⟨RX6, "taken", "(I)I"⟩
abbrev cX6_isIn : ByteArray := prog_1_method_12_code
def yX6_isIn : MethodName := ⟨RX6, "isIn", "(I)I"⟩
abbrev cX6_all : ByteArray := prog_1_method_13_code
def yX6_all : MethodName := ⟨RX6, "all", "()I"⟩
abbrev cX6_set : ByteArray := prog_1_method_14_code
def yX6_set : MethodName := ⟨RX6, "set", "(II)I"⟩
abbrev cX6_run : ByteArray := prog_1_method_15_code
def yX6_run : MethodName := ⟨RX6, "run", "(II)I"⟩
abbrev cX6_pattern : ByteArray := prog_1_method_16_code
def yX6_pattern : MethodName := ⟨RX6, "pattern", "(I)I"⟩
abbrev cX6_needs : ByteArray := prog_1_method_17_code
def yX6_needs : MethodName := ⟨RX6, "needs", "(II)I"⟩
abbrev cX6_since : ByteArray := prog_1_method_18_code
def yX6_since : MethodName := ⟨RX6, "since", "(II)I"⟩
abbrev cX6_help : ByteArray := prog_1_method_19_code
def yX6_help : MethodName := ⟨RX6, "help", "(II)I"⟩
abbrev cX6_without : ByteArray := prog_1_method_20_code
def yX6_without : MethodName := ⟨RX6, "without", "(I)I"⟩
abbrev cX6_tables : ByteArray := prog_1_method_21_code
def yX6_tables : MethodName := ⟨RX6, "tables", "()I"⟩
abbrev cX6_drawn : ByteArray := prog_1_method_22_code
def yX6_drawn : MethodName := ⟨RX6, "drawn", "(I)I"⟩
abbrev cX6_chance : ByteArray := prog_1_method_23_code
def yX6_chance : MethodName := ⟨RX6, "chance", "(IIII)I"⟩
abbrev cX6_tells : ByteArray := prog_1_method_24_code
def yX6_tells : MethodName := ⟨RX6, "tells", "(II)I"⟩
abbrev cX6_film : ByteArray := prog_1_method_25_code
def yX6_film : MethodName := ⟨RX6, "film", "(II)I"⟩
abbrev cX6_image : ByteArray := prog_1_method_26_code
def yX6_image : MethodName := ⟨RX6, "image", "()I"⟩
abbrev cX6_back : ByteArray := prog_1_method_27_code
def yX6_back : MethodName := ⟨RX6, "back", "()I"⟩
abbrev cX6_count : ByteArray := prog_1_method_28_code
def yX6_count : MethodName := ⟨RX6, "count", "(I)I"⟩
abbrev cX6_sheet : ByteArray := prog_1_method_29_code
def yX6_sheet : MethodName := ⟨RX6, "sheet", "(III)I"⟩
abbrev cX6_put : ByteArray := prog_1_method_30_code
def yX6_put : MethodName := ⟨RX6, "put", "(III)I"⟩
abbrev cX6_copy : ByteArray := prog_1_method_31_code
def yX6_copy : MethodName := ⟨RX6, "copy", "(IIIII)I"⟩
abbrev cX6_load : ByteArray := prog_1_method_32_code
def yX6_load : MethodName := ⟨RX6, "load", "(IIII)I"⟩
abbrev cX6_isByte : ByteArray := prog_1_method_33_code
def yX6_isByte : MethodName := ⟨RX6, "isByte", "(I)Z"⟩
abbrev cX6_isSystem : ByteArray := prog_1_method_34_code
def yX6_isSystem : MethodName := ⟨RX6, "isSystem", "(I)Z"⟩
abbrev cX6_isPart : ByteArray := prog_1_method_35_code
def yX6_isPart : MethodName := ⟨RX6, "isPart", "(I)Z"⟩
abbrev cX6_isSheet : ByteArray := prog_1_method_36_code
def yX6_isSheet : MethodName := ⟨RX6, "isSheet", "(I)Z"⟩
abbrev cX6_isSort : ByteArray := prog_1_method_37_code
def yX6_isSort : MethodName := ⟨RX6, "isSort", "(I)Z"⟩
abbrev cX6_has : ByteArray := prog_1_method_38_code
def yX6_has : MethodName := ⟨RX6, "has", "(II)Z"⟩
abbrev cX6_doText : ByteArray := prog_1_method_39_code
def yX6_doText : MethodName := ⟨RX6, "doText", "()I"⟩
abbrev cX6_doTeam : ByteArray := prog_1_method_40_code
def yX6_doTeam : MethodName := ⟨RX6, "doTeam", "()I"⟩
abbrev cX6_doStart : ByteArray := prog_1_method_41_code
def yX6_doStart : MethodName := ⟨RX6, "doStart", "()I"⟩
abbrev cX6_doGame : ByteArray := prog_1_method_42_code
def yX6_doGame : MethodName := ⟨RX6, "doGame", "()I"⟩
abbrev cX6_doPlay : ByteArray := prog_1_method_43_code
def yX6_doPlay : MethodName := ⟨RX6, "doPlay", "(Z)I"⟩
abbrev cX6_readTeam : ByteArray := prog_1_method_44_code
def yX6_readTeam : MethodName := ⟨RX6, "readTeam", "(I)I"⟩
abbrev cX6_pointsOf : ByteArray := prog_1_method_45_code
def yX6_pointsOf : MethodName := ⟨RX6, "pointsOf", "(LStillInIt$Group;I)I"⟩
abbrev cX6_reachOf : ByteArray := prog_1_method_46_code
def yX6_reachOf : MethodName := ⟨RX6, "reachOf", "(LStillInIt$Group;I)I"⟩
abbrev cX6_canWin : ByteArray := prog_1_method_47_code
def yX6_canWin : MethodName := ⟨RX6, "canWin", "(LStillInIt$Group;I)Z"⟩
abbrev cX6_whoCanWin : ByteArray := prog_1_method_48_code
def yX6_whoCanWin : MethodName := ⟨RX6, "whoCanWin", "(LStillInIt$Group;)I"⟩
abbrev cX6_isSure : ByteArray := prog_1_method_49_code
def yX6_isSure : MethodName := ⟨RX6, "isSure", "(LStillInIt$Group;I)Z"⟩
abbrev cX6_fewestFor : ByteArray := prog_1_method_50_code
def yX6_fewestFor : MethodName := ⟨RX6, "fewestFor", "(IIZ)I"⟩
abbrev cX6_suffices : ByteArray := prog_1_method_51_code
def yX6_suffices : MethodName := ⟨RX6, "suffices", "(IIZ)Z"⟩
abbrev cX6_drawInto : ByteArray := prog_1_method_52_code
def yX6_drawInto : MethodName := ⟨RX6, "drawInto", "(I)V"⟩
abbrev cX6_firstOf : ByteArray := prog_1_method_53_code
def yX6_firstOf : MethodName := ⟨RX6, "firstOf", "([II)I"⟩
abbrev cX6_commonDivisor : ByteArray := prog_1_method_54_code
def yX6_commonDivisor : MethodName := ⟨RX6, "commonDivisor", "(II)I"⟩
def RX7 : String := "StillInItModel"
def TX7 : u_T := fun k => match k with
  | 0 => ("StillInItModel", "w", "[I", true)
  | 1 => ("StillInItModel", "kept", "[I", true)
  | 2 => ("StillInItModel", "hasImage", "Z", false)
  | 3 => ("StillInItModel", "as", "[I", true)
  | 4 => ("StillInItModel", "points", "[I", true)
  | 5 => ("StillInItModel", "forWhom", "I", false)
  | 6 => ("StillInItModel", "most", "I", false)
  | 7 => ("StillInItModel", "run", "[I", true)
  | 8 => ("StillInItModel", "bestDrawn", "I", false)
  | 9 => ("StillInItModel", "wantsAll", "Z", false)
  | 10 => ("StillInItModel", "tape", "[I", true)
  | 11 => ("StillInItModel", "taped", "I", false)
  | 12 => ("StillInItModel", "at", "I", false)
  | 13 => ("StillInItModel", "begin", "I", false)
  | 14 => ("StillInItModel", "end", "I", false)
  | 15 => ("StillInItModel", "keys", "[I", true)
  | 16 => ("StillInItModel", "rows", "[I", true)
  | 17 => ("StillInItModel", "rowMany", "I", false)
  | 18 => ("StillInItModel", "sorts", "[I", true)
  | 19 => ("StillInItModel", "sizes", "[I", true)
  | _ => ("StillInItModel", "cells", "[I", true)
def tyX7 : Nat → FieldType := fun k => match k with
  | 0 => .array .int
  | 1 => .array .int
  | 2 => .boolean
  | 3 => .array .int
  | 4 => .array .int
  | 5 => .int
  | 6 => .int
  | 7 => .array .int
  | 8 => .int
  | 9 => .boolean
  | 10 => .array .int
  | 11 => .int
  | 12 => .int
  | 13 => .int
  | 14 => .int
  | 15 => .array .int
  | 16 => .array .int
  | 17 => .int
  | 18 => .array .int
  | 19 => .array .int
  | _ => .array .int
theorem nmX7 : ∀ a, a < 21 → ∀ b, b < 21 → a ≠ b → (TX7 a).2.1 ≠ (TX7 b).2.1 := by decide +kernel
theorem tyX7_ok : ∀ k, k < 21 → parseFieldDescriptor (TX7 k).2.2.1 = some (tyX7 k) := by decide +kernel
abbrev cX7_init : ByteArray := prog_9_method_1_code
def yX7_init : MethodName := ⟨RX7, "<init>", "()V"⟩
abbrev cX7_in : ByteArray := prog_9_method_2_code
def yX7_in : MethodName := ⟨RX7, "in", "(JJJ)Z"⟩
abbrev cX7_has : ByteArray := prog_9_method_3_code
def yX7_has : MethodName := ⟨RX7, "has", "(II)Z"⟩
abbrev cX7_ones : ByteArray := prog_9_method_4_code
def yX7_ones : MethodName := ⟨RX7, "ones", "(I)I"⟩
abbrev cX7_isTeam : ByteArray := prog_9_method_5_code
def yX7_isTeam : MethodName := ⟨RX7, "isTeam", "(I)Z"⟩
abbrev cX7_isGame : ByteArray := prog_9_method_6_code
def yX7_isGame : MethodName := ⟨RX7, "isGame", "(I)Z"⟩
abbrev cX7_wonBrings : ByteArray := prog_9_method_7_code
def yX7_wonBrings : MethodName := ⟨RX7, "wonBrings", "()I"⟩
abbrev cX7_drawnBrings : ByteArray := prog_9_method_8_code
def yX7_drawnBrings : MethodName := ⟨RX7, "drawnBrings", "()I"⟩
abbrev cX7_isOf : ByteArray := prog_9_method_9_code
def yX7_isOf : MethodName := ⟨RX7, "isOf", "(II)Z"⟩
abbrev cX7_brings : ByteArray := prog_9_method_10_code
def yX7_brings : MethodName := ⟨RX7, "brings", "(III)V"⟩
abbrev cX7_counts : ByteArray := prog_9_method_11_code
def yX7_counts : MethodName := ⟨RX7, "counts", "()V"⟩
abbrev cX7_looks : ByteArray := prog_9_method_12_code
def yX7_looks : MethodName := ⟨RX7, "looks", "()V"⟩
abbrev cX7_looksAsOf : ByteArray := prog_9_method_13_code
def yX7_looksAsOf : MethodName := ⟨RX7, "looksAsOf", "(I)V"⟩
abbrev cX7_looksWith : ByteArray := prog_9_method_14_code
def yX7_looksWith : MethodName := ⟨RX7, "looksWith", "(II)V"⟩
abbrev cX7_leftSet : ByteArray := prog_9_method_15_code
def yX7_leftSet : MethodName := ⟨RX7, "leftSet", "()I"⟩
abbrev cX7_ownLeft : ByteArray := prog_9_method_16_code
def yX7_ownLeft : MethodName := ⟨RX7, "ownLeft", "(I)I"⟩
abbrev cX7_reach : ByteArray := prog_9_method_17_code
def yX7_reach : MethodName := ⟨RX7, "reach", "(I)I"⟩
abbrev cX7_isTooMuch : ByteArray := prog_9_method_18_code
def yX7_isTooMuch : MethodName := ⟨RX7, "isTooMuch", "()Z"⟩
abbrev cX7_resultAt : ByteArray := prog_9_method_19_code
def yX7_resultAt : MethodName := ⟨RX7, "resultAt", "(I)I"⟩
abbrev cX7_results : ByteArray := prog_9_method_20_code
def yX7_results : MethodName := ⟨RX7, "results", "()I"⟩
abbrev cX7_notesDrawn : ByteArray := prog_9_method_21_code
def yX7_notesDrawn : MethodName := ⟨RX7, "notesDrawn", "()V"⟩
abbrev cX7_goes : ByteArray := prog_9_method_22_code
def yX7_goes : MethodName := ⟨RX7, "goes", "(II)Z"⟩
abbrev cX7_isInNow : ByteArray := prog_9_method_23_code
def yX7_isInNow : MethodName := ⟨RX7, "isInNow", "(IZ)Z"⟩
abbrev cX7_inSet : ByteArray := prog_9_method_24_code
def yX7_inSet : MethodName := ⟨RX7, "inSet", "()I"⟩
abbrev cX7_canBePassed : ByteArray := prog_9_method_25_code
def yX7_canBePassed : MethodName := ⟨RX7, "canBePassed", "(II)Z"⟩
abbrev cX7_isByte : ByteArray := prog_9_method_26_code
def yX7_isByte : MethodName := ⟨RX7, "isByte", "(I)Z"⟩
abbrev cX7_feed : ByteArray := prog_9_method_27_code
def yX7_feed : MethodName := ⟨RX7, "feed", "(IIIIII)I"⟩
abbrev cX7_byteAt : ByteArray := prog_9_method_28_code
def yX7_byteAt : MethodName := ⟨RX7, "byteAt", "(I)I"⟩
abbrev cX7_isLetter : ByteArray := prog_9_method_29_code
def yX7_isLetter : MethodName := ⟨RX7, "isLetter", "(I)Z"⟩
abbrev cX7_isDigit : ByteArray := prog_9_method_30_code
def yX7_isDigit : MethodName := ⟨RX7, "isDigit", "(I)Z"⟩
abbrev cX7_next : ByteArray := prog_9_method_31_code
def yX7_next : MethodName := ⟨RX7, "next", "()V"⟩
abbrev cX7_isWord : ByteArray := prog_9_method_32_code
def yX7_isWord : MethodName := ⟨RX7, "isWord", "()Z"⟩
abbrev cX7_key : ByteArray := prog_9_method_33_code
def yX7_key : MethodName := ⟨RX7, "key", "()I"⟩
abbrev cX7_whose : ByteArray := prog_9_method_34_code
def yX7_whose : MethodName := ⟨RX7, "whose", "(II)I"⟩
abbrev cX7_isName : ByteArray := prog_9_method_35_code
def yX7_isName : MethodName := ⟨RX7, "isName", "()Z"⟩
abbrev cX7_number : ByteArray := prog_9_method_36_code
def yX7_number : MethodName := ⟨RX7, "number", "(II)I"⟩
abbrev cX7_faults : ByteArray := prog_9_method_37_code
def yX7_faults : MethodName := ⟨RX7, "faults", "()I"⟩
abbrev cX7_isOver : ByteArray := prog_9_method_38_code
def yX7_isOver : MethodName := ⟨RX7, "isOver", "()Z"⟩
abbrev cX7_text : ByteArray := prog_9_method_39_code
def yX7_text : MethodName := ⟨RX7, "text", "()I"⟩
abbrev cX7_comesTeam : ByteArray := prog_9_method_40_code
def yX7_comesTeam : MethodName := ⟨RX7, "comesTeam", "()I"⟩
abbrev cX7_starts : ByteArray := prog_9_method_41_code
def yX7_starts : MethodName := ⟨RX7, "starts", "()I"⟩
abbrev cX7_games : ByteArray := prog_9_method_42_code
def yX7_games : MethodName := ⟨RX7, "games", "(I)I"⟩
abbrev cX7_comesGame : ByteArray := prog_9_method_43_code
def yX7_comesGame : MethodName := ⟨RX7, "comesGame", "(III)I"⟩
abbrev cX7_isPlayed : ByteArray := prog_9_method_44_code
def yX7_isPlayed : MethodName := ⟨RX7, "isPlayed", "(IIZ)I"⟩
abbrev cX7_named : ByteArray := prog_9_method_45_code
def yX7_named : MethodName := ⟨RX7, "named", "()I"⟩
abbrev cX7_system : ByteArray := prog_9_method_46_code
def yX7_system : MethodName := ⟨RX7, "system", "(I)I"⟩
abbrev cX7_play : ByteArray := prog_9_method_47_code
def yX7_play : MethodName := ⟨RX7, "play", "(II)I"⟩
abbrev cX7_unplay : ByteArray := prog_9_method_48_code
def yX7_unplay : MethodName := ⟨RX7, "unplay", "(I)I"⟩
abbrev cX7_told : ByteArray := prog_9_method_49_code
def yX7_told : MethodName := ⟨RX7, "told", "(II)I"⟩
abbrev cX7_game : ByteArray := prog_9_method_50_code
def yX7_game : MethodName := ⟨RX7, "game", "(II)I"⟩
abbrev cX7_between : ByteArray := prog_9_method_51_code
def yX7_between : MethodName := ⟨RX7, "between", "(II)I"⟩
abbrev cX7_taken : ByteArray := prog_9_method_52_code
def yX7_taken : MethodName := ⟨RX7, "taken", "(I)I"⟩
abbrev cX7_isIn : ByteArray := prog_9_method_53_code
def yX7_isIn : MethodName := ⟨RX7, "isIn", "(I)I"⟩
abbrev cX7_all : ByteArray := prog_9_method_54_code
def yX7_all : MethodName := ⟨RX7, "all", "()I"⟩
abbrev cX7_aboveOf : ByteArray := prog_9_method_55_code
def yX7_aboveOf : MethodName := ⟨RX7, "aboveOf", "(II)I"⟩
abbrev cX7_set : ByteArray := prog_9_method_56_code
def yX7_set : MethodName := ⟨RX7, "set", "(II)I"⟩
abbrev cX7_run : ByteArray := prog_9_method_57_code
def yX7_run : MethodName := ⟨RX7, "run", "(II)I"⟩
abbrev cX7_pattern : ByteArray := prog_9_method_58_code
def yX7_pattern : MethodName := ⟨RX7, "pattern", "(I)I"⟩
abbrev cX7_isEnough : ByteArray := prog_9_method_59_code
def yX7_isEnough : MethodName := ⟨RX7, "isEnough", "(III)Z"⟩
abbrev cX7_needs : ByteArray := prog_9_method_60_code
def yX7_needs : MethodName := ⟨RX7, "needs", "(II)I"⟩
abbrev cX7_since : ByteArray := prog_9_method_61_code
def yX7_since : MethodName := ⟨RX7, "since", "(II)I"⟩
abbrev cX7_help : ByteArray := prog_9_method_62_code
def yX7_help : MethodName := ⟨RX7, "help", "(II)I"⟩
abbrev cX7_without : ByteArray := prog_9_method_63_code
def yX7_without : MethodName := ⟨RX7, "without", "(I)I"⟩
abbrev cX7_notesRow : ByteArray := prog_9_method_64_code
def yX7_notesRow : MethodName := ⟨RX7, "notesRow", "()V"⟩
abbrev cX7_tablesFrom : ByteArray := prog_9_method_65_code
def yX7_tablesFrom : MethodName := ⟨RX7, "tablesFrom", "(I)V"⟩
abbrev cX7_tables : ByteArray := prog_9_method_66_code
def yX7_tables : MethodName := ⟨RX7, "tables", "()I"⟩
abbrev cX7_draws : ByteArray := prog_9_method_67_code
def yX7_draws : MethodName := ⟨RX7, "draws", "(I)V"⟩
abbrev cX7_firstOnes : ByteArray := prog_9_method_68_code
def yX7_firstOnes : MethodName := ⟨RX7, "firstOnes", "()I"⟩
abbrev cX7_drawn : ByteArray := prog_9_method_69_code
def yX7_drawn : MethodName := ⟨RX7, "drawn", "(I)I"⟩
abbrev cX7_chance : ByteArray := prog_9_method_70_code
def yX7_chance : MethodName := ⟨RX7, "chance", "(IIII)I"⟩
abbrev cX7_isSheet : ByteArray := prog_9_method_71_code
def yX7_isSheet : MethodName := ⟨RX7, "isSheet", "(I)Z"⟩
abbrev cX7_runsSo : ByteArray := prog_9_method_72_code
def yX7_runsSo : MethodName := ⟨RX7, "runsSo", "(II)I"⟩
abbrev cX7_firstTold : ByteArray := prog_9_method_73_code
def yX7_firstTold : MethodName := ⟨RX7, "firstTold", "(I)I"⟩
abbrev cX7_tells : ByteArray := prog_9_method_74_code
def yX7_tells : MethodName := ⟨RX7, "tells", "(II)I"⟩
abbrev cX7_film : ByteArray := prog_9_method_75_code
def yX7_film : MethodName := ⟨RX7, "film", "(II)I"⟩
abbrev cX7_copies : ByteArray := prog_9_method_76_code
def yX7_copies : MethodName := ⟨RX7, "copies", "([I[I)V"⟩
abbrev cX7_image : ByteArray := prog_9_method_77_code
def yX7_image : MethodName := ⟨RX7, "image", "()I"⟩
abbrev cX7_back : ByteArray := prog_9_method_78_code
def yX7_back : MethodName := ⟨RX7, "back", "()I"⟩
abbrev cX7_count : ByteArray := prog_9_method_79_code
def yX7_count : MethodName := ⟨RX7, "count", "(I)I"⟩
abbrev cX7_sheet : ByteArray := prog_9_method_80_code
def yX7_sheet : MethodName := ⟨RX7, "sheet", "(III)I"⟩
abbrev cX7_put : ByteArray := prog_9_method_81_code
def yX7_put : MethodName := ⟨RX7, "put", "(III)I"⟩
abbrev cX7_copy : ByteArray := prog_9_method_82_code
def yX7_copy : MethodName := ⟨RX7, "copy", "(IIIII)I"⟩
abbrev cX7_load : ByteArray := prog_9_method_83_code
def yX7_load : MethodName := ⟨RX7, "load", "(IIII)I"⟩
def RJ6 : String := "java/lang/Integer"
abbrev cJ6_bitCount_0f7a4 : ByteArray := prog_10_method_49_code
def yJ6_bitCount_0f7a4 : MethodName := ⟨RJ6, "bitCount", "(I)I"⟩
def RJ0 : String := "java/lang/String"
abbrev cJ0_length_8abf5 : ByteArray := prog_11_method_54_code
def yJ0_length_8abf5 : MethodName := ⟨RJ0, "length", "()I"⟩
abbrev cJ0_charAt_5068e : ByteArray := prog_11_method_56_code
def yJ0_charAt_5068e : MethodName := ⟨RJ0, "charAt", "(I)C"⟩
abbrev cJ0_coder_7d493 : ByteArray := prog_11_method_152_code
def yJ0_coder_7d493 : MethodName := ⟨RJ0, "coder", "()B"⟩
abbrev cJ0_isLatin1_aae02 : ByteArray := prog_11_method_154_code
def yJ0_isLatin1_aae02 : MethodName := ⟨RJ0, "isLatin1", "()Z"⟩
abbrev cJ0_checkIndex_df160 : ByteArray := prog_11_method_155_code
def yJ0_checkIndex_df160 : MethodName := ⟨RJ0, "checkIndex", "(II)V"⟩
def RJ1 : String := "java/lang/StringLatin1"
abbrev cJ1_charAt_3b067 : ByteArray := prog_12_method_2_code
def yJ1_charAt_3b067 : MethodName := ⟨RJ1, "charAt", "([BI)C"⟩
def RJ2 : String := "java/lang/StringUTF16"
abbrev cJ2_getChar_3b067 : ByteArray := prog_13_method_5_code
def yJ2_getChar_3b067 : MethodName := ⟨RJ2, "getChar", "([BI)C"⟩
abbrev cJ2_length_9d52b : ByteArray := prog_13_method_6_code
def yJ2_length_9d52b : MethodName := ⟨RJ2, "length", "([B)I"⟩
abbrev cJ2_charAt_3b067 : ByteArray := prog_13_method_83_code
def yJ2_charAt_3b067 : MethodName := ⟨RJ2, "charAt", "([BI)C"⟩
abbrev cJ2_checkIndex_2214a : ByteArray := prog_13_method_91_code
def yJ2_checkIndex_2214a : MethodName := ⟨RJ2, "checkIndex", "(I[B)V"⟩
def RJ10 : String := "java/lang/System"
def RJ3 : String := "jdk/internal/util/Preconditions"
abbrev cJ3_checkIndex_8e157 : ByteArray := prog_15_method_11_code
def yJ3_checkIndex_8e157 : MethodName := ⟨RJ3, "checkIndex", "(IILjava/util/function/BiFunction;)I"⟩
def RL : String := "StillInItLaw"
abbrev cL_law : ByteArray := code
def yL_law : MethodName := ⟨RL, "law", "([I)Z"⟩
abbrev vwCl : List vw_C := [(RX0, TX0, 10), (RX1, TX1, 9), (RX2, TX2, 3), (RX3, TX3, 5), (RX4, TX4, 5), (RX5, TX5, 5), (RX6, TX6, 10), (RX7, TX7, 21)]
def lw_good : List Cond := lw_tbl.filter goodWord
theorem lw_good_all : GoodIn lw_good lw_good := fun w hw => ⟨hw, good_of_word (List.mem_filter.mp hw).2⟩
theorem lw_mem {w : Cond} (i : Nat) (h : lw_tbl[i]? = some w) (g : goodWord w = true) : w ∈ lw_good := List.mem_filter.mpr ⟨List.mem_of_getElem? h, g⟩
theorem lw_m1 {w : Cond} (i : Nat) (h : tables_1_1[i]? = some w) (g : goodWord w = true) : w ∈ lw_good := by
  have hm : w ∈ tables_1_1 := List.mem_of_getElem? h
  exact List.mem_filter.mpr ⟨List.mem_append_right _ (show w ∈ tables_1 from List.mem_append_left _ hm), g⟩
theorem lw_m2 {w : Cond} (i : Nat) (h : tables_1_2[i]? = some w) (g : goodWord w = true) : w ∈ lw_good := by
  have hm : w ∈ tables_1_2 := List.mem_of_getElem? h
  exact List.mem_filter.mpr ⟨List.mem_append_right _ (show w ∈ tables_1 from List.mem_append_right _ (List.mem_append_left _ hm)), g⟩
theorem lw_m3 {w : Cond} (i : Nat) (h : tables_1_3[i]? = some w) (g : goodWord w = true) : w ∈ lw_good := by
  have hm : w ∈ tables_1_3 := List.mem_of_getElem? h
  exact List.mem_filter.mpr ⟨List.mem_append_right _ (show w ∈ tables_1 from List.mem_append_right _ (List.mem_append_right _ (List.mem_append_left _ hm))), g⟩
theorem lw_m4 {w : Cond} (i : Nat) (h : tables_1_4[i]? = some w) (g : goodWord w = true) : w ∈ lw_good := by
  have hm : w ∈ tables_1_4 := List.mem_of_getElem? h
  exact List.mem_filter.mpr ⟨List.mem_append_right _ (show w ∈ tables_1 from List.mem_append_right _ (List.mem_append_right _ (List.mem_append_right _ (List.mem_append_left _ hm)))), g⟩
theorem lw_m5 {w : Cond} (i : Nat) (h : tables_1_5[i]? = some w) (g : goodWord w = true) : w ∈ lw_good := by
  have hm : w ∈ tables_1_5 := List.mem_of_getElem? h
  exact List.mem_filter.mpr ⟨List.mem_append_right _ (show w ∈ tables_1 from List.mem_append_right _ (List.mem_append_right _ (List.mem_append_right _ (List.mem_append_right _ (hm))))), g⟩
theorem inlX0 : ∀ w ∈ u_ws RX0 TX0 10, w ∈ lw_good := by decide +kernel
theorem inlX1 : ∀ w ∈ u_ws RX1 TX1 9, w ∈ lw_good := by decide +kernel
theorem inlX2 : ∀ w ∈ u_ws RX2 TX2 3, w ∈ lw_good := by decide +kernel
theorem inlX3 : ∀ w ∈ u_ws RX3 TX3 5, w ∈ lw_good := by decide +kernel
theorem inlX4 : ∀ w ∈ u_ws RX4 TX4 5, w ∈ lw_good := by decide +kernel
theorem inlX5 : ∀ w ∈ u_ws RX5 TX5 5, w ∈ lw_good := by decide +kernel
theorem inlX6 : ∀ w ∈ u_ws RX6 TX6 10, w ∈ lw_good := by decide +kernel
theorem inlX7 : ∀ w ∈ u_ws RX7 TX7 21, w ∈ lw_good := by decide +kernel
def nestM : List (String × Nat × MethodName × String) := [("StillInIt", 9, ⟨"StillInIt$Tape", "<init>", "()V"⟩, "StillInIt"), ("StillInIt", 18, ⟨"StillInIt$Group", "<init>", "()V"⟩, "StillInIt"), ("StillInIt", 31, ⟨"StillInIt$Shutter", "<init>", "()V"⟩, "StillInIt"), ("StillInIt", 38, ⟨"StillInIt$Race", "<init>", "()V"⟩, "StillInIt"), ("StillInIt", 45, ⟨"StillInIt$Walk", "<init>", "()V"⟩, "StillInIt"), ("StillInIt", 60, ⟨"StillInIt$Sheet", "<init>", "()V"⟩, "StillInIt"), ("StillInIt$Shutter", 32, ⟨"StillInIt", "has", "(II)Z"⟩, "StillInIt"), ("StillInIt$Race", 80, ⟨"StillInIt", "has", "(II)Z"⟩, "StillInIt"), ("StillInIt", 208, ⟨"StillInIt$Walk", "from", "(ILStillInIt$Group;LStillInIt$Sheet;)I"⟩, "StillInIt")]
theorem nestM_in : ∀ w ∈ nestM, Cond.methodLinkNest w.1 w.2.1 w.2.2.1 w.2.2.2 ∈ lw_tbl := by decide +kernel
def nestF : List (String × Nat × String × String × String × String) := [("StillInIt$Group", 52, "StillInIt", "DRAWN", "[I", "StillInIt"), ("StillInIt$Group", 49, "StillInIt", "WON", "[I", "StillInIt"), ("StillInIt$Group", 55, "StillInIt", "LEAST", "[I", "StillInIt"), ("StillInIt$Group", 58, "StillInIt", "FIRST_RESULT", "[I", "StillInIt")]
theorem nestF_in : ∀ w ∈ nestF, Cond.fieldLinkNest w.1 w.2.1 w.2.2.1 w.2.2.2.1 w.2.2.2.2.1 w.2.2.2.2.2 ∈ lw_tbl := by decide +kernel
def strR : List (String × Nat × String × Nat) := [("StillInIt", 267, "team", 0), ("StillInIt$Tape", 49, "team", 0), ("StillInIt$Tape", 55, "start", 1), ("StillInIt$Tape", 57, "game", 2), ("StillInIt$Tape", 59, "won", 3), ("StillInIt$Tape", 61, "drew", 4), ("StillInIt", 276, "start", 1), ("StillInIt", 281, "game", 2), ("StillInIt", 286, "won", 3), ("StillInIt", 292, "drew", 4)]
theorem strR_in : ∀ w ∈ strR, Cond.stringRef w.1 w.2.1 w.2.2.1 ∈ lw_tbl := by decide +kernel
def strB : List (List Int32) := [[116, 101, 97, 109], [115, 116, 97, 114, 116], [103, 97, 109, 101], [119, 111, 110], [100, 114, 101, 119]]
theorem wd_native : Cond.native arraycopyName ∈ lw_good := lw_mem 693 (by decide +kernel) (by decide +kernel)
theorem wd_copystat : Cond.static arraycopyName ∈ lw_good := lw_mem 692 (by decide +kernel) (by decide +kernel)
theorem wd_sysinit : Cond.initialized "java/lang/System" ∈ lw_good := lw_mem 82 (by decide +kernel) (by decide +kernel)
theorem wd_oinst : Cond.instanceMethod Lib.objectInit ∈ lw_good := lw_mem 89 (by decide +kernel) (by decide +kernel)
theorem wd_ocode : Cond.code Lib.objectInit ⟨#[0xb1]⟩ 1 none ∈ lw_good := lw_mem 90 (by decide +kernel) (by decide +kernel)
end
section
/-! THE LIGHT JUDGEMENT: one abstract heap (a list of cells whose references are places of that list), kept beside the machine's by one map of addresses; whole-world contracts, no splitting of worlds. -/
abbrev Ae : Type := (Nat × vp_A) ⊕ (Nat × List Value)
abbrev Hp : Type := List Ae
/-- classes' numbers and slots; array classes by kind; the first address that is ours -/
abbrev Gx : Type := va_G × (Nat → ClassId) × Nat
def tv (adr : Nat → Nat) (v : Value) : Value := match v with
  | .ref i => .ref (adr i)
  | w => w
def tA (adr : Nat → Nat) (a : vp_A) : vp_A := (a.1, match a.2 with
  | .inl f => .inl f
  | .inr (.inl f) => .inr (.inl f)
  | .inr (.inr (.inl f)) => .inr (.inr (.inl f))
  | .inr (.inr (.inr (.inl f))) => .inr (.inr (.inr (.inl f)))
  | .inr (.inr (.inr (.inr f))) => .inr (.inr (.inr (.inr (fun j => if j < a.1 then (f j).map adr else none)))))
def tE (G : Gx) (adr : Nat → Nat) (e : Ae) : va_E := match e with
  | .inl (k, a) => .inl (G.2.1 k, tA adr a)
  | .inr (c, fs) => .inr (c, fs.map (tv adr))
def cW (G : Gx) (adr : Nat → Nat) (h : Hp) : va_W := h.mapIdx (fun i e => (adr i, tE G adr e))
theorem cW_at {G : Gx} {adr : Nat → Nat} {h : Hp} {i : Nat} {e : Ae} (he : h[i]? = some e) : (cW G adr h)[i]? = some (adr i, tE G adr e) := by
  simp [cW, List.getElem?_mapIdx, he]
theorem cW_set {G : Gx} {adr : Nat → Nat} {h : Hp} {i : Nat} {e : Ae} : (cW G adr h).set i (adr i, tE G adr e) = cW G adr (h.set i e) := by
  apply List.ext_getElem?
  intro j
  simp only [cW, List.getElem?_set, List.getElem?_mapIdx, List.length_mapIdx]
  by_cases hij : i = j
  · subst hij
    by_cases hl : i < h.length
    · simp [hl]
    · simp [hl]
  · simp [hij]
theorem tv_cat (adr : Nat → Nat) (v : Value) : (tv adr v).category = v.category := by cases v <;> rfl
def tL (adr : Nat → Nat) (L : List (Nat × Value)) : List (Nat × Value) := L.map (fun q => (q.1, tv adr q.2))
theorem tL_at {adr : Nat → Nat} {L : List (Nat × Value)} {j i : Nat} {v : Value} (h : L[j]? = some (i, v)) : (tL adr L)[j]? = some (i, tv adr v) := by
  simp [tL, h]
theorem tL_st1 {adr : Nat → Nat} {L L' : List (Nat × Value)} {i : Nat} {v : Value} (h : (i, v) :: L.filter (fun q => !(q.1 == i) && !(q.1 + 1 == i && q.2.category == 2)) = L') : (i, tv adr v) :: (tL adr L).filter (fun q => !(q.1 == i) && !(q.1 + 1 == i && q.2.category == 2)) = tL adr L' := by
  subst h
  simp only [tL, List.map_cons, List.filter_map]
  congr 2
  apply List.filter_congr
  intro q _
  simp [tv_cat]
theorem tL_st2 {adr : Nat → Nat} {L L' : List (Nat × Value)} {i : Nat} {v : Value} (h : (i, v) :: L.filter (fun q => !(q.1 == i) && (!(q.1 == i + 1) && !(q.1 + 1 == i && q.2.category == 2))) = L') : (i, tv adr v) :: (tL adr L).filter (fun q => !(q.1 == i) && (!(q.1 == i + 1) && !(q.1 + 1 == i && q.2.category == 2))) = tL adr L' := by
  subst h
  simp only [tL, List.map_cons, List.filter_map]
  congr 2
  apply List.filter_congr
  intro q _
  simp [tv_cat]
theorem tL_sub {adr : Nat → Nat} {L L' : List (Nat × Value)} {ls : Array Slot} {nL : Nat} (h : lv_has ls nL (tL adr L)) (ks : List Nat) (hk : ks.map (fun k => L[k]?) = L'.map some) : lv_has ls nL (tL adr L') := by
  refine ⟨h.1, h.2.1, fun q hq => ?_⟩
  simp only [tL, List.mem_map] at hq
  obtain ⟨x, hx, rfl⟩ := hq
  have h1 : some x ∈ L'.map some := List.mem_map_of_mem hx
  rw [← hk] at h1
  obtain ⟨k, -, hk2⟩ := List.mem_map.mp h1
  have h2 : x ∈ L := List.mem_of_getElem? hk2
  exact h.2.2 (x.1, tv adr x.2) (List.mem_map.mpr ⟨x, h2, rfl⟩)
def Aq (G : Gx) : Nat → Prop := fun q => G.2.2 ≤ q
/-- static tables of our own: name, three numbers -/
def statT : List (String × List Int32) := [("WON", [1, 2, 3]), ("DRAWN", [0, 1, 1]), ("LEAST", [1, 2, 2]), ("FIRST_RESULT", [1, 0, 0])]
/-- what holds of a state beside its heap's own cells: tables, nest words, static tables, the texts of constants -/
def KK (G : Gx) (adr : Nat → Nat) (U : State) : Prop :=
  G.2.2 ≤ U.heap.size ∧ va_K G.1 vwCl [(G.2.1 0, .int), (G.2.1 1, .long), (G.2.1 2, .object "StillInIt$Sheet")] U ∧ (∀ w ∈ nestM, va_Nw (.methodLinkNest w.1 w.2.1 w.2.2.1 w.2.2.2) U) ∧ (∀ w ∈ nestF, va_Nw (.fieldLinkNest w.1 w.2.1 w.2.2.1 w.2.2.2.1 w.2.2.2.2.1 w.2.2.2.2.2) U) ∧
  (∀ (k : Nat) (q : String × List Int32), statT[k]? = some q → va_Z "StillInIt" q.1 "[I" (.ref (adr (1000 + k))) (Aq G) U U.heap ∧ va_T .int (adr (1000 + k)) 3 (fun j => .int (q.2.getD j 0)) (Aq G) U U.heap) ∧
  (∀ w ∈ strR, vk_R w.1 w.2.1 w.2.2.1 (adr (1010 + w.2.2.2)) U) ∧
  vk_S 5 [4, 5, 4, 3, 4] strB (fun i => adr (1010 + i)) (fun i => adr (1020 + i)) (Aq G) U U.heap ∧ va_AO "StillInIt$Sheet" U
theorem KK.calling {G : Gx} {adr : Nat → Nat} {U : State} (a : Array Value) (g : JFrame) (mk : MethodId) (h : KK G adr U) : KK G adr (U.calling g mk a) := by
  obtain ⟨h0, h1, h2, h3, h4, h5, h6, h7⟩ := h
  have hv : U.vm.Alike (U.calling g mk a).vm := Vm.Alike.refl _
  refine ⟨h0, va_K.moved hv h1, fun w hw => va_Nw.same rfl (u := U) rfl (h2 w hw), fun w hw => va_Nw.same rfl (u := U) rfl (h3 w hw), fun k q hq => ⟨va_Z.moved hv (h4 k q hq).1, va_T.moved hv (h4 k q hq).2⟩, fun w hw => vk_R.same (u := U) rfl (h5 w hw), vk_S.moved hv h6, va_AO.moved hv h7⟩
theorem KK.go {G : Gx} {adr : Nat → Nat} {s U : State} {H : Heap} {locs : List Loc} (h : KK G adr s) (hS : va_S (Aq G) s.heap H locs) (hW : s.WarmedH U.vm) (hU : U.heap = H) : KK G adr U := by
  obtain ⟨h0, h1, h2, h3, h4, h5, h6, h7⟩ := h
  have hv : s.vm.Alike U.vm := hW.alike
  have hk : ∀ a : Nat, a < s.heap.size → ¬ Aq G a → U.heap[a]? = s.heap[a]? := fun a h1 h2 => by rw [hU]; exact hS.2.1 a h1 h2
  refine ⟨by rw [hU]; exact Nat.le_trans h0 hS.1, va_K.moved hv h1, fun w hw => va_Nw.warmM hW (h2 w hw), fun w hw => va_Nw.warmF hW (h3 w hw), fun k q hq => ⟨va_Z.kept (va_Z.moved hv (h4 k q hq).1) hk, va_T.kept (va_T.moved hv (h4 k q hq).2) hk⟩, fun w hw => vk_R.warm hW (h5 w hw), vk_S.kept (vk_S.moved hv h6) hk, va_AO.moved hv h7⟩
theorem KK.adr {G : Gx} {adr adr' : Nat → Nat} {U : State} (h : KK G adr U) (he : ∀ i, 1000 ≤ i → adr' i = adr i) : KK G adr' U := by
  have e1 : ∀ k, adr' (1000 + k) = adr (1000 + k) := fun k => he _ (by omega)
  have e2 : ∀ k, adr' (1010 + k) = adr (1010 + k) := fun k => he _ (by omega)
  have e3 : ∀ k, adr' (1020 + k) = adr (1020 + k) := fun k => he _ (by omega)
  unfold KK at h ⊢
  simp only [e1, e2, e3]
  exact h
/-- the abstract heap stands in the machine's -/
def RH (G : Gx) (adr : Nat → Nat) (h : Hp) (H : Heap) : Prop := va_P G.1 vwCl (cW G adr h) H ∧ va_D (Aq G) (cW G adr h)
abbrev Cx : Type := Program × Launch × Env × State × MethodId × Array Value × List Frame × Method × Code × Gx
/-- what is fixed while a method runs -/
def Fx (X : Cx) (cc : ByteArray) (nL : Nat) (own : String) : Prop := match X with
  | (p, _, _, s, m, args, _, meth, c, _) => p.tables.exec = Jvm.exec ∧ c.code = cc ∧ c.maxLocals = nL ∧ s.vm.findClass own = some m.cls ∧ (∀ w ∈ lw_good, w.before args s = true) ∧ meth.locks = false
/-- the machine, at this place of this method, with these locals, this stack and this heap, comes to Qm -/
def AW (X : Cx) (cc : ByteArray) (nL : Nat) (own : String) (R : Room) (Qm : State → Prop) (k n : Nat) (adr : Nat → Nat) (h : Hp) (pc : Nat) (L : List (Nat × Value)) (st : List Value) : Prop := match X with
  | (p, l, e, s, m, args, below, meth, c, G) => Fx X cc nL own → KK G adr s → ∀ (ls : Array Slot) (H : Heap) (locs : List Loc), lv_has ls nL (tL adr L) → RH G adr h H → va_S (Aq G) s.heap H locs → W p l e R s m args below meth c H locs k n Qm (F0 m pc ls (st.map (tv adr)))
end
section
/-! reads and writes of the abstract heap -/
def ushr (x y : Int32) : Int32 := (x.toUInt32 >>> (y.toUInt32 &&& Int32.toUInt32 31)).toInt32
def ck (h : Hp) (r ci : Nat) : Option Unit := match h[r]? with
  | some (.inr (c, _)) => if c = ci then some () else none
  | _ => none
def gF (h : Hp) (r ci k : Nat) : Option Value := match h[r]? with
  | some (.inr (c, fs)) => if c = ci then fs[k]? else none
  | _ => none
def gI (h : Hp) (r ci k : Nat) : Option Int32 := match gF h r ci k with
  | some (.int x) => some x
  | _ => none
def gR (h : Hp) (r ci k : Nat) : Option Nat := match gF h r ci k with
  | some (.ref x) => some x
  | _ => none
def pF (h : Hp) (r ci k : Nat) (v : Value) : Option Hp := match h[r]? with
  | some (.inr (c, fs)) => if c = ci ∧ k < fs.length then some (h.set r (.inr (c, fs.set k v))) else none
  | _ => none
def pI (h : Hp) (r ci k : Nat) (x : Int32) : Option Hp := pF h r ci k (.int x)
def pZ (h : Hp) (r ci k : Nat) (x : Int32) : Option Hp := if x = 0 ∨ x = 1 then pF h r ci k (.int x) else none
def aL (h : Hp) (r : Nat) (i : Int32) : Option Int32 := match h[r]? with
  | some (.inl (0, (n, .inl f))) => if i < 0 ∨ n ≤ i.toNatClampNeg then none else some (f i.toNatClampNeg)
  | _ => none
def aS (h : Hp) (r : Nat) (i x : Int32) : Option Hp := match h[r]? with
  | some (.inl (0, (n, .inl f))) => if i < 0 ∨ n ≤ i.toNatClampNeg then none else some (h.set r (.inl (0, (n, .inl (upd f i.toNatClampNeg x)))))
  | _ => none
def lL (h : Hp) (r : Nat) (i : Int32) : Option Int64 := match h[r]? with
  | some (.inl (1, (n, .inr (.inl f)))) => if i < 0 ∨ n ≤ i.toNatClampNeg then none else some (f i.toNatClampNeg)
  | _ => none
def lS (h : Hp) (r : Nat) (i : Int32) (x : Int64) : Option Hp := match h[r]? with
  | some (.inl (1, (n, .inr (.inl f)))) => if i < 0 ∨ n ≤ i.toNatClampNeg then none else some (h.set r (.inl (1, (n, .inr (.inl (vp_updL f i.toNatClampNeg x))))))
  | _ => none
def qL (h : Hp) (r : Nat) (i : Int32) : Option Nat := match h[r]? with
  | some (.inl (2, (n, .inr (.inr (.inr (.inr f)))))) => if i < 0 ∨ n ≤ i.toNatClampNeg then none else f i.toNatClampNeg
  | _ => none
def qS (h : Hp) (r : Nat) (i : Int32) (x : Nat) : Option Hp := match h[r]? with
  | some (.inl (2, (n, .inr (.inr (.inr (.inr f)))))) => if i < 0 ∨ n ≤ i.toNatClampNeg then none else match ck h x 2 with
    | some _ => some (h.set r (.inl (2, (n, .inr (.inr (.inr (.inr (va_up f i.toNatClampNeg (some x)))))))))
    | none => none
  | _ => none
def aN (h : Hp) (r : Nat) : Option Int32 := match h[r]? with
  | some (.inl (0, (n, .inl _))) => some (Int32.ofNat n)
  | _ => none
def aC (h : Hp) (r : Nat) (sp : Int32) (q : Nat) (dp z : Int32) : Option Hp := match h[r]?, h[q]? with
  | some (.inl (0, (n0, .inl f))), some (.inl (0, (n1, .inl g))) => if sp < 0 ∨ dp < 0 ∨ z < 0 ∨ n0 < sp.toNatClampNeg + z.toNatClampNeg ∨ n1 < dp.toNatClampNeg + z.toNatClampNeg then none else some (h.set q (.inl (0, (n1, .inl (va_cpy f g sp.toNatClampNeg dp.toNatClampNeg z.toNatClampNeg)))))
  | _, _ => none
def sT (q : Nat) (i : Int32) : Option Int32 := match statT[q]? with
  | some (_, xs) => if i < 0 ∨ 3 ≤ i.toNatClampNeg then none else some (xs.getD i.toNatClampNeg 0)
  | none => none
/-- a truth value -/
def bz (x : Int32) : Option Unit := if x = 0 ∨ x = 1 then some () else none
theorem gF_some {h : Hp} {r ci k : Nat} {v : Value} (hx : gF h r ci k = some v) : ∃ fs, h[r]? = some (.inr (ci, fs)) ∧ fs[k]? = some v := by
  unfold gF at hx
  split at hx
  · rename_i c fs he
    split at hx
    · rename_i hc
      subst hc
      exact ⟨fs, he, hx⟩
    · cases hx
  · cases hx
theorem gI_some {h : Hp} {r ci k : Nat} {x : Int32} (hx : gI h r ci k = some x) : gF h r ci k = some (.int x) := by
  unfold gI at hx
  split at hx
  · rename_i y he
    cases hx
    exact he
  · cases hx
theorem gR_some {h : Hp} {r ci k : Nat} {x : Nat} (hx : gR h r ci k = some x) : gF h r ci k = some (.ref x) := by
  unfold gR at hx
  split at hx
  · rename_i y he
    cases hx
    exact he
  · cases hx
theorem ck_some {h : Hp} {r ci : Nat} {u : Unit} (hx : ck h r ci = some u) : ∃ fs, h[r]? = some (.inr (ci, fs)) := by
  unfold ck at hx
  split at hx
  · rename_i c fs he
    split at hx
    · rename_i hc
      subst hc
      exact ⟨fs, he⟩
    · cases hx
  · cases hx
theorem pF_some {h h' : Hp} {r ci k : Nat} {v : Value} (hx : pF h r ci k v = some h') : ∃ fs, h[r]? = some (.inr (ci, fs)) ∧ k < fs.length ∧ h' = h.set r (.inr (ci, fs.set k v)) := by
  unfold pF at hx
  split at hx
  · rename_i c fs he
    split at hx
    · rename_i hc
      obtain ⟨rfl, hk⟩ := hc
      cases hx
      exact ⟨fs, he, hk, rfl⟩
    · cases hx
  · cases hx
theorem aL_some {h : Hp} {r : Nat} {i x : Int32} (hx : aL h r i = some x) : ∃ n f, h[r]? = some (.inl (0, (n, .inl f))) ∧ vp_in i n ∧ f i.toNatClampNeg = x := by
  unfold aL at hx
  split at hx
  · rename_i n f he
    split at hx
    · cases hx
    · rename_i hc
      cases hx
      exact ⟨n, f, he, hc, rfl⟩
  · cases hx
theorem aS_some {h h' : Hp} {r : Nat} {i x : Int32} (hx : aS h r i x = some h') : ∃ n f, h[r]? = some (.inl (0, (n, .inl f))) ∧ vp_in i n ∧ h' = h.set r (.inl (0, (n, .inl (upd f i.toNatClampNeg x)))) := by
  unfold aS at hx
  split at hx
  · rename_i n f he
    split at hx
    · cases hx
    · rename_i hc
      cases hx
      exact ⟨n, f, he, hc, rfl⟩
  · cases hx
theorem lL_some {h : Hp} {r : Nat} {i : Int32} {x : Int64} (hx : lL h r i = some x) : ∃ n f, h[r]? = some (.inl (1, (n, .inr (.inl f)))) ∧ vp_in i n ∧ f i.toNatClampNeg = x := by
  unfold lL at hx
  split at hx
  · rename_i n f he
    split at hx
    · cases hx
    · rename_i hc
      cases hx
      exact ⟨n, f, he, hc, rfl⟩
  · cases hx
theorem lS_some {h h' : Hp} {r : Nat} {i : Int32} {x : Int64} (hx : lS h r i x = some h') : ∃ n f, h[r]? = some (.inl (1, (n, .inr (.inl f)))) ∧ vp_in i n ∧ h' = h.set r (.inl (1, (n, .inr (.inl (vp_updL f i.toNatClampNeg x))))) := by
  unfold lS at hx
  split at hx
  · rename_i n f he
    split at hx
    · cases hx
    · rename_i hc
      cases hx
      exact ⟨n, f, he, hc, rfl⟩
  · cases hx
theorem qL_some {h : Hp} {r x : Nat} {i : Int32} (hx : qL h r i = some x) : ∃ n f, h[r]? = some (.inl (2, (n, .inr (.inr (.inr (.inr f)))))) ∧ vp_in i n ∧ f i.toNatClampNeg = some x := by
  unfold qL at hx
  split at hx
  · rename_i n f he
    split at hx
    · cases hx
    · rename_i hc
      exact ⟨n, f, he, hc, hx⟩
  · cases hx
theorem qS_some {h h' : Hp} {r x : Nat} {i : Int32} (hx : qS h r i x = some h') : ∃ n f vs, h[r]? = some (.inl (2, (n, .inr (.inr (.inr (.inr f)))))) ∧ h[x]? = some (.inr (2, vs)) ∧ vp_in i n ∧ h' = h.set r (.inl (2, (n, .inr (.inr (.inr (.inr (va_up f i.toNatClampNeg (some x)))))))) := by
  unfold qS at hx
  split at hx
  · rename_i n f he
    split at hx
    · cases hx
    · rename_i hc
      split at hx
      · rename_i u hu
        obtain ⟨vs, hv⟩ := ck_some hu
        cases hx
        exact ⟨n, f, vs, he, hv, hc, rfl⟩
      · cases hx
  · cases hx
theorem aN_some {h : Hp} {r : Nat} {x : Int32} (hx : aN h r = some x) : ∃ n f, h[r]? = some (.inl (0, (n, .inl f))) ∧ Int32.ofNat n = x := by
  unfold aN at hx
  split at hx
  · rename_i n f he
    cases hx
    exact ⟨n, f, he, rfl⟩
  · cases hx
theorem aC_some {h h' : Hp} {r q : Nat} {sp dp z : Int32} (hx : aC h r sp q dp z = some h') : ∃ n0 n1 f g, h[r]? = some (.inl (0, (n0, .inl f))) ∧ h[q]? = some (.inl (0, (n1, .inl g))) ∧ ¬ sp < 0 ∧ ¬ dp < 0 ∧ ¬ z < 0 ∧ sp.toNatClampNeg + z.toNatClampNeg ≤ n0 ∧ dp.toNatClampNeg + z.toNatClampNeg ≤ n1 ∧ h' = h.set q (.inl (0, (n1, .inl (va_cpy f g sp.toNatClampNeg dp.toNatClampNeg z.toNatClampNeg)))) := by
  unfold aC at hx
  split at hx
  · rename_i n0 f n1 g he hg
    split at hx
    · cases hx
    · rename_i hc
      cases hx
      simp only [not_or] at hc
      exact ⟨n0, n1, f, g, he, hg, hc.1, hc.2.1, hc.2.2.1, Nat.not_lt.mp hc.2.2.2.1, Nat.not_lt.mp hc.2.2.2.2, rfl⟩
  · cases hx
theorem sT_some {q : Nat} {nm : String} {xs : List Int32} {i x : Int32} (hq : statT[q]? = some (nm, xs)) (hx : sT q i = some x) : vp_in i 3 ∧ Value.int (xs.getD i.toNatClampNeg 0) = .int x := by
  unfold sT at hx
  rw [hq] at hx
  dsimp only at hx
  split at hx
  · cases hx
  · rename_i hc
    cases hx
    exact ⟨hc, rfl⟩
theorem bz_some {x : Int32} {u : Unit} (hx : bz x = some u) : x = 0 ∨ x = 1 := by
  unfold bz at hx
  split at hx
  · assumption
  · cases hx
/-- what a field's place asks of the tables -/
def GFok (own : String) (i ci fk : Nat) : Prop := ∃ (C : String) (T : u_T) (N : Nat), vwCl[ci]? = some (C, T, N) ∧ fk < N ∧ (∀ w ∈ u_ws C T N, w ∈ lw_good) ∧ Cond.fieldLink own i C (T fk).2.1 (T fk).2.2.1 ∈ lw_good ∧ (T fk).1 = C ∧ ∃ ty0 : Nat → FieldType, (∀ k, k < N → parseFieldDescriptor (T k).2.2.1 = some (ty0 k)) ∧ ∀ a, a < N → ∀ b, b < N → a ≠ b → (T a).2.1 ≠ (T b).2.1
def PFok (own : String) (i ci fk : Nat) (ty : FieldType) : Prop := GFok own i ci fk ∧ ∀ (C : String) (T : u_T) (N : Nat), vwCl[ci]? = some (C, T, N) → (T fk).2.2.2 = false ∧ parseFieldDescriptor (T fk).2.2.1 = some ty
def PNok (own : String) (i ci fk : Nat) (ty : FieldType) : Prop := GFok own i ci fk ∧ ∀ (C : String) (T : u_T) (N : Nat), vwCl[ci]? = some (C, T, N) → (T fk).2.2.2 = true ∧ parseFieldDescriptor (T fk).2.2.1 = some ty ∧ (T fk).1 = own
end
section
section AWR
variable {X : Cx} {cc : ByteArray} {nL : Nat} {own : String} {R : Room} {Qm : State → Prop} {k n : Nat} {adr : Nat → Nat} {h : Hp} {pc : Nat} {L : List (Nat × Value)} {st : List Value}

theorem aw_iadd {x y : Int32} (hd : decode cc pc = .ok (.iadd, 1)) (K : AW X cc nL own R Qm k n adr h (pc + 1) L (.int (x + y) :: st)) : AW X cc nL own R Qm k n adr h pc L (.int y :: .int x :: st) := by
  obtain ⟨p, l, e, s, m, args, below, meth, c, G⟩ := X
  intro F hk ls H locs hl hR hS
  exact lv_iadd F.1 F.2.1 hd (K F hk ls H locs hl hR hS)

theorem aw_isub {x y : Int32} (hd : decode cc pc = .ok (.isub, 1)) (K : AW X cc nL own R Qm k n adr h (pc + 1) L (.int (x - y) :: st)) : AW X cc nL own R Qm k n adr h pc L (.int y :: .int x :: st) := by
  obtain ⟨p, l, e, s, m, args, below, meth, c, G⟩ := X
  intro F hk ls H locs hl hR hS
  exact lv_isub F.1 F.2.1 hd (K F hk ls H locs hl hR hS)

theorem aw_imul {x y : Int32} (hd : decode cc pc = .ok (.imul, 1)) (K : AW X cc nL own R Qm k n adr h (pc + 1) L (.int (x * y) :: st)) : AW X cc nL own R Qm k n adr h pc L (.int y :: .int x :: st) := by
  obtain ⟨p, l, e, s, m, args, below, meth, c, G⟩ := X
  intro F hk ls H locs hl hR hS
  exact lv_imul F.1 F.2.1 hd (K F hk ls H locs hl hR hS)

theorem aw_iand {x y : Int32} (hd : decode cc pc = .ok (.iand, 1)) (K : AW X cc nL own R Qm k n adr h (pc + 1) L (.int (x &&& y) :: st)) : AW X cc nL own R Qm k n adr h pc L (.int y :: .int x :: st) := by
  obtain ⟨p, l, e, s, m, args, below, meth, c, G⟩ := X
  intro F hk ls H locs hl hR hS
  exact lv_iand F.1 F.2.1 hd (K F hk ls H locs hl hR hS)

theorem aw_ior {x y : Int32} (hd : decode cc pc = .ok (.ior, 1)) (K : AW X cc nL own R Qm k n adr h (pc + 1) L (.int (x ||| y) :: st)) : AW X cc nL own R Qm k n adr h pc L (.int y :: .int x :: st) := by
  obtain ⟨p, l, e, s, m, args, below, meth, c, G⟩ := X
  intro F hk ls H locs hl hR hS
  exact lv_ior F.1 F.2.1 hd (K F hk ls H locs hl hR hS)

theorem aw_ixor {x y : Int32} (hd : decode cc pc = .ok (.ixor, 1)) (K : AW X cc nL own R Qm k n adr h (pc + 1) L (.int (x ^^^ y) :: st)) : AW X cc nL own R Qm k n adr h pc L (.int y :: .int x :: st) := by
  obtain ⟨p, l, e, s, m, args, below, meth, c, G⟩ := X
  intro F hk ls H locs hl hR hS
  exact lv_ixor F.1 F.2.1 hd (K F hk ls H locs hl hR hS)

theorem aw_ishl {x y : Int32} (hd : decode cc pc = .ok (.ishl, 1)) (K : AW X cc nL own R Qm k n adr h (pc + 1) L (.int (x <<< (y &&& 31)) :: st)) : AW X cc nL own R Qm k n adr h pc L (.int y :: .int x :: st) := by
  obtain ⟨p, l, e, s, m, args, below, meth, c, G⟩ := X
  intro F hk ls H locs hl hR hS
  exact lv_ishl F.1 F.2.1 hd (K F hk ls H locs hl hR hS)

theorem aw_ishr {x y : Int32} (hd : decode cc pc = .ok (.ishr, 1)) (K : AW X cc nL own R Qm k n adr h (pc + 1) L (.int (x >>> (y &&& 31)) :: st)) : AW X cc nL own R Qm k n adr h pc L (.int y :: .int x :: st) := by
  obtain ⟨p, l, e, s, m, args, below, meth, c, G⟩ := X
  intro F hk ls H locs hl hR hS
  exact lv_ishr F.1 F.2.1 hd (K F hk ls H locs hl hR hS)

theorem aw_iushr {x y : Int32} (hd : decode cc pc = .ok (.iushr, 1)) (K : AW X cc nL own R Qm k n adr h (pc + 1) L (.int (ushr x y) :: st)) : AW X cc nL own R Qm k n adr h pc L (.int y :: .int x :: st) := by
  obtain ⟨p, l, e, s, m, args, below, meth, c, G⟩ := X
  intro F hk ls H locs hl hR hS
  exact lv_iushr F.1 F.2.1 hd rfl (K F hk ls H locs hl hR hS)

theorem aw_idiv {x y : Int32} (hd : decode cc pc = .ok (.idiv, 1)) (hne : ¬ y = 0) (K : AW X cc nL own R Qm k n adr h (pc + 1) L (.int (x / y) :: st)) : AW X cc nL own R Qm k n adr h pc L (.int y :: .int x :: st) := by
  obtain ⟨p, l, e, s, m, args, below, meth, c, G⟩ := X
  intro F hk ls H locs hl hR hS
  exact lv_idiv F.1 F.2.1 hd hne (K F hk ls H locs hl hR hS)

theorem aw_irem {x y : Int32} (hd : decode cc pc = .ok (.irem, 1)) (hne : ¬ y = 0) (K : AW X cc nL own R Qm k n adr h (pc + 1) L (.int (x - x / y * y) :: st)) : AW X cc nL own R Qm k n adr h pc L (.int y :: .int x :: st) := by
  obtain ⟨p, l, e, s, m, args, below, meth, c, G⟩ := X
  intro F hk ls H locs hl hR hS
  exact lv_irem F.1 F.2.1 hd hne (K F hk ls H locs hl hR hS)

theorem aw_ineg {x : Int32} (hd : decode cc pc = .ok (.ineg, 1)) (K : AW X cc nL own R Qm k n adr h (pc + 1) L (.int (-x) :: st)) : AW X cc nL own R Qm k n adr h pc L (.int x :: st) := by
  obtain ⟨p, l, e, s, m, args, below, meth, c, G⟩ := X
  intro F hk ls H locs hl hR hS
  exact lv_ineg F.1 F.2.1 hd (K F hk ls H locs hl hR hS)

theorem aw_i2l {x : Int32} (hd : decode cc pc = .ok (.i2l, 1)) (K : AW X cc nL own R Qm k n adr h (pc + 1) L (.long x.toInt64 :: st)) : AW X cc nL own R Qm k n adr h pc L (.int x :: st) := by
  obtain ⟨p, l, e, s, m, args, below, meth, c, G⟩ := X
  intro F hk ls H locs hl hR hS
  exact lv_i2l F.1 F.2.1 hd rfl (K F hk ls H locs hl hR hS)

theorem aw_i2b {x : Int32} (hd : decode cc pc = .ok (.i2b, 1)) (K : AW X cc nL own R Qm k n adr h (pc + 1) L (.int x.toInt8.toInt32 :: st)) : AW X cc nL own R Qm k n adr h pc L (.int x :: st) := by
  obtain ⟨p, l, e, s, m, args, below, meth, c, G⟩ := X
  intro F hk ls H locs hl hR hS
  exact lv_i2b F.1 F.2.1 hd rfl (K F hk ls H locs hl hR hS)

theorem aw_lcmp {x y : Int64} (hd : decode cc pc = .ok (.lcmp, 1)) (K : AW X cc nL own R Qm k n adr h (pc + 1) L (.int (lg_cmp x y) :: st)) : AW X cc nL own R Qm k n adr h pc L (.long y :: .long x :: st) := by
  obtain ⟨p, l, e, s, m, args, below, meth, c, G⟩ := X
  intro F hk ls H locs hl hR hS
  exact W.lcmp F.1 F.2.1 hd (K F hk ls H locs hl hR hS)

theorem aw_lor {x y : Int64} (hd : decode cc pc = .ok (.lor, 1)) (K : AW X cc nL own R Qm k n adr h (pc + 1) L (.long (x ||| y) :: st)) : AW X cc nL own R Qm k n adr h pc L (.long y :: .long x :: st) := by
  obtain ⟨p, l, e, s, m, args, below, meth, c, G⟩ := X
  intro F hk ls H locs hl hR hS
  exact lv_lor F.1 F.2.1 hd (K F hk ls H locs hl hR hS)

theorem aw_lshl {x : Int64} {y : Int32} (hd : decode cc pc = .ok (.lshl, 1)) (K : AW X cc nL own R Qm k n adr h (pc + 1) L (.long (x <<< (y.toInt64 &&& 63)) :: st)) : AW X cc nL own R Qm k n adr h pc L (.int y :: .long x :: st) := by
  obtain ⟨p, l, e, s, m, args, below, meth, c, G⟩ := X
  intro F hk ls H locs hl hR hS
  exact lv_lshl F.1 F.2.1 hd rfl (K F hk ls H locs hl hR hS)

theorem aw_iconst {z : Int} {v : Int32} (hd : decode cc pc = .ok (.iconst z, 1)) (hv : Int32.ofInt z = v) (K : AW X cc nL own R Qm k n adr h (pc + 1) L (.int v :: st)) : AW X cc nL own R Qm k n adr h pc L st := by
  obtain ⟨p, l, e, s, m, args, below, meth, c, G⟩ := X
  intro F hk ls H locs hl hR hS
  exact lv_iconst F.1 F.2.1 hd hv (K F hk ls H locs hl hR hS)

theorem aw_bipush {z : Int} {v : Int32} (hd : decode cc pc = .ok (.bipush z, 2)) (hv : (Int8.ofInt z).toInt32 = v) (K : AW X cc nL own R Qm k n adr h (pc + 2) L (.int v :: st)) : AW X cc nL own R Qm k n adr h pc L st := by
  obtain ⟨p, l, e, s, m, args, below, meth, c, G⟩ := X
  intro F hk ls H locs hl hR hS
  exact lv_bipush F.1 F.2.1 hd hv (K F hk ls H locs hl hR hS)

theorem aw_sipush {z : Int} {v : Int32} (hd : decode cc pc = .ok (.sipush z, 3)) (hv : (Int16.ofInt z).toInt32 = v) (K : AW X cc nL own R Qm k n adr h (pc + 3) L (.int v :: st)) : AW X cc nL own R Qm k n adr h pc L st := by
  obtain ⟨p, l, e, s, m, args, below, meth, c, G⟩ := X
  intro F hk ls H locs hl hR hS
  exact lv_sipush F.1 F.2.1 hd hv (K F hk ls H locs hl hR hS)

theorem aw_lconst {z : Fin 2} {v : Int64} (hd : decode cc pc = .ok (.lconst z, 1)) (hv : Int64.ofNat (z : Nat) = v) (K : AW X cc nL own R Qm k n adr h (pc + 1) L (.long v :: st)) : AW X cc nL own R Qm k n adr h pc L st := by
  obtain ⟨p, l, e, s, m, args, below, meth, c, G⟩ := X
  intro F hk ls H locs hl hR hS
  exact lv_lconst F.1 F.2.1 hd hv (K F hk ls H locs hl hR hS)

theorem aw_null (hd : decode cc pc = .ok (.aconst_null, 1)) (K : AW X cc nL own R Qm k n adr h (pc + 1) L (.null :: st)) : AW X cc nL own R Qm k n adr h pc L st := by
  obtain ⟨p, l, e, s, m, args, below, meth, c, G⟩ := X
  intro F hk ls H locs hl hR hS
  exact lv_null F.1 F.2.1 hd (K F hk ls H locs hl hR hS)

theorem aw_goto {off : Int} {tgt : Nat} (hd : decode cc pc = .ok (.goto off, 3)) (ht : (pc : Int) + off = (tgt : Int)) (K : AW X cc nL own R Qm k n adr h tgt L st) : AW X cc nL own R Qm k n adr h pc L st := by
  obtain ⟨p, l, e, s, m, args, below, meth, c, G⟩ := X
  intro F hk ls H locs hl hR hS
  exact lv_goto F.1 F.2.1 hd ht (K F hk ls H locs hl hR hS)

theorem aw_ifnonnull {off : Int} {tgt x : Nat} (hd : decode cc pc = .ok (.ifnonnull off, 3)) (ht : (pc : Int) + off = (tgt : Int)) (K : AW X cc nL own R Qm k n adr h tgt L st) : AW X cc nL own R Qm k n adr h pc L (.ref x :: st) := by
  obtain ⟨p, l, e, s, m, args, below, meth, c, G⟩ := X
  intro F hk ls H locs hl hR hS
  exact lv_ifnonnull F.1 F.2.1 hd ht (K F hk ls H locs hl hR hS)

theorem aw_ifnonnullN {off : Int} (hd : decode cc pc = .ok (.ifnonnull off, 3)) (K : AW X cc nL own R Qm k n adr h (pc + 3) L st) : AW X cc nL own R Qm k n adr h pc L (.null :: st) := by
  obtain ⟨p, l, e, s, m, args, below, meth, c, G⟩ := X
  intro F hk ls H locs hl hR hS
  exact lv_ifnonnullN F.1 F.2.1 hd (K F hk ls H locs hl hR hS)

theorem aw_ldc {i : Nat} {v : Int32} (hd : decode cc pc = .ok (.ldc i, 2)) (hw : Cond.constant own i v ∈ lw_good) (K : AW X cc nL own R Qm k n adr h (pc + 2) L (.int v :: st)) : AW X cc nL own R Qm k n adr h pc L st := by
  obtain ⟨p, l, e, s, m, args, below, meth, c, G⟩ := X
  intro F hk ls H locs hl hR hS
  exact lv_ldc F.1 F.2.1 F.2.2.2.1 (F.2.2.2.2.1 _ hw) hd (K F hk ls H locs hl hR hS)

theorem aw_ldcw {i : Nat} {v : Int32} (hd : decode cc pc = .ok (.ldc_w i, 3)) (hw : Cond.constant own i v ∈ lw_good) (K : AW X cc nL own R Qm k n adr h (pc + 3) L (.int v :: st)) : AW X cc nL own R Qm k n adr h pc L st := by
  obtain ⟨p, l, e, s, m, args, below, meth, c, G⟩ := X
  intro F hk ls H locs hl hR hS
  exact lv_ldcw F.1 F.2.1 F.2.2.2.1 (F.2.2.2.2.1 _ hw) hd (K F hk ls H locs hl hR hS)

theorem aw_ldc2 {i : Nat} {v : Int64} (hd : decode cc pc = .ok (.ldc2_w i, 3)) (hw : Cond.constantLong own i v ∈ lw_good) (K : AW X cc nL own R Qm k n adr h (pc + 3) L (.long v :: st)) : AW X cc nL own R Qm k n adr h pc L st := by
  obtain ⟨p, l, e, s, m, args, below, meth, c, G⟩ := X
  intro F hk ls H locs hl hR hS
  exact lv_ldc2 F.1 F.2.1 F.2.2.2.1 (F.2.2.2.2.1 _ hw) hd (K F hk ls H locs hl hR hS)

theorem aw_dup {v : Value} (hd : decode cc pc = .ok (.dup, 1)) (hv : v.category = 1) (K : AW X cc nL own R Qm k n adr h (pc + 1) L (v :: v :: st)) : AW X cc nL own R Qm k n adr h pc L (v :: st) := by
  obtain ⟨p, l, e, s, m, args, below, meth, c, G⟩ := X
  intro F hk ls H locs hl hR hS
  exact lv_dup F.1 F.2.1 hd (by rw [tv_cat]; exact hv) (K F hk ls H locs hl hR hS)

theorem aw_pop {v : Value} (hd : decode cc pc = .ok (.pop, 1)) (hv : v.category = 1) (K : AW X cc nL own R Qm k n adr h (pc + 1) L st) : AW X cc nL own R Qm k n adr h pc L (v :: st) := by
  obtain ⟨p, l, e, s, m, args, below, meth, c, G⟩ := X
  intro F hk ls H locs hl hR hS
  exact lv_pop F.1 F.2.1 hd (by rw [tv_cat]; exact hv) (K F hk ls H locs hl hR hS)

theorem aw_dup2 {v w : Value} (hd : decode cc pc = .ok (.dup2, 1)) (hv : v.category = 1) (hw : w.category = 1) (K : AW X cc nL own R Qm k n adr h (pc + 1) L (v :: w :: v :: w :: st)) : AW X cc nL own R Qm k n adr h pc L (v :: w :: st) := by
  obtain ⟨p, l, e, s, m, args, below, meth, c, G⟩ := X
  intro F hk ls H locs hl hR hS
  exact lv_dup2_11 F.1 F.2.1 hd (by rw [tv_cat]; exact hv) (by rw [tv_cat]; exact hw) (K F hk ls H locs hl hR hS)

theorem aw_iload_n {z : Fin 4} {i : Nat} {x : Int32} (j : Nat) (hd : decode cc pc = .ok (.iload_n z, 1)) (hi : (z : Nat) = i) (hj : L[j]? = some (i, .int x)) (K : AW X cc nL own R Qm k n adr h (pc + 1) L (.int x :: st)) : AW X cc nL own R Qm k n adr h pc L st := by
  obtain ⟨p, l, e, s, m, args, below, meth, c, G⟩ := X
  intro F hk ls H locs hl hR hS
  exact lv_iload_n F.1 F.2.1 hd hi (lv_at hl j (tL_at hj)) (K F hk ls H locs hl hR hS)

theorem aw_iload {i : Nat} {x : Int32} (j : Nat) (hd : decode cc pc = .ok (.iload i, 2)) (hj : L[j]? = some (i, .int x)) (K : AW X cc nL own R Qm k n adr h (pc + 2) L (.int x :: st)) : AW X cc nL own R Qm k n adr h pc L st := by
  obtain ⟨p, l, e, s, m, args, below, meth, c, G⟩ := X
  intro F hk ls H locs hl hR hS
  exact lv_iload F.1 F.2.1 hd (lv_at hl j (tL_at hj)) (K F hk ls H locs hl hR hS)

theorem aw_lload_n {z : Fin 4} {i : Nat} {x : Int64} (j : Nat) (hd : decode cc pc = .ok (.lload_n z, 1)) (hi : (z : Nat) = i) (hj : L[j]? = some (i, .long x)) (K : AW X cc nL own R Qm k n adr h (pc + 1) L (.long x :: st)) : AW X cc nL own R Qm k n adr h pc L st := by
  obtain ⟨p, l, e, s, m, args, below, meth, c, G⟩ := X
  intro F hk ls H locs hl hR hS
  exact lv_lload_n F.1 F.2.1 hd hi (lv_at hl j (tL_at hj)) (K F hk ls H locs hl hR hS)

theorem aw_lload {i : Nat} {x : Int64} (j : Nat) (hd : decode cc pc = .ok (.lload i, 2)) (hj : L[j]? = some (i, .long x)) (K : AW X cc nL own R Qm k n adr h (pc + 2) L (.long x :: st)) : AW X cc nL own R Qm k n adr h pc L st := by
  obtain ⟨p, l, e, s, m, args, below, meth, c, G⟩ := X
  intro F hk ls H locs hl hR hS
  exact lv_lload F.1 F.2.1 hd (lv_at hl j (tL_at hj)) (K F hk ls H locs hl hR hS)

theorem aw_aload_n {z : Fin 4} {i : Nat} {x : Nat} (j : Nat) (hd : decode cc pc = .ok (.aload_n z, 1)) (hi : (z : Nat) = i) (hj : L[j]? = some (i, .ref x)) (K : AW X cc nL own R Qm k n adr h (pc + 1) L (.ref x :: st)) : AW X cc nL own R Qm k n adr h pc L st := by
  obtain ⟨p, l, e, s, m, args, below, meth, c, G⟩ := X
  intro F hk ls H locs hl hR hS
  exact lv_aload_n F.1 F.2.1 hd hi (lv_at hl j (tL_at hj)) (K F hk ls H locs hl hR hS)

theorem aw_aload {i : Nat} {x : Nat} (j : Nat) (hd : decode cc pc = .ok (.aload i, 2)) (hj : L[j]? = some (i, .ref x)) (K : AW X cc nL own R Qm k n adr h (pc + 2) L (.ref x :: st)) : AW X cc nL own R Qm k n adr h pc L st := by
  obtain ⟨p, l, e, s, m, args, below, meth, c, G⟩ := X
  intro F hk ls H locs hl hR hS
  exact lv_aload F.1 F.2.1 hd (lv_at hl j (tL_at hj)) (K F hk ls H locs hl hR hS)

theorem aw_aload_nN {z : Fin 4} {i : Nat} (j : Nat) (hd : decode cc pc = .ok (.aload_n z, 1)) (hi : (z : Nat) = i) (hj : L[j]? = some (i, .null)) (K : AW X cc nL own R Qm k n adr h (pc + 1) L (.null :: st)) : AW X cc nL own R Qm k n adr h pc L st := by
  obtain ⟨p, l, e, s, m, args, below, meth, c, G⟩ := X
  intro F hk ls H locs hl hR hS
  exact lv_aload_nN F.1 F.2.1 hd hi (lv_at hl j (tL_at hj)) (K F hk ls H locs hl hR hS)

theorem aw_istore_n {i : Nat} {z : Fin 4} {x : Int32} {L' : List (Nat × Value)} (hd : decode cc pc = .ok (.istore_n z, 1)) (hi : (z : Nat) = i) (hn : i < nL) (hs : (i, Value.int x) :: L.filter (fun q => !(q.1 == i) && !(q.1 + 1 == i && q.2.category == 2)) = L') (K : AW X cc nL own R Qm k n adr h (pc + 1) L' st) : AW X cc nL own R Qm k n adr h pc L (.int x :: st) := by
  obtain ⟨p, l, e, s, m, args, below, meth, c, G⟩ := X
  intro F hk ls H locs hl hR hS
  exact lv_istore_n F.1 F.2.1 hd hi hl hn (tL_st1 hs) (fun ls' hl' => K F hk ls' H locs hl' hR hS)

theorem aw_istore {i : Nat} {x : Int32} {L' : List (Nat × Value)} (hd : decode cc pc = .ok (.istore i, 2)) (hn : i < nL) (hs : (i, Value.int x) :: L.filter (fun q => !(q.1 == i) && !(q.1 + 1 == i && q.2.category == 2)) = L') (K : AW X cc nL own R Qm k n adr h (pc + 2) L' st) : AW X cc nL own R Qm k n adr h pc L (.int x :: st) := by
  obtain ⟨p, l, e, s, m, args, below, meth, c, G⟩ := X
  intro F hk ls H locs hl hR hS
  exact lv_istore F.1 F.2.1 hd hl hn (tL_st1 hs) (fun ls' hl' => K F hk ls' H locs hl' hR hS)

theorem aw_astore_n {i : Nat} {z : Fin 4} {x : Nat} {L' : List (Nat × Value)} (hd : decode cc pc = .ok (.astore_n z, 1)) (hi : (z : Nat) = i) (hn : i < nL) (hs : (i, Value.ref x) :: L.filter (fun q => !(q.1 == i) && !(q.1 + 1 == i && q.2.category == 2)) = L') (K : AW X cc nL own R Qm k n adr h (pc + 1) L' st) : AW X cc nL own R Qm k n adr h pc L (.ref x :: st) := by
  obtain ⟨p, l, e, s, m, args, below, meth, c, G⟩ := X
  intro F hk ls H locs hl hR hS
  exact lv_astore_n F.1 F.2.1 hd hi hl hn (tL_st1 hs) (fun ls' hl' => K F hk ls' H locs hl' hR hS)

theorem aw_astore {i : Nat} {x : Nat} {L' : List (Nat × Value)} (hd : decode cc pc = .ok (.astore i, 2)) (hn : i < nL) (hs : (i, Value.ref x) :: L.filter (fun q => !(q.1 == i) && !(q.1 + 1 == i && q.2.category == 2)) = L') (K : AW X cc nL own R Qm k n adr h (pc + 2) L' st) : AW X cc nL own R Qm k n adr h pc L (.ref x :: st) := by
  obtain ⟨p, l, e, s, m, args, below, meth, c, G⟩ := X
  intro F hk ls H locs hl hR hS
  exact lv_astore F.1 F.2.1 hd hl hn (tL_st1 hs) (fun ls' hl' => K F hk ls' H locs hl' hR hS)

theorem aw_lstore_n {i : Nat} {z : Fin 4} {x : Int64} {L' : List (Nat × Value)} (hd : decode cc pc = .ok (.lstore_n z, 1)) (hi : (z : Nat) = i) (hn : i + 1 < nL) (hs : (i, Value.long x) :: L.filter (fun q => !(q.1 == i) && (!(q.1 == i + 1) && !(q.1 + 1 == i && q.2.category == 2))) = L') (K : AW X cc nL own R Qm k n adr h (pc + 1) L' st) : AW X cc nL own R Qm k n adr h pc L (.long x :: st) := by
  obtain ⟨p, l, e, s, m, args, below, meth, c, G⟩ := X
  intro F hk ls H locs hl hR hS
  exact lv_lstore_n F.1 F.2.1 hd hi hl hn (tL_st2 hs) (fun ls' hl' => K F hk ls' H locs hl' hR hS)

theorem aw_iinc {i : Nat} {z : Int} {x v : Int32} {L' : List (Nat × Value)} (j : Nat) (hd : decode cc pc = .ok (.iinc i z, 3)) (hj : L[j]? = some (i, .int x)) (hv : x + Int32.ofInt z = v) (hn : i < nL) (hs : (i, Value.int v) :: L.filter (fun q => !(q.1 == i) && !(q.1 + 1 == i && q.2.category == 2)) = L') (K : AW X cc nL own R Qm k n adr h (pc + 3) L' st) : AW X cc nL own R Qm k n adr h pc L st := by
  obtain ⟨p, l, e, s, m, args, below, meth, c, G⟩ := X
  intro F hk ls H locs hl hR hS
  exact lv_iinc F.1 F.2.1 hd hl (k := j) (tL_at hj) hv hn (tL_st1 hs) (fun ls' hl' => K F hk ls' H locs hl' hR hS)

theorem aw_if_eq {x : Int32} {off : Int} {tgt : Nat} (hd : decode cc pc = .ok (.ifCond .eq off, 3)) (ht : (pc : Int) + off = (tgt : Int)) (Kt : x = 0 → AW X cc nL own R Qm k n adr h tgt L st) (Kf : ¬ x = 0 → AW X cc nL own R Qm k n adr h (pc + 3) L st) : AW X cc nL own R Qm k n adr h pc L (.int x :: st) := by
  obtain ⟨p, l, e, s, m, args, below, meth, c, G⟩ := X
  intro F hk ls H locs hl hR hS
  exact lv_if_eq F.1 F.2.1 hd ht (fun q => Kt q F hk ls H locs hl hR hS) (fun q => Kf q F hk ls H locs hl hR hS)

theorem aw_if_ne {x : Int32} {off : Int} {tgt : Nat} (hd : decode cc pc = .ok (.ifCond .ne off, 3)) (ht : (pc : Int) + off = (tgt : Int)) (Kt : ¬ x = 0 → AW X cc nL own R Qm k n adr h tgt L st) (Kf : x = 0 → AW X cc nL own R Qm k n adr h (pc + 3) L st) : AW X cc nL own R Qm k n adr h pc L (.int x :: st) := by
  obtain ⟨p, l, e, s, m, args, below, meth, c, G⟩ := X
  intro F hk ls H locs hl hR hS
  exact lv_if_ne F.1 F.2.1 hd ht (fun q => Kt q F hk ls H locs hl hR hS) (fun q => Kf q F hk ls H locs hl hR hS)

theorem aw_if_lt {x : Int32} {off : Int} {tgt : Nat} (hd : decode cc pc = .ok (.ifCond .lt off, 3)) (ht : (pc : Int) + off = (tgt : Int)) (Kt : x < 0 → AW X cc nL own R Qm k n adr h tgt L st) (Kf : ¬ x < 0 → AW X cc nL own R Qm k n adr h (pc + 3) L st) : AW X cc nL own R Qm k n adr h pc L (.int x :: st) := by
  obtain ⟨p, l, e, s, m, args, below, meth, c, G⟩ := X
  intro F hk ls H locs hl hR hS
  exact lv_if_lt F.1 F.2.1 hd ht (fun q => Kt q F hk ls H locs hl hR hS) (fun q => Kf q F hk ls H locs hl hR hS)

theorem aw_if_ge {x : Int32} {off : Int} {tgt : Nat} (hd : decode cc pc = .ok (.ifCond .ge off, 3)) (ht : (pc : Int) + off = (tgt : Int)) (Kt : 0 ≤ x → AW X cc nL own R Qm k n adr h tgt L st) (Kf : ¬ 0 ≤ x → AW X cc nL own R Qm k n adr h (pc + 3) L st) : AW X cc nL own R Qm k n adr h pc L (.int x :: st) := by
  obtain ⟨p, l, e, s, m, args, below, meth, c, G⟩ := X
  intro F hk ls H locs hl hR hS
  exact lv_if_ge F.1 F.2.1 hd ht (fun q => Kt q F hk ls H locs hl hR hS) (fun q => Kf q F hk ls H locs hl hR hS)

theorem aw_if_gt {x : Int32} {off : Int} {tgt : Nat} (hd : decode cc pc = .ok (.ifCond .gt off, 3)) (ht : (pc : Int) + off = (tgt : Int)) (Kt : 0 < x → AW X cc nL own R Qm k n adr h tgt L st) (Kf : ¬ 0 < x → AW X cc nL own R Qm k n adr h (pc + 3) L st) : AW X cc nL own R Qm k n adr h pc L (.int x :: st) := by
  obtain ⟨p, l, e, s, m, args, below, meth, c, G⟩ := X
  intro F hk ls H locs hl hR hS
  exact lv_if_gt F.1 F.2.1 hd ht (fun q => Kt q F hk ls H locs hl hR hS) (fun q => Kf q F hk ls H locs hl hR hS)

theorem aw_if_le {x : Int32} {off : Int} {tgt : Nat} (hd : decode cc pc = .ok (.ifCond .le off, 3)) (ht : (pc : Int) + off = (tgt : Int)) (Kt : x ≤ 0 → AW X cc nL own R Qm k n adr h tgt L st) (Kf : ¬ x ≤ 0 → AW X cc nL own R Qm k n adr h (pc + 3) L st) : AW X cc nL own R Qm k n adr h pc L (.int x :: st) := by
  obtain ⟨p, l, e, s, m, args, below, meth, c, G⟩ := X
  intro F hk ls H locs hl hR hS
  exact lv_if_le F.1 F.2.1 hd ht (fun q => Kt q F hk ls H locs hl hR hS) (fun q => Kf q F hk ls H locs hl hR hS)

theorem aw_icmp_eq {x y : Int32} {off : Int} {tgt : Nat} (hd : decode cc pc = .ok (.if_icmp .eq off, 3)) (ht : (pc : Int) + off = (tgt : Int)) (Kt : x = y → AW X cc nL own R Qm k n adr h tgt L st) (Kf : ¬ x = y → AW X cc nL own R Qm k n adr h (pc + 3) L st) : AW X cc nL own R Qm k n adr h pc L (.int y :: .int x :: st) := by
  obtain ⟨p, l, e, s, m, args, below, meth, c, G⟩ := X
  intro F hk ls H locs hl hR hS
  exact lv_icmp_eq F.1 F.2.1 hd ht (fun q => Kt q F hk ls H locs hl hR hS) (fun q => Kf q F hk ls H locs hl hR hS)

theorem aw_icmp_ne {x y : Int32} {off : Int} {tgt : Nat} (hd : decode cc pc = .ok (.if_icmp .ne off, 3)) (ht : (pc : Int) + off = (tgt : Int)) (Kt : ¬ x = y → AW X cc nL own R Qm k n adr h tgt L st) (Kf : x = y → AW X cc nL own R Qm k n adr h (pc + 3) L st) : AW X cc nL own R Qm k n adr h pc L (.int y :: .int x :: st) := by
  obtain ⟨p, l, e, s, m, args, below, meth, c, G⟩ := X
  intro F hk ls H locs hl hR hS
  exact lv_icmp_ne F.1 F.2.1 hd ht (fun q => Kt q F hk ls H locs hl hR hS) (fun q => Kf q F hk ls H locs hl hR hS)

theorem aw_icmp_lt {x y : Int32} {off : Int} {tgt : Nat} (hd : decode cc pc = .ok (.if_icmp .lt off, 3)) (ht : (pc : Int) + off = (tgt : Int)) (Kt : x < y → AW X cc nL own R Qm k n adr h tgt L st) (Kf : ¬ x < y → AW X cc nL own R Qm k n adr h (pc + 3) L st) : AW X cc nL own R Qm k n adr h pc L (.int y :: .int x :: st) := by
  obtain ⟨p, l, e, s, m, args, below, meth, c, G⟩ := X
  intro F hk ls H locs hl hR hS
  exact lv_icmp_lt F.1 F.2.1 hd ht (fun q => Kt q F hk ls H locs hl hR hS) (fun q => Kf q F hk ls H locs hl hR hS)

theorem aw_icmp_ge {x y : Int32} {off : Int} {tgt : Nat} (hd : decode cc pc = .ok (.if_icmp .ge off, 3)) (ht : (pc : Int) + off = (tgt : Int)) (Kt : y ≤ x → AW X cc nL own R Qm k n adr h tgt L st) (Kf : ¬ y ≤ x → AW X cc nL own R Qm k n adr h (pc + 3) L st) : AW X cc nL own R Qm k n adr h pc L (.int y :: .int x :: st) := by
  obtain ⟨p, l, e, s, m, args, below, meth, c, G⟩ := X
  intro F hk ls H locs hl hR hS
  exact lv_icmp_ge F.1 F.2.1 hd ht (fun q => Kt q F hk ls H locs hl hR hS) (fun q => Kf q F hk ls H locs hl hR hS)

theorem aw_icmp_gt {x y : Int32} {off : Int} {tgt : Nat} (hd : decode cc pc = .ok (.if_icmp .gt off, 3)) (ht : (pc : Int) + off = (tgt : Int)) (Kt : y < x → AW X cc nL own R Qm k n adr h tgt L st) (Kf : ¬ y < x → AW X cc nL own R Qm k n adr h (pc + 3) L st) : AW X cc nL own R Qm k n adr h pc L (.int y :: .int x :: st) := by
  obtain ⟨p, l, e, s, m, args, below, meth, c, G⟩ := X
  intro F hk ls H locs hl hR hS
  exact lv_icmp_gt F.1 F.2.1 hd ht (fun q => Kt q F hk ls H locs hl hR hS) (fun q => Kf q F hk ls H locs hl hR hS)

theorem aw_icmp_le {x y : Int32} {off : Int} {tgt : Nat} (hd : decode cc pc = .ok (.if_icmp .le off, 3)) (ht : (pc : Int) + off = (tgt : Int)) (Kt : x ≤ y → AW X cc nL own R Qm k n adr h tgt L st) (Kf : ¬ x ≤ y → AW X cc nL own R Qm k n adr h (pc + 3) L st) : AW X cc nL own R Qm k n adr h pc L (.int y :: .int x :: st) := by
  obtain ⟨p, l, e, s, m, args, below, meth, c, G⟩ := X
  intro F hk ls H locs hl hR hS
  exact lv_icmp_le F.1 F.2.1 hd ht (fun q => Kt q F hk ls H locs hl hR hS) (fun q => Kf q F hk ls H locs hl hR hS)

theorem aw_tabOut {x : Int32} {dflt lo hi : Int} {offs : Array Int} {len tgt : Nat} (hd : decode cc pc = .ok (.tableswitch dflt lo hi offs, len)) (hx : x.toInt < lo ∨ hi < x.toInt) (ht : (pc : Int) + dflt = (tgt : Int)) (K : AW X cc nL own R Qm k n adr h tgt L st) : AW X cc nL own R Qm k n adr h pc L (.int x :: st) := by
  obtain ⟨p, l, e, s, m, args, below, meth, c, G⟩ := X
  intro F hk ls H locs hl hR hS
  exact lv_tableOut F.1 F.2.1 hd hx ht (K F hk ls H locs hl hR hS)

theorem aw_tabIn {x : Int32} {dflt lo hi off : Int} {offs : Array Int} {len tgt : Nat} (hd : decode cc pc = .ok (.tableswitch dflt lo hi offs, len)) (h1 : ¬ x.toInt < lo) (h2 : ¬ hi < x.toInt) (ho : offs[(x.toInt - lo).toNat]? = some off) (ht : (pc : Int) + off = (tgt : Int)) (K : AW X cc nL own R Qm k n adr h tgt L st) : AW X cc nL own R Qm k n adr h pc L (.int x :: st) := by
  obtain ⟨p, l, e, s, m, args, below, meth, c, G⟩ := X
  intro F hk ls H locs hl hR hS
  exact lv_tableIn F.1 F.2.1 hd h1 h2 ho ht (K F hk ls H locs hl hR hS)

theorem aw_sub {L' : List (Nat × Value)} (ks : List Nat) (hs : ks.map (fun i => L[i]?) = L'.map some) (K : AW X cc nL own R Qm k n adr h pc L' st) : AW X cc nL own R Qm k n adr h pc L st := by
  obtain ⟨p, l, e, s, m, args, below, meth, c, G⟩ := X
  intro F hk ls H locs hl hR hS
  exact K F hk ls H locs (tL_sub hl ks hs) hR hS

theorem aw_ldcS {i x : Nat} {tx : String} (hd : decode cc pc = .ok (.ldc i, 2)) (hw : (own, i, tx, x) ∈ strR) (K : AW X cc nL own R Qm k n adr h (pc + 2) L (.ref (1010 + x) :: st)) : AW X cc nL own R Qm k n adr h pc L st := by
  obtain ⟨p, l, e, s, m, args, below, meth, c, G⟩ := X
  intro F hk ls H locs hl hR hS
  exact va_ldcS F.1 F.2.1 F.2.2.2.1 (hk.2.2.2.2.2.1 _ hw) hd (K F hk ls H locs hl hR hS)

theorem aw_ldcSW {i x : Nat} {tx : String} (hd : decode cc pc = .ok (.ldc_w i, 3)) (hw : (own, i, tx, x) ∈ strR) (K : AW X cc nL own R Qm k n adr h (pc + 3) L (.ref (1010 + x) :: st)) : AW X cc nL own R Qm k n adr h pc L st := by
  obtain ⟨p, l, e, s, m, args, below, meth, c, G⟩ := X
  intro F hk ls H locs hl hR hS
  intro T hT Xs
  obtain ⟨t, a1, b1⟩ := K F hk ls H locs hl hR hS T hT Xs
  exact ⟨t, Xs.ldcStringW F.1 F.2.2.2.1 (text := tx) (a := adr (1010 + x)) (hk.2.2.2.2.2.1 _ hw).1 (hk.2.2.2.2.2.1 _ hw).2 (g := F0 m pc ls (st.map (tv adr))) rfl (by rw [F.2.1]; exact hd) t a1, b1⟩

theorem aw_gets {i q : Nat} {nm host : String} {xs : List Int32} (hd : decode cc pc = .ok (.getstatic i, 3)) (hw : (own, i, "StillInIt", nm, "[I", host) ∈ nestF) (hq : statT[q]? = some (nm, xs)) (K : AW X cc nL own R Qm k n adr h (pc + 3) L (.ref (1000 + q) :: st)) : AW X cc nL own R Qm k n adr h pc L st := by
  obtain ⟨p, l, e, s, m, args, below, meth, c, G⟩ := X
  intro F hk ls H locs hl hR hS
  exact va_getsN F.1 F.2.1 (hk.2.2.2.2.1 q _ hq).1 hS F.2.2.2.1 (va_Nw.use rfl (hk.2.2.2.1 _ hw)) (fun _ z => z) hd (K F hk ls H locs hl hR hS)

theorem aw_sald {q : Nat} {nm : String} {xs : List Int32} {i x : Int32} (hd : decode cc pc = .ok (.iaload, 1)) (hq : statT[q]? = some (nm, xs)) (hx : sT q i = some x) (K : AW X cc nL own R Qm k n adr h (pc + 1) L (.int x :: st)) : AW X cc nL own R Qm k n adr h pc L (.int i :: .ref (1000 + q) :: st) := by
  obtain ⟨p, l, e, s, m, args, below, meth, c, G⟩ := X
  intro F hk ls H locs hl hR hS
  obtain ⟨hi, hv⟩ := sT_some hq hx
  exact va_ti F.1 F.2.1 (hk.2.2.2.2.1 q _ hq).2 hS hi hv hd (K F hk ls H locs hl hR hS)

theorem aw_get {i r ci fk : Nat} {v : Value} (hd : decode cc pc = .ok (.getfield i, 3)) (hw : GFok own i ci fk) (hx : gF h r ci fk = some v) (K : AW X cc nL own R Qm k n adr h (pc + 3) L (v :: st)) : AW X cc nL own R Qm k n adr h pc L (.ref r :: st) := by
  obtain ⟨p, l, e, s, m, args, below, meth, c, G⟩ := X
  intro F hk ls H locs hl hR hS
  obtain ⟨C, T, N, hc, hN, hin, hlk, hT, -⟩ := hw
  obtain ⟨fs, he, hv⟩ := gF_some hx
  exact va_get (ci := ci) F.1 F.2.1 F.2.2.2.2.1 hin F.2.2.2.1 hk.2.1 hR.1 r (cW_at he) hc fk hN (F.2.2.2.2.1 _ hlk) (fun _ z => by rw [← hT]; exact z) (by simp [hv]) hd (K F hk ls H locs hl hR hS)

theorem aw_put {i r ci fk : Nat} {v : Value} {ty : FieldType} {h' : Hp} (hd : decode cc pc = .ok (.putfield i, 3)) (hw : PFok own i ci fk ty) (hn : ∀ a, narrow ty (tv a v) = tv a v ∧ fits ty (tv a v) = true) (hx : pF h r ci fk v = some h') (K : AW X cc nL own R Qm k n adr h' (pc + 3) L st) : AW X cc nL own R Qm k n adr h pc L (v :: .ref r :: st) := by
  obtain ⟨p, l, e, s, m, args, below, meth, c, G⟩ := X
  intro F hk ls H locs hl hR hS
  obtain ⟨⟨C, T, N, hc, hN, hin, hlk, hT, ty0, hty, hnm⟩, hp⟩ := hw
  obtain ⟨fs, he, hlt, rfl⟩ := pF_some hx
  obtain ⟨hfin, hd0⟩ := hp C T N hc
  refine va_put (ci := ci) (ty := ty) F.1 F.2.1 F.2.2.2.2.1 hin ty0 hty hnm F.2.2.2.1 hk.2.1 hR.1 hR.2 hS r (cW_at he) hc fk hN (F.2.2.2.2.1 _ hlk) (fun _ z => by rw [← hT]; exact z) hfin hd0 (hn adr).1 (hn adr).2 (by simpa using hlt) hd (fun H1 locs1 hP hD hS1 => K F hk ls H1 locs1 hl ?_ hS1)
  rw [show (List.map (tv adr) fs).set fk (tv adr v) = List.map (tv adr) (fs.set fk v) from List.map_set.symm] at hP hD
  exact ⟨by rw [← cW_set]; exact hP, by rw [← cW_set]; exact hD⟩

theorem aw_iald {r : Nat} {i x : Int32} (hd : decode cc pc = .ok (.iaload, 1)) (hx : aL h r i = some x) (K : AW X cc nL own R Qm k n adr h (pc + 1) L (.int x :: st)) : AW X cc nL own R Qm k n adr h pc L (.int i :: .ref r :: st) := by
  obtain ⟨p, l, e, s, m, args, below, meth, c, G⟩ := X
  intro F hk ls H locs hl hR hS
  obtain ⟨N, f, he, hi, rfl⟩ := aL_some hx
  exact va_iald F.1 F.2.1 hk.2.1 hR.1 r 0 (cW_at he) rfl hi hd (K F hk ls H locs hl hR hS)

theorem aw_iast {r : Nat} {i x : Int32} {h' : Hp} (hd : decode cc pc = .ok (.iastore, 1)) (hx : aS h r i x = some h') (K : AW X cc nL own R Qm k n adr h' (pc + 1) L st) : AW X cc nL own R Qm k n adr h pc L (.int x :: .int i :: .ref r :: st) := by
  obtain ⟨p, l, e, s, m, args, below, meth, c, G⟩ := X
  intro F hk ls H locs hl hR hS
  obtain ⟨N, f, he, hi, rfl⟩ := aS_some hx
  refine va_iast F.1 F.2.1 hk.2.1 hR.1 hR.2 hS r 0 (cW_at he) rfl hi hd (fun H1 locs1 hP hD hS1 => K F hk ls H1 locs1 hl ?_ hS1)
  exact ⟨by rw [← cW_set]; exact hP, by rw [← cW_set]; exact hD⟩

theorem aw_lald {r : Nat} {i : Int32} {x : Int64} (hd : decode cc pc = .ok (.laload, 1)) (hx : lL h r i = some x) (K : AW X cc nL own R Qm k n adr h (pc + 1) L (.long x :: st)) : AW X cc nL own R Qm k n adr h pc L (.int i :: .ref r :: st) := by
  obtain ⟨p, l, e, s, m, args, below, meth, c, G⟩ := X
  intro F hk ls H locs hl hR hS
  obtain ⟨N, f, he, hi, rfl⟩ := lL_some hx
  exact va_lald F.1 F.2.1 hk.2.1 hR.1 r 1 (cW_at he) rfl hi hd (K F hk ls H locs hl hR hS)

theorem aw_last {r : Nat} {i : Int32} {x : Int64} {h' : Hp} (hd : decode cc pc = .ok (.lastore, 1)) (hx : lS h r i x = some h') (K : AW X cc nL own R Qm k n adr h' (pc + 1) L st) : AW X cc nL own R Qm k n adr h pc L (.long x :: .int i :: .ref r :: st) := by
  obtain ⟨p, l, e, s, m, args, below, meth, c, G⟩ := X
  intro F hk ls H locs hl hR hS
  obtain ⟨N, f, he, hi, rfl⟩ := lS_some hx
  refine va_last F.1 F.2.1 hk.2.1 hR.1 hR.2 hS r 1 (cW_at he) rfl hi hd (fun H1 locs1 hP hD hS1 => K F hk ls H1 locs1 hl ?_ hS1)
  exact ⟨by rw [← cW_set]; exact hP, by rw [← cW_set]; exact hD⟩

theorem aw_aald {r x : Nat} {i : Int32} (hd : decode cc pc = .ok (.aaload, 1)) (hx : qL h r i = some x) (K : AW X cc nL own R Qm k n adr h (pc + 1) L (.ref x :: st)) : AW X cc nL own R Qm k n adr h pc L (.int i :: .ref r :: st) := by
  obtain ⟨p, l, e, s, m, args, below, meth, c, G⟩ := X
  intro F hk ls H locs hl hR hS
  obtain ⟨N, f, he, hi, hf⟩ := qL_some hx
  have hK := K F hk ls H locs hl hR hS
  have hlt : i.toNatClampNeg < N := Nat.not_le.mp fun q => hi (Or.inr q)
  refine va_aldq F.1 F.2.1 hk.2.1 hR.1 r 2 (cW_at he) rfl hi hd ?_
  simp only [hf, hlt, if_true]
  exact hK

theorem aw_aast {r x : Nat} {i : Int32} {h' : Hp} (hd : decode cc pc = .ok (.aastore, 1)) (hx : qS h r i x = some h') (K : AW X cc nL own R Qm k n adr h' (pc + 1) L st) : AW X cc nL own R Qm k n adr h pc L (.ref x :: .int i :: .ref r :: st) := by
  obtain ⟨p, l, e, s, m, args, below, meth, c, G⟩ := X
  intro F hk ls H locs hl hR hS
  obtain ⟨N, f, vs, he, hv, hi, rfl⟩ := qS_some hx
  refine va_astq F.1 F.2.1 hk.2.1 hR.1 hR.2 hS r 2 x 2 (cW_at he) rfl (cW_at hv) rfl hi hd (fun H1 locs1 hP hD hS1 => K F hk ls H1 locs1 hl ?_ hS1)
  have hlt : i.toNatClampNeg < N := Nat.not_le.mp fun q => hi (Or.inr q)
  have e : (fun j => if j < N then (va_up f i.toNatClampNeg (some x) j).map adr else none) = va_up (fun j => if j < N then (f j).map adr else none) i.toNatClampNeg (some (adr x)) := by
    funext j
    unfold va_up
    by_cases hj : j = i.toNatClampNeg
    · simp [hj, hlt]
    · simp [hj]
  have e2 : tE G adr (.inl (2, N, .inr (.inr (.inr (.inr (va_up f i.toNatClampNeg (some x))))))) = .inl (G.2.1 2, N, .inr (.inr (.inr (.inr (va_up (fun j => if j < N then (f j).map adr else none) i.toNatClampNeg (some (adr x))))))) := by
    show Sum.inl _ = _
    unfold tA
    simp only [e]
  exact ⟨by rw [← cW_set, e2]; exact hP, by rw [← cW_set, e2]; exact hD⟩

theorem aw_alen {r : Nat} {x : Int32} (hd : decode cc pc = .ok (.arraylength, 1)) (hx : aN h r = some x) (K : AW X cc nL own R Qm k n adr h (pc + 1) L (.int x :: st)) : AW X cc nL own R Qm k n adr h pc L (.ref r :: st) := by
  obtain ⟨p, l, e, s, m, args, below, meth, c, G⟩ := X
  intro F hk ls H locs hl hR hS
  obtain ⟨N, f, he, rfl⟩ := aN_some hx
  exact va_alen F.1 F.2.1 hk.2.1 hR.1 r 0 (cW_at he) rfl rfl hd (K F hk ls H locs hl hR hS)

theorem aw_copy {i r q : Nat} {sp dp z : Int32} {h' : Hp} (hd : decode cc pc = .ok (.invokestatic i, 3)) (hw : Cond.methodLink own i arraycopyName ∈ lw_good) (hf : 1 ≤ R.frames) (hlo : (st.map fun v => v.category).sum + 40 ≤ R.locals) (hx : aC h r sp q dp z = some h') (K : AW X cc nL own R Qm k n adr h' (pc + 3) L st) : AW X cc nL own R Qm k n adr h pc L (.int z :: .int dp :: .ref q :: .int sp :: .ref r :: st) := by
  obtain ⟨p, l, e, s, m, args, below, meth, c, G⟩ := X
  intro F hk ls H locs hl hR hS
  obtain ⟨n0, n1, f, g, he, hg, h1, h2, h3, h4, h5, rfl⟩ := aC_some hx
  have hml : c.maxLocals = ls.size := by rw [F.2.2.1]; exact hl.1.symm
  refine va_copyi F.1 F.2.1 hml F.2.2.2.1 (F.2.2.2.2.1 _ hw) (F.2.2.2.2.1 _ wd_native) (F.2.2.2.2.1 _ wd_copystat) (F.2.2.2.2.1 _ wd_sysinit) hk.2.1 hR.1 hR.2 hS r q 0 0 (cW_at he) (cW_at hg) rfl rfl rfl h1 h2 h3 h4 h5 (fun _ _ => rfl) hf ?_ hd (fun H1 locs1 hP hD hS1 => K F hk ls H1 locs1 hl ?_ hS1)
  · have e : (List.map (fun v => v.category) (List.map (tv adr) st)).sum = (st.map fun v => v.category).sum := by
      rw [List.map_map]; congr 1; apply List.map_congr_left; intro v _; exact tv_cat adr v
    rw [e]
    exact Nat.le_trans (Nat.add_le_add_left (by decide +kernel) _) hlo
  · exact ⟨by rw [← cW_set]; exact hP, by rw [← cW_set]; exact hD⟩

end AWR
end
section
/-! contracts over the abstract heap, calls, ends, making -/
def mth (X : Cx) : Method := X.2.2.2.2.2.2.2.1
def Qc (G : Gx) (Q : (Nat → Nat) → Option Value → Hp → Prop) : Array Value → State → Outcome → State → Prop := fun _ st o t => (∃ (a : Nat → Nat) (r : Option Value) (h' : Hp), Q a r h' ∧ o = .returned (r.map (tv a)) ∧ RH G a h' t.heap) ∧ va_F (Aq G) st t
def Qmet (X : Cx) (mc ms : Nat) (Q : (Nat → Nat) → Option Value → Hp → Prop) : State → Prop := match X with
  | (_, _, _, s, _, args, below, _, _, G) => MQ below (Qc G Q) args s mc ms (Aq G)
def rmd (d mc ms : Nat) : Room := { frames := d, cells := mc, slots := ms, locals := 64 * d }
/-- a method's contract: from this heap, with these arguments, it ends as Q says -/
def MtQ (d mc ms : Nat) (y : MethodName) (cc : ByteArray) (nL : Nat) (ret : Option FieldType) (as : List Value) (h : Hp) (Q : (Nat → Nat) → (Nat → Nat) → Option Value → Hp → Prop) : Prop :=
  ∀ (l : Launch) (G : Gx) (adr : Nat → Nat), Met l y (.code y cc nL ret :: lw_good) (rmd d mc ms) (va_Pc (as.map (tv adr)) (fun U => KK G adr U ∧ RH G adr h U.heap)) (Qc G (Q adr)) mc ms (Aq G)
/-- nothing is made: the answer is r, the heap h' -/
def Qe (r : Option Value) (h' : Hp) : (Nat → Nat) → (Nat → Nat) → Option Value → Hp → Prop := fun adr a r0 h0 => a = adr ∧ r0 = r ∧ h0 = h'
/-- cells are made: places below those that were there keep their addresses -/
def Qn (N : Nat) (h' : Hp) : (Nat → Nat) → (Nat → Nat) → Option Value → Hp → Prop := fun adr a r0 h0 => (∀ i, (i < N ∨ 1000 ≤ i) → a i = adr i) ∧ r0 = none ∧ h0 = h'
abbrev Mt (d : Nat) (y : MethodName) (cc : ByteArray) (nL : Nat) (ret : Option FieldType) (as : List Value) (h : Hp) (r : Option Value) (h' : Hp) : Prop := MtQ d 0 0 y cc nL ret as h (Qe r h')
theorem lv_args_tv (adr : Nat → Nat) : ∀ (i : Nat) (as : List Value), lv_args i (as.map (tv adr)) = tL adr (lv_args i as)
  | _, [] => rfl
  | i, v :: vs => by
    show (i, tv adr v) :: lv_args _ (vs.map (tv adr)) = tL adr ((i, v) :: lv_args _ vs)
    rw [tv_cat, lv_args_tv adr _ vs]
    rfl
theorem lg_sl_tv (adr : Nat → Nat) (as : List Value) : (lg_sl (as.map (tv adr))).length = (lg_sl as).length := by
  induction as with
  | nil => rfl
  | cons v t ih =>
    simp only [lg_sl, List.map_cons, List.flatMap_cons, List.length_append, tv_cat] at ih ⊢
    rw [ih]
    by_cases hc : v.category = 2 <;> simp [hc]
theorem MtQ.of {d mc ms : Nat} {y : MethodName} {cc : ByteArray} {nL : Nat} {ret : Option FieldType} {as : List Value} {h : Hp} {Q : (Nat → Nat) → (Nat → Nat) → Option Value → Hp → Prop} (hy : plainName y.cls = true) (hlen : (lg_sl as).length ≤ nL)
    (body : ∀ (X : Cx) (adr : Nat → Nat), (mth X).sig.returnType = ret → (mth X).name = y.name → AW X cc nL y.cls (rmd d mc ms) (Qmet X mc ms (Q adr)) 0 0 adr h 0 (lv_args 0 as) []) : MtQ d mc ms y cc nL ret as h Q := by
  intro l G adr
  refine Met.ofW (cc := cc) (maxL := nL) (ret := ret) hy rfl ?_
  intro p e s m args below meth c s₁ B hml hv
  obtain ⟨rfl, hK, hR⟩ := hv
  have hts := atoms_spec (ws := .code y cc nL ret :: lw_good) B.pre
  have hown : s.vm.findClass y.cls = some m.cls := findClass_of_methodNamed B.named
  have hname : meth.name = y.name := (name_of_methodNamed B.named B.method).1
  have hl := lv_entry (as.map (tv adr)) (n := nL) (by rw [lg_sl_tv]; exact hlen)
  rw [lg_entry_eq]
  generalize (lg_sl (as.map (tv adr)) ++ List.replicate (nL - (lg_sl (as.map (tv adr))).length) Slot.unset).toArray = ls at hl ⊢
  rw [lv_args_tv] at hl
  exact body (p, l, e, s, m, _, below, meth, c, G) adr B.returns hname ⟨B.exec, B.bytes, hml, hown, fun w hw => hts w (List.mem_cons_of_mem _ hw), B.notSynchronized⟩ hK ls s.heap [] hl hR va_S.rf
def MOk (y : MethodName) (cc : ByteArray) (nL : Nat) (ret : Option FieldType) (n : Nat) : Prop := Cond.code y cc nL ret ∈ lw_good ∧ Cond.initialized y.cls ∈ lw_good ∧ y.cls ≠ "java/lang/invoke/MethodHandle" ∧ y.cls ≠ "java/lang/invoke/VarHandle" ∧ (parseMethodDescriptor y.desc).map (fun d => d.parameters.length) = some n
def VOk (y : MethodName) : Prop := Cond.instanceMethod y ∈ lw_good ∧ Cond.selects y.cls y y ∈ lw_good
theorem code_goodIn {y : MethodName} {cc : ByteArray} {nL : Nat} {ret : Option FieldType} (h : Cond.code y cc nL ret ∈ lw_good) : GoodIn lw_good (Cond.code y cc nL ret :: lw_good) := fun w hw => (List.mem_cons.mp hw).elim (fun e => by rw [e]; exact lw_good_all _ h) (lw_good_all w)
theorem tv_cats (adr : Nat → Nat) (st : List Value) : (List.map (fun v => v.category) (List.map (tv adr) st)).sum = (st.map fun v => v.category).sum := by
  rw [List.map_map]
  congr 1
  apply List.map_congr_left
  intro v _
  exact tv_cat adr v
section AWC
variable {p : Program} {l : Launch} {e : Env} {R : Room} {s : State} {m : MethodId} {args : Array Value} {below : List Frame} {meth : Method} {c : Code} {H : Heap} {locs : List Loc} {k n mc ms : Nat} {Qm : State → Prop} {G : Gx} {pc : Nat} {ls : Array Slot} {stk rest : List Value}
theorem aw_of_run {Q : (Nat → Nat) → Option Value → Hp → Prop} {a0 : Array Value} (hrun : va_Run p l e R s m args below meth c H locs k n mc ms (F0 m pc ls stk) rest (Qc G Q a0) (Aq G)) (hS : va_S (Aq G) s.heap H locs)
    (K : ∀ (a : Nat → Nat) (r : Option Value) (h' : Hp), Q a r h' → ∀ (H1 : Heap) (locs1 : List Loc), RH G a h' H1 → va_S (Aq G) s.heap H1 locs1 → W p l e R s m args below meth c H1 locs1 (k + mc) (n + ms) Qm (F0 m (pc + 3) ls ((r.map (tv a)).toList ++ rest))) : W p l e R s m args below meth c H locs k n Qm (F0 m pc ls stk) := by
  intro T hT Xs
  obtain ⟨v, st₀, t, T', Ls, h0, X', hL, e1, e2, ⟨⟨a, r, h', hq, hv, hRH⟩, hz, hkp⟩, hgo⟩ := hrun T hT Xs
  cases hv
  rw [h0] at hz hkp
  have hS1 : va_S (Aq G) s.heap T'.heap (locs ++ Ls) := ⟨Nat.le_trans hS.1 (by rw [e1]; exact hz), fun q h1 h2 => by rw [e1, hkp q (Nat.lt_of_lt_of_le h1 hS.1) h2]; exact hS.2.1 q h1 h2, fun q hq => by
    rcases List.mem_append.mp hq with z | z
    · exact hS.2.2 q z
    · exact hL q z⟩
  obtain ⟨t2, a1, b1⟩ := K a r h' hq T'.heap (locs ++ Ls) (by rw [e1]; exact hRH) hS1 T' rfl X'
  exact ⟨t2, hgo t2 a1, b1⟩
theorem pc_blind {as : List Value} {adr : Nat → Nat} {h : Hp} : FrameBlind (va_Pc (as.map (tv adr)) (fun U => KK G adr U ∧ RH G adr h U.heap)) := fun a U g mk q => ⟨q.1, KK.calling a g mk q.2.1, q.2.2⟩
end AWC
section AWD
variable {X : Cx} {cc : ByteArray} {nL : Nat} {own : String} {R : Room} {Qm : State → Prop} {k n : Nat} {adr : Nat → Nat} {h : Hp} {pc : Nat} {L : List (Nat × Value)} {st : List Value}
variable {i d b nL' : Nat} {y : MethodName} {cc' : ByteArray} {ret : Option FieldType} {as stk : List Value} {r : Option Value} {h' : Hp}
theorem aw_virt {ci N : Nat} {fs : List Value} {T : u_T} (hd : decode cc pc = .ok (.invokevirtual i, 3)) (hm : MOk y cc' nL' ret as.length) (hv : VOk y) (hw : Cond.methodLink own i y ∈ lw_good) (hb : h[b]? = some (.inr (ci, fs))) (hc : vwCl[ci]? = some (y.cls, T, N)) (hr : d + 1 ≤ R.frames ∧ 8 + (nL' + 11) + 64 * d ≤ R.locals) (hkn : k ≤ R.cells ∧ n ≤ R.slots) (hcat : (st.map fun v => v.category).sum ≤ 8) (hst : stk = as.reverse ++ .ref b :: st) (M : Mt d y cc' nL' ret (.ref b :: as) h r h')
    (K : AW X cc nL own R Qm k n adr h' (pc + 3) L (r.toList ++ st)) : AW X cc nL own R Qm k n adr h pc L stk := by
  obtain ⟨p, l, e, s, m, args, below, meth, c, G⟩ := X
  intro F hk ls H locs hl hR hS
  subst hst
  have hcb : CallB R s args own i y cc' nL' ret (.code y cc' nL' ret :: lw_good) (rmd d 0 0) 0 0 as.length := callB_of as.length F.2.2.2.2.1 (code_goodIn hm.1) rfl rfl rfl (F.2.2.2.2.1 _ hm.2.1) (F.2.2.2.2.1 _ hw) ⟨hm.2.2.1, hm.2.2.2.1, hm.2.2.2.2⟩ hr
  refine aw_of_run (rest := st.map (tv adr)) (va_runV (As := as.map (tv adr)) (b := adr b) ⟨F.1, F.2.1, F.2.2.1, F.2.2.2.1, F.2.2.2.2.1⟩ (M l G adr) ⟨hcb, F.2.2.2.2.1 _ hv.1, F.2.2.2.2.1 _ hv.2⟩ ⟨pc_blind, va_recv hk.2.1 hR.1 hc (cW_at hb), fun U hU hW => ⟨rfl, hk.go hS hW hU, by rw [hU]; exact hR⟩⟩ rfl (by simp) hl.1 (by simp [tv]) (lv_room (by rw [tv_cats]; exact hcat)) hd hkn) hS (fun a r0 h0 hq H1 locs1 hR1 hS1 => ?_)
  obtain ⟨rfl, rfl, rfl⟩ := hq
  have := K F hk ls H1 locs1 hl hR1 hS1
  cases r0 <;> exact this
theorem aw_virtN {ci N : Nat} {fs : List Value} {T : u_T} {host : String} (hd : decode cc pc = .ok (.invokevirtual i, 3)) (hm : MOk y cc' nL' ret as.length) (hv : VOk y) (hw : (own, i, y, host) ∈ nestM) (hb : h[b]? = some (.inr (ci, fs))) (hc : vwCl[ci]? = some (y.cls, T, N)) (hr : d + 1 ≤ R.frames ∧ 8 + (nL' + 11) + 64 * d ≤ R.locals) (hkn : k ≤ R.cells ∧ n ≤ R.slots) (hcat : (st.map fun v => v.category).sum ≤ 8) (hst : stk = as.reverse ++ .ref b :: st) (M : Mt d y cc' nL' ret (.ref b :: as) h r h')
    (K : AW X cc nL own R Qm k n adr h' (pc + 3) L (r.toList ++ st)) : AW X cc nL own R Qm k n adr h pc L stk := by
  obtain ⟨p, l, e, s, m, args, below, meth, c, G⟩ := X
  intro F hk ls H locs hl hR hS
  subst hst
  have hcb := va_cnB (R := R) (rm := rmd d 0 0) (mc := 0) (ms := 0) as.length F.2.2.2.2.1 (code_goodIn hm.1) rfl rfl rfl (hk.2.2.1 _ hw) (F.2.2.2.2.1 _ hm.2.1) ⟨hm.2.2.1, hm.2.2.2.1, hm.2.2.2.2⟩ hr
  refine aw_of_run (rest := st.map (tv adr)) (va_runVN (As := as.map (tv adr)) (b := adr b) ⟨F.1, F.2.1, F.2.2.1, F.2.2.2.1, F.2.2.2.2.1⟩ (M l G adr) ⟨hcb, F.2.2.2.2.1 _ hv.1, F.2.2.2.2.1 _ hv.2⟩ ⟨pc_blind, va_recv hk.2.1 hR.1 hc (cW_at hb), fun U hU hW => ⟨rfl, hk.go hS hW hU, by rw [hU]; exact hR⟩⟩ rfl (by simp) hl.1 (by simp [tv]) (lv_room (by rw [tv_cats]; exact hcat)) hd hkn) hS (fun a r0 h0 hq H1 locs1 hR1 hS1 => ?_)
  obtain ⟨rfl, rfl, rfl⟩ := hq
  have := K F hk ls H1 locs1 hl hR1 hS1
  cases r0 <;> exact this
theorem aw_stat (hd : decode cc pc = .ok (.invokestatic i, 3)) (hm : MOk y cc' nL' ret as.length) (hv : Cond.static y ∈ lw_good) (hw : Cond.methodLink own i y ∈ lw_good) (hr : d + 1 ≤ R.frames ∧ 8 + (nL' + 11) + 64 * d ≤ R.locals) (hkn : k ≤ R.cells ∧ n ≤ R.slots) (hcat : (st.map fun v => v.category).sum ≤ 8) (hst : stk = as.reverse ++ st) (M : Mt d y cc' nL' ret as h r h')
    (K : AW X cc nL own R Qm k n adr h' (pc + 3) L (r.toList ++ st)) : AW X cc nL own R Qm k n adr h pc L stk := by
  obtain ⟨p, l, e, s, m, args, below, meth, c, G⟩ := X
  intro F hk ls H locs hl hR hS
  subst hst
  have hcb : CallB R s args own i y cc' nL' ret (.code y cc' nL' ret :: lw_good) (rmd d 0 0) 0 0 as.length := callB_of as.length F.2.2.2.2.1 (code_goodIn hm.1) rfl rfl rfl (F.2.2.2.2.1 _ hm.2.1) (F.2.2.2.2.1 _ hw) ⟨hm.2.2.1, hm.2.2.2.1, hm.2.2.2.2⟩ hr
  refine aw_of_run (rest := st.map (tv adr)) (va_runS (As := as.map (tv adr)) ⟨F.1, F.2.1, F.2.2.1, F.2.2.2.1, F.2.2.2.2.1⟩ (M l G adr) ⟨hcb, F.2.2.2.2.1 _ hv⟩ ⟨pc_blind, fun U hU hW => ⟨rfl, hk.go hS hW hU, by rw [hU]; exact hR⟩⟩ rfl (by simp) hl.1 (by simp) (lv_room (by rw [tv_cats]; exact hcat)) hd hkn) hS (fun a r0 h0 hq H1 locs1 hR1 hS1 => ?_)
  obtain ⟨rfl, rfl, rfl⟩ := hq
  have := K F hk ls H1 locs1 hl hR1 hS1
  cases r0 <;> exact this
theorem aw_statN {host : String} (hd : decode cc pc = .ok (.invokestatic i, 3)) (hm : MOk y cc' nL' ret as.length) (hv : Cond.static y ∈ lw_good) (hw : (own, i, y, host) ∈ nestM) (hr : d + 1 ≤ R.frames ∧ 8 + (nL' + 11) + 64 * d ≤ R.locals) (hkn : k ≤ R.cells ∧ n ≤ R.slots) (hcat : (st.map fun v => v.category).sum ≤ 8) (hst : stk = as.reverse ++ st) (M : Mt d y cc' nL' ret as h r h')
    (K : AW X cc nL own R Qm k n adr h' (pc + 3) L (r.toList ++ st)) : AW X cc nL own R Qm k n adr h pc L stk := by
  obtain ⟨p, l, e, s, m, args, below, meth, c, G⟩ := X
  intro F hk ls H locs hl hR hS
  subst hst
  have hcb := va_cnB (R := R) (rm := rmd d 0 0) (mc := 0) (ms := 0) as.length F.2.2.2.2.1 (code_goodIn hm.1) rfl rfl rfl (hk.2.2.1 _ hw) (F.2.2.2.2.1 _ hm.2.1) ⟨hm.2.2.1, hm.2.2.2.1, hm.2.2.2.2⟩ hr
  refine aw_of_run (rest := st.map (tv adr)) (va_runSN (As := as.map (tv adr)) ⟨F.1, F.2.1, F.2.2.1, F.2.2.2.1, F.2.2.2.2.1⟩ (M l G adr) ⟨hcb, F.2.2.2.2.1 _ hv, trivial⟩ ⟨pc_blind, fun U hU hW => ⟨rfl, hk.go hS hW hU, by rw [hU]; exact hR⟩⟩ rfl (by simp) hl.1 (by simp) (lv_room (by rw [tv_cats]; exact hcat)) hd hkn) hS (fun a r0 h0 hq H1 locs1 hR1 hS1 => ?_)
  obtain ⟨rfl, rfl, rfl⟩ := hq
  have := K F hk ls H1 locs1 hl hR1 hS1
  cases r0 <;> exact this
variable {Q : (Nat → Nat) → Option Value → Hp → Prop}
theorem aw_iret {x : Int32} (hr : (mth X).sig.returnType = some .int) (hd : decode cc pc = .ok (.ireturn, 1)) (hq : Q adr (some (.int x)) h) : AW X cc nL own R (Qmet X k n Q) k n adr h pc L [.int x] := by
  obtain ⟨p, l, e, s, m, args, below, meth, c, G⟩ := X
  intro F hk ls H locs hl hR hS
  exact W.iret F.1 F.2.1 hr (fun t ht hW => ⟨⟨adr, some (.int x), h, hq, rfl, by rw [ht]; exact hR⟩, hS.F ht⟩) hS.2.2 hd F.2.2.2.2.2
theorem aw_zret {x : Int32} {ty : FieldType} (hr : (mth X).sig.returnType = some ty) (hn : narrow ty (.int x) = .int x) (hd : decode cc pc = .ok (.ireturn, 1)) (hq : Q adr (some (.int x)) h) : AW X cc nL own R (Qmet X k n Q) k n adr h pc L [.int x] := by
  obtain ⟨p, l, e, s, m, args, below, meth, c, G⟩ := X
  intro F hk ls H locs hl hR hS
  exact W.zret F.1 F.2.1 hr hn (fun t ht hW => ⟨⟨adr, some (.int x), h, hq, rfl, by rw [ht]; exact hR⟩, hS.F ht⟩) hS.2.2 hd F.2.2.2.2.2
theorem aw_vret (hr : (mth X).sig.returnType = none) (hd : decode cc pc = .ok (.return_, 1)) (hq : Q adr none h) : AW X cc nL own R (Qmet X k n Q) k n adr h pc L [] := by
  obtain ⟨p, l, e, s, m, args, below, meth, c, G⟩ := X
  intro F hk ls H locs hl hR hS
  exact W.vret F.1 F.2.1 hr (fun t ht hW => ⟨⟨adr, none, h, hq, rfl, by rw [ht]; exact hR⟩, hS.F ht⟩) hS.2.2 hd F.2.2.2.2.2
theorem bz_nar {x : Int32} {u : Unit} (hx : bz x = some u) : narrow .boolean (.int x) = .int x := by
  rcases bz_some hx with rfl | rfl <;> decide
theorem ck_virt {h : Hp} {r ci : Nat} {u : Unit} (hx : ck h r ci = some u) : ∃ fs, h[r]? = some (.inr (ci, fs)) := ck_some hx
theorem aw_virtK {ci N : Nat} {T : u_T} {u : Unit} (hd : decode cc pc = .ok (.invokevirtual i, 3)) (hm : MOk y cc' nL' ret as.length) (hv : VOk y) (hw : Cond.methodLink own i y ∈ lw_good) (hb : ck h b ci = some u) (hc : vwCl[ci]? = some (y.cls, T, N)) (hr : d + 1 ≤ R.frames ∧ 8 + (nL' + 11) + 64 * d ≤ R.locals) (hkn : k ≤ R.cells ∧ n ≤ R.slots) (hcat : (st.map fun v => v.category).sum ≤ 8) (hst : stk = as.reverse ++ .ref b :: st) (M : Mt d y cc' nL' ret (.ref b :: as) h r h')
    (K : AW X cc nL own R Qm k n adr h' (pc + 3) L (r.toList ++ st)) : AW X cc nL own R Qm k n adr h pc L stk := by
  obtain ⟨fs, hb⟩ := ck_some hb
  exact aw_virt hd hm hv hw hb hc hr hkn hcat hst M K
theorem aw_virtNK {ci N : Nat} {T : u_T} {u : Unit} {host : String} (hd : decode cc pc = .ok (.invokevirtual i, 3)) (hm : MOk y cc' nL' ret as.length) (hv : VOk y) (hw : (own, i, y, host) ∈ nestM) (hb : ck h b ci = some u) (hc : vwCl[ci]? = some (y.cls, T, N)) (hr : d + 1 ≤ R.frames ∧ 8 + (nL' + 11) + 64 * d ≤ R.locals) (hkn : k ≤ R.cells ∧ n ≤ R.slots) (hcat : (st.map fun v => v.category).sum ≤ 8) (hst : stk = as.reverse ++ .ref b :: st) (M : Mt d y cc' nL' ret (.ref b :: as) h r h')
    (K : AW X cc nL own R Qm k n adr h' (pc + 3) L (r.toList ++ st)) : AW X cc nL own R Qm k n adr h pc L stk := by
  obtain ⟨fs, hb⟩ := ck_some hb
  exact aw_virtN hd hm hv hw hb hc hr hkn hcat hst M K
end AWD
end
section
/-! making objects and arrays: places keep their addresses -/
def okb (n : Nat) (v : Value) : Bool := match v with
  | .ref i => decide (i < n) || decide (1000 ≤ i)
  | _ => true
def okc (n : Nat) (e : Ae) : Bool := match e with
  | .inl (_, (N, .inr (.inr (.inr (.inr f))))) => (List.range N).all fun j => match f j with
    | some i => decide (i < n) || decide (1000 ≤ i)
    | none => true
  | .inl _ => true
  | .inr (_, fs) => fs.all (okb n)
def nrf (v : Value) : Bool := match v with
  | .ref _ => false
  | _ => true
theorem nrf_map {fs : List Value} (h : fs.all nrf = true) (a : Nat → Nat) : fs.map (tv a) = fs := by
  have : fs.map (tv a) = fs.map id := List.map_congr_left fun v hv => by
    have h1 := List.all_eq_true.mp h v hv
    cases v with
    | ref i => cases h1
    | _ => rfl
  rw [this, List.map_id]
def okh (h : Hp) : Bool := h.all (okc h.length)
def okl (n : Nat) (L : List (Nat × Value)) (st : List Value) : Bool := L.all (fun q => okb n q.2) && st.all (okb n)
/-- two maps agree on what stands below N and on what is outside -/
def Agr (N : Nat) (a adr : Nat → Nat) : Prop := ∀ i, (i < N ∨ 1000 ≤ i) → a i = adr i
theorem Agr.v {N : Nat} {a adr : Nat → Nat} (hA : Agr N a adr) {v : Value} (h : okb N v = true) : tv a v = tv adr v := by
  cases v with
  | ref i =>
    simp only [okb, Bool.or_eq_true, decide_eq_true_eq] at h
    show Value.ref (a i) = .ref (adr i)
    rw [hA i h]
  | _ => rfl
theorem Agr.st {N : Nat} {a adr : Nat → Nat} (hA : Agr N a adr) {st : List Value} (h : st.all (okb N) = true) : st.map (tv a) = st.map (tv adr) := List.map_congr_left fun v hv => hA.v (List.all_eq_true.mp h v hv)
theorem Agr.L {N : Nat} {a adr : Nat → Nat} (hA : Agr N a adr) {L : List (Nat × Value)} (h : L.all (fun q => okb N q.2) = true) : tL a L = tL adr L := List.map_congr_left fun q hq => by rw [hA.v (List.all_eq_true.mp h q hq)]
theorem Agr.e {N : Nat} {a adr : Nat → Nat} (hA : Agr N a adr) {G : Gx} {e : Ae} (h : okc N e = true) : tE G a e = tE G adr e := by
  obtain ⟨k, M, f | f | f | f | f⟩ | ⟨c, fs⟩ := e
  · rfl
  · rfl
  · rfl
  · rfl
  · show Sum.inl _ = Sum.inl _
    unfold tA
    simp only
    congr 5
    congr 1
    congr 1
    congr 1
    congr 1
    funext j
    by_cases hj : j < M
    · simp only [hj, if_true]
      have h1 := List.all_eq_true.mp h j (List.mem_range.mpr hj)
      cases hf : f j with
      | none => rfl
      | some i =>
        rw [hf] at h1
        simp only [Bool.or_eq_true, decide_eq_true_eq] at h1
        show some (a i) = some (adr i)
        rw [hA i h1]
    · simp [hj]
  · show Sum.inr (c, _) = Sum.inr (c, _)
    rw [hA.st h]
theorem Agr.w {N : Nat} {a adr : Nat → Nat} (hA : Agr N a adr) {G : Gx} {h : Hp} (hN : h.length ≤ N) (hh : h.all (okc N) = true) : cW G a h = cW G adr h := by
  apply List.ext_getElem?
  intro j
  simp only [cW, List.getElem?_mapIdx]
  cases he : h[j]? with
  | none => rfl
  | some e =>
    have hl := (List.getElem?_eq_some_iff.mp he).1
    simp only [Option.map_some]
    rw [hA j (Or.inl (by omega)), hA.e (List.all_eq_true.mp hh e (List.mem_of_getElem? he))]
theorem Agr.tr {N M : Nat} {a b c : Nat → Nat} (hNM : N ≤ M) (h1 : Agr M b a) (h2 : Agr N a c) : Agr N b c := fun i hi => (h1 i (by omega)).trans (h2 i hi)
theorem Agr.rf {N : Nat} {a : Nat → Nat} : Agr N a a := fun _ _ => rfl
theorem cW_push {G : Gx} {adr : Nat → Nat} {h : Hp} {e : Ae} : cW G adr (h ++ [e]) = cW G adr h ++ [(adr h.length, tE G adr e)] := by
  simp [cW, List.mapIdx_append]
def put1 (adr : Nat → Nat) (N q : Nat) : Nat → Nat := fun i => if i = N then q else adr i
theorem put1_agr (adr : Nat → Nat) {N : Nat} (q : Nat) (hN : N < 1000) : Agr N (put1 adr N q) adr := fun i hi => by
  unfold put1
  rw [if_neg (by omega)]
theorem put1_at (adr : Nat → Nat) (N q : Nat) : put1 adr N q N = q := by simp [put1]
theorem push_w {G : Gx} {adr : Nat → Nat} {h : Hp} {e : Ae} {q : Nat} {e' : va_E} (hN : h.length < 1000) (hh : okh h = true) (he : tE G (put1 adr h.length q) e = e') : cW G (put1 adr h.length q) (h ++ [e]) = cW G adr h ++ [(q, e')] := by
  rw [cW_push, (put1_agr adr q hN).w (Nat.le_refl _) hh, put1_at, he]
theorem ha_int (N : Nat) (cA : ClassId) : vp_cell cA (N, .inl (fun _ => 0)) = arrV cA N (fun _ => defaultValue .int) := rfl
theorem ha_long (N : Nat) (cA : ClassId) : vp_cell cA (N, .inr (.inl (fun _ => 0))) = arrV cA N (fun _ => defaultValue .long) := by
  rw [vp_cell_l]
  rfl
section AWM
variable {X : Cx} {cc : ByteArray} {nL : Nat} {own : String} {R : Room} {Qm : State → Prop} {k n : Nat} {adr : Nat → Nat} {h : Hp} {pc : Nat} {L : List (Nat × Value)} {st : List Value}
theorem AW.heq {h1 : Hp} (e : h = h1) (K : AW X cc nL own R Qm k n adr h1 pc L st) : AW X cc nL own R Qm k n adr h pc L st := e ▸ K
theorem AW.leq {L1 : List (Nat × Value)} (e : L = L1) (K : AW X cc nL own R Qm k n adr h pc L1 st) : AW X cc nL own R Qm k n adr h pc L st := e ▸ K
theorem AW.keq {k1 n1 : Nat} (e1 : k = k1) (e2 : n = n1) (K : AW X cc nL own R Qm k1 n1 adr h pc L st) : AW X cc nL own R Qm k n adr h pc L st := e1 ▸ e2 ▸ K
theorem aw_new {i ci N : Nat} {C : String} {T : u_T} {fs : List Value} (ty : Nat → FieldType) (hd : decode cc pc = .ok (.new i, 3)) (hc : vwCl[ci]? = some (C, T, N)) (hin : ∀ w ∈ u_ws C T N, w ∈ lw_good) (hty : ∀ k, k < N → parseFieldDescriptor (T k).2.2.1 = some (ty k)) (hcl : Cond.classLink own i C ∈ lw_good) (hi : Cond.instantiable C N ∈ lw_good) (hini : Cond.initialized C ∈ lw_good) (hfs : ∀ j, j < N → defaultValue (ty j) = vp_V fs j) (hfr : fs.all nrf = true) (hkn : k + 1 ≤ R.cells ∧ n + N ≤ R.slots) {N0 : Nat} (hN0 : h.length = N0) (hN : N0 < 1000) (hh : okh h = true) (hs : okl N0 L st = true)
    (K : ∀ a, Agr N0 a adr → AW X cc nL own R Qm (k + 1) (n + N) a (h ++ [.inr (ci, fs)]) (pc + 3) L (.ref N0 :: st)) : AW X cc nL own R Qm k n adr h pc L st := by
  obtain ⟨p, l, e, s, m, args, below, meth, c, G⟩ := X
  subst hN0
  intro F hk ls H locs hl hR hS
  simp only [okl, Bool.and_eq_true] at hs
  refine va_new (ci := ci) (fs := fs) F.1 F.2.1 F.2.2.2.2.1 hin ty hty F.2.2.2.1 (F.2.2.2.2.1 _ hcl) (F.2.2.2.2.1 _ hi) (F.2.2.2.2.1 _ hini) hk.2.1 hR.1 hR.2 hS (fun q hq => Nat.le_trans hk.1 hq) hc hfs hkn.1 hkn.2 hd (fun q H1 hP hD hS1 => ?_)
  have hA := put1_agr adr q hN
  have hfe : tE G (put1 adr h.length q) (.inr (ci, fs)) = .inr (ci, fs) := by
    show Sum.inr (ci, _) = Sum.inr (ci, _)
    rw [nrf_map hfr]
  have hw := push_w (G := G) (e := .inr (ci, fs)) (q := q) hN hh hfe
  refine W.eq ?_ (K _ hA F (hk.adr (fun i hi => hA i (Or.inr hi))) ls H1 locs (by rw [hA.L hs.1]; exact hl) ⟨by rw [hw]; exact hP, by rw [hw]; exact hD⟩ hS1)
  simp only [List.map_cons, hA.st hs.2]
  show _ = F0 m (pc + 3) ls (.ref (put1 adr h.length q h.length) :: _)
  rw [put1_at]
theorem aw_newa {z : Int32} {kd N : Nat} {atype : ArrayType} {ty : FieldType} {a0 : vp_A} (hd : decode cc pc = .ok (.newarray atype, 2)) (hwd : Cond.arrayClass ty ∈ lw_good) (hat : newarray.typeOf atype = ty) (hkd : (kd = 0 ∧ ty = .int) ∨ (kd = 1 ∧ ty = .long)) (ha : ∀ cA : ClassId, vp_cell cA a0 = arrV cA N (fun _ => defaultValue ty)) (hta : ∀ a, tA a a0 = a0) (hz : ¬ z < 0) (hzN : z.toNatClampNeg = N) (hby : N * componentBytes ty ≤ 536870912) (hkn : k + 1 ≤ R.cells ∧ n + N ≤ R.slots) {N0 : Nat} (hN0 : h.length = N0) (hN : N0 < 1000) (hh : okh h = true) (hs : okl N0 L st = true)
    (K : ∀ a, Agr N0 a adr → AW X cc nL own R Qm (k + 1) (n + N) a (h ++ [.inl (kd, a0)]) (pc + 2) L (.ref N0 :: st)) : AW X cc nL own R Qm k n adr h pc L (.int z :: st) := by
  obtain ⟨p, l, e, s, m, args, below, meth, c, G⟩ := X
  subst hN0
  intro F hk ls H locs hl hR hS
  simp only [okl, Bool.and_eq_true] at hs
  refine va_newa (atype := atype) F.1 F.2.1 (by rw [hat]; exact F.2.2.2.2.1 _ hwd) hat hk.2.1 hR.1 hR.2 hS (fun q hq => Nat.le_trans hk.1 hq) ha hz hzN hby hkn.1 hkn.2 hd (fun q cA H1 hK1 hP hD hS1 => ?_)
  have hA := put1_agr adr q hN
  have hcA : cA = G.2.1 kd := by
    have h1 := (hK1.2 3 (cA, ty) rfl).2
    rcases hkd with ⟨rfl, rfl⟩ | ⟨rfl, rfl⟩
    · have h2 := (hK1.2 0 _ rfl).2
      exact Option.some.inj (h1.symm.trans h2)
    · have h2 := (hK1.2 1 _ rfl).2
      exact Option.some.inj (h1.symm.trans h2)
  subst hcA
  have hfe : tE G (put1 adr h.length q) (.inl (kd, a0)) = .inl (G.2.1 kd, a0) := by
    show Sum.inl (G.2.1 kd, _) = Sum.inl (G.2.1 kd, _)
    rw [hta]
  have hw := push_w (G := G) (e := .inl (kd, a0)) (q := q) hN hh hfe
  refine W.eq ?_ (K _ hA F (hk.adr (fun i hi => hA i (Or.inr hi))) ls H1 locs (by rw [hA.L hs.1]; exact hl) ⟨by rw [hw]; exact hP, by rw [hw]; exact hD⟩ hS1)
  simp only [List.map_cons, hA.st hs.2]
  show _ = F0 m (pc + 2) ls (.ref (put1 adr h.length q h.length) :: _)
  rw [put1_at]
theorem aw_newq {i N : Nat} {z : Int32} (hd : decode cc pc = .ok (.anewarray i, 3)) (hcl : Cond.classLink own i "StillInIt$Sheet" ∈ lw_good) (hz : ¬ z < 0) (hzN : z.toNatClampNeg = N) (hby : N * 4 ≤ 536870912) (hkn : k + 1 ≤ R.cells ∧ n + N ≤ R.slots) {N0 : Nat} (hN0 : h.length = N0) (hN : N0 < 1000) (hh : okh h = true) (hs : okl N0 L st = true)
    (K : ∀ a, Agr N0 a adr → AW X cc nL own R Qm (k + 1) (n + N) a (h ++ [.inl (2, (N, .inr (.inr (.inr (.inr (fun _ => none))))))]) (pc + 3) L (.ref N0 :: st)) : AW X cc nL own R Qm k n adr h pc L (.int z :: st) := by
  obtain ⟨p, l, e, s, m, args, below, meth, c, G⟩ := X
  subst hN0
  intro F hk ls H locs hl hR hS
  simp only [okl, Bool.and_eq_true] at hs
  refine va_newq F.1 F.2.1 F.2.2.2.1 (F.2.2.2.2.1 _ hcl) hk.2.2.2.2.2.2.2 hk.2.1 hR.1 hR.2 hS (fun q hq => Nat.le_trans hk.1 hq) hz hzN hby hkn.1 hkn.2 hd (fun q cA H1 hK1 hP hD hS1 => ?_)
  have hA := put1_agr adr q hN
  have hcA : cA = G.2.1 2 := by
    obtain ⟨kA, comp, -, -, -, h1⟩ := (hK1.2 3 (cA, .object "StillInIt$Sheet") rfl).2
    obtain ⟨kB, comp2, -, -, -, h2⟩ := (hK1.2 2 _ rfl).2
    exact Option.some.inj (h1.symm.trans h2)
  subst hcA
  have hfe : tE G (put1 adr h.length q) (.inl (2, (N, .inr (.inr (.inr (.inr (fun _ => none))))))) = .inl (G.2.1 2, (N, .inr (.inr (.inr (.inr (fun _ => none)))))) := by
    show Sum.inl (G.2.1 2, _) = Sum.inl (G.2.1 2, _)
    unfold tA
    congr 2
    simp
  have hw := push_w (G := G) (e := .inl (2, (N, .inr (.inr (.inr (.inr (fun _ => none))))))) (q := q) hN hh hfe
  refine W.eq ?_ (K _ hA F (hk.adr (fun i hi => hA i (Or.inr hi))) ls H1 locs (by rw [hA.L hs.1]; exact hl) ⟨by rw [hw]; exact hP, by rw [hw]; exact hD⟩ hS1)
  simp only [List.map_cons, hA.st hs.2]
  show _ = F0 m (pc + 3) ls (.ref (put1 adr h.length q h.length) :: _)
  rw [put1_at]
theorem aw_objInit {i x : Nat} (hd : decode cc pc = .ok (.invokespecial i, 3)) (hw : Cond.methodLink own i Lib.objectInit ∈ lw_good) (hr : 1 ≤ R.frames ∧ (st.map fun v => v.category).sum + 12 ≤ R.locals) (hcat : (st.map fun v => v.category).sum ≤ 8)
    (K : AW X cc nL own R Qm k n adr h (pc + 3) L st) : AW X cc nL own R Qm k n adr h pc L (.ref x :: st) := by
  obtain ⟨p, l, e, s, m, args, below, meth, c, G⟩ := X
  intro F hk ls H locs hl hR hS
  refine W.objInit F.1 F.2.1 F.2.2.2.1 (F.2.2.2.2.1 _ hw) (F.2.2.2.2.1 _ wd_oinst) (F.2.2.2.2.1 _ wd_ocode) rfl (hl.1.trans F.2.2.1.symm) rfl hd hr.1 ?_ (K F hk ls H locs hl hR hS)
  have e1 : (F0 m pc ls (List.map (tv adr) (.ref x :: st))).monitorRoom = 0 := by
    have := lv_room (m := m) (pc := pc) (ls := ls) (rest := List.map (tv adr) (.ref x :: st)) (st := []) (by simp)
    rfl
  rw [e1, tv_cats]
  omega
theorem aw_putF {i r ci fk : Nat} {v : Value} {ty : FieldType} {h' : Hp} (hnm : (mth X).name = "<init>") (hd : decode cc pc = .ok (.putfield i, 3)) (hw : PNok own i ci fk ty) (hn : ∀ a, narrow ty (tv a v) = tv a v ∧ fits ty (tv a v) = true) (hx : pF h r ci fk v = some h') (K : AW X cc nL own R Qm k n adr h' (pc + 3) L st) : AW X cc nL own R Qm k n adr h pc L (v :: .ref r :: st) := by
  obtain ⟨p, l, e, s, m, args, below, meth, c, G⟩ := X
  intro F hk ls H locs hl hR hS
  obtain ⟨⟨C, T, N, hc, hN, hin, hlk, hT, ty0, hty, hnn⟩, hp⟩ := hw
  obtain ⟨fs, he, hlt, rfl⟩ := pF_some hx
  obtain ⟨hfin, hd0, hdc⟩ := hp C T N hc
  refine va_putF (ci := ci) (ty := ty) F.1 F.2.1 F.2.2.2.2.1 hin ty0 hty hnn F.2.2.2.1 hk.2.1 hR.1 hR.2 hS r (cW_at he) hc fk hN (F.2.2.2.2.1 _ hlk) (fun _ z => by rw [← hT]; exact z) hfin hnm hdc hd0 (hn adr).1 (hn adr).2 (by simpa using hlt) hd (fun H1 locs1 hP hD hS1 => K F hk ls H1 locs1 hl ?_ hS1)
  rw [show (List.map (tv adr) fs).set fk (tv adr v) = List.map (tv adr) (fs.set fk v) from List.map_set.symm] at hP hD
  exact ⟨by rw [← cW_set]; exact hP, by rw [← cW_set]; exact hD⟩
variable {i d b nL' mc ms : Nat} {y : MethodName} {cc' : ByteArray} {as stk : List Value} {h' : Hp}
theorem aw_ctor (hd : decode cc pc = .ok (.invokespecial i, 3)) (hm : MOk y cc' nL' none as.length) (hv : Cond.instanceMethod y ∈ lw_good) (hini : y.name = "<init>") (hw : Cond.methodLink own i y ∈ lw_good) (hr : d + 1 ≤ R.frames ∧ 8 + (nL' + 11) + 64 * d ≤ R.locals) (hkn : k + mc ≤ R.cells ∧ n + ms ≤ R.slots) (hcat : (st.map fun v => v.category).sum ≤ 8) (hst : stk = as.reverse ++ .ref b :: st) {N0 : Nat} (hs : okl N0 L st = true) (M : MtQ d mc ms y cc' nL' none (.ref b :: as) h (Qn N0 h'))
    (K : ∀ a, Agr N0 a adr → AW X cc nL own R Qm (k + mc) (n + ms) a h' (pc + 3) L st) : AW X cc nL own R Qm k n adr h pc L stk := by
  obtain ⟨p, l, e, s, m, args, below, meth, c, G⟩ := X
  intro F hk ls H locs hl hR hS
  simp only [okl, Bool.and_eq_true] at hs
  subst hst
  have hcb : CallB R s args own i y cc' nL' none (.code y cc' nL' none :: lw_good) (rmd d mc ms) mc ms as.length := callB_of as.length F.2.2.2.2.1 (code_goodIn hm.1) rfl rfl rfl (F.2.2.2.2.1 _ hm.2.1) (F.2.2.2.2.1 _ hw) ⟨hm.2.2.1, hm.2.2.2.1, hm.2.2.2.2⟩ hr
  refine aw_of_run (rest := st.map (tv adr)) (va_runI (As := as.map (tv adr)) (b := adr b) ⟨F.1, F.2.1, F.2.2.1, F.2.2.2.1, F.2.2.2.2.1⟩ (M l G adr) ⟨hcb, hini, F.2.2.2.2.1 _ hv⟩ ⟨pc_blind, fun U hU hW => ⟨rfl, hk.go hS hW hU, by rw [hU]; exact hR⟩⟩ rfl (by simp) hl.1 (by simp [tv]) (lv_room (by rw [tv_cats]; exact hcat)) hd hkn) hS (fun a r0 h0 hq H1 locs1 hR1 hS1 => ?_)
  obtain ⟨hA, rfl, rfl⟩ := hq
  have hA : Agr N0 a adr := hA
  refine W.eq ?_ (K a hA F (hk.adr (fun i hi => hA i (Or.inr hi))) ls H1 locs1 (by rw [hA.L hs.1]; exact hl) hR1 hS1)
  rw [hA.st hs.2]
  rfl
theorem aw_ctorN {host : String} (hd : decode cc pc = .ok (.invokespecial i, 3)) (hm : MOk y cc' nL' none as.length) (hv : Cond.instanceMethod y ∈ lw_good) (hini : y.name = "<init>") (hw : (own, i, y, host) ∈ nestM) (hr : d + 1 ≤ R.frames ∧ 8 + (nL' + 11) + 64 * d ≤ R.locals) (hkn : k + mc ≤ R.cells ∧ n + ms ≤ R.slots) (hcat : (st.map fun v => v.category).sum ≤ 8) (hst : stk = as.reverse ++ .ref b :: st) {N0 : Nat} (hs : okl N0 L st = true) (M : MtQ d mc ms y cc' nL' none (.ref b :: as) h (Qn N0 h'))
    (K : ∀ a, Agr N0 a adr → AW X cc nL own R Qm (k + mc) (n + ms) a h' (pc + 3) L st) : AW X cc nL own R Qm k n adr h pc L stk := by
  obtain ⟨p, l, e, s, m, args, below, meth, c, G⟩ := X
  intro F hk ls H locs hl hR hS
  simp only [okl, Bool.and_eq_true] at hs
  subst hst
  have hcb := va_cnB (R := R) (rm := rmd d mc ms) (mc := mc) (ms := ms) as.length F.2.2.2.2.1 (code_goodIn hm.1) rfl rfl rfl (hk.2.2.1 _ hw) (F.2.2.2.2.1 _ hm.2.1) ⟨hm.2.2.1, hm.2.2.2.1, hm.2.2.2.2⟩ hr
  refine aw_of_run (rest := st.map (tv adr)) (va_runIN (As := as.map (tv adr)) (b := adr b) ⟨F.1, F.2.1, F.2.2.1, F.2.2.2.1, F.2.2.2.2.1⟩ (M l G adr) ⟨hcb, hini, F.2.2.2.2.1 _ hv⟩ ⟨pc_blind, fun U hU hW => ⟨rfl, hk.go hS hW hU, by rw [hU]; exact hR⟩⟩ rfl (by simp) hl.1 (by simp [tv]) (lv_room (by rw [tv_cats]; exact hcat)) hd hkn) hS (fun a r0 h0 hq H1 locs1 hR1 hS1 => ?_)
  obtain ⟨hA, rfl, rfl⟩ := hq
  have hA : Agr N0 a adr := hA
  refine W.eq ?_ (K a hA F (hk.adr (fun i hi => hA i (Or.inr hi))) ls H1 locs1 (by rw [hA.L hs.1]; exact hl) hR1 hS1)
  rw [hA.st hs.2]
  rfl
end AWM
end
section
/-! what the printed rows use -/
def lp {σ ρ : Type} (b : (σ → Hp → Option ρ) → σ → Hp → Option ρ) : Nat → σ → Hp → Option ρ
  | 0 => fun _ _ => none
  | n + 1 => b (lp b n)
theorem aw_lp {σ ρ : Type} {b : (σ → Hp → Option ρ) → σ → Hp → Option ρ} {q : ρ} {Z : σ → Hp → Prop} (hb : ∀ kH : σ → Hp → Option ρ, (∀ v h, kH v h = some q → Z v h) → ∀ v h, b kH v h = some q → Z v h) : ∀ (n : Nat) (v : σ) (h : Hp), lp b n v h = some q → Z v h
  | 0, _, _, hf => by cases hf
  | n + 1, v, h, hf => hb (lp b n) (aw_lp hb n) v h hf
theorem b_some {α β : Type} {o : Option α} {f : α → Option β} {b : β} (h : o.bind f = some b) : ∃ a, o = some a ∧ f a = some b := by
  cases o with
  | none => cases h
  | some a => exact ⟨a, rfl, h⟩
theorem i_pos {α : Type} {c : Prop} {hd : Decidable c} {a b r : α} (hc : c) (h : @ite α c hd a b = r) : a = r := by
  rw [if_pos hc] at h
  exact h
theorem i_neg {α : Type} {c : Prop} {hd : Decidable c} {a b r : α} (hc : ¬ c) (h : @ite α c hd a b = r) : b = r := by
  rw [if_neg hc] at h
  exact h
theorem rm_ok {d d' nL' mc ms : Nat} (h1 : d + 1 ≤ d') (h2 : nL' ≤ 45) : d + 1 ≤ (rmd d' mc ms).frames ∧ 8 + (nL' + 11) + 64 * d ≤ (rmd d' mc ms).locals := ⟨h1, by
  show _ ≤ 64 * d'
  omega⟩
theorem tab_out {x : Int32} {N : Nat} {hi : Int} (hN : N < 2 ^ 31) (hh : hi = (N : Int) - 1) (h : ∀ j : Nat, j < N → ¬ x = nI j) : x.toInt < 0 ∨ hi < x.toInt := by
  by_cases h0 : x < 0
  · left
    exact Int32.lt_iff_toInt_lt.mp h0
  · right
    obtain ⟨j, hj, rfl⟩ := nI_of h0
    have h1 : ¬ j < N := fun q => h j q rfl
    rw [nI_toInt hj]
    omega
def fS_length (_ : Nat) (_ : Hp) : Option (Int32 × Hp) := none
def fS_charAt (_ : Nat) (_ : Int32) (_ : Hp) : Option (Int32 × Hp) := none
section AWX
variable {X : Cx} {cc : ByteArray} {nL : Nat} {own : String} {R : Room} {Qm : State → Prop} {k n : Nat} {adr : Nat → Nat} {h : Hp} {pc : Nat} {L : List (Nat × Value)} {st : List Value}
theorem aw_nm {z x : Int32} (he : some z = some x) (K : AW X cc nL own R Qm k n adr h pc L (.int x :: st)) : AW X cc nL own R Qm k n adr h pc L (.int z :: st) := by
  cases he
  exact K
theorem aw_nml {z x : Int64} (he : some z = some x) (K : AW X cc nL own R Qm k n adr h pc L (.long x :: st)) : AW X cc nL own R Qm k n adr h pc L (.long z :: st) := by
  cases he
  exact K
theorem aw_getI {i r ci fk : Nat} {x : Int32} (hd : decode cc pc = .ok (.getfield i, 3)) (hw : GFok own i ci fk) (hx : gI h r ci fk = some x) (K : AW X cc nL own R Qm k n adr h (pc + 3) L (.int x :: st)) : AW X cc nL own R Qm k n adr h pc L (.ref r :: st) := aw_get hd hw (gI_some hx) K
theorem aw_getR {i r ci fk x : Nat} (hd : decode cc pc = .ok (.getfield i, 3)) (hw : GFok own i ci fk) (hx : gR h r ci fk = some x) (K : AW X cc nL own R Qm k n adr h (pc + 3) L (.ref x :: st)) : AW X cc nL own R Qm k n adr h pc L (.ref r :: st) := aw_get hd hw (gR_some hx) K
theorem aw_putI {i r ci fk : Nat} {x : Int32} {h' : Hp} (hd : decode cc pc = .ok (.putfield i, 3)) (hw : PFok own i ci fk .int) (hx : pI h r ci fk x = some h') (K : AW X cc nL own R Qm k n adr h' (pc + 3) L st) : AW X cc nL own R Qm k n adr h pc L (.int x :: .ref r :: st) := aw_put hd hw (fun _ => ⟨rfl, rfl⟩) hx K
theorem aw_putZ {i r ci fk : Nat} {x : Int32} {h' : Hp} (hd : decode cc pc = .ok (.putfield i, 3)) (hw : PFok own i ci fk .boolean) (hx : pZ h r ci fk x = some h') (K : AW X cc nL own R Qm k n adr h' (pc + 3) L st) : AW X cc nL own R Qm k n adr h pc L (.int x :: .ref r :: st) := by
  unfold pZ at hx
  split at hx
  · rename_i hz
    refine aw_put hd hw (fun _ => ?_) hx K
    show narrow .boolean (.int x) = .int x ∧ fits .boolean (.int x) = true
    rcases hz with rfl | rfl
    · exact ⟨by decide, by decide⟩
    · exact ⟨by decide, by decide⟩
  · cases hx
variable {i d b nL' : Nat} {y : MethodName} {cc' : ByteArray} {ret : Option FieldType} {as stk : List Value} {v : Value} {h' : Hp}
theorem aw_cV {ci N : Nat} {T : u_T} {u : Unit} (hd : decode cc pc = .ok (.invokevirtual i, 3)) (hm : MOk y cc' nL' ret as.length) (hv : VOk y) (hw : Cond.methodLink own i y ∈ lw_good) (hb : ck h b ci = some u) (hc : vwCl[ci]? = some (y.cls, T, N)) (hr : d + 1 ≤ R.frames ∧ 8 + (nL' + 11) + 64 * d ≤ R.locals) (hkn : k ≤ R.cells ∧ n ≤ R.slots) (hcat : (st.map fun v => v.category).sum ≤ 8) (hst : stk = as.reverse ++ .ref b :: st) (M : Mt d y cc' nL' ret (.ref b :: as) h (some v) h')
    (K : AW X cc nL own R Qm k n adr h' (pc + 3) L (v :: st)) : AW X cc nL own R Qm k n adr h pc L stk := aw_virtK hd hm hv hw hb hc hr hkn hcat hst M K
theorem aw_cV0 {ci N : Nat} {T : u_T} {u : Unit} (hd : decode cc pc = .ok (.invokevirtual i, 3)) (hm : MOk y cc' nL' ret as.length) (hv : VOk y) (hw : Cond.methodLink own i y ∈ lw_good) (hb : ck h b ci = some u) (hc : vwCl[ci]? = some (y.cls, T, N)) (hr : d + 1 ≤ R.frames ∧ 8 + (nL' + 11) + 64 * d ≤ R.locals) (hkn : k ≤ R.cells ∧ n ≤ R.slots) (hcat : (st.map fun v => v.category).sum ≤ 8) (hst : stk = as.reverse ++ .ref b :: st) (M : Mt d y cc' nL' ret (.ref b :: as) h none h')
    (K : AW X cc nL own R Qm k n adr h' (pc + 3) L st) : AW X cc nL own R Qm k n adr h pc L stk := aw_virtK hd hm hv hw hb hc hr hkn hcat hst M K
theorem aw_cN {ci N : Nat} {T : u_T} {u : Unit} {host : String} (hd : decode cc pc = .ok (.invokevirtual i, 3)) (hm : MOk y cc' nL' ret as.length) (hv : VOk y) (hw : (own, i, y, host) ∈ nestM) (hb : ck h b ci = some u) (hc : vwCl[ci]? = some (y.cls, T, N)) (hr : d + 1 ≤ R.frames ∧ 8 + (nL' + 11) + 64 * d ≤ R.locals) (hkn : k ≤ R.cells ∧ n ≤ R.slots) (hcat : (st.map fun v => v.category).sum ≤ 8) (hst : stk = as.reverse ++ .ref b :: st) (M : Mt d y cc' nL' ret (.ref b :: as) h (some v) h')
    (K : AW X cc nL own R Qm k n adr h' (pc + 3) L (v :: st)) : AW X cc nL own R Qm k n adr h pc L stk := aw_virtNK hd hm hv hw hb hc hr hkn hcat hst M K
theorem aw_cS (hd : decode cc pc = .ok (.invokestatic i, 3)) (hm : MOk y cc' nL' ret as.length) (hv : Cond.static y ∈ lw_good) (hw : Cond.methodLink own i y ∈ lw_good) (hr : d + 1 ≤ R.frames ∧ 8 + (nL' + 11) + 64 * d ≤ R.locals) (hkn : k ≤ R.cells ∧ n ≤ R.slots) (hcat : (st.map fun v => v.category).sum ≤ 8) (hst : stk = as.reverse ++ st) (M : Mt d y cc' nL' ret as h (some v) h')
    (K : AW X cc nL own R Qm k n adr h' (pc + 3) L (v :: st)) : AW X cc nL own R Qm k n adr h pc L stk := aw_stat hd hm hv hw hr hkn hcat hst M K
theorem aw_cS0 (hd : decode cc pc = .ok (.invokestatic i, 3)) (hm : MOk y cc' nL' ret as.length) (hv : Cond.static y ∈ lw_good) (hw : Cond.methodLink own i y ∈ lw_good) (hr : d + 1 ≤ R.frames ∧ 8 + (nL' + 11) + 64 * d ≤ R.locals) (hkn : k ≤ R.cells ∧ n ≤ R.slots) (hcat : (st.map fun v => v.category).sum ≤ 8) (hst : stk = as.reverse ++ st) (M : Mt d y cc' nL' ret as h none h')
    (K : AW X cc nL own R Qm k n adr h' (pc + 3) L st) : AW X cc nL own R Qm k n adr h pc L stk := aw_stat hd hm hv hw hr hkn hcat hst M K
theorem aw_cSN {host : String} (hd : decode cc pc = .ok (.invokestatic i, 3)) (hm : MOk y cc' nL' ret as.length) (hv : Cond.static y ∈ lw_good) (hw : (own, i, y, host) ∈ nestM) (hr : d + 1 ≤ R.frames ∧ 8 + (nL' + 11) + 64 * d ≤ R.locals) (hkn : k ≤ R.cells ∧ n ≤ R.slots) (hcat : (st.map fun v => v.category).sum ≤ 8) (hst : stk = as.reverse ++ st) (M : Mt d y cc' nL' ret as h (some v) h')
    (K : AW X cc nL own R Qm k n adr h' (pc + 3) L (v :: st)) : AW X cc nL own R Qm k n adr h pc L stk := aw_statN hd hm hv hw hr hkn hcat hst M K
end AWX
end
section
set_option maxRecDepth 100000 in
theorem lkX0_33 : Cond.fieldLink RX0 33 RX0 (TX0 0).2.1 (TX0 0).2.2.1 ∈ lw_good := lw_m1 56 rfl rfl
set_option maxRecDepth 100000 in
theorem gfX0_33 : GFok RX0 33 0 0 := ⟨RX0, TX0, 10, rfl, by decide, inlX0, lkX0_33, rfl, tyX0, tyX0_ok, nmX0⟩
set_option maxRecDepth 100000 in
theorem neX0 : RX0 ≠ "java/lang/invoke/MethodHandle" ∧ RX0 ≠ "java/lang/invoke/VarHandle" := by decide +kernel
set_option maxRecDepth 100000 in
theorem wnX0 : Cond.initialized RX0 ∈ lw_good := lw_m1 3 rfl rfl
set_option maxRecDepth 100000 in
theorem ds_0 : (parseMethodDescriptor "(I)Z").map (fun d => d.parameters.length) = some 1 := by decide +kernel
set_option maxRecDepth 100000 in
theorem moX0_hasTeam : MOk yX0_hasTeam cX0_hasTeam 2 (some .boolean) 1 := ⟨lw_m2 141 rfl rfl, wnX0, neX0.1, neX0.2, ds_0⟩
set_option maxRecDepth 100000 in
theorem mlX0_65 : Cond.methodLink RX0 65 yX0_hasTeam ∈ lw_good := lw_m2 138 rfl rfl
set_option maxRecDepth 100000 in
theorem voX0_hasTeam : VOk yX0_hasTeam := ⟨lw_m2 139 rfl rfl, lw_m2 140 rfl rfl⟩
set_option maxRecDepth 100000 in
theorem lkX0_37 : Cond.fieldLink RX0 37 RX0 (TX0 1).2.1 (TX0 1).2.2.1 ∈ lw_good := lw_m1 59 rfl rfl
set_option maxRecDepth 100000 in
theorem gfX0_37 : GFok RX0 37 0 1 := ⟨RX0, TX0, 10, rfl, by decide, inlX0, lkX0_37, rfl, tyX0, tyX0_ok, nmX0⟩
set_option maxRecDepth 100000 in
theorem lkX0_21 : Cond.fieldLink RX0 21 RX0 (TX0 6).2.1 (TX0 6).2.2.1 ∈ lw_good := lw_m1 71 rfl rfl
set_option maxRecDepth 100000 in
theorem gfX0_21 : GFok RX0 21 0 6 := ⟨RX0, TX0, 10, rfl, by decide, inlX0, lkX0_21, rfl, tyX0, tyX0_ok, nmX0⟩
set_option maxRecDepth 100000 in
theorem lkX0_24 : Cond.fieldLink RX0 24 RX0 (TX0 7).2.1 (TX0 7).2.2.1 ∈ lw_good := lw_m1 75 rfl rfl
set_option maxRecDepth 100000 in
theorem gfX0_24 : GFok RX0 24 0 7 := ⟨RX0, TX0, 10, rfl, by decide, inlX0, lkX0_24, rfl, tyX0, tyX0_ok, nmX0⟩
set_option maxRecDepth 100000 in
theorem lkX0_27 : Cond.fieldLink RX0 27 RX0 (TX0 8).2.1 (TX0 8).2.2.1 ∈ lw_good := lw_m1 79 rfl rfl
set_option maxRecDepth 100000 in
theorem gfX0_27 : GFok RX0 27 0 8 := ⟨RX0, TX0, 10, rfl, by decide, inlX0, lkX0_27, rfl, tyX0, tyX0_ok, nmX0⟩
set_option maxRecDepth 100000 in
theorem lkX0_30 : Cond.fieldLink RX0 30 RX0 (TX0 9).2.1 (TX0 9).2.2.1 ∈ lw_good := lw_m1 81 rfl rfl
set_option maxRecDepth 100000 in
theorem gfX0_30 : GFok RX0 30 0 9 := ⟨RX0, TX0, 10, rfl, by decide, inlX0, lkX0_30, rfl, tyX0, tyX0_ok, nmX0⟩
set_option maxRecDepth 100000 in
theorem pfX0_37 : PFok RX0 37 0 1 .int := ⟨gfX0_37, fun C T N h => by cases h; exact ⟨rfl, tyX0_ok 1 (by decide)⟩⟩
set_option maxRecDepth 100000 in
theorem lkX0_15 : Cond.fieldLink RX0 15 RX0 (TX0 4).2.1 (TX0 4).2.2.1 ∈ lw_good := lw_m1 68 rfl rfl
set_option maxRecDepth 100000 in
theorem gfX0_15 : GFok RX0 15 0 4 := ⟨RX0, TX0, 10, rfl, by decide, inlX0, lkX0_15, rfl, tyX0, tyX0_ok, nmX0⟩
set_option maxRecDepth 100000 in
theorem lkX0_9 : Cond.fieldLink RX0 9 RX0 (TX0 3).2.1 (TX0 3).2.2.1 ∈ lw_good := lw_m1 66 rfl rfl
set_option maxRecDepth 100000 in
theorem gfX0_9 : GFok RX0 9 0 3 := ⟨RX0, TX0, 10, rfl, by decide, inlX0, lkX0_9, rfl, tyX0, tyX0_ok, nmX0⟩
set_option maxRecDepth 100000 in
theorem pfX0_33 : PFok RX0 33 0 0 .int := ⟨gfX0_33, fun C T N h => by cases h; exact ⟨rfl, tyX0_ok 0 (by decide)⟩⟩
set_option maxRecDepth 100000 in
theorem lkX0_18 : Cond.fieldLink RX0 18 RX0 (TX0 5).2.1 (TX0 5).2.2.1 ∈ lw_good := lw_m1 70 rfl rfl
set_option maxRecDepth 100000 in
theorem gfX0_18 : GFok RX0 18 0 5 := ⟨RX0, TX0, 10, rfl, by decide, inlX0, lkX0_18, rfl, tyX0, tyX0_ok, nmX0⟩
set_option maxRecDepth 100000 in
theorem kfX0_49 : (RX0, 49, "StillInIt", "WON", "[I", "StillInIt") ∈ nestF := by decide +kernel
set_option maxRecDepth 100000 in
theorem lkX0_40 : Cond.fieldLink RX0 40 RX0 (TX0 2).2.1 (TX0 2).2.2.1 ∈ lw_good := lw_m1 64 rfl rfl
set_option maxRecDepth 100000 in
theorem gfX0_40 : GFok RX0 40 0 2 := ⟨RX0, TX0, 10, rfl, by decide, inlX0, lkX0_40, rfl, tyX0, tyX0_ok, nmX0⟩
set_option maxRecDepth 100000 in
theorem kfX0_52 : (RX0, 52, "StillInIt", "DRAWN", "[I", "StillInIt") ∈ nestF := by decide +kernel
set_option maxRecDepth 100000 in
theorem kfX0_58 : (RX0, 58, "StillInIt", "FIRST_RESULT", "[I", "StillInIt") ∈ nestF := by decide +kernel
set_option maxRecDepth 100000 in
theorem kfX0_55 : (RX0, 55, "StillInIt", "LEAST", "[I", "StillInIt") ∈ nestF := by decide +kernel
set_option maxRecDepth 100000 in
theorem moX0_isLeft : MOk yX0_isLeft cX0_isLeft 2 (some .boolean) 1 := ⟨lw_m2 154 rfl rfl, wnX0, neX0.1, neX0.2, ds_0⟩
set_option maxRecDepth 100000 in
theorem mlX0_69 : Cond.methodLink RX0 69 yX0_isLeft ∈ lw_good := lw_m2 151 rfl rfl
set_option maxRecDepth 100000 in
theorem voX0_isLeft : VOk yX0_isLeft := ⟨lw_m2 152 rfl rfl, lw_m2 153 rfl rfl⟩
set_option maxRecDepth 100000 in
theorem ds_1 : (parseMethodDescriptor "(II)I").map (fun d => d.parameters.length) = some 2 := by decide +kernel
set_option maxRecDepth 100000 in
theorem moX0_foe : MOk yX0_foe cX0_foe 3 (some .int) 2 := ⟨lw_m2 158 rfl rfl, wnX0, neX0.1, neX0.2, ds_1⟩
set_option maxRecDepth 100000 in
theorem mlX0_72 : Cond.methodLink RX0 72 yX0_foe ∈ lw_good := lw_m2 155 rfl rfl
set_option maxRecDepth 100000 in
theorem voX0_foe : VOk yX0_foe := ⟨lw_m2 156 rfl rfl, lw_m2 157 rfl rfl⟩
set_option maxRecDepth 100000 in
theorem ds_2 : (parseMethodDescriptor "([IIII)V").map (fun d => d.parameters.length) = some 4 := by decide +kernel
set_option maxRecDepth 100000 in
theorem moX0_award : MOk yX0_award cX0_award 5 none 4 := ⟨lw_m2 209 rfl rfl, wnX0, neX0.1, neX0.2, ds_2⟩
set_option maxRecDepth 100000 in
theorem mlX0_76 : Cond.methodLink RX0 76 yX0_award ∈ lw_good := lw_m2 206 rfl rfl
set_option maxRecDepth 100000 in
theorem voX0_award : VOk yX0_award := ⟨lw_m2 207 rfl rfl, lw_m2 208 rfl rfl⟩
set_option maxRecDepth 100000 in
theorem pfX0_40 : PFok RX0 40 0 2 .int := ⟨gfX0_40, fun C T N h => by cases h; exact ⟨rfl, tyX0_ok 2 (by decide)⟩⟩
set_option maxRecDepth 100000 in
theorem mlX0_43 : Cond.methodLink RX0 43 arraycopyName ∈ lw_good := lw_m3 143 rfl rfl
set_option maxRecDepth 100000 in
theorem ds_3 : (parseMethodDescriptor "(I[III)Z").map (fun d => d.parameters.length) = some 4 := by decide +kernel
set_option maxRecDepth 100000 in
theorem moX0_isNamed : MOk yX0_isNamed cX0_isNamed 6 (some .boolean) 4 := ⟨lw_m2 102 rfl rfl, wnX0, neX0.1, neX0.2, ds_3⟩
set_option maxRecDepth 100000 in
theorem mlX0_61 : Cond.methodLink RX0 61 yX0_isNamed ∈ lw_good := lw_m2 99 rfl rfl
set_option maxRecDepth 100000 in
theorem voX0_isNamed : VOk yX0_isNamed := ⟨lw_m2 101 rfl rfl, lw_mem 3 rfl rfl⟩
set_option maxRecDepth 100000 in
theorem lkX1_33 : Cond.fieldLink RX1 33 RX1 (TX1 6).2.1 (TX1 6).2.2.1 ∈ lw_good := lw_m1 140 rfl rfl
set_option maxRecDepth 100000 in
theorem gfX1_33 : GFok RX1 33 1 6 := ⟨RX1, TX1, 9, rfl, by decide, inlX1, lkX1_33, rfl, tyX1, tyX1_ok, nmX1⟩
set_option maxRecDepth 100000 in
theorem lkX1_60 : Cond.fieldLink RX1 60 RX1 (TX1 5).2.1 (TX1 5).2.2.1 ∈ lw_good := lw_m1 139 rfl rfl
set_option maxRecDepth 100000 in
theorem gfX1_60 : GFok RX1 60 1 5 := ⟨RX1, TX1, 9, rfl, by decide, inlX1, lkX1_60, rfl, tyX1, tyX1_ok, nmX1⟩
set_option maxRecDepth 100000 in
theorem lkX1_9 : Cond.fieldLink RX1 9 RX1 (TX1 0).2.1 (TX1 0).2.2.1 ∈ lw_good := lw_m1 134 rfl rfl
set_option maxRecDepth 100000 in
theorem gfX1_9 : GFok RX1 9 1 0 := ⟨RX1, TX1, 9, rfl, by decide, inlX1, lkX1_9, rfl, tyX1, tyX1_ok, nmX1⟩
set_option maxRecDepth 100000 in
theorem lkX1_15 : Cond.fieldLink RX1 15 RX1 (TX1 1).2.1 (TX1 1).2.2.1 ∈ lw_good := lw_m1 135 rfl rfl
set_option maxRecDepth 100000 in
theorem gfX1_15 : GFok RX1 15 1 1 := ⟨RX1, TX1, 9, rfl, by decide, inlX1, lkX1_15, rfl, tyX1, tyX1_ok, nmX1⟩
set_option maxRecDepth 100000 in
theorem lkX1_18 : Cond.fieldLink RX1 18 RX1 (TX1 2).2.1 (TX1 2).2.2.1 ∈ lw_good := lw_m1 136 rfl rfl
set_option maxRecDepth 100000 in
theorem gfX1_18 : GFok RX1 18 1 2 := ⟨RX1, TX1, 9, rfl, by decide, inlX1, lkX1_18, rfl, tyX1, tyX1_ok, nmX1⟩
set_option maxRecDepth 100000 in
theorem lkX1_24 : Cond.fieldLink RX1 24 RX1 (TX1 4).2.1 (TX1 4).2.2.1 ∈ lw_good := lw_m1 138 rfl rfl
set_option maxRecDepth 100000 in
theorem gfX1_24 : GFok RX1 24 1 4 := ⟨RX1, TX1, 9, rfl, by decide, inlX1, lkX1_24, rfl, tyX1, tyX1_ok, nmX1⟩
set_option maxRecDepth 100000 in
theorem neX1 : RX1 ≠ "java/lang/invoke/MethodHandle" ∧ RX1 ≠ "java/lang/invoke/VarHandle" := by decide +kernel
set_option maxRecDepth 100000 in
theorem wnX1 : Cond.initialized RX1 ∈ lw_good := lw_m1 5 rfl rfl
set_option maxRecDepth 100000 in
theorem moX1_fits : MOk yX1_fits cX1_fits 2 (some .boolean) 1 := ⟨lw_m3 71 rfl rfl, wnX1, neX1.1, neX1.2, ds_0⟩
set_option maxRecDepth 100000 in
theorem mlX1_84 : Cond.methodLink RX1 84 yX1_fits ∈ lw_good := lw_m3 68 rfl rfl
set_option maxRecDepth 100000 in
theorem voX1_fits : VOk yX1_fits := ⟨lw_m3 70 rfl rfl, lw_mem 14 rfl rfl⟩
set_option maxRecDepth 100000 in
theorem lkX1_40 : Cond.fieldLink RX1 40 RX1 (TX1 7).2.1 (TX1 7).2.2.1 ∈ lw_good := lw_m1 141 rfl rfl
set_option maxRecDepth 100000 in
theorem gfX1_40 : GFok RX1 40 1 7 := ⟨RX1, TX1, 9, rfl, by decide, inlX1, lkX1_40, rfl, tyX1, tyX1_ok, nmX1⟩
set_option maxRecDepth 100000 in
theorem ds_4 : (parseMethodDescriptor "(III)Z").map (fun d => d.parameters.length) = some 3 := by decide +kernel
set_option maxRecDepth 100000 in
theorem moX1_fitsWon : MOk yX1_fitsWon cX1_fitsWon 5 (some .boolean) 3 := ⟨lw_m3 75 rfl rfl, wnX1, neX1.1, neX1.2, ds_4⟩
set_option maxRecDepth 100000 in
theorem mlX1_87 : Cond.methodLink RX1 87 yX1_fitsWon ∈ lw_good := lw_m3 72 rfl rfl
set_option maxRecDepth 100000 in
theorem voX1_fitsWon : VOk yX1_fitsWon := ⟨lw_m3 74 rfl rfl, lw_mem 15 rfl rfl⟩
set_option maxRecDepth 100000 in
theorem ds_5 : (parseMethodDescriptor "(II)Z").map (fun d => d.parameters.length) = some 2 := by decide +kernel
set_option maxRecDepth 100000 in
theorem moX1_hasRoomForAll : MOk yX1_hasRoomForAll cX1_hasRoomForAll 5 (some .boolean) 2 := ⟨lw_m3 79 rfl rfl, wnX1, neX1.1, neX1.2, ds_5⟩
set_option maxRecDepth 100000 in
theorem mlX1_91 : Cond.methodLink RX1 91 yX1_hasRoomForAll ∈ lw_good := lw_m3 76 rfl rfl
set_option maxRecDepth 100000 in
theorem voX1_hasRoomForAll : VOk yX1_hasRoomForAll := ⟨lw_m3 78 rfl rfl, lw_mem 16 rfl rfl⟩
set_option maxRecDepth 100000 in
theorem lkX1_46 : Cond.fieldLink RX1 46 RX1 (TX1 8).2.1 (TX1 8).2.2.1 ∈ lw_good := lw_m1 142 rfl rfl
set_option maxRecDepth 100000 in
theorem gfX1_46 : GFok RX1 46 1 8 := ⟨RX1, TX1, 9, rfl, by decide, inlX1, lkX1_46, rfl, tyX1, tyX1_ok, nmX1⟩
set_option maxRecDepth 100000 in
theorem moX1_fitsDrawn : MOk yX1_fitsDrawn cX1_fitsDrawn 5 (some .boolean) 1 := ⟨lw_m3 83 rfl rfl, wnX1, neX1.1, neX1.2, ds_0⟩
set_option maxRecDepth 100000 in
theorem mlX1_94 : Cond.methodLink RX1 94 yX1_fitsDrawn ∈ lw_good := lw_m3 80 rfl rfl
set_option maxRecDepth 100000 in
theorem voX1_fitsDrawn : VOk yX1_fitsDrawn := ⟨lw_m3 82 rfl rfl, lw_mem 17 rfl rfl⟩
set_option maxRecDepth 100000 in
theorem lkX1_21 : Cond.fieldLink RX1 21 RX1 (TX1 3).2.1 (TX1 3).2.2.1 ∈ lw_good := lw_m1 137 rfl rfl
set_option maxRecDepth 100000 in
theorem gfX1_21 : GFok RX1 21 1 3 := ⟨RX1, TX1, 9, rfl, by decide, inlX1, lkX1_21, rfl, tyX1, tyX1_ok, nmX1⟩
set_option maxRecDepth 100000 in
theorem pfX1_60 : PFok RX1 60 1 5 .int := ⟨gfX1_60, fun C T N h => by cases h; exact ⟨rfl, tyX1_ok 5 (by decide)⟩⟩
set_option maxRecDepth 100000 in
theorem neX6 : RX6 ≠ "java/lang/invoke/MethodHandle" ∧ RX6 ≠ "java/lang/invoke/VarHandle" := by decide +kernel
set_option maxRecDepth 100000 in
theorem wnX6 : Cond.initialized RX6 ∈ lw_good := lw_m1 1 rfl rfl
set_option maxRecDepth 100000 in
theorem moX6_has : MOk yX6_has cX6_has 2 (some .boolean) 2 := ⟨lw_m3 29 rfl rfl, wnX6, neX6.1, neX6.2, ds_5⟩
set_option maxRecDepth 100000 in
theorem mnX1_80 : (RX1, 80, yX6_has, "StillInIt") ∈ nestM := by decide +kernel
set_option maxRecDepth 100000 in
theorem soX6_has : Cond.static yX6_has ∈ lw_good := lw_m3 28 rfl rfl
set_option maxRecDepth 100000 in
theorem ds_6 : (parseMethodDescriptor "(III)V").map (fun d => d.parameters.length) = some 3 := by decide +kernel
set_option maxRecDepth 100000 in
theorem moX1_enter : MOk yX1_enter cX1_enter 4 none 3 := ⟨lw_m3 62 rfl rfl, wnX1, neX1.1, neX1.2, ds_6⟩
set_option maxRecDepth 100000 in
theorem mlX1_76 : Cond.methodLink RX1 76 yX1_enter ∈ lw_good := lw_m3 59 rfl rfl
set_option maxRecDepth 100000 in
theorem voX1_enter : VOk yX1_enter := ⟨lw_m3 61 rfl rfl, lw_mem 13 rfl rfl⟩
set_option maxRecDepth 100000 in
theorem pfX1_46 : PFok RX1 46 1 8 .boolean := ⟨gfX1_46, fun C T N h => by cases h; exact ⟨rfl, tyX1_ok 8 (by decide)⟩⟩
set_option maxRecDepth 100000 in
theorem kcJ6_265 : Cond.constant RJ6 265 (1431655765) ∈ lw_good := lw_m2 229 rfl rfl
set_option maxRecDepth 100000 in
theorem kcJ6_266 : Cond.constant RJ6 266 (858993459) ∈ lw_good := lw_m2 230 rfl rfl
set_option maxRecDepth 100000 in
theorem kcJ6_267 : Cond.constant RJ6 267 (252645135) ∈ lw_good := lw_m2 231 rfl rfl
set_option maxRecDepth 100000 in
theorem lkX1_63 : Cond.fieldLink RX1 63 RX0 (TX0 1).2.1 (TX0 1).2.2.1 ∈ lw_good := lw_m1 61 rfl rfl
set_option maxRecDepth 100000 in
theorem gfX1_63 : GFok RX1 63 0 1 := ⟨RX0, TX0, 10, rfl, by decide, inlX0, lkX1_63, rfl, tyX0, tyX0_ok, nmX0⟩
set_option maxRecDepth 100000 in
theorem mlX1_66 : Cond.methodLink RX1 66 yX0_isLeft ∈ lw_good := lw_m3 57 rfl rfl
set_option maxRecDepth 100000 in
theorem mlX1_70 : Cond.methodLink RX1 70 yX0_foe ∈ lw_good := lw_m3 58 rfl rfl
set_option maxRecDepth 100000 in
theorem lkX1_74 : Cond.fieldLink RX1 74 RX0 (TX0 6).2.1 (TX0 6).2.2.1 ∈ lw_good := lw_m1 72 rfl rfl
set_option maxRecDepth 100000 in
theorem gfX1_74 : GFok RX1 74 0 6 := ⟨RX0, TX0, 10, rfl, by decide, inlX0, lkX1_74, rfl, tyX0, tyX0_ok, nmX0⟩
set_option maxRecDepth 100000 in
theorem lkX1_75 : Cond.fieldLink RX1 75 RX0 (TX0 7).2.1 (TX0 7).2.2.1 ∈ lw_good := lw_m1 76 rfl rfl
set_option maxRecDepth 100000 in
theorem gfX1_75 : GFok RX1 75 0 7 := ⟨RX0, TX0, 10, rfl, by decide, inlX0, lkX1_75, rfl, tyX0, tyX0_ok, nmX0⟩
set_option maxRecDepth 100000 in
theorem ds_7 : (parseMethodDescriptor "([I)V").map (fun d => d.parameters.length) = some 1 := by decide +kernel
set_option maxRecDepth 100000 in
theorem moX0_pointsInto : MOk yX0_pointsInto cX0_pointsInto 3 none 1 := ⟨lw_m2 205 rfl rfl, wnX0, neX0.1, neX0.2, ds_7⟩
set_option maxRecDepth 100000 in
theorem mlX1_50 : Cond.methodLink RX1 50 yX0_pointsInto ∈ lw_good := lw_m3 55 rfl rfl
set_option maxRecDepth 100000 in
theorem voX0_pointsInto : VOk yX0_pointsInto := ⟨lw_m2 203 rfl rfl, lw_m2 204 rfl rfl⟩
set_option maxRecDepth 100000 in
theorem neJ6 : RJ6 ≠ "java/lang/invoke/MethodHandle" ∧ RJ6 ≠ "java/lang/invoke/VarHandle" := by decide +kernel
set_option maxRecDepth 100000 in
theorem wnJ6 : Cond.initialized RJ6 ∈ lw_good := lw_m1 13 rfl rfl
set_option maxRecDepth 100000 in
theorem ds_8 : (parseMethodDescriptor "(I)I").map (fun d => d.parameters.length) = some 1 := by decide +kernel
set_option maxRecDepth 100000 in
theorem moJ6_bitCount_0f7a4 : MOk yJ6_bitCount_0f7a4 cJ6_bitCount_0f7a4 1 (some .int) 1 := ⟨lw_m2 228 rfl rfl, wnJ6, neJ6.1, neJ6.2, ds_8⟩
set_option maxRecDepth 100000 in
theorem mlX1_54 : Cond.methodLink RX1 54 yJ6_bitCount_0f7a4 ∈ lw_good := lw_m3 56 rfl rfl
set_option maxRecDepth 100000 in
theorem soJ6_bitCount_0f7a4 : Cond.static yJ6_bitCount_0f7a4 ∈ lw_good := lw_m2 227 rfl rfl
set_option maxRecDepth 100000 in
theorem ds_9 : (parseMethodDescriptor "()I").map (fun d => d.parameters.length) = some 0 := by decide +kernel
set_option maxRecDepth 100000 in
theorem moX0_winBrings : MOk yX0_winBrings cX0_winBrings 1 (some .int) 0 := ⟨lw_m2 221 rfl rfl, wnX0, neX0.1, neX0.2, ds_9⟩
set_option maxRecDepth 100000 in
theorem mlX1_27 : Cond.methodLink RX1 27 yX0_winBrings ∈ lw_good := lw_m3 44 rfl rfl
set_option maxRecDepth 100000 in
theorem voX0_winBrings : VOk yX0_winBrings := ⟨lw_m2 219 rfl rfl, lw_m2 220 rfl rfl⟩
set_option maxRecDepth 100000 in
theorem pfX1_33 : PFok RX1 33 1 6 .int := ⟨gfX1_33, fun C T N h => by cases h; exact ⟨rfl, tyX1_ok 6 (by decide)⟩⟩
set_option maxRecDepth 100000 in
theorem moX0_drawBrings : MOk yX0_drawBrings cX0_drawBrings 1 (some .int) 0 := ⟨lw_m3 48 rfl rfl, wnX0, neX0.1, neX0.2, ds_9⟩
set_option maxRecDepth 100000 in
theorem mlX1_37 : Cond.methodLink RX1 37 yX0_drawBrings ∈ lw_good := lw_m3 45 rfl rfl
set_option maxRecDepth 100000 in
theorem voX0_drawBrings : VOk yX0_drawBrings := ⟨lw_m3 46 rfl rfl, lw_m3 47 rfl rfl⟩
set_option maxRecDepth 100000 in
theorem pfX1_40 : PFok RX1 40 1 7 .int := ⟨gfX1_40, fun C T N h => by cases h; exact ⟨rfl, tyX1_ok 7 (by decide)⟩⟩
set_option maxRecDepth 100000 in
theorem moX0_firstResult : MOk yX0_firstResult cX0_firstResult 1 (some .int) 0 := ⟨lw_m3 52 rfl rfl, wnX0, neX0.1, neX0.2, ds_9⟩
set_option maxRecDepth 100000 in
theorem mlX1_43 : Cond.methodLink RX1 43 yX0_firstResult ∈ lw_good := lw_m3 49 rfl rfl
set_option maxRecDepth 100000 in
theorem voX0_firstResult : VOk yX0_firstResult := ⟨lw_m3 50 rfl rfl, lw_m3 51 rfl rfl⟩
set_option maxRecDepth 100000 in
theorem lkX2_9 : Cond.fieldLink RX2 9 RX2 (TX2 0).2.1 (TX2 0).2.2.1 ∈ lw_good := lw_m1 192 rfl rfl
set_option maxRecDepth 100000 in
theorem gfX2_9 : GFok RX2 9 2 0 := ⟨RX2, TX2, 3, rfl, by decide, inlX2, lkX2_9, rfl, tyX2, tyX2_ok, nmX2⟩
set_option maxRecDepth 100000 in
theorem lkX2_15 : Cond.fieldLink RX2 15 RX2 (TX2 1).2.1 (TX2 1).2.2.1 ∈ lw_good := lw_m1 195 rfl rfl
set_option maxRecDepth 100000 in
theorem gfX2_15 : GFok RX2 15 2 1 := ⟨RX2, TX2, 3, rfl, by decide, inlX2, lkX2_15, rfl, tyX2, tyX2_ok, nmX2⟩
set_option maxRecDepth 100000 in
theorem pfX2_15 : PFok RX2 15 2 1 .int := ⟨gfX2_15, fun C T N h => by cases h; exact ⟨rfl, tyX2_ok 1 (by decide)⟩⟩
set_option maxRecDepth 100000 in
theorem lkX2_19 : Cond.fieldLink RX2 19 RX2 (TX2 2).2.1 (TX2 2).2.2.1 ∈ lw_good := lw_m1 197 rfl rfl
set_option maxRecDepth 100000 in
theorem gfX2_19 : GFok RX2 19 2 2 := ⟨RX2, TX2, 3, rfl, by decide, inlX2, lkX2_19, rfl, tyX2, tyX2_ok, nmX2⟩
set_option maxRecDepth 100000 in
theorem pfX2_19 : PFok RX2 19 2 2 .int := ⟨gfX2_19, fun C T N h => by cases h; exact ⟨rfl, tyX2_ok 2 (by decide)⟩⟩
set_option maxRecDepth 100000 in
theorem lkX3_57 : Cond.fieldLink RX3 57 RX3 (TX3 2).2.1 (TX3 2).2.2.1 ∈ lw_good := lw_m1 112 rfl rfl
set_option maxRecDepth 100000 in
theorem gfX3_57 : GFok RX3 57 3 2 := ⟨RX3, TX3, 5, rfl, by decide, inlX3, lkX3_57, rfl, tyX3, tyX3_ok, nmX3⟩
set_option maxRecDepth 100000 in
theorem lkX3_15 : Cond.fieldLink RX3 15 RX3 (TX3 1).2.1 (TX3 1).2.2.1 ∈ lw_good := lw_m1 111 rfl rfl
set_option maxRecDepth 100000 in
theorem gfX3_15 : GFok RX3 15 3 1 := ⟨RX3, TX3, 5, rfl, by decide, inlX3, lkX3_15, rfl, tyX3, tyX3_ok, nmX3⟩
set_option maxRecDepth 100000 in
theorem moX0_leastGiven : MOk yX0_leastGiven cX0_leastGiven 1 (some .int) 0 := ⟨lw_m3 37 rfl rfl, wnX0, neX0.1, neX0.2, ds_9⟩
set_option maxRecDepth 100000 in
theorem mlX3_77 : Cond.methodLink RX3 77 yX0_leastGiven ∈ lw_good := lw_m3 34 rfl rfl
set_option maxRecDepth 100000 in
theorem voX0_leastGiven : VOk yX0_leastGiven := ⟨lw_m3 35 rfl rfl, lw_m3 36 rfl rfl⟩
set_option maxRecDepth 100000 in
theorem lkX3_29 : Cond.fieldLink RX3 29 RX0 (TX0 0).2.1 (TX0 0).2.2.1 ∈ lw_good := lw_m1 57 rfl rfl
set_option maxRecDepth 100000 in
theorem gfX3_29 : GFok RX3 29 0 0 := ⟨RX0, TX0, 10, rfl, by decide, inlX0, lkX3_29, rfl, tyX0, tyX0_ok, nmX0⟩
set_option maxRecDepth 100000 in
theorem mnX3_32 : (RX3, 32, yX6_has, "StillInIt") ∈ nestM := by decide +kernel
set_option maxRecDepth 100000 in
theorem lkX3_9 : Cond.fieldLink RX3 9 RX3 (TX3 0).2.1 (TX3 0).2.2.1 ∈ lw_good := lw_m1 110 rfl rfl
set_option maxRecDepth 100000 in
theorem gfX3_9 : GFok RX3 9 3 0 := ⟨RX3, TX3, 5, rfl, by decide, inlX3, lkX3_9, rfl, tyX3, tyX3_ok, nmX3⟩
set_option maxRecDepth 100000 in
theorem lkX3_60 : Cond.fieldLink RX3 60 RX0 (TX0 1).2.1 (TX0 1).2.2.1 ∈ lw_good := lw_m1 62 rfl rfl
set_option maxRecDepth 100000 in
theorem gfX3_60 : GFok RX3 60 0 1 := ⟨RX0, TX0, 10, rfl, by decide, inlX0, lkX3_60, rfl, tyX0, tyX0_ok, nmX0⟩
set_option maxRecDepth 100000 in
theorem mlX3_63 : Cond.methodLink RX3 63 yX0_isLeft ∈ lw_good := lw_m3 25 rfl rfl
set_option maxRecDepth 100000 in
theorem mlX3_67 : Cond.methodLink RX3 67 yX0_foe ∈ lw_good := lw_m3 26 rfl rfl
set_option maxRecDepth 100000 in
theorem lkX3_71 : Cond.fieldLink RX3 71 RX0 (TX0 6).2.1 (TX0 6).2.2.1 ∈ lw_good := lw_m1 73 rfl rfl
set_option maxRecDepth 100000 in
theorem gfX3_71 : GFok RX3 71 0 6 := ⟨RX0, TX0, 10, rfl, by decide, inlX0, lkX3_71, rfl, tyX0, tyX0_ok, nmX0⟩
set_option maxRecDepth 100000 in
theorem lkX3_74 : Cond.fieldLink RX3 74 RX0 (TX0 7).2.1 (TX0 7).2.2.1 ∈ lw_good := lw_m1 77 rfl rfl
set_option maxRecDepth 100000 in
theorem gfX3_74 : GFok RX3 74 0 7 := ⟨RX0, TX0, 10, rfl, by decide, inlX0, lkX3_74, rfl, tyX0, tyX0_ok, nmX0⟩
set_option maxRecDepth 100000 in
theorem pfX3_57 : PFok RX3 57 3 2 .int := ⟨gfX3_57, fun C T N h => by cases h; exact ⟨rfl, tyX3_ok 2 (by decide)⟩⟩
set_option maxRecDepth 100000 in
theorem mlX3_46 : Cond.methodLink RX3 46 yX0_pointsInto ∈ lw_good := lw_m3 21 rfl rfl
set_option maxRecDepth 100000 in
theorem mlX3_50 : Cond.methodLink RX3 50 yX0_winBrings ∈ lw_good := lw_m3 22 rfl rfl
set_option maxRecDepth 100000 in
theorem moX0_leftOf : MOk yX0_leftOf cX0_leftOf 4 (some .int) 1 := ⟨lw_m2 225 rfl rfl, wnX0, neX0.1, neX0.2, ds_8⟩
set_option maxRecDepth 100000 in
theorem mlX3_54 : Cond.methodLink RX3 54 yX0_leftOf ∈ lw_good := lw_m3 23 rfl rfl
set_option maxRecDepth 100000 in
theorem voX0_leftOf : VOk yX0_leftOf := ⟨lw_m2 223 rfl rfl, lw_m2 224 rfl rfl⟩
set_option maxRecDepth 100000 in
theorem mlX3_40 : Cond.methodLink RX3 40 yJ6_bitCount_0f7a4 ∈ lw_good := lw_m3 24 rfl rfl
set_option maxRecDepth 100000 in
theorem lkX3_22 : Cond.fieldLink RX3 22 RX3 (TX3 3).2.1 (TX3 3).2.2.1 ∈ lw_good := lw_m1 113 rfl rfl
set_option maxRecDepth 100000 in
theorem gfX3_22 : GFok RX3 22 3 3 := ⟨RX3, TX3, 5, rfl, by decide, inlX3, lkX3_22, rfl, tyX3, tyX3_ok, nmX3⟩
set_option maxRecDepth 100000 in
theorem pfX3_22 : PFok RX3 22 3 3 .int := ⟨gfX3_22, fun C T N h => by cases h; exact ⟨rfl, tyX3_ok 3 (by decide)⟩⟩
set_option maxRecDepth 100000 in
theorem lkX3_26 : Cond.fieldLink RX3 26 RX3 (TX3 4).2.1 (TX3 4).2.2.1 ∈ lw_good := lw_m1 115 rfl rfl
set_option maxRecDepth 100000 in
theorem gfX3_26 : GFok RX3 26 3 4 := ⟨RX3, TX3, 5, rfl, by decide, inlX3, lkX3_26, rfl, tyX3, tyX3_ok, nmX3⟩
set_option maxRecDepth 100000 in
theorem pfX3_26 : PFok RX3 26 3 4 .int := ⟨gfX3_26, fun C T N h => by cases h; exact ⟨rfl, tyX3_ok 4 (by decide)⟩⟩
set_option maxRecDepth 100000 in
theorem neX3 : RX3 ≠ "java/lang/invoke/MethodHandle" ∧ RX3 ≠ "java/lang/invoke/VarHandle" := by decide +kernel
set_option maxRecDepth 100000 in
theorem wnX3 : Cond.initialized RX3 ∈ lw_good := lw_m1 4 rfl rfl
set_option maxRecDepth 100000 in
theorem ds_10 : (parseMethodDescriptor "(ILStillInIt$Group;)I").map (fun d => d.parameters.length) = some 2 := by decide +kernel
set_option maxRecDepth 100000 in
theorem moX3_aboveOf : MOk yX3_aboveOf cX3_aboveOf 5 (some .int) 2 := ⟨lw_m3 33 rfl rfl, wnX3, neX3.1, neX3.2, ds_10⟩
set_option maxRecDepth 100000 in
theorem mlX3_36 : Cond.methodLink RX3 36 yX3_aboveOf ∈ lw_good := lw_m3 30 rfl rfl
set_option maxRecDepth 100000 in
theorem voX3_aboveOf : VOk yX3_aboveOf := ⟨lw_m3 32 rfl rfl, lw_mem 12 rfl rfl⟩
set_option maxRecDepth 100000 in
theorem ds_11 : (parseMethodDescriptor "(LStillInIt$Group;I)V").map (fun d => d.parameters.length) = some 2 := by decide +kernel
set_option maxRecDepth 100000 in
theorem moX3_open : MOk yX3_open cX3_open 5 none 2 := ⟨lw_m3 20 rfl rfl, wnX3, neX3.1, neX3.2, ds_11⟩
set_option maxRecDepth 100000 in
theorem mlX3_18 : Cond.methodLink RX3 18 yX3_open ∈ lw_good := lw_m3 17 rfl rfl
set_option maxRecDepth 100000 in
theorem voX3_open : VOk yX3_open := ⟨lw_m3 19 rfl rfl, lw_mem 11 rfl rfl⟩
set_option maxRecDepth 100000 in
theorem lkX4_15 : Cond.fieldLink RX4 15 RX4 (TX4 1).2.1 (TX4 1).2.2.1 ∈ lw_good := lw_m1 31 rfl rfl
set_option maxRecDepth 100000 in
theorem gfX4_15 : GFok RX4 15 4 1 := ⟨RX4, TX4, 5, rfl, by decide, inlX4, lkX4_15, rfl, tyX4, tyX4_ok, nmX4⟩
set_option maxRecDepth 100000 in
theorem lkX4_9 : Cond.fieldLink RX4 9 RX4 (TX4 0).2.1 (TX4 0).2.2.1 ∈ lw_good := lw_m1 29 rfl rfl
set_option maxRecDepth 100000 in
theorem gfX4_9 : GFok RX4 9 4 0 := ⟨RX4, TX4, 5, rfl, by decide, inlX4, lkX4_9, rfl, tyX4, tyX4_ok, nmX4⟩
set_option maxRecDepth 100000 in
theorem pfX4_15 : PFok RX4 15 4 1 .int := ⟨gfX4_15, fun C T N h => by cases h; exact ⟨rfl, tyX4_ok 1 (by decide)⟩⟩
set_option maxRecDepth 100000 in
theorem lkX4_19 : Cond.fieldLink RX4 19 RX4 (TX4 2).2.1 (TX4 2).2.2.1 ∈ lw_good := lw_m1 33 rfl rfl
set_option maxRecDepth 100000 in
theorem gfX4_19 : GFok RX4 19 4 2 := ⟨RX4, TX4, 5, rfl, by decide, inlX4, lkX4_19, rfl, tyX4, tyX4_ok, nmX4⟩
set_option maxRecDepth 100000 in
theorem pfX4_19 : PFok RX4 19 4 2 .int := ⟨gfX4_19, fun C T N h => by cases h; exact ⟨rfl, tyX4_ok 2 (by decide)⟩⟩
set_option maxRecDepth 100000 in
theorem lkX4_22 : Cond.fieldLink RX4 22 RX4 (TX4 3).2.1 (TX4 3).2.2.1 ∈ lw_good := lw_m1 35 rfl rfl
set_option maxRecDepth 100000 in
theorem gfX4_22 : GFok RX4 22 4 3 := ⟨RX4, TX4, 5, rfl, by decide, inlX4, lkX4_22, rfl, tyX4, tyX4_ok, nmX4⟩
set_option maxRecDepth 100000 in
theorem pfX4_22 : PFok RX4 22 4 3 .int := ⟨gfX4_22, fun C T N h => by cases h; exact ⟨rfl, tyX4_ok 3 (by decide)⟩⟩
set_option maxRecDepth 100000 in
theorem lkX4_25 : Cond.fieldLink RX4 25 RX4 (TX4 4).2.1 (TX4 4).2.2.1 ∈ lw_good := lw_m1 37 rfl rfl
set_option maxRecDepth 100000 in
theorem gfX4_25 : GFok RX4 25 4 4 := ⟨RX4, TX4, 5, rfl, by decide, inlX4, lkX4_25, rfl, tyX4, tyX4_ok, nmX4⟩
set_option maxRecDepth 100000 in
theorem pfX4_25 : PFok RX4 25 4 4 .int := ⟨gfX4_25, fun C T N h => by cases h; exact ⟨rfl, tyX4_ok 4 (by decide)⟩⟩
set_option maxRecDepth 100000 in
theorem neX4 : RX4 ≠ "java/lang/invoke/MethodHandle" ∧ RX4 ≠ "java/lang/invoke/VarHandle" := by decide +kernel
set_option maxRecDepth 100000 in
theorem wnX4 : Cond.initialized RX4 ∈ lw_good := lw_m1 2 rfl rfl
set_option maxRecDepth 100000 in
theorem moX4_sortAt : MOk yX4_sortAt cX4_sortAt 3 (some .int) 1 := ⟨lw_m2 27 rfl rfl, wnX4, neX4.1, neX4.2, ds_8⟩
set_option maxRecDepth 100000 in
theorem mlX4_32 : Cond.methodLink RX4 32 yX4_sortAt ∈ lw_good := lw_m2 24 rfl rfl
set_option maxRecDepth 100000 in
theorem voX4_sortAt : VOk yX4_sortAt := ⟨lw_m2 26 rfl rfl, lw_mem 1 rfl rfl⟩
set_option maxRecDepth 100000 in
theorem moX4_isBlank : MOk yX4_isBlank cX4_isBlank 1 (some .boolean) 1 := ⟨lw_m2 23 rfl rfl, wnX4, neX4.1, neX4.2, ds_0⟩
set_option maxRecDepth 100000 in
theorem mlX4_28 : Cond.methodLink RX4 28 yX4_isBlank ∈ lw_good := lw_m2 21 rfl rfl
set_option maxRecDepth 100000 in
theorem soX4_isBlank : Cond.static yX4_isBlank ∈ lw_good := lw_m2 22 rfl rfl
set_option maxRecDepth 100000 in
theorem ds_12 : (parseMethodDescriptor "()V").map (fun d => d.parameters.length) = some 0 := by decide +kernel
set_option maxRecDepth 100000 in
theorem moX4_step : MOk yX4_step cX4_step 1 none 0 := ⟨lw_m2 20 rfl rfl, wnX4, neX4.1, neX4.2, ds_12⟩
set_option maxRecDepth 100000 in
theorem mlX4_36 : Cond.methodLink RX4 36 yX4_step ∈ lw_good := lw_m2 111 rfl rfl
set_option maxRecDepth 100000 in
theorem voX4_step : VOk yX4_step := ⟨lw_m2 18 rfl rfl, lw_m2 19 rfl rfl⟩
set_option maxRecDepth 100000 in
theorem ksX4_49 : (RX4, 49, "team", 0) ∈ strR := by decide +kernel
set_option maxRecDepth 100000 in
theorem ds_13 : (parseMethodDescriptor "(Ljava/lang/String;)Z").map (fun d => d.parameters.length) = some 1 := by decide +kernel
set_option maxRecDepth 100000 in
theorem moX4_is : MOk yX4_is cX4_is 3 (some .boolean) 1 := ⟨lw_m2 32 rfl rfl, wnX4, neX4.1, neX4.2, ds_13⟩
set_option maxRecDepth 100000 in
theorem mlX4_51 : Cond.methodLink RX4 51 yX4_is ∈ lw_good := lw_m2 90 rfl rfl
set_option maxRecDepth 100000 in
theorem voX4_is : VOk yX4_is := ⟨lw_m2 30 rfl rfl, lw_m2 31 rfl rfl⟩
set_option maxRecDepth 100000 in
theorem ksX4_55 : (RX4, 55, "start", 1) ∈ strR := by decide +kernel
set_option maxRecDepth 100000 in
theorem ksX4_57 : (RX4, 57, "game", 2) ∈ strR := by decide +kernel
set_option maxRecDepth 100000 in
theorem ksX4_59 : (RX4, 59, "won", 3) ∈ strR := by decide +kernel
set_option maxRecDepth 100000 in
theorem ksX4_61 : (RX4, 61, "drew", 4) ∈ strR := by decide +kernel
set_option maxRecDepth 100000 in
theorem lkX5_62 : Cond.fieldLink RX5 62 RX2 (TX2 2).2.1 (TX2 2).2.2.1 ∈ lw_good := lw_m1 198 rfl rfl
set_option maxRecDepth 100000 in
theorem gfX5_62 : GFok RX5 62 2 2 := ⟨RX2, TX2, 3, rfl, by decide, inlX2, lkX5_62, rfl, tyX2, tyX2_ok, nmX2⟩
set_option maxRecDepth 100000 in
theorem lkX5_9 : Cond.fieldLink RX5 9 RX5 (TX5 0).2.1 (TX5 0).2.2.1 ∈ lw_good := lw_m1 168 rfl rfl
set_option maxRecDepth 100000 in
theorem gfX5_9 : GFok RX5 9 5 0 := ⟨RX5, TX5, 5, rfl, by decide, inlX5, lkX5_9, rfl, tyX5, tyX5_ok, nmX5⟩
set_option maxRecDepth 100000 in
theorem lkX5_65 : Cond.fieldLink RX5 65 RX2 (TX2 0).2.1 (TX2 0).2.2.1 ∈ lw_good := lw_m1 193 rfl rfl
set_option maxRecDepth 100000 in
theorem gfX5_65 : GFok RX5 65 2 0 := ⟨RX2, TX2, 3, rfl, by decide, inlX2, lkX5_65, rfl, tyX2, tyX2_ok, nmX2⟩
set_option maxRecDepth 100000 in
theorem lkX5_28 : Cond.fieldLink RX5 28 RX5 (TX5 4).2.1 (TX5 4).2.2.1 ∈ lw_good := lw_m1 172 rfl rfl
set_option maxRecDepth 100000 in
theorem gfX5_28 : GFok RX5 28 5 4 := ⟨RX5, TX5, 5, rfl, by decide, inlX5, lkX5_28, rfl, tyX5, tyX5_ok, nmX5⟩
set_option maxRecDepth 100000 in
theorem lkX5_18 : Cond.fieldLink RX5 18 RX5 (TX5 2).2.1 (TX5 2).2.2.1 ∈ lw_good := lw_m1 170 rfl rfl
set_option maxRecDepth 100000 in
theorem gfX5_18 : GFok RX5 18 5 2 := ⟨RX5, TX5, 5, rfl, by decide, inlX5, lkX5_18, rfl, tyX5, tyX5_ok, nmX5⟩
set_option maxRecDepth 100000 in
theorem pfX5_28 : PFok RX5 28 5 4 .int := ⟨gfX5_28, fun C T N h => by cases h; exact ⟨rfl, tyX5_ok 4 (by decide)⟩⟩
set_option maxRecDepth 100000 in
theorem lkX5_15 : Cond.fieldLink RX5 15 RX5 (TX5 1).2.1 (TX5 1).2.2.1 ∈ lw_good := lw_m1 169 rfl rfl
set_option maxRecDepth 100000 in
theorem gfX5_15 : GFok RX5 15 5 1 := ⟨RX5, TX5, 5, rfl, by decide, inlX5, lkX5_15, rfl, tyX5, tyX5_ok, nmX5⟩
set_option maxRecDepth 100000 in
theorem mlX5_54 : Cond.methodLink RX5 54 yX0_award ∈ lw_good := lw_m3 190 rfl rfl
set_option maxRecDepth 100000 in
theorem neX5 : RX5 ≠ "java/lang/invoke/MethodHandle" ∧ RX5 ≠ "java/lang/invoke/VarHandle" := by decide +kernel
set_option maxRecDepth 100000 in
theorem wnX5 : Cond.initialized RX5 ∈ lw_good := lw_m1 6 rfl rfl
set_option maxRecDepth 100000 in
theorem ds_14 : (parseMethodDescriptor "(ILStillInIt$Group;LStillInIt$Sheet;)I").map (fun d => d.parameters.length) = some 3 := by decide +kernel
set_option maxRecDepth 100000 in
theorem moX5_from : MOk yX5_from cX5_from 6 (some .int) 3 := ⟨lw_m3 180 rfl rfl, wnX5, neX5.1, neX5.2, ds_14⟩
set_option maxRecDepth 100000 in
theorem mlX5_58 : Cond.methodLink RX5 58 yX5_from ∈ lw_good := lw_m3 191 rfl rfl
set_option maxRecDepth 100000 in
theorem voX5_from : VOk yX5_from := ⟨lw_m3 179 rfl rfl, lw_mem 22 rfl rfl⟩
set_option maxRecDepth 100000 in
theorem lkX5_32 : Cond.fieldLink RX5 32 RX5 (TX5 3).2.1 (TX5 3).2.2.1 ∈ lw_good := lw_m1 171 rfl rfl
set_option maxRecDepth 100000 in
theorem gfX5_32 : GFok RX5 32 5 3 := ⟨RX5, TX5, 5, rfl, by decide, inlX5, lkX5_32, rfl, tyX5, tyX5_ok, nmX5⟩
set_option maxRecDepth 100000 in
theorem mlX5_50 : Cond.methodLink RX5 50 yX0_firstResult ∈ lw_good := lw_m3 189 rfl rfl
set_option maxRecDepth 100000 in
theorem ds_15 : (parseMethodDescriptor "()Z").map (fun d => d.parameters.length) = some 0 := by decide +kernel
set_option maxRecDepth 100000 in
theorem moX5_isNew : MOk yX5_isNew cX5_isNew 4 (some .boolean) 0 := ⟨lw_m3 184 rfl rfl, wnX5, neX5.1, neX5.2, ds_15⟩
set_option maxRecDepth 100000 in
theorem mlX5_42 : Cond.methodLink RX5 42 yX5_isNew ∈ lw_good := lw_m3 181 rfl rfl
set_option maxRecDepth 100000 in
theorem voX5_isNew : VOk yX5_isNew := ⟨lw_m3 183 rfl rfl, lw_mem 23 rfl rfl⟩
set_option maxRecDepth 100000 in
theorem ds_16 : (parseMethodDescriptor "(LStillInIt$Sheet;)Z").map (fun d => d.parameters.length) = some 1 := by decide +kernel
set_option maxRecDepth 100000 in
theorem moX5_isAsTold : MOk yX5_isAsTold cX5_isAsTold 3 (some .boolean) 1 := ⟨lw_m3 188 rfl rfl, wnX5, neX5.1, neX5.2, ds_16⟩
set_option maxRecDepth 100000 in
theorem mlX5_46 : Cond.methodLink RX5 46 yX5_isAsTold ∈ lw_good := lw_m3 185 rfl rfl
set_option maxRecDepth 100000 in
theorem voX5_isAsTold : VOk yX5_isAsTold := ⟨lw_m3 187 rfl rfl, lw_mem 24 rfl rfl⟩
set_option maxRecDepth 100000 in
theorem lkX5_35 : Cond.fieldLink RX5 35 RX0 (TX0 1).2.1 (TX0 1).2.2.1 ∈ lw_good := lw_m1 60 rfl rfl
set_option maxRecDepth 100000 in
theorem gfX5_35 : GFok RX5 35 0 1 := ⟨RX0, TX0, 10, rfl, by decide, inlX0, lkX5_35, rfl, tyX0, tyX0_ok, nmX0⟩
set_option maxRecDepth 100000 in
theorem mlX5_38 : Cond.methodLink RX5 38 yX0_isLeft ∈ lw_good := lw_m3 176 rfl rfl
set_option maxRecDepth 100000 in
theorem pfX5_32 : PFok RX5 32 5 3 .int := ⟨gfX5_32, fun C T N h => by cases h; exact ⟨rfl, tyX5_ok 3 (by decide)⟩⟩
set_option maxRecDepth 100000 in
theorem mlX5_22 : Cond.methodLink RX5 22 yX0_pointsInto ∈ lw_good := lw_m3 175 rfl rfl
set_option maxRecDepth 100000 in
theorem lkX6_32 : Cond.fieldLink RX6 32 RX6 (TX6 4).2.1 (TX6 4).2.2.1 ∈ lw_good := lw_m1 211 rfl rfl
set_option maxRecDepth 100000 in
theorem gfX6_32 : GFok RX6 32 6 4 := ⟨RX6, TX6, 10, rfl, by decide, inlX6, lkX6_32, rfl, tyX6, tyX6_ok, nmX6⟩
set_option maxRecDepth 100000 in
theorem ds_17 : (parseMethodDescriptor "(LStillInIt$Group;I)I").map (fun d => d.parameters.length) = some 2 := by decide +kernel
set_option maxRecDepth 100000 in
theorem moX3_find : MOk yX3_find cX3_find 6 (some .int) 2 := ⟨lw_m3 16 rfl rfl, wnX3, neX3.1, neX3.2, ds_17⟩
set_option maxRecDepth 100000 in
theorem mlX6_155 : Cond.methodLink RX6 155 yX3_find ∈ lw_good := lw_m3 13 rfl rfl
set_option maxRecDepth 100000 in
theorem voX3_find : VOk yX3_find := ⟨lw_m3 14 rfl rfl, lw_m3 15 rfl rfl⟩
set_option maxRecDepth 100000 in
theorem lkX6_90 : Cond.fieldLink RX6 90 RX0 (TX0 2).2.1 (TX0 2).2.2.1 ∈ lw_good := lw_m1 65 rfl rfl
set_option maxRecDepth 100000 in
theorem gfX6_90 : GFok RX6 90 0 2 := ⟨RX0, TX0, 10, rfl, by decide, inlX0, lkX6_90, rfl, tyX0, tyX0_ok, nmX0⟩
set_option maxRecDepth 100000 in
theorem lkX6_39 : Cond.fieldLink RX6 39 RX6 (TX6 5).2.1 (TX6 5).2.2.1 ∈ lw_good := lw_m1 212 rfl rfl
set_option maxRecDepth 100000 in
theorem gfX6_39 : GFok RX6 39 6 5 := ⟨RX6, TX6, 10, rfl, by decide, inlX6, lkX6_39, rfl, tyX6, tyX6_ok, nmX6⟩
set_option maxRecDepth 100000 in
theorem mlX6_119 : Cond.methodLink RX6 119 yX0_leftOf ∈ lw_good := lw_m2 222 rfl rfl
set_option maxRecDepth 100000 in
theorem ds_18 : (parseMethodDescriptor "(LStillInIt$Group;II)V").map (fun d => d.parameters.length) = some 3 := by decide +kernel
set_option maxRecDepth 100000 in
theorem moX1_open : MOk yX1_open cX1_open 7 none 3 := ⟨lw_m3 43 rfl rfl, wnX1, neX1.1, neX1.2, ds_18⟩
set_option maxRecDepth 100000 in
theorem mlX6_164 : Cond.methodLink RX6 164 yX1_open ∈ lw_good := lw_m3 40 rfl rfl
set_option maxRecDepth 100000 in
theorem voX1_open : VOk yX1_open := ⟨lw_m3 41 rfl rfl, lw_m3 42 rfl rfl⟩
set_option maxRecDepth 100000 in
theorem moX1_canEnd : MOk yX1_canEnd cX1_canEnd 2 (some .boolean) 0 := ⟨lw_m3 67 rfl rfl, wnX1, neX1.1, neX1.2, ds_15⟩
set_option maxRecDepth 100000 in
theorem mlX6_168 : Cond.methodLink RX6 168 yX1_canEnd ∈ lw_good := lw_m3 64 rfl rfl
set_option maxRecDepth 100000 in
theorem voX1_canEnd : VOk yX1_canEnd := ⟨lw_m3 65 rfl rfl, lw_m3 66 rfl rfl⟩
set_option maxRecDepth 100000 in
theorem lkX6_215 : Cond.fieldLink RX6 215 RX0 (TX0 0).2.1 (TX0 0).2.2.1 ∈ lw_good := lw_m1 58 rfl rfl
set_option maxRecDepth 100000 in
theorem gfX6_215 : GFok RX6 215 0 0 := ⟨RX0, TX0, 10, rfl, by decide, inlX0, lkX6_215, rfl, tyX0, tyX0_ok, nmX0⟩
set_option maxRecDepth 100000 in
theorem ds_19 : (parseMethodDescriptor "(LStillInIt$Group;I)Z").map (fun d => d.parameters.length) = some 2 := by decide +kernel
set_option maxRecDepth 100000 in
theorem moX6_canWin : MOk yX6_canWin cX6_canWin 3 (some .boolean) 2 := ⟨lw_m3 12 rfl rfl, wnX6, neX6.1, neX6.2, ds_19⟩
set_option maxRecDepth 100000 in
theorem mlX6_144 : Cond.methodLink RX6 144 yX6_canWin ∈ lw_good := lw_m3 9 rfl rfl
set_option maxRecDepth 100000 in
theorem voX6_canWin : VOk yX6_canWin := ⟨lw_m3 11 rfl rfl, lw_mem 10 rfl rfl⟩
set_option maxRecDepth 100000 in
theorem lkX6_19 : Cond.fieldLink RX6 19 RX6 (TX6 1).2.1 (TX6 1).2.2.1 ∈ lw_good := lw_m1 208 rfl rfl
set_option maxRecDepth 100000 in
theorem gfX6_19 : GFok RX6 19 6 1 := ⟨RX6, TX6, 10, rfl, by decide, inlX6, lkX6_19, rfl, tyX6, tyX6_ok, nmX6⟩
set_option maxRecDepth 100000 in
theorem ds_20 : (parseMethodDescriptor "(LStillInIt$Group;)I").map (fun d => d.parameters.length) = some 1 := by decide +kernel
set_option maxRecDepth 100000 in
theorem moX6_whoCanWin : MOk yX6_whoCanWin cX6_whoCanWin 4 (some .int) 1 := ⟨lw_m3 91 rfl rfl, wnX6, neX6.1, neX6.2, ds_20⟩
set_option maxRecDepth 100000 in
theorem mlX6_148 : Cond.methodLink RX6 148 yX6_whoCanWin ∈ lw_good := lw_m3 88 rfl rfl
set_option maxRecDepth 100000 in
theorem voX6_whoCanWin : VOk yX6_whoCanWin := ⟨lw_m3 90 rfl rfl, lw_mem 18 rfl rfl⟩
set_option maxRecDepth 100000 in
theorem lkX6_241 : Cond.fieldLink RX6 241 RX6 (TX6 9).2.1 (TX6 9).2.2.1 ∈ lw_good := lw_m1 216 rfl rfl
set_option maxRecDepth 100000 in
theorem gfX6_241 : GFok RX6 241 6 9 := ⟨RX6, TX6, 10, rfl, by decide, inlX6, lkX6_241, rfl, tyX6, tyX6_ok, nmX6⟩
set_option maxRecDepth 100000 in
theorem lkX6_23 : Cond.fieldLink RX6 23 RX6 (TX6 2).2.1 (TX6 2).2.2.1 ∈ lw_good := lw_m1 209 rfl rfl
set_option maxRecDepth 100000 in
theorem gfX6_23 : GFok RX6 23 6 2 := ⟨RX6, TX6, 10, rfl, by decide, inlX6, lkX6_23, rfl, tyX6, tyX6_ok, nmX6⟩
set_option maxRecDepth 100000 in
theorem ds_21 : (parseMethodDescriptor "(LStillInIt$Group;)V").map (fun d => d.parameters.length) = some 1 := by decide +kernel
set_option maxRecDepth 100000 in
theorem moX0_takeFrom : MOk yX0_takeFrom cX0_takeFrom 2 none 1 := ⟨lw_m3 142 rfl rfl, wnX0, neX0.1, neX0.2, ds_21⟩
set_option maxRecDepth 100000 in
theorem mlX6_190 : Cond.methodLink RX6 190 yX0_takeFrom ∈ lw_good := lw_m3 139 rfl rfl
set_option maxRecDepth 100000 in
theorem voX0_takeFrom : VOk yX0_takeFrom := ⟨lw_m3 140 rfl rfl, lw_m3 141 rfl rfl⟩
set_option maxRecDepth 100000 in
theorem lkX6_135 : Cond.fieldLink RX6 135 RX0 (TX0 1).2.1 (TX0 1).2.2.1 ∈ lw_good := lw_m1 63 rfl rfl
set_option maxRecDepth 100000 in
theorem gfX6_135 : GFok RX6 135 0 1 := ⟨RX0, TX0, 10, rfl, by decide, inlX0, lkX6_135, rfl, tyX0, tyX0_ok, nmX0⟩
set_option maxRecDepth 100000 in
theorem mlX6_138 : Cond.methodLink RX6 138 yX0_foe ∈ lw_good := lw_m3 0 rfl rfl
set_option maxRecDepth 100000 in
theorem mlX6_102 : Cond.methodLink RX6 102 yX0_hasTeam ∈ lw_good := lw_m2 193 rfl rfl
set_option maxRecDepth 100000 in
theorem mlX6_96 : Cond.methodLink RX6 96 yX0_isLeft ∈ lw_good := lw_m2 184 rfl rfl
set_option maxRecDepth 100000 in
theorem kcX6_332 : Cond.constant RX6 332 (1103515245) ∈ lw_good := lw_m3 200 rfl rfl
set_option maxRecDepth 100000 in
theorem lkX6_50 : Cond.fieldLink RX6 50 RX6 (TX6 8).2.1 (TX6 8).2.2.1 ∈ lw_good := lw_m1 215 rfl rfl
set_option maxRecDepth 100000 in
theorem gfX6_50 : GFok RX6 50 6 8 := ⟨RX6, TX6, 10, rfl, by decide, inlX6, lkX6_50, rfl, tyX6, tyX6_ok, nmX6⟩
set_option maxRecDepth 100000 in
theorem mlX6_333 : Cond.methodLink RX6 333 yX0_award ∈ lw_good := lw_m3 201 rfl rfl
set_option maxRecDepth 100000 in
theorem mlX6_321 : Cond.methodLink RX6 321 yX0_pointsInto ∈ lw_good := lw_m2 202 rfl rfl
set_option maxRecDepth 100000 in
theorem mlX6_200 : Cond.methodLink RX6 200 yX0_firstResult ∈ lw_good := lw_m3 158 rfl rfl
set_option maxRecDepth 100000 in
theorem moX6_commonDivisor : MOk yX6_commonDivisor cX6_commonDivisor 6 (some .int) 2 := ⟨lw_m3 212 rfl rfl, wnX6, neX6.1, neX6.2, ds_1⟩
set_option maxRecDepth 100000 in
theorem mlX6_224 : Cond.methodLink RX6 224 yX6_commonDivisor ∈ lw_good := lw_m3 210 rfl rfl
set_option maxRecDepth 100000 in
theorem soX6_commonDivisor : Cond.static yX6_commonDivisor ∈ lw_good := lw_m3 211 rfl rfl
set_option maxRecDepth 100000 in
theorem ds_22 : (parseMethodDescriptor "(I)V").map (fun d => d.parameters.length) = some 1 := by decide +kernel
set_option maxRecDepth 100000 in
theorem moX6_drawInto : MOk yX6_drawInto cX6_drawInto 5 none 1 := ⟨lw_m3 199 rfl rfl, wnX6, neX6.1, neX6.2, ds_22⟩
set_option maxRecDepth 100000 in
theorem mlX6_212 : Cond.methodLink RX6 212 yX6_drawInto ∈ lw_good := lw_m3 196 rfl rfl
set_option maxRecDepth 100000 in
theorem voX6_drawInto : VOk yX6_drawInto := ⟨lw_m3 198 rfl rfl, lw_mem 25 rfl rfl⟩
set_option maxRecDepth 100000 in
theorem ds_23 : (parseMethodDescriptor "([II)I").map (fun d => d.parameters.length) = some 2 := by decide +kernel
set_option maxRecDepth 100000 in
theorem moX6_firstOf : MOk yX6_firstOf cX6_firstOf 5 (some .int) 2 := ⟨lw_m3 204 rfl rfl, wnX6, neX6.1, neX6.2, ds_23⟩
set_option maxRecDepth 100000 in
theorem mlX6_216 : Cond.methodLink RX6 216 yX6_firstOf ∈ lw_good := lw_m3 202 rfl rfl
set_option maxRecDepth 100000 in
theorem soX6_firstOf : Cond.static yX6_firstOf ∈ lw_good := lw_m3 203 rfl rfl
set_option maxRecDepth 100000 in
theorem mlX6_220 : Cond.methodLink RX6 220 yX6_has ∈ lw_good := lw_m3 209 rfl rfl
set_option maxRecDepth 100000 in
theorem moX6_isPart : MOk yX6_isPart cX6_isPart 1 (some .boolean) 1 := ⟨lw_m3 98 rfl rfl, wnX6, neX6.1, neX6.2, ds_0⟩
set_option maxRecDepth 100000 in
theorem mlX6_152 : Cond.methodLink RX6 152 yX6_isPart ∈ lw_good := lw_m3 96 rfl rfl
set_option maxRecDepth 100000 in
theorem soX6_isPart : Cond.static yX6_isPart ∈ lw_good := lw_m3 97 rfl rfl
set_option maxRecDepth 100000 in
theorem moX6_isSheet : MOk yX6_isSheet cX6_isSheet 1 (some .boolean) 1 := ⟨lw_m3 219 rfl rfl, wnX6, neX6.1, neX6.2, ds_0⟩
set_option maxRecDepth 100000 in
theorem mlX6_227 : Cond.methodLink RX6 227 yX6_isSheet ∈ lw_good := lw_m3 217 rfl rfl
set_option maxRecDepth 100000 in
theorem soX6_isSheet : Cond.static yX6_isSheet ∈ lw_good := lw_m3 218 rfl rfl
set_option maxRecDepth 100000 in
theorem lkX6_56 : Cond.fieldLink RX6 56 RX6 (TX6 7).2.1 (TX6 7).2.2.1 ∈ lw_good := lw_m1 214 rfl rfl
set_option maxRecDepth 100000 in
theorem gfX6_56 : GFok RX6 56 6 7 := ⟨RX6, TX6, 10, rfl, by decide, inlX6, lkX6_56, rfl, tyX6, tyX6_ok, nmX6⟩
set_option maxRecDepth 100000 in
theorem neX2 : RX2 ≠ "java/lang/invoke/MethodHandle" ∧ RX2 ≠ "java/lang/invoke/VarHandle" := by decide +kernel
set_option maxRecDepth 100000 in
theorem wnX2 : Cond.initialized RX2 ∈ lw_good := lw_m1 7 rfl rfl
set_option maxRecDepth 100000 in
theorem moX2_isMissing : MOk yX2_isMissing cX2_isMissing 1 (some .boolean) 0 := ⟨lw_m3 223 rfl rfl, wnX2, neX2.1, neX2.2, ds_15⟩
set_option maxRecDepth 100000 in
theorem mlX6_230 : Cond.methodLink RX6 230 yX2_isMissing ∈ lw_good := lw_m3 220 rfl rfl
set_option maxRecDepth 100000 in
theorem voX2_isMissing : VOk yX2_isMissing := ⟨lw_m3 221 rfl rfl, lw_m3 222 rfl rfl⟩
set_option maxRecDepth 100000 in
theorem lkX6_248 : Cond.fieldLink RX6 248 RX2 (TX2 1).2.1 (TX2 1).2.2.1 ∈ lw_good := lw_m1 196 rfl rfl
set_option maxRecDepth 100000 in
theorem gfX6_248 : GFok RX6 248 2 1 := ⟨RX2, TX2, 3, rfl, by decide, inlX2, lkX6_248, rfl, tyX2, tyX2_ok, nmX2⟩
set_option maxRecDepth 100000 in
theorem moX2_holds : MOk yX2_holds cX2_holds 3 (some .boolean) 2 := ⟨lw_m4 22 rfl rfl, wnX2, neX2.1, neX2.2, ds_5⟩
set_option maxRecDepth 100000 in
theorem mlX6_251 : Cond.methodLink RX6 251 yX2_holds ∈ lw_good := lw_m4 19 rfl rfl
set_option maxRecDepth 100000 in
theorem voX2_holds : VOk yX2_holds := ⟨lw_m4 20 rfl rfl, lw_m4 21 rfl rfl⟩
set_option maxRecDepth 100000 in
theorem lkX6_234 : Cond.fieldLink RX6 234 RX2 (TX2 0).2.1 (TX2 0).2.2.1 ∈ lw_good := lw_m1 194 rfl rfl
set_option maxRecDepth 100000 in
theorem gfX6_234 : GFok RX6 234 2 0 := ⟨RX2, TX2, 3, rfl, by decide, inlX2, lkX6_234, rfl, tyX2, tyX2_ok, nmX2⟩
set_option maxRecDepth 100000 in
theorem mlX6_254 : Cond.methodLink RX6 254 arraycopyName ∈ lw_good := lw_m4 23 rfl rfl
set_option maxRecDepth 100000 in
theorem moX0_left : MOk yX0_left cX0_left 3 (some .int) 0 := ⟨lw_m3 114 rfl rfl, wnX0, neX0.1, neX0.2, ds_9⟩
set_option maxRecDepth 100000 in
theorem mlX6_175 : Cond.methodLink RX6 175 yX0_left ∈ lw_good := lw_m3 111 rfl rfl
set_option maxRecDepth 100000 in
theorem voX0_left : VOk yX0_left := ⟨lw_m3 112 rfl rfl, lw_m3 113 rfl rfl⟩
set_option maxRecDepth 100000 in
theorem mlX6_182 : Cond.methodLink RX6 182 yJ6_bitCount_0f7a4 ∈ lw_good := lw_m2 226 rfl rfl
set_option maxRecDepth 100000 in
theorem lkX6_10 : Cond.fieldLink RX6 10 RX6 (TX6 0).2.1 (TX6 0).2.2.1 ∈ lw_good := lw_m1 207 rfl rfl
set_option maxRecDepth 100000 in
theorem gfX6_10 : GFok RX6 10 6 0 := ⟨RX6, TX6, 10, rfl, by decide, inlX6, lkX6_10, rfl, tyX6, tyX6_ok, nmX6⟩
set_option maxRecDepth 100000 in
theorem lkX6_65 : Cond.fieldLink RX6 65 RX4 (TX4 1).2.1 (TX4 1).2.2.1 ∈ lw_good := lw_m1 32 rfl rfl
set_option maxRecDepth 100000 in
theorem gfX6_65 : GFok RX6 65 4 1 := ⟨RX4, TX4, 5, rfl, by decide, inlX4, lkX6_65, rfl, tyX4, tyX4_ok, nmX4⟩
set_option maxRecDepth 100000 in
theorem mlX6_264 : Cond.methodLink RX6 264 yX4_step ∈ lw_good := lw_m2 17 rfl rfl
set_option maxRecDepth 100000 in
theorem moX4_isName : MOk yX4_isName cX4_isName 1 (some .boolean) 0 := ⟨lw_m2 88 rfl rfl, wnX4, neX4.1, neX4.2, ds_15⟩
set_option maxRecDepth 100000 in
theorem mlX6_303 : Cond.methodLink RX6 303 yX4_isName ∈ lw_good := lw_m2 85 rfl rfl
set_option maxRecDepth 100000 in
theorem voX4_isName : VOk yX4_isName := ⟨lw_m2 86 rfl rfl, lw_m2 87 rfl rfl⟩
set_option maxRecDepth 100000 in
theorem lkX6_80 : Cond.fieldLink RX6 80 RX4 (TX4 0).2.1 (TX4 0).2.2.1 ∈ lw_good := lw_m1 30 rfl rfl
set_option maxRecDepth 100000 in
theorem gfX6_80 : GFok RX6 80 4 0 := ⟨RX4, TX4, 5, rfl, by decide, inlX4, lkX6_80, rfl, tyX4, tyX4_ok, nmX4⟩
set_option maxRecDepth 100000 in
theorem lkX6_297 : Cond.fieldLink RX6 297 RX4 (TX4 2).2.1 (TX4 2).2.2.1 ∈ lw_good := lw_m1 34 rfl rfl
set_option maxRecDepth 100000 in
theorem gfX6_297 : GFok RX6 297 4 2 := ⟨RX4, TX4, 5, rfl, by decide, inlX4, lkX6_297, rfl, tyX4, tyX4_ok, nmX4⟩
set_option maxRecDepth 100000 in
theorem lkX6_300 : Cond.fieldLink RX6 300 RX4 (TX4 3).2.1 (TX4 3).2.2.1 ∈ lw_good := lw_m1 36 rfl rfl
set_option maxRecDepth 100000 in
theorem gfX6_300 : GFok RX6 300 4 3 := ⟨RX4, TX4, 5, rfl, by decide, inlX4, lkX6_300, rfl, tyX4, tyX4_ok, nmX4⟩
set_option maxRecDepth 100000 in
theorem ds_24 : (parseMethodDescriptor "([III)I").map (fun d => d.parameters.length) = some 3 := by decide +kernel
set_option maxRecDepth 100000 in
theorem moX0_whose : MOk yX0_whose cX0_whose 5 (some .int) 3 := ⟨lw_m2 98 rfl rfl, wnX0, neX0.1, neX0.2, ds_24⟩
set_option maxRecDepth 100000 in
theorem mlX6_83 : Cond.methodLink RX6 83 yX0_whose ∈ lw_good := lw_m2 95 rfl rfl
set_option maxRecDepth 100000 in
theorem voX0_whose : VOk yX0_whose := ⟨lw_m2 96 rfl rfl, lw_m2 97 rfl rfl⟩
set_option maxRecDepth 100000 in
theorem moX4_fault : MOk yX4_fault cX4_fault 1 (some .int) 0 := ⟨lw_m2 106 rfl rfl, wnX4, neX4.1, neX4.2, ds_9⟩
set_option maxRecDepth 100000 in
theorem mlX6_294 : Cond.methodLink RX6 294 yX4_fault ∈ lw_good := lw_m2 103 rfl rfl
set_option maxRecDepth 100000 in
theorem voX4_fault : VOk yX4_fault := ⟨lw_m2 104 rfl rfl, lw_m2 105 rfl rfl⟩
set_option maxRecDepth 100000 in
theorem moX6_readTeam : MOk yX6_readTeam cX6_readTeam 3 (some .int) 1 := ⟨lw_m2 124 rfl rfl, wnX6, neX6.1, neX6.2, ds_8⟩
set_option maxRecDepth 100000 in
theorem mlX6_312 : Cond.methodLink RX6 312 yX6_readTeam ∈ lw_good := lw_m2 121 rfl rfl
set_option maxRecDepth 100000 in
theorem voX6_readTeam : VOk yX6_readTeam := ⟨lw_m2 123 rfl rfl, lw_mem 5 rfl rfl⟩
set_option maxRecDepth 100000 in
theorem moX4_number : MOk yX4_number cX4_number 5 (some .int) 2 := ⟨lw_m2 128 rfl rfl, wnX4, neX4.1, neX4.2, ds_1⟩
set_option maxRecDepth 100000 in
theorem mlX6_315 : Cond.methodLink RX6 315 yX4_number ∈ lw_good := lw_m2 125 rfl rfl
set_option maxRecDepth 100000 in
theorem voX4_number : VOk yX4_number := ⟨lw_m2 126 rfl rfl, lw_m2 127 rfl rfl⟩
set_option maxRecDepth 100000 in
theorem moX4_ends : MOk yX4_ends cX4_ends 1 (some .boolean) 0 := ⟨lw_m2 110 rfl rfl, wnX4, neX4.1, neX4.2, ds_15⟩
set_option maxRecDepth 100000 in
theorem mlX6_306 : Cond.methodLink RX6 306 yX4_ends ∈ lw_good := lw_m2 107 rfl rfl
set_option maxRecDepth 100000 in
theorem voX4_ends : VOk yX4_ends := ⟨lw_m2 108 rfl rfl, lw_m2 109 rfl rfl⟩
set_option maxRecDepth 100000 in
theorem ds_25 : (parseMethodDescriptor "(III)I").map (fun d => d.parameters.length) = some 3 := by decide +kernel
set_option maxRecDepth 100000 in
theorem moX0_addGame : MOk yX0_addGame cX0_addGame 4 (some .int) 3 := ⟨lw_m2 137 rfl rfl, wnX0, neX0.1, neX0.2, ds_25⟩
set_option maxRecDepth 100000 in
theorem mlX6_260 : Cond.methodLink RX6 260 yX0_addGame ∈ lw_good := lw_m2 134 rfl rfl
set_option maxRecDepth 100000 in
theorem voX0_addGame : VOk yX0_addGame := ⟨lw_m2 135 rfl rfl, lw_m2 136 rfl rfl⟩
set_option maxRecDepth 100000 in
theorem lkX6_99 : Cond.fieldLink RX6 99 RX0 (TX0 9).2.1 (TX0 9).2.2.1 ∈ lw_good := lw_m1 82 rfl rfl
set_option maxRecDepth 100000 in
theorem gfX6_99 : GFok RX6 99 0 9 := ⟨RX0, TX0, 10, rfl, by decide, inlX0, lkX6_99, rfl, tyX0, tyX0_ok, nmX0⟩
set_option maxRecDepth 100000 in
theorem moX0_nextBetween : MOk yX0_nextBetween cX0_nextBetween 5 (some .int) 2 := ⟨lw_m2 150 rfl rfl, wnX0, neX0.1, neX0.2, ds_1⟩
set_option maxRecDepth 100000 in
theorem mlX6_318 : Cond.methodLink RX6 318 yX0_nextBetween ∈ lw_good := lw_m2 147 rfl rfl
set_option maxRecDepth 100000 in
theorem voX0_nextBetween : VOk yX0_nextBetween := ⟨lw_m2 148 rfl rfl, lw_m2 149 rfl rfl⟩
set_option maxRecDepth 100000 in
theorem lkX6_126 : Cond.fieldLink RX6 126 RX0 (TX0 6).2.1 (TX0 6).2.2.1 ∈ lw_good := lw_m1 74 rfl rfl
set_option maxRecDepth 100000 in
theorem gfX6_126 : GFok RX6 126 0 6 := ⟨RX0, TX0, 10, rfl, by decide, inlX0, lkX6_126, rfl, tyX0, tyX0_ok, nmX0⟩
set_option maxRecDepth 100000 in
theorem lkX6_109 : Cond.fieldLink RX6 109 RX0 (TX0 3).2.1 (TX0 3).2.2.1 ∈ lw_good := lw_m1 67 rfl rfl
set_option maxRecDepth 100000 in
theorem gfX6_109 : GFok RX6 109 0 3 := ⟨RX0, TX0, 10, rfl, by decide, inlX0, lkX6_109, rfl, tyX0, tyX0_ok, nmX0⟩
set_option maxRecDepth 100000 in
theorem moX0_addTeam : MOk yX0_addTeam cX0_addTeam 5 (some .int) 3 := ⟨lw_m2 115 rfl rfl, wnX0, neX0.1, neX0.2, ds_24⟩
set_option maxRecDepth 100000 in
theorem mlX6_309 : Cond.methodLink RX6 309 yX0_addTeam ∈ lw_good := lw_m2 112 rfl rfl
set_option maxRecDepth 100000 in
theorem voX0_addTeam : VOk yX0_addTeam := ⟨lw_m2 113 rfl rfl, lw_m2 114 rfl rfl⟩
set_option maxRecDepth 100000 in
theorem ksX6_267 : (RX6, 267, "team", 0) ∈ strR := by decide +kernel
set_option maxRecDepth 100000 in
theorem mlX6_269 : Cond.methodLink RX6 269 yX4_is ∈ lw_good := lw_m2 29 rfl rfl
set_option maxRecDepth 100000 in
theorem ksX6_276 : (RX6, 276, "start", 1) ∈ strR := by decide +kernel
set_option maxRecDepth 100000 in
theorem ksX6_281 : (RX6, 281, "game", 2) ∈ strR := by decide +kernel
set_option maxRecDepth 100000 in
theorem ksX6_286 : (RX6, 286, "won", 3) ∈ strR := by decide +kernel
set_option maxRecDepth 100000 in
theorem ksX6_292 : (RX6, 292, "drew", 4) ∈ strR := by decide +kernel
set_option maxRecDepth 100000 in
theorem ds_26 : (parseMethodDescriptor "(Z)I").map (fun d => d.parameters.length) = some 1 := by decide +kernel
set_option maxRecDepth 100000 in
theorem moX6_doPlay : MOk yX6_doPlay cX6_doPlay 6 (some .int) 1 := ⟨lw_m2 146 rfl rfl, wnX6, neX6.1, neX6.2, ds_26⟩
set_option maxRecDepth 100000 in
theorem mlX6_288 : Cond.methodLink RX6 288 yX6_doPlay ∈ lw_good := lw_m2 143 rfl rfl
set_option maxRecDepth 100000 in
theorem voX6_doPlay : VOk yX6_doPlay := ⟨lw_m2 145 rfl rfl, lw_mem 7 rfl rfl⟩
set_option maxRecDepth 100000 in
theorem moX6_doGame : MOk yX6_doGame cX6_doGame 5 (some .int) 0 := ⟨lw_m2 133 rfl rfl, wnX6, neX6.1, neX6.2, ds_9⟩
set_option maxRecDepth 100000 in
theorem mlX6_283 : Cond.methodLink RX6 283 yX6_doGame ∈ lw_good := lw_m2 130 rfl rfl
set_option maxRecDepth 100000 in
theorem voX6_doGame : VOk yX6_doGame := ⟨lw_m2 132 rfl rfl, lw_mem 6 rfl rfl⟩
set_option maxRecDepth 100000 in
theorem moX6_doStart : MOk yX6_doStart cX6_doStart 3 (some .int) 0 := ⟨lw_m2 120 rfl rfl, wnX6, neX6.1, neX6.2, ds_9⟩
set_option maxRecDepth 100000 in
theorem mlX6_278 : Cond.methodLink RX6 278 yX6_doStart ∈ lw_good := lw_m2 117 rfl rfl
set_option maxRecDepth 100000 in
theorem voX6_doStart : VOk yX6_doStart := ⟨lw_m2 119 rfl rfl, lw_mem 4 rfl rfl⟩
set_option maxRecDepth 100000 in
theorem moX6_doTeam : MOk yX6_doTeam cX6_doTeam 3 (some .int) 0 := ⟨lw_m2 84 rfl rfl, wnX6, neX6.1, neX6.2, ds_9⟩
set_option maxRecDepth 100000 in
theorem mlX6_273 : Cond.methodLink RX6 273 yX6_doTeam ∈ lw_good := lw_m2 81 rfl rfl
set_option maxRecDepth 100000 in
theorem voX6_doTeam : VOk yX6_doTeam := ⟨lw_m2 83 rfl rfl, lw_mem 2 rfl rfl⟩
set_option maxRecDepth 100000 in
theorem moX4_add : MOk yX4_add cX4_add 2 none 1 := ⟨lw_m2 8 rfl rfl, wnX4, neX4.1, neX4.2, ds_22⟩
set_option maxRecDepth 100000 in
theorem mlX6_69 : Cond.methodLink RX6 69 yX4_add ∈ lw_good := lw_m2 5 rfl rfl
set_option maxRecDepth 100000 in
theorem voX4_add : VOk yX4_add := ⟨lw_m2 6 rfl rfl, lw_m2 7 rfl rfl⟩
set_option maxRecDepth 100000 in
theorem moX6_isByte : MOk yX6_isByte cX6_isByte 1 (some .boolean) 1 := ⟨lw_m2 4 rfl rfl, wnX6, neX6.1, neX6.2, ds_0⟩
set_option maxRecDepth 100000 in
theorem mlX6_61 : Cond.methodLink RX6 61 yX6_isByte ∈ lw_good := lw_m2 2 rfl rfl
set_option maxRecDepth 100000 in
theorem soX6_isByte : Cond.static yX6_isByte ∈ lw_good := lw_m2 3 rfl rfl
set_option maxRecDepth 100000 in
theorem moX1_drawOnly : MOk yX1_drawOnly cX1_drawOnly 4 none 1 := ⟨lw_m3 126 rfl rfl, wnX1, neX1.1, neX1.2, ds_22⟩
set_option maxRecDepth 100000 in
theorem mlX6_329 : Cond.methodLink RX6 329 yX1_drawOnly ∈ lw_good := lw_m3 123 rfl rfl
set_option maxRecDepth 100000 in
theorem voX1_drawOnly : VOk yX1_drawOnly := ⟨lw_m3 124 rfl rfl, lw_m3 125 rfl rfl⟩
set_option maxRecDepth 100000 in
theorem ds_27 : (parseMethodDescriptor "(IIZ)Z").map (fun d => d.parameters.length) = some 3 := by decide +kernel
set_option maxRecDepth 100000 in
theorem moX6_suffices : MOk yX6_suffices cX6_suffices 4 (some .boolean) 3 := ⟨lw_m3 122 rfl rfl, wnX6, neX6.1, neX6.2, ds_27⟩
set_option maxRecDepth 100000 in
theorem mlX6_325 : Cond.methodLink RX6 325 yX6_suffices ∈ lw_good := lw_m3 119 rfl rfl
set_option maxRecDepth 100000 in
theorem voX6_suffices : VOk yX6_suffices := ⟨lw_m3 121 rfl rfl, lw_mem 20 rfl rfl⟩
set_option maxRecDepth 100000 in
theorem ds_28 : (parseMethodDescriptor "(II)V").map (fun d => d.parameters.length) = some 2 := by decide +kernel
set_option maxRecDepth 100000 in
theorem moX2_become : MOk yX2_become cX2_become 4 none 2 := ⟨lw_m3 231 rfl rfl, wnX2, neX2.1, neX2.2, ds_28⟩
set_option maxRecDepth 100000 in
theorem mlX6_237 : Cond.methodLink RX6 237 yX2_become ∈ lw_good := lw_m3 228 rfl rfl
set_option maxRecDepth 100000 in
theorem voX2_become : VOk yX2_become := ⟨lw_m3 229 rfl rfl, lw_m3 230 rfl rfl⟩
set_option maxRecDepth 100000 in
theorem moX0_hasGame : MOk yX0_hasGame cX0_hasGame 2 (some .boolean) 1 := ⟨lw_m2 183 rfl rfl, wnX0, neX0.1, neX0.2, ds_0⟩
set_option maxRecDepth 100000 in
theorem mlX6_93 : Cond.methodLink RX6 93 yX0_hasGame ∈ lw_good := lw_m2 180 rfl rfl
set_option maxRecDepth 100000 in
theorem voX0_hasGame : VOk yX0_hasGame := ⟨lw_m2 181 rfl rfl, lw_m2 182 rfl rfl⟩
set_option maxRecDepth 100000 in
theorem lkX6_129 : Cond.fieldLink RX6 129 RX0 (TX0 7).2.1 (TX0 7).2.2.1 ∈ lw_good := lw_m1 78 rfl rfl
set_option maxRecDepth 100000 in
theorem gfX6_129 : GFok RX6 129 0 7 := ⟨RX0, TX0, 10, rfl, by decide, inlX0, lkX6_129, rfl, tyX0, tyX0_ok, nmX0⟩
set_option maxRecDepth 100000 in
theorem lkX6_132 : Cond.fieldLink RX6 132 RX0 (TX0 8).2.1 (TX0 8).2.2.1 ∈ lw_good := lw_m1 80 rfl rfl
set_option maxRecDepth 100000 in
theorem gfX6_132 : GFok RX6 132 0 8 := ⟨RX0, TX0, 10, rfl, by decide, inlX0, lkX6_132, rfl, tyX0, tyX0_ok, nmX0⟩
set_option maxRecDepth 100000 in
theorem lkX6_26 : Cond.fieldLink RX6 26 RX6 (TX6 3).2.1 (TX6 3).2.2.1 ∈ lw_good := lw_m1 210 rfl rfl
set_option maxRecDepth 100000 in
theorem gfX6_26 : GFok RX6 26 6 3 := ⟨RX6, TX6, 10, rfl, by decide, inlX6, lkX6_26, rfl, tyX6, tyX6_ok, nmX6⟩
set_option maxRecDepth 100000 in
theorem pfX6_241 : PFok RX6 241 6 9 .boolean := ⟨gfX6_241, fun C T N h => by cases h; exact ⟨rfl, tyX6_ok 9 (by decide)⟩⟩
set_option maxRecDepth 100000 in
theorem moX6_pointsOf : MOk yX6_pointsOf cX6_pointsOf 3 (some .int) 2 := ⟨lw_m2 201 rfl rfl, wnX6, neX6.1, neX6.2, ds_17⟩
set_option maxRecDepth 100000 in
theorem mlX6_112 : Cond.methodLink RX6 112 yX6_pointsOf ∈ lw_good := lw_m2 198 rfl rfl
set_option maxRecDepth 100000 in
theorem voX6_pointsOf : VOk yX6_pointsOf := ⟨lw_m2 200 rfl rfl, lw_mem 8 rfl rfl⟩
set_option maxRecDepth 100000 in
theorem mlX6_141 : Cond.methodLink RX6 141 yX0_winBrings ∈ lw_good := lw_m2 218 rfl rfl
set_option maxRecDepth 100000 in
theorem moX6_reachOf : MOk yX6_reachOf cX6_reachOf 3 (some .int) 2 := ⟨lw_m2 217 rfl rfl, wnX6, neX6.1, neX6.2, ds_17⟩
set_option maxRecDepth 100000 in
theorem mlX6_116 : Cond.methodLink RX6 116 yX6_reachOf ∈ lw_good := lw_m2 214 rfl rfl
set_option maxRecDepth 100000 in
theorem voX6_reachOf : VOk yX6_reachOf := ⟨lw_m2 216 rfl rfl, lw_mem 9 rfl rfl⟩
set_option maxRecDepth 100000 in
theorem moX6_isSort : MOk yX6_isSort cX6_isSort 1 (some .boolean) 1 := ⟨lw_m4 10 rfl rfl, wnX6, neX6.1, neX6.2, ds_0⟩
set_option maxRecDepth 100000 in
theorem mlX6_245 : Cond.methodLink RX6 245 yX6_isSort ∈ lw_good := lw_m4 8 rfl rfl
set_option maxRecDepth 100000 in
theorem soX6_isSort : Cond.static yX6_isSort ∈ lw_good := lw_m4 9 rfl rfl
set_option maxRecDepth 100000 in
theorem moX4_clear : MOk yX4_clear cX4_clear 1 none 0 := ⟨lw_m2 163 rfl rfl, wnX4, neX4.1, neX4.2, ds_12⟩
set_option maxRecDepth 100000 in
theorem mlX6_77 : Cond.methodLink RX6 77 yX4_clear ∈ lw_good := lw_m2 160 rfl rfl
set_option maxRecDepth 100000 in
theorem voX4_clear : VOk yX4_clear := ⟨lw_m2 161 rfl rfl, lw_m2 162 rfl rfl⟩
set_option maxRecDepth 100000 in
theorem ds_29 : (parseMethodDescriptor "(IIZ)I").map (fun d => d.parameters.length) = some 3 := by decide +kernel
set_option maxRecDepth 100000 in
theorem moX6_fewestFor : MOk yX6_fewestFor cX6_fewestFor 7 (some .int) 3 := ⟨lw_m3 118 rfl rfl, wnX6, neX6.1, neX6.2, ds_29⟩
set_option maxRecDepth 100000 in
theorem mlX6_178 : Cond.methodLink RX6 178 yX6_fewestFor ∈ lw_good := lw_m3 115 rfl rfl
set_option maxRecDepth 100000 in
theorem voX6_fewestFor : VOk yX6_fewestFor := ⟨lw_m3 117 rfl rfl, lw_mem 19 rfl rfl⟩
set_option maxRecDepth 100000 in
theorem lkX6_233 : Cond.fieldLink RX6 233 RX2 (TX2 2).2.1 (TX2 2).2.2.1 ∈ lw_good := lw_m1 199 rfl rfl
set_option maxRecDepth 100000 in
theorem gfX6_233 : GFok RX6 233 2 2 := ⟨RX2, TX2, 3, rfl, by decide, inlX2, lkX6_233, rfl, tyX2, tyX2_ok, nmX2⟩
set_option maxRecDepth 100000 in
theorem moX1_pickOf : MOk yX1_pickOf cX1_pickOf 3 (some .int) 1 := ⟨lw_m3 106 rfl rfl, wnX1, neX1.1, neX1.2, ds_8⟩
set_option maxRecDepth 100000 in
theorem mlX6_172 : Cond.methodLink RX6 172 yX1_pickOf ∈ lw_good := lw_m3 103 rfl rfl
set_option maxRecDepth 100000 in
theorem voX1_pickOf : VOk yX1_pickOf := ⟨lw_m3 104 rfl rfl, lw_m3 105 rfl rfl⟩
set_option maxRecDepth 100000 in
theorem lkX6_161 : Cond.fieldLink RX6 161 RX3 (TX3 4).2.1 (TX3 4).2.2.1 ∈ lw_good := lw_m1 116 rfl rfl
set_option maxRecDepth 100000 in
theorem gfX6_161 : GFok RX6 161 3 4 := ⟨RX3, TX3, 5, rfl, by decide, inlX3, lkX6_161, rfl, tyX3, tyX3_ok, nmX3⟩
set_option maxRecDepth 100000 in
theorem lkX6_158 : Cond.fieldLink RX6 158 RX3 (TX3 3).2.1 (TX3 3).2.2.1 ∈ lw_good := lw_m1 114 rfl rfl
set_option maxRecDepth 100000 in
theorem gfX6_158 : GFok RX6 158 3 3 := ⟨RX3, TX3, 5, rfl, by decide, inlX3, lkX6_158, rfl, tyX3, tyX3_ok, nmX3⟩
set_option maxRecDepth 100000 in
theorem moX0_forget : MOk yX0_forget cX0_forget 3 none 1 := ⟨lw_m3 149 rfl rfl, wnX0, neX0.1, neX0.2, ds_22⟩
set_option maxRecDepth 100000 in
theorem mlX6_194 : Cond.methodLink RX6 194 yX0_forget ∈ lw_good := lw_m3 146 rfl rfl
set_option maxRecDepth 100000 in
theorem voX0_forget : VOk yX0_forget := ⟨lw_m3 147 rfl rfl, lw_m3 148 rfl rfl⟩
set_option maxRecDepth 100000 in
theorem moX6_isSure : MOk yX6_isSure cX6_isSure 5 (some .boolean) 2 := ⟨lw_m3 153 rfl rfl, wnX6, neX6.1, neX6.2, ds_19⟩
set_option maxRecDepth 100000 in
theorem mlX6_197 : Cond.methodLink RX6 197 yX6_isSure ∈ lw_good := lw_m3 150 rfl rfl
set_option maxRecDepth 100000 in
theorem voX6_isSure : VOk yX6_isSure := ⟨lw_m3 152 rfl rfl, lw_mem 21 rfl rfl⟩
set_option maxRecDepth 100000 in
theorem moX0_wasPlayedOn : MOk yX0_wasPlayedOn cX0_wasPlayedOn 3 (some .boolean) 1 := ⟨lw_m3 138 rfl rfl, wnX0, neX0.1, neX0.2, ds_0⟩
set_option maxRecDepth 100000 in
theorem mlX6_187 : Cond.methodLink RX6 187 yX0_wasPlayedOn ∈ lw_good := lw_m3 135 rfl rfl
set_option maxRecDepth 100000 in
theorem voX0_wasPlayedOn : VOk yX0_wasPlayedOn := ⟨lw_m3 136 rfl rfl, lw_m3 137 rfl rfl⟩
set_option maxRecDepth 100000 in
theorem moX6_isSystem : MOk yX6_isSystem cX6_isSystem 1 (some .boolean) 1 := ⟨lw_m2 175 rfl rfl, wnX6, neX6.1, neX6.2, ds_0⟩
set_option maxRecDepth 100000 in
theorem mlX6_87 : Cond.methodLink RX6 87 yX6_isSystem ∈ lw_good := lw_m2 173 rfl rfl
set_option maxRecDepth 100000 in
theorem soX6_isSystem : Cond.static yX6_isSystem ∈ lw_good := lw_m2 174 rfl rfl
set_option maxRecDepth 100000 in
theorem pfX6_90 : PFok RX6 90 0 2 .int := ⟨gfX6_90, fun C T N h => by cases h; exact ⟨rfl, tyX0_ok 2 (by decide)⟩⟩
set_option maxRecDepth 100000 in
theorem lkX6_46 : Cond.fieldLink RX6 46 RX6 (TX6 6).2.1 (TX6 6).2.2.1 ∈ lw_good := lw_m1 213 rfl rfl
set_option maxRecDepth 100000 in
theorem gfX6_46 : GFok RX6 46 6 6 := ⟨RX6, TX6, 10, rfl, by decide, inlX6, lkX6_46, rfl, tyX6, tyX6_ok, nmX6⟩
set_option maxRecDepth 100000 in
theorem moX5_open : MOk yX5_open cX5_open 3 none 1 := ⟨lw_m3 174 rfl rfl, wnX5, neX5.1, neX5.2, ds_21⟩
set_option maxRecDepth 100000 in
theorem mlX6_206 : Cond.methodLink RX6 206 yX5_open ∈ lw_good := lw_m3 171 rfl rfl
set_option maxRecDepth 100000 in
theorem voX5_open : VOk yX5_open := ⟨lw_m3 172 rfl rfl, lw_m3 173 rfl rfl⟩
set_option maxRecDepth 100000 in
theorem mnX6_208 : (RX6, 208, yX5_from, "StillInIt") ∈ nestM := by decide +kernel
set_option maxRecDepth 100000 in
theorem moX6_doText : MOk yX6_doText cX6_doText 1 (some .int) 0 := ⟨lw_m2 16 rfl rfl, wnX6, neX6.1, neX6.2, ds_9⟩
set_option maxRecDepth 100000 in
theorem mlX6_73 : Cond.methodLink RX6 73 yX6_doText ∈ lw_good := lw_m2 13 rfl rfl
set_option maxRecDepth 100000 in
theorem voX6_doText : VOk yX6_doText := ⟨lw_m2 15 rfl rfl, lw_mem 0 rfl rfl⟩
set_option maxRecDepth 100000 in
theorem lkX6_123 : Cond.fieldLink RX6 123 RX0 (TX0 4).2.1 (TX0 4).2.2.1 ∈ lw_good := lw_m1 69 rfl rfl
set_option maxRecDepth 100000 in
theorem gfX6_123 : GFok RX6 123 0 4 := ⟨RX0, TX0, 10, rfl, by decide, inlX0, lkX6_123, rfl, tyX0, tyX0_ok, nmX0⟩
set_option maxRecDepth 100000 in
theorem moX0_letter : MOk yX0_letter cX0_letter 3 (some .int) 2 := ⟨lw_m2 197 rfl rfl, wnX0, neX0.1, neX0.2, ds_1⟩
set_option maxRecDepth 100000 in
theorem mlX6_105 : Cond.methodLink RX6 105 yX0_letter ∈ lw_good := lw_m2 194 rfl rfl
set_option maxRecDepth 100000 in
theorem voX0_letter : VOk yX0_letter := ⟨lw_m2 195 rfl rfl, lw_m2 196 rfl rfl⟩
set_option maxRecDepth 100000 in
theorem moX0_drop : MOk yX0_drop cX0_drop 3 none 1 := ⟨lw_m3 166 rfl rfl, wnX0, neX0.1, neX0.2, ds_22⟩
set_option maxRecDepth 100000 in
theorem mlX6_203 : Cond.methodLink RX6 203 yX0_drop ∈ lw_good := lw_m3 163 rfl rfl
set_option maxRecDepth 100000 in
theorem voX0_drop : VOk yX0_drop := ⟨lw_m3 164 rfl rfl, lw_m3 165 rfl rfl⟩
set_option maxRecDepth 100000 in
theorem lkX7_9 : Cond.fieldLink RX7 9 RX7 (TX7 0).2.1 (TX7 0).2.2.1 ∈ lw_good := lw_m4 34 rfl rfl
set_option maxRecDepth 100000 in
theorem gfX7_9 : GFok RX7 9 7 0 := ⟨RX7, TX7, 21, rfl, by decide, inlX7, lkX7_9, rfl, tyX7, tyX7_ok, nmX7⟩
set_option maxRecDepth 100000 in
theorem lkX7_16 : Cond.fieldLink RX7 16 RX7 (TX7 3).2.1 (TX7 3).2.2.1 ∈ lw_good := lw_m4 37 rfl rfl
set_option maxRecDepth 100000 in
theorem gfX7_16 : GFok RX7 16 7 3 := ⟨RX7, TX7, 21, rfl, by decide, inlX7, lkX7_16, rfl, tyX7, tyX7_ok, nmX7⟩
set_option maxRecDepth 100000 in
theorem neX7 : RX7 ≠ "java/lang/invoke/MethodHandle" ∧ RX7 ≠ "java/lang/invoke/VarHandle" := by decide +kernel
set_option maxRecDepth 100000 in
theorem wnX7 : Cond.initialized RX7 ∈ lw_good := lw_m1 8 rfl rfl
set_option maxRecDepth 100000 in
theorem moX7_isOf : MOk yX7_isOf cX7_isOf 3 (some .boolean) 2 := ⟨lw_m4 183 rfl rfl, wnX7, neX7.1, neX7.2, ds_5⟩
set_option maxRecDepth 100000 in
theorem mlX7_64 : Cond.methodLink RX7 64 yX7_isOf ∈ lw_good := lw_m4 180 rfl rfl
set_option maxRecDepth 100000 in
theorem voX7_isOf : VOk yX7_isOf := ⟨lw_m4 182 rfl rfl, lw_mem 40 rfl rfl⟩
set_option maxRecDepth 100000 in
theorem lkX7_19 : Cond.fieldLink RX7 19 RX7 (TX7 4).2.1 (TX7 4).2.2.1 ∈ lw_good := lw_m4 38 rfl rfl
set_option maxRecDepth 100000 in
theorem gfX7_19 : GFok RX7 19 7 4 := ⟨RX7, TX7, 21, rfl, by decide, inlX7, lkX7_19, rfl, tyX7, tyX7_ok, nmX7⟩
set_option maxRecDepth 100000 in
theorem moX7_wonBrings : MOk yX7_wonBrings cX7_wonBrings 1 (some .int) 0 := ⟨lw_m4 228 rfl rfl, wnX7, neX7.1, neX7.2, ds_9⟩
set_option maxRecDepth 100000 in
theorem mlX7_47 : Cond.methodLink RX7 47 yX7_wonBrings ∈ lw_good := lw_m4 225 rfl rfl
set_option maxRecDepth 100000 in
theorem voX7_wonBrings : VOk yX7_wonBrings := ⟨lw_m4 227 rfl rfl, lw_mem 46 rfl rfl⟩
set_option maxRecDepth 100000 in
theorem moX7_ownLeft : MOk yX7_ownLeft cX7_ownLeft 4 (some .int) 1 := ⟨lw_m5 0 rfl rfl, wnX7, neX7.1, neX7.2, ds_8⟩
set_option maxRecDepth 100000 in
theorem mlX7_68 : Cond.methodLink RX7 68 yX7_ownLeft ∈ lw_good := lw_m4 237 rfl rfl
set_option maxRecDepth 100000 in
theorem voX7_ownLeft : VOk yX7_ownLeft := ⟨lw_m4 239 rfl rfl, lw_mem 49 rfl rfl⟩
set_option maxRecDepth 100000 in
theorem moX7_ones : MOk yX7_ones cX7_ones 3 (some .int) 1 := ⟨lw_m5 3 rfl rfl, wnX7, neX7.1, neX7.2, ds_8⟩
set_option maxRecDepth 100000 in
theorem mlX7_72 : Cond.methodLink RX7 72 yX7_ones ∈ lw_good := lw_m5 1 rfl rfl
set_option maxRecDepth 100000 in
theorem soX7_ones : Cond.static yX7_ones ∈ lw_good := lw_m5 2 rfl rfl
set_option maxRecDepth 100000 in
theorem moX7_has : MOk yX7_has cX7_has 2 (some .boolean) 2 := ⟨lw_m5 29 rfl rfl, wnX7, neX7.1, neX7.2, ds_5⟩
set_option maxRecDepth 100000 in
theorem mlX7_92 : Cond.methodLink RX7 92 yX7_has ∈ lw_good := lw_m5 27 rfl rfl
set_option maxRecDepth 100000 in
theorem soX7_has : Cond.static yX7_has ∈ lw_good := lw_m5 28 rfl rfl
set_option maxRecDepth 100000 in
theorem moX7_reach : MOk yX7_reach cX7_reach 2 (some .int) 1 := ⟨lw_m4 236 rfl rfl, wnX7, neX7.1, neX7.2, ds_8⟩
set_option maxRecDepth 100000 in
theorem mlX7_108 : Cond.methodLink RX7 108 yX7_reach ∈ lw_good := lw_m4 233 rfl rfl
set_option maxRecDepth 100000 in
theorem voX7_reach : VOk yX7_reach := ⟨lw_m4 235 rfl rfl, lw_mem 48 rfl rfl⟩
set_option maxRecDepth 100000 in
theorem moX7_drawnBrings : MOk yX7_drawnBrings cX7_drawnBrings 1 (some .int) 0 := ⟨lw_m4 232 rfl rfl, wnX7, neX7.1, neX7.2, ds_9⟩
set_option maxRecDepth 100000 in
theorem mlX7_51 : Cond.methodLink RX7 51 yX7_drawnBrings ∈ lw_good := lw_m4 229 rfl rfl
set_option maxRecDepth 100000 in
theorem voX7_drawnBrings : VOk yX7_drawnBrings := ⟨lw_m4 231 rfl rfl, lw_mem 47 rfl rfl⟩
set_option maxRecDepth 100000 in
theorem lkX7_75 : Cond.fieldLink RX7 75 RX7 (TX7 5).2.1 (TX7 5).2.2.1 ∈ lw_good := lw_m4 39 rfl rfl
set_option maxRecDepth 100000 in
theorem gfX7_75 : GFok RX7 75 7 5 := ⟨RX7, TX7, 21, rfl, by decide, inlX7, lkX7_75, rfl, tyX7, tyX7_ok, nmX7⟩
set_option maxRecDepth 100000 in
theorem lkX7_79 : Cond.fieldLink RX7 79 RX7 (TX7 6).2.1 (TX7 6).2.2.1 ∈ lw_good := lw_m4 40 rfl rfl
set_option maxRecDepth 100000 in
theorem gfX7_79 : GFok RX7 79 7 6 := ⟨RX7, TX7, 21, rfl, by decide, inlX7, lkX7_79, rfl, tyX7, tyX7_ok, nmX7⟩
set_option maxRecDepth 100000 in
theorem lkX7_82 : Cond.fieldLink RX7 82 RX7 (TX7 8).2.1 (TX7 8).2.2.1 ∈ lw_good := lw_m4 42 rfl rfl
set_option maxRecDepth 100000 in
theorem gfX7_82 : GFok RX7 82 7 8 := ⟨RX7, TX7, 21, rfl, by decide, inlX7, lkX7_82, rfl, tyX7, tyX7_ok, nmX7⟩
set_option maxRecDepth 100000 in
theorem pfX7_82 : PFok RX7 82 7 8 .int := ⟨gfX7_82, fun C T N h => by cases h; exact ⟨rfl, tyX7_ok 8 (by decide)⟩⟩
set_option maxRecDepth 100000 in
theorem lkX7_22 : Cond.fieldLink RX7 22 RX7 (TX7 7).2.1 (TX7 7).2.2.1 ∈ lw_good := lw_m4 41 rfl rfl
set_option maxRecDepth 100000 in
theorem gfX7_22 : GFok RX7 22 7 7 := ⟨RX7, TX7, 21, rfl, by decide, inlX7, lkX7_22, rfl, tyX7, tyX7_ok, nmX7⟩
set_option maxRecDepth 100000 in
theorem moX7_resultAt : MOk yX7_resultAt cX7_resultAt 1 (some .int) 1 := ⟨lw_m5 52 rfl rfl, wnX7, neX7.1, neX7.2, ds_8⟩
set_option maxRecDepth 100000 in
theorem mlX7_105 : Cond.methodLink RX7 105 yX7_resultAt ∈ lw_good := lw_m5 50 rfl rfl
set_option maxRecDepth 100000 in
theorem soX7_resultAt : Cond.static yX7_resultAt ∈ lw_good := lw_m5 51 rfl rfl
set_option maxRecDepth 100000 in
theorem moX7_brings : MOk yX7_brings cX7_brings 6 none 3 := ⟨lw_m4 224 rfl rfl, wnX7, neX7.1, neX7.2, ds_6⟩
set_option maxRecDepth 100000 in
theorem mlX7_54 : Cond.methodLink RX7 54 yX7_brings ∈ lw_good := lw_m4 221 rfl rfl
set_option maxRecDepth 100000 in
theorem voX7_brings : VOk yX7_brings := ⟨lw_m4 223 rfl rfl, lw_mem 45 rfl rfl⟩
set_option maxRecDepth 100000 in
theorem moX7_goes : MOk yX7_goes cX7_goes 6 (some .boolean) 2 := ⟨lw_m5 37 rfl rfl, wnX7, neX7.1, neX7.2, ds_5⟩
set_option maxRecDepth 100000 in
theorem mlX7_95 : Cond.methodLink RX7 95 yX7_goes ∈ lw_good := lw_m5 34 rfl rfl
set_option maxRecDepth 100000 in
theorem voX7_goes : VOk yX7_goes := ⟨lw_m5 36 rfl rfl, lw_mem 52 rfl rfl⟩
set_option maxRecDepth 100000 in
theorem moX7_results : MOk yX7_results cX7_results 1 (some .int) 0 := ⟨lw_m5 49 rfl rfl, wnX7, neX7.1, neX7.2, ds_9⟩
set_option maxRecDepth 100000 in
theorem mlX7_98 : Cond.methodLink RX7 98 yX7_results ∈ lw_good := lw_m5 46 rfl rfl
set_option maxRecDepth 100000 in
theorem voX7_results : VOk yX7_results := ⟨lw_m5 48 rfl rfl, lw_mem 55 rfl rfl⟩
set_option maxRecDepth 100000 in
theorem lkX7_101 : Cond.fieldLink RX7 101 RX7 (TX7 9).2.1 (TX7 9).2.2.1 ∈ lw_good := lw_m4 43 rfl rfl
set_option maxRecDepth 100000 in
theorem gfX7_101 : GFok RX7 101 7 9 := ⟨RX7, TX7, 21, rfl, by decide, inlX7, lkX7_101, rfl, tyX7, tyX7_ok, nmX7⟩
set_option maxRecDepth 100000 in
theorem moX7_isTooMuch : MOk yX7_isTooMuch cX7_isTooMuch 2 (some .boolean) 0 := ⟨lw_m5 41 rfl rfl, wnX7, neX7.1, neX7.2, ds_15⟩
set_option maxRecDepth 100000 in
theorem mlX7_85 : Cond.methodLink RX7 85 yX7_isTooMuch ∈ lw_good := lw_m5 38 rfl rfl
set_option maxRecDepth 100000 in
theorem voX7_isTooMuch : VOk yX7_isTooMuch := ⟨lw_m5 40 rfl rfl, lw_mem 53 rfl rfl⟩
set_option maxRecDepth 100000 in
theorem moX7_notesDrawn : MOk yX7_notesDrawn cX7_notesDrawn 3 none 0 := ⟨lw_m5 45 rfl rfl, wnX7, neX7.1, neX7.2, ds_12⟩
set_option maxRecDepth 100000 in
theorem mlX7_89 : Cond.methodLink RX7 89 yX7_notesDrawn ∈ lw_good := lw_m5 42 rfl rfl
set_option maxRecDepth 100000 in
theorem voX7_notesDrawn : VOk yX7_notesDrawn := ⟨lw_m5 44 rfl rfl, lw_mem 54 rfl rfl⟩
set_option maxRecDepth 100000 in
theorem moX7_leftSet : MOk yX7_leftSet cX7_leftSet 3 (some .int) 0 := ⟨lw_m5 33 rfl rfl, wnX7, neX7.1, neX7.2, ds_9⟩
set_option maxRecDepth 100000 in
theorem mlX7_111 : Cond.methodLink RX7 111 yX7_leftSet ∈ lw_good := lw_m5 30 rfl rfl
set_option maxRecDepth 100000 in
theorem voX7_leftSet : VOk yX7_leftSet := ⟨lw_m5 32 rfl rfl, lw_mem 51 rfl rfl⟩
set_option maxRecDepth 100000 in
theorem pfX7_75 : PFok RX7 75 7 5 .int := ⟨gfX7_75, fun C T N h => by cases h; exact ⟨rfl, tyX7_ok 5 (by decide)⟩⟩
set_option maxRecDepth 100000 in
theorem pfX7_79 : PFok RX7 79 7 6 .int := ⟨gfX7_79, fun C T N h => by cases h; exact ⟨rfl, tyX7_ok 6 (by decide)⟩⟩
set_option maxRecDepth 100000 in
theorem pfX7_101 : PFok RX7 101 7 9 .boolean := ⟨gfX7_101, fun C T N h => by cases h; exact ⟨rfl, tyX7_ok 9 (by decide)⟩⟩
set_option maxRecDepth 100000 in
theorem ds_30 : (parseMethodDescriptor "(IZ)Z").map (fun d => d.parameters.length) = some 2 := by decide +kernel
set_option maxRecDepth 100000 in
theorem moX7_isInNow : MOk yX7_isInNow cX7_isInNow 5 (some .boolean) 2 := ⟨lw_m5 26 rfl rfl, wnX7, neX7.1, neX7.2, ds_30⟩
set_option maxRecDepth 100000 in
theorem mlX7_114 : Cond.methodLink RX7 114 yX7_isInNow ∈ lw_good := lw_m5 23 rfl rfl
set_option maxRecDepth 100000 in
theorem voX7_isInNow : VOk yX7_isInNow := ⟨lw_m5 25 rfl rfl, lw_mem 50 rfl rfl⟩
set_option maxRecDepth 100000 in
theorem moX7_counts : MOk yX7_counts cX7_counts 2 none 0 := ⟨lw_m4 220 rfl rfl, wnX7, neX7.1, neX7.2, ds_12⟩
set_option maxRecDepth 100000 in
theorem mlX7_58 : Cond.methodLink RX7 58 yX7_counts ∈ lw_good := lw_m4 217 rfl rfl
set_option maxRecDepth 100000 in
theorem voX7_counts : VOk yX7_counts := ⟨lw_m4 219 rfl rfl, lw_mem 44 rfl rfl⟩
set_option maxRecDepth 100000 in
theorem moX7_looks : MOk yX7_looks cX7_looks 2 none 0 := ⟨lw_m4 216 rfl rfl, wnX7, neX7.1, neX7.2, ds_12⟩
set_option maxRecDepth 100000 in
theorem mlX7_61 : Cond.methodLink RX7 61 yX7_looks ∈ lw_good := lw_m4 213 rfl rfl
set_option maxRecDepth 100000 in
theorem voX7_looks : VOk yX7_looks := ⟨lw_m4 215 rfl rfl, lw_mem 43 rfl rfl⟩
set_option maxRecDepth 100000 in
theorem moX7_inSet : MOk yX7_inSet cX7_inSet 3 (some .int) 0 := ⟨lw_m5 60 rfl rfl, wnX7, neX7.1, neX7.2, ds_9⟩
set_option maxRecDepth 100000 in
theorem mlX7_214 : Cond.methodLink RX7 214 yX7_inSet ∈ lw_good := lw_m5 57 rfl rfl
set_option maxRecDepth 100000 in
theorem voX7_inSet : VOk yX7_inSet := ⟨lw_m5 59 rfl rfl, lw_mem 56 rfl rfl⟩
set_option maxRecDepth 100000 in
theorem lkX7_262 : Cond.fieldLink RX7 262 RX7 (TX7 2).2.1 (TX7 2).2.2.1 ∈ lw_good := lw_m4 36 rfl rfl
set_option maxRecDepth 100000 in
theorem gfX7_262 : GFok RX7 262 7 2 := ⟨RX7, TX7, 21, rfl, by decide, inlX7, lkX7_262, rfl, tyX7, tyX7_ok, nmX7⟩
set_option maxRecDepth 100000 in
theorem lkX7_13 : Cond.fieldLink RX7 13 RX7 (TX7 1).2.1 (TX7 1).2.2.1 ∈ lw_good := lw_m4 35 rfl rfl
set_option maxRecDepth 100000 in
theorem gfX7_13 : GFok RX7 13 7 1 := ⟨RX7, TX7, 21, rfl, by decide, inlX7, lkX7_13, rfl, tyX7, tyX7_ok, nmX7⟩
set_option maxRecDepth 100000 in
theorem ds_31 : (parseMethodDescriptor "([I[I)V").map (fun d => d.parameters.length) = some 2 := by decide +kernel
set_option maxRecDepth 100000 in
theorem moX7_copies : MOk yX7_copies cX7_copies 3 none 2 := ⟨lw_m5 169 rfl rfl, wnX7, neX7.1, neX7.2, ds_31⟩
set_option maxRecDepth 100000 in
theorem mlX7_265 : Cond.methodLink RX7 265 yX7_copies ∈ lw_good := lw_m5 167 rfl rfl
set_option maxRecDepth 100000 in
theorem soX7_copies : Cond.static yX7_copies ∈ lw_good := lw_m5 168 rfl rfl
set_option maxRecDepth 100000 in
theorem ds_32 : (parseMethodDescriptor "(JJJ)Z").map (fun d => d.parameters.length) = some 3 := by decide +kernel
set_option maxRecDepth 100000 in
theorem moX7_in : MOk yX7_in cX7_in 6 (some .boolean) 3 := ⟨lw_m4 105 rfl rfl, wnX7, neX7.1, neX7.2, ds_32⟩
set_option maxRecDepth 100000 in
theorem mlX7_43 : Cond.methodLink RX7 43 yX7_in ∈ lw_good := lw_m4 103 rfl rfl
set_option maxRecDepth 100000 in
theorem soX7_in : Cond.static yX7_in ∈ lw_good := lw_m4 104 rfl rfl
set_option maxRecDepth 100000 in
theorem moX7_isTeam : MOk yX7_isTeam cX7_isTeam 2 (some .boolean) 1 := ⟨lw_m4 212 rfl rfl, wnX7, neX7.1, neX7.2, ds_0⟩
set_option maxRecDepth 100000 in
theorem mlX7_205 : Cond.methodLink RX7 205 yX7_isTeam ∈ lw_good := lw_m4 209 rfl rfl
set_option maxRecDepth 100000 in
theorem voX7_isTeam : VOk yX7_isTeam := ⟨lw_m4 211 rfl rfl, lw_mem 42 rfl rfl⟩
set_option maxRecDepth 100000 in
theorem lkX7_129 : Cond.fieldLink RX7 129 RX7 (TX7 11).2.1 (TX7 11).2.2.1 ∈ lw_good := lw_m4 45 rfl rfl
set_option maxRecDepth 100000 in
theorem gfX7_129 : GFok RX7 129 7 11 := ⟨RX7, TX7, 21, rfl, by decide, inlX7, lkX7_129, rfl, tyX7, tyX7_ok, nmX7⟩
set_option maxRecDepth 100000 in
theorem lkX7_25 : Cond.fieldLink RX7 25 RX7 (TX7 10).2.1 (TX7 10).2.2.1 ∈ lw_good := lw_m4 44 rfl rfl
set_option maxRecDepth 100000 in
theorem gfX7_25 : GFok RX7 25 7 10 := ⟨RX7, TX7, 21, rfl, by decide, inlX7, lkX7_25, rfl, tyX7, tyX7_ok, nmX7⟩
set_option maxRecDepth 100000 in
theorem moX7_canBePassed : MOk yX7_canBePassed cX7_canBePassed 5 (some .boolean) 2 := ⟨lw_m5 96 rfl rfl, wnX7, neX7.1, neX7.2, ds_5⟩
set_option maxRecDepth 100000 in
theorem mlX7_118 : Cond.methodLink RX7 118 yX7_canBePassed ∈ lw_good := lw_m5 93 rfl rfl
set_option maxRecDepth 100000 in
theorem voX7_canBePassed : VOk yX7_canBePassed := ⟨lw_m5 95 rfl rfl, lw_mem 60 rfl rfl⟩
set_option maxRecDepth 100000 in
theorem kcX7_241 : Cond.constant RX7 241 (1103515245) ∈ lw_good := lw_m5 129 rfl rfl
set_option maxRecDepth 100000 in
theorem moX7_draws : MOk yX7_draws cX7_draws 4 none 1 := ⟨lw_m5 128 rfl rfl, wnX7, neX7.1, neX7.2, ds_22⟩
set_option maxRecDepth 100000 in
theorem mlX7_242 : Cond.methodLink RX7 242 yX7_draws ∈ lw_good := lw_m5 125 rfl rfl
set_option maxRecDepth 100000 in
theorem voX7_draws : VOk yX7_draws := ⟨lw_m5 127 rfl rfl, lw_mem 64 rfl rfl⟩
set_option maxRecDepth 100000 in
theorem moX7_firstOnes : MOk yX7_firstOnes cX7_firstOnes 5 (some .int) 0 := ⟨lw_m5 133 rfl rfl, wnX7, neX7.1, neX7.2, ds_9⟩
set_option maxRecDepth 100000 in
theorem mlX7_245 : Cond.methodLink RX7 245 yX7_firstOnes ∈ lw_good := lw_m5 130 rfl rfl
set_option maxRecDepth 100000 in
theorem voX7_firstOnes : VOk yX7_firstOnes := ⟨lw_m5 132 rfl rfl, lw_mem 65 rfl rfl⟩
set_option maxRecDepth 100000 in
theorem klX7_248 : Cond.constantLong RX7 248 (20) ∈ lw_good := lw_m5 138 rfl rfl
set_option maxRecDepth 100000 in
theorem lkX7_146 : Cond.fieldLink RX7 146 RX7 (TX7 13).2.1 (TX7 13).2.2.1 ∈ lw_good := lw_m4 47 rfl rfl
set_option maxRecDepth 100000 in
theorem gfX7_146 : GFok RX7 146 7 13 := ⟨RX7, TX7, 21, rfl, by decide, inlX7, lkX7_146, rfl, tyX7, tyX7_ok, nmX7⟩
set_option maxRecDepth 100000 in
theorem pfX7_129 : PFok RX7 129 7 11 .int := ⟨gfX7_129, fun C T N h => by cases h; exact ⟨rfl, tyX7_ok 11 (by decide)⟩⟩
set_option maxRecDepth 100000 in
theorem klX7_136 : Cond.constantLong RX7 136 (48) ∈ lw_good := lw_m4 130 rfl rfl
set_option maxRecDepth 100000 in
theorem klX7_138 : Cond.constantLong RX7 138 (57) ∈ lw_good := lw_m4 131 rfl rfl
set_option maxRecDepth 100000 in
theorem klX7_132 : Cond.constantLong RX7 132 (97) ∈ lw_good := lw_m4 125 rfl rfl
set_option maxRecDepth 100000 in
theorem klX7_134 : Cond.constantLong RX7 134 (122) ∈ lw_good := lw_m4 126 rfl rfl
set_option maxRecDepth 100000 in
theorem lkX7_140 : Cond.fieldLink RX7 140 RX7 (TX7 12).2.1 (TX7 12).2.2.1 ∈ lw_good := lw_m4 46 rfl rfl
set_option maxRecDepth 100000 in
theorem gfX7_140 : GFok RX7 140 7 12 := ⟨RX7, TX7, 21, rfl, by decide, inlX7, lkX7_140, rfl, tyX7, tyX7_ok, nmX7⟩
set_option maxRecDepth 100000 in
theorem pfX7_140 : PFok RX7 140 7 12 .int := ⟨gfX7_140, fun C T N h => by cases h; exact ⟨rfl, tyX7_ok 12 (by decide)⟩⟩
set_option maxRecDepth 100000 in
theorem lkX7_149 : Cond.fieldLink RX7 149 RX7 (TX7 14).2.1 (TX7 14).2.2.1 ∈ lw_good := lw_m4 48 rfl rfl
set_option maxRecDepth 100000 in
theorem gfX7_149 : GFok RX7 149 7 14 := ⟨RX7, TX7, 21, rfl, by decide, inlX7, lkX7_149, rfl, tyX7, tyX7_ok, nmX7⟩
set_option maxRecDepth 100000 in
theorem pfX7_149 : PFok RX7 149 7 14 .int := ⟨gfX7_149, fun C T N h => by cases h; exact ⟨rfl, tyX7_ok 14 (by decide)⟩⟩
set_option maxRecDepth 100000 in
theorem moX7_byteAt : MOk yX7_byteAt cX7_byteAt 2 (some .int) 1 := ⟨lw_m4 121 rfl rfl, wnX7, neX7.1, neX7.2, ds_8⟩
set_option maxRecDepth 100000 in
theorem mlX7_143 : Cond.methodLink RX7 143 yX7_byteAt ∈ lw_good := lw_m4 118 rfl rfl
set_option maxRecDepth 100000 in
theorem voX7_byteAt : VOk yX7_byteAt := ⟨lw_m4 120 rfl rfl, lw_mem 27 rfl rfl⟩
set_option maxRecDepth 100000 in
theorem moX7_isDigit : MOk yX7_isDigit cX7_isDigit 1 (some .boolean) 1 := ⟨lw_m4 129 rfl rfl, wnX7, neX7.1, neX7.2, ds_0⟩
set_option maxRecDepth 100000 in
theorem mlX7_155 : Cond.methodLink RX7 155 yX7_isDigit ∈ lw_good := lw_m4 127 rfl rfl
set_option maxRecDepth 100000 in
theorem soX7_isDigit : Cond.static yX7_isDigit ∈ lw_good := lw_m4 128 rfl rfl
set_option maxRecDepth 100000 in
theorem moX7_isLetter : MOk yX7_isLetter cX7_isLetter 1 (some .boolean) 1 := ⟨lw_m4 124 rfl rfl, wnX7, neX7.1, neX7.2, ds_0⟩
set_option maxRecDepth 100000 in
theorem mlX7_152 : Cond.methodLink RX7 152 yX7_isLetter ∈ lw_good := lw_m4 122 rfl rfl
set_option maxRecDepth 100000 in
theorem soX7_isLetter : Cond.static yX7_isLetter ∈ lw_good := lw_m4 123 rfl rfl
set_option maxRecDepth 100000 in
theorem pfX7_146 : PFok RX7 146 7 13 .int := ⟨gfX7_146, fun C T N h => by cases h; exact ⟨rfl, tyX7_ok 13 (by decide)⟩⟩
set_option maxRecDepth 100000 in
theorem moX7_next : MOk yX7_next cX7_next 2 none 0 := ⟨lw_m4 117 rfl rfl, wnX7, neX7.1, neX7.2, ds_12⟩
set_option maxRecDepth 100000 in
theorem mlX7_164 : Cond.methodLink RX7 164 yX7_next ∈ lw_good := lw_m4 114 rfl rfl
set_option maxRecDepth 100000 in
theorem voX7_next : VOk yX7_next := ⟨lw_m4 116 rfl rfl, lw_mem 26 rfl rfl⟩
set_option maxRecDepth 100000 in
theorem moX7_isOver : MOk yX7_isOver cX7_isOver 1 (some .boolean) 0 := ⟨lw_m4 159 rfl rfl, wnX7, neX7.1, neX7.2, ds_15⟩
set_option maxRecDepth 100000 in
theorem mlX7_186 : Cond.methodLink RX7 186 yX7_isOver ∈ lw_good := lw_m4 156 rfl rfl
set_option maxRecDepth 100000 in
theorem voX7_isOver : VOk yX7_isOver := ⟨lw_m4 158 rfl rfl, lw_mem 34 rfl rfl⟩
set_option maxRecDepth 100000 in
theorem moX7_faults : MOk yX7_faults cX7_faults 2 (some .int) 0 := ⟨lw_m4 143 rfl rfl, wnX7, neX7.1, neX7.2, ds_9⟩
set_option maxRecDepth 100000 in
theorem mlX7_167 : Cond.methodLink RX7 167 yX7_faults ∈ lw_good := lw_m4 140 rfl rfl
set_option maxRecDepth 100000 in
theorem voX7_faults : VOk yX7_faults := ⟨lw_m4 142 rfl rfl, lw_mem 30 rfl rfl⟩
set_option maxRecDepth 100000 in
theorem klX7_212 : Cond.constantLong RX7 212 (3) ∈ lw_good := lw_m5 10 rfl rfl
set_option maxRecDepth 100000 in
theorem lkX7_40 : Cond.fieldLink RX7 40 RX7 (TX7 20).2.1 (TX7 20).2.2.1 ∈ lw_good := lw_m4 54 rfl rfl
set_option maxRecDepth 100000 in
theorem gfX7_40 : GFok RX7 40 7 20 := ⟨RX7, TX7, 21, rfl, by decide, inlX7, lkX7_40, rfl, tyX7, tyX7_ok, nmX7⟩
set_option maxRecDepth 100000 in
theorem moX7_isSheet : MOk yX7_isSheet cX7_isSheet 1 (some .boolean) 1 := ⟨lw_m5 145 rfl rfl, wnX7, neX7.1, neX7.2, ds_0⟩
set_option maxRecDepth 100000 in
theorem mlX7_253 : Cond.methodLink RX7 253 yX7_isSheet ∈ lw_good := lw_m5 143 rfl rfl
set_option maxRecDepth 100000 in
theorem soX7_isSheet : Cond.static yX7_isSheet ∈ lw_good := lw_m5 144 rfl rfl
set_option maxRecDepth 100000 in
theorem lkX7_34 : Cond.fieldLink RX7 34 RX7 (TX7 18).2.1 (TX7 18).2.2.1 ∈ lw_good := lw_m4 52 rfl rfl
set_option maxRecDepth 100000 in
theorem gfX7_34 : GFok RX7 34 7 18 := ⟨RX7, TX7, 21, rfl, by decide, inlX7, lkX7_34, rfl, tyX7, tyX7_ok, nmX7⟩
set_option maxRecDepth 100000 in
theorem lkX7_37 : Cond.fieldLink RX7 37 RX7 (TX7 19).2.1 (TX7 19).2.2.1 ∈ lw_good := lw_m4 53 rfl rfl
set_option maxRecDepth 100000 in
theorem gfX7_37 : GFok RX7 37 7 19 := ⟨RX7, TX7, 21, rfl, by decide, inlX7, lkX7_37, rfl, tyX7, tyX7_ok, nmX7⟩
set_option maxRecDepth 100000 in
theorem klX7_121 : Cond.constantLong RX7 121 (255) ∈ lw_good := lw_m4 109 rfl rfl
set_option maxRecDepth 100000 in
theorem klX7_123 : Cond.constantLong RX7 123 (5) ∈ lw_good := lw_m4 102 rfl rfl
set_option maxRecDepth 100000 in
theorem moX7_isByte : MOk yX7_isByte cX7_isByte 1 (some .boolean) 1 := ⟨lw_m4 108 rfl rfl, wnX7, neX7.1, neX7.2, ds_0⟩
set_option maxRecDepth 100000 in
theorem mlX7_125 : Cond.methodLink RX7 125 yX7_isByte ∈ lw_good := lw_m4 106 rfl rfl
set_option maxRecDepth 100000 in
theorem soX7_isByte : Cond.static yX7_isByte ∈ lw_good := lw_m4 107 rfl rfl
set_option maxRecDepth 100000 in
theorem klX7_269 : Cond.constantLong RX7 269 (-1) ∈ lw_good := lw_m5 162 rfl rfl
set_option maxRecDepth 100000 in
theorem moX7_sheet : MOk yX7_sheet cX7_sheet 5 (some .int) 3 := ⟨lw_m5 161 rfl rfl, wnX7, neX7.1, neX7.2, ds_25⟩
set_option maxRecDepth 100000 in
theorem mlX7_259 : Cond.methodLink RX7 259 yX7_sheet ∈ lw_good := lw_m5 158 rfl rfl
set_option maxRecDepth 100000 in
theorem voX7_sheet : VOk yX7_sheet := ⟨lw_m5 159 rfl rfl, lw_m5 160 rfl rfl⟩
set_option maxRecDepth 100000 in
theorem moX7_isGame : MOk yX7_isGame cX7_isGame 2 (some .boolean) 1 := ⟨lw_m4 200 rfl rfl, wnX7, neX7.1, neX7.2, ds_0⟩
set_option maxRecDepth 100000 in
theorem mlX7_202 : Cond.methodLink RX7 202 yX7_isGame ∈ lw_good := lw_m4 197 rfl rfl
set_option maxRecDepth 100000 in
theorem voX7_isGame : VOk yX7_isGame := ⟨lw_m4 199 rfl rfl, lw_mem 41 rfl rfl⟩
set_option maxRecDepth 100000 in
theorem lkX7_28 : Cond.fieldLink RX7 28 RX7 (TX7 15).2.1 (TX7 15).2.2.1 ∈ lw_good := lw_m4 49 rfl rfl
set_option maxRecDepth 100000 in
theorem gfX7_28 : GFok RX7 28 7 15 := ⟨RX7, TX7, 21, rfl, by decide, inlX7, lkX7_28, rfl, tyX7, tyX7_ok, nmX7⟩
set_option maxRecDepth 100000 in
theorem moX7_isWord : MOk yX7_isWord cX7_isWord 1 (some .boolean) 0 := ⟨lw_m4 135 rfl rfl, wnX7, neX7.1, neX7.2, ds_15⟩
set_option maxRecDepth 100000 in
theorem mlX7_158 : Cond.methodLink RX7 158 yX7_isWord ∈ lw_good := lw_m4 132 rfl rfl
set_option maxRecDepth 100000 in
theorem voX7_isWord : VOk yX7_isWord := ⟨lw_m4 134 rfl rfl, lw_mem 28 rfl rfl⟩
set_option maxRecDepth 100000 in
theorem moX7_key : MOk yX7_key cX7_key 4 (some .int) 0 := ⟨lw_m4 139 rfl rfl, wnX7, neX7.1, neX7.2, ds_9⟩
set_option maxRecDepth 100000 in
theorem mlX7_161 : Cond.methodLink RX7 161 yX7_key ∈ lw_good := lw_m4 136 rfl rfl
set_option maxRecDepth 100000 in
theorem voX7_key : VOk yX7_key := ⟨lw_m4 138 rfl rfl, lw_mem 29 rfl rfl⟩
set_option maxRecDepth 100000 in
theorem moX7_isPlayed : MOk yX7_isPlayed cX7_isPlayed 7 (some .int) 3 := ⟨lw_m4 179 rfl rfl, wnX7, neX7.1, neX7.2, ds_29⟩
set_option maxRecDepth 100000 in
theorem mlX7_196 : Cond.methodLink RX7 196 yX7_isPlayed ∈ lw_good := lw_m4 176 rfl rfl
set_option maxRecDepth 100000 in
theorem voX7_isPlayed : VOk yX7_isPlayed := ⟨lw_m4 178 rfl rfl, lw_mem 39 rfl rfl⟩
set_option maxRecDepth 100000 in
theorem moX7_comesGame : MOk yX7_comesGame cX7_comesGame 5 (some .int) 3 := ⟨lw_m4 175 rfl rfl, wnX7, neX7.1, neX7.2, ds_25⟩
set_option maxRecDepth 100000 in
theorem mlX7_192 : Cond.methodLink RX7 192 yX7_comesGame ∈ lw_good := lw_m4 172 rfl rfl
set_option maxRecDepth 100000 in
theorem voX7_comesGame : VOk yX7_comesGame := ⟨lw_m4 174 rfl rfl, lw_mem 38 rfl rfl⟩
set_option maxRecDepth 100000 in
theorem moX7_whose : MOk yX7_whose cX7_whose 6 (some .int) 2 := ⟨lw_m4 151 rfl rfl, wnX7, neX7.1, neX7.2, ds_1⟩
set_option maxRecDepth 100000 in
theorem mlX7_173 : Cond.methodLink RX7 173 yX7_whose ∈ lw_good := lw_m4 148 rfl rfl
set_option maxRecDepth 100000 in
theorem voX7_whose : VOk yX7_whose := ⟨lw_m4 150 rfl rfl, lw_mem 32 rfl rfl⟩
set_option maxRecDepth 100000 in
theorem moX7_isName : MOk yX7_isName cX7_isName 1 (some .boolean) 0 := ⟨lw_m4 147 rfl rfl, wnX7, neX7.1, neX7.2, ds_15⟩
set_option maxRecDepth 100000 in
theorem mlX7_170 : Cond.methodLink RX7 170 yX7_isName ∈ lw_good := lw_m4 144 rfl rfl
set_option maxRecDepth 100000 in
theorem voX7_isName : VOk yX7_isName := ⟨lw_m4 146 rfl rfl, lw_mem 31 rfl rfl⟩
set_option maxRecDepth 100000 in
theorem moX7_number : MOk yX7_number cX7_number 5 (some .int) 2 := ⟨lw_m4 167 rfl rfl, wnX7, neX7.1, neX7.2, ds_1⟩
set_option maxRecDepth 100000 in
theorem mlX7_189 : Cond.methodLink RX7 189 yX7_number ∈ lw_good := lw_m4 164 rfl rfl
set_option maxRecDepth 100000 in
theorem voX7_number : VOk yX7_number := ⟨lw_m4 166 rfl rfl, lw_mem 36 rfl rfl⟩
set_option maxRecDepth 100000 in
theorem moX7_looksWith : MOk yX7_looksWith cX7_looksWith 3 none 2 := ⟨lw_m5 104 rfl rfl, wnX7, neX7.1, neX7.2, ds_28⟩
set_option maxRecDepth 100000 in
theorem mlX7_228 : Cond.methodLink RX7 228 yX7_looksWith ∈ lw_good := lw_m5 101 rfl rfl
set_option maxRecDepth 100000 in
theorem voX7_looksWith : VOk yX7_looksWith := ⟨lw_m5 103 rfl rfl, lw_mem 61 rfl rfl⟩
set_option maxRecDepth 100000 in
theorem pfX7_262 : PFok RX7 262 7 2 .boolean := ⟨gfX7_262, fun C T N h => by cases h; exact ⟨rfl, tyX7_ok 2 (by decide)⟩⟩
set_option maxRecDepth 100000 in
theorem klX7_273 : Cond.constantLong RX7 273 (30) ∈ lw_good := lw_m5 192 rfl rfl
set_option maxRecDepth 100000 in
theorem klX7_271 : Cond.constantLong RX7 271 (9) ∈ lw_good := lw_m5 191 rfl rfl
set_option maxRecDepth 100000 in
theorem moX7_isEnough : MOk yX7_isEnough cX7_isEnough 6 (some .boolean) 3 := ⟨lw_m5 84 rfl rfl, wnX7, neX7.1, neX7.2, ds_4⟩
set_option maxRecDepth 100000 in
theorem mlX7_220 : Cond.methodLink RX7 220 yX7_isEnough ∈ lw_good := lw_m5 81 rfl rfl
set_option maxRecDepth 100000 in
theorem voX7_isEnough : VOk yX7_isEnough := ⟨lw_m5 83 rfl rfl, lw_mem 58 rfl rfl⟩
set_option maxRecDepth 100000 in
theorem lkX7_31 : Cond.fieldLink RX7 31 RX7 (TX7 16).2.1 (TX7 16).2.2.1 ∈ lw_good := lw_m4 50 rfl rfl
set_option maxRecDepth 100000 in
theorem gfX7_31 : GFok RX7 31 7 16 := ⟨RX7, TX7, 21, rfl, by decide, inlX7, lkX7_31, rfl, tyX7, tyX7_ok, nmX7⟩
set_option maxRecDepth 100000 in
theorem lkX7_232 : Cond.fieldLink RX7 232 RX7 (TX7 17).2.1 (TX7 17).2.2.1 ∈ lw_good := lw_m4 51 rfl rfl
set_option maxRecDepth 100000 in
theorem gfX7_232 : GFok RX7 232 7 17 := ⟨RX7, TX7, 21, rfl, by decide, inlX7, lkX7_232, rfl, tyX7, tyX7_ok, nmX7⟩
set_option maxRecDepth 100000 in
theorem pfX7_232 : PFok RX7 232 7 17 .int := ⟨gfX7_232, fun C T N h => by cases h; exact ⟨rfl, tyX7_ok 17 (by decide)⟩⟩
set_option maxRecDepth 100000 in
theorem klX7_200 : Cond.constantLong RX7 200 (2) ∈ lw_good := lw_m4 192 rfl rfl
set_option maxRecDepth 100000 in
theorem moX7_runsSo : MOk yX7_runsSo cX7_runsSo 5 (some .int) 2 := ⟨lw_m5 153 rfl rfl, wnX7, neX7.1, neX7.2, ds_1⟩
set_option maxRecDepth 100000 in
theorem mlX7_250 : Cond.methodLink RX7 250 yX7_runsSo ∈ lw_good := lw_m5 150 rfl rfl
set_option maxRecDepth 100000 in
theorem voX7_runsSo : VOk yX7_runsSo := ⟨lw_m5 152 rfl rfl, lw_mem 67 rfl rfl⟩
set_option maxRecDepth 100000 in
theorem moX7_aboveOf : MOk yX7_aboveOf cX7_aboveOf 6 (some .int) 2 := ⟨lw_m5 68 rfl rfl, wnX7, neX7.1, neX7.2, ds_1⟩
set_option maxRecDepth 100000 in
theorem mlX7_217 : Cond.methodLink RX7 217 yX7_aboveOf ∈ lw_good := lw_m5 65 rfl rfl
set_option maxRecDepth 100000 in
theorem voX7_aboveOf : VOk yX7_aboveOf := ⟨lw_m5 67 rfl rfl, lw_mem 57 rfl rfl⟩
set_option maxRecDepth 100000 in
theorem moX7_looksAsOf : MOk yX7_looksAsOf cX7_looksAsOf 3 none 1 := ⟨lw_m5 92 rfl rfl, wnX7, neX7.1, neX7.2, ds_22⟩
set_option maxRecDepth 100000 in
theorem mlX7_224 : Cond.methodLink RX7 224 yX7_looksAsOf ∈ lw_good := lw_m5 89 rfl rfl
set_option maxRecDepth 100000 in
theorem voX7_looksAsOf : VOk yX7_looksAsOf := ⟨lw_m5 91 rfl rfl, lw_mem 59 rfl rfl⟩
set_option maxRecDepth 100000 in
theorem moX7_tablesFrom : MOk yX7_tablesFrom cX7_tablesFrom 3 none 1 := ⟨lw_m5 116 rfl rfl, wnX7, neX7.1, neX7.2, ds_22⟩
set_option maxRecDepth 100000 in
theorem mlX7_238 : Cond.methodLink RX7 238 yX7_tablesFrom ∈ lw_good := lw_m5 113 rfl rfl
set_option maxRecDepth 100000 in
theorem voX7_tablesFrom : VOk yX7_tablesFrom := ⟨lw_m5 115 rfl rfl, lw_mem 62 rfl rfl⟩
set_option maxRecDepth 100000 in
theorem moX7_notesRow : MOk yX7_notesRow cX7_notesRow 4 none 0 := ⟨lw_m5 120 rfl rfl, wnX7, neX7.1, neX7.2, ds_12⟩
set_option maxRecDepth 100000 in
theorem mlX7_235 : Cond.methodLink RX7 235 yX7_notesRow ∈ lw_good := lw_m5 117 rfl rfl
set_option maxRecDepth 100000 in
theorem voX7_notesRow : VOk yX7_notesRow := ⟨lw_m5 119 rfl rfl, lw_mem 63 rfl rfl⟩
set_option maxRecDepth 100000 in
theorem moX7_firstTold : MOk yX7_firstTold cX7_firstTold 6 (some .int) 1 := ⟨lw_m5 149 rfl rfl, wnX7, neX7.1, neX7.2, ds_8⟩
set_option maxRecDepth 100000 in
theorem mlX7_256 : Cond.methodLink RX7 256 yX7_firstTold ∈ lw_good := lw_m5 146 rfl rfl
set_option maxRecDepth 100000 in
theorem voX7_firstTold : VOk yX7_firstTold := ⟨lw_m5 148 rfl rfl, lw_mem 66 rfl rfl⟩
set_option maxRecDepth 100000 in
theorem moX7_games : MOk yX7_games cX7_games 5 (some .int) 1 := ⟨lw_m4 171 rfl rfl, wnX7, neX7.1, neX7.2, ds_8⟩
set_option maxRecDepth 100000 in
theorem mlX7_183 : Cond.methodLink RX7 183 yX7_games ∈ lw_good := lw_m4 168 rfl rfl
set_option maxRecDepth 100000 in
theorem voX7_games : VOk yX7_games := ⟨lw_m4 170 rfl rfl, lw_mem 37 rfl rfl⟩
set_option maxRecDepth 100000 in
theorem moX7_starts : MOk yX7_starts cX7_starts 3 (some .int) 0 := ⟨lw_m4 163 rfl rfl, wnX7, neX7.1, neX7.2, ds_9⟩
set_option maxRecDepth 100000 in
theorem mlX7_180 : Cond.methodLink RX7 180 yX7_starts ∈ lw_good := lw_m4 160 rfl rfl
set_option maxRecDepth 100000 in
theorem voX7_starts : VOk yX7_starts := ⟨lw_m4 162 rfl rfl, lw_mem 35 rfl rfl⟩
set_option maxRecDepth 100000 in
theorem moX7_comesTeam : MOk yX7_comesTeam cX7_comesTeam 5 (some .int) 0 := ⟨lw_m4 155 rfl rfl, wnX7, neX7.1, neX7.2, ds_9⟩
set_option maxRecDepth 100000 in
theorem mlX7_177 : Cond.methodLink RX7 177 yX7_comesTeam ∈ lw_good := lw_m4 152 rfl rfl
set_option maxRecDepth 100000 in
theorem voX7_comesTeam : VOk yX7_comesTeam := ⟨lw_m4 154 rfl rfl, lw_mem 33 rfl rfl⟩
set_option maxRecDepth 100000 in
theorem klX7_208 : Cond.constantLong RX7 208 (10) ∈ lw_good := lw_m5 4 rfl rfl
set_option maxRecDepth 100000 in
theorem klX7_210 : Cond.constantLong RX7 210 (15) ∈ lw_good := lw_m5 5 rfl rfl
set_option maxRecDepth 100000 in
theorem moX6_1 : Cond.methodLink RX6 1 Lib.objectInit ∈ lw_good := lw_m1 20 rfl rfl
set_option maxRecDepth 100000 in
theorem wcX6_7 : Cond.classLink RX6 7 RX4 ∈ lw_good := lw_m1 23 rfl rfl
set_option maxRecDepth 100000 in
theorem wiX4 : Cond.instantiable RX4 5 ∈ lw_good := lw_m1 24 rfl rfl
set_option maxRecDepth 100000 in
theorem moX4_3 : Cond.methodLink RX4 3 Lib.objectInit ∈ lw_good := lw_m1 28 rfl rfl
set_option maxRecDepth 100000 in
theorem wa_int : Cond.arrayClass .int ∈ lw_good := lw_m1 49 rfl rfl
set_option maxRecDepth 100000 in
theorem pnX4_9 : PNok RX4 9 4 0 (.array .int) := ⟨gfX4_9, fun C T N h => by cases h; exact ⟨rfl, tyX4_ok 0 (by decide), rfl⟩⟩
set_option maxRecDepth 100000 in
theorem moX4_init : MOk yX4_init cX4_init 1 none 0 := ⟨lw_m1 27 rfl rfl, wnX4, neX4.1, neX4.2, ds_12⟩
set_option maxRecDepth 100000 in
theorem mnX6_9 : (RX6, 9, yX4_init, "StillInIt") ∈ nestM := by decide +kernel
set_option maxRecDepth 100000 in
theorem ioX4_init : Cond.instanceMethod yX4_init ∈ lw_good := lw_m1 26 rfl rfl
set_option maxRecDepth 100000 in
theorem pnX6_10 : PNok RX6 10 6 0 (.object "StillInIt$Tape") := ⟨gfX6_10, fun C T N h => by cases h; exact ⟨rfl, tyX6_ok 0 (by decide), rfl⟩⟩
set_option maxRecDepth 100000 in
theorem wcX6_16 : Cond.classLink RX6 16 RX0 ∈ lw_good := lw_m1 50 rfl rfl
set_option maxRecDepth 100000 in
theorem wiX0 : Cond.instantiable RX0 10 ∈ lw_good := lw_m1 51 rfl rfl
set_option maxRecDepth 100000 in
theorem moX0_3 : Cond.methodLink RX0 3 Lib.objectInit ∈ lw_good := lw_m1 55 rfl rfl
set_option maxRecDepth 100000 in
theorem pnX0_9 : PNok RX0 9 0 3 (.array .int) := ⟨gfX0_9, fun C T N h => by cases h; exact ⟨rfl, tyX0_ok 3 (by decide), rfl⟩⟩
set_option maxRecDepth 100000 in
theorem pnX0_15 : PNok RX0 15 0 4 (.array .int) := ⟨gfX0_15, fun C T N h => by cases h; exact ⟨rfl, tyX0_ok 4 (by decide), rfl⟩⟩
set_option maxRecDepth 100000 in
theorem pnX0_18 : PNok RX0 18 0 5 (.array .int) := ⟨gfX0_18, fun C T N h => by cases h; exact ⟨rfl, tyX0_ok 5 (by decide), rfl⟩⟩
set_option maxRecDepth 100000 in
theorem pnX0_21 : PNok RX0 21 0 6 (.array .int) := ⟨gfX0_21, fun C T N h => by cases h; exact ⟨rfl, tyX0_ok 6 (by decide), rfl⟩⟩
set_option maxRecDepth 100000 in
theorem pnX0_24 : PNok RX0 24 0 7 (.array .int) := ⟨gfX0_24, fun C T N h => by cases h; exact ⟨rfl, tyX0_ok 7 (by decide), rfl⟩⟩
set_option maxRecDepth 100000 in
theorem pnX0_27 : PNok RX0 27 0 8 (.array .int) := ⟨gfX0_27, fun C T N h => by cases h; exact ⟨rfl, tyX0_ok 8 (by decide), rfl⟩⟩
set_option maxRecDepth 100000 in
theorem pnX0_30 : PNok RX0 30 0 9 (.array .int) := ⟨gfX0_30, fun C T N h => by cases h; exact ⟨rfl, tyX0_ok 9 (by decide), rfl⟩⟩
set_option maxRecDepth 100000 in
theorem moX0_init : MOk yX0_init cX0_init 1 none 0 := ⟨lw_m1 54 rfl rfl, wnX0, neX0.1, neX0.2, ds_12⟩
set_option maxRecDepth 100000 in
theorem mnX6_18 : (RX6, 18, yX0_init, "StillInIt") ∈ nestM := by decide +kernel
set_option maxRecDepth 100000 in
theorem ioX0_init : Cond.instanceMethod yX0_init ∈ lw_good := lw_m1 53 rfl rfl
set_option maxRecDepth 100000 in
theorem pnX6_19 : PNok RX6 19 6 1 (.object "StillInIt$Group") := ⟨gfX6_19, fun C T N h => by cases h; exact ⟨rfl, tyX6_ok 1 (by decide), rfl⟩⟩
set_option maxRecDepth 100000 in
theorem pnX6_23 : PNok RX6 23 6 2 (.object "StillInIt$Group") := ⟨gfX6_23, fun C T N h => by cases h; exact ⟨rfl, tyX6_ok 2 (by decide), rfl⟩⟩
set_option maxRecDepth 100000 in
theorem pnX6_26 : PNok RX6 26 6 3 (.object "StillInIt$Group") := ⟨gfX6_26, fun C T N h => by cases h; exact ⟨rfl, tyX6_ok 3 (by decide), rfl⟩⟩
set_option maxRecDepth 100000 in
theorem wcX6_29 : Cond.classLink RX6 29 RX3 ∈ lw_good := lw_m1 104 rfl rfl
set_option maxRecDepth 100000 in
theorem wiX3 : Cond.instantiable RX3 5 ∈ lw_good := lw_m1 105 rfl rfl
set_option maxRecDepth 100000 in
theorem moX3_3 : Cond.methodLink RX3 3 Lib.objectInit ∈ lw_good := lw_m1 109 rfl rfl
set_option maxRecDepth 100000 in
theorem pnX3_9 : PNok RX3 9 3 0 (.array .int) := ⟨gfX3_9, fun C T N h => by cases h; exact ⟨rfl, tyX3_ok 0 (by decide), rfl⟩⟩
set_option maxRecDepth 100000 in
theorem pnX3_15 : PNok RX3 15 3 1 (.array .int) := ⟨gfX3_15, fun C T N h => by cases h; exact ⟨rfl, tyX3_ok 1 (by decide), rfl⟩⟩
set_option maxRecDepth 100000 in
theorem moX3_init : MOk yX3_init cX3_init 1 none 0 := ⟨lw_m1 108 rfl rfl, wnX3, neX3.1, neX3.2, ds_12⟩
set_option maxRecDepth 100000 in
theorem mnX6_31 : (RX6, 31, yX3_init, "StillInIt") ∈ nestM := by decide +kernel
set_option maxRecDepth 100000 in
theorem ioX3_init : Cond.instanceMethod yX3_init ∈ lw_good := lw_m1 107 rfl rfl
set_option maxRecDepth 100000 in
theorem pnX6_32 : PNok RX6 32 6 4 (.object "StillInIt$Shutter") := ⟨gfX6_32, fun C T N h => by cases h; exact ⟨rfl, tyX6_ok 4 (by decide), rfl⟩⟩
set_option maxRecDepth 100000 in
theorem wcX6_36 : Cond.classLink RX6 36 RX1 ∈ lw_good := lw_m1 128 rfl rfl
set_option maxRecDepth 100000 in
theorem wiX1 : Cond.instantiable RX1 9 ∈ lw_good := lw_m1 129 rfl rfl
set_option maxRecDepth 100000 in
theorem moX1_3 : Cond.methodLink RX1 3 Lib.objectInit ∈ lw_good := lw_m1 133 rfl rfl
set_option maxRecDepth 100000 in
theorem pnX1_9 : PNok RX1 9 1 0 (.array .int) := ⟨gfX1_9, fun C T N h => by cases h; exact ⟨rfl, tyX1_ok 0 (by decide), rfl⟩⟩
set_option maxRecDepth 100000 in
theorem pnX1_15 : PNok RX1 15 1 1 (.array .int) := ⟨gfX1_15, fun C T N h => by cases h; exact ⟨rfl, tyX1_ok 1 (by decide), rfl⟩⟩
set_option maxRecDepth 100000 in
theorem pnX1_18 : PNok RX1 18 1 2 (.array .int) := ⟨gfX1_18, fun C T N h => by cases h; exact ⟨rfl, tyX1_ok 2 (by decide), rfl⟩⟩
set_option maxRecDepth 100000 in
theorem pnX1_21 : PNok RX1 21 1 3 (.array .int) := ⟨gfX1_21, fun C T N h => by cases h; exact ⟨rfl, tyX1_ok 3 (by decide), rfl⟩⟩
set_option maxRecDepth 100000 in
theorem pnX1_24 : PNok RX1 24 1 4 (.array .int) := ⟨gfX1_24, fun C T N h => by cases h; exact ⟨rfl, tyX1_ok 4 (by decide), rfl⟩⟩
set_option maxRecDepth 100000 in
theorem moX1_init : MOk yX1_init cX1_init 1 none 0 := ⟨lw_m1 132 rfl rfl, wnX1, neX1.1, neX1.2, ds_12⟩
set_option maxRecDepth 100000 in
theorem mnX6_38 : (RX6, 38, yX1_init, "StillInIt") ∈ nestM := by decide +kernel
set_option maxRecDepth 100000 in
theorem ioX1_init : Cond.instanceMethod yX1_init ∈ lw_good := lw_m1 131 rfl rfl
set_option maxRecDepth 100000 in
theorem pnX6_39 : PNok RX6 39 6 5 (.object "StillInIt$Race") := ⟨gfX6_39, fun C T N h => by cases h; exact ⟨rfl, tyX6_ok 5 (by decide), rfl⟩⟩
set_option maxRecDepth 100000 in
theorem wcX6_43 : Cond.classLink RX6 43 RX5 ∈ lw_good := lw_m1 162 rfl rfl
set_option maxRecDepth 100000 in
theorem wiX5 : Cond.instantiable RX5 5 ∈ lw_good := lw_m1 163 rfl rfl
set_option maxRecDepth 100000 in
theorem moX5_3 : Cond.methodLink RX5 3 Lib.objectInit ∈ lw_good := lw_m1 167 rfl rfl
set_option maxRecDepth 100000 in
theorem pnX5_9 : PNok RX5 9 5 0 (.array .int) := ⟨gfX5_9, fun C T N h => by cases h; exact ⟨rfl, tyX5_ok 0 (by decide), rfl⟩⟩
set_option maxRecDepth 100000 in
theorem pnX5_15 : PNok RX5 15 5 1 (.array .int) := ⟨gfX5_15, fun C T N h => by cases h; exact ⟨rfl, tyX5_ok 1 (by decide), rfl⟩⟩
set_option maxRecDepth 100000 in
theorem wa_long : Cond.arrayClass .long ∈ lw_good := lw_m1 184 rfl rfl
set_option maxRecDepth 100000 in
theorem pnX5_18 : PNok RX5 18 5 2 (.array .long) := ⟨gfX5_18, fun C T N h => by cases h; exact ⟨rfl, tyX5_ok 2 (by decide), rfl⟩⟩
set_option maxRecDepth 100000 in
theorem moX5_init : MOk yX5_init cX5_init 1 none 0 := ⟨lw_m1 166 rfl rfl, wnX5, neX5.1, neX5.2, ds_12⟩
set_option maxRecDepth 100000 in
theorem mnX6_45 : (RX6, 45, yX5_init, "StillInIt") ∈ nestM := by decide +kernel
set_option maxRecDepth 100000 in
theorem ioX5_init : Cond.instanceMethod yX5_init ∈ lw_good := lw_m1 165 rfl rfl
set_option maxRecDepth 100000 in
theorem pnX6_46 : PNok RX6 46 6 6 (.object "StillInIt$Walk") := ⟨gfX6_46, fun C T N h => by cases h; exact ⟨rfl, tyX6_ok 6 (by decide), rfl⟩⟩
set_option maxRecDepth 100000 in
theorem pnX6_50 : PNok RX6 50 6 8 (.array .int) := ⟨gfX6_50, fun C T N h => by cases h; exact ⟨rfl, tyX6_ok 8 (by decide), rfl⟩⟩
set_option maxRecDepth 100000 in
theorem wcX6_54 : Cond.classLink RX6 54 "StillInIt$Sheet" ∈ lw_good := lw_m1 185 rfl rfl
set_option maxRecDepth 100000 in
theorem pnX6_56 : PNok RX6 56 6 7 (.array (.object "StillInIt$Sheet")) := ⟨gfX6_56, fun C T N h => by cases h; exact ⟨rfl, tyX6_ok 7 (by decide), rfl⟩⟩
set_option maxRecDepth 100000 in
theorem wiX2 : Cond.instantiable RX2 3 ∈ lw_good := lw_m1 187 rfl rfl
set_option maxRecDepth 100000 in
theorem moX2_3 : Cond.methodLink RX2 3 Lib.objectInit ∈ lw_good := lw_m1 191 rfl rfl
set_option maxRecDepth 100000 in
theorem pnX2_9 : PNok RX2 9 2 0 (.array .int) := ⟨gfX2_9, fun C T N h => by cases h; exact ⟨rfl, tyX2_ok 0 (by decide), rfl⟩⟩
set_option maxRecDepth 100000 in
theorem moX2_init : MOk yX2_init cX2_init 1 none 0 := ⟨lw_m1 190 rfl rfl, wnX2, neX2.1, neX2.2, ds_12⟩
set_option maxRecDepth 100000 in
theorem mnX6_60 : (RX6, 60, yX2_init, "StillInIt") ∈ nestM := by decide +kernel
set_option maxRecDepth 100000 in
theorem ioX2_init : Cond.instanceMethod yX2_init ∈ lw_good := lw_m1 189 rfl rfl
set_option maxRecDepth 100000 in
theorem moX7_1 : Cond.methodLink RX7 1 Lib.objectInit ∈ lw_good := lw_m4 33 rfl rfl
set_option maxRecDepth 100000 in
theorem pnX7_9 : PNok RX7 9 7 0 (.array .int) := ⟨gfX7_9, fun C T N h => by cases h; exact ⟨rfl, tyX7_ok 0 (by decide), rfl⟩⟩
set_option maxRecDepth 100000 in
theorem pnX7_13 : PNok RX7 13 7 1 (.array .int) := ⟨gfX7_13, fun C T N h => by cases h; exact ⟨rfl, tyX7_ok 1 (by decide), rfl⟩⟩
set_option maxRecDepth 100000 in
theorem pnX7_16 : PNok RX7 16 7 3 (.array .int) := ⟨gfX7_16, fun C T N h => by cases h; exact ⟨rfl, tyX7_ok 3 (by decide), rfl⟩⟩
set_option maxRecDepth 100000 in
theorem pnX7_19 : PNok RX7 19 7 4 (.array .int) := ⟨gfX7_19, fun C T N h => by cases h; exact ⟨rfl, tyX7_ok 4 (by decide), rfl⟩⟩
set_option maxRecDepth 100000 in
theorem pnX7_22 : PNok RX7 22 7 7 (.array .int) := ⟨gfX7_22, fun C T N h => by cases h; exact ⟨rfl, tyX7_ok 7 (by decide), rfl⟩⟩
set_option maxRecDepth 100000 in
theorem pnX7_25 : PNok RX7 25 7 10 (.array .int) := ⟨gfX7_25, fun C T N h => by cases h; exact ⟨rfl, tyX7_ok 10 (by decide), rfl⟩⟩
set_option maxRecDepth 100000 in
theorem pnX7_28 : PNok RX7 28 7 15 (.array .int) := ⟨gfX7_28, fun C T N h => by cases h; exact ⟨rfl, tyX7_ok 15 (by decide), rfl⟩⟩
set_option maxRecDepth 100000 in
theorem pnX7_31 : PNok RX7 31 7 16 (.array .int) := ⟨gfX7_31, fun C T N h => by cases h; exact ⟨rfl, tyX7_ok 16 (by decide), rfl⟩⟩
set_option maxRecDepth 100000 in
theorem pnX7_34 : PNok RX7 34 7 18 (.array .int) := ⟨gfX7_34, fun C T N h => by cases h; exact ⟨rfl, tyX7_ok 18 (by decide), rfl⟩⟩
set_option maxRecDepth 100000 in
theorem pnX7_37 : PNok RX7 37 7 19 (.array .int) := ⟨gfX7_37, fun C T N h => by cases h; exact ⟨rfl, tyX7_ok 19 (by decide), rfl⟩⟩
set_option maxRecDepth 100000 in
theorem pnX7_40 : PNok RX7 40 7 20 (.array .int) := ⟨gfX7_40, fun C T N h => by cases h; exact ⟨rfl, tyX7_ok 20 (by decide), rfl⟩⟩
set_option maxRecDepth 100000 in
theorem ds_33 : (parseMethodDescriptor "(IIIIII)I").map (fun d => d.parameters.length) = some 6 := by decide +kernel
set_option maxRecDepth 100000 in
theorem moX6_feed : MOk yX6_feed cX6_feed 7 (some .int) 6 := ⟨lw_m2 1 rfl rfl, wnX6, neX6.1, neX6.2, ds_33⟩
set_option maxRecDepth 100000 in
theorem mlL_13 : Cond.methodLink RL 13 yX6_feed ∈ lw_good := lw_m1 238 rfl rfl
set_option maxRecDepth 100000 in
theorem voX6_feed : VOk yX6_feed := ⟨lw_m1 239 rfl rfl, lw_m2 0 rfl rfl⟩
set_option maxRecDepth 100000 in
theorem moX7_feed : MOk yX7_feed cX7_feed 8 (some .int) 6 := ⟨lw_m4 101 rfl rfl, wnX7, neX7.1, neX7.2, ds_33⟩
set_option maxRecDepth 100000 in
theorem mlL_17 : Cond.methodLink RL 17 yX7_feed ∈ lw_good := lw_m4 98 rfl rfl
set_option maxRecDepth 100000 in
theorem voX7_feed : VOk yX7_feed := ⟨lw_m4 99 rfl rfl, lw_m4 100 rfl rfl⟩
set_option maxRecDepth 100000 in
theorem moX6_text : MOk yX6_text cX6_text 2 (some .int) 0 := ⟨lw_m2 12 rfl rfl, wnX6, neX6.1, neX6.2, ds_9⟩
set_option maxRecDepth 100000 in
theorem mlL_18 : Cond.methodLink RL 18 yX6_text ∈ lw_good := lw_m2 9 rfl rfl
set_option maxRecDepth 100000 in
theorem voX6_text : VOk yX6_text := ⟨lw_m2 10 rfl rfl, lw_m2 11 rfl rfl⟩
set_option maxRecDepth 100000 in
theorem moX7_text : MOk yX7_text cX7_text 2 (some .int) 0 := ⟨lw_m4 113 rfl rfl, wnX7, neX7.1, neX7.2, ds_9⟩
set_option maxRecDepth 100000 in
theorem mlL_22 : Cond.methodLink RL 22 yX7_text ∈ lw_good := lw_m4 110 rfl rfl
set_option maxRecDepth 100000 in
theorem voX7_text : VOk yX7_text := ⟨lw_m4 111 rfl rfl, lw_m4 112 rfl rfl⟩
set_option maxRecDepth 100000 in
theorem moX6_named : MOk yX6_named cX6_named 2 (some .int) 0 := ⟨lw_m2 168 rfl rfl, wnX6, neX6.1, neX6.2, ds_9⟩
set_option maxRecDepth 100000 in
theorem mlL_23 : Cond.methodLink RL 23 yX6_named ∈ lw_good := lw_m2 165 rfl rfl
set_option maxRecDepth 100000 in
theorem voX6_named : VOk yX6_named := ⟨lw_m2 166 rfl rfl, lw_m2 167 rfl rfl⟩
set_option maxRecDepth 100000 in
theorem moX7_named : MOk yX7_named cX7_named 2 (some .int) 0 := ⟨lw_m4 187 rfl rfl, wnX7, neX7.1, neX7.2, ds_9⟩
set_option maxRecDepth 100000 in
theorem mlL_26 : Cond.methodLink RL 26 yX7_named ∈ lw_good := lw_m4 184 rfl rfl
set_option maxRecDepth 100000 in
theorem voX7_named : VOk yX7_named := ⟨lw_m4 185 rfl rfl, lw_m4 186 rfl rfl⟩
set_option maxRecDepth 100000 in
theorem moX6_system : MOk yX6_system cX6_system 3 (some .int) 1 := ⟨lw_m2 172 rfl rfl, wnX6, neX6.1, neX6.2, ds_8⟩
set_option maxRecDepth 100000 in
theorem mlL_27 : Cond.methodLink RL 27 yX6_system ∈ lw_good := lw_m2 169 rfl rfl
set_option maxRecDepth 100000 in
theorem voX6_system : VOk yX6_system := ⟨lw_m2 170 rfl rfl, lw_m2 171 rfl rfl⟩
set_option maxRecDepth 100000 in
theorem moX7_system : MOk yX7_system cX7_system 3 (some .int) 1 := ⟨lw_m4 191 rfl rfl, wnX7, neX7.1, neX7.2, ds_8⟩
set_option maxRecDepth 100000 in
theorem mlL_31 : Cond.methodLink RL 31 yX7_system ∈ lw_good := lw_m4 188 rfl rfl
set_option maxRecDepth 100000 in
theorem voX7_system : VOk yX7_system := ⟨lw_m4 189 rfl rfl, lw_m4 190 rfl rfl⟩
set_option maxRecDepth 100000 in
theorem moX6_play : MOk yX6_play cX6_play 3 (some .int) 2 := ⟨lw_m2 179 rfl rfl, wnX6, neX6.1, neX6.2, ds_1⟩
set_option maxRecDepth 100000 in
theorem mlL_32 : Cond.methodLink RL 32 yX6_play ∈ lw_good := lw_m2 176 rfl rfl
set_option maxRecDepth 100000 in
theorem voX6_play : VOk yX6_play := ⟨lw_m2 177 rfl rfl, lw_m2 178 rfl rfl⟩
set_option maxRecDepth 100000 in
theorem moX7_play : MOk yX7_play cX7_play 3 (some .int) 2 := ⟨lw_m4 196 rfl rfl, wnX7, neX7.1, neX7.2, ds_1⟩
set_option maxRecDepth 100000 in
theorem mlL_36 : Cond.methodLink RL 36 yX7_play ∈ lw_good := lw_m4 193 rfl rfl
set_option maxRecDepth 100000 in
theorem voX7_play : VOk yX7_play := ⟨lw_m4 194 rfl rfl, lw_m4 195 rfl rfl⟩
set_option maxRecDepth 100000 in
theorem moX6_unplay : MOk yX6_unplay cX6_unplay 3 (some .int) 1 := ⟨lw_m2 188 rfl rfl, wnX6, neX6.1, neX6.2, ds_8⟩
set_option maxRecDepth 100000 in
theorem mlL_37 : Cond.methodLink RL 37 yX6_unplay ∈ lw_good := lw_m2 185 rfl rfl
set_option maxRecDepth 100000 in
theorem voX6_unplay : VOk yX6_unplay := ⟨lw_m2 186 rfl rfl, lw_m2 187 rfl rfl⟩
set_option maxRecDepth 100000 in
theorem moX7_unplay : MOk yX7_unplay cX7_unplay 3 (some .int) 1 := ⟨lw_m4 204 rfl rfl, wnX7, neX7.1, neX7.2, ds_8⟩
set_option maxRecDepth 100000 in
theorem mlL_40 : Cond.methodLink RL 40 yX7_unplay ∈ lw_good := lw_m4 201 rfl rfl
set_option maxRecDepth 100000 in
theorem voX7_unplay : VOk yX7_unplay := ⟨lw_m4 202 rfl rfl, lw_m4 203 rfl rfl⟩
set_option maxRecDepth 100000 in
theorem moX6_told : MOk yX6_told cX6_told 3 (some .int) 2 := ⟨lw_m2 192 rfl rfl, wnX6, neX6.1, neX6.2, ds_1⟩
set_option maxRecDepth 100000 in
theorem mlL_41 : Cond.methodLink RL 41 yX6_told ∈ lw_good := lw_m2 189 rfl rfl
set_option maxRecDepth 100000 in
theorem voX6_told : VOk yX6_told := ⟨lw_m2 190 rfl rfl, lw_m2 191 rfl rfl⟩
set_option maxRecDepth 100000 in
theorem moX7_told : MOk yX7_told cX7_told 3 (some .int) 2 := ⟨lw_m4 208 rfl rfl, wnX7, neX7.1, neX7.2, ds_1⟩
set_option maxRecDepth 100000 in
theorem mlL_44 : Cond.methodLink RL 44 yX7_told ∈ lw_good := lw_m4 205 rfl rfl
set_option maxRecDepth 100000 in
theorem voX7_told : VOk yX7_told := ⟨lw_m4 206 rfl rfl, lw_m4 207 rfl rfl⟩
set_option maxRecDepth 100000 in
theorem moX6_game : MOk yX6_game cX6_game 3 (some .int) 2 := ⟨lw_m2 235 rfl rfl, wnX6, neX6.1, neX6.2, ds_1⟩
set_option maxRecDepth 100000 in
theorem mlL_45 : Cond.methodLink RL 45 yX6_game ∈ lw_good := lw_m2 232 rfl rfl
set_option maxRecDepth 100000 in
theorem voX6_game : VOk yX6_game := ⟨lw_m2 233 rfl rfl, lw_m2 234 rfl rfl⟩
set_option maxRecDepth 100000 in
theorem moX7_game : MOk yX7_game cX7_game 3 (some .int) 2 := ⟨lw_m5 9 rfl rfl, wnX7, neX7.1, neX7.2, ds_1⟩
set_option maxRecDepth 100000 in
theorem mlL_48 : Cond.methodLink RL 48 yX7_game ∈ lw_good := lw_m5 6 rfl rfl
set_option maxRecDepth 100000 in
theorem voX7_game : VOk yX7_game := ⟨lw_m5 7 rfl rfl, lw_m5 8 rfl rfl⟩
set_option maxRecDepth 100000 in
theorem moX6_between : MOk yX6_between cX6_between 5 (some .int) 2 := ⟨lw_m2 239 rfl rfl, wnX6, neX6.1, neX6.2, ds_1⟩
set_option maxRecDepth 100000 in
theorem mlL_49 : Cond.methodLink RL 49 yX6_between ∈ lw_good := lw_m2 236 rfl rfl
set_option maxRecDepth 100000 in
theorem voX6_between : VOk yX6_between := ⟨lw_m2 237 rfl rfl, lw_m2 238 rfl rfl⟩
set_option maxRecDepth 100000 in
theorem moX7_between : MOk yX7_between cX7_between 5 (some .int) 2 := ⟨lw_m5 14 rfl rfl, wnX7, neX7.1, neX7.2, ds_1⟩
set_option maxRecDepth 100000 in
theorem mlL_52 : Cond.methodLink RL 52 yX7_between ∈ lw_good := lw_m5 11 rfl rfl
set_option maxRecDepth 100000 in
theorem voX7_between : VOk yX7_between := ⟨lw_m5 12 rfl rfl, lw_m5 13 rfl rfl⟩
set_option maxRecDepth 100000 in
theorem moX6_taken : MOk yX6_taken cX6_taken 2 (some .int) 1 := ⟨lw_m3 4 rfl rfl, wnX6, neX6.1, neX6.2, ds_8⟩
set_option maxRecDepth 100000 in
theorem mlL_53 : Cond.methodLink RL 53 yX6_taken ∈ lw_good := lw_m3 1 rfl rfl
set_option maxRecDepth 100000 in
theorem voX6_taken : VOk yX6_taken := ⟨lw_m3 2 rfl rfl, lw_m3 3 rfl rfl⟩
set_option maxRecDepth 100000 in
theorem moX7_taken : MOk yX7_taken cX7_taken 2 (some .int) 1 := ⟨lw_m5 18 rfl rfl, wnX7, neX7.1, neX7.2, ds_8⟩
set_option maxRecDepth 100000 in
theorem mlL_56 : Cond.methodLink RL 56 yX7_taken ∈ lw_good := lw_m5 15 rfl rfl
set_option maxRecDepth 100000 in
theorem voX7_taken : VOk yX7_taken := ⟨lw_m5 16 rfl rfl, lw_m5 17 rfl rfl⟩
set_option maxRecDepth 100000 in
theorem moX6_isIn : MOk yX6_isIn cX6_isIn 2 (some .int) 1 := ⟨lw_m3 8 rfl rfl, wnX6, neX6.1, neX6.2, ds_8⟩
set_option maxRecDepth 100000 in
theorem mlL_57 : Cond.methodLink RL 57 yX6_isIn ∈ lw_good := lw_m3 5 rfl rfl
set_option maxRecDepth 100000 in
theorem voX6_isIn : VOk yX6_isIn := ⟨lw_m3 6 rfl rfl, lw_m3 7 rfl rfl⟩
set_option maxRecDepth 100000 in
theorem moX7_isIn : MOk yX7_isIn cX7_isIn 2 (some .int) 1 := ⟨lw_m5 22 rfl rfl, wnX7, neX7.1, neX7.2, ds_8⟩
set_option maxRecDepth 100000 in
theorem mlL_60 : Cond.methodLink RL 60 yX7_isIn ∈ lw_good := lw_m5 19 rfl rfl
set_option maxRecDepth 100000 in
theorem voX7_isIn : VOk yX7_isIn := ⟨lw_m5 20 rfl rfl, lw_m5 21 rfl rfl⟩
set_option maxRecDepth 100000 in
theorem moX6_all : MOk yX6_all cX6_all 1 (some .int) 0 := ⟨lw_m3 87 rfl rfl, wnX6, neX6.1, neX6.2, ds_9⟩
set_option maxRecDepth 100000 in
theorem mlL_61 : Cond.methodLink RL 61 yX6_all ∈ lw_good := lw_m3 84 rfl rfl
set_option maxRecDepth 100000 in
theorem voX6_all : VOk yX6_all := ⟨lw_m3 85 rfl rfl, lw_m3 86 rfl rfl⟩
set_option maxRecDepth 100000 in
theorem moX7_all : MOk yX7_all cX7_all 1 (some .int) 0 := ⟨lw_m5 56 rfl rfl, wnX7, neX7.1, neX7.2, ds_9⟩
set_option maxRecDepth 100000 in
theorem mlL_64 : Cond.methodLink RL 64 yX7_all ∈ lw_good := lw_m5 53 rfl rfl
set_option maxRecDepth 100000 in
theorem voX7_all : VOk yX7_all := ⟨lw_m5 54 rfl rfl, lw_m5 55 rfl rfl⟩
set_option maxRecDepth 100000 in
theorem moX6_set : MOk yX6_set cX6_set 3 (some .int) 2 := ⟨lw_m3 95 rfl rfl, wnX6, neX6.1, neX6.2, ds_1⟩
set_option maxRecDepth 100000 in
theorem mlL_65 : Cond.methodLink RL 65 yX6_set ∈ lw_good := lw_m3 92 rfl rfl
set_option maxRecDepth 100000 in
theorem voX6_set : VOk yX6_set := ⟨lw_m3 93 rfl rfl, lw_m3 94 rfl rfl⟩
set_option maxRecDepth 100000 in
theorem moX7_set : MOk yX7_set cX7_set 8 (some .int) 2 := ⟨lw_m5 64 rfl rfl, wnX7, neX7.1, neX7.2, ds_1⟩
set_option maxRecDepth 100000 in
theorem mlL_68 : Cond.methodLink RL 68 yX7_set ∈ lw_good := lw_m5 61 rfl rfl
set_option maxRecDepth 100000 in
theorem voX7_set : VOk yX7_set := ⟨lw_m5 62 rfl rfl, lw_m5 63 rfl rfl⟩
set_option maxRecDepth 100000 in
theorem moX6_run : MOk yX6_run cX6_run 3 (some .int) 2 := ⟨lw_m3 102 rfl rfl, wnX6, neX6.1, neX6.2, ds_1⟩
set_option maxRecDepth 100000 in
theorem mlL_69 : Cond.methodLink RL 69 yX6_run ∈ lw_good := lw_m3 99 rfl rfl
set_option maxRecDepth 100000 in
theorem voX6_run : VOk yX6_run := ⟨lw_m3 100 rfl rfl, lw_m3 101 rfl rfl⟩
set_option maxRecDepth 100000 in
theorem moX7_run : MOk yX7_run cX7_run 3 (some .int) 2 := ⟨lw_m5 72 rfl rfl, wnX7, neX7.1, neX7.2, ds_1⟩
set_option maxRecDepth 100000 in
theorem mlL_72 : Cond.methodLink RL 72 yX7_run ∈ lw_good := lw_m5 69 rfl rfl
set_option maxRecDepth 100000 in
theorem voX7_run : VOk yX7_run := ⟨lw_m5 70 rfl rfl, lw_m5 71 rfl rfl⟩
set_option maxRecDepth 100000 in
theorem moX6_pattern : MOk yX6_pattern cX6_pattern 2 (some .int) 1 := ⟨lw_m3 110 rfl rfl, wnX6, neX6.1, neX6.2, ds_8⟩
set_option maxRecDepth 100000 in
theorem mlL_73 : Cond.methodLink RL 73 yX6_pattern ∈ lw_good := lw_m3 107 rfl rfl
set_option maxRecDepth 100000 in
theorem voX6_pattern : VOk yX6_pattern := ⟨lw_m3 108 rfl rfl, lw_m3 109 rfl rfl⟩
set_option maxRecDepth 100000 in
theorem moX7_pattern : MOk yX7_pattern cX7_pattern 3 (some .int) 1 := ⟨lw_m5 76 rfl rfl, wnX7, neX7.1, neX7.2, ds_8⟩
set_option maxRecDepth 100000 in
theorem mlL_76 : Cond.methodLink RL 76 yX7_pattern ∈ lw_good := lw_m5 73 rfl rfl
set_option maxRecDepth 100000 in
theorem voX7_pattern : VOk yX7_pattern := ⟨lw_m5 74 rfl rfl, lw_m5 75 rfl rfl⟩
set_option maxRecDepth 100000 in
theorem moX6_needs : MOk yX6_needs cX6_needs 4 (some .int) 2 := ⟨lw_m3 130 rfl rfl, wnX6, neX6.1, neX6.2, ds_1⟩
set_option maxRecDepth 100000 in
theorem mlL_77 : Cond.methodLink RL 77 yX6_needs ∈ lw_good := lw_m3 127 rfl rfl
set_option maxRecDepth 100000 in
theorem voX6_needs : VOk yX6_needs := ⟨lw_m3 128 rfl rfl, lw_m3 129 rfl rfl⟩
set_option maxRecDepth 100000 in
theorem moX7_needs : MOk yX7_needs cX7_needs 7 (some .int) 2 := ⟨lw_m5 80 rfl rfl, wnX7, neX7.1, neX7.2, ds_1⟩
set_option maxRecDepth 100000 in
theorem mlL_80 : Cond.methodLink RL 80 yX7_needs ∈ lw_good := lw_m5 77 rfl rfl
set_option maxRecDepth 100000 in
theorem voX7_needs : VOk yX7_needs := ⟨lw_m5 78 rfl rfl, lw_m5 79 rfl rfl⟩
set_option maxRecDepth 100000 in
theorem moX6_since : MOk yX6_since cX6_since 4 (some .int) 2 := ⟨lw_m3 134 rfl rfl, wnX6, neX6.1, neX6.2, ds_1⟩
set_option maxRecDepth 100000 in
theorem mlL_81 : Cond.methodLink RL 81 yX6_since ∈ lw_good := lw_m3 131 rfl rfl
set_option maxRecDepth 100000 in
theorem voX6_since : VOk yX6_since := ⟨lw_m3 132 rfl rfl, lw_m3 133 rfl rfl⟩
set_option maxRecDepth 100000 in
theorem moX7_since : MOk yX7_since cX7_since 4 (some .int) 2 := ⟨lw_m5 88 rfl rfl, wnX7, neX7.1, neX7.2, ds_1⟩
set_option maxRecDepth 100000 in
theorem mlL_84 : Cond.methodLink RL 84 yX7_since ∈ lw_good := lw_m5 85 rfl rfl
set_option maxRecDepth 100000 in
theorem voX7_since : VOk yX7_since := ⟨lw_m5 86 rfl rfl, lw_m5 87 rfl rfl⟩
set_option maxRecDepth 100000 in
theorem moX6_help : MOk yX6_help cX6_help 5 (some .int) 2 := ⟨lw_m3 157 rfl rfl, wnX6, neX6.1, neX6.2, ds_1⟩
set_option maxRecDepth 100000 in
theorem mlL_85 : Cond.methodLink RL 85 yX6_help ∈ lw_good := lw_m3 154 rfl rfl
set_option maxRecDepth 100000 in
theorem voX6_help : VOk yX6_help := ⟨lw_m3 155 rfl rfl, lw_m3 156 rfl rfl⟩
set_option maxRecDepth 100000 in
theorem moX7_help : MOk yX7_help cX7_help 5 (some .int) 2 := ⟨lw_m5 100 rfl rfl, wnX7, neX7.1, neX7.2, ds_1⟩
set_option maxRecDepth 100000 in
theorem mlL_88 : Cond.methodLink RL 88 yX7_help ∈ lw_good := lw_m5 97 rfl rfl
set_option maxRecDepth 100000 in
theorem voX7_help : VOk yX7_help := ⟨lw_m5 98 rfl rfl, lw_m5 99 rfl rfl⟩
set_option maxRecDepth 100000 in
theorem moX6_without : MOk yX6_without cX6_without 2 (some .int) 1 := ⟨lw_m3 162 rfl rfl, wnX6, neX6.1, neX6.2, ds_8⟩
set_option maxRecDepth 100000 in
theorem mlL_89 : Cond.methodLink RL 89 yX6_without ∈ lw_good := lw_m3 159 rfl rfl
set_option maxRecDepth 100000 in
theorem voX6_without : VOk yX6_without := ⟨lw_m3 160 rfl rfl, lw_m3 161 rfl rfl⟩
set_option maxRecDepth 100000 in
theorem moX7_without : MOk yX7_without cX7_without 2 (some .int) 1 := ⟨lw_m5 108 rfl rfl, wnX7, neX7.1, neX7.2, ds_8⟩
set_option maxRecDepth 100000 in
theorem mlL_92 : Cond.methodLink RL 92 yX7_without ∈ lw_good := lw_m5 105 rfl rfl
set_option maxRecDepth 100000 in
theorem voX7_without : VOk yX7_without := ⟨lw_m5 106 rfl rfl, lw_m5 107 rfl rfl⟩
set_option maxRecDepth 100000 in
theorem moX6_tables : MOk yX6_tables cX6_tables 1 (some .int) 0 := ⟨lw_m3 170 rfl rfl, wnX6, neX6.1, neX6.2, ds_9⟩
set_option maxRecDepth 100000 in
theorem mlL_93 : Cond.methodLink RL 93 yX6_tables ∈ lw_good := lw_m3 167 rfl rfl
set_option maxRecDepth 100000 in
theorem voX6_tables : VOk yX6_tables := ⟨lw_m3 168 rfl rfl, lw_m3 169 rfl rfl⟩
set_option maxRecDepth 100000 in
theorem moX7_tables : MOk yX7_tables cX7_tables 1 (some .int) 0 := ⟨lw_m5 112 rfl rfl, wnX7, neX7.1, neX7.2, ds_9⟩
set_option maxRecDepth 100000 in
theorem mlL_96 : Cond.methodLink RL 96 yX7_tables ∈ lw_good := lw_m5 109 rfl rfl
set_option maxRecDepth 100000 in
theorem voX7_tables : VOk yX7_tables := ⟨lw_m5 110 rfl rfl, lw_m5 111 rfl rfl⟩
set_option maxRecDepth 100000 in
theorem moX6_drawn : MOk yX6_drawn cX6_drawn 2 (some .int) 1 := ⟨lw_m3 195 rfl rfl, wnX6, neX6.1, neX6.2, ds_8⟩
set_option maxRecDepth 100000 in
theorem mlL_97 : Cond.methodLink RL 97 yX6_drawn ∈ lw_good := lw_m3 192 rfl rfl
set_option maxRecDepth 100000 in
theorem voX6_drawn : VOk yX6_drawn := ⟨lw_m3 193 rfl rfl, lw_m3 194 rfl rfl⟩
set_option maxRecDepth 100000 in
theorem moX7_drawn : MOk yX7_drawn cX7_drawn 2 (some .int) 1 := ⟨lw_m5 124 rfl rfl, wnX7, neX7.1, neX7.2, ds_8⟩
set_option maxRecDepth 100000 in
theorem mlL_100 : Cond.methodLink RL 100 yX7_drawn ∈ lw_good := lw_m5 121 rfl rfl
set_option maxRecDepth 100000 in
theorem voX7_drawn : VOk yX7_drawn := ⟨lw_m5 122 rfl rfl, lw_m5 123 rfl rfl⟩
set_option maxRecDepth 100000 in
theorem ds_34 : (parseMethodDescriptor "(IIII)I").map (fun d => d.parameters.length) = some 4 := by decide +kernel
set_option maxRecDepth 100000 in
theorem moX6_chance : MOk yX6_chance cX6_chance 7 (some .int) 4 := ⟨lw_m3 208 rfl rfl, wnX6, neX6.1, neX6.2, ds_34⟩
set_option maxRecDepth 100000 in
theorem mlL_101 : Cond.methodLink RL 101 yX6_chance ∈ lw_good := lw_m3 205 rfl rfl
set_option maxRecDepth 100000 in
theorem voX6_chance : VOk yX6_chance := ⟨lw_m3 206 rfl rfl, lw_m3 207 rfl rfl⟩
set_option maxRecDepth 100000 in
theorem moX7_chance : MOk yX7_chance cX7_chance 9 (some .int) 4 := ⟨lw_m5 137 rfl rfl, wnX7, neX7.1, neX7.2, ds_34⟩
set_option maxRecDepth 100000 in
theorem mlL_105 : Cond.methodLink RL 105 yX7_chance ∈ lw_good := lw_m5 134 rfl rfl
set_option maxRecDepth 100000 in
theorem voX7_chance : VOk yX7_chance := ⟨lw_m5 135 rfl rfl, lw_m5 136 rfl rfl⟩
set_option maxRecDepth 100000 in
theorem moX6_tells : MOk yX6_tells cX6_tells 4 (some .int) 2 := ⟨lw_m3 216 rfl rfl, wnX6, neX6.1, neX6.2, ds_1⟩
set_option maxRecDepth 100000 in
theorem mlL_106 : Cond.methodLink RL 106 yX6_tells ∈ lw_good := lw_m3 213 rfl rfl
set_option maxRecDepth 100000 in
theorem voX6_tells : VOk yX6_tells := ⟨lw_m3 214 rfl rfl, lw_m3 215 rfl rfl⟩
set_option maxRecDepth 100000 in
theorem moX7_tells : MOk yX7_tells cX7_tells 3 (some .int) 2 := ⟨lw_m5 142 rfl rfl, wnX7, neX7.1, neX7.2, ds_1⟩
set_option maxRecDepth 100000 in
theorem mlL_109 : Cond.methodLink RL 109 yX7_tells ∈ lw_good := lw_m5 139 rfl rfl
set_option maxRecDepth 100000 in
theorem voX7_tells : VOk yX7_tells := ⟨lw_m5 140 rfl rfl, lw_m5 141 rfl rfl⟩
set_option maxRecDepth 100000 in
theorem moX6_film : MOk yX6_film cX6_film 5 (some .int) 2 := ⟨lw_m3 227 rfl rfl, wnX6, neX6.1, neX6.2, ds_1⟩
set_option maxRecDepth 100000 in
theorem mlL_110 : Cond.methodLink RL 110 yX6_film ∈ lw_good := lw_m3 224 rfl rfl
set_option maxRecDepth 100000 in
theorem voX6_film : VOk yX6_film := ⟨lw_m3 225 rfl rfl, lw_m3 226 rfl rfl⟩
set_option maxRecDepth 100000 in
theorem moX7_film : MOk yX7_film cX7_film 5 (some .int) 2 := ⟨lw_m5 157 rfl rfl, wnX7, neX7.1, neX7.2, ds_1⟩
set_option maxRecDepth 100000 in
theorem mlL_113 : Cond.methodLink RL 113 yX7_film ∈ lw_good := lw_m5 154 rfl rfl
set_option maxRecDepth 100000 in
theorem voX7_film : VOk yX7_film := ⟨lw_m5 155 rfl rfl, lw_m5 156 rfl rfl⟩
set_option maxRecDepth 100000 in
theorem moX6_image : MOk yX6_image cX6_image 1 (some .int) 0 := ⟨lw_m3 235 rfl rfl, wnX6, neX6.1, neX6.2, ds_9⟩
set_option maxRecDepth 100000 in
theorem mlL_114 : Cond.methodLink RL 114 yX6_image ∈ lw_good := lw_m3 232 rfl rfl
set_option maxRecDepth 100000 in
theorem voX6_image : VOk yX6_image := ⟨lw_m3 233 rfl rfl, lw_m3 234 rfl rfl⟩
set_option maxRecDepth 100000 in
theorem moX7_image : MOk yX7_image cX7_image 1 (some .int) 0 := ⟨lw_m5 166 rfl rfl, wnX7, neX7.1, neX7.2, ds_9⟩
set_option maxRecDepth 100000 in
theorem mlL_117 : Cond.methodLink RL 117 yX7_image ∈ lw_good := lw_m5 163 rfl rfl
set_option maxRecDepth 100000 in
theorem voX7_image : VOk yX7_image := ⟨lw_m5 164 rfl rfl, lw_m5 165 rfl rfl⟩
set_option maxRecDepth 100000 in
theorem moX6_back : MOk yX6_back cX6_back 1 (some .int) 0 := ⟨lw_m3 239 rfl rfl, wnX6, neX6.1, neX6.2, ds_9⟩
set_option maxRecDepth 100000 in
theorem mlL_118 : Cond.methodLink RL 118 yX6_back ∈ lw_good := lw_m3 236 rfl rfl
set_option maxRecDepth 100000 in
theorem voX6_back : VOk yX6_back := ⟨lw_m3 237 rfl rfl, lw_m3 238 rfl rfl⟩
set_option maxRecDepth 100000 in
theorem moX7_back : MOk yX7_back cX7_back 1 (some .int) 0 := ⟨lw_m5 173 rfl rfl, wnX7, neX7.1, neX7.2, ds_9⟩
set_option maxRecDepth 100000 in
theorem mlL_121 : Cond.methodLink RL 121 yX7_back ∈ lw_good := lw_m5 170 rfl rfl
set_option maxRecDepth 100000 in
theorem voX7_back : VOk yX7_back := ⟨lw_m5 171 rfl rfl, lw_m5 172 rfl rfl⟩
set_option maxRecDepth 100000 in
theorem moX6_count : MOk yX6_count cX6_count 2 (some .int) 1 := ⟨lw_m4 3 rfl rfl, wnX6, neX6.1, neX6.2, ds_8⟩
set_option maxRecDepth 100000 in
theorem mlL_122 : Cond.methodLink RL 122 yX6_count ∈ lw_good := lw_m4 0 rfl rfl
set_option maxRecDepth 100000 in
theorem voX6_count : VOk yX6_count := ⟨lw_m4 1 rfl rfl, lw_m4 2 rfl rfl⟩
set_option maxRecDepth 100000 in
theorem moX7_count : MOk yX7_count cX7_count 2 (some .int) 1 := ⟨lw_m5 177 rfl rfl, wnX7, neX7.1, neX7.2, ds_8⟩
set_option maxRecDepth 100000 in
theorem mlL_125 : Cond.methodLink RL 125 yX7_count ∈ lw_good := lw_m5 174 rfl rfl
set_option maxRecDepth 100000 in
theorem voX7_count : VOk yX7_count := ⟨lw_m5 175 rfl rfl, lw_m5 176 rfl rfl⟩
set_option maxRecDepth 100000 in
theorem moX6_sheet : MOk yX6_sheet cX6_sheet 4 (some .int) 3 := ⟨lw_m4 7 rfl rfl, wnX6, neX6.1, neX6.2, ds_25⟩
set_option maxRecDepth 100000 in
theorem mlL_126 : Cond.methodLink RL 126 yX6_sheet ∈ lw_good := lw_m4 4 rfl rfl
set_option maxRecDepth 100000 in
theorem voX6_sheet : VOk yX6_sheet := ⟨lw_m4 5 rfl rfl, lw_m4 6 rfl rfl⟩
set_option maxRecDepth 100000 in
theorem mlL_130 : Cond.methodLink RL 130 yX7_sheet ∈ lw_good := lw_m5 178 rfl rfl
set_option maxRecDepth 100000 in
theorem moX6_put : MOk yX6_put cX6_put 5 (some .int) 3 := ⟨lw_m4 14 rfl rfl, wnX6, neX6.1, neX6.2, ds_25⟩
set_option maxRecDepth 100000 in
theorem mlL_131 : Cond.methodLink RL 131 yX6_put ∈ lw_good := lw_m4 11 rfl rfl
set_option maxRecDepth 100000 in
theorem voX6_put : VOk yX6_put := ⟨lw_m4 12 rfl rfl, lw_m4 13 rfl rfl⟩
set_option maxRecDepth 100000 in
theorem moX7_put : MOk yX7_put cX7_put 4 (some .int) 3 := ⟨lw_m5 182 rfl rfl, wnX7, neX7.1, neX7.2, ds_25⟩
set_option maxRecDepth 100000 in
theorem mlL_134 : Cond.methodLink RL 134 yX7_put ∈ lw_good := lw_m5 179 rfl rfl
set_option maxRecDepth 100000 in
theorem voX7_put : VOk yX7_put := ⟨lw_m5 180 rfl rfl, lw_m5 181 rfl rfl⟩
set_option maxRecDepth 100000 in
theorem ds_35 : (parseMethodDescriptor "(IIIII)I").map (fun d => d.parameters.length) = some 5 := by decide +kernel
set_option maxRecDepth 100000 in
theorem moX6_copy : MOk yX6_copy cX6_copy 8 (some .int) 5 := ⟨lw_m4 18 rfl rfl, wnX6, neX6.1, neX6.2, ds_35⟩
set_option maxRecDepth 100000 in
theorem mlL_135 : Cond.methodLink RL 135 yX6_copy ∈ lw_good := lw_m4 15 rfl rfl
set_option maxRecDepth 100000 in
theorem voX6_copy : VOk yX6_copy := ⟨lw_m4 16 rfl rfl, lw_m4 17 rfl rfl⟩
set_option maxRecDepth 100000 in
theorem moX7_copy : MOk yX7_copy cX7_copy 8 (some .int) 5 := ⟨lw_m5 186 rfl rfl, wnX7, neX7.1, neX7.2, ds_35⟩
set_option maxRecDepth 100000 in
theorem mlL_139 : Cond.methodLink RL 139 yX7_copy ∈ lw_good := lw_m5 183 rfl rfl
set_option maxRecDepth 100000 in
theorem voX7_copy : VOk yX7_copy := ⟨lw_m5 184 rfl rfl, lw_m5 185 rfl rfl⟩
set_option maxRecDepth 100000 in
theorem moX6_load : MOk yX6_load cX6_load 9 (some .int) 4 := ⟨lw_m4 27 rfl rfl, wnX6, neX6.1, neX6.2, ds_34⟩
set_option maxRecDepth 100000 in
theorem mlL_140 : Cond.methodLink RL 140 yX6_load ∈ lw_good := lw_m4 24 rfl rfl
set_option maxRecDepth 100000 in
theorem voX6_load : VOk yX6_load := ⟨lw_m4 25 rfl rfl, lw_m4 26 rfl rfl⟩
set_option maxRecDepth 100000 in
theorem moX7_load : MOk yX7_load cX7_load 9 (some .int) 4 := ⟨lw_m5 190 rfl rfl, wnX7, neX7.1, neX7.2, ds_34⟩
set_option maxRecDepth 100000 in
theorem mlL_143 : Cond.methodLink RL 143 yX7_load ∈ lw_good := lw_m5 187 rfl rfl
set_option maxRecDepth 100000 in
theorem voX7_load : VOk yX7_load := ⟨lw_m5 188 rfl rfl, lw_m5 189 rfl rfl⟩
set_option maxRecDepth 100000 in
theorem wcL_7 : Cond.classLink RL 7 RX6 ∈ lw_good := lw_m1 15 rfl rfl
set_option maxRecDepth 100000 in
theorem wiX6 : Cond.instantiable RX6 10 ∈ lw_good := lw_m1 16 rfl rfl
set_option maxRecDepth 100000 in
theorem moX6_init : MOk yX6_init cX6_init 2 none 0 := ⟨lw_m1 19 rfl rfl, wnX6, neX6.1, neX6.2, ds_12⟩
set_option maxRecDepth 100000 in
theorem ioX6_init : Cond.instanceMethod yX6_init ∈ lw_good := lw_m1 18 rfl rfl
set_option maxRecDepth 100000 in
theorem mlL_9 : Cond.methodLink RL 9 yX6_init ∈ lw_good := lw_m1 17 rfl rfl
set_option maxRecDepth 100000 in
theorem wcL_10 : Cond.classLink RL 10 RX7 ∈ lw_good := lw_m4 28 rfl rfl
set_option maxRecDepth 100000 in
theorem wiX7 : Cond.instantiable RX7 21 ∈ lw_good := lw_m4 29 rfl rfl
set_option maxRecDepth 100000 in
theorem moX7_init : MOk yX7_init cX7_init 1 none 0 := ⟨lw_m4 32 rfl rfl, wnX7, neX7.1, neX7.2, ds_12⟩
set_option maxRecDepth 100000 in
theorem ioX7_init : Cond.instanceMethod yX7_init ∈ lw_good := lw_m4 31 rfl rfl
set_option maxRecDepth 100000 in
theorem mlL_12 : Cond.methodLink RL 12 yX7_init ∈ lw_good := lw_m4 30 rfl rfl
end
section
def hi_0 : Hp := [.inr (6, [.null, .null, .null, .null, .null, .null, .null, .null, .null, .int 0]), .inr (4, [.null, .int 0, .int 0, .int 0, .int 0])]
def hi_1 : Hp := [.inr (6, [.null, .null, .null, .null, .null, .null, .null, .null, .null, .int 0]), .inr (4, [.ref 2, .int 0, .int 0, .int 0, .int 0]), .inl (0, (40, .inl (fun _ => 0)))]
def hi_2 : Hp := [.inr (6, [.ref 1, .null, .null, .null, .null, .null, .null, .null, .null, .int 0]), .inr (4, [.ref 2, .int 0, .int 0, .int 0, .int 0]), .inl (0, (40, .inl (fun _ => 0))), .inr (0, [.int 0, .int 0, .int 0, .null, .null, .null, .null, .null, .null, .null])]
def hi_3 : Hp := [.inr (6, [.ref 1, .null, .null, .null, .null, .null, .null, .null, .null, .int 0]), .inr (4, [.ref 2, .int 0, .int 0, .int 0, .int 0]), .inl (0, (40, .inl (fun _ => 0))), .inr (0, [.int 0, .int 0, .int 0, .ref 4, .ref 5, .ref 6, .ref 7, .ref 8, .ref 9, .ref 10]), .inl (0, (6, .inl (fun _ => 0))), .inl (0, (6, .inl (fun _ => 0))), .inl (0, (36, .inl (fun _ => 0))), .inl (0, (9, .inl (fun _ => 0))), .inl (0, (9, .inl (fun _ => 0))), .inl (0, (9, .inl (fun _ => 0))), .inl (0, (9, .inl (fun _ => 0)))]
def hi_4 : Hp := [.inr (6, [.ref 1, .ref 3, .null, .null, .null, .null, .null, .null, .null, .int 0]), .inr (4, [.ref 2, .int 0, .int 0, .int 0, .int 0]), .inl (0, (40, .inl (fun _ => 0))), .inr (0, [.int 0, .int 0, .int 0, .ref 4, .ref 5, .ref 6, .ref 7, .ref 8, .ref 9, .ref 10]), .inl (0, (6, .inl (fun _ => 0))), .inl (0, (6, .inl (fun _ => 0))), .inl (0, (36, .inl (fun _ => 0))), .inl (0, (9, .inl (fun _ => 0))), .inl (0, (9, .inl (fun _ => 0))), .inl (0, (9, .inl (fun _ => 0))), .inl (0, (9, .inl (fun _ => 0))), .inr (0, [.int 0, .int 0, .int 0, .null, .null, .null, .null, .null, .null, .null])]
def hi_5 : Hp := [.inr (6, [.ref 1, .ref 3, .null, .null, .null, .null, .null, .null, .null, .int 0]), .inr (4, [.ref 2, .int 0, .int 0, .int 0, .int 0]), .inl (0, (40, .inl (fun _ => 0))), .inr (0, [.int 0, .int 0, .int 0, .ref 4, .ref 5, .ref 6, .ref 7, .ref 8, .ref 9, .ref 10]), .inl (0, (6, .inl (fun _ => 0))), .inl (0, (6, .inl (fun _ => 0))), .inl (0, (36, .inl (fun _ => 0))), .inl (0, (9, .inl (fun _ => 0))), .inl (0, (9, .inl (fun _ => 0))), .inl (0, (9, .inl (fun _ => 0))), .inl (0, (9, .inl (fun _ => 0))), .inr (0, [.int 0, .int 0, .int 0, .ref 12, .ref 13, .ref 14, .ref 15, .ref 16, .ref 17, .ref 18]), .inl (0, (6, .inl (fun _ => 0))), .inl (0, (6, .inl (fun _ => 0))), .inl (0, (36, .inl (fun _ => 0))), .inl (0, (9, .inl (fun _ => 0))), .inl (0, (9, .inl (fun _ => 0))), .inl (0, (9, .inl (fun _ => 0))), .inl (0, (9, .inl (fun _ => 0)))]
def hi_6 : Hp := [.inr (6, [.ref 1, .ref 3, .ref 11, .null, .null, .null, .null, .null, .null, .int 0]), .inr (4, [.ref 2, .int 0, .int 0, .int 0, .int 0]), .inl (0, (40, .inl (fun _ => 0))), .inr (0, [.int 0, .int 0, .int 0, .ref 4, .ref 5, .ref 6, .ref 7, .ref 8, .ref 9, .ref 10]), .inl (0, (6, .inl (fun _ => 0))), .inl (0, (6, .inl (fun _ => 0))), .inl (0, (36, .inl (fun _ => 0))), .inl (0, (9, .inl (fun _ => 0))), .inl (0, (9, .inl (fun _ => 0))), .inl (0, (9, .inl (fun _ => 0))), .inl (0, (9, .inl (fun _ => 0))), .inr (0, [.int 0, .int 0, .int 0, .ref 12, .ref 13, .ref 14, .ref 15, .ref 16, .ref 17, .ref 18]), .inl (0, (6, .inl (fun _ => 0))), .inl (0, (6, .inl (fun _ => 0))), .inl (0, (36, .inl (fun _ => 0))), .inl (0, (9, .inl (fun _ => 0))), .inl (0, (9, .inl (fun _ => 0))), .inl (0, (9, .inl (fun _ => 0))), .inl (0, (9, .inl (fun _ => 0))), .inr (0, [.int 0, .int 0, .int 0, .null, .null, .null, .null, .null, .null, .null])]
def hi_7 : Hp := [.inr (6, [.ref 1, .ref 3, .ref 11, .null, .null, .null, .null, .null, .null, .int 0]), .inr (4, [.ref 2, .int 0, .int 0, .int 0, .int 0]), .inl (0, (40, .inl (fun _ => 0))), .inr (0, [.int 0, .int 0, .int 0, .ref 4, .ref 5, .ref 6, .ref 7, .ref 8, .ref 9, .ref 10]), .inl (0, (6, .inl (fun _ => 0))), .inl (0, (6, .inl (fun _ => 0))), .inl (0, (36, .inl (fun _ => 0))), .inl (0, (9, .inl (fun _ => 0))), .inl (0, (9, .inl (fun _ => 0))), .inl (0, (9, .inl (fun _ => 0))), .inl (0, (9, .inl (fun _ => 0))), .inr (0, [.int 0, .int 0, .int 0, .ref 12, .ref 13, .ref 14, .ref 15, .ref 16, .ref 17, .ref 18]), .inl (0, (6, .inl (fun _ => 0))), .inl (0, (6, .inl (fun _ => 0))), .inl (0, (36, .inl (fun _ => 0))), .inl (0, (9, .inl (fun _ => 0))), .inl (0, (9, .inl (fun _ => 0))), .inl (0, (9, .inl (fun _ => 0))), .inl (0, (9, .inl (fun _ => 0))), .inr (0, [.int 0, .int 0, .int 0, .ref 20, .ref 21, .ref 22, .ref 23, .ref 24, .ref 25, .ref 26]), .inl (0, (6, .inl (fun _ => 0))), .inl (0, (6, .inl (fun _ => 0))), .inl (0, (36, .inl (fun _ => 0))), .inl (0, (9, .inl (fun _ => 0))), .inl (0, (9, .inl (fun _ => 0))), .inl (0, (9, .inl (fun _ => 0))), .inl (0, (9, .inl (fun _ => 0)))]
def hi_8 : Hp := [.inr (6, [.ref 1, .ref 3, .ref 11, .ref 19, .null, .null, .null, .null, .null, .int 0]), .inr (4, [.ref 2, .int 0, .int 0, .int 0, .int 0]), .inl (0, (40, .inl (fun _ => 0))), .inr (0, [.int 0, .int 0, .int 0, .ref 4, .ref 5, .ref 6, .ref 7, .ref 8, .ref 9, .ref 10]), .inl (0, (6, .inl (fun _ => 0))), .inl (0, (6, .inl (fun _ => 0))), .inl (0, (36, .inl (fun _ => 0))), .inl (0, (9, .inl (fun _ => 0))), .inl (0, (9, .inl (fun _ => 0))), .inl (0, (9, .inl (fun _ => 0))), .inl (0, (9, .inl (fun _ => 0))), .inr (0, [.int 0, .int 0, .int 0, .ref 12, .ref 13, .ref 14, .ref 15, .ref 16, .ref 17, .ref 18]), .inl (0, (6, .inl (fun _ => 0))), .inl (0, (6, .inl (fun _ => 0))), .inl (0, (36, .inl (fun _ => 0))), .inl (0, (9, .inl (fun _ => 0))), .inl (0, (9, .inl (fun _ => 0))), .inl (0, (9, .inl (fun _ => 0))), .inl (0, (9, .inl (fun _ => 0))), .inr (0, [.int 0, .int 0, .int 0, .ref 20, .ref 21, .ref 22, .ref 23, .ref 24, .ref 25, .ref 26]), .inl (0, (6, .inl (fun _ => 0))), .inl (0, (6, .inl (fun _ => 0))), .inl (0, (36, .inl (fun _ => 0))), .inl (0, (9, .inl (fun _ => 0))), .inl (0, (9, .inl (fun _ => 0))), .inl (0, (9, .inl (fun _ => 0))), .inl (0, (9, .inl (fun _ => 0))), .inr (3, [.null, .null, .int 0, .int 0, .int 0])]
def hi_9 : Hp := [.inr (6, [.ref 1, .ref 3, .ref 11, .ref 19, .null, .null, .null, .null, .null, .int 0]), .inr (4, [.ref 2, .int 0, .int 0, .int 0, .int 0]), .inl (0, (40, .inl (fun _ => 0))), .inr (0, [.int 0, .int 0, .int 0, .ref 4, .ref 5, .ref 6, .ref 7, .ref 8, .ref 9, .ref 10]), .inl (0, (6, .inl (fun _ => 0))), .inl (0, (6, .inl (fun _ => 0))), .inl (0, (36, .inl (fun _ => 0))), .inl (0, (9, .inl (fun _ => 0))), .inl (0, (9, .inl (fun _ => 0))), .inl (0, (9, .inl (fun _ => 0))), .inl (0, (9, .inl (fun _ => 0))), .inr (0, [.int 0, .int 0, .int 0, .ref 12, .ref 13, .ref 14, .ref 15, .ref 16, .ref 17, .ref 18]), .inl (0, (6, .inl (fun _ => 0))), .inl (0, (6, .inl (fun _ => 0))), .inl (0, (36, .inl (fun _ => 0))), .inl (0, (9, .inl (fun _ => 0))), .inl (0, (9, .inl (fun _ => 0))), .inl (0, (9, .inl (fun _ => 0))), .inl (0, (9, .inl (fun _ => 0))), .inr (0, [.int 0, .int 0, .int 0, .ref 20, .ref 21, .ref 22, .ref 23, .ref 24, .ref 25, .ref 26]), .inl (0, (6, .inl (fun _ => 0))), .inl (0, (6, .inl (fun _ => 0))), .inl (0, (36, .inl (fun _ => 0))), .inl (0, (9, .inl (fun _ => 0))), .inl (0, (9, .inl (fun _ => 0))), .inl (0, (9, .inl (fun _ => 0))), .inl (0, (9, .inl (fun _ => 0))), .inr (3, [.ref 28, .ref 29, .int 0, .int 0, .int 0]), .inl (0, (6, .inl (fun _ => 0))), .inl (0, (9, .inl (fun _ => 0)))]
def hi_10 : Hp := [.inr (6, [.ref 1, .ref 3, .ref 11, .ref 19, .ref 27, .null, .null, .null, .null, .int 0]), .inr (4, [.ref 2, .int 0, .int 0, .int 0, .int 0]), .inl (0, (40, .inl (fun _ => 0))), .inr (0, [.int 0, .int 0, .int 0, .ref 4, .ref 5, .ref 6, .ref 7, .ref 8, .ref 9, .ref 10]), .inl (0, (6, .inl (fun _ => 0))), .inl (0, (6, .inl (fun _ => 0))), .inl (0, (36, .inl (fun _ => 0))), .inl (0, (9, .inl (fun _ => 0))), .inl (0, (9, .inl (fun _ => 0))), .inl (0, (9, .inl (fun _ => 0))), .inl (0, (9, .inl (fun _ => 0))), .inr (0, [.int 0, .int 0, .int 0, .ref 12, .ref 13, .ref 14, .ref 15, .ref 16, .ref 17, .ref 18]), .inl (0, (6, .inl (fun _ => 0))), .inl (0, (6, .inl (fun _ => 0))), .inl (0, (36, .inl (fun _ => 0))), .inl (0, (9, .inl (fun _ => 0))), .inl (0, (9, .inl (fun _ => 0))), .inl (0, (9, .inl (fun _ => 0))), .inl (0, (9, .inl (fun _ => 0))), .inr (0, [.int 0, .int 0, .int 0, .ref 20, .ref 21, .ref 22, .ref 23, .ref 24, .ref 25, .ref 26]), .inl (0, (6, .inl (fun _ => 0))), .inl (0, (6, .inl (fun _ => 0))), .inl (0, (36, .inl (fun _ => 0))), .inl (0, (9, .inl (fun _ => 0))), .inl (0, (9, .inl (fun _ => 0))), .inl (0, (9, .inl (fun _ => 0))), .inl (0, (9, .inl (fun _ => 0))), .inr (3, [.ref 28, .ref 29, .int 0, .int 0, .int 0]), .inl (0, (6, .inl (fun _ => 0))), .inl (0, (9, .inl (fun _ => 0))), .inr (1, [.null, .null, .null, .null, .null, .int 0, .int 0, .int 0, .int 0])]
def hi_11 : Hp := [.inr (6, [.ref 1, .ref 3, .ref 11, .ref 19, .ref 27, .null, .null, .null, .null, .int 0]), .inr (4, [.ref 2, .int 0, .int 0, .int 0, .int 0]), .inl (0, (40, .inl (fun _ => 0))), .inr (0, [.int 0, .int 0, .int 0, .ref 4, .ref 5, .ref 6, .ref 7, .ref 8, .ref 9, .ref 10]), .inl (0, (6, .inl (fun _ => 0))), .inl (0, (6, .inl (fun _ => 0))), .inl (0, (36, .inl (fun _ => 0))), .inl (0, (9, .inl (fun _ => 0))), .inl (0, (9, .inl (fun _ => 0))), .inl (0, (9, .inl (fun _ => 0))), .inl (0, (9, .inl (fun _ => 0))), .inr (0, [.int 0, .int 0, .int 0, .ref 12, .ref 13, .ref 14, .ref 15, .ref 16, .ref 17, .ref 18]), .inl (0, (6, .inl (fun _ => 0))), .inl (0, (6, .inl (fun _ => 0))), .inl (0, (36, .inl (fun _ => 0))), .inl (0, (9, .inl (fun _ => 0))), .inl (0, (9, .inl (fun _ => 0))), .inl (0, (9, .inl (fun _ => 0))), .inl (0, (9, .inl (fun _ => 0))), .inr (0, [.int 0, .int 0, .int 0, .ref 20, .ref 21, .ref 22, .ref 23, .ref 24, .ref 25, .ref 26]), .inl (0, (6, .inl (fun _ => 0))), .inl (0, (6, .inl (fun _ => 0))), .inl (0, (36, .inl (fun _ => 0))), .inl (0, (9, .inl (fun _ => 0))), .inl (0, (9, .inl (fun _ => 0))), .inl (0, (9, .inl (fun _ => 0))), .inl (0, (9, .inl (fun _ => 0))), .inr (3, [.ref 28, .ref 29, .int 0, .int 0, .int 0]), .inl (0, (6, .inl (fun _ => 0))), .inl (0, (9, .inl (fun _ => 0))), .inr (1, [.ref 31, .ref 32, .ref 33, .ref 34, .ref 35, .int 0, .int 0, .int 0, .int 0]), .inl (0, (6, .inl (fun _ => 0))), .inl (0, (9, .inl (fun _ => 0))), .inl (0, (9, .inl (fun _ => 0))), .inl (0, (9, .inl (fun _ => 0))), .inl (0, (9, .inl (fun _ => 0)))]
def hi_12 : Hp := [.inr (6, [.ref 1, .ref 3, .ref 11, .ref 19, .ref 27, .ref 30, .null, .null, .null, .int 0]), .inr (4, [.ref 2, .int 0, .int 0, .int 0, .int 0]), .inl (0, (40, .inl (fun _ => 0))), .inr (0, [.int 0, .int 0, .int 0, .ref 4, .ref 5, .ref 6, .ref 7, .ref 8, .ref 9, .ref 10]), .inl (0, (6, .inl (fun _ => 0))), .inl (0, (6, .inl (fun _ => 0))), .inl (0, (36, .inl (fun _ => 0))), .inl (0, (9, .inl (fun _ => 0))), .inl (0, (9, .inl (fun _ => 0))), .inl (0, (9, .inl (fun _ => 0))), .inl (0, (9, .inl (fun _ => 0))), .inr (0, [.int 0, .int 0, .int 0, .ref 12, .ref 13, .ref 14, .ref 15, .ref 16, .ref 17, .ref 18]), .inl (0, (6, .inl (fun _ => 0))), .inl (0, (6, .inl (fun _ => 0))), .inl (0, (36, .inl (fun _ => 0))), .inl (0, (9, .inl (fun _ => 0))), .inl (0, (9, .inl (fun _ => 0))), .inl (0, (9, .inl (fun _ => 0))), .inl (0, (9, .inl (fun _ => 0))), .inr (0, [.int 0, .int 0, .int 0, .ref 20, .ref 21, .ref 22, .ref 23, .ref 24, .ref 25, .ref 26]), .inl (0, (6, .inl (fun _ => 0))), .inl (0, (6, .inl (fun _ => 0))), .inl (0, (36, .inl (fun _ => 0))), .inl (0, (9, .inl (fun _ => 0))), .inl (0, (9, .inl (fun _ => 0))), .inl (0, (9, .inl (fun _ => 0))), .inl (0, (9, .inl (fun _ => 0))), .inr (3, [.ref 28, .ref 29, .int 0, .int 0, .int 0]), .inl (0, (6, .inl (fun _ => 0))), .inl (0, (9, .inl (fun _ => 0))), .inr (1, [.ref 31, .ref 32, .ref 33, .ref 34, .ref 35, .int 0, .int 0, .int 0, .int 0]), .inl (0, (6, .inl (fun _ => 0))), .inl (0, (9, .inl (fun _ => 0))), .inl (0, (9, .inl (fun _ => 0))), .inl (0, (9, .inl (fun _ => 0))), .inl (0, (9, .inl (fun _ => 0))), .inr (5, [.null, .null, .null, .int 0, .int 0])]
def hi_13 : Hp := [.inr (6, [.ref 1, .ref 3, .ref 11, .ref 19, .ref 27, .ref 30, .null, .null, .null, .int 0]), .inr (4, [.ref 2, .int 0, .int 0, .int 0, .int 0]), .inl (0, (40, .inl (fun _ => 0))), .inr (0, [.int 0, .int 0, .int 0, .ref 4, .ref 5, .ref 6, .ref 7, .ref 8, .ref 9, .ref 10]), .inl (0, (6, .inl (fun _ => 0))), .inl (0, (6, .inl (fun _ => 0))), .inl (0, (36, .inl (fun _ => 0))), .inl (0, (9, .inl (fun _ => 0))), .inl (0, (9, .inl (fun _ => 0))), .inl (0, (9, .inl (fun _ => 0))), .inl (0, (9, .inl (fun _ => 0))), .inr (0, [.int 0, .int 0, .int 0, .ref 12, .ref 13, .ref 14, .ref 15, .ref 16, .ref 17, .ref 18]), .inl (0, (6, .inl (fun _ => 0))), .inl (0, (6, .inl (fun _ => 0))), .inl (0, (36, .inl (fun _ => 0))), .inl (0, (9, .inl (fun _ => 0))), .inl (0, (9, .inl (fun _ => 0))), .inl (0, (9, .inl (fun _ => 0))), .inl (0, (9, .inl (fun _ => 0))), .inr (0, [.int 0, .int 0, .int 0, .ref 20, .ref 21, .ref 22, .ref 23, .ref 24, .ref 25, .ref 26]), .inl (0, (6, .inl (fun _ => 0))), .inl (0, (6, .inl (fun _ => 0))), .inl (0, (36, .inl (fun _ => 0))), .inl (0, (9, .inl (fun _ => 0))), .inl (0, (9, .inl (fun _ => 0))), .inl (0, (9, .inl (fun _ => 0))), .inl (0, (9, .inl (fun _ => 0))), .inr (3, [.ref 28, .ref 29, .int 0, .int 0, .int 0]), .inl (0, (6, .inl (fun _ => 0))), .inl (0, (9, .inl (fun _ => 0))), .inr (1, [.ref 31, .ref 32, .ref 33, .ref 34, .ref 35, .int 0, .int 0, .int 0, .int 0]), .inl (0, (6, .inl (fun _ => 0))), .inl (0, (9, .inl (fun _ => 0))), .inl (0, (9, .inl (fun _ => 0))), .inl (0, (9, .inl (fun _ => 0))), .inl (0, (9, .inl (fun _ => 0))), .inr (5, [.ref 37, .ref 38, .ref 39, .int 0, .int 0]), .inl (0, (6, .inl (fun _ => 0))), .inl (0, (9, .inl (fun _ => 0))), .inl (1, (81, .inr (.inl (fun _ => 0))))]
def hi_14 : Hp := [.inr (6, [.ref 1, .ref 3, .ref 11, .ref 19, .ref 27, .ref 30, .ref 36, .ref 41, .ref 40, .int 0]), .inr (4, [.ref 2, .int 0, .int 0, .int 0, .int 0]), .inl (0, (40, .inl (fun _ => 0))), .inr (0, [.int 0, .int 0, .int 0, .ref 4, .ref 5, .ref 6, .ref 7, .ref 8, .ref 9, .ref 10]), .inl (0, (6, .inl (fun _ => 0))), .inl (0, (6, .inl (fun _ => 0))), .inl (0, (36, .inl (fun _ => 0))), .inl (0, (9, .inl (fun _ => 0))), .inl (0, (9, .inl (fun _ => 0))), .inl (0, (9, .inl (fun _ => 0))), .inl (0, (9, .inl (fun _ => 0))), .inr (0, [.int 0, .int 0, .int 0, .ref 12, .ref 13, .ref 14, .ref 15, .ref 16, .ref 17, .ref 18]), .inl (0, (6, .inl (fun _ => 0))), .inl (0, (6, .inl (fun _ => 0))), .inl (0, (36, .inl (fun _ => 0))), .inl (0, (9, .inl (fun _ => 0))), .inl (0, (9, .inl (fun _ => 0))), .inl (0, (9, .inl (fun _ => 0))), .inl (0, (9, .inl (fun _ => 0))), .inr (0, [.int 0, .int 0, .int 0, .ref 20, .ref 21, .ref 22, .ref 23, .ref 24, .ref 25, .ref 26]), .inl (0, (6, .inl (fun _ => 0))), .inl (0, (6, .inl (fun _ => 0))), .inl (0, (36, .inl (fun _ => 0))), .inl (0, (9, .inl (fun _ => 0))), .inl (0, (9, .inl (fun _ => 0))), .inl (0, (9, .inl (fun _ => 0))), .inl (0, (9, .inl (fun _ => 0))), .inr (3, [.ref 28, .ref 29, .int 0, .int 0, .int 0]), .inl (0, (6, .inl (fun _ => 0))), .inl (0, (9, .inl (fun _ => 0))), .inr (1, [.ref 31, .ref 32, .ref 33, .ref 34, .ref 35, .int 0, .int 0, .int 0, .int 0]), .inl (0, (6, .inl (fun _ => 0))), .inl (0, (9, .inl (fun _ => 0))), .inl (0, (9, .inl (fun _ => 0))), .inl (0, (9, .inl (fun _ => 0))), .inl (0, (9, .inl (fun _ => 0))), .inr (5, [.ref 37, .ref 38, .ref 39, .int 0, .int 0]), .inl (0, (6, .inl (fun _ => 0))), .inl (0, (9, .inl (fun _ => 0))), .inl (1, (81, .inr (.inl (fun _ => 0)))), .inl (0, (6, .inl (fun _ => 0))), .inl (2, (4, .inr (.inr (.inr (.inr (fun _ => none)))))), .inr (2, [.null, .int 0, .int 0])]
def hi_15 : Hp := [.inr (6, [.ref 1, .ref 3, .ref 11, .ref 19, .ref 27, .ref 30, .ref 36, .ref 41, .ref 40, .int 0]), .inr (4, [.ref 2, .int 0, .int 0, .int 0, .int 0]), .inl (0, (40, .inl (fun _ => 0))), .inr (0, [.int 0, .int 0, .int 0, .ref 4, .ref 5, .ref 6, .ref 7, .ref 8, .ref 9, .ref 10]), .inl (0, (6, .inl (fun _ => 0))), .inl (0, (6, .inl (fun _ => 0))), .inl (0, (36, .inl (fun _ => 0))), .inl (0, (9, .inl (fun _ => 0))), .inl (0, (9, .inl (fun _ => 0))), .inl (0, (9, .inl (fun _ => 0))), .inl (0, (9, .inl (fun _ => 0))), .inr (0, [.int 0, .int 0, .int 0, .ref 12, .ref 13, .ref 14, .ref 15, .ref 16, .ref 17, .ref 18]), .inl (0, (6, .inl (fun _ => 0))), .inl (0, (6, .inl (fun _ => 0))), .inl (0, (36, .inl (fun _ => 0))), .inl (0, (9, .inl (fun _ => 0))), .inl (0, (9, .inl (fun _ => 0))), .inl (0, (9, .inl (fun _ => 0))), .inl (0, (9, .inl (fun _ => 0))), .inr (0, [.int 0, .int 0, .int 0, .ref 20, .ref 21, .ref 22, .ref 23, .ref 24, .ref 25, .ref 26]), .inl (0, (6, .inl (fun _ => 0))), .inl (0, (6, .inl (fun _ => 0))), .inl (0, (36, .inl (fun _ => 0))), .inl (0, (9, .inl (fun _ => 0))), .inl (0, (9, .inl (fun _ => 0))), .inl (0, (9, .inl (fun _ => 0))), .inl (0, (9, .inl (fun _ => 0))), .inr (3, [.ref 28, .ref 29, .int 0, .int 0, .int 0]), .inl (0, (6, .inl (fun _ => 0))), .inl (0, (9, .inl (fun _ => 0))), .inr (1, [.ref 31, .ref 32, .ref 33, .ref 34, .ref 35, .int 0, .int 0, .int 0, .int 0]), .inl (0, (6, .inl (fun _ => 0))), .inl (0, (9, .inl (fun _ => 0))), .inl (0, (9, .inl (fun _ => 0))), .inl (0, (9, .inl (fun _ => 0))), .inl (0, (9, .inl (fun _ => 0))), .inr (5, [.ref 37, .ref 38, .ref 39, .int 0, .int 0]), .inl (0, (6, .inl (fun _ => 0))), .inl (0, (9, .inl (fun _ => 0))), .inl (1, (81, .inr (.inl (fun _ => 0)))), .inl (0, (6, .inl (fun _ => 0))), .inl (2, (4, .inr (.inr (.inr (.inr (fun _ => none)))))), .inr (2, [.ref 43, .int (-1), .int 0]), .inl (0, (40, .inl (fun _ => 0)))]
def hi_16 : Hp := [.inr (6, [.ref 1, .ref 3, .ref 11, .ref 19, .ref 27, .ref 30, .ref 36, .ref 41, .ref 40, .int 0]), .inr (4, [.ref 2, .int 0, .int 0, .int 0, .int 0]), .inl (0, (40, .inl (fun _ => 0))), .inr (0, [.int 0, .int 0, .int 0, .ref 4, .ref 5, .ref 6, .ref 7, .ref 8, .ref 9, .ref 10]), .inl (0, (6, .inl (fun _ => 0))), .inl (0, (6, .inl (fun _ => 0))), .inl (0, (36, .inl (fun _ => 0))), .inl (0, (9, .inl (fun _ => 0))), .inl (0, (9, .inl (fun _ => 0))), .inl (0, (9, .inl (fun _ => 0))), .inl (0, (9, .inl (fun _ => 0))), .inr (0, [.int 0, .int 0, .int 0, .ref 12, .ref 13, .ref 14, .ref 15, .ref 16, .ref 17, .ref 18]), .inl (0, (6, .inl (fun _ => 0))), .inl (0, (6, .inl (fun _ => 0))), .inl (0, (36, .inl (fun _ => 0))), .inl (0, (9, .inl (fun _ => 0))), .inl (0, (9, .inl (fun _ => 0))), .inl (0, (9, .inl (fun _ => 0))), .inl (0, (9, .inl (fun _ => 0))), .inr (0, [.int 0, .int 0, .int 0, .ref 20, .ref 21, .ref 22, .ref 23, .ref 24, .ref 25, .ref 26]), .inl (0, (6, .inl (fun _ => 0))), .inl (0, (6, .inl (fun _ => 0))), .inl (0, (36, .inl (fun _ => 0))), .inl (0, (9, .inl (fun _ => 0))), .inl (0, (9, .inl (fun _ => 0))), .inl (0, (9, .inl (fun _ => 0))), .inl (0, (9, .inl (fun _ => 0))), .inr (3, [.ref 28, .ref 29, .int 0, .int 0, .int 0]), .inl (0, (6, .inl (fun _ => 0))), .inl (0, (9, .inl (fun _ => 0))), .inr (1, [.ref 31, .ref 32, .ref 33, .ref 34, .ref 35, .int 0, .int 0, .int 0, .int 0]), .inl (0, (6, .inl (fun _ => 0))), .inl (0, (9, .inl (fun _ => 0))), .inl (0, (9, .inl (fun _ => 0))), .inl (0, (9, .inl (fun _ => 0))), .inl (0, (9, .inl (fun _ => 0))), .inr (5, [.ref 37, .ref 38, .ref 39, .int 0, .int 0]), .inl (0, (6, .inl (fun _ => 0))), .inl (0, (9, .inl (fun _ => 0))), .inl (1, (81, .inr (.inl (fun _ => 0)))), .inl (0, (6, .inl (fun _ => 0))), .inl (2, (4, .inr (.inr (.inr (.inr (va_up (fun _ => none) 0 (some 42))))))), .inr (2, [.ref 43, .int (-1), .int 0]), .inl (0, (40, .inl (fun _ => 0))), .inr (2, [.null, .int 0, .int 0])]
def hi_17 : Hp := [.inr (6, [.ref 1, .ref 3, .ref 11, .ref 19, .ref 27, .ref 30, .ref 36, .ref 41, .ref 40, .int 0]), .inr (4, [.ref 2, .int 0, .int 0, .int 0, .int 0]), .inl (0, (40, .inl (fun _ => 0))), .inr (0, [.int 0, .int 0, .int 0, .ref 4, .ref 5, .ref 6, .ref 7, .ref 8, .ref 9, .ref 10]), .inl (0, (6, .inl (fun _ => 0))), .inl (0, (6, .inl (fun _ => 0))), .inl (0, (36, .inl (fun _ => 0))), .inl (0, (9, .inl (fun _ => 0))), .inl (0, (9, .inl (fun _ => 0))), .inl (0, (9, .inl (fun _ => 0))), .inl (0, (9, .inl (fun _ => 0))), .inr (0, [.int 0, .int 0, .int 0, .ref 12, .ref 13, .ref 14, .ref 15, .ref 16, .ref 17, .ref 18]), .inl (0, (6, .inl (fun _ => 0))), .inl (0, (6, .inl (fun _ => 0))), .inl (0, (36, .inl (fun _ => 0))), .inl (0, (9, .inl (fun _ => 0))), .inl (0, (9, .inl (fun _ => 0))), .inl (0, (9, .inl (fun _ => 0))), .inl (0, (9, .inl (fun _ => 0))), .inr (0, [.int 0, .int 0, .int 0, .ref 20, .ref 21, .ref 22, .ref 23, .ref 24, .ref 25, .ref 26]), .inl (0, (6, .inl (fun _ => 0))), .inl (0, (6, .inl (fun _ => 0))), .inl (0, (36, .inl (fun _ => 0))), .inl (0, (9, .inl (fun _ => 0))), .inl (0, (9, .inl (fun _ => 0))), .inl (0, (9, .inl (fun _ => 0))), .inl (0, (9, .inl (fun _ => 0))), .inr (3, [.ref 28, .ref 29, .int 0, .int 0, .int 0]), .inl (0, (6, .inl (fun _ => 0))), .inl (0, (9, .inl (fun _ => 0))), .inr (1, [.ref 31, .ref 32, .ref 33, .ref 34, .ref 35, .int 0, .int 0, .int 0, .int 0]), .inl (0, (6, .inl (fun _ => 0))), .inl (0, (9, .inl (fun _ => 0))), .inl (0, (9, .inl (fun _ => 0))), .inl (0, (9, .inl (fun _ => 0))), .inl (0, (9, .inl (fun _ => 0))), .inr (5, [.ref 37, .ref 38, .ref 39, .int 0, .int 0]), .inl (0, (6, .inl (fun _ => 0))), .inl (0, (9, .inl (fun _ => 0))), .inl (1, (81, .inr (.inl (fun _ => 0)))), .inl (0, (6, .inl (fun _ => 0))), .inl (2, (4, .inr (.inr (.inr (.inr (va_up (fun _ => none) 0 (some 42))))))), .inr (2, [.ref 43, .int (-1), .int 0]), .inl (0, (40, .inl (fun _ => 0))), .inr (2, [.ref 45, .int (-1), .int 0]), .inl (0, (40, .inl (fun _ => 0)))]
def hi_18 : Hp := [.inr (6, [.ref 1, .ref 3, .ref 11, .ref 19, .ref 27, .ref 30, .ref 36, .ref 41, .ref 40, .int 0]), .inr (4, [.ref 2, .int 0, .int 0, .int 0, .int 0]), .inl (0, (40, .inl (fun _ => 0))), .inr (0, [.int 0, .int 0, .int 0, .ref 4, .ref 5, .ref 6, .ref 7, .ref 8, .ref 9, .ref 10]), .inl (0, (6, .inl (fun _ => 0))), .inl (0, (6, .inl (fun _ => 0))), .inl (0, (36, .inl (fun _ => 0))), .inl (0, (9, .inl (fun _ => 0))), .inl (0, (9, .inl (fun _ => 0))), .inl (0, (9, .inl (fun _ => 0))), .inl (0, (9, .inl (fun _ => 0))), .inr (0, [.int 0, .int 0, .int 0, .ref 12, .ref 13, .ref 14, .ref 15, .ref 16, .ref 17, .ref 18]), .inl (0, (6, .inl (fun _ => 0))), .inl (0, (6, .inl (fun _ => 0))), .inl (0, (36, .inl (fun _ => 0))), .inl (0, (9, .inl (fun _ => 0))), .inl (0, (9, .inl (fun _ => 0))), .inl (0, (9, .inl (fun _ => 0))), .inl (0, (9, .inl (fun _ => 0))), .inr (0, [.int 0, .int 0, .int 0, .ref 20, .ref 21, .ref 22, .ref 23, .ref 24, .ref 25, .ref 26]), .inl (0, (6, .inl (fun _ => 0))), .inl (0, (6, .inl (fun _ => 0))), .inl (0, (36, .inl (fun _ => 0))), .inl (0, (9, .inl (fun _ => 0))), .inl (0, (9, .inl (fun _ => 0))), .inl (0, (9, .inl (fun _ => 0))), .inl (0, (9, .inl (fun _ => 0))), .inr (3, [.ref 28, .ref 29, .int 0, .int 0, .int 0]), .inl (0, (6, .inl (fun _ => 0))), .inl (0, (9, .inl (fun _ => 0))), .inr (1, [.ref 31, .ref 32, .ref 33, .ref 34, .ref 35, .int 0, .int 0, .int 0, .int 0]), .inl (0, (6, .inl (fun _ => 0))), .inl (0, (9, .inl (fun _ => 0))), .inl (0, (9, .inl (fun _ => 0))), .inl (0, (9, .inl (fun _ => 0))), .inl (0, (9, .inl (fun _ => 0))), .inr (5, [.ref 37, .ref 38, .ref 39, .int 0, .int 0]), .inl (0, (6, .inl (fun _ => 0))), .inl (0, (9, .inl (fun _ => 0))), .inl (1, (81, .inr (.inl (fun _ => 0)))), .inl (0, (6, .inl (fun _ => 0))), .inl (2, (4, .inr (.inr (.inr (.inr (va_up (va_up (fun _ => none) 0 (some 42)) 1 (some 44))))))), .inr (2, [.ref 43, .int (-1), .int 0]), .inl (0, (40, .inl (fun _ => 0))), .inr (2, [.ref 45, .int (-1), .int 0]), .inl (0, (40, .inl (fun _ => 0))), .inr (2, [.null, .int 0, .int 0])]
def hi_19 : Hp := [.inr (6, [.ref 1, .ref 3, .ref 11, .ref 19, .ref 27, .ref 30, .ref 36, .ref 41, .ref 40, .int 0]), .inr (4, [.ref 2, .int 0, .int 0, .int 0, .int 0]), .inl (0, (40, .inl (fun _ => 0))), .inr (0, [.int 0, .int 0, .int 0, .ref 4, .ref 5, .ref 6, .ref 7, .ref 8, .ref 9, .ref 10]), .inl (0, (6, .inl (fun _ => 0))), .inl (0, (6, .inl (fun _ => 0))), .inl (0, (36, .inl (fun _ => 0))), .inl (0, (9, .inl (fun _ => 0))), .inl (0, (9, .inl (fun _ => 0))), .inl (0, (9, .inl (fun _ => 0))), .inl (0, (9, .inl (fun _ => 0))), .inr (0, [.int 0, .int 0, .int 0, .ref 12, .ref 13, .ref 14, .ref 15, .ref 16, .ref 17, .ref 18]), .inl (0, (6, .inl (fun _ => 0))), .inl (0, (6, .inl (fun _ => 0))), .inl (0, (36, .inl (fun _ => 0))), .inl (0, (9, .inl (fun _ => 0))), .inl (0, (9, .inl (fun _ => 0))), .inl (0, (9, .inl (fun _ => 0))), .inl (0, (9, .inl (fun _ => 0))), .inr (0, [.int 0, .int 0, .int 0, .ref 20, .ref 21, .ref 22, .ref 23, .ref 24, .ref 25, .ref 26]), .inl (0, (6, .inl (fun _ => 0))), .inl (0, (6, .inl (fun _ => 0))), .inl (0, (36, .inl (fun _ => 0))), .inl (0, (9, .inl (fun _ => 0))), .inl (0, (9, .inl (fun _ => 0))), .inl (0, (9, .inl (fun _ => 0))), .inl (0, (9, .inl (fun _ => 0))), .inr (3, [.ref 28, .ref 29, .int 0, .int 0, .int 0]), .inl (0, (6, .inl (fun _ => 0))), .inl (0, (9, .inl (fun _ => 0))), .inr (1, [.ref 31, .ref 32, .ref 33, .ref 34, .ref 35, .int 0, .int 0, .int 0, .int 0]), .inl (0, (6, .inl (fun _ => 0))), .inl (0, (9, .inl (fun _ => 0))), .inl (0, (9, .inl (fun _ => 0))), .inl (0, (9, .inl (fun _ => 0))), .inl (0, (9, .inl (fun _ => 0))), .inr (5, [.ref 37, .ref 38, .ref 39, .int 0, .int 0]), .inl (0, (6, .inl (fun _ => 0))), .inl (0, (9, .inl (fun _ => 0))), .inl (1, (81, .inr (.inl (fun _ => 0)))), .inl (0, (6, .inl (fun _ => 0))), .inl (2, (4, .inr (.inr (.inr (.inr (va_up (va_up (fun _ => none) 0 (some 42)) 1 (some 44))))))), .inr (2, [.ref 43, .int (-1), .int 0]), .inl (0, (40, .inl (fun _ => 0))), .inr (2, [.ref 45, .int (-1), .int 0]), .inl (0, (40, .inl (fun _ => 0))), .inr (2, [.ref 47, .int (-1), .int 0]), .inl (0, (40, .inl (fun _ => 0)))]
def hi_20 : Hp := [.inr (6, [.ref 1, .ref 3, .ref 11, .ref 19, .ref 27, .ref 30, .ref 36, .ref 41, .ref 40, .int 0]), .inr (4, [.ref 2, .int 0, .int 0, .int 0, .int 0]), .inl (0, (40, .inl (fun _ => 0))), .inr (0, [.int 0, .int 0, .int 0, .ref 4, .ref 5, .ref 6, .ref 7, .ref 8, .ref 9, .ref 10]), .inl (0, (6, .inl (fun _ => 0))), .inl (0, (6, .inl (fun _ => 0))), .inl (0, (36, .inl (fun _ => 0))), .inl (0, (9, .inl (fun _ => 0))), .inl (0, (9, .inl (fun _ => 0))), .inl (0, (9, .inl (fun _ => 0))), .inl (0, (9, .inl (fun _ => 0))), .inr (0, [.int 0, .int 0, .int 0, .ref 12, .ref 13, .ref 14, .ref 15, .ref 16, .ref 17, .ref 18]), .inl (0, (6, .inl (fun _ => 0))), .inl (0, (6, .inl (fun _ => 0))), .inl (0, (36, .inl (fun _ => 0))), .inl (0, (9, .inl (fun _ => 0))), .inl (0, (9, .inl (fun _ => 0))), .inl (0, (9, .inl (fun _ => 0))), .inl (0, (9, .inl (fun _ => 0))), .inr (0, [.int 0, .int 0, .int 0, .ref 20, .ref 21, .ref 22, .ref 23, .ref 24, .ref 25, .ref 26]), .inl (0, (6, .inl (fun _ => 0))), .inl (0, (6, .inl (fun _ => 0))), .inl (0, (36, .inl (fun _ => 0))), .inl (0, (9, .inl (fun _ => 0))), .inl (0, (9, .inl (fun _ => 0))), .inl (0, (9, .inl (fun _ => 0))), .inl (0, (9, .inl (fun _ => 0))), .inr (3, [.ref 28, .ref 29, .int 0, .int 0, .int 0]), .inl (0, (6, .inl (fun _ => 0))), .inl (0, (9, .inl (fun _ => 0))), .inr (1, [.ref 31, .ref 32, .ref 33, .ref 34, .ref 35, .int 0, .int 0, .int 0, .int 0]), .inl (0, (6, .inl (fun _ => 0))), .inl (0, (9, .inl (fun _ => 0))), .inl (0, (9, .inl (fun _ => 0))), .inl (0, (9, .inl (fun _ => 0))), .inl (0, (9, .inl (fun _ => 0))), .inr (5, [.ref 37, .ref 38, .ref 39, .int 0, .int 0]), .inl (0, (6, .inl (fun _ => 0))), .inl (0, (9, .inl (fun _ => 0))), .inl (1, (81, .inr (.inl (fun _ => 0)))), .inl (0, (6, .inl (fun _ => 0))), .inl (2, (4, .inr (.inr (.inr (.inr (va_up (va_up (va_up (fun _ => none) 0 (some 42)) 1 (some 44)) 2 (some 46))))))), .inr (2, [.ref 43, .int (-1), .int 0]), .inl (0, (40, .inl (fun _ => 0))), .inr (2, [.ref 45, .int (-1), .int 0]), .inl (0, (40, .inl (fun _ => 0))), .inr (2, [.ref 47, .int (-1), .int 0]), .inl (0, (40, .inl (fun _ => 0))), .inr (2, [.null, .int 0, .int 0])]
def hi_21 : Hp := [.inr (6, [.ref 1, .ref 3, .ref 11, .ref 19, .ref 27, .ref 30, .ref 36, .ref 41, .ref 40, .int 0]), .inr (4, [.ref 2, .int 0, .int 0, .int 0, .int 0]), .inl (0, (40, .inl (fun _ => 0))), .inr (0, [.int 0, .int 0, .int 0, .ref 4, .ref 5, .ref 6, .ref 7, .ref 8, .ref 9, .ref 10]), .inl (0, (6, .inl (fun _ => 0))), .inl (0, (6, .inl (fun _ => 0))), .inl (0, (36, .inl (fun _ => 0))), .inl (0, (9, .inl (fun _ => 0))), .inl (0, (9, .inl (fun _ => 0))), .inl (0, (9, .inl (fun _ => 0))), .inl (0, (9, .inl (fun _ => 0))), .inr (0, [.int 0, .int 0, .int 0, .ref 12, .ref 13, .ref 14, .ref 15, .ref 16, .ref 17, .ref 18]), .inl (0, (6, .inl (fun _ => 0))), .inl (0, (6, .inl (fun _ => 0))), .inl (0, (36, .inl (fun _ => 0))), .inl (0, (9, .inl (fun _ => 0))), .inl (0, (9, .inl (fun _ => 0))), .inl (0, (9, .inl (fun _ => 0))), .inl (0, (9, .inl (fun _ => 0))), .inr (0, [.int 0, .int 0, .int 0, .ref 20, .ref 21, .ref 22, .ref 23, .ref 24, .ref 25, .ref 26]), .inl (0, (6, .inl (fun _ => 0))), .inl (0, (6, .inl (fun _ => 0))), .inl (0, (36, .inl (fun _ => 0))), .inl (0, (9, .inl (fun _ => 0))), .inl (0, (9, .inl (fun _ => 0))), .inl (0, (9, .inl (fun _ => 0))), .inl (0, (9, .inl (fun _ => 0))), .inr (3, [.ref 28, .ref 29, .int 0, .int 0, .int 0]), .inl (0, (6, .inl (fun _ => 0))), .inl (0, (9, .inl (fun _ => 0))), .inr (1, [.ref 31, .ref 32, .ref 33, .ref 34, .ref 35, .int 0, .int 0, .int 0, .int 0]), .inl (0, (6, .inl (fun _ => 0))), .inl (0, (9, .inl (fun _ => 0))), .inl (0, (9, .inl (fun _ => 0))), .inl (0, (9, .inl (fun _ => 0))), .inl (0, (9, .inl (fun _ => 0))), .inr (5, [.ref 37, .ref 38, .ref 39, .int 0, .int 0]), .inl (0, (6, .inl (fun _ => 0))), .inl (0, (9, .inl (fun _ => 0))), .inl (1, (81, .inr (.inl (fun _ => 0)))), .inl (0, (6, .inl (fun _ => 0))), .inl (2, (4, .inr (.inr (.inr (.inr (va_up (va_up (va_up (fun _ => none) 0 (some 42)) 1 (some 44)) 2 (some 46))))))), .inr (2, [.ref 43, .int (-1), .int 0]), .inl (0, (40, .inl (fun _ => 0))), .inr (2, [.ref 45, .int (-1), .int 0]), .inl (0, (40, .inl (fun _ => 0))), .inr (2, [.ref 47, .int (-1), .int 0]), .inl (0, (40, .inl (fun _ => 0))), .inr (2, [.ref 49, .int (-1), .int 0]), .inl (0, (40, .inl (fun _ => 0)))]
def hi_22 : Hp := [.inr (6, [.null, .null, .null, .null, .null, .null, .null, .null, .null, .int 0])]
def hi_23 : Hp := [.inr (6, [.ref 1, .ref 3, .ref 11, .ref 19, .ref 27, .ref 30, .ref 36, .ref 41, .ref 40, .int 0]), .inr (4, [.ref 2, .int 0, .int 0, .int 0, .int 0]), .inl (0, (40, .inl (fun _ => 0))), .inr (0, [.int 0, .int 0, .int 0, .ref 4, .ref 5, .ref 6, .ref 7, .ref 8, .ref 9, .ref 10]), .inl (0, (6, .inl (fun _ => 0))), .inl (0, (6, .inl (fun _ => 0))), .inl (0, (36, .inl (fun _ => 0))), .inl (0, (9, .inl (fun _ => 0))), .inl (0, (9, .inl (fun _ => 0))), .inl (0, (9, .inl (fun _ => 0))), .inl (0, (9, .inl (fun _ => 0))), .inr (0, [.int 0, .int 0, .int 0, .ref 12, .ref 13, .ref 14, .ref 15, .ref 16, .ref 17, .ref 18]), .inl (0, (6, .inl (fun _ => 0))), .inl (0, (6, .inl (fun _ => 0))), .inl (0, (36, .inl (fun _ => 0))), .inl (0, (9, .inl (fun _ => 0))), .inl (0, (9, .inl (fun _ => 0))), .inl (0, (9, .inl (fun _ => 0))), .inl (0, (9, .inl (fun _ => 0))), .inr (0, [.int 0, .int 0, .int 0, .ref 20, .ref 21, .ref 22, .ref 23, .ref 24, .ref 25, .ref 26]), .inl (0, (6, .inl (fun _ => 0))), .inl (0, (6, .inl (fun _ => 0))), .inl (0, (36, .inl (fun _ => 0))), .inl (0, (9, .inl (fun _ => 0))), .inl (0, (9, .inl (fun _ => 0))), .inl (0, (9, .inl (fun _ => 0))), .inl (0, (9, .inl (fun _ => 0))), .inr (3, [.ref 28, .ref 29, .int 0, .int 0, .int 0]), .inl (0, (6, .inl (fun _ => 0))), .inl (0, (9, .inl (fun _ => 0))), .inr (1, [.ref 31, .ref 32, .ref 33, .ref 34, .ref 35, .int 0, .int 0, .int 0, .int 0]), .inl (0, (6, .inl (fun _ => 0))), .inl (0, (9, .inl (fun _ => 0))), .inl (0, (9, .inl (fun _ => 0))), .inl (0, (9, .inl (fun _ => 0))), .inl (0, (9, .inl (fun _ => 0))), .inr (5, [.ref 37, .ref 38, .ref 39, .int 0, .int 0]), .inl (0, (6, .inl (fun _ => 0))), .inl (0, (9, .inl (fun _ => 0))), .inl (1, (81, .inr (.inl (fun _ => 0)))), .inl (0, (6, .inl (fun _ => 0))), .inl (2, (4, .inr (.inr (.inr (.inr (va_up (va_up (va_up (va_up (fun _ => none) 0 (some 42)) 1 (some 44)) 2 (some 46)) 3 (some 48))))))), .inr (2, [.ref 43, .int (-1), .int 0]), .inl (0, (40, .inl (fun _ => 0))), .inr (2, [.ref 45, .int (-1), .int 0]), .inl (0, (40, .inl (fun _ => 0))), .inr (2, [.ref 47, .int (-1), .int 0]), .inl (0, (40, .inl (fun _ => 0))), .inr (2, [.ref 49, .int (-1), .int 0]), .inl (0, (40, .inl (fun _ => 0)))]
def hi_24 : Hp := [.inr (6, [.ref 1, .ref 3, .ref 11, .ref 19, .ref 27, .ref 30, .ref 36, .ref 41, .ref 40, .int 0]), .inr (4, [.ref 2, .int 0, .int 0, .int 0, .int 0]), .inl (0, (40, .inl (fun _ => 0))), .inr (0, [.int 0, .int 0, .int 0, .ref 4, .ref 5, .ref 6, .ref 7, .ref 8, .ref 9, .ref 10]), .inl (0, (6, .inl (fun _ => 0))), .inl (0, (6, .inl (fun _ => 0))), .inl (0, (36, .inl (fun _ => 0))), .inl (0, (9, .inl (fun _ => 0))), .inl (0, (9, .inl (fun _ => 0))), .inl (0, (9, .inl (fun _ => 0))), .inl (0, (9, .inl (fun _ => 0))), .inr (0, [.int 0, .int 0, .int 0, .ref 12, .ref 13, .ref 14, .ref 15, .ref 16, .ref 17, .ref 18]), .inl (0, (6, .inl (fun _ => 0))), .inl (0, (6, .inl (fun _ => 0))), .inl (0, (36, .inl (fun _ => 0))), .inl (0, (9, .inl (fun _ => 0))), .inl (0, (9, .inl (fun _ => 0))), .inl (0, (9, .inl (fun _ => 0))), .inl (0, (9, .inl (fun _ => 0))), .inr (0, [.int 0, .int 0, .int 0, .ref 20, .ref 21, .ref 22, .ref 23, .ref 24, .ref 25, .ref 26]), .inl (0, (6, .inl (fun _ => 0))), .inl (0, (6, .inl (fun _ => 0))), .inl (0, (36, .inl (fun _ => 0))), .inl (0, (9, .inl (fun _ => 0))), .inl (0, (9, .inl (fun _ => 0))), .inl (0, (9, .inl (fun _ => 0))), .inl (0, (9, .inl (fun _ => 0))), .inr (3, [.ref 28, .ref 29, .int 0, .int 0, .int 0]), .inl (0, (6, .inl (fun _ => 0))), .inl (0, (9, .inl (fun _ => 0))), .inr (1, [.ref 31, .ref 32, .ref 33, .ref 34, .ref 35, .int 0, .int 0, .int 0, .int 0]), .inl (0, (6, .inl (fun _ => 0))), .inl (0, (9, .inl (fun _ => 0))), .inl (0, (9, .inl (fun _ => 0))), .inl (0, (9, .inl (fun _ => 0))), .inl (0, (9, .inl (fun _ => 0))), .inr (5, [.ref 37, .ref 38, .ref 39, .int 0, .int 0]), .inl (0, (6, .inl (fun _ => 0))), .inl (0, (9, .inl (fun _ => 0))), .inl (1, (81, .inr (.inl (fun _ => 0)))), .inl (0, (6, .inl (fun _ => 0))), .inl (2, (4, .inr (.inr (.inr (.inr (va_up (va_up (va_up (va_up (fun _ => none) 0 (some 42)) 1 (some 44)) 2 (some 46)) 3 (some 48))))))), .inr (2, [.ref 43, .int (-1), .int 0]), .inl (0, (40, .inl (fun _ => 0))), .inr (2, [.ref 45, .int (-1), .int 0]), .inl (0, (40, .inl (fun _ => 0))), .inr (2, [.ref 47, .int (-1), .int 0]), .inl (0, (40, .inl (fun _ => 0))), .inr (2, [.ref 49, .int (-1), .int 0]), .inl (0, (40, .inl (fun _ => 0))), .inr (7, [.null, .null, .int 0, .null, .null, .int 0, .int 0, .null, .int 0, .int 0, .null, .int 0, .int 0, .int 0, .int 0, .null, .null, .int 0, .null, .null, .null])]
def hi_25 : Hp := [.inr (6, [.ref 1, .ref 3, .ref 11, .ref 19, .ref 27, .ref 30, .ref 36, .ref 41, .ref 40, .int 0]), .inr (4, [.ref 2, .int 0, .int 0, .int 0, .int 0]), .inl (0, (40, .inl (fun _ => 0))), .inr (0, [.int 0, .int 0, .int 0, .ref 4, .ref 5, .ref 6, .ref 7, .ref 8, .ref 9, .ref 10]), .inl (0, (6, .inl (fun _ => 0))), .inl (0, (6, .inl (fun _ => 0))), .inl (0, (36, .inl (fun _ => 0))), .inl (0, (9, .inl (fun _ => 0))), .inl (0, (9, .inl (fun _ => 0))), .inl (0, (9, .inl (fun _ => 0))), .inl (0, (9, .inl (fun _ => 0))), .inr (0, [.int 0, .int 0, .int 0, .ref 12, .ref 13, .ref 14, .ref 15, .ref 16, .ref 17, .ref 18]), .inl (0, (6, .inl (fun _ => 0))), .inl (0, (6, .inl (fun _ => 0))), .inl (0, (36, .inl (fun _ => 0))), .inl (0, (9, .inl (fun _ => 0))), .inl (0, (9, .inl (fun _ => 0))), .inl (0, (9, .inl (fun _ => 0))), .inl (0, (9, .inl (fun _ => 0))), .inr (0, [.int 0, .int 0, .int 0, .ref 20, .ref 21, .ref 22, .ref 23, .ref 24, .ref 25, .ref 26]), .inl (0, (6, .inl (fun _ => 0))), .inl (0, (6, .inl (fun _ => 0))), .inl (0, (36, .inl (fun _ => 0))), .inl (0, (9, .inl (fun _ => 0))), .inl (0, (9, .inl (fun _ => 0))), .inl (0, (9, .inl (fun _ => 0))), .inl (0, (9, .inl (fun _ => 0))), .inr (3, [.ref 28, .ref 29, .int 0, .int 0, .int 0]), .inl (0, (6, .inl (fun _ => 0))), .inl (0, (9, .inl (fun _ => 0))), .inr (1, [.ref 31, .ref 32, .ref 33, .ref 34, .ref 35, .int 0, .int 0, .int 0, .int 0]), .inl (0, (6, .inl (fun _ => 0))), .inl (0, (9, .inl (fun _ => 0))), .inl (0, (9, .inl (fun _ => 0))), .inl (0, (9, .inl (fun _ => 0))), .inl (0, (9, .inl (fun _ => 0))), .inr (5, [.ref 37, .ref 38, .ref 39, .int 0, .int 0]), .inl (0, (6, .inl (fun _ => 0))), .inl (0, (9, .inl (fun _ => 0))), .inl (1, (81, .inr (.inl (fun _ => 0)))), .inl (0, (6, .inl (fun _ => 0))), .inl (2, (4, .inr (.inr (.inr (.inr (va_up (va_up (va_up (va_up (fun _ => none) 0 (some 42)) 1 (some 44)) 2 (some 46)) 3 (some 48))))))), .inr (2, [.ref 43, .int (-1), .int 0]), .inl (0, (40, .inl (fun _ => 0))), .inr (2, [.ref 45, .int (-1), .int 0]), .inl (0, (40, .inl (fun _ => 0))), .inr (2, [.ref 47, .int (-1), .int 0]), .inl (0, (40, .inl (fun _ => 0))), .inr (2, [.ref 49, .int (-1), .int 0]), .inl (0, (40, .inl (fun _ => 0))), .inr (7, [.ref 51, .ref 52, .int 0, .ref 53, .ref 54, .int 0, .int 0, .ref 55, .int 0, .int 0, .ref 56, .int 0, .int 0, .int 0, .int 0, .ref 57, .ref 58, .int 0, .ref 59, .ref 60, .ref 61]), .inl (0, (87, .inl (fun _ => 0))), .inl (0, (87, .inl (fun _ => 0))), .inl (0, (9, .inl (fun _ => 0))), .inl (0, (6, .inl (fun _ => 0))), .inl (0, (9, .inl (fun _ => 0))), .inl (0, (40, .inl (fun _ => 0))), .inl (0, (25, .inl (upd (upd (upd (upd (upd (upd (upd (upd (upd (upd (upd (upd (upd (upd (upd (upd (upd (upd (upd (upd (upd (upd (upd (upd (upd (fun _ => 0) 0 (116)) 1 (101)) 2 (97)) 3 (109)) 4 (32)) 5 (115)) 6 (116)) 7 (97)) 8 (114)) 9 (116)) 10 (103)) 11 (97)) 12 (109)) 13 (101)) 14 (32)) 15 (119)) 16 (111)) 17 (110)) 18 (32)) 19 (32)) 20 (100)) 21 (114)) 22 (101)) 23 (119)) 24 (32)))), .inl (0, (486, .inl (fun _ => 0))), .inl (0, (4, .inl (upd (upd (upd (upd (fun _ => 0) 0 (-1)) 1 (-1)) 2 (-1)) 3 (-1)))), .inl (0, (4, .inl (fun _ => 0))), .inl (0, (160, .inl (fun _ => 0)))]
theorem dX6_init_0 : decode cX6_init 0 = .ok (.aload_n 0, 1) := by decide +kernel
theorem dX6_init_1 : decode cX6_init 1 = .ok (.invokespecial 1, 3) := by decide +kernel
theorem dX6_init_4 : decode cX6_init 4 = .ok (.aload_n 0, 1) := by decide +kernel
theorem dX6_init_5 : decode cX6_init 5 = .ok (.new 7, 3) := by decide +kernel
theorem dX6_init_8 : decode cX6_init 8 = .ok (.dup, 1) := by decide +kernel
theorem dX6_init_9 : decode cX6_init 9 = .ok (.invokespecial 9, 3) := by decide +kernel
theorem dX6_init_12 : decode cX6_init 12 = .ok (.putfield 10, 3) := by decide +kernel
theorem dX6_init_15 : decode cX6_init 15 = .ok (.aload_n 0, 1) := by decide +kernel
theorem dX6_init_16 : decode cX6_init 16 = .ok (.new 16, 3) := by decide +kernel
theorem dX6_init_19 : decode cX6_init 19 = .ok (.dup, 1) := by decide +kernel
theorem dX6_init_20 : decode cX6_init 20 = .ok (.invokespecial 18, 3) := by decide +kernel
theorem dX6_init_23 : decode cX6_init 23 = .ok (.putfield 19, 3) := by decide +kernel
theorem dX6_init_26 : decode cX6_init 26 = .ok (.aload_n 0, 1) := by decide +kernel
theorem dX6_init_27 : decode cX6_init 27 = .ok (.new 16, 3) := by decide +kernel
theorem dX6_init_30 : decode cX6_init 30 = .ok (.dup, 1) := by decide +kernel
theorem dX6_init_31 : decode cX6_init 31 = .ok (.invokespecial 18, 3) := by decide +kernel
theorem dX6_init_34 : decode cX6_init 34 = .ok (.putfield 23, 3) := by decide +kernel
theorem dX6_init_37 : decode cX6_init 37 = .ok (.aload_n 0, 1) := by decide +kernel
theorem dX6_init_38 : decode cX6_init 38 = .ok (.new 16, 3) := by decide +kernel
theorem dX6_init_41 : decode cX6_init 41 = .ok (.dup, 1) := by decide +kernel
theorem dX6_init_42 : decode cX6_init 42 = .ok (.invokespecial 18, 3) := by decide +kernel
theorem dX6_init_45 : decode cX6_init 45 = .ok (.putfield 26, 3) := by decide +kernel
theorem dX6_init_48 : decode cX6_init 48 = .ok (.aload_n 0, 1) := by decide +kernel
theorem dX6_init_49 : decode cX6_init 49 = .ok (.new 29, 3) := by decide +kernel
theorem dX6_init_52 : decode cX6_init 52 = .ok (.dup, 1) := by decide +kernel
theorem dX6_init_53 : decode cX6_init 53 = .ok (.invokespecial 31, 3) := by decide +kernel
theorem dX6_init_56 : decode cX6_init 56 = .ok (.putfield 32, 3) := by decide +kernel
theorem dX6_init_59 : decode cX6_init 59 = .ok (.aload_n 0, 1) := by decide +kernel
theorem dX6_init_60 : decode cX6_init 60 = .ok (.new 36, 3) := by decide +kernel
theorem dX6_init_63 : decode cX6_init 63 = .ok (.dup, 1) := by decide +kernel
theorem dX6_init_64 : decode cX6_init 64 = .ok (.invokespecial 38, 3) := by decide +kernel
theorem dX6_init_67 : decode cX6_init 67 = .ok (.putfield 39, 3) := by decide +kernel
theorem dX6_init_70 : decode cX6_init 70 = .ok (.aload_n 0, 1) := by decide +kernel
theorem dX6_init_71 : decode cX6_init 71 = .ok (.new 43, 3) := by decide +kernel
theorem dX6_init_74 : decode cX6_init 74 = .ok (.dup, 1) := by decide +kernel
theorem dX6_init_75 : decode cX6_init 75 = .ok (.invokespecial 45, 3) := by decide +kernel
theorem dX6_init_78 : decode cX6_init 78 = .ok (.putfield 46, 3) := by decide +kernel
theorem dX6_init_81 : decode cX6_init 81 = .ok (.aload_n 0, 1) := by decide +kernel
theorem dX6_init_82 : decode cX6_init 82 = .ok (.bipush 6, 2) := by decide +kernel
theorem dX6_init_84 : decode cX6_init 84 = .ok (.newarray .int, 2) := by decide +kernel
theorem dX6_init_86 : decode cX6_init 86 = .ok (.putfield 50, 3) := by decide +kernel
theorem dX6_init_89 : decode cX6_init 89 = .ok (.aload_n 0, 1) := by decide +kernel
theorem dX6_init_90 : decode cX6_init 90 = .ok (.iconst 4, 1) := by decide +kernel
theorem dX6_init_91 : decode cX6_init 91 = .ok (.anewarray 54, 3) := by decide +kernel
theorem dX6_init_94 : decode cX6_init 94 = .ok (.putfield 56, 3) := by decide +kernel
theorem dX6_init_97 : decode cX6_init 97 = .ok (.iconst 0, 1) := by decide +kernel
theorem dX6_init_98 : decode cX6_init 98 = .ok (.istore_n 1, 1) := by decide +kernel
theorem dX6_init_99 : decode cX6_init 99 = .ok (.iload_n 1, 1) := by decide +kernel
theorem dX6_init_100 : decode cX6_init 100 = .ok (.iconst 4, 1) := by decide +kernel
theorem dX6_init_101 : decode cX6_init 101 = .ok (.if_icmp .ge 22, 3) := by decide +kernel
theorem dX6_init_104 : decode cX6_init 104 = .ok (.aload_n 0, 1) := by decide +kernel
theorem dX6_init_105 : decode cX6_init 105 = .ok (.getfield 56, 3) := by decide +kernel
theorem dX6_init_108 : decode cX6_init 108 = .ok (.iload_n 1, 1) := by decide +kernel
theorem dX6_init_109 : decode cX6_init 109 = .ok (.new 54, 3) := by decide +kernel
theorem dX6_init_112 : decode cX6_init 112 = .ok (.dup, 1) := by decide +kernel
theorem dX6_init_113 : decode cX6_init 113 = .ok (.invokespecial 60, 3) := by decide +kernel
theorem dX6_init_116 : decode cX6_init 116 = .ok (.aastore, 1) := by decide +kernel
theorem dX6_init_117 : decode cX6_init 117 = .ok (.iinc 1 1, 3) := by decide +kernel
theorem dX6_init_120 : decode cX6_init 120 = .ok (.goto (-21), 3) := by decide +kernel
theorem dX6_init_123 : decode cX6_init 123 = .ok (.return_, 1) := by decide +kernel
theorem dX4_init_0 : decode cX4_init 0 = .ok (.aload_n 0, 1) := by decide +kernel
theorem dX4_init_1 : decode cX4_init 1 = .ok (.invokespecial 3, 3) := by decide +kernel
theorem dX4_init_4 : decode cX4_init 4 = .ok (.aload_n 0, 1) := by decide +kernel
theorem dX4_init_5 : decode cX4_init 5 = .ok (.bipush 40, 2) := by decide +kernel
theorem dX4_init_7 : decode cX4_init 7 = .ok (.newarray .int, 2) := by decide +kernel
theorem dX4_init_9 : decode cX4_init 9 = .ok (.putfield 9, 3) := by decide +kernel
theorem dX4_init_12 : decode cX4_init 12 = .ok (.return_, 1) := by decide +kernel
set_option maxRecDepth 100000 in
set_option maxHeartbeats 4000000 in
theorem k1_X4_init : MtQ 1 1 40 yX4_init cX4_init 1 none [.ref 1] hi_0 (Qn 2 hi_1) := by
  refine MtQ.of (by decide) (by decide) (fun X adr hr hn => ?_)
  refine AW.heq (h1 := [.inr (6, [.null, .null, .null, .null, .null, .null, .null, .null, .null, .int 0]), .inr (4, [.null, .int 0, .int 0, .int 0, .int 0])]) rfl ?_
  refine AW.leq (L1 := [(0, .ref 1)]) rfl ?_
  refine aw_aload_n 0 dX4_init_0 rfl rfl ?_
  refine aw_objInit dX4_init_1 moX4_3 (by decide) (by decide) ?_
  refine aw_aload_n 0 dX4_init_4 rfl rfl ?_
  refine aw_bipush (v := 40) dX4_init_5 (by decide) ?_
  refine aw_newa (kd := 0) (N := 40) (ty := .int) (a0 := (40, .inl (fun _ => 0))) dX4_init_7 wa_int rfl (Or.inl ⟨rfl, rfl⟩) (ha_int 40) (fun _ => rfl) (by decide) (by decide) (by decide) ⟨Nat.le_of_ble_eq_true rfl, Nat.le_of_ble_eq_true rfl⟩ (N0 := 2) (by decide +kernel) (by decide) (by decide +kernel) (by decide +kernel) (fun a1 A1 => ?_)
  refine AW.heq (h1 := [.inr (6, [.null, .null, .null, .null, .null, .null, .null, .null, .null, .int 0]), .inr (4, [.null, .int 0, .int 0, .int 0, .int 0]), .inl (0, (40, .inl (fun _ => 0)))]) rfl ?_
  refine AW.keq (k1 := 1) (n1 := 40) rfl rfl ?_
  refine aw_putF hn dX4_init_9 pnX4_9 (fun _ => ⟨rfl, rfl⟩) rfl ?_
  refine AW.heq (h1 := [.inr (6, [.null, .null, .null, .null, .null, .null, .null, .null, .null, .int 0]), .inr (4, [.ref 2, .int 0, .int 0, .int 0, .int 0]), .inl (0, (40, .inl (fun _ => 0)))]) rfl ?_
  refine AW.keq (k1 := 1) (n1 := 40) rfl rfl ?_
  exact aw_vret hr dX4_init_12 ⟨(Agr.tr (by decide) A1 Agr.rf), rfl, rfl⟩
theorem dX0_init_0 : decode cX0_init 0 = .ok (.aload_n 0, 1) := by decide +kernel
theorem dX0_init_1 : decode cX0_init 1 = .ok (.invokespecial 3, 3) := by decide +kernel
theorem dX0_init_4 : decode cX0_init 4 = .ok (.aload_n 0, 1) := by decide +kernel
theorem dX0_init_5 : decode cX0_init 5 = .ok (.bipush 6, 2) := by decide +kernel
theorem dX0_init_7 : decode cX0_init 7 = .ok (.newarray .int, 2) := by decide +kernel
theorem dX0_init_9 : decode cX0_init 9 = .ok (.putfield 9, 3) := by decide +kernel
theorem dX0_init_12 : decode cX0_init 12 = .ok (.aload_n 0, 1) := by decide +kernel
theorem dX0_init_13 : decode cX0_init 13 = .ok (.bipush 6, 2) := by decide +kernel
theorem dX0_init_15 : decode cX0_init 15 = .ok (.newarray .int, 2) := by decide +kernel
theorem dX0_init_17 : decode cX0_init 17 = .ok (.putfield 15, 3) := by decide +kernel
theorem dX0_init_20 : decode cX0_init 20 = .ok (.aload_n 0, 1) := by decide +kernel
theorem dX0_init_21 : decode cX0_init 21 = .ok (.bipush 36, 2) := by decide +kernel
theorem dX0_init_23 : decode cX0_init 23 = .ok (.newarray .int, 2) := by decide +kernel
theorem dX0_init_25 : decode cX0_init 25 = .ok (.putfield 18, 3) := by decide +kernel
theorem dX0_init_28 : decode cX0_init 28 = .ok (.aload_n 0, 1) := by decide +kernel
theorem dX0_init_29 : decode cX0_init 29 = .ok (.bipush 9, 2) := by decide +kernel
theorem dX0_init_31 : decode cX0_init 31 = .ok (.newarray .int, 2) := by decide +kernel
theorem dX0_init_33 : decode cX0_init 33 = .ok (.putfield 21, 3) := by decide +kernel
theorem dX0_init_36 : decode cX0_init 36 = .ok (.aload_n 0, 1) := by decide +kernel
theorem dX0_init_37 : decode cX0_init 37 = .ok (.bipush 9, 2) := by decide +kernel
theorem dX0_init_39 : decode cX0_init 39 = .ok (.newarray .int, 2) := by decide +kernel
theorem dX0_init_41 : decode cX0_init 41 = .ok (.putfield 24, 3) := by decide +kernel
theorem dX0_init_44 : decode cX0_init 44 = .ok (.aload_n 0, 1) := by decide +kernel
theorem dX0_init_45 : decode cX0_init 45 = .ok (.bipush 9, 2) := by decide +kernel
theorem dX0_init_47 : decode cX0_init 47 = .ok (.newarray .int, 2) := by decide +kernel
theorem dX0_init_49 : decode cX0_init 49 = .ok (.putfield 27, 3) := by decide +kernel
theorem dX0_init_52 : decode cX0_init 52 = .ok (.aload_n 0, 1) := by decide +kernel
theorem dX0_init_53 : decode cX0_init 53 = .ok (.bipush 9, 2) := by decide +kernel
theorem dX0_init_55 : decode cX0_init 55 = .ok (.newarray .int, 2) := by decide +kernel
theorem dX0_init_57 : decode cX0_init 57 = .ok (.putfield 30, 3) := by decide +kernel
theorem dX0_init_60 : decode cX0_init 60 = .ok (.return_, 1) := by decide +kernel
set_option maxRecDepth 100000 in
set_option maxHeartbeats 4000000 in
theorem k2_X0_init : MtQ 1 7 84 yX0_init cX0_init 1 none [.ref 3] hi_2 (Qn 4 hi_3) := by
  refine MtQ.of (by decide) (by decide) (fun X adr hr hn => ?_)
  refine AW.heq (h1 := [.inr (6, [.ref 1, .null, .null, .null, .null, .null, .null, .null, .null, .int 0]), .inr (4, [.ref 2, .int 0, .int 0, .int 0, .int 0]), .inl (0, (40, .inl (fun _ => 0))), .inr (0, [.int 0, .int 0, .int 0, .null, .null, .null, .null, .null, .null, .null])]) rfl ?_
  refine AW.leq (L1 := [(0, .ref 3)]) rfl ?_
  refine aw_aload_n 0 dX0_init_0 rfl rfl ?_
  refine aw_objInit dX0_init_1 moX0_3 (by decide) (by decide) ?_
  refine aw_aload_n 0 dX0_init_4 rfl rfl ?_
  refine aw_bipush (v := 6) dX0_init_5 (by decide) ?_
  refine aw_newa (kd := 0) (N := 6) (ty := .int) (a0 := (6, .inl (fun _ => 0))) dX0_init_7 wa_int rfl (Or.inl ⟨rfl, rfl⟩) (ha_int 6) (fun _ => rfl) (by decide) (by decide) (by decide) ⟨Nat.le_of_ble_eq_true rfl, Nat.le_of_ble_eq_true rfl⟩ (N0 := 4) (by decide +kernel) (by decide) (by decide +kernel) (by decide +kernel) (fun a1 A1 => ?_)
  refine AW.heq (h1 := [.inr (6, [.ref 1, .null, .null, .null, .null, .null, .null, .null, .null, .int 0]), .inr (4, [.ref 2, .int 0, .int 0, .int 0, .int 0]), .inl (0, (40, .inl (fun _ => 0))), .inr (0, [.int 0, .int 0, .int 0, .null, .null, .null, .null, .null, .null, .null]), .inl (0, (6, .inl (fun _ => 0)))]) rfl ?_
  refine AW.keq (k1 := 1) (n1 := 6) rfl rfl ?_
  refine aw_putF hn dX0_init_9 pnX0_9 (fun _ => ⟨rfl, rfl⟩) rfl ?_
  refine AW.heq (h1 := [.inr (6, [.ref 1, .null, .null, .null, .null, .null, .null, .null, .null, .int 0]), .inr (4, [.ref 2, .int 0, .int 0, .int 0, .int 0]), .inl (0, (40, .inl (fun _ => 0))), .inr (0, [.int 0, .int 0, .int 0, .ref 4, .null, .null, .null, .null, .null, .null]), .inl (0, (6, .inl (fun _ => 0)))]) rfl ?_
  refine AW.keq (k1 := 1) (n1 := 6) rfl rfl ?_
  refine aw_aload_n 0 dX0_init_12 rfl rfl ?_
  refine aw_bipush (v := 6) dX0_init_13 (by decide) ?_
  refine aw_newa (kd := 0) (N := 6) (ty := .int) (a0 := (6, .inl (fun _ => 0))) dX0_init_15 wa_int rfl (Or.inl ⟨rfl, rfl⟩) (ha_int 6) (fun _ => rfl) (by decide) (by decide) (by decide) ⟨Nat.le_of_ble_eq_true rfl, Nat.le_of_ble_eq_true rfl⟩ (N0 := 5) (by decide +kernel) (by decide) (by decide +kernel) (by decide +kernel) (fun a2 A2 => ?_)
  refine AW.heq (h1 := [.inr (6, [.ref 1, .null, .null, .null, .null, .null, .null, .null, .null, .int 0]), .inr (4, [.ref 2, .int 0, .int 0, .int 0, .int 0]), .inl (0, (40, .inl (fun _ => 0))), .inr (0, [.int 0, .int 0, .int 0, .ref 4, .null, .null, .null, .null, .null, .null]), .inl (0, (6, .inl (fun _ => 0))), .inl (0, (6, .inl (fun _ => 0)))]) rfl ?_
  refine AW.keq (k1 := 2) (n1 := 12) rfl rfl ?_
  refine aw_putF hn dX0_init_17 pnX0_15 (fun _ => ⟨rfl, rfl⟩) rfl ?_
  refine AW.heq (h1 := [.inr (6, [.ref 1, .null, .null, .null, .null, .null, .null, .null, .null, .int 0]), .inr (4, [.ref 2, .int 0, .int 0, .int 0, .int 0]), .inl (0, (40, .inl (fun _ => 0))), .inr (0, [.int 0, .int 0, .int 0, .ref 4, .ref 5, .null, .null, .null, .null, .null]), .inl (0, (6, .inl (fun _ => 0))), .inl (0, (6, .inl (fun _ => 0)))]) rfl ?_
  refine AW.keq (k1 := 2) (n1 := 12) rfl rfl ?_
  refine aw_aload_n 0 dX0_init_20 rfl rfl ?_
  refine aw_bipush (v := 36) dX0_init_21 (by decide) ?_
  refine aw_newa (kd := 0) (N := 36) (ty := .int) (a0 := (36, .inl (fun _ => 0))) dX0_init_23 wa_int rfl (Or.inl ⟨rfl, rfl⟩) (ha_int 36) (fun _ => rfl) (by decide) (by decide) (by decide) ⟨Nat.le_of_ble_eq_true rfl, Nat.le_of_ble_eq_true rfl⟩ (N0 := 6) (by decide +kernel) (by decide) (by decide +kernel) (by decide +kernel) (fun a3 A3 => ?_)
  refine AW.heq (h1 := [.inr (6, [.ref 1, .null, .null, .null, .null, .null, .null, .null, .null, .int 0]), .inr (4, [.ref 2, .int 0, .int 0, .int 0, .int 0]), .inl (0, (40, .inl (fun _ => 0))), .inr (0, [.int 0, .int 0, .int 0, .ref 4, .ref 5, .null, .null, .null, .null, .null]), .inl (0, (6, .inl (fun _ => 0))), .inl (0, (6, .inl (fun _ => 0))), .inl (0, (36, .inl (fun _ => 0)))]) rfl ?_
  refine AW.keq (k1 := 3) (n1 := 48) rfl rfl ?_
  refine aw_putF hn dX0_init_25 pnX0_18 (fun _ => ⟨rfl, rfl⟩) rfl ?_
  refine AW.heq (h1 := [.inr (6, [.ref 1, .null, .null, .null, .null, .null, .null, .null, .null, .int 0]), .inr (4, [.ref 2, .int 0, .int 0, .int 0, .int 0]), .inl (0, (40, .inl (fun _ => 0))), .inr (0, [.int 0, .int 0, .int 0, .ref 4, .ref 5, .ref 6, .null, .null, .null, .null]), .inl (0, (6, .inl (fun _ => 0))), .inl (0, (6, .inl (fun _ => 0))), .inl (0, (36, .inl (fun _ => 0)))]) rfl ?_
  refine AW.keq (k1 := 3) (n1 := 48) rfl rfl ?_
  refine aw_aload_n 0 dX0_init_28 rfl rfl ?_
  refine aw_bipush (v := 9) dX0_init_29 (by decide) ?_
  refine aw_newa (kd := 0) (N := 9) (ty := .int) (a0 := (9, .inl (fun _ => 0))) dX0_init_31 wa_int rfl (Or.inl ⟨rfl, rfl⟩) (ha_int 9) (fun _ => rfl) (by decide) (by decide) (by decide) ⟨Nat.le_of_ble_eq_true rfl, Nat.le_of_ble_eq_true rfl⟩ (N0 := 7) (by decide +kernel) (by decide) (by decide +kernel) (by decide +kernel) (fun a4 A4 => ?_)
  refine AW.heq (h1 := [.inr (6, [.ref 1, .null, .null, .null, .null, .null, .null, .null, .null, .int 0]), .inr (4, [.ref 2, .int 0, .int 0, .int 0, .int 0]), .inl (0, (40, .inl (fun _ => 0))), .inr (0, [.int 0, .int 0, .int 0, .ref 4, .ref 5, .ref 6, .null, .null, .null, .null]), .inl (0, (6, .inl (fun _ => 0))), .inl (0, (6, .inl (fun _ => 0))), .inl (0, (36, .inl (fun _ => 0))), .inl (0, (9, .inl (fun _ => 0)))]) rfl ?_
  refine AW.keq (k1 := 4) (n1 := 57) rfl rfl ?_
  refine aw_putF hn dX0_init_33 pnX0_21 (fun _ => ⟨rfl, rfl⟩) rfl ?_
  refine AW.heq (h1 := [.inr (6, [.ref 1, .null, .null, .null, .null, .null, .null, .null, .null, .int 0]), .inr (4, [.ref 2, .int 0, .int 0, .int 0, .int 0]), .inl (0, (40, .inl (fun _ => 0))), .inr (0, [.int 0, .int 0, .int 0, .ref 4, .ref 5, .ref 6, .ref 7, .null, .null, .null]), .inl (0, (6, .inl (fun _ => 0))), .inl (0, (6, .inl (fun _ => 0))), .inl (0, (36, .inl (fun _ => 0))), .inl (0, (9, .inl (fun _ => 0)))]) rfl ?_
  refine AW.keq (k1 := 4) (n1 := 57) rfl rfl ?_
  refine aw_aload_n 0 dX0_init_36 rfl rfl ?_
  refine aw_bipush (v := 9) dX0_init_37 (by decide) ?_
  refine aw_newa (kd := 0) (N := 9) (ty := .int) (a0 := (9, .inl (fun _ => 0))) dX0_init_39 wa_int rfl (Or.inl ⟨rfl, rfl⟩) (ha_int 9) (fun _ => rfl) (by decide) (by decide) (by decide) ⟨Nat.le_of_ble_eq_true rfl, Nat.le_of_ble_eq_true rfl⟩ (N0 := 8) (by decide +kernel) (by decide) (by decide +kernel) (by decide +kernel) (fun a5 A5 => ?_)
  refine AW.heq (h1 := [.inr (6, [.ref 1, .null, .null, .null, .null, .null, .null, .null, .null, .int 0]), .inr (4, [.ref 2, .int 0, .int 0, .int 0, .int 0]), .inl (0, (40, .inl (fun _ => 0))), .inr (0, [.int 0, .int 0, .int 0, .ref 4, .ref 5, .ref 6, .ref 7, .null, .null, .null]), .inl (0, (6, .inl (fun _ => 0))), .inl (0, (6, .inl (fun _ => 0))), .inl (0, (36, .inl (fun _ => 0))), .inl (0, (9, .inl (fun _ => 0))), .inl (0, (9, .inl (fun _ => 0)))]) rfl ?_
  refine AW.keq (k1 := 5) (n1 := 66) rfl rfl ?_
  refine aw_putF hn dX0_init_41 pnX0_24 (fun _ => ⟨rfl, rfl⟩) rfl ?_
  refine AW.heq (h1 := [.inr (6, [.ref 1, .null, .null, .null, .null, .null, .null, .null, .null, .int 0]), .inr (4, [.ref 2, .int 0, .int 0, .int 0, .int 0]), .inl (0, (40, .inl (fun _ => 0))), .inr (0, [.int 0, .int 0, .int 0, .ref 4, .ref 5, .ref 6, .ref 7, .ref 8, .null, .null]), .inl (0, (6, .inl (fun _ => 0))), .inl (0, (6, .inl (fun _ => 0))), .inl (0, (36, .inl (fun _ => 0))), .inl (0, (9, .inl (fun _ => 0))), .inl (0, (9, .inl (fun _ => 0)))]) rfl ?_
  refine AW.keq (k1 := 5) (n1 := 66) rfl rfl ?_
  refine aw_aload_n 0 dX0_init_44 rfl rfl ?_
  refine aw_bipush (v := 9) dX0_init_45 (by decide) ?_
  refine aw_newa (kd := 0) (N := 9) (ty := .int) (a0 := (9, .inl (fun _ => 0))) dX0_init_47 wa_int rfl (Or.inl ⟨rfl, rfl⟩) (ha_int 9) (fun _ => rfl) (by decide) (by decide) (by decide) ⟨Nat.le_of_ble_eq_true rfl, Nat.le_of_ble_eq_true rfl⟩ (N0 := 9) (by decide +kernel) (by decide) (by decide +kernel) (by decide +kernel) (fun a6 A6 => ?_)
  refine AW.heq (h1 := [.inr (6, [.ref 1, .null, .null, .null, .null, .null, .null, .null, .null, .int 0]), .inr (4, [.ref 2, .int 0, .int 0, .int 0, .int 0]), .inl (0, (40, .inl (fun _ => 0))), .inr (0, [.int 0, .int 0, .int 0, .ref 4, .ref 5, .ref 6, .ref 7, .ref 8, .null, .null]), .inl (0, (6, .inl (fun _ => 0))), .inl (0, (6, .inl (fun _ => 0))), .inl (0, (36, .inl (fun _ => 0))), .inl (0, (9, .inl (fun _ => 0))), .inl (0, (9, .inl (fun _ => 0))), .inl (0, (9, .inl (fun _ => 0)))]) rfl ?_
  refine AW.keq (k1 := 6) (n1 := 75) rfl rfl ?_
  refine aw_putF hn dX0_init_49 pnX0_27 (fun _ => ⟨rfl, rfl⟩) rfl ?_
  refine AW.heq (h1 := [.inr (6, [.ref 1, .null, .null, .null, .null, .null, .null, .null, .null, .int 0]), .inr (4, [.ref 2, .int 0, .int 0, .int 0, .int 0]), .inl (0, (40, .inl (fun _ => 0))), .inr (0, [.int 0, .int 0, .int 0, .ref 4, .ref 5, .ref 6, .ref 7, .ref 8, .ref 9, .null]), .inl (0, (6, .inl (fun _ => 0))), .inl (0, (6, .inl (fun _ => 0))), .inl (0, (36, .inl (fun _ => 0))), .inl (0, (9, .inl (fun _ => 0))), .inl (0, (9, .inl (fun _ => 0))), .inl (0, (9, .inl (fun _ => 0)))]) rfl ?_
  refine AW.keq (k1 := 6) (n1 := 75) rfl rfl ?_
  refine aw_aload_n 0 dX0_init_52 rfl rfl ?_
  refine aw_bipush (v := 9) dX0_init_53 (by decide) ?_
  refine aw_newa (kd := 0) (N := 9) (ty := .int) (a0 := (9, .inl (fun _ => 0))) dX0_init_55 wa_int rfl (Or.inl ⟨rfl, rfl⟩) (ha_int 9) (fun _ => rfl) (by decide) (by decide) (by decide) ⟨Nat.le_of_ble_eq_true rfl, Nat.le_of_ble_eq_true rfl⟩ (N0 := 10) (by decide +kernel) (by decide) (by decide +kernel) (by decide +kernel) (fun a7 A7 => ?_)
  refine AW.heq (h1 := [.inr (6, [.ref 1, .null, .null, .null, .null, .null, .null, .null, .null, .int 0]), .inr (4, [.ref 2, .int 0, .int 0, .int 0, .int 0]), .inl (0, (40, .inl (fun _ => 0))), .inr (0, [.int 0, .int 0, .int 0, .ref 4, .ref 5, .ref 6, .ref 7, .ref 8, .ref 9, .null]), .inl (0, (6, .inl (fun _ => 0))), .inl (0, (6, .inl (fun _ => 0))), .inl (0, (36, .inl (fun _ => 0))), .inl (0, (9, .inl (fun _ => 0))), .inl (0, (9, .inl (fun _ => 0))), .inl (0, (9, .inl (fun _ => 0))), .inl (0, (9, .inl (fun _ => 0)))]) rfl ?_
  refine AW.keq (k1 := 7) (n1 := 84) rfl rfl ?_
  refine aw_putF hn dX0_init_57 pnX0_30 (fun _ => ⟨rfl, rfl⟩) rfl ?_
  refine AW.heq (h1 := [.inr (6, [.ref 1, .null, .null, .null, .null, .null, .null, .null, .null, .int 0]), .inr (4, [.ref 2, .int 0, .int 0, .int 0, .int 0]), .inl (0, (40, .inl (fun _ => 0))), .inr (0, [.int 0, .int 0, .int 0, .ref 4, .ref 5, .ref 6, .ref 7, .ref 8, .ref 9, .ref 10]), .inl (0, (6, .inl (fun _ => 0))), .inl (0, (6, .inl (fun _ => 0))), .inl (0, (36, .inl (fun _ => 0))), .inl (0, (9, .inl (fun _ => 0))), .inl (0, (9, .inl (fun _ => 0))), .inl (0, (9, .inl (fun _ => 0))), .inl (0, (9, .inl (fun _ => 0)))]) rfl ?_
  refine AW.keq (k1 := 7) (n1 := 84) rfl rfl ?_
  exact aw_vret hr dX0_init_60 ⟨(Agr.tr (by decide) A7 (Agr.tr (by decide) A6 (Agr.tr (by decide) A5 (Agr.tr (by decide) A4 (Agr.tr (by decide) A3 (Agr.tr (by decide) A2 (Agr.tr (by decide) A1 Agr.rf))))))), rfl, rfl⟩
set_option maxRecDepth 100000 in
set_option maxHeartbeats 4000000 in
theorem k3_X0_init : MtQ 1 7 84 yX0_init cX0_init 1 none [.ref 11] hi_4 (Qn 12 hi_5) := by
  refine MtQ.of (by decide) (by decide) (fun X adr hr hn => ?_)
  refine AW.heq (h1 := [.inr (6, [.ref 1, .ref 3, .null, .null, .null, .null, .null, .null, .null, .int 0]), .inr (4, [.ref 2, .int 0, .int 0, .int 0, .int 0]), .inl (0, (40, .inl (fun _ => 0))), .inr (0, [.int 0, .int 0, .int 0, .ref 4, .ref 5, .ref 6, .ref 7, .ref 8, .ref 9, .ref 10]), .inl (0, (6, .inl (fun _ => 0))), .inl (0, (6, .inl (fun _ => 0))), .inl (0, (36, .inl (fun _ => 0))), .inl (0, (9, .inl (fun _ => 0))), .inl (0, (9, .inl (fun _ => 0))), .inl (0, (9, .inl (fun _ => 0))), .inl (0, (9, .inl (fun _ => 0))), .inr (0, [.int 0, .int 0, .int 0, .null, .null, .null, .null, .null, .null, .null])]) rfl ?_
  refine AW.leq (L1 := [(0, .ref 11)]) rfl ?_
  refine aw_aload_n 0 dX0_init_0 rfl rfl ?_
  refine aw_objInit dX0_init_1 moX0_3 (by decide) (by decide) ?_
  refine aw_aload_n 0 dX0_init_4 rfl rfl ?_
  refine aw_bipush (v := 6) dX0_init_5 (by decide) ?_
  refine aw_newa (kd := 0) (N := 6) (ty := .int) (a0 := (6, .inl (fun _ => 0))) dX0_init_7 wa_int rfl (Or.inl ⟨rfl, rfl⟩) (ha_int 6) (fun _ => rfl) (by decide) (by decide) (by decide) ⟨Nat.le_of_ble_eq_true rfl, Nat.le_of_ble_eq_true rfl⟩ (N0 := 12) (by decide +kernel) (by decide) (by decide +kernel) (by decide +kernel) (fun a1 A1 => ?_)
  refine AW.heq (h1 := [.inr (6, [.ref 1, .ref 3, .null, .null, .null, .null, .null, .null, .null, .int 0]), .inr (4, [.ref 2, .int 0, .int 0, .int 0, .int 0]), .inl (0, (40, .inl (fun _ => 0))), .inr (0, [.int 0, .int 0, .int 0, .ref 4, .ref 5, .ref 6, .ref 7, .ref 8, .ref 9, .ref 10]), .inl (0, (6, .inl (fun _ => 0))), .inl (0, (6, .inl (fun _ => 0))), .inl (0, (36, .inl (fun _ => 0))), .inl (0, (9, .inl (fun _ => 0))), .inl (0, (9, .inl (fun _ => 0))), .inl (0, (9, .inl (fun _ => 0))), .inl (0, (9, .inl (fun _ => 0))), .inr (0, [.int 0, .int 0, .int 0, .null, .null, .null, .null, .null, .null, .null]), .inl (0, (6, .inl (fun _ => 0)))]) rfl ?_
  refine AW.keq (k1 := 1) (n1 := 6) rfl rfl ?_
  refine aw_putF hn dX0_init_9 pnX0_9 (fun _ => ⟨rfl, rfl⟩) rfl ?_
  refine AW.heq (h1 := [.inr (6, [.ref 1, .ref 3, .null, .null, .null, .null, .null, .null, .null, .int 0]), .inr (4, [.ref 2, .int 0, .int 0, .int 0, .int 0]), .inl (0, (40, .inl (fun _ => 0))), .inr (0, [.int 0, .int 0, .int 0, .ref 4, .ref 5, .ref 6, .ref 7, .ref 8, .ref 9, .ref 10]), .inl (0, (6, .inl (fun _ => 0))), .inl (0, (6, .inl (fun _ => 0))), .inl (0, (36, .inl (fun _ => 0))), .inl (0, (9, .inl (fun _ => 0))), .inl (0, (9, .inl (fun _ => 0))), .inl (0, (9, .inl (fun _ => 0))), .inl (0, (9, .inl (fun _ => 0))), .inr (0, [.int 0, .int 0, .int 0, .ref 12, .null, .null, .null, .null, .null, .null]), .inl (0, (6, .inl (fun _ => 0)))]) rfl ?_
  refine AW.keq (k1 := 1) (n1 := 6) rfl rfl ?_
  refine aw_aload_n 0 dX0_init_12 rfl rfl ?_
  refine aw_bipush (v := 6) dX0_init_13 (by decide) ?_
  refine aw_newa (kd := 0) (N := 6) (ty := .int) (a0 := (6, .inl (fun _ => 0))) dX0_init_15 wa_int rfl (Or.inl ⟨rfl, rfl⟩) (ha_int 6) (fun _ => rfl) (by decide) (by decide) (by decide) ⟨Nat.le_of_ble_eq_true rfl, Nat.le_of_ble_eq_true rfl⟩ (N0 := 13) (by decide +kernel) (by decide) (by decide +kernel) (by decide +kernel) (fun a2 A2 => ?_)
  refine AW.heq (h1 := [.inr (6, [.ref 1, .ref 3, .null, .null, .null, .null, .null, .null, .null, .int 0]), .inr (4, [.ref 2, .int 0, .int 0, .int 0, .int 0]), .inl (0, (40, .inl (fun _ => 0))), .inr (0, [.int 0, .int 0, .int 0, .ref 4, .ref 5, .ref 6, .ref 7, .ref 8, .ref 9, .ref 10]), .inl (0, (6, .inl (fun _ => 0))), .inl (0, (6, .inl (fun _ => 0))), .inl (0, (36, .inl (fun _ => 0))), .inl (0, (9, .inl (fun _ => 0))), .inl (0, (9, .inl (fun _ => 0))), .inl (0, (9, .inl (fun _ => 0))), .inl (0, (9, .inl (fun _ => 0))), .inr (0, [.int 0, .int 0, .int 0, .ref 12, .null, .null, .null, .null, .null, .null]), .inl (0, (6, .inl (fun _ => 0))), .inl (0, (6, .inl (fun _ => 0)))]) rfl ?_
  refine AW.keq (k1 := 2) (n1 := 12) rfl rfl ?_
  refine aw_putF hn dX0_init_17 pnX0_15 (fun _ => ⟨rfl, rfl⟩) rfl ?_
  refine AW.heq (h1 := [.inr (6, [.ref 1, .ref 3, .null, .null, .null, .null, .null, .null, .null, .int 0]), .inr (4, [.ref 2, .int 0, .int 0, .int 0, .int 0]), .inl (0, (40, .inl (fun _ => 0))), .inr (0, [.int 0, .int 0, .int 0, .ref 4, .ref 5, .ref 6, .ref 7, .ref 8, .ref 9, .ref 10]), .inl (0, (6, .inl (fun _ => 0))), .inl (0, (6, .inl (fun _ => 0))), .inl (0, (36, .inl (fun _ => 0))), .inl (0, (9, .inl (fun _ => 0))), .inl (0, (9, .inl (fun _ => 0))), .inl (0, (9, .inl (fun _ => 0))), .inl (0, (9, .inl (fun _ => 0))), .inr (0, [.int 0, .int 0, .int 0, .ref 12, .ref 13, .null, .null, .null, .null, .null]), .inl (0, (6, .inl (fun _ => 0))), .inl (0, (6, .inl (fun _ => 0)))]) rfl ?_
  refine AW.keq (k1 := 2) (n1 := 12) rfl rfl ?_
  refine aw_aload_n 0 dX0_init_20 rfl rfl ?_
  refine aw_bipush (v := 36) dX0_init_21 (by decide) ?_
  refine aw_newa (kd := 0) (N := 36) (ty := .int) (a0 := (36, .inl (fun _ => 0))) dX0_init_23 wa_int rfl (Or.inl ⟨rfl, rfl⟩) (ha_int 36) (fun _ => rfl) (by decide) (by decide) (by decide) ⟨Nat.le_of_ble_eq_true rfl, Nat.le_of_ble_eq_true rfl⟩ (N0 := 14) (by decide +kernel) (by decide) (by decide +kernel) (by decide +kernel) (fun a3 A3 => ?_)
  refine AW.heq (h1 := [.inr (6, [.ref 1, .ref 3, .null, .null, .null, .null, .null, .null, .null, .int 0]), .inr (4, [.ref 2, .int 0, .int 0, .int 0, .int 0]), .inl (0, (40, .inl (fun _ => 0))), .inr (0, [.int 0, .int 0, .int 0, .ref 4, .ref 5, .ref 6, .ref 7, .ref 8, .ref 9, .ref 10]), .inl (0, (6, .inl (fun _ => 0))), .inl (0, (6, .inl (fun _ => 0))), .inl (0, (36, .inl (fun _ => 0))), .inl (0, (9, .inl (fun _ => 0))), .inl (0, (9, .inl (fun _ => 0))), .inl (0, (9, .inl (fun _ => 0))), .inl (0, (9, .inl (fun _ => 0))), .inr (0, [.int 0, .int 0, .int 0, .ref 12, .ref 13, .null, .null, .null, .null, .null]), .inl (0, (6, .inl (fun _ => 0))), .inl (0, (6, .inl (fun _ => 0))), .inl (0, (36, .inl (fun _ => 0)))]) rfl ?_
  refine AW.keq (k1 := 3) (n1 := 48) rfl rfl ?_
  refine aw_putF hn dX0_init_25 pnX0_18 (fun _ => ⟨rfl, rfl⟩) rfl ?_
  refine AW.heq (h1 := [.inr (6, [.ref 1, .ref 3, .null, .null, .null, .null, .null, .null, .null, .int 0]), .inr (4, [.ref 2, .int 0, .int 0, .int 0, .int 0]), .inl (0, (40, .inl (fun _ => 0))), .inr (0, [.int 0, .int 0, .int 0, .ref 4, .ref 5, .ref 6, .ref 7, .ref 8, .ref 9, .ref 10]), .inl (0, (6, .inl (fun _ => 0))), .inl (0, (6, .inl (fun _ => 0))), .inl (0, (36, .inl (fun _ => 0))), .inl (0, (9, .inl (fun _ => 0))), .inl (0, (9, .inl (fun _ => 0))), .inl (0, (9, .inl (fun _ => 0))), .inl (0, (9, .inl (fun _ => 0))), .inr (0, [.int 0, .int 0, .int 0, .ref 12, .ref 13, .ref 14, .null, .null, .null, .null]), .inl (0, (6, .inl (fun _ => 0))), .inl (0, (6, .inl (fun _ => 0))), .inl (0, (36, .inl (fun _ => 0)))]) rfl ?_
  refine AW.keq (k1 := 3) (n1 := 48) rfl rfl ?_
  refine aw_aload_n 0 dX0_init_28 rfl rfl ?_
  refine aw_bipush (v := 9) dX0_init_29 (by decide) ?_
  refine aw_newa (kd := 0) (N := 9) (ty := .int) (a0 := (9, .inl (fun _ => 0))) dX0_init_31 wa_int rfl (Or.inl ⟨rfl, rfl⟩) (ha_int 9) (fun _ => rfl) (by decide) (by decide) (by decide) ⟨Nat.le_of_ble_eq_true rfl, Nat.le_of_ble_eq_true rfl⟩ (N0 := 15) (by decide +kernel) (by decide) (by decide +kernel) (by decide +kernel) (fun a4 A4 => ?_)
  refine AW.heq (h1 := [.inr (6, [.ref 1, .ref 3, .null, .null, .null, .null, .null, .null, .null, .int 0]), .inr (4, [.ref 2, .int 0, .int 0, .int 0, .int 0]), .inl (0, (40, .inl (fun _ => 0))), .inr (0, [.int 0, .int 0, .int 0, .ref 4, .ref 5, .ref 6, .ref 7, .ref 8, .ref 9, .ref 10]), .inl (0, (6, .inl (fun _ => 0))), .inl (0, (6, .inl (fun _ => 0))), .inl (0, (36, .inl (fun _ => 0))), .inl (0, (9, .inl (fun _ => 0))), .inl (0, (9, .inl (fun _ => 0))), .inl (0, (9, .inl (fun _ => 0))), .inl (0, (9, .inl (fun _ => 0))), .inr (0, [.int 0, .int 0, .int 0, .ref 12, .ref 13, .ref 14, .null, .null, .null, .null]), .inl (0, (6, .inl (fun _ => 0))), .inl (0, (6, .inl (fun _ => 0))), .inl (0, (36, .inl (fun _ => 0))), .inl (0, (9, .inl (fun _ => 0)))]) rfl ?_
  refine AW.keq (k1 := 4) (n1 := 57) rfl rfl ?_
  refine aw_putF hn dX0_init_33 pnX0_21 (fun _ => ⟨rfl, rfl⟩) rfl ?_
  refine AW.heq (h1 := [.inr (6, [.ref 1, .ref 3, .null, .null, .null, .null, .null, .null, .null, .int 0]), .inr (4, [.ref 2, .int 0, .int 0, .int 0, .int 0]), .inl (0, (40, .inl (fun _ => 0))), .inr (0, [.int 0, .int 0, .int 0, .ref 4, .ref 5, .ref 6, .ref 7, .ref 8, .ref 9, .ref 10]), .inl (0, (6, .inl (fun _ => 0))), .inl (0, (6, .inl (fun _ => 0))), .inl (0, (36, .inl (fun _ => 0))), .inl (0, (9, .inl (fun _ => 0))), .inl (0, (9, .inl (fun _ => 0))), .inl (0, (9, .inl (fun _ => 0))), .inl (0, (9, .inl (fun _ => 0))), .inr (0, [.int 0, .int 0, .int 0, .ref 12, .ref 13, .ref 14, .ref 15, .null, .null, .null]), .inl (0, (6, .inl (fun _ => 0))), .inl (0, (6, .inl (fun _ => 0))), .inl (0, (36, .inl (fun _ => 0))), .inl (0, (9, .inl (fun _ => 0)))]) rfl ?_
  refine AW.keq (k1 := 4) (n1 := 57) rfl rfl ?_
  refine aw_aload_n 0 dX0_init_36 rfl rfl ?_
  refine aw_bipush (v := 9) dX0_init_37 (by decide) ?_
  refine aw_newa (kd := 0) (N := 9) (ty := .int) (a0 := (9, .inl (fun _ => 0))) dX0_init_39 wa_int rfl (Or.inl ⟨rfl, rfl⟩) (ha_int 9) (fun _ => rfl) (by decide) (by decide) (by decide) ⟨Nat.le_of_ble_eq_true rfl, Nat.le_of_ble_eq_true rfl⟩ (N0 := 16) (by decide +kernel) (by decide) (by decide +kernel) (by decide +kernel) (fun a5 A5 => ?_)
  refine AW.heq (h1 := [.inr (6, [.ref 1, .ref 3, .null, .null, .null, .null, .null, .null, .null, .int 0]), .inr (4, [.ref 2, .int 0, .int 0, .int 0, .int 0]), .inl (0, (40, .inl (fun _ => 0))), .inr (0, [.int 0, .int 0, .int 0, .ref 4, .ref 5, .ref 6, .ref 7, .ref 8, .ref 9, .ref 10]), .inl (0, (6, .inl (fun _ => 0))), .inl (0, (6, .inl (fun _ => 0))), .inl (0, (36, .inl (fun _ => 0))), .inl (0, (9, .inl (fun _ => 0))), .inl (0, (9, .inl (fun _ => 0))), .inl (0, (9, .inl (fun _ => 0))), .inl (0, (9, .inl (fun _ => 0))), .inr (0, [.int 0, .int 0, .int 0, .ref 12, .ref 13, .ref 14, .ref 15, .null, .null, .null]), .inl (0, (6, .inl (fun _ => 0))), .inl (0, (6, .inl (fun _ => 0))), .inl (0, (36, .inl (fun _ => 0))), .inl (0, (9, .inl (fun _ => 0))), .inl (0, (9, .inl (fun _ => 0)))]) rfl ?_
  refine AW.keq (k1 := 5) (n1 := 66) rfl rfl ?_
  refine aw_putF hn dX0_init_41 pnX0_24 (fun _ => ⟨rfl, rfl⟩) rfl ?_
  refine AW.heq (h1 := [.inr (6, [.ref 1, .ref 3, .null, .null, .null, .null, .null, .null, .null, .int 0]), .inr (4, [.ref 2, .int 0, .int 0, .int 0, .int 0]), .inl (0, (40, .inl (fun _ => 0))), .inr (0, [.int 0, .int 0, .int 0, .ref 4, .ref 5, .ref 6, .ref 7, .ref 8, .ref 9, .ref 10]), .inl (0, (6, .inl (fun _ => 0))), .inl (0, (6, .inl (fun _ => 0))), .inl (0, (36, .inl (fun _ => 0))), .inl (0, (9, .inl (fun _ => 0))), .inl (0, (9, .inl (fun _ => 0))), .inl (0, (9, .inl (fun _ => 0))), .inl (0, (9, .inl (fun _ => 0))), .inr (0, [.int 0, .int 0, .int 0, .ref 12, .ref 13, .ref 14, .ref 15, .ref 16, .null, .null]), .inl (0, (6, .inl (fun _ => 0))), .inl (0, (6, .inl (fun _ => 0))), .inl (0, (36, .inl (fun _ => 0))), .inl (0, (9, .inl (fun _ => 0))), .inl (0, (9, .inl (fun _ => 0)))]) rfl ?_
  refine AW.keq (k1 := 5) (n1 := 66) rfl rfl ?_
  refine aw_aload_n 0 dX0_init_44 rfl rfl ?_
  refine aw_bipush (v := 9) dX0_init_45 (by decide) ?_
  refine aw_newa (kd := 0) (N := 9) (ty := .int) (a0 := (9, .inl (fun _ => 0))) dX0_init_47 wa_int rfl (Or.inl ⟨rfl, rfl⟩) (ha_int 9) (fun _ => rfl) (by decide) (by decide) (by decide) ⟨Nat.le_of_ble_eq_true rfl, Nat.le_of_ble_eq_true rfl⟩ (N0 := 17) (by decide +kernel) (by decide) (by decide +kernel) (by decide +kernel) (fun a6 A6 => ?_)
  refine AW.heq (h1 := [.inr (6, [.ref 1, .ref 3, .null, .null, .null, .null, .null, .null, .null, .int 0]), .inr (4, [.ref 2, .int 0, .int 0, .int 0, .int 0]), .inl (0, (40, .inl (fun _ => 0))), .inr (0, [.int 0, .int 0, .int 0, .ref 4, .ref 5, .ref 6, .ref 7, .ref 8, .ref 9, .ref 10]), .inl (0, (6, .inl (fun _ => 0))), .inl (0, (6, .inl (fun _ => 0))), .inl (0, (36, .inl (fun _ => 0))), .inl (0, (9, .inl (fun _ => 0))), .inl (0, (9, .inl (fun _ => 0))), .inl (0, (9, .inl (fun _ => 0))), .inl (0, (9, .inl (fun _ => 0))), .inr (0, [.int 0, .int 0, .int 0, .ref 12, .ref 13, .ref 14, .ref 15, .ref 16, .null, .null]), .inl (0, (6, .inl (fun _ => 0))), .inl (0, (6, .inl (fun _ => 0))), .inl (0, (36, .inl (fun _ => 0))), .inl (0, (9, .inl (fun _ => 0))), .inl (0, (9, .inl (fun _ => 0))), .inl (0, (9, .inl (fun _ => 0)))]) rfl ?_
  refine AW.keq (k1 := 6) (n1 := 75) rfl rfl ?_
  refine aw_putF hn dX0_init_49 pnX0_27 (fun _ => ⟨rfl, rfl⟩) rfl ?_
  refine AW.heq (h1 := [.inr (6, [.ref 1, .ref 3, .null, .null, .null, .null, .null, .null, .null, .int 0]), .inr (4, [.ref 2, .int 0, .int 0, .int 0, .int 0]), .inl (0, (40, .inl (fun _ => 0))), .inr (0, [.int 0, .int 0, .int 0, .ref 4, .ref 5, .ref 6, .ref 7, .ref 8, .ref 9, .ref 10]), .inl (0, (6, .inl (fun _ => 0))), .inl (0, (6, .inl (fun _ => 0))), .inl (0, (36, .inl (fun _ => 0))), .inl (0, (9, .inl (fun _ => 0))), .inl (0, (9, .inl (fun _ => 0))), .inl (0, (9, .inl (fun _ => 0))), .inl (0, (9, .inl (fun _ => 0))), .inr (0, [.int 0, .int 0, .int 0, .ref 12, .ref 13, .ref 14, .ref 15, .ref 16, .ref 17, .null]), .inl (0, (6, .inl (fun _ => 0))), .inl (0, (6, .inl (fun _ => 0))), .inl (0, (36, .inl (fun _ => 0))), .inl (0, (9, .inl (fun _ => 0))), .inl (0, (9, .inl (fun _ => 0))), .inl (0, (9, .inl (fun _ => 0)))]) rfl ?_
  refine AW.keq (k1 := 6) (n1 := 75) rfl rfl ?_
  refine aw_aload_n 0 dX0_init_52 rfl rfl ?_
  refine aw_bipush (v := 9) dX0_init_53 (by decide) ?_
  refine aw_newa (kd := 0) (N := 9) (ty := .int) (a0 := (9, .inl (fun _ => 0))) dX0_init_55 wa_int rfl (Or.inl ⟨rfl, rfl⟩) (ha_int 9) (fun _ => rfl) (by decide) (by decide) (by decide) ⟨Nat.le_of_ble_eq_true rfl, Nat.le_of_ble_eq_true rfl⟩ (N0 := 18) (by decide +kernel) (by decide) (by decide +kernel) (by decide +kernel) (fun a7 A7 => ?_)
  refine AW.heq (h1 := [.inr (6, [.ref 1, .ref 3, .null, .null, .null, .null, .null, .null, .null, .int 0]), .inr (4, [.ref 2, .int 0, .int 0, .int 0, .int 0]), .inl (0, (40, .inl (fun _ => 0))), .inr (0, [.int 0, .int 0, .int 0, .ref 4, .ref 5, .ref 6, .ref 7, .ref 8, .ref 9, .ref 10]), .inl (0, (6, .inl (fun _ => 0))), .inl (0, (6, .inl (fun _ => 0))), .inl (0, (36, .inl (fun _ => 0))), .inl (0, (9, .inl (fun _ => 0))), .inl (0, (9, .inl (fun _ => 0))), .inl (0, (9, .inl (fun _ => 0))), .inl (0, (9, .inl (fun _ => 0))), .inr (0, [.int 0, .int 0, .int 0, .ref 12, .ref 13, .ref 14, .ref 15, .ref 16, .ref 17, .null]), .inl (0, (6, .inl (fun _ => 0))), .inl (0, (6, .inl (fun _ => 0))), .inl (0, (36, .inl (fun _ => 0))), .inl (0, (9, .inl (fun _ => 0))), .inl (0, (9, .inl (fun _ => 0))), .inl (0, (9, .inl (fun _ => 0))), .inl (0, (9, .inl (fun _ => 0)))]) rfl ?_
  refine AW.keq (k1 := 7) (n1 := 84) rfl rfl ?_
  refine aw_putF hn dX0_init_57 pnX0_30 (fun _ => ⟨rfl, rfl⟩) rfl ?_
  refine AW.heq (h1 := [.inr (6, [.ref 1, .ref 3, .null, .null, .null, .null, .null, .null, .null, .int 0]), .inr (4, [.ref 2, .int 0, .int 0, .int 0, .int 0]), .inl (0, (40, .inl (fun _ => 0))), .inr (0, [.int 0, .int 0, .int 0, .ref 4, .ref 5, .ref 6, .ref 7, .ref 8, .ref 9, .ref 10]), .inl (0, (6, .inl (fun _ => 0))), .inl (0, (6, .inl (fun _ => 0))), .inl (0, (36, .inl (fun _ => 0))), .inl (0, (9, .inl (fun _ => 0))), .inl (0, (9, .inl (fun _ => 0))), .inl (0, (9, .inl (fun _ => 0))), .inl (0, (9, .inl (fun _ => 0))), .inr (0, [.int 0, .int 0, .int 0, .ref 12, .ref 13, .ref 14, .ref 15, .ref 16, .ref 17, .ref 18]), .inl (0, (6, .inl (fun _ => 0))), .inl (0, (6, .inl (fun _ => 0))), .inl (0, (36, .inl (fun _ => 0))), .inl (0, (9, .inl (fun _ => 0))), .inl (0, (9, .inl (fun _ => 0))), .inl (0, (9, .inl (fun _ => 0))), .inl (0, (9, .inl (fun _ => 0)))]) rfl ?_
  refine AW.keq (k1 := 7) (n1 := 84) rfl rfl ?_
  exact aw_vret hr dX0_init_60 ⟨(Agr.tr (by decide) A7 (Agr.tr (by decide) A6 (Agr.tr (by decide) A5 (Agr.tr (by decide) A4 (Agr.tr (by decide) A3 (Agr.tr (by decide) A2 (Agr.tr (by decide) A1 Agr.rf))))))), rfl, rfl⟩
set_option maxRecDepth 100000 in
set_option maxHeartbeats 4000000 in
theorem k4_X0_init : MtQ 1 7 84 yX0_init cX0_init 1 none [.ref 19] hi_6 (Qn 20 hi_7) := by
  refine MtQ.of (by decide) (by decide) (fun X adr hr hn => ?_)
  refine AW.heq (h1 := [.inr (6, [.ref 1, .ref 3, .ref 11, .null, .null, .null, .null, .null, .null, .int 0]), .inr (4, [.ref 2, .int 0, .int 0, .int 0, .int 0]), .inl (0, (40, .inl (fun _ => 0))), .inr (0, [.int 0, .int 0, .int 0, .ref 4, .ref 5, .ref 6, .ref 7, .ref 8, .ref 9, .ref 10]), .inl (0, (6, .inl (fun _ => 0))), .inl (0, (6, .inl (fun _ => 0))), .inl (0, (36, .inl (fun _ => 0))), .inl (0, (9, .inl (fun _ => 0))), .inl (0, (9, .inl (fun _ => 0))), .inl (0, (9, .inl (fun _ => 0))), .inl (0, (9, .inl (fun _ => 0))), .inr (0, [.int 0, .int 0, .int 0, .ref 12, .ref 13, .ref 14, .ref 15, .ref 16, .ref 17, .ref 18]), .inl (0, (6, .inl (fun _ => 0))), .inl (0, (6, .inl (fun _ => 0))), .inl (0, (36, .inl (fun _ => 0))), .inl (0, (9, .inl (fun _ => 0))), .inl (0, (9, .inl (fun _ => 0))), .inl (0, (9, .inl (fun _ => 0))), .inl (0, (9, .inl (fun _ => 0))), .inr (0, [.int 0, .int 0, .int 0, .null, .null, .null, .null, .null, .null, .null])]) rfl ?_
  refine AW.leq (L1 := [(0, .ref 19)]) rfl ?_
  refine aw_aload_n 0 dX0_init_0 rfl rfl ?_
  refine aw_objInit dX0_init_1 moX0_3 (by decide) (by decide) ?_
  refine aw_aload_n 0 dX0_init_4 rfl rfl ?_
  refine aw_bipush (v := 6) dX0_init_5 (by decide) ?_
  refine aw_newa (kd := 0) (N := 6) (ty := .int) (a0 := (6, .inl (fun _ => 0))) dX0_init_7 wa_int rfl (Or.inl ⟨rfl, rfl⟩) (ha_int 6) (fun _ => rfl) (by decide) (by decide) (by decide) ⟨Nat.le_of_ble_eq_true rfl, Nat.le_of_ble_eq_true rfl⟩ (N0 := 20) (by decide +kernel) (by decide) (by decide +kernel) (by decide +kernel) (fun a1 A1 => ?_)
  refine AW.heq (h1 := [.inr (6, [.ref 1, .ref 3, .ref 11, .null, .null, .null, .null, .null, .null, .int 0]), .inr (4, [.ref 2, .int 0, .int 0, .int 0, .int 0]), .inl (0, (40, .inl (fun _ => 0))), .inr (0, [.int 0, .int 0, .int 0, .ref 4, .ref 5, .ref 6, .ref 7, .ref 8, .ref 9, .ref 10]), .inl (0, (6, .inl (fun _ => 0))), .inl (0, (6, .inl (fun _ => 0))), .inl (0, (36, .inl (fun _ => 0))), .inl (0, (9, .inl (fun _ => 0))), .inl (0, (9, .inl (fun _ => 0))), .inl (0, (9, .inl (fun _ => 0))), .inl (0, (9, .inl (fun _ => 0))), .inr (0, [.int 0, .int 0, .int 0, .ref 12, .ref 13, .ref 14, .ref 15, .ref 16, .ref 17, .ref 18]), .inl (0, (6, .inl (fun _ => 0))), .inl (0, (6, .inl (fun _ => 0))), .inl (0, (36, .inl (fun _ => 0))), .inl (0, (9, .inl (fun _ => 0))), .inl (0, (9, .inl (fun _ => 0))), .inl (0, (9, .inl (fun _ => 0))), .inl (0, (9, .inl (fun _ => 0))), .inr (0, [.int 0, .int 0, .int 0, .null, .null, .null, .null, .null, .null, .null]), .inl (0, (6, .inl (fun _ => 0)))]) rfl ?_
  refine AW.keq (k1 := 1) (n1 := 6) rfl rfl ?_
  refine aw_putF hn dX0_init_9 pnX0_9 (fun _ => ⟨rfl, rfl⟩) rfl ?_
  refine AW.heq (h1 := [.inr (6, [.ref 1, .ref 3, .ref 11, .null, .null, .null, .null, .null, .null, .int 0]), .inr (4, [.ref 2, .int 0, .int 0, .int 0, .int 0]), .inl (0, (40, .inl (fun _ => 0))), .inr (0, [.int 0, .int 0, .int 0, .ref 4, .ref 5, .ref 6, .ref 7, .ref 8, .ref 9, .ref 10]), .inl (0, (6, .inl (fun _ => 0))), .inl (0, (6, .inl (fun _ => 0))), .inl (0, (36, .inl (fun _ => 0))), .inl (0, (9, .inl (fun _ => 0))), .inl (0, (9, .inl (fun _ => 0))), .inl (0, (9, .inl (fun _ => 0))), .inl (0, (9, .inl (fun _ => 0))), .inr (0, [.int 0, .int 0, .int 0, .ref 12, .ref 13, .ref 14, .ref 15, .ref 16, .ref 17, .ref 18]), .inl (0, (6, .inl (fun _ => 0))), .inl (0, (6, .inl (fun _ => 0))), .inl (0, (36, .inl (fun _ => 0))), .inl (0, (9, .inl (fun _ => 0))), .inl (0, (9, .inl (fun _ => 0))), .inl (0, (9, .inl (fun _ => 0))), .inl (0, (9, .inl (fun _ => 0))), .inr (0, [.int 0, .int 0, .int 0, .ref 20, .null, .null, .null, .null, .null, .null]), .inl (0, (6, .inl (fun _ => 0)))]) rfl ?_
  refine AW.keq (k1 := 1) (n1 := 6) rfl rfl ?_
  refine aw_aload_n 0 dX0_init_12 rfl rfl ?_
  refine aw_bipush (v := 6) dX0_init_13 (by decide) ?_
  refine aw_newa (kd := 0) (N := 6) (ty := .int) (a0 := (6, .inl (fun _ => 0))) dX0_init_15 wa_int rfl (Or.inl ⟨rfl, rfl⟩) (ha_int 6) (fun _ => rfl) (by decide) (by decide) (by decide) ⟨Nat.le_of_ble_eq_true rfl, Nat.le_of_ble_eq_true rfl⟩ (N0 := 21) (by decide +kernel) (by decide) (by decide +kernel) (by decide +kernel) (fun a2 A2 => ?_)
  refine AW.heq (h1 := [.inr (6, [.ref 1, .ref 3, .ref 11, .null, .null, .null, .null, .null, .null, .int 0]), .inr (4, [.ref 2, .int 0, .int 0, .int 0, .int 0]), .inl (0, (40, .inl (fun _ => 0))), .inr (0, [.int 0, .int 0, .int 0, .ref 4, .ref 5, .ref 6, .ref 7, .ref 8, .ref 9, .ref 10]), .inl (0, (6, .inl (fun _ => 0))), .inl (0, (6, .inl (fun _ => 0))), .inl (0, (36, .inl (fun _ => 0))), .inl (0, (9, .inl (fun _ => 0))), .inl (0, (9, .inl (fun _ => 0))), .inl (0, (9, .inl (fun _ => 0))), .inl (0, (9, .inl (fun _ => 0))), .inr (0, [.int 0, .int 0, .int 0, .ref 12, .ref 13, .ref 14, .ref 15, .ref 16, .ref 17, .ref 18]), .inl (0, (6, .inl (fun _ => 0))), .inl (0, (6, .inl (fun _ => 0))), .inl (0, (36, .inl (fun _ => 0))), .inl (0, (9, .inl (fun _ => 0))), .inl (0, (9, .inl (fun _ => 0))), .inl (0, (9, .inl (fun _ => 0))), .inl (0, (9, .inl (fun _ => 0))), .inr (0, [.int 0, .int 0, .int 0, .ref 20, .null, .null, .null, .null, .null, .null]), .inl (0, (6, .inl (fun _ => 0))), .inl (0, (6, .inl (fun _ => 0)))]) rfl ?_
  refine AW.keq (k1 := 2) (n1 := 12) rfl rfl ?_
  refine aw_putF hn dX0_init_17 pnX0_15 (fun _ => ⟨rfl, rfl⟩) rfl ?_
  refine AW.heq (h1 := [.inr (6, [.ref 1, .ref 3, .ref 11, .null, .null, .null, .null, .null, .null, .int 0]), .inr (4, [.ref 2, .int 0, .int 0, .int 0, .int 0]), .inl (0, (40, .inl (fun _ => 0))), .inr (0, [.int 0, .int 0, .int 0, .ref 4, .ref 5, .ref 6, .ref 7, .ref 8, .ref 9, .ref 10]), .inl (0, (6, .inl (fun _ => 0))), .inl (0, (6, .inl (fun _ => 0))), .inl (0, (36, .inl (fun _ => 0))), .inl (0, (9, .inl (fun _ => 0))), .inl (0, (9, .inl (fun _ => 0))), .inl (0, (9, .inl (fun _ => 0))), .inl (0, (9, .inl (fun _ => 0))), .inr (0, [.int 0, .int 0, .int 0, .ref 12, .ref 13, .ref 14, .ref 15, .ref 16, .ref 17, .ref 18]), .inl (0, (6, .inl (fun _ => 0))), .inl (0, (6, .inl (fun _ => 0))), .inl (0, (36, .inl (fun _ => 0))), .inl (0, (9, .inl (fun _ => 0))), .inl (0, (9, .inl (fun _ => 0))), .inl (0, (9, .inl (fun _ => 0))), .inl (0, (9, .inl (fun _ => 0))), .inr (0, [.int 0, .int 0, .int 0, .ref 20, .ref 21, .null, .null, .null, .null, .null]), .inl (0, (6, .inl (fun _ => 0))), .inl (0, (6, .inl (fun _ => 0)))]) rfl ?_
  refine AW.keq (k1 := 2) (n1 := 12) rfl rfl ?_
  refine aw_aload_n 0 dX0_init_20 rfl rfl ?_
  refine aw_bipush (v := 36) dX0_init_21 (by decide) ?_
  refine aw_newa (kd := 0) (N := 36) (ty := .int) (a0 := (36, .inl (fun _ => 0))) dX0_init_23 wa_int rfl (Or.inl ⟨rfl, rfl⟩) (ha_int 36) (fun _ => rfl) (by decide) (by decide) (by decide) ⟨Nat.le_of_ble_eq_true rfl, Nat.le_of_ble_eq_true rfl⟩ (N0 := 22) (by decide +kernel) (by decide) (by decide +kernel) (by decide +kernel) (fun a3 A3 => ?_)
  refine AW.heq (h1 := [.inr (6, [.ref 1, .ref 3, .ref 11, .null, .null, .null, .null, .null, .null, .int 0]), .inr (4, [.ref 2, .int 0, .int 0, .int 0, .int 0]), .inl (0, (40, .inl (fun _ => 0))), .inr (0, [.int 0, .int 0, .int 0, .ref 4, .ref 5, .ref 6, .ref 7, .ref 8, .ref 9, .ref 10]), .inl (0, (6, .inl (fun _ => 0))), .inl (0, (6, .inl (fun _ => 0))), .inl (0, (36, .inl (fun _ => 0))), .inl (0, (9, .inl (fun _ => 0))), .inl (0, (9, .inl (fun _ => 0))), .inl (0, (9, .inl (fun _ => 0))), .inl (0, (9, .inl (fun _ => 0))), .inr (0, [.int 0, .int 0, .int 0, .ref 12, .ref 13, .ref 14, .ref 15, .ref 16, .ref 17, .ref 18]), .inl (0, (6, .inl (fun _ => 0))), .inl (0, (6, .inl (fun _ => 0))), .inl (0, (36, .inl (fun _ => 0))), .inl (0, (9, .inl (fun _ => 0))), .inl (0, (9, .inl (fun _ => 0))), .inl (0, (9, .inl (fun _ => 0))), .inl (0, (9, .inl (fun _ => 0))), .inr (0, [.int 0, .int 0, .int 0, .ref 20, .ref 21, .null, .null, .null, .null, .null]), .inl (0, (6, .inl (fun _ => 0))), .inl (0, (6, .inl (fun _ => 0))), .inl (0, (36, .inl (fun _ => 0)))]) rfl ?_
  refine AW.keq (k1 := 3) (n1 := 48) rfl rfl ?_
  refine aw_putF hn dX0_init_25 pnX0_18 (fun _ => ⟨rfl, rfl⟩) rfl ?_
  refine AW.heq (h1 := [.inr (6, [.ref 1, .ref 3, .ref 11, .null, .null, .null, .null, .null, .null, .int 0]), .inr (4, [.ref 2, .int 0, .int 0, .int 0, .int 0]), .inl (0, (40, .inl (fun _ => 0))), .inr (0, [.int 0, .int 0, .int 0, .ref 4, .ref 5, .ref 6, .ref 7, .ref 8, .ref 9, .ref 10]), .inl (0, (6, .inl (fun _ => 0))), .inl (0, (6, .inl (fun _ => 0))), .inl (0, (36, .inl (fun _ => 0))), .inl (0, (9, .inl (fun _ => 0))), .inl (0, (9, .inl (fun _ => 0))), .inl (0, (9, .inl (fun _ => 0))), .inl (0, (9, .inl (fun _ => 0))), .inr (0, [.int 0, .int 0, .int 0, .ref 12, .ref 13, .ref 14, .ref 15, .ref 16, .ref 17, .ref 18]), .inl (0, (6, .inl (fun _ => 0))), .inl (0, (6, .inl (fun _ => 0))), .inl (0, (36, .inl (fun _ => 0))), .inl (0, (9, .inl (fun _ => 0))), .inl (0, (9, .inl (fun _ => 0))), .inl (0, (9, .inl (fun _ => 0))), .inl (0, (9, .inl (fun _ => 0))), .inr (0, [.int 0, .int 0, .int 0, .ref 20, .ref 21, .ref 22, .null, .null, .null, .null]), .inl (0, (6, .inl (fun _ => 0))), .inl (0, (6, .inl (fun _ => 0))), .inl (0, (36, .inl (fun _ => 0)))]) rfl ?_
  refine AW.keq (k1 := 3) (n1 := 48) rfl rfl ?_
  refine aw_aload_n 0 dX0_init_28 rfl rfl ?_
  refine aw_bipush (v := 9) dX0_init_29 (by decide) ?_
  refine aw_newa (kd := 0) (N := 9) (ty := .int) (a0 := (9, .inl (fun _ => 0))) dX0_init_31 wa_int rfl (Or.inl ⟨rfl, rfl⟩) (ha_int 9) (fun _ => rfl) (by decide) (by decide) (by decide) ⟨Nat.le_of_ble_eq_true rfl, Nat.le_of_ble_eq_true rfl⟩ (N0 := 23) (by decide +kernel) (by decide) (by decide +kernel) (by decide +kernel) (fun a4 A4 => ?_)
  refine AW.heq (h1 := [.inr (6, [.ref 1, .ref 3, .ref 11, .null, .null, .null, .null, .null, .null, .int 0]), .inr (4, [.ref 2, .int 0, .int 0, .int 0, .int 0]), .inl (0, (40, .inl (fun _ => 0))), .inr (0, [.int 0, .int 0, .int 0, .ref 4, .ref 5, .ref 6, .ref 7, .ref 8, .ref 9, .ref 10]), .inl (0, (6, .inl (fun _ => 0))), .inl (0, (6, .inl (fun _ => 0))), .inl (0, (36, .inl (fun _ => 0))), .inl (0, (9, .inl (fun _ => 0))), .inl (0, (9, .inl (fun _ => 0))), .inl (0, (9, .inl (fun _ => 0))), .inl (0, (9, .inl (fun _ => 0))), .inr (0, [.int 0, .int 0, .int 0, .ref 12, .ref 13, .ref 14, .ref 15, .ref 16, .ref 17, .ref 18]), .inl (0, (6, .inl (fun _ => 0))), .inl (0, (6, .inl (fun _ => 0))), .inl (0, (36, .inl (fun _ => 0))), .inl (0, (9, .inl (fun _ => 0))), .inl (0, (9, .inl (fun _ => 0))), .inl (0, (9, .inl (fun _ => 0))), .inl (0, (9, .inl (fun _ => 0))), .inr (0, [.int 0, .int 0, .int 0, .ref 20, .ref 21, .ref 22, .null, .null, .null, .null]), .inl (0, (6, .inl (fun _ => 0))), .inl (0, (6, .inl (fun _ => 0))), .inl (0, (36, .inl (fun _ => 0))), .inl (0, (9, .inl (fun _ => 0)))]) rfl ?_
  refine AW.keq (k1 := 4) (n1 := 57) rfl rfl ?_
  refine aw_putF hn dX0_init_33 pnX0_21 (fun _ => ⟨rfl, rfl⟩) rfl ?_
  refine AW.heq (h1 := [.inr (6, [.ref 1, .ref 3, .ref 11, .null, .null, .null, .null, .null, .null, .int 0]), .inr (4, [.ref 2, .int 0, .int 0, .int 0, .int 0]), .inl (0, (40, .inl (fun _ => 0))), .inr (0, [.int 0, .int 0, .int 0, .ref 4, .ref 5, .ref 6, .ref 7, .ref 8, .ref 9, .ref 10]), .inl (0, (6, .inl (fun _ => 0))), .inl (0, (6, .inl (fun _ => 0))), .inl (0, (36, .inl (fun _ => 0))), .inl (0, (9, .inl (fun _ => 0))), .inl (0, (9, .inl (fun _ => 0))), .inl (0, (9, .inl (fun _ => 0))), .inl (0, (9, .inl (fun _ => 0))), .inr (0, [.int 0, .int 0, .int 0, .ref 12, .ref 13, .ref 14, .ref 15, .ref 16, .ref 17, .ref 18]), .inl (0, (6, .inl (fun _ => 0))), .inl (0, (6, .inl (fun _ => 0))), .inl (0, (36, .inl (fun _ => 0))), .inl (0, (9, .inl (fun _ => 0))), .inl (0, (9, .inl (fun _ => 0))), .inl (0, (9, .inl (fun _ => 0))), .inl (0, (9, .inl (fun _ => 0))), .inr (0, [.int 0, .int 0, .int 0, .ref 20, .ref 21, .ref 22, .ref 23, .null, .null, .null]), .inl (0, (6, .inl (fun _ => 0))), .inl (0, (6, .inl (fun _ => 0))), .inl (0, (36, .inl (fun _ => 0))), .inl (0, (9, .inl (fun _ => 0)))]) rfl ?_
  refine AW.keq (k1 := 4) (n1 := 57) rfl rfl ?_
  refine aw_aload_n 0 dX0_init_36 rfl rfl ?_
  refine aw_bipush (v := 9) dX0_init_37 (by decide) ?_
  refine aw_newa (kd := 0) (N := 9) (ty := .int) (a0 := (9, .inl (fun _ => 0))) dX0_init_39 wa_int rfl (Or.inl ⟨rfl, rfl⟩) (ha_int 9) (fun _ => rfl) (by decide) (by decide) (by decide) ⟨Nat.le_of_ble_eq_true rfl, Nat.le_of_ble_eq_true rfl⟩ (N0 := 24) (by decide +kernel) (by decide) (by decide +kernel) (by decide +kernel) (fun a5 A5 => ?_)
  refine AW.heq (h1 := [.inr (6, [.ref 1, .ref 3, .ref 11, .null, .null, .null, .null, .null, .null, .int 0]), .inr (4, [.ref 2, .int 0, .int 0, .int 0, .int 0]), .inl (0, (40, .inl (fun _ => 0))), .inr (0, [.int 0, .int 0, .int 0, .ref 4, .ref 5, .ref 6, .ref 7, .ref 8, .ref 9, .ref 10]), .inl (0, (6, .inl (fun _ => 0))), .inl (0, (6, .inl (fun _ => 0))), .inl (0, (36, .inl (fun _ => 0))), .inl (0, (9, .inl (fun _ => 0))), .inl (0, (9, .inl (fun _ => 0))), .inl (0, (9, .inl (fun _ => 0))), .inl (0, (9, .inl (fun _ => 0))), .inr (0, [.int 0, .int 0, .int 0, .ref 12, .ref 13, .ref 14, .ref 15, .ref 16, .ref 17, .ref 18]), .inl (0, (6, .inl (fun _ => 0))), .inl (0, (6, .inl (fun _ => 0))), .inl (0, (36, .inl (fun _ => 0))), .inl (0, (9, .inl (fun _ => 0))), .inl (0, (9, .inl (fun _ => 0))), .inl (0, (9, .inl (fun _ => 0))), .inl (0, (9, .inl (fun _ => 0))), .inr (0, [.int 0, .int 0, .int 0, .ref 20, .ref 21, .ref 22, .ref 23, .null, .null, .null]), .inl (0, (6, .inl (fun _ => 0))), .inl (0, (6, .inl (fun _ => 0))), .inl (0, (36, .inl (fun _ => 0))), .inl (0, (9, .inl (fun _ => 0))), .inl (0, (9, .inl (fun _ => 0)))]) rfl ?_
  refine AW.keq (k1 := 5) (n1 := 66) rfl rfl ?_
  refine aw_putF hn dX0_init_41 pnX0_24 (fun _ => ⟨rfl, rfl⟩) rfl ?_
  refine AW.heq (h1 := [.inr (6, [.ref 1, .ref 3, .ref 11, .null, .null, .null, .null, .null, .null, .int 0]), .inr (4, [.ref 2, .int 0, .int 0, .int 0, .int 0]), .inl (0, (40, .inl (fun _ => 0))), .inr (0, [.int 0, .int 0, .int 0, .ref 4, .ref 5, .ref 6, .ref 7, .ref 8, .ref 9, .ref 10]), .inl (0, (6, .inl (fun _ => 0))), .inl (0, (6, .inl (fun _ => 0))), .inl (0, (36, .inl (fun _ => 0))), .inl (0, (9, .inl (fun _ => 0))), .inl (0, (9, .inl (fun _ => 0))), .inl (0, (9, .inl (fun _ => 0))), .inl (0, (9, .inl (fun _ => 0))), .inr (0, [.int 0, .int 0, .int 0, .ref 12, .ref 13, .ref 14, .ref 15, .ref 16, .ref 17, .ref 18]), .inl (0, (6, .inl (fun _ => 0))), .inl (0, (6, .inl (fun _ => 0))), .inl (0, (36, .inl (fun _ => 0))), .inl (0, (9, .inl (fun _ => 0))), .inl (0, (9, .inl (fun _ => 0))), .inl (0, (9, .inl (fun _ => 0))), .inl (0, (9, .inl (fun _ => 0))), .inr (0, [.int 0, .int 0, .int 0, .ref 20, .ref 21, .ref 22, .ref 23, .ref 24, .null, .null]), .inl (0, (6, .inl (fun _ => 0))), .inl (0, (6, .inl (fun _ => 0))), .inl (0, (36, .inl (fun _ => 0))), .inl (0, (9, .inl (fun _ => 0))), .inl (0, (9, .inl (fun _ => 0)))]) rfl ?_
  refine AW.keq (k1 := 5) (n1 := 66) rfl rfl ?_
  refine aw_aload_n 0 dX0_init_44 rfl rfl ?_
  refine aw_bipush (v := 9) dX0_init_45 (by decide) ?_
  refine aw_newa (kd := 0) (N := 9) (ty := .int) (a0 := (9, .inl (fun _ => 0))) dX0_init_47 wa_int rfl (Or.inl ⟨rfl, rfl⟩) (ha_int 9) (fun _ => rfl) (by decide) (by decide) (by decide) ⟨Nat.le_of_ble_eq_true rfl, Nat.le_of_ble_eq_true rfl⟩ (N0 := 25) (by decide +kernel) (by decide) (by decide +kernel) (by decide +kernel) (fun a6 A6 => ?_)
  refine AW.heq (h1 := [.inr (6, [.ref 1, .ref 3, .ref 11, .null, .null, .null, .null, .null, .null, .int 0]), .inr (4, [.ref 2, .int 0, .int 0, .int 0, .int 0]), .inl (0, (40, .inl (fun _ => 0))), .inr (0, [.int 0, .int 0, .int 0, .ref 4, .ref 5, .ref 6, .ref 7, .ref 8, .ref 9, .ref 10]), .inl (0, (6, .inl (fun _ => 0))), .inl (0, (6, .inl (fun _ => 0))), .inl (0, (36, .inl (fun _ => 0))), .inl (0, (9, .inl (fun _ => 0))), .inl (0, (9, .inl (fun _ => 0))), .inl (0, (9, .inl (fun _ => 0))), .inl (0, (9, .inl (fun _ => 0))), .inr (0, [.int 0, .int 0, .int 0, .ref 12, .ref 13, .ref 14, .ref 15, .ref 16, .ref 17, .ref 18]), .inl (0, (6, .inl (fun _ => 0))), .inl (0, (6, .inl (fun _ => 0))), .inl (0, (36, .inl (fun _ => 0))), .inl (0, (9, .inl (fun _ => 0))), .inl (0, (9, .inl (fun _ => 0))), .inl (0, (9, .inl (fun _ => 0))), .inl (0, (9, .inl (fun _ => 0))), .inr (0, [.int 0, .int 0, .int 0, .ref 20, .ref 21, .ref 22, .ref 23, .ref 24, .null, .null]), .inl (0, (6, .inl (fun _ => 0))), .inl (0, (6, .inl (fun _ => 0))), .inl (0, (36, .inl (fun _ => 0))), .inl (0, (9, .inl (fun _ => 0))), .inl (0, (9, .inl (fun _ => 0))), .inl (0, (9, .inl (fun _ => 0)))]) rfl ?_
  refine AW.keq (k1 := 6) (n1 := 75) rfl rfl ?_
  refine aw_putF hn dX0_init_49 pnX0_27 (fun _ => ⟨rfl, rfl⟩) rfl ?_
  refine AW.heq (h1 := [.inr (6, [.ref 1, .ref 3, .ref 11, .null, .null, .null, .null, .null, .null, .int 0]), .inr (4, [.ref 2, .int 0, .int 0, .int 0, .int 0]), .inl (0, (40, .inl (fun _ => 0))), .inr (0, [.int 0, .int 0, .int 0, .ref 4, .ref 5, .ref 6, .ref 7, .ref 8, .ref 9, .ref 10]), .inl (0, (6, .inl (fun _ => 0))), .inl (0, (6, .inl (fun _ => 0))), .inl (0, (36, .inl (fun _ => 0))), .inl (0, (9, .inl (fun _ => 0))), .inl (0, (9, .inl (fun _ => 0))), .inl (0, (9, .inl (fun _ => 0))), .inl (0, (9, .inl (fun _ => 0))), .inr (0, [.int 0, .int 0, .int 0, .ref 12, .ref 13, .ref 14, .ref 15, .ref 16, .ref 17, .ref 18]), .inl (0, (6, .inl (fun _ => 0))), .inl (0, (6, .inl (fun _ => 0))), .inl (0, (36, .inl (fun _ => 0))), .inl (0, (9, .inl (fun _ => 0))), .inl (0, (9, .inl (fun _ => 0))), .inl (0, (9, .inl (fun _ => 0))), .inl (0, (9, .inl (fun _ => 0))), .inr (0, [.int 0, .int 0, .int 0, .ref 20, .ref 21, .ref 22, .ref 23, .ref 24, .ref 25, .null]), .inl (0, (6, .inl (fun _ => 0))), .inl (0, (6, .inl (fun _ => 0))), .inl (0, (36, .inl (fun _ => 0))), .inl (0, (9, .inl (fun _ => 0))), .inl (0, (9, .inl (fun _ => 0))), .inl (0, (9, .inl (fun _ => 0)))]) rfl ?_
  refine AW.keq (k1 := 6) (n1 := 75) rfl rfl ?_
  refine aw_aload_n 0 dX0_init_52 rfl rfl ?_
  refine aw_bipush (v := 9) dX0_init_53 (by decide) ?_
  refine aw_newa (kd := 0) (N := 9) (ty := .int) (a0 := (9, .inl (fun _ => 0))) dX0_init_55 wa_int rfl (Or.inl ⟨rfl, rfl⟩) (ha_int 9) (fun _ => rfl) (by decide) (by decide) (by decide) ⟨Nat.le_of_ble_eq_true rfl, Nat.le_of_ble_eq_true rfl⟩ (N0 := 26) (by decide +kernel) (by decide) (by decide +kernel) (by decide +kernel) (fun a7 A7 => ?_)
  refine AW.heq (h1 := [.inr (6, [.ref 1, .ref 3, .ref 11, .null, .null, .null, .null, .null, .null, .int 0]), .inr (4, [.ref 2, .int 0, .int 0, .int 0, .int 0]), .inl (0, (40, .inl (fun _ => 0))), .inr (0, [.int 0, .int 0, .int 0, .ref 4, .ref 5, .ref 6, .ref 7, .ref 8, .ref 9, .ref 10]), .inl (0, (6, .inl (fun _ => 0))), .inl (0, (6, .inl (fun _ => 0))), .inl (0, (36, .inl (fun _ => 0))), .inl (0, (9, .inl (fun _ => 0))), .inl (0, (9, .inl (fun _ => 0))), .inl (0, (9, .inl (fun _ => 0))), .inl (0, (9, .inl (fun _ => 0))), .inr (0, [.int 0, .int 0, .int 0, .ref 12, .ref 13, .ref 14, .ref 15, .ref 16, .ref 17, .ref 18]), .inl (0, (6, .inl (fun _ => 0))), .inl (0, (6, .inl (fun _ => 0))), .inl (0, (36, .inl (fun _ => 0))), .inl (0, (9, .inl (fun _ => 0))), .inl (0, (9, .inl (fun _ => 0))), .inl (0, (9, .inl (fun _ => 0))), .inl (0, (9, .inl (fun _ => 0))), .inr (0, [.int 0, .int 0, .int 0, .ref 20, .ref 21, .ref 22, .ref 23, .ref 24, .ref 25, .null]), .inl (0, (6, .inl (fun _ => 0))), .inl (0, (6, .inl (fun _ => 0))), .inl (0, (36, .inl (fun _ => 0))), .inl (0, (9, .inl (fun _ => 0))), .inl (0, (9, .inl (fun _ => 0))), .inl (0, (9, .inl (fun _ => 0))), .inl (0, (9, .inl (fun _ => 0)))]) rfl ?_
  refine AW.keq (k1 := 7) (n1 := 84) rfl rfl ?_
  refine aw_putF hn dX0_init_57 pnX0_30 (fun _ => ⟨rfl, rfl⟩) rfl ?_
  refine AW.heq (h1 := [.inr (6, [.ref 1, .ref 3, .ref 11, .null, .null, .null, .null, .null, .null, .int 0]), .inr (4, [.ref 2, .int 0, .int 0, .int 0, .int 0]), .inl (0, (40, .inl (fun _ => 0))), .inr (0, [.int 0, .int 0, .int 0, .ref 4, .ref 5, .ref 6, .ref 7, .ref 8, .ref 9, .ref 10]), .inl (0, (6, .inl (fun _ => 0))), .inl (0, (6, .inl (fun _ => 0))), .inl (0, (36, .inl (fun _ => 0))), .inl (0, (9, .inl (fun _ => 0))), .inl (0, (9, .inl (fun _ => 0))), .inl (0, (9, .inl (fun _ => 0))), .inl (0, (9, .inl (fun _ => 0))), .inr (0, [.int 0, .int 0, .int 0, .ref 12, .ref 13, .ref 14, .ref 15, .ref 16, .ref 17, .ref 18]), .inl (0, (6, .inl (fun _ => 0))), .inl (0, (6, .inl (fun _ => 0))), .inl (0, (36, .inl (fun _ => 0))), .inl (0, (9, .inl (fun _ => 0))), .inl (0, (9, .inl (fun _ => 0))), .inl (0, (9, .inl (fun _ => 0))), .inl (0, (9, .inl (fun _ => 0))), .inr (0, [.int 0, .int 0, .int 0, .ref 20, .ref 21, .ref 22, .ref 23, .ref 24, .ref 25, .ref 26]), .inl (0, (6, .inl (fun _ => 0))), .inl (0, (6, .inl (fun _ => 0))), .inl (0, (36, .inl (fun _ => 0))), .inl (0, (9, .inl (fun _ => 0))), .inl (0, (9, .inl (fun _ => 0))), .inl (0, (9, .inl (fun _ => 0))), .inl (0, (9, .inl (fun _ => 0)))]) rfl ?_
  refine AW.keq (k1 := 7) (n1 := 84) rfl rfl ?_
  exact aw_vret hr dX0_init_60 ⟨(Agr.tr (by decide) A7 (Agr.tr (by decide) A6 (Agr.tr (by decide) A5 (Agr.tr (by decide) A4 (Agr.tr (by decide) A3 (Agr.tr (by decide) A2 (Agr.tr (by decide) A1 Agr.rf))))))), rfl, rfl⟩
theorem dX3_init_0 : decode cX3_init 0 = .ok (.aload_n 0, 1) := by decide +kernel
theorem dX3_init_1 : decode cX3_init 1 = .ok (.invokespecial 3, 3) := by decide +kernel
theorem dX3_init_4 : decode cX3_init 4 = .ok (.aload_n 0, 1) := by decide +kernel
theorem dX3_init_5 : decode cX3_init 5 = .ok (.bipush 6, 2) := by decide +kernel
theorem dX3_init_7 : decode cX3_init 7 = .ok (.newarray .int, 2) := by decide +kernel
theorem dX3_init_9 : decode cX3_init 9 = .ok (.putfield 9, 3) := by decide +kernel
theorem dX3_init_12 : decode cX3_init 12 = .ok (.aload_n 0, 1) := by decide +kernel
theorem dX3_init_13 : decode cX3_init 13 = .ok (.bipush 9, 2) := by decide +kernel
theorem dX3_init_15 : decode cX3_init 15 = .ok (.newarray .int, 2) := by decide +kernel
theorem dX3_init_17 : decode cX3_init 17 = .ok (.putfield 15, 3) := by decide +kernel
theorem dX3_init_20 : decode cX3_init 20 = .ok (.return_, 1) := by decide +kernel
set_option maxRecDepth 100000 in
set_option maxHeartbeats 4000000 in
theorem k5_X3_init : MtQ 1 2 15 yX3_init cX3_init 1 none [.ref 27] hi_8 (Qn 28 hi_9) := by
  refine MtQ.of (by decide) (by decide) (fun X adr hr hn => ?_)
  refine AW.heq (h1 := [.inr (6, [.ref 1, .ref 3, .ref 11, .ref 19, .null, .null, .null, .null, .null, .int 0]), .inr (4, [.ref 2, .int 0, .int 0, .int 0, .int 0]), .inl (0, (40, .inl (fun _ => 0))), .inr (0, [.int 0, .int 0, .int 0, .ref 4, .ref 5, .ref 6, .ref 7, .ref 8, .ref 9, .ref 10]), .inl (0, (6, .inl (fun _ => 0))), .inl (0, (6, .inl (fun _ => 0))), .inl (0, (36, .inl (fun _ => 0))), .inl (0, (9, .inl (fun _ => 0))), .inl (0, (9, .inl (fun _ => 0))), .inl (0, (9, .inl (fun _ => 0))), .inl (0, (9, .inl (fun _ => 0))), .inr (0, [.int 0, .int 0, .int 0, .ref 12, .ref 13, .ref 14, .ref 15, .ref 16, .ref 17, .ref 18]), .inl (0, (6, .inl (fun _ => 0))), .inl (0, (6, .inl (fun _ => 0))), .inl (0, (36, .inl (fun _ => 0))), .inl (0, (9, .inl (fun _ => 0))), .inl (0, (9, .inl (fun _ => 0))), .inl (0, (9, .inl (fun _ => 0))), .inl (0, (9, .inl (fun _ => 0))), .inr (0, [.int 0, .int 0, .int 0, .ref 20, .ref 21, .ref 22, .ref 23, .ref 24, .ref 25, .ref 26]), .inl (0, (6, .inl (fun _ => 0))), .inl (0, (6, .inl (fun _ => 0))), .inl (0, (36, .inl (fun _ => 0))), .inl (0, (9, .inl (fun _ => 0))), .inl (0, (9, .inl (fun _ => 0))), .inl (0, (9, .inl (fun _ => 0))), .inl (0, (9, .inl (fun _ => 0))), .inr (3, [.null, .null, .int 0, .int 0, .int 0])]) rfl ?_
  refine AW.leq (L1 := [(0, .ref 27)]) rfl ?_
  refine aw_aload_n 0 dX3_init_0 rfl rfl ?_
  refine aw_objInit dX3_init_1 moX3_3 (by decide) (by decide) ?_
  refine aw_aload_n 0 dX3_init_4 rfl rfl ?_
  refine aw_bipush (v := 6) dX3_init_5 (by decide) ?_
  refine aw_newa (kd := 0) (N := 6) (ty := .int) (a0 := (6, .inl (fun _ => 0))) dX3_init_7 wa_int rfl (Or.inl ⟨rfl, rfl⟩) (ha_int 6) (fun _ => rfl) (by decide) (by decide) (by decide) ⟨Nat.le_of_ble_eq_true rfl, Nat.le_of_ble_eq_true rfl⟩ (N0 := 28) (by decide +kernel) (by decide) (by decide +kernel) (by decide +kernel) (fun a1 A1 => ?_)
  refine AW.heq (h1 := [.inr (6, [.ref 1, .ref 3, .ref 11, .ref 19, .null, .null, .null, .null, .null, .int 0]), .inr (4, [.ref 2, .int 0, .int 0, .int 0, .int 0]), .inl (0, (40, .inl (fun _ => 0))), .inr (0, [.int 0, .int 0, .int 0, .ref 4, .ref 5, .ref 6, .ref 7, .ref 8, .ref 9, .ref 10]), .inl (0, (6, .inl (fun _ => 0))), .inl (0, (6, .inl (fun _ => 0))), .inl (0, (36, .inl (fun _ => 0))), .inl (0, (9, .inl (fun _ => 0))), .inl (0, (9, .inl (fun _ => 0))), .inl (0, (9, .inl (fun _ => 0))), .inl (0, (9, .inl (fun _ => 0))), .inr (0, [.int 0, .int 0, .int 0, .ref 12, .ref 13, .ref 14, .ref 15, .ref 16, .ref 17, .ref 18]), .inl (0, (6, .inl (fun _ => 0))), .inl (0, (6, .inl (fun _ => 0))), .inl (0, (36, .inl (fun _ => 0))), .inl (0, (9, .inl (fun _ => 0))), .inl (0, (9, .inl (fun _ => 0))), .inl (0, (9, .inl (fun _ => 0))), .inl (0, (9, .inl (fun _ => 0))), .inr (0, [.int 0, .int 0, .int 0, .ref 20, .ref 21, .ref 22, .ref 23, .ref 24, .ref 25, .ref 26]), .inl (0, (6, .inl (fun _ => 0))), .inl (0, (6, .inl (fun _ => 0))), .inl (0, (36, .inl (fun _ => 0))), .inl (0, (9, .inl (fun _ => 0))), .inl (0, (9, .inl (fun _ => 0))), .inl (0, (9, .inl (fun _ => 0))), .inl (0, (9, .inl (fun _ => 0))), .inr (3, [.null, .null, .int 0, .int 0, .int 0]), .inl (0, (6, .inl (fun _ => 0)))]) rfl ?_
  refine AW.keq (k1 := 1) (n1 := 6) rfl rfl ?_
  refine aw_putF hn dX3_init_9 pnX3_9 (fun _ => ⟨rfl, rfl⟩) rfl ?_
  refine AW.heq (h1 := [.inr (6, [.ref 1, .ref 3, .ref 11, .ref 19, .null, .null, .null, .null, .null, .int 0]), .inr (4, [.ref 2, .int 0, .int 0, .int 0, .int 0]), .inl (0, (40, .inl (fun _ => 0))), .inr (0, [.int 0, .int 0, .int 0, .ref 4, .ref 5, .ref 6, .ref 7, .ref 8, .ref 9, .ref 10]), .inl (0, (6, .inl (fun _ => 0))), .inl (0, (6, .inl (fun _ => 0))), .inl (0, (36, .inl (fun _ => 0))), .inl (0, (9, .inl (fun _ => 0))), .inl (0, (9, .inl (fun _ => 0))), .inl (0, (9, .inl (fun _ => 0))), .inl (0, (9, .inl (fun _ => 0))), .inr (0, [.int 0, .int 0, .int 0, .ref 12, .ref 13, .ref 14, .ref 15, .ref 16, .ref 17, .ref 18]), .inl (0, (6, .inl (fun _ => 0))), .inl (0, (6, .inl (fun _ => 0))), .inl (0, (36, .inl (fun _ => 0))), .inl (0, (9, .inl (fun _ => 0))), .inl (0, (9, .inl (fun _ => 0))), .inl (0, (9, .inl (fun _ => 0))), .inl (0, (9, .inl (fun _ => 0))), .inr (0, [.int 0, .int 0, .int 0, .ref 20, .ref 21, .ref 22, .ref 23, .ref 24, .ref 25, .ref 26]), .inl (0, (6, .inl (fun _ => 0))), .inl (0, (6, .inl (fun _ => 0))), .inl (0, (36, .inl (fun _ => 0))), .inl (0, (9, .inl (fun _ => 0))), .inl (0, (9, .inl (fun _ => 0))), .inl (0, (9, .inl (fun _ => 0))), .inl (0, (9, .inl (fun _ => 0))), .inr (3, [.ref 28, .null, .int 0, .int 0, .int 0]), .inl (0, (6, .inl (fun _ => 0)))]) rfl ?_
  refine AW.keq (k1 := 1) (n1 := 6) rfl rfl ?_
  refine aw_aload_n 0 dX3_init_12 rfl rfl ?_
  refine aw_bipush (v := 9) dX3_init_13 (by decide) ?_
  refine aw_newa (kd := 0) (N := 9) (ty := .int) (a0 := (9, .inl (fun _ => 0))) dX3_init_15 wa_int rfl (Or.inl ⟨rfl, rfl⟩) (ha_int 9) (fun _ => rfl) (by decide) (by decide) (by decide) ⟨Nat.le_of_ble_eq_true rfl, Nat.le_of_ble_eq_true rfl⟩ (N0 := 29) (by decide +kernel) (by decide) (by decide +kernel) (by decide +kernel) (fun a2 A2 => ?_)
  refine AW.heq (h1 := [.inr (6, [.ref 1, .ref 3, .ref 11, .ref 19, .null, .null, .null, .null, .null, .int 0]), .inr (4, [.ref 2, .int 0, .int 0, .int 0, .int 0]), .inl (0, (40, .inl (fun _ => 0))), .inr (0, [.int 0, .int 0, .int 0, .ref 4, .ref 5, .ref 6, .ref 7, .ref 8, .ref 9, .ref 10]), .inl (0, (6, .inl (fun _ => 0))), .inl (0, (6, .inl (fun _ => 0))), .inl (0, (36, .inl (fun _ => 0))), .inl (0, (9, .inl (fun _ => 0))), .inl (0, (9, .inl (fun _ => 0))), .inl (0, (9, .inl (fun _ => 0))), .inl (0, (9, .inl (fun _ => 0))), .inr (0, [.int 0, .int 0, .int 0, .ref 12, .ref 13, .ref 14, .ref 15, .ref 16, .ref 17, .ref 18]), .inl (0, (6, .inl (fun _ => 0))), .inl (0, (6, .inl (fun _ => 0))), .inl (0, (36, .inl (fun _ => 0))), .inl (0, (9, .inl (fun _ => 0))), .inl (0, (9, .inl (fun _ => 0))), .inl (0, (9, .inl (fun _ => 0))), .inl (0, (9, .inl (fun _ => 0))), .inr (0, [.int 0, .int 0, .int 0, .ref 20, .ref 21, .ref 22, .ref 23, .ref 24, .ref 25, .ref 26]), .inl (0, (6, .inl (fun _ => 0))), .inl (0, (6, .inl (fun _ => 0))), .inl (0, (36, .inl (fun _ => 0))), .inl (0, (9, .inl (fun _ => 0))), .inl (0, (9, .inl (fun _ => 0))), .inl (0, (9, .inl (fun _ => 0))), .inl (0, (9, .inl (fun _ => 0))), .inr (3, [.ref 28, .null, .int 0, .int 0, .int 0]), .inl (0, (6, .inl (fun _ => 0))), .inl (0, (9, .inl (fun _ => 0)))]) rfl ?_
  refine AW.keq (k1 := 2) (n1 := 15) rfl rfl ?_
  refine aw_putF hn dX3_init_17 pnX3_15 (fun _ => ⟨rfl, rfl⟩) rfl ?_
  refine AW.heq (h1 := [.inr (6, [.ref 1, .ref 3, .ref 11, .ref 19, .null, .null, .null, .null, .null, .int 0]), .inr (4, [.ref 2, .int 0, .int 0, .int 0, .int 0]), .inl (0, (40, .inl (fun _ => 0))), .inr (0, [.int 0, .int 0, .int 0, .ref 4, .ref 5, .ref 6, .ref 7, .ref 8, .ref 9, .ref 10]), .inl (0, (6, .inl (fun _ => 0))), .inl (0, (6, .inl (fun _ => 0))), .inl (0, (36, .inl (fun _ => 0))), .inl (0, (9, .inl (fun _ => 0))), .inl (0, (9, .inl (fun _ => 0))), .inl (0, (9, .inl (fun _ => 0))), .inl (0, (9, .inl (fun _ => 0))), .inr (0, [.int 0, .int 0, .int 0, .ref 12, .ref 13, .ref 14, .ref 15, .ref 16, .ref 17, .ref 18]), .inl (0, (6, .inl (fun _ => 0))), .inl (0, (6, .inl (fun _ => 0))), .inl (0, (36, .inl (fun _ => 0))), .inl (0, (9, .inl (fun _ => 0))), .inl (0, (9, .inl (fun _ => 0))), .inl (0, (9, .inl (fun _ => 0))), .inl (0, (9, .inl (fun _ => 0))), .inr (0, [.int 0, .int 0, .int 0, .ref 20, .ref 21, .ref 22, .ref 23, .ref 24, .ref 25, .ref 26]), .inl (0, (6, .inl (fun _ => 0))), .inl (0, (6, .inl (fun _ => 0))), .inl (0, (36, .inl (fun _ => 0))), .inl (0, (9, .inl (fun _ => 0))), .inl (0, (9, .inl (fun _ => 0))), .inl (0, (9, .inl (fun _ => 0))), .inl (0, (9, .inl (fun _ => 0))), .inr (3, [.ref 28, .ref 29, .int 0, .int 0, .int 0]), .inl (0, (6, .inl (fun _ => 0))), .inl (0, (9, .inl (fun _ => 0)))]) rfl ?_
  refine AW.keq (k1 := 2) (n1 := 15) rfl rfl ?_
  exact aw_vret hr dX3_init_20 ⟨(Agr.tr (by decide) A2 (Agr.tr (by decide) A1 Agr.rf)), rfl, rfl⟩
theorem dX1_init_0 : decode cX1_init 0 = .ok (.aload_n 0, 1) := by decide +kernel
theorem dX1_init_1 : decode cX1_init 1 = .ok (.invokespecial 3, 3) := by decide +kernel
theorem dX1_init_4 : decode cX1_init 4 = .ok (.aload_n 0, 1) := by decide +kernel
theorem dX1_init_5 : decode cX1_init 5 = .ok (.bipush 6, 2) := by decide +kernel
theorem dX1_init_7 : decode cX1_init 7 = .ok (.newarray .int, 2) := by decide +kernel
theorem dX1_init_9 : decode cX1_init 9 = .ok (.putfield 9, 3) := by decide +kernel
theorem dX1_init_12 : decode cX1_init 12 = .ok (.aload_n 0, 1) := by decide +kernel
theorem dX1_init_13 : decode cX1_init 13 = .ok (.bipush 9, 2) := by decide +kernel
theorem dX1_init_15 : decode cX1_init 15 = .ok (.newarray .int, 2) := by decide +kernel
theorem dX1_init_17 : decode cX1_init 17 = .ok (.putfield 15, 3) := by decide +kernel
theorem dX1_init_20 : decode cX1_init 20 = .ok (.aload_n 0, 1) := by decide +kernel
theorem dX1_init_21 : decode cX1_init 21 = .ok (.bipush 9, 2) := by decide +kernel
theorem dX1_init_23 : decode cX1_init 23 = .ok (.newarray .int, 2) := by decide +kernel
theorem dX1_init_25 : decode cX1_init 25 = .ok (.putfield 18, 3) := by decide +kernel
theorem dX1_init_28 : decode cX1_init 28 = .ok (.aload_n 0, 1) := by decide +kernel
theorem dX1_init_29 : decode cX1_init 29 = .ok (.bipush 9, 2) := by decide +kernel
theorem dX1_init_31 : decode cX1_init 31 = .ok (.newarray .int, 2) := by decide +kernel
theorem dX1_init_33 : decode cX1_init 33 = .ok (.putfield 21, 3) := by decide +kernel
theorem dX1_init_36 : decode cX1_init 36 = .ok (.aload_n 0, 1) := by decide +kernel
theorem dX1_init_37 : decode cX1_init 37 = .ok (.bipush 9, 2) := by decide +kernel
theorem dX1_init_39 : decode cX1_init 39 = .ok (.newarray .int, 2) := by decide +kernel
theorem dX1_init_41 : decode cX1_init 41 = .ok (.putfield 24, 3) := by decide +kernel
theorem dX1_init_44 : decode cX1_init 44 = .ok (.return_, 1) := by decide +kernel
set_option maxRecDepth 100000 in
set_option maxHeartbeats 4000000 in
theorem k6_X1_init : MtQ 1 5 42 yX1_init cX1_init 1 none [.ref 30] hi_10 (Qn 31 hi_11) := by
  refine MtQ.of (by decide) (by decide) (fun X adr hr hn => ?_)
  refine AW.heq (h1 := [.inr (6, [.ref 1, .ref 3, .ref 11, .ref 19, .ref 27, .null, .null, .null, .null, .int 0]), .inr (4, [.ref 2, .int 0, .int 0, .int 0, .int 0]), .inl (0, (40, .inl (fun _ => 0))), .inr (0, [.int 0, .int 0, .int 0, .ref 4, .ref 5, .ref 6, .ref 7, .ref 8, .ref 9, .ref 10]), .inl (0, (6, .inl (fun _ => 0))), .inl (0, (6, .inl (fun _ => 0))), .inl (0, (36, .inl (fun _ => 0))), .inl (0, (9, .inl (fun _ => 0))), .inl (0, (9, .inl (fun _ => 0))), .inl (0, (9, .inl (fun _ => 0))), .inl (0, (9, .inl (fun _ => 0))), .inr (0, [.int 0, .int 0, .int 0, .ref 12, .ref 13, .ref 14, .ref 15, .ref 16, .ref 17, .ref 18]), .inl (0, (6, .inl (fun _ => 0))), .inl (0, (6, .inl (fun _ => 0))), .inl (0, (36, .inl (fun _ => 0))), .inl (0, (9, .inl (fun _ => 0))), .inl (0, (9, .inl (fun _ => 0))), .inl (0, (9, .inl (fun _ => 0))), .inl (0, (9, .inl (fun _ => 0))), .inr (0, [.int 0, .int 0, .int 0, .ref 20, .ref 21, .ref 22, .ref 23, .ref 24, .ref 25, .ref 26]), .inl (0, (6, .inl (fun _ => 0))), .inl (0, (6, .inl (fun _ => 0))), .inl (0, (36, .inl (fun _ => 0))), .inl (0, (9, .inl (fun _ => 0))), .inl (0, (9, .inl (fun _ => 0))), .inl (0, (9, .inl (fun _ => 0))), .inl (0, (9, .inl (fun _ => 0))), .inr (3, [.ref 28, .ref 29, .int 0, .int 0, .int 0]), .inl (0, (6, .inl (fun _ => 0))), .inl (0, (9, .inl (fun _ => 0))), .inr (1, [.null, .null, .null, .null, .null, .int 0, .int 0, .int 0, .int 0])]) rfl ?_
  refine AW.leq (L1 := [(0, .ref 30)]) rfl ?_
  refine aw_aload_n 0 dX1_init_0 rfl rfl ?_
  refine aw_objInit dX1_init_1 moX1_3 (by decide) (by decide) ?_
  refine aw_aload_n 0 dX1_init_4 rfl rfl ?_
  refine aw_bipush (v := 6) dX1_init_5 (by decide) ?_
  refine aw_newa (kd := 0) (N := 6) (ty := .int) (a0 := (6, .inl (fun _ => 0))) dX1_init_7 wa_int rfl (Or.inl ⟨rfl, rfl⟩) (ha_int 6) (fun _ => rfl) (by decide) (by decide) (by decide) ⟨Nat.le_of_ble_eq_true rfl, Nat.le_of_ble_eq_true rfl⟩ (N0 := 31) (by decide +kernel) (by decide) (by decide +kernel) (by decide +kernel) (fun a1 A1 => ?_)
  refine AW.heq (h1 := [.inr (6, [.ref 1, .ref 3, .ref 11, .ref 19, .ref 27, .null, .null, .null, .null, .int 0]), .inr (4, [.ref 2, .int 0, .int 0, .int 0, .int 0]), .inl (0, (40, .inl (fun _ => 0))), .inr (0, [.int 0, .int 0, .int 0, .ref 4, .ref 5, .ref 6, .ref 7, .ref 8, .ref 9, .ref 10]), .inl (0, (6, .inl (fun _ => 0))), .inl (0, (6, .inl (fun _ => 0))), .inl (0, (36, .inl (fun _ => 0))), .inl (0, (9, .inl (fun _ => 0))), .inl (0, (9, .inl (fun _ => 0))), .inl (0, (9, .inl (fun _ => 0))), .inl (0, (9, .inl (fun _ => 0))), .inr (0, [.int 0, .int 0, .int 0, .ref 12, .ref 13, .ref 14, .ref 15, .ref 16, .ref 17, .ref 18]), .inl (0, (6, .inl (fun _ => 0))), .inl (0, (6, .inl (fun _ => 0))), .inl (0, (36, .inl (fun _ => 0))), .inl (0, (9, .inl (fun _ => 0))), .inl (0, (9, .inl (fun _ => 0))), .inl (0, (9, .inl (fun _ => 0))), .inl (0, (9, .inl (fun _ => 0))), .inr (0, [.int 0, .int 0, .int 0, .ref 20, .ref 21, .ref 22, .ref 23, .ref 24, .ref 25, .ref 26]), .inl (0, (6, .inl (fun _ => 0))), .inl (0, (6, .inl (fun _ => 0))), .inl (0, (36, .inl (fun _ => 0))), .inl (0, (9, .inl (fun _ => 0))), .inl (0, (9, .inl (fun _ => 0))), .inl (0, (9, .inl (fun _ => 0))), .inl (0, (9, .inl (fun _ => 0))), .inr (3, [.ref 28, .ref 29, .int 0, .int 0, .int 0]), .inl (0, (6, .inl (fun _ => 0))), .inl (0, (9, .inl (fun _ => 0))), .inr (1, [.null, .null, .null, .null, .null, .int 0, .int 0, .int 0, .int 0]), .inl (0, (6, .inl (fun _ => 0)))]) rfl ?_
  refine AW.keq (k1 := 1) (n1 := 6) rfl rfl ?_
  refine aw_putF hn dX1_init_9 pnX1_9 (fun _ => ⟨rfl, rfl⟩) rfl ?_
  refine AW.heq (h1 := [.inr (6, [.ref 1, .ref 3, .ref 11, .ref 19, .ref 27, .null, .null, .null, .null, .int 0]), .inr (4, [.ref 2, .int 0, .int 0, .int 0, .int 0]), .inl (0, (40, .inl (fun _ => 0))), .inr (0, [.int 0, .int 0, .int 0, .ref 4, .ref 5, .ref 6, .ref 7, .ref 8, .ref 9, .ref 10]), .inl (0, (6, .inl (fun _ => 0))), .inl (0, (6, .inl (fun _ => 0))), .inl (0, (36, .inl (fun _ => 0))), .inl (0, (9, .inl (fun _ => 0))), .inl (0, (9, .inl (fun _ => 0))), .inl (0, (9, .inl (fun _ => 0))), .inl (0, (9, .inl (fun _ => 0))), .inr (0, [.int 0, .int 0, .int 0, .ref 12, .ref 13, .ref 14, .ref 15, .ref 16, .ref 17, .ref 18]), .inl (0, (6, .inl (fun _ => 0))), .inl (0, (6, .inl (fun _ => 0))), .inl (0, (36, .inl (fun _ => 0))), .inl (0, (9, .inl (fun _ => 0))), .inl (0, (9, .inl (fun _ => 0))), .inl (0, (9, .inl (fun _ => 0))), .inl (0, (9, .inl (fun _ => 0))), .inr (0, [.int 0, .int 0, .int 0, .ref 20, .ref 21, .ref 22, .ref 23, .ref 24, .ref 25, .ref 26]), .inl (0, (6, .inl (fun _ => 0))), .inl (0, (6, .inl (fun _ => 0))), .inl (0, (36, .inl (fun _ => 0))), .inl (0, (9, .inl (fun _ => 0))), .inl (0, (9, .inl (fun _ => 0))), .inl (0, (9, .inl (fun _ => 0))), .inl (0, (9, .inl (fun _ => 0))), .inr (3, [.ref 28, .ref 29, .int 0, .int 0, .int 0]), .inl (0, (6, .inl (fun _ => 0))), .inl (0, (9, .inl (fun _ => 0))), .inr (1, [.ref 31, .null, .null, .null, .null, .int 0, .int 0, .int 0, .int 0]), .inl (0, (6, .inl (fun _ => 0)))]) rfl ?_
  refine AW.keq (k1 := 1) (n1 := 6) rfl rfl ?_
  refine aw_aload_n 0 dX1_init_12 rfl rfl ?_
  refine aw_bipush (v := 9) dX1_init_13 (by decide) ?_
  refine aw_newa (kd := 0) (N := 9) (ty := .int) (a0 := (9, .inl (fun _ => 0))) dX1_init_15 wa_int rfl (Or.inl ⟨rfl, rfl⟩) (ha_int 9) (fun _ => rfl) (by decide) (by decide) (by decide) ⟨Nat.le_of_ble_eq_true rfl, Nat.le_of_ble_eq_true rfl⟩ (N0 := 32) (by decide +kernel) (by decide) (by decide +kernel) (by decide +kernel) (fun a2 A2 => ?_)
  refine AW.heq (h1 := [.inr (6, [.ref 1, .ref 3, .ref 11, .ref 19, .ref 27, .null, .null, .null, .null, .int 0]), .inr (4, [.ref 2, .int 0, .int 0, .int 0, .int 0]), .inl (0, (40, .inl (fun _ => 0))), .inr (0, [.int 0, .int 0, .int 0, .ref 4, .ref 5, .ref 6, .ref 7, .ref 8, .ref 9, .ref 10]), .inl (0, (6, .inl (fun _ => 0))), .inl (0, (6, .inl (fun _ => 0))), .inl (0, (36, .inl (fun _ => 0))), .inl (0, (9, .inl (fun _ => 0))), .inl (0, (9, .inl (fun _ => 0))), .inl (0, (9, .inl (fun _ => 0))), .inl (0, (9, .inl (fun _ => 0))), .inr (0, [.int 0, .int 0, .int 0, .ref 12, .ref 13, .ref 14, .ref 15, .ref 16, .ref 17, .ref 18]), .inl (0, (6, .inl (fun _ => 0))), .inl (0, (6, .inl (fun _ => 0))), .inl (0, (36, .inl (fun _ => 0))), .inl (0, (9, .inl (fun _ => 0))), .inl (0, (9, .inl (fun _ => 0))), .inl (0, (9, .inl (fun _ => 0))), .inl (0, (9, .inl (fun _ => 0))), .inr (0, [.int 0, .int 0, .int 0, .ref 20, .ref 21, .ref 22, .ref 23, .ref 24, .ref 25, .ref 26]), .inl (0, (6, .inl (fun _ => 0))), .inl (0, (6, .inl (fun _ => 0))), .inl (0, (36, .inl (fun _ => 0))), .inl (0, (9, .inl (fun _ => 0))), .inl (0, (9, .inl (fun _ => 0))), .inl (0, (9, .inl (fun _ => 0))), .inl (0, (9, .inl (fun _ => 0))), .inr (3, [.ref 28, .ref 29, .int 0, .int 0, .int 0]), .inl (0, (6, .inl (fun _ => 0))), .inl (0, (9, .inl (fun _ => 0))), .inr (1, [.ref 31, .null, .null, .null, .null, .int 0, .int 0, .int 0, .int 0]), .inl (0, (6, .inl (fun _ => 0))), .inl (0, (9, .inl (fun _ => 0)))]) rfl ?_
  refine AW.keq (k1 := 2) (n1 := 15) rfl rfl ?_
  refine aw_putF hn dX1_init_17 pnX1_15 (fun _ => ⟨rfl, rfl⟩) rfl ?_
  refine AW.heq (h1 := [.inr (6, [.ref 1, .ref 3, .ref 11, .ref 19, .ref 27, .null, .null, .null, .null, .int 0]), .inr (4, [.ref 2, .int 0, .int 0, .int 0, .int 0]), .inl (0, (40, .inl (fun _ => 0))), .inr (0, [.int 0, .int 0, .int 0, .ref 4, .ref 5, .ref 6, .ref 7, .ref 8, .ref 9, .ref 10]), .inl (0, (6, .inl (fun _ => 0))), .inl (0, (6, .inl (fun _ => 0))), .inl (0, (36, .inl (fun _ => 0))), .inl (0, (9, .inl (fun _ => 0))), .inl (0, (9, .inl (fun _ => 0))), .inl (0, (9, .inl (fun _ => 0))), .inl (0, (9, .inl (fun _ => 0))), .inr (0, [.int 0, .int 0, .int 0, .ref 12, .ref 13, .ref 14, .ref 15, .ref 16, .ref 17, .ref 18]), .inl (0, (6, .inl (fun _ => 0))), .inl (0, (6, .inl (fun _ => 0))), .inl (0, (36, .inl (fun _ => 0))), .inl (0, (9, .inl (fun _ => 0))), .inl (0, (9, .inl (fun _ => 0))), .inl (0, (9, .inl (fun _ => 0))), .inl (0, (9, .inl (fun _ => 0))), .inr (0, [.int 0, .int 0, .int 0, .ref 20, .ref 21, .ref 22, .ref 23, .ref 24, .ref 25, .ref 26]), .inl (0, (6, .inl (fun _ => 0))), .inl (0, (6, .inl (fun _ => 0))), .inl (0, (36, .inl (fun _ => 0))), .inl (0, (9, .inl (fun _ => 0))), .inl (0, (9, .inl (fun _ => 0))), .inl (0, (9, .inl (fun _ => 0))), .inl (0, (9, .inl (fun _ => 0))), .inr (3, [.ref 28, .ref 29, .int 0, .int 0, .int 0]), .inl (0, (6, .inl (fun _ => 0))), .inl (0, (9, .inl (fun _ => 0))), .inr (1, [.ref 31, .ref 32, .null, .null, .null, .int 0, .int 0, .int 0, .int 0]), .inl (0, (6, .inl (fun _ => 0))), .inl (0, (9, .inl (fun _ => 0)))]) rfl ?_
  refine AW.keq (k1 := 2) (n1 := 15) rfl rfl ?_
  refine aw_aload_n 0 dX1_init_20 rfl rfl ?_
  refine aw_bipush (v := 9) dX1_init_21 (by decide) ?_
  refine aw_newa (kd := 0) (N := 9) (ty := .int) (a0 := (9, .inl (fun _ => 0))) dX1_init_23 wa_int rfl (Or.inl ⟨rfl, rfl⟩) (ha_int 9) (fun _ => rfl) (by decide) (by decide) (by decide) ⟨Nat.le_of_ble_eq_true rfl, Nat.le_of_ble_eq_true rfl⟩ (N0 := 33) (by decide +kernel) (by decide) (by decide +kernel) (by decide +kernel) (fun a3 A3 => ?_)
  refine AW.heq (h1 := [.inr (6, [.ref 1, .ref 3, .ref 11, .ref 19, .ref 27, .null, .null, .null, .null, .int 0]), .inr (4, [.ref 2, .int 0, .int 0, .int 0, .int 0]), .inl (0, (40, .inl (fun _ => 0))), .inr (0, [.int 0, .int 0, .int 0, .ref 4, .ref 5, .ref 6, .ref 7, .ref 8, .ref 9, .ref 10]), .inl (0, (6, .inl (fun _ => 0))), .inl (0, (6, .inl (fun _ => 0))), .inl (0, (36, .inl (fun _ => 0))), .inl (0, (9, .inl (fun _ => 0))), .inl (0, (9, .inl (fun _ => 0))), .inl (0, (9, .inl (fun _ => 0))), .inl (0, (9, .inl (fun _ => 0))), .inr (0, [.int 0, .int 0, .int 0, .ref 12, .ref 13, .ref 14, .ref 15, .ref 16, .ref 17, .ref 18]), .inl (0, (6, .inl (fun _ => 0))), .inl (0, (6, .inl (fun _ => 0))), .inl (0, (36, .inl (fun _ => 0))), .inl (0, (9, .inl (fun _ => 0))), .inl (0, (9, .inl (fun _ => 0))), .inl (0, (9, .inl (fun _ => 0))), .inl (0, (9, .inl (fun _ => 0))), .inr (0, [.int 0, .int 0, .int 0, .ref 20, .ref 21, .ref 22, .ref 23, .ref 24, .ref 25, .ref 26]), .inl (0, (6, .inl (fun _ => 0))), .inl (0, (6, .inl (fun _ => 0))), .inl (0, (36, .inl (fun _ => 0))), .inl (0, (9, .inl (fun _ => 0))), .inl (0, (9, .inl (fun _ => 0))), .inl (0, (9, .inl (fun _ => 0))), .inl (0, (9, .inl (fun _ => 0))), .inr (3, [.ref 28, .ref 29, .int 0, .int 0, .int 0]), .inl (0, (6, .inl (fun _ => 0))), .inl (0, (9, .inl (fun _ => 0))), .inr (1, [.ref 31, .ref 32, .null, .null, .null, .int 0, .int 0, .int 0, .int 0]), .inl (0, (6, .inl (fun _ => 0))), .inl (0, (9, .inl (fun _ => 0))), .inl (0, (9, .inl (fun _ => 0)))]) rfl ?_
  refine AW.keq (k1 := 3) (n1 := 24) rfl rfl ?_
  refine aw_putF hn dX1_init_25 pnX1_18 (fun _ => ⟨rfl, rfl⟩) rfl ?_
  refine AW.heq (h1 := [.inr (6, [.ref 1, .ref 3, .ref 11, .ref 19, .ref 27, .null, .null, .null, .null, .int 0]), .inr (4, [.ref 2, .int 0, .int 0, .int 0, .int 0]), .inl (0, (40, .inl (fun _ => 0))), .inr (0, [.int 0, .int 0, .int 0, .ref 4, .ref 5, .ref 6, .ref 7, .ref 8, .ref 9, .ref 10]), .inl (0, (6, .inl (fun _ => 0))), .inl (0, (6, .inl (fun _ => 0))), .inl (0, (36, .inl (fun _ => 0))), .inl (0, (9, .inl (fun _ => 0))), .inl (0, (9, .inl (fun _ => 0))), .inl (0, (9, .inl (fun _ => 0))), .inl (0, (9, .inl (fun _ => 0))), .inr (0, [.int 0, .int 0, .int 0, .ref 12, .ref 13, .ref 14, .ref 15, .ref 16, .ref 17, .ref 18]), .inl (0, (6, .inl (fun _ => 0))), .inl (0, (6, .inl (fun _ => 0))), .inl (0, (36, .inl (fun _ => 0))), .inl (0, (9, .inl (fun _ => 0))), .inl (0, (9, .inl (fun _ => 0))), .inl (0, (9, .inl (fun _ => 0))), .inl (0, (9, .inl (fun _ => 0))), .inr (0, [.int 0, .int 0, .int 0, .ref 20, .ref 21, .ref 22, .ref 23, .ref 24, .ref 25, .ref 26]), .inl (0, (6, .inl (fun _ => 0))), .inl (0, (6, .inl (fun _ => 0))), .inl (0, (36, .inl (fun _ => 0))), .inl (0, (9, .inl (fun _ => 0))), .inl (0, (9, .inl (fun _ => 0))), .inl (0, (9, .inl (fun _ => 0))), .inl (0, (9, .inl (fun _ => 0))), .inr (3, [.ref 28, .ref 29, .int 0, .int 0, .int 0]), .inl (0, (6, .inl (fun _ => 0))), .inl (0, (9, .inl (fun _ => 0))), .inr (1, [.ref 31, .ref 32, .ref 33, .null, .null, .int 0, .int 0, .int 0, .int 0]), .inl (0, (6, .inl (fun _ => 0))), .inl (0, (9, .inl (fun _ => 0))), .inl (0, (9, .inl (fun _ => 0)))]) rfl ?_
  refine AW.keq (k1 := 3) (n1 := 24) rfl rfl ?_
  refine aw_aload_n 0 dX1_init_28 rfl rfl ?_
  refine aw_bipush (v := 9) dX1_init_29 (by decide) ?_
  refine aw_newa (kd := 0) (N := 9) (ty := .int) (a0 := (9, .inl (fun _ => 0))) dX1_init_31 wa_int rfl (Or.inl ⟨rfl, rfl⟩) (ha_int 9) (fun _ => rfl) (by decide) (by decide) (by decide) ⟨Nat.le_of_ble_eq_true rfl, Nat.le_of_ble_eq_true rfl⟩ (N0 := 34) (by decide +kernel) (by decide) (by decide +kernel) (by decide +kernel) (fun a4 A4 => ?_)
  refine AW.heq (h1 := [.inr (6, [.ref 1, .ref 3, .ref 11, .ref 19, .ref 27, .null, .null, .null, .null, .int 0]), .inr (4, [.ref 2, .int 0, .int 0, .int 0, .int 0]), .inl (0, (40, .inl (fun _ => 0))), .inr (0, [.int 0, .int 0, .int 0, .ref 4, .ref 5, .ref 6, .ref 7, .ref 8, .ref 9, .ref 10]), .inl (0, (6, .inl (fun _ => 0))), .inl (0, (6, .inl (fun _ => 0))), .inl (0, (36, .inl (fun _ => 0))), .inl (0, (9, .inl (fun _ => 0))), .inl (0, (9, .inl (fun _ => 0))), .inl (0, (9, .inl (fun _ => 0))), .inl (0, (9, .inl (fun _ => 0))), .inr (0, [.int 0, .int 0, .int 0, .ref 12, .ref 13, .ref 14, .ref 15, .ref 16, .ref 17, .ref 18]), .inl (0, (6, .inl (fun _ => 0))), .inl (0, (6, .inl (fun _ => 0))), .inl (0, (36, .inl (fun _ => 0))), .inl (0, (9, .inl (fun _ => 0))), .inl (0, (9, .inl (fun _ => 0))), .inl (0, (9, .inl (fun _ => 0))), .inl (0, (9, .inl (fun _ => 0))), .inr (0, [.int 0, .int 0, .int 0, .ref 20, .ref 21, .ref 22, .ref 23, .ref 24, .ref 25, .ref 26]), .inl (0, (6, .inl (fun _ => 0))), .inl (0, (6, .inl (fun _ => 0))), .inl (0, (36, .inl (fun _ => 0))), .inl (0, (9, .inl (fun _ => 0))), .inl (0, (9, .inl (fun _ => 0))), .inl (0, (9, .inl (fun _ => 0))), .inl (0, (9, .inl (fun _ => 0))), .inr (3, [.ref 28, .ref 29, .int 0, .int 0, .int 0]), .inl (0, (6, .inl (fun _ => 0))), .inl (0, (9, .inl (fun _ => 0))), .inr (1, [.ref 31, .ref 32, .ref 33, .null, .null, .int 0, .int 0, .int 0, .int 0]), .inl (0, (6, .inl (fun _ => 0))), .inl (0, (9, .inl (fun _ => 0))), .inl (0, (9, .inl (fun _ => 0))), .inl (0, (9, .inl (fun _ => 0)))]) rfl ?_
  refine AW.keq (k1 := 4) (n1 := 33) rfl rfl ?_
  refine aw_putF hn dX1_init_33 pnX1_21 (fun _ => ⟨rfl, rfl⟩) rfl ?_
  refine AW.heq (h1 := [.inr (6, [.ref 1, .ref 3, .ref 11, .ref 19, .ref 27, .null, .null, .null, .null, .int 0]), .inr (4, [.ref 2, .int 0, .int 0, .int 0, .int 0]), .inl (0, (40, .inl (fun _ => 0))), .inr (0, [.int 0, .int 0, .int 0, .ref 4, .ref 5, .ref 6, .ref 7, .ref 8, .ref 9, .ref 10]), .inl (0, (6, .inl (fun _ => 0))), .inl (0, (6, .inl (fun _ => 0))), .inl (0, (36, .inl (fun _ => 0))), .inl (0, (9, .inl (fun _ => 0))), .inl (0, (9, .inl (fun _ => 0))), .inl (0, (9, .inl (fun _ => 0))), .inl (0, (9, .inl (fun _ => 0))), .inr (0, [.int 0, .int 0, .int 0, .ref 12, .ref 13, .ref 14, .ref 15, .ref 16, .ref 17, .ref 18]), .inl (0, (6, .inl (fun _ => 0))), .inl (0, (6, .inl (fun _ => 0))), .inl (0, (36, .inl (fun _ => 0))), .inl (0, (9, .inl (fun _ => 0))), .inl (0, (9, .inl (fun _ => 0))), .inl (0, (9, .inl (fun _ => 0))), .inl (0, (9, .inl (fun _ => 0))), .inr (0, [.int 0, .int 0, .int 0, .ref 20, .ref 21, .ref 22, .ref 23, .ref 24, .ref 25, .ref 26]), .inl (0, (6, .inl (fun _ => 0))), .inl (0, (6, .inl (fun _ => 0))), .inl (0, (36, .inl (fun _ => 0))), .inl (0, (9, .inl (fun _ => 0))), .inl (0, (9, .inl (fun _ => 0))), .inl (0, (9, .inl (fun _ => 0))), .inl (0, (9, .inl (fun _ => 0))), .inr (3, [.ref 28, .ref 29, .int 0, .int 0, .int 0]), .inl (0, (6, .inl (fun _ => 0))), .inl (0, (9, .inl (fun _ => 0))), .inr (1, [.ref 31, .ref 32, .ref 33, .ref 34, .null, .int 0, .int 0, .int 0, .int 0]), .inl (0, (6, .inl (fun _ => 0))), .inl (0, (9, .inl (fun _ => 0))), .inl (0, (9, .inl (fun _ => 0))), .inl (0, (9, .inl (fun _ => 0)))]) rfl ?_
  refine AW.keq (k1 := 4) (n1 := 33) rfl rfl ?_
  refine aw_aload_n 0 dX1_init_36 rfl rfl ?_
  refine aw_bipush (v := 9) dX1_init_37 (by decide) ?_
  refine aw_newa (kd := 0) (N := 9) (ty := .int) (a0 := (9, .inl (fun _ => 0))) dX1_init_39 wa_int rfl (Or.inl ⟨rfl, rfl⟩) (ha_int 9) (fun _ => rfl) (by decide) (by decide) (by decide) ⟨Nat.le_of_ble_eq_true rfl, Nat.le_of_ble_eq_true rfl⟩ (N0 := 35) (by decide +kernel) (by decide) (by decide +kernel) (by decide +kernel) (fun a5 A5 => ?_)
  refine AW.heq (h1 := [.inr (6, [.ref 1, .ref 3, .ref 11, .ref 19, .ref 27, .null, .null, .null, .null, .int 0]), .inr (4, [.ref 2, .int 0, .int 0, .int 0, .int 0]), .inl (0, (40, .inl (fun _ => 0))), .inr (0, [.int 0, .int 0, .int 0, .ref 4, .ref 5, .ref 6, .ref 7, .ref 8, .ref 9, .ref 10]), .inl (0, (6, .inl (fun _ => 0))), .inl (0, (6, .inl (fun _ => 0))), .inl (0, (36, .inl (fun _ => 0))), .inl (0, (9, .inl (fun _ => 0))), .inl (0, (9, .inl (fun _ => 0))), .inl (0, (9, .inl (fun _ => 0))), .inl (0, (9, .inl (fun _ => 0))), .inr (0, [.int 0, .int 0, .int 0, .ref 12, .ref 13, .ref 14, .ref 15, .ref 16, .ref 17, .ref 18]), .inl (0, (6, .inl (fun _ => 0))), .inl (0, (6, .inl (fun _ => 0))), .inl (0, (36, .inl (fun _ => 0))), .inl (0, (9, .inl (fun _ => 0))), .inl (0, (9, .inl (fun _ => 0))), .inl (0, (9, .inl (fun _ => 0))), .inl (0, (9, .inl (fun _ => 0))), .inr (0, [.int 0, .int 0, .int 0, .ref 20, .ref 21, .ref 22, .ref 23, .ref 24, .ref 25, .ref 26]), .inl (0, (6, .inl (fun _ => 0))), .inl (0, (6, .inl (fun _ => 0))), .inl (0, (36, .inl (fun _ => 0))), .inl (0, (9, .inl (fun _ => 0))), .inl (0, (9, .inl (fun _ => 0))), .inl (0, (9, .inl (fun _ => 0))), .inl (0, (9, .inl (fun _ => 0))), .inr (3, [.ref 28, .ref 29, .int 0, .int 0, .int 0]), .inl (0, (6, .inl (fun _ => 0))), .inl (0, (9, .inl (fun _ => 0))), .inr (1, [.ref 31, .ref 32, .ref 33, .ref 34, .null, .int 0, .int 0, .int 0, .int 0]), .inl (0, (6, .inl (fun _ => 0))), .inl (0, (9, .inl (fun _ => 0))), .inl (0, (9, .inl (fun _ => 0))), .inl (0, (9, .inl (fun _ => 0))), .inl (0, (9, .inl (fun _ => 0)))]) rfl ?_
  refine AW.keq (k1 := 5) (n1 := 42) rfl rfl ?_
  refine aw_putF hn dX1_init_41 pnX1_24 (fun _ => ⟨rfl, rfl⟩) rfl ?_
  refine AW.heq (h1 := [.inr (6, [.ref 1, .ref 3, .ref 11, .ref 19, .ref 27, .null, .null, .null, .null, .int 0]), .inr (4, [.ref 2, .int 0, .int 0, .int 0, .int 0]), .inl (0, (40, .inl (fun _ => 0))), .inr (0, [.int 0, .int 0, .int 0, .ref 4, .ref 5, .ref 6, .ref 7, .ref 8, .ref 9, .ref 10]), .inl (0, (6, .inl (fun _ => 0))), .inl (0, (6, .inl (fun _ => 0))), .inl (0, (36, .inl (fun _ => 0))), .inl (0, (9, .inl (fun _ => 0))), .inl (0, (9, .inl (fun _ => 0))), .inl (0, (9, .inl (fun _ => 0))), .inl (0, (9, .inl (fun _ => 0))), .inr (0, [.int 0, .int 0, .int 0, .ref 12, .ref 13, .ref 14, .ref 15, .ref 16, .ref 17, .ref 18]), .inl (0, (6, .inl (fun _ => 0))), .inl (0, (6, .inl (fun _ => 0))), .inl (0, (36, .inl (fun _ => 0))), .inl (0, (9, .inl (fun _ => 0))), .inl (0, (9, .inl (fun _ => 0))), .inl (0, (9, .inl (fun _ => 0))), .inl (0, (9, .inl (fun _ => 0))), .inr (0, [.int 0, .int 0, .int 0, .ref 20, .ref 21, .ref 22, .ref 23, .ref 24, .ref 25, .ref 26]), .inl (0, (6, .inl (fun _ => 0))), .inl (0, (6, .inl (fun _ => 0))), .inl (0, (36, .inl (fun _ => 0))), .inl (0, (9, .inl (fun _ => 0))), .inl (0, (9, .inl (fun _ => 0))), .inl (0, (9, .inl (fun _ => 0))), .inl (0, (9, .inl (fun _ => 0))), .inr (3, [.ref 28, .ref 29, .int 0, .int 0, .int 0]), .inl (0, (6, .inl (fun _ => 0))), .inl (0, (9, .inl (fun _ => 0))), .inr (1, [.ref 31, .ref 32, .ref 33, .ref 34, .ref 35, .int 0, .int 0, .int 0, .int 0]), .inl (0, (6, .inl (fun _ => 0))), .inl (0, (9, .inl (fun _ => 0))), .inl (0, (9, .inl (fun _ => 0))), .inl (0, (9, .inl (fun _ => 0))), .inl (0, (9, .inl (fun _ => 0)))]) rfl ?_
  refine AW.keq (k1 := 5) (n1 := 42) rfl rfl ?_
  exact aw_vret hr dX1_init_44 ⟨(Agr.tr (by decide) A5 (Agr.tr (by decide) A4 (Agr.tr (by decide) A3 (Agr.tr (by decide) A2 (Agr.tr (by decide) A1 Agr.rf))))), rfl, rfl⟩
theorem dX5_init_0 : decode cX5_init 0 = .ok (.aload_n 0, 1) := by decide +kernel
theorem dX5_init_1 : decode cX5_init 1 = .ok (.invokespecial 3, 3) := by decide +kernel
theorem dX5_init_4 : decode cX5_init 4 = .ok (.aload_n 0, 1) := by decide +kernel
theorem dX5_init_5 : decode cX5_init 5 = .ok (.bipush 6, 2) := by decide +kernel
theorem dX5_init_7 : decode cX5_init 7 = .ok (.newarray .int, 2) := by decide +kernel
theorem dX5_init_9 : decode cX5_init 9 = .ok (.putfield 9, 3) := by decide +kernel
theorem dX5_init_12 : decode cX5_init 12 = .ok (.aload_n 0, 1) := by decide +kernel
theorem dX5_init_13 : decode cX5_init 13 = .ok (.bipush 9, 2) := by decide +kernel
theorem dX5_init_15 : decode cX5_init 15 = .ok (.newarray .int, 2) := by decide +kernel
theorem dX5_init_17 : decode cX5_init 17 = .ok (.putfield 15, 3) := by decide +kernel
theorem dX5_init_20 : decode cX5_init 20 = .ok (.aload_n 0, 1) := by decide +kernel
theorem dX5_init_21 : decode cX5_init 21 = .ok (.bipush 81, 2) := by decide +kernel
theorem dX5_init_23 : decode cX5_init 23 = .ok (.newarray .long, 2) := by decide +kernel
theorem dX5_init_25 : decode cX5_init 25 = .ok (.putfield 18, 3) := by decide +kernel
theorem dX5_init_28 : decode cX5_init 28 = .ok (.return_, 1) := by decide +kernel
set_option maxRecDepth 100000 in
set_option maxHeartbeats 4000000 in
theorem k7_X5_init : MtQ 1 3 96 yX5_init cX5_init 1 none [.ref 36] hi_12 (Qn 37 hi_13) := by
  refine MtQ.of (by decide) (by decide) (fun X adr hr hn => ?_)
  refine AW.heq (h1 := [.inr (6, [.ref 1, .ref 3, .ref 11, .ref 19, .ref 27, .ref 30, .null, .null, .null, .int 0]), .inr (4, [.ref 2, .int 0, .int 0, .int 0, .int 0]), .inl (0, (40, .inl (fun _ => 0))), .inr (0, [.int 0, .int 0, .int 0, .ref 4, .ref 5, .ref 6, .ref 7, .ref 8, .ref 9, .ref 10]), .inl (0, (6, .inl (fun _ => 0))), .inl (0, (6, .inl (fun _ => 0))), .inl (0, (36, .inl (fun _ => 0))), .inl (0, (9, .inl (fun _ => 0))), .inl (0, (9, .inl (fun _ => 0))), .inl (0, (9, .inl (fun _ => 0))), .inl (0, (9, .inl (fun _ => 0))), .inr (0, [.int 0, .int 0, .int 0, .ref 12, .ref 13, .ref 14, .ref 15, .ref 16, .ref 17, .ref 18]), .inl (0, (6, .inl (fun _ => 0))), .inl (0, (6, .inl (fun _ => 0))), .inl (0, (36, .inl (fun _ => 0))), .inl (0, (9, .inl (fun _ => 0))), .inl (0, (9, .inl (fun _ => 0))), .inl (0, (9, .inl (fun _ => 0))), .inl (0, (9, .inl (fun _ => 0))), .inr (0, [.int 0, .int 0, .int 0, .ref 20, .ref 21, .ref 22, .ref 23, .ref 24, .ref 25, .ref 26]), .inl (0, (6, .inl (fun _ => 0))), .inl (0, (6, .inl (fun _ => 0))), .inl (0, (36, .inl (fun _ => 0))), .inl (0, (9, .inl (fun _ => 0))), .inl (0, (9, .inl (fun _ => 0))), .inl (0, (9, .inl (fun _ => 0))), .inl (0, (9, .inl (fun _ => 0))), .inr (3, [.ref 28, .ref 29, .int 0, .int 0, .int 0]), .inl (0, (6, .inl (fun _ => 0))), .inl (0, (9, .inl (fun _ => 0))), .inr (1, [.ref 31, .ref 32, .ref 33, .ref 34, .ref 35, .int 0, .int 0, .int 0, .int 0]), .inl (0, (6, .inl (fun _ => 0))), .inl (0, (9, .inl (fun _ => 0))), .inl (0, (9, .inl (fun _ => 0))), .inl (0, (9, .inl (fun _ => 0))), .inl (0, (9, .inl (fun _ => 0))), .inr (5, [.null, .null, .null, .int 0, .int 0])]) rfl ?_
  refine AW.leq (L1 := [(0, .ref 36)]) rfl ?_
  refine aw_aload_n 0 dX5_init_0 rfl rfl ?_
  refine aw_objInit dX5_init_1 moX5_3 (by decide) (by decide) ?_
  refine aw_aload_n 0 dX5_init_4 rfl rfl ?_
  refine aw_bipush (v := 6) dX5_init_5 (by decide) ?_
  refine aw_newa (kd := 0) (N := 6) (ty := .int) (a0 := (6, .inl (fun _ => 0))) dX5_init_7 wa_int rfl (Or.inl ⟨rfl, rfl⟩) (ha_int 6) (fun _ => rfl) (by decide) (by decide) (by decide) ⟨Nat.le_of_ble_eq_true rfl, Nat.le_of_ble_eq_true rfl⟩ (N0 := 37) (by decide +kernel) (by decide) (by decide +kernel) (by decide +kernel) (fun a1 A1 => ?_)
  refine AW.heq (h1 := [.inr (6, [.ref 1, .ref 3, .ref 11, .ref 19, .ref 27, .ref 30, .null, .null, .null, .int 0]), .inr (4, [.ref 2, .int 0, .int 0, .int 0, .int 0]), .inl (0, (40, .inl (fun _ => 0))), .inr (0, [.int 0, .int 0, .int 0, .ref 4, .ref 5, .ref 6, .ref 7, .ref 8, .ref 9, .ref 10]), .inl (0, (6, .inl (fun _ => 0))), .inl (0, (6, .inl (fun _ => 0))), .inl (0, (36, .inl (fun _ => 0))), .inl (0, (9, .inl (fun _ => 0))), .inl (0, (9, .inl (fun _ => 0))), .inl (0, (9, .inl (fun _ => 0))), .inl (0, (9, .inl (fun _ => 0))), .inr (0, [.int 0, .int 0, .int 0, .ref 12, .ref 13, .ref 14, .ref 15, .ref 16, .ref 17, .ref 18]), .inl (0, (6, .inl (fun _ => 0))), .inl (0, (6, .inl (fun _ => 0))), .inl (0, (36, .inl (fun _ => 0))), .inl (0, (9, .inl (fun _ => 0))), .inl (0, (9, .inl (fun _ => 0))), .inl (0, (9, .inl (fun _ => 0))), .inl (0, (9, .inl (fun _ => 0))), .inr (0, [.int 0, .int 0, .int 0, .ref 20, .ref 21, .ref 22, .ref 23, .ref 24, .ref 25, .ref 26]), .inl (0, (6, .inl (fun _ => 0))), .inl (0, (6, .inl (fun _ => 0))), .inl (0, (36, .inl (fun _ => 0))), .inl (0, (9, .inl (fun _ => 0))), .inl (0, (9, .inl (fun _ => 0))), .inl (0, (9, .inl (fun _ => 0))), .inl (0, (9, .inl (fun _ => 0))), .inr (3, [.ref 28, .ref 29, .int 0, .int 0, .int 0]), .inl (0, (6, .inl (fun _ => 0))), .inl (0, (9, .inl (fun _ => 0))), .inr (1, [.ref 31, .ref 32, .ref 33, .ref 34, .ref 35, .int 0, .int 0, .int 0, .int 0]), .inl (0, (6, .inl (fun _ => 0))), .inl (0, (9, .inl (fun _ => 0))), .inl (0, (9, .inl (fun _ => 0))), .inl (0, (9, .inl (fun _ => 0))), .inl (0, (9, .inl (fun _ => 0))), .inr (5, [.null, .null, .null, .int 0, .int 0]), .inl (0, (6, .inl (fun _ => 0)))]) rfl ?_
  refine AW.keq (k1 := 1) (n1 := 6) rfl rfl ?_
  refine aw_putF hn dX5_init_9 pnX5_9 (fun _ => ⟨rfl, rfl⟩) rfl ?_
  refine AW.heq (h1 := [.inr (6, [.ref 1, .ref 3, .ref 11, .ref 19, .ref 27, .ref 30, .null, .null, .null, .int 0]), .inr (4, [.ref 2, .int 0, .int 0, .int 0, .int 0]), .inl (0, (40, .inl (fun _ => 0))), .inr (0, [.int 0, .int 0, .int 0, .ref 4, .ref 5, .ref 6, .ref 7, .ref 8, .ref 9, .ref 10]), .inl (0, (6, .inl (fun _ => 0))), .inl (0, (6, .inl (fun _ => 0))), .inl (0, (36, .inl (fun _ => 0))), .inl (0, (9, .inl (fun _ => 0))), .inl (0, (9, .inl (fun _ => 0))), .inl (0, (9, .inl (fun _ => 0))), .inl (0, (9, .inl (fun _ => 0))), .inr (0, [.int 0, .int 0, .int 0, .ref 12, .ref 13, .ref 14, .ref 15, .ref 16, .ref 17, .ref 18]), .inl (0, (6, .inl (fun _ => 0))), .inl (0, (6, .inl (fun _ => 0))), .inl (0, (36, .inl (fun _ => 0))), .inl (0, (9, .inl (fun _ => 0))), .inl (0, (9, .inl (fun _ => 0))), .inl (0, (9, .inl (fun _ => 0))), .inl (0, (9, .inl (fun _ => 0))), .inr (0, [.int 0, .int 0, .int 0, .ref 20, .ref 21, .ref 22, .ref 23, .ref 24, .ref 25, .ref 26]), .inl (0, (6, .inl (fun _ => 0))), .inl (0, (6, .inl (fun _ => 0))), .inl (0, (36, .inl (fun _ => 0))), .inl (0, (9, .inl (fun _ => 0))), .inl (0, (9, .inl (fun _ => 0))), .inl (0, (9, .inl (fun _ => 0))), .inl (0, (9, .inl (fun _ => 0))), .inr (3, [.ref 28, .ref 29, .int 0, .int 0, .int 0]), .inl (0, (6, .inl (fun _ => 0))), .inl (0, (9, .inl (fun _ => 0))), .inr (1, [.ref 31, .ref 32, .ref 33, .ref 34, .ref 35, .int 0, .int 0, .int 0, .int 0]), .inl (0, (6, .inl (fun _ => 0))), .inl (0, (9, .inl (fun _ => 0))), .inl (0, (9, .inl (fun _ => 0))), .inl (0, (9, .inl (fun _ => 0))), .inl (0, (9, .inl (fun _ => 0))), .inr (5, [.ref 37, .null, .null, .int 0, .int 0]), .inl (0, (6, .inl (fun _ => 0)))]) rfl ?_
  refine AW.keq (k1 := 1) (n1 := 6) rfl rfl ?_
  refine aw_aload_n 0 dX5_init_12 rfl rfl ?_
  refine aw_bipush (v := 9) dX5_init_13 (by decide) ?_
  refine aw_newa (kd := 0) (N := 9) (ty := .int) (a0 := (9, .inl (fun _ => 0))) dX5_init_15 wa_int rfl (Or.inl ⟨rfl, rfl⟩) (ha_int 9) (fun _ => rfl) (by decide) (by decide) (by decide) ⟨Nat.le_of_ble_eq_true rfl, Nat.le_of_ble_eq_true rfl⟩ (N0 := 38) (by decide +kernel) (by decide) (by decide +kernel) (by decide +kernel) (fun a2 A2 => ?_)
  refine AW.heq (h1 := [.inr (6, [.ref 1, .ref 3, .ref 11, .ref 19, .ref 27, .ref 30, .null, .null, .null, .int 0]), .inr (4, [.ref 2, .int 0, .int 0, .int 0, .int 0]), .inl (0, (40, .inl (fun _ => 0))), .inr (0, [.int 0, .int 0, .int 0, .ref 4, .ref 5, .ref 6, .ref 7, .ref 8, .ref 9, .ref 10]), .inl (0, (6, .inl (fun _ => 0))), .inl (0, (6, .inl (fun _ => 0))), .inl (0, (36, .inl (fun _ => 0))), .inl (0, (9, .inl (fun _ => 0))), .inl (0, (9, .inl (fun _ => 0))), .inl (0, (9, .inl (fun _ => 0))), .inl (0, (9, .inl (fun _ => 0))), .inr (0, [.int 0, .int 0, .int 0, .ref 12, .ref 13, .ref 14, .ref 15, .ref 16, .ref 17, .ref 18]), .inl (0, (6, .inl (fun _ => 0))), .inl (0, (6, .inl (fun _ => 0))), .inl (0, (36, .inl (fun _ => 0))), .inl (0, (9, .inl (fun _ => 0))), .inl (0, (9, .inl (fun _ => 0))), .inl (0, (9, .inl (fun _ => 0))), .inl (0, (9, .inl (fun _ => 0))), .inr (0, [.int 0, .int 0, .int 0, .ref 20, .ref 21, .ref 22, .ref 23, .ref 24, .ref 25, .ref 26]), .inl (0, (6, .inl (fun _ => 0))), .inl (0, (6, .inl (fun _ => 0))), .inl (0, (36, .inl (fun _ => 0))), .inl (0, (9, .inl (fun _ => 0))), .inl (0, (9, .inl (fun _ => 0))), .inl (0, (9, .inl (fun _ => 0))), .inl (0, (9, .inl (fun _ => 0))), .inr (3, [.ref 28, .ref 29, .int 0, .int 0, .int 0]), .inl (0, (6, .inl (fun _ => 0))), .inl (0, (9, .inl (fun _ => 0))), .inr (1, [.ref 31, .ref 32, .ref 33, .ref 34, .ref 35, .int 0, .int 0, .int 0, .int 0]), .inl (0, (6, .inl (fun _ => 0))), .inl (0, (9, .inl (fun _ => 0))), .inl (0, (9, .inl (fun _ => 0))), .inl (0, (9, .inl (fun _ => 0))), .inl (0, (9, .inl (fun _ => 0))), .inr (5, [.ref 37, .null, .null, .int 0, .int 0]), .inl (0, (6, .inl (fun _ => 0))), .inl (0, (9, .inl (fun _ => 0)))]) rfl ?_
  refine AW.keq (k1 := 2) (n1 := 15) rfl rfl ?_
  refine aw_putF hn dX5_init_17 pnX5_15 (fun _ => ⟨rfl, rfl⟩) rfl ?_
  refine AW.heq (h1 := [.inr (6, [.ref 1, .ref 3, .ref 11, .ref 19, .ref 27, .ref 30, .null, .null, .null, .int 0]), .inr (4, [.ref 2, .int 0, .int 0, .int 0, .int 0]), .inl (0, (40, .inl (fun _ => 0))), .inr (0, [.int 0, .int 0, .int 0, .ref 4, .ref 5, .ref 6, .ref 7, .ref 8, .ref 9, .ref 10]), .inl (0, (6, .inl (fun _ => 0))), .inl (0, (6, .inl (fun _ => 0))), .inl (0, (36, .inl (fun _ => 0))), .inl (0, (9, .inl (fun _ => 0))), .inl (0, (9, .inl (fun _ => 0))), .inl (0, (9, .inl (fun _ => 0))), .inl (0, (9, .inl (fun _ => 0))), .inr (0, [.int 0, .int 0, .int 0, .ref 12, .ref 13, .ref 14, .ref 15, .ref 16, .ref 17, .ref 18]), .inl (0, (6, .inl (fun _ => 0))), .inl (0, (6, .inl (fun _ => 0))), .inl (0, (36, .inl (fun _ => 0))), .inl (0, (9, .inl (fun _ => 0))), .inl (0, (9, .inl (fun _ => 0))), .inl (0, (9, .inl (fun _ => 0))), .inl (0, (9, .inl (fun _ => 0))), .inr (0, [.int 0, .int 0, .int 0, .ref 20, .ref 21, .ref 22, .ref 23, .ref 24, .ref 25, .ref 26]), .inl (0, (6, .inl (fun _ => 0))), .inl (0, (6, .inl (fun _ => 0))), .inl (0, (36, .inl (fun _ => 0))), .inl (0, (9, .inl (fun _ => 0))), .inl (0, (9, .inl (fun _ => 0))), .inl (0, (9, .inl (fun _ => 0))), .inl (0, (9, .inl (fun _ => 0))), .inr (3, [.ref 28, .ref 29, .int 0, .int 0, .int 0]), .inl (0, (6, .inl (fun _ => 0))), .inl (0, (9, .inl (fun _ => 0))), .inr (1, [.ref 31, .ref 32, .ref 33, .ref 34, .ref 35, .int 0, .int 0, .int 0, .int 0]), .inl (0, (6, .inl (fun _ => 0))), .inl (0, (9, .inl (fun _ => 0))), .inl (0, (9, .inl (fun _ => 0))), .inl (0, (9, .inl (fun _ => 0))), .inl (0, (9, .inl (fun _ => 0))), .inr (5, [.ref 37, .ref 38, .null, .int 0, .int 0]), .inl (0, (6, .inl (fun _ => 0))), .inl (0, (9, .inl (fun _ => 0)))]) rfl ?_
  refine AW.keq (k1 := 2) (n1 := 15) rfl rfl ?_
  refine aw_aload_n 0 dX5_init_20 rfl rfl ?_
  refine aw_bipush (v := 81) dX5_init_21 (by decide) ?_
  refine aw_newa (kd := 1) (N := 81) (ty := .long) (a0 := (81, .inr (.inl (fun _ => 0)))) dX5_init_23 wa_long rfl (Or.inr ⟨rfl, rfl⟩) (ha_long 81) (fun _ => rfl) (by decide) (by decide) (by decide) ⟨Nat.le_of_ble_eq_true rfl, Nat.le_of_ble_eq_true rfl⟩ (N0 := 39) (by decide +kernel) (by decide) (by decide +kernel) (by decide +kernel) (fun a3 A3 => ?_)
  refine AW.heq (h1 := [.inr (6, [.ref 1, .ref 3, .ref 11, .ref 19, .ref 27, .ref 30, .null, .null, .null, .int 0]), .inr (4, [.ref 2, .int 0, .int 0, .int 0, .int 0]), .inl (0, (40, .inl (fun _ => 0))), .inr (0, [.int 0, .int 0, .int 0, .ref 4, .ref 5, .ref 6, .ref 7, .ref 8, .ref 9, .ref 10]), .inl (0, (6, .inl (fun _ => 0))), .inl (0, (6, .inl (fun _ => 0))), .inl (0, (36, .inl (fun _ => 0))), .inl (0, (9, .inl (fun _ => 0))), .inl (0, (9, .inl (fun _ => 0))), .inl (0, (9, .inl (fun _ => 0))), .inl (0, (9, .inl (fun _ => 0))), .inr (0, [.int 0, .int 0, .int 0, .ref 12, .ref 13, .ref 14, .ref 15, .ref 16, .ref 17, .ref 18]), .inl (0, (6, .inl (fun _ => 0))), .inl (0, (6, .inl (fun _ => 0))), .inl (0, (36, .inl (fun _ => 0))), .inl (0, (9, .inl (fun _ => 0))), .inl (0, (9, .inl (fun _ => 0))), .inl (0, (9, .inl (fun _ => 0))), .inl (0, (9, .inl (fun _ => 0))), .inr (0, [.int 0, .int 0, .int 0, .ref 20, .ref 21, .ref 22, .ref 23, .ref 24, .ref 25, .ref 26]), .inl (0, (6, .inl (fun _ => 0))), .inl (0, (6, .inl (fun _ => 0))), .inl (0, (36, .inl (fun _ => 0))), .inl (0, (9, .inl (fun _ => 0))), .inl (0, (9, .inl (fun _ => 0))), .inl (0, (9, .inl (fun _ => 0))), .inl (0, (9, .inl (fun _ => 0))), .inr (3, [.ref 28, .ref 29, .int 0, .int 0, .int 0]), .inl (0, (6, .inl (fun _ => 0))), .inl (0, (9, .inl (fun _ => 0))), .inr (1, [.ref 31, .ref 32, .ref 33, .ref 34, .ref 35, .int 0, .int 0, .int 0, .int 0]), .inl (0, (6, .inl (fun _ => 0))), .inl (0, (9, .inl (fun _ => 0))), .inl (0, (9, .inl (fun _ => 0))), .inl (0, (9, .inl (fun _ => 0))), .inl (0, (9, .inl (fun _ => 0))), .inr (5, [.ref 37, .ref 38, .null, .int 0, .int 0]), .inl (0, (6, .inl (fun _ => 0))), .inl (0, (9, .inl (fun _ => 0))), .inl (1, (81, .inr (.inl (fun _ => 0))))]) rfl ?_
  refine AW.keq (k1 := 3) (n1 := 96) rfl rfl ?_
  refine aw_putF hn dX5_init_25 pnX5_18 (fun _ => ⟨rfl, rfl⟩) rfl ?_
  refine AW.heq (h1 := [.inr (6, [.ref 1, .ref 3, .ref 11, .ref 19, .ref 27, .ref 30, .null, .null, .null, .int 0]), .inr (4, [.ref 2, .int 0, .int 0, .int 0, .int 0]), .inl (0, (40, .inl (fun _ => 0))), .inr (0, [.int 0, .int 0, .int 0, .ref 4, .ref 5, .ref 6, .ref 7, .ref 8, .ref 9, .ref 10]), .inl (0, (6, .inl (fun _ => 0))), .inl (0, (6, .inl (fun _ => 0))), .inl (0, (36, .inl (fun _ => 0))), .inl (0, (9, .inl (fun _ => 0))), .inl (0, (9, .inl (fun _ => 0))), .inl (0, (9, .inl (fun _ => 0))), .inl (0, (9, .inl (fun _ => 0))), .inr (0, [.int 0, .int 0, .int 0, .ref 12, .ref 13, .ref 14, .ref 15, .ref 16, .ref 17, .ref 18]), .inl (0, (6, .inl (fun _ => 0))), .inl (0, (6, .inl (fun _ => 0))), .inl (0, (36, .inl (fun _ => 0))), .inl (0, (9, .inl (fun _ => 0))), .inl (0, (9, .inl (fun _ => 0))), .inl (0, (9, .inl (fun _ => 0))), .inl (0, (9, .inl (fun _ => 0))), .inr (0, [.int 0, .int 0, .int 0, .ref 20, .ref 21, .ref 22, .ref 23, .ref 24, .ref 25, .ref 26]), .inl (0, (6, .inl (fun _ => 0))), .inl (0, (6, .inl (fun _ => 0))), .inl (0, (36, .inl (fun _ => 0))), .inl (0, (9, .inl (fun _ => 0))), .inl (0, (9, .inl (fun _ => 0))), .inl (0, (9, .inl (fun _ => 0))), .inl (0, (9, .inl (fun _ => 0))), .inr (3, [.ref 28, .ref 29, .int 0, .int 0, .int 0]), .inl (0, (6, .inl (fun _ => 0))), .inl (0, (9, .inl (fun _ => 0))), .inr (1, [.ref 31, .ref 32, .ref 33, .ref 34, .ref 35, .int 0, .int 0, .int 0, .int 0]), .inl (0, (6, .inl (fun _ => 0))), .inl (0, (9, .inl (fun _ => 0))), .inl (0, (9, .inl (fun _ => 0))), .inl (0, (9, .inl (fun _ => 0))), .inl (0, (9, .inl (fun _ => 0))), .inr (5, [.ref 37, .ref 38, .ref 39, .int 0, .int 0]), .inl (0, (6, .inl (fun _ => 0))), .inl (0, (9, .inl (fun _ => 0))), .inl (1, (81, .inr (.inl (fun _ => 0))))]) rfl ?_
  refine AW.keq (k1 := 3) (n1 := 96) rfl rfl ?_
  exact aw_vret hr dX5_init_28 ⟨(Agr.tr (by decide) A3 (Agr.tr (by decide) A2 (Agr.tr (by decide) A1 Agr.rf))), rfl, rfl⟩
theorem dX2_init_0 : decode cX2_init 0 = .ok (.aload_n 0, 1) := by decide +kernel
theorem dX2_init_1 : decode cX2_init 1 = .ok (.invokespecial 3, 3) := by decide +kernel
theorem dX2_init_4 : decode cX2_init 4 = .ok (.aload_n 0, 1) := by decide +kernel
theorem dX2_init_5 : decode cX2_init 5 = .ok (.bipush 40, 2) := by decide +kernel
theorem dX2_init_7 : decode cX2_init 7 = .ok (.newarray .int, 2) := by decide +kernel
theorem dX2_init_9 : decode cX2_init 9 = .ok (.putfield 9, 3) := by decide +kernel
theorem dX2_init_12 : decode cX2_init 12 = .ok (.aload_n 0, 1) := by decide +kernel
theorem dX2_init_13 : decode cX2_init 13 = .ok (.iconst (-1), 1) := by decide +kernel
theorem dX2_init_14 : decode cX2_init 14 = .ok (.putfield 15, 3) := by decide +kernel
theorem dX2_init_17 : decode cX2_init 17 = .ok (.return_, 1) := by decide +kernel
set_option maxRecDepth 100000 in
set_option maxHeartbeats 4000000 in
theorem k8_X2_init : MtQ 1 1 40 yX2_init cX2_init 1 none [.ref 42] hi_14 (Qn 43 hi_15) := by
  refine MtQ.of (by decide) (by decide) (fun X adr hr hn => ?_)
  refine AW.heq (h1 := [.inr (6, [.ref 1, .ref 3, .ref 11, .ref 19, .ref 27, .ref 30, .ref 36, .ref 41, .ref 40, .int 0]), .inr (4, [.ref 2, .int 0, .int 0, .int 0, .int 0]), .inl (0, (40, .inl (fun _ => 0))), .inr (0, [.int 0, .int 0, .int 0, .ref 4, .ref 5, .ref 6, .ref 7, .ref 8, .ref 9, .ref 10]), .inl (0, (6, .inl (fun _ => 0))), .inl (0, (6, .inl (fun _ => 0))), .inl (0, (36, .inl (fun _ => 0))), .inl (0, (9, .inl (fun _ => 0))), .inl (0, (9, .inl (fun _ => 0))), .inl (0, (9, .inl (fun _ => 0))), .inl (0, (9, .inl (fun _ => 0))), .inr (0, [.int 0, .int 0, .int 0, .ref 12, .ref 13, .ref 14, .ref 15, .ref 16, .ref 17, .ref 18]), .inl (0, (6, .inl (fun _ => 0))), .inl (0, (6, .inl (fun _ => 0))), .inl (0, (36, .inl (fun _ => 0))), .inl (0, (9, .inl (fun _ => 0))), .inl (0, (9, .inl (fun _ => 0))), .inl (0, (9, .inl (fun _ => 0))), .inl (0, (9, .inl (fun _ => 0))), .inr (0, [.int 0, .int 0, .int 0, .ref 20, .ref 21, .ref 22, .ref 23, .ref 24, .ref 25, .ref 26]), .inl (0, (6, .inl (fun _ => 0))), .inl (0, (6, .inl (fun _ => 0))), .inl (0, (36, .inl (fun _ => 0))), .inl (0, (9, .inl (fun _ => 0))), .inl (0, (9, .inl (fun _ => 0))), .inl (0, (9, .inl (fun _ => 0))), .inl (0, (9, .inl (fun _ => 0))), .inr (3, [.ref 28, .ref 29, .int 0, .int 0, .int 0]), .inl (0, (6, .inl (fun _ => 0))), .inl (0, (9, .inl (fun _ => 0))), .inr (1, [.ref 31, .ref 32, .ref 33, .ref 34, .ref 35, .int 0, .int 0, .int 0, .int 0]), .inl (0, (6, .inl (fun _ => 0))), .inl (0, (9, .inl (fun _ => 0))), .inl (0, (9, .inl (fun _ => 0))), .inl (0, (9, .inl (fun _ => 0))), .inl (0, (9, .inl (fun _ => 0))), .inr (5, [.ref 37, .ref 38, .ref 39, .int 0, .int 0]), .inl (0, (6, .inl (fun _ => 0))), .inl (0, (9, .inl (fun _ => 0))), .inl (1, (81, .inr (.inl (fun _ => 0)))), .inl (0, (6, .inl (fun _ => 0))), .inl (2, (4, .inr (.inr (.inr (.inr (fun _ => none)))))), .inr (2, [.null, .int 0, .int 0])]) rfl ?_
  refine AW.leq (L1 := [(0, .ref 42)]) rfl ?_
  refine aw_aload_n 0 dX2_init_0 rfl rfl ?_
  refine aw_objInit dX2_init_1 moX2_3 (by decide) (by decide) ?_
  refine aw_aload_n 0 dX2_init_4 rfl rfl ?_
  refine aw_bipush (v := 40) dX2_init_5 (by decide) ?_
  refine aw_newa (kd := 0) (N := 40) (ty := .int) (a0 := (40, .inl (fun _ => 0))) dX2_init_7 wa_int rfl (Or.inl ⟨rfl, rfl⟩) (ha_int 40) (fun _ => rfl) (by decide) (by decide) (by decide) ⟨Nat.le_of_ble_eq_true rfl, Nat.le_of_ble_eq_true rfl⟩ (N0 := 43) (by decide +kernel) (by decide) (by decide +kernel) (by decide +kernel) (fun a1 A1 => ?_)
  refine AW.heq (h1 := [.inr (6, [.ref 1, .ref 3, .ref 11, .ref 19, .ref 27, .ref 30, .ref 36, .ref 41, .ref 40, .int 0]), .inr (4, [.ref 2, .int 0, .int 0, .int 0, .int 0]), .inl (0, (40, .inl (fun _ => 0))), .inr (0, [.int 0, .int 0, .int 0, .ref 4, .ref 5, .ref 6, .ref 7, .ref 8, .ref 9, .ref 10]), .inl (0, (6, .inl (fun _ => 0))), .inl (0, (6, .inl (fun _ => 0))), .inl (0, (36, .inl (fun _ => 0))), .inl (0, (9, .inl (fun _ => 0))), .inl (0, (9, .inl (fun _ => 0))), .inl (0, (9, .inl (fun _ => 0))), .inl (0, (9, .inl (fun _ => 0))), .inr (0, [.int 0, .int 0, .int 0, .ref 12, .ref 13, .ref 14, .ref 15, .ref 16, .ref 17, .ref 18]), .inl (0, (6, .inl (fun _ => 0))), .inl (0, (6, .inl (fun _ => 0))), .inl (0, (36, .inl (fun _ => 0))), .inl (0, (9, .inl (fun _ => 0))), .inl (0, (9, .inl (fun _ => 0))), .inl (0, (9, .inl (fun _ => 0))), .inl (0, (9, .inl (fun _ => 0))), .inr (0, [.int 0, .int 0, .int 0, .ref 20, .ref 21, .ref 22, .ref 23, .ref 24, .ref 25, .ref 26]), .inl (0, (6, .inl (fun _ => 0))), .inl (0, (6, .inl (fun _ => 0))), .inl (0, (36, .inl (fun _ => 0))), .inl (0, (9, .inl (fun _ => 0))), .inl (0, (9, .inl (fun _ => 0))), .inl (0, (9, .inl (fun _ => 0))), .inl (0, (9, .inl (fun _ => 0))), .inr (3, [.ref 28, .ref 29, .int 0, .int 0, .int 0]), .inl (0, (6, .inl (fun _ => 0))), .inl (0, (9, .inl (fun _ => 0))), .inr (1, [.ref 31, .ref 32, .ref 33, .ref 34, .ref 35, .int 0, .int 0, .int 0, .int 0]), .inl (0, (6, .inl (fun _ => 0))), .inl (0, (9, .inl (fun _ => 0))), .inl (0, (9, .inl (fun _ => 0))), .inl (0, (9, .inl (fun _ => 0))), .inl (0, (9, .inl (fun _ => 0))), .inr (5, [.ref 37, .ref 38, .ref 39, .int 0, .int 0]), .inl (0, (6, .inl (fun _ => 0))), .inl (0, (9, .inl (fun _ => 0))), .inl (1, (81, .inr (.inl (fun _ => 0)))), .inl (0, (6, .inl (fun _ => 0))), .inl (2, (4, .inr (.inr (.inr (.inr (fun _ => none)))))), .inr (2, [.null, .int 0, .int 0]), .inl (0, (40, .inl (fun _ => 0)))]) rfl ?_
  refine AW.keq (k1 := 1) (n1 := 40) rfl rfl ?_
  refine aw_putF hn dX2_init_9 pnX2_9 (fun _ => ⟨rfl, rfl⟩) rfl ?_
  refine AW.heq (h1 := [.inr (6, [.ref 1, .ref 3, .ref 11, .ref 19, .ref 27, .ref 30, .ref 36, .ref 41, .ref 40, .int 0]), .inr (4, [.ref 2, .int 0, .int 0, .int 0, .int 0]), .inl (0, (40, .inl (fun _ => 0))), .inr (0, [.int 0, .int 0, .int 0, .ref 4, .ref 5, .ref 6, .ref 7, .ref 8, .ref 9, .ref 10]), .inl (0, (6, .inl (fun _ => 0))), .inl (0, (6, .inl (fun _ => 0))), .inl (0, (36, .inl (fun _ => 0))), .inl (0, (9, .inl (fun _ => 0))), .inl (0, (9, .inl (fun _ => 0))), .inl (0, (9, .inl (fun _ => 0))), .inl (0, (9, .inl (fun _ => 0))), .inr (0, [.int 0, .int 0, .int 0, .ref 12, .ref 13, .ref 14, .ref 15, .ref 16, .ref 17, .ref 18]), .inl (0, (6, .inl (fun _ => 0))), .inl (0, (6, .inl (fun _ => 0))), .inl (0, (36, .inl (fun _ => 0))), .inl (0, (9, .inl (fun _ => 0))), .inl (0, (9, .inl (fun _ => 0))), .inl (0, (9, .inl (fun _ => 0))), .inl (0, (9, .inl (fun _ => 0))), .inr (0, [.int 0, .int 0, .int 0, .ref 20, .ref 21, .ref 22, .ref 23, .ref 24, .ref 25, .ref 26]), .inl (0, (6, .inl (fun _ => 0))), .inl (0, (6, .inl (fun _ => 0))), .inl (0, (36, .inl (fun _ => 0))), .inl (0, (9, .inl (fun _ => 0))), .inl (0, (9, .inl (fun _ => 0))), .inl (0, (9, .inl (fun _ => 0))), .inl (0, (9, .inl (fun _ => 0))), .inr (3, [.ref 28, .ref 29, .int 0, .int 0, .int 0]), .inl (0, (6, .inl (fun _ => 0))), .inl (0, (9, .inl (fun _ => 0))), .inr (1, [.ref 31, .ref 32, .ref 33, .ref 34, .ref 35, .int 0, .int 0, .int 0, .int 0]), .inl (0, (6, .inl (fun _ => 0))), .inl (0, (9, .inl (fun _ => 0))), .inl (0, (9, .inl (fun _ => 0))), .inl (0, (9, .inl (fun _ => 0))), .inl (0, (9, .inl (fun _ => 0))), .inr (5, [.ref 37, .ref 38, .ref 39, .int 0, .int 0]), .inl (0, (6, .inl (fun _ => 0))), .inl (0, (9, .inl (fun _ => 0))), .inl (1, (81, .inr (.inl (fun _ => 0)))), .inl (0, (6, .inl (fun _ => 0))), .inl (2, (4, .inr (.inr (.inr (.inr (fun _ => none)))))), .inr (2, [.ref 43, .int 0, .int 0]), .inl (0, (40, .inl (fun _ => 0)))]) rfl ?_
  refine AW.keq (k1 := 1) (n1 := 40) rfl rfl ?_
  refine aw_aload_n 0 dX2_init_12 rfl rfl ?_
  refine aw_iconst (v := -1) dX2_init_13 (by decide) ?_
  refine aw_putI dX2_init_14 pfX2_15 rfl ?_
  refine AW.heq (h1 := [.inr (6, [.ref 1, .ref 3, .ref 11, .ref 19, .ref 27, .ref 30, .ref 36, .ref 41, .ref 40, .int 0]), .inr (4, [.ref 2, .int 0, .int 0, .int 0, .int 0]), .inl (0, (40, .inl (fun _ => 0))), .inr (0, [.int 0, .int 0, .int 0, .ref 4, .ref 5, .ref 6, .ref 7, .ref 8, .ref 9, .ref 10]), .inl (0, (6, .inl (fun _ => 0))), .inl (0, (6, .inl (fun _ => 0))), .inl (0, (36, .inl (fun _ => 0))), .inl (0, (9, .inl (fun _ => 0))), .inl (0, (9, .inl (fun _ => 0))), .inl (0, (9, .inl (fun _ => 0))), .inl (0, (9, .inl (fun _ => 0))), .inr (0, [.int 0, .int 0, .int 0, .ref 12, .ref 13, .ref 14, .ref 15, .ref 16, .ref 17, .ref 18]), .inl (0, (6, .inl (fun _ => 0))), .inl (0, (6, .inl (fun _ => 0))), .inl (0, (36, .inl (fun _ => 0))), .inl (0, (9, .inl (fun _ => 0))), .inl (0, (9, .inl (fun _ => 0))), .inl (0, (9, .inl (fun _ => 0))), .inl (0, (9, .inl (fun _ => 0))), .inr (0, [.int 0, .int 0, .int 0, .ref 20, .ref 21, .ref 22, .ref 23, .ref 24, .ref 25, .ref 26]), .inl (0, (6, .inl (fun _ => 0))), .inl (0, (6, .inl (fun _ => 0))), .inl (0, (36, .inl (fun _ => 0))), .inl (0, (9, .inl (fun _ => 0))), .inl (0, (9, .inl (fun _ => 0))), .inl (0, (9, .inl (fun _ => 0))), .inl (0, (9, .inl (fun _ => 0))), .inr (3, [.ref 28, .ref 29, .int 0, .int 0, .int 0]), .inl (0, (6, .inl (fun _ => 0))), .inl (0, (9, .inl (fun _ => 0))), .inr (1, [.ref 31, .ref 32, .ref 33, .ref 34, .ref 35, .int 0, .int 0, .int 0, .int 0]), .inl (0, (6, .inl (fun _ => 0))), .inl (0, (9, .inl (fun _ => 0))), .inl (0, (9, .inl (fun _ => 0))), .inl (0, (9, .inl (fun _ => 0))), .inl (0, (9, .inl (fun _ => 0))), .inr (5, [.ref 37, .ref 38, .ref 39, .int 0, .int 0]), .inl (0, (6, .inl (fun _ => 0))), .inl (0, (9, .inl (fun _ => 0))), .inl (1, (81, .inr (.inl (fun _ => 0)))), .inl (0, (6, .inl (fun _ => 0))), .inl (2, (4, .inr (.inr (.inr (.inr (fun _ => none)))))), .inr (2, [.ref 43, .int (-1), .int 0]), .inl (0, (40, .inl (fun _ => 0)))]) rfl ?_
  refine AW.keq (k1 := 1) (n1 := 40) rfl rfl ?_
  exact aw_vret hr dX2_init_17 ⟨(Agr.tr (by decide) A1 Agr.rf), rfl, rfl⟩
set_option maxRecDepth 100000 in
set_option maxHeartbeats 4000000 in
theorem k9_X2_init : MtQ 1 1 40 yX2_init cX2_init 1 none [.ref 44] hi_16 (Qn 45 hi_17) := by
  refine MtQ.of (by decide) (by decide) (fun X adr hr hn => ?_)
  refine AW.heq (h1 := [.inr (6, [.ref 1, .ref 3, .ref 11, .ref 19, .ref 27, .ref 30, .ref 36, .ref 41, .ref 40, .int 0]), .inr (4, [.ref 2, .int 0, .int 0, .int 0, .int 0]), .inl (0, (40, .inl (fun _ => 0))), .inr (0, [.int 0, .int 0, .int 0, .ref 4, .ref 5, .ref 6, .ref 7, .ref 8, .ref 9, .ref 10]), .inl (0, (6, .inl (fun _ => 0))), .inl (0, (6, .inl (fun _ => 0))), .inl (0, (36, .inl (fun _ => 0))), .inl (0, (9, .inl (fun _ => 0))), .inl (0, (9, .inl (fun _ => 0))), .inl (0, (9, .inl (fun _ => 0))), .inl (0, (9, .inl (fun _ => 0))), .inr (0, [.int 0, .int 0, .int 0, .ref 12, .ref 13, .ref 14, .ref 15, .ref 16, .ref 17, .ref 18]), .inl (0, (6, .inl (fun _ => 0))), .inl (0, (6, .inl (fun _ => 0))), .inl (0, (36, .inl (fun _ => 0))), .inl (0, (9, .inl (fun _ => 0))), .inl (0, (9, .inl (fun _ => 0))), .inl (0, (9, .inl (fun _ => 0))), .inl (0, (9, .inl (fun _ => 0))), .inr (0, [.int 0, .int 0, .int 0, .ref 20, .ref 21, .ref 22, .ref 23, .ref 24, .ref 25, .ref 26]), .inl (0, (6, .inl (fun _ => 0))), .inl (0, (6, .inl (fun _ => 0))), .inl (0, (36, .inl (fun _ => 0))), .inl (0, (9, .inl (fun _ => 0))), .inl (0, (9, .inl (fun _ => 0))), .inl (0, (9, .inl (fun _ => 0))), .inl (0, (9, .inl (fun _ => 0))), .inr (3, [.ref 28, .ref 29, .int 0, .int 0, .int 0]), .inl (0, (6, .inl (fun _ => 0))), .inl (0, (9, .inl (fun _ => 0))), .inr (1, [.ref 31, .ref 32, .ref 33, .ref 34, .ref 35, .int 0, .int 0, .int 0, .int 0]), .inl (0, (6, .inl (fun _ => 0))), .inl (0, (9, .inl (fun _ => 0))), .inl (0, (9, .inl (fun _ => 0))), .inl (0, (9, .inl (fun _ => 0))), .inl (0, (9, .inl (fun _ => 0))), .inr (5, [.ref 37, .ref 38, .ref 39, .int 0, .int 0]), .inl (0, (6, .inl (fun _ => 0))), .inl (0, (9, .inl (fun _ => 0))), .inl (1, (81, .inr (.inl (fun _ => 0)))), .inl (0, (6, .inl (fun _ => 0))), .inl (2, (4, .inr (.inr (.inr (.inr (va_up (fun _ => none) 0 (some 42))))))), .inr (2, [.ref 43, .int (-1), .int 0]), .inl (0, (40, .inl (fun _ => 0))), .inr (2, [.null, .int 0, .int 0])]) rfl ?_
  refine AW.leq (L1 := [(0, .ref 44)]) rfl ?_
  refine aw_aload_n 0 dX2_init_0 rfl rfl ?_
  refine aw_objInit dX2_init_1 moX2_3 (by decide) (by decide) ?_
  refine aw_aload_n 0 dX2_init_4 rfl rfl ?_
  refine aw_bipush (v := 40) dX2_init_5 (by decide) ?_
  refine aw_newa (kd := 0) (N := 40) (ty := .int) (a0 := (40, .inl (fun _ => 0))) dX2_init_7 wa_int rfl (Or.inl ⟨rfl, rfl⟩) (ha_int 40) (fun _ => rfl) (by decide) (by decide) (by decide) ⟨Nat.le_of_ble_eq_true rfl, Nat.le_of_ble_eq_true rfl⟩ (N0 := 45) (by decide +kernel) (by decide) (by decide +kernel) (by decide +kernel) (fun a1 A1 => ?_)
  refine AW.heq (h1 := [.inr (6, [.ref 1, .ref 3, .ref 11, .ref 19, .ref 27, .ref 30, .ref 36, .ref 41, .ref 40, .int 0]), .inr (4, [.ref 2, .int 0, .int 0, .int 0, .int 0]), .inl (0, (40, .inl (fun _ => 0))), .inr (0, [.int 0, .int 0, .int 0, .ref 4, .ref 5, .ref 6, .ref 7, .ref 8, .ref 9, .ref 10]), .inl (0, (6, .inl (fun _ => 0))), .inl (0, (6, .inl (fun _ => 0))), .inl (0, (36, .inl (fun _ => 0))), .inl (0, (9, .inl (fun _ => 0))), .inl (0, (9, .inl (fun _ => 0))), .inl (0, (9, .inl (fun _ => 0))), .inl (0, (9, .inl (fun _ => 0))), .inr (0, [.int 0, .int 0, .int 0, .ref 12, .ref 13, .ref 14, .ref 15, .ref 16, .ref 17, .ref 18]), .inl (0, (6, .inl (fun _ => 0))), .inl (0, (6, .inl (fun _ => 0))), .inl (0, (36, .inl (fun _ => 0))), .inl (0, (9, .inl (fun _ => 0))), .inl (0, (9, .inl (fun _ => 0))), .inl (0, (9, .inl (fun _ => 0))), .inl (0, (9, .inl (fun _ => 0))), .inr (0, [.int 0, .int 0, .int 0, .ref 20, .ref 21, .ref 22, .ref 23, .ref 24, .ref 25, .ref 26]), .inl (0, (6, .inl (fun _ => 0))), .inl (0, (6, .inl (fun _ => 0))), .inl (0, (36, .inl (fun _ => 0))), .inl (0, (9, .inl (fun _ => 0))), .inl (0, (9, .inl (fun _ => 0))), .inl (0, (9, .inl (fun _ => 0))), .inl (0, (9, .inl (fun _ => 0))), .inr (3, [.ref 28, .ref 29, .int 0, .int 0, .int 0]), .inl (0, (6, .inl (fun _ => 0))), .inl (0, (9, .inl (fun _ => 0))), .inr (1, [.ref 31, .ref 32, .ref 33, .ref 34, .ref 35, .int 0, .int 0, .int 0, .int 0]), .inl (0, (6, .inl (fun _ => 0))), .inl (0, (9, .inl (fun _ => 0))), .inl (0, (9, .inl (fun _ => 0))), .inl (0, (9, .inl (fun _ => 0))), .inl (0, (9, .inl (fun _ => 0))), .inr (5, [.ref 37, .ref 38, .ref 39, .int 0, .int 0]), .inl (0, (6, .inl (fun _ => 0))), .inl (0, (9, .inl (fun _ => 0))), .inl (1, (81, .inr (.inl (fun _ => 0)))), .inl (0, (6, .inl (fun _ => 0))), .inl (2, (4, .inr (.inr (.inr (.inr (va_up (fun _ => none) 0 (some 42))))))), .inr (2, [.ref 43, .int (-1), .int 0]), .inl (0, (40, .inl (fun _ => 0))), .inr (2, [.null, .int 0, .int 0]), .inl (0, (40, .inl (fun _ => 0)))]) rfl ?_
  refine AW.keq (k1 := 1) (n1 := 40) rfl rfl ?_
  refine aw_putF hn dX2_init_9 pnX2_9 (fun _ => ⟨rfl, rfl⟩) rfl ?_
  refine AW.heq (h1 := [.inr (6, [.ref 1, .ref 3, .ref 11, .ref 19, .ref 27, .ref 30, .ref 36, .ref 41, .ref 40, .int 0]), .inr (4, [.ref 2, .int 0, .int 0, .int 0, .int 0]), .inl (0, (40, .inl (fun _ => 0))), .inr (0, [.int 0, .int 0, .int 0, .ref 4, .ref 5, .ref 6, .ref 7, .ref 8, .ref 9, .ref 10]), .inl (0, (6, .inl (fun _ => 0))), .inl (0, (6, .inl (fun _ => 0))), .inl (0, (36, .inl (fun _ => 0))), .inl (0, (9, .inl (fun _ => 0))), .inl (0, (9, .inl (fun _ => 0))), .inl (0, (9, .inl (fun _ => 0))), .inl (0, (9, .inl (fun _ => 0))), .inr (0, [.int 0, .int 0, .int 0, .ref 12, .ref 13, .ref 14, .ref 15, .ref 16, .ref 17, .ref 18]), .inl (0, (6, .inl (fun _ => 0))), .inl (0, (6, .inl (fun _ => 0))), .inl (0, (36, .inl (fun _ => 0))), .inl (0, (9, .inl (fun _ => 0))), .inl (0, (9, .inl (fun _ => 0))), .inl (0, (9, .inl (fun _ => 0))), .inl (0, (9, .inl (fun _ => 0))), .inr (0, [.int 0, .int 0, .int 0, .ref 20, .ref 21, .ref 22, .ref 23, .ref 24, .ref 25, .ref 26]), .inl (0, (6, .inl (fun _ => 0))), .inl (0, (6, .inl (fun _ => 0))), .inl (0, (36, .inl (fun _ => 0))), .inl (0, (9, .inl (fun _ => 0))), .inl (0, (9, .inl (fun _ => 0))), .inl (0, (9, .inl (fun _ => 0))), .inl (0, (9, .inl (fun _ => 0))), .inr (3, [.ref 28, .ref 29, .int 0, .int 0, .int 0]), .inl (0, (6, .inl (fun _ => 0))), .inl (0, (9, .inl (fun _ => 0))), .inr (1, [.ref 31, .ref 32, .ref 33, .ref 34, .ref 35, .int 0, .int 0, .int 0, .int 0]), .inl (0, (6, .inl (fun _ => 0))), .inl (0, (9, .inl (fun _ => 0))), .inl (0, (9, .inl (fun _ => 0))), .inl (0, (9, .inl (fun _ => 0))), .inl (0, (9, .inl (fun _ => 0))), .inr (5, [.ref 37, .ref 38, .ref 39, .int 0, .int 0]), .inl (0, (6, .inl (fun _ => 0))), .inl (0, (9, .inl (fun _ => 0))), .inl (1, (81, .inr (.inl (fun _ => 0)))), .inl (0, (6, .inl (fun _ => 0))), .inl (2, (4, .inr (.inr (.inr (.inr (va_up (fun _ => none) 0 (some 42))))))), .inr (2, [.ref 43, .int (-1), .int 0]), .inl (0, (40, .inl (fun _ => 0))), .inr (2, [.ref 45, .int 0, .int 0]), .inl (0, (40, .inl (fun _ => 0)))]) rfl ?_
  refine AW.keq (k1 := 1) (n1 := 40) rfl rfl ?_
  refine aw_aload_n 0 dX2_init_12 rfl rfl ?_
  refine aw_iconst (v := -1) dX2_init_13 (by decide) ?_
  refine aw_putI dX2_init_14 pfX2_15 rfl ?_
  refine AW.heq (h1 := [.inr (6, [.ref 1, .ref 3, .ref 11, .ref 19, .ref 27, .ref 30, .ref 36, .ref 41, .ref 40, .int 0]), .inr (4, [.ref 2, .int 0, .int 0, .int 0, .int 0]), .inl (0, (40, .inl (fun _ => 0))), .inr (0, [.int 0, .int 0, .int 0, .ref 4, .ref 5, .ref 6, .ref 7, .ref 8, .ref 9, .ref 10]), .inl (0, (6, .inl (fun _ => 0))), .inl (0, (6, .inl (fun _ => 0))), .inl (0, (36, .inl (fun _ => 0))), .inl (0, (9, .inl (fun _ => 0))), .inl (0, (9, .inl (fun _ => 0))), .inl (0, (9, .inl (fun _ => 0))), .inl (0, (9, .inl (fun _ => 0))), .inr (0, [.int 0, .int 0, .int 0, .ref 12, .ref 13, .ref 14, .ref 15, .ref 16, .ref 17, .ref 18]), .inl (0, (6, .inl (fun _ => 0))), .inl (0, (6, .inl (fun _ => 0))), .inl (0, (36, .inl (fun _ => 0))), .inl (0, (9, .inl (fun _ => 0))), .inl (0, (9, .inl (fun _ => 0))), .inl (0, (9, .inl (fun _ => 0))), .inl (0, (9, .inl (fun _ => 0))), .inr (0, [.int 0, .int 0, .int 0, .ref 20, .ref 21, .ref 22, .ref 23, .ref 24, .ref 25, .ref 26]), .inl (0, (6, .inl (fun _ => 0))), .inl (0, (6, .inl (fun _ => 0))), .inl (0, (36, .inl (fun _ => 0))), .inl (0, (9, .inl (fun _ => 0))), .inl (0, (9, .inl (fun _ => 0))), .inl (0, (9, .inl (fun _ => 0))), .inl (0, (9, .inl (fun _ => 0))), .inr (3, [.ref 28, .ref 29, .int 0, .int 0, .int 0]), .inl (0, (6, .inl (fun _ => 0))), .inl (0, (9, .inl (fun _ => 0))), .inr (1, [.ref 31, .ref 32, .ref 33, .ref 34, .ref 35, .int 0, .int 0, .int 0, .int 0]), .inl (0, (6, .inl (fun _ => 0))), .inl (0, (9, .inl (fun _ => 0))), .inl (0, (9, .inl (fun _ => 0))), .inl (0, (9, .inl (fun _ => 0))), .inl (0, (9, .inl (fun _ => 0))), .inr (5, [.ref 37, .ref 38, .ref 39, .int 0, .int 0]), .inl (0, (6, .inl (fun _ => 0))), .inl (0, (9, .inl (fun _ => 0))), .inl (1, (81, .inr (.inl (fun _ => 0)))), .inl (0, (6, .inl (fun _ => 0))), .inl (2, (4, .inr (.inr (.inr (.inr (va_up (fun _ => none) 0 (some 42))))))), .inr (2, [.ref 43, .int (-1), .int 0]), .inl (0, (40, .inl (fun _ => 0))), .inr (2, [.ref 45, .int (-1), .int 0]), .inl (0, (40, .inl (fun _ => 0)))]) rfl ?_
  refine AW.keq (k1 := 1) (n1 := 40) rfl rfl ?_
  exact aw_vret hr dX2_init_17 ⟨(Agr.tr (by decide) A1 Agr.rf), rfl, rfl⟩
set_option maxRecDepth 100000 in
set_option maxHeartbeats 4000000 in
theorem k10_X2_init : MtQ 1 1 40 yX2_init cX2_init 1 none [.ref 46] hi_18 (Qn 47 hi_19) := by
  refine MtQ.of (by decide) (by decide) (fun X adr hr hn => ?_)
  refine AW.heq (h1 := [.inr (6, [.ref 1, .ref 3, .ref 11, .ref 19, .ref 27, .ref 30, .ref 36, .ref 41, .ref 40, .int 0]), .inr (4, [.ref 2, .int 0, .int 0, .int 0, .int 0]), .inl (0, (40, .inl (fun _ => 0))), .inr (0, [.int 0, .int 0, .int 0, .ref 4, .ref 5, .ref 6, .ref 7, .ref 8, .ref 9, .ref 10]), .inl (0, (6, .inl (fun _ => 0))), .inl (0, (6, .inl (fun _ => 0))), .inl (0, (36, .inl (fun _ => 0))), .inl (0, (9, .inl (fun _ => 0))), .inl (0, (9, .inl (fun _ => 0))), .inl (0, (9, .inl (fun _ => 0))), .inl (0, (9, .inl (fun _ => 0))), .inr (0, [.int 0, .int 0, .int 0, .ref 12, .ref 13, .ref 14, .ref 15, .ref 16, .ref 17, .ref 18]), .inl (0, (6, .inl (fun _ => 0))), .inl (0, (6, .inl (fun _ => 0))), .inl (0, (36, .inl (fun _ => 0))), .inl (0, (9, .inl (fun _ => 0))), .inl (0, (9, .inl (fun _ => 0))), .inl (0, (9, .inl (fun _ => 0))), .inl (0, (9, .inl (fun _ => 0))), .inr (0, [.int 0, .int 0, .int 0, .ref 20, .ref 21, .ref 22, .ref 23, .ref 24, .ref 25, .ref 26]), .inl (0, (6, .inl (fun _ => 0))), .inl (0, (6, .inl (fun _ => 0))), .inl (0, (36, .inl (fun _ => 0))), .inl (0, (9, .inl (fun _ => 0))), .inl (0, (9, .inl (fun _ => 0))), .inl (0, (9, .inl (fun _ => 0))), .inl (0, (9, .inl (fun _ => 0))), .inr (3, [.ref 28, .ref 29, .int 0, .int 0, .int 0]), .inl (0, (6, .inl (fun _ => 0))), .inl (0, (9, .inl (fun _ => 0))), .inr (1, [.ref 31, .ref 32, .ref 33, .ref 34, .ref 35, .int 0, .int 0, .int 0, .int 0]), .inl (0, (6, .inl (fun _ => 0))), .inl (0, (9, .inl (fun _ => 0))), .inl (0, (9, .inl (fun _ => 0))), .inl (0, (9, .inl (fun _ => 0))), .inl (0, (9, .inl (fun _ => 0))), .inr (5, [.ref 37, .ref 38, .ref 39, .int 0, .int 0]), .inl (0, (6, .inl (fun _ => 0))), .inl (0, (9, .inl (fun _ => 0))), .inl (1, (81, .inr (.inl (fun _ => 0)))), .inl (0, (6, .inl (fun _ => 0))), .inl (2, (4, .inr (.inr (.inr (.inr (va_up (va_up (fun _ => none) 0 (some 42)) 1 (some 44))))))), .inr (2, [.ref 43, .int (-1), .int 0]), .inl (0, (40, .inl (fun _ => 0))), .inr (2, [.ref 45, .int (-1), .int 0]), .inl (0, (40, .inl (fun _ => 0))), .inr (2, [.null, .int 0, .int 0])]) rfl ?_
  refine AW.leq (L1 := [(0, .ref 46)]) rfl ?_
  refine aw_aload_n 0 dX2_init_0 rfl rfl ?_
  refine aw_objInit dX2_init_1 moX2_3 (by decide) (by decide) ?_
  refine aw_aload_n 0 dX2_init_4 rfl rfl ?_
  refine aw_bipush (v := 40) dX2_init_5 (by decide) ?_
  refine aw_newa (kd := 0) (N := 40) (ty := .int) (a0 := (40, .inl (fun _ => 0))) dX2_init_7 wa_int rfl (Or.inl ⟨rfl, rfl⟩) (ha_int 40) (fun _ => rfl) (by decide) (by decide) (by decide) ⟨Nat.le_of_ble_eq_true rfl, Nat.le_of_ble_eq_true rfl⟩ (N0 := 47) (by decide +kernel) (by decide) (by decide +kernel) (by decide +kernel) (fun a1 A1 => ?_)
  refine AW.heq (h1 := [.inr (6, [.ref 1, .ref 3, .ref 11, .ref 19, .ref 27, .ref 30, .ref 36, .ref 41, .ref 40, .int 0]), .inr (4, [.ref 2, .int 0, .int 0, .int 0, .int 0]), .inl (0, (40, .inl (fun _ => 0))), .inr (0, [.int 0, .int 0, .int 0, .ref 4, .ref 5, .ref 6, .ref 7, .ref 8, .ref 9, .ref 10]), .inl (0, (6, .inl (fun _ => 0))), .inl (0, (6, .inl (fun _ => 0))), .inl (0, (36, .inl (fun _ => 0))), .inl (0, (9, .inl (fun _ => 0))), .inl (0, (9, .inl (fun _ => 0))), .inl (0, (9, .inl (fun _ => 0))), .inl (0, (9, .inl (fun _ => 0))), .inr (0, [.int 0, .int 0, .int 0, .ref 12, .ref 13, .ref 14, .ref 15, .ref 16, .ref 17, .ref 18]), .inl (0, (6, .inl (fun _ => 0))), .inl (0, (6, .inl (fun _ => 0))), .inl (0, (36, .inl (fun _ => 0))), .inl (0, (9, .inl (fun _ => 0))), .inl (0, (9, .inl (fun _ => 0))), .inl (0, (9, .inl (fun _ => 0))), .inl (0, (9, .inl (fun _ => 0))), .inr (0, [.int 0, .int 0, .int 0, .ref 20, .ref 21, .ref 22, .ref 23, .ref 24, .ref 25, .ref 26]), .inl (0, (6, .inl (fun _ => 0))), .inl (0, (6, .inl (fun _ => 0))), .inl (0, (36, .inl (fun _ => 0))), .inl (0, (9, .inl (fun _ => 0))), .inl (0, (9, .inl (fun _ => 0))), .inl (0, (9, .inl (fun _ => 0))), .inl (0, (9, .inl (fun _ => 0))), .inr (3, [.ref 28, .ref 29, .int 0, .int 0, .int 0]), .inl (0, (6, .inl (fun _ => 0))), .inl (0, (9, .inl (fun _ => 0))), .inr (1, [.ref 31, .ref 32, .ref 33, .ref 34, .ref 35, .int 0, .int 0, .int 0, .int 0]), .inl (0, (6, .inl (fun _ => 0))), .inl (0, (9, .inl (fun _ => 0))), .inl (0, (9, .inl (fun _ => 0))), .inl (0, (9, .inl (fun _ => 0))), .inl (0, (9, .inl (fun _ => 0))), .inr (5, [.ref 37, .ref 38, .ref 39, .int 0, .int 0]), .inl (0, (6, .inl (fun _ => 0))), .inl (0, (9, .inl (fun _ => 0))), .inl (1, (81, .inr (.inl (fun _ => 0)))), .inl (0, (6, .inl (fun _ => 0))), .inl (2, (4, .inr (.inr (.inr (.inr (va_up (va_up (fun _ => none) 0 (some 42)) 1 (some 44))))))), .inr (2, [.ref 43, .int (-1), .int 0]), .inl (0, (40, .inl (fun _ => 0))), .inr (2, [.ref 45, .int (-1), .int 0]), .inl (0, (40, .inl (fun _ => 0))), .inr (2, [.null, .int 0, .int 0]), .inl (0, (40, .inl (fun _ => 0)))]) rfl ?_
  refine AW.keq (k1 := 1) (n1 := 40) rfl rfl ?_
  refine aw_putF hn dX2_init_9 pnX2_9 (fun _ => ⟨rfl, rfl⟩) rfl ?_
  refine AW.heq (h1 := [.inr (6, [.ref 1, .ref 3, .ref 11, .ref 19, .ref 27, .ref 30, .ref 36, .ref 41, .ref 40, .int 0]), .inr (4, [.ref 2, .int 0, .int 0, .int 0, .int 0]), .inl (0, (40, .inl (fun _ => 0))), .inr (0, [.int 0, .int 0, .int 0, .ref 4, .ref 5, .ref 6, .ref 7, .ref 8, .ref 9, .ref 10]), .inl (0, (6, .inl (fun _ => 0))), .inl (0, (6, .inl (fun _ => 0))), .inl (0, (36, .inl (fun _ => 0))), .inl (0, (9, .inl (fun _ => 0))), .inl (0, (9, .inl (fun _ => 0))), .inl (0, (9, .inl (fun _ => 0))), .inl (0, (9, .inl (fun _ => 0))), .inr (0, [.int 0, .int 0, .int 0, .ref 12, .ref 13, .ref 14, .ref 15, .ref 16, .ref 17, .ref 18]), .inl (0, (6, .inl (fun _ => 0))), .inl (0, (6, .inl (fun _ => 0))), .inl (0, (36, .inl (fun _ => 0))), .inl (0, (9, .inl (fun _ => 0))), .inl (0, (9, .inl (fun _ => 0))), .inl (0, (9, .inl (fun _ => 0))), .inl (0, (9, .inl (fun _ => 0))), .inr (0, [.int 0, .int 0, .int 0, .ref 20, .ref 21, .ref 22, .ref 23, .ref 24, .ref 25, .ref 26]), .inl (0, (6, .inl (fun _ => 0))), .inl (0, (6, .inl (fun _ => 0))), .inl (0, (36, .inl (fun _ => 0))), .inl (0, (9, .inl (fun _ => 0))), .inl (0, (9, .inl (fun _ => 0))), .inl (0, (9, .inl (fun _ => 0))), .inl (0, (9, .inl (fun _ => 0))), .inr (3, [.ref 28, .ref 29, .int 0, .int 0, .int 0]), .inl (0, (6, .inl (fun _ => 0))), .inl (0, (9, .inl (fun _ => 0))), .inr (1, [.ref 31, .ref 32, .ref 33, .ref 34, .ref 35, .int 0, .int 0, .int 0, .int 0]), .inl (0, (6, .inl (fun _ => 0))), .inl (0, (9, .inl (fun _ => 0))), .inl (0, (9, .inl (fun _ => 0))), .inl (0, (9, .inl (fun _ => 0))), .inl (0, (9, .inl (fun _ => 0))), .inr (5, [.ref 37, .ref 38, .ref 39, .int 0, .int 0]), .inl (0, (6, .inl (fun _ => 0))), .inl (0, (9, .inl (fun _ => 0))), .inl (1, (81, .inr (.inl (fun _ => 0)))), .inl (0, (6, .inl (fun _ => 0))), .inl (2, (4, .inr (.inr (.inr (.inr (va_up (va_up (fun _ => none) 0 (some 42)) 1 (some 44))))))), .inr (2, [.ref 43, .int (-1), .int 0]), .inl (0, (40, .inl (fun _ => 0))), .inr (2, [.ref 45, .int (-1), .int 0]), .inl (0, (40, .inl (fun _ => 0))), .inr (2, [.ref 47, .int 0, .int 0]), .inl (0, (40, .inl (fun _ => 0)))]) rfl ?_
  refine AW.keq (k1 := 1) (n1 := 40) rfl rfl ?_
  refine aw_aload_n 0 dX2_init_12 rfl rfl ?_
  refine aw_iconst (v := -1) dX2_init_13 (by decide) ?_
  refine aw_putI dX2_init_14 pfX2_15 rfl ?_
  refine AW.heq (h1 := [.inr (6, [.ref 1, .ref 3, .ref 11, .ref 19, .ref 27, .ref 30, .ref 36, .ref 41, .ref 40, .int 0]), .inr (4, [.ref 2, .int 0, .int 0, .int 0, .int 0]), .inl (0, (40, .inl (fun _ => 0))), .inr (0, [.int 0, .int 0, .int 0, .ref 4, .ref 5, .ref 6, .ref 7, .ref 8, .ref 9, .ref 10]), .inl (0, (6, .inl (fun _ => 0))), .inl (0, (6, .inl (fun _ => 0))), .inl (0, (36, .inl (fun _ => 0))), .inl (0, (9, .inl (fun _ => 0))), .inl (0, (9, .inl (fun _ => 0))), .inl (0, (9, .inl (fun _ => 0))), .inl (0, (9, .inl (fun _ => 0))), .inr (0, [.int 0, .int 0, .int 0, .ref 12, .ref 13, .ref 14, .ref 15, .ref 16, .ref 17, .ref 18]), .inl (0, (6, .inl (fun _ => 0))), .inl (0, (6, .inl (fun _ => 0))), .inl (0, (36, .inl (fun _ => 0))), .inl (0, (9, .inl (fun _ => 0))), .inl (0, (9, .inl (fun _ => 0))), .inl (0, (9, .inl (fun _ => 0))), .inl (0, (9, .inl (fun _ => 0))), .inr (0, [.int 0, .int 0, .int 0, .ref 20, .ref 21, .ref 22, .ref 23, .ref 24, .ref 25, .ref 26]), .inl (0, (6, .inl (fun _ => 0))), .inl (0, (6, .inl (fun _ => 0))), .inl (0, (36, .inl (fun _ => 0))), .inl (0, (9, .inl (fun _ => 0))), .inl (0, (9, .inl (fun _ => 0))), .inl (0, (9, .inl (fun _ => 0))), .inl (0, (9, .inl (fun _ => 0))), .inr (3, [.ref 28, .ref 29, .int 0, .int 0, .int 0]), .inl (0, (6, .inl (fun _ => 0))), .inl (0, (9, .inl (fun _ => 0))), .inr (1, [.ref 31, .ref 32, .ref 33, .ref 34, .ref 35, .int 0, .int 0, .int 0, .int 0]), .inl (0, (6, .inl (fun _ => 0))), .inl (0, (9, .inl (fun _ => 0))), .inl (0, (9, .inl (fun _ => 0))), .inl (0, (9, .inl (fun _ => 0))), .inl (0, (9, .inl (fun _ => 0))), .inr (5, [.ref 37, .ref 38, .ref 39, .int 0, .int 0]), .inl (0, (6, .inl (fun _ => 0))), .inl (0, (9, .inl (fun _ => 0))), .inl (1, (81, .inr (.inl (fun _ => 0)))), .inl (0, (6, .inl (fun _ => 0))), .inl (2, (4, .inr (.inr (.inr (.inr (va_up (va_up (fun _ => none) 0 (some 42)) 1 (some 44))))))), .inr (2, [.ref 43, .int (-1), .int 0]), .inl (0, (40, .inl (fun _ => 0))), .inr (2, [.ref 45, .int (-1), .int 0]), .inl (0, (40, .inl (fun _ => 0))), .inr (2, [.ref 47, .int (-1), .int 0]), .inl (0, (40, .inl (fun _ => 0)))]) rfl ?_
  refine AW.keq (k1 := 1) (n1 := 40) rfl rfl ?_
  exact aw_vret hr dX2_init_17 ⟨(Agr.tr (by decide) A1 Agr.rf), rfl, rfl⟩
set_option maxRecDepth 100000 in
set_option maxHeartbeats 4000000 in
theorem k11_X2_init : MtQ 1 1 40 yX2_init cX2_init 1 none [.ref 48] hi_20 (Qn 49 hi_21) := by
  refine MtQ.of (by decide) (by decide) (fun X adr hr hn => ?_)
  refine AW.heq (h1 := [.inr (6, [.ref 1, .ref 3, .ref 11, .ref 19, .ref 27, .ref 30, .ref 36, .ref 41, .ref 40, .int 0]), .inr (4, [.ref 2, .int 0, .int 0, .int 0, .int 0]), .inl (0, (40, .inl (fun _ => 0))), .inr (0, [.int 0, .int 0, .int 0, .ref 4, .ref 5, .ref 6, .ref 7, .ref 8, .ref 9, .ref 10]), .inl (0, (6, .inl (fun _ => 0))), .inl (0, (6, .inl (fun _ => 0))), .inl (0, (36, .inl (fun _ => 0))), .inl (0, (9, .inl (fun _ => 0))), .inl (0, (9, .inl (fun _ => 0))), .inl (0, (9, .inl (fun _ => 0))), .inl (0, (9, .inl (fun _ => 0))), .inr (0, [.int 0, .int 0, .int 0, .ref 12, .ref 13, .ref 14, .ref 15, .ref 16, .ref 17, .ref 18]), .inl (0, (6, .inl (fun _ => 0))), .inl (0, (6, .inl (fun _ => 0))), .inl (0, (36, .inl (fun _ => 0))), .inl (0, (9, .inl (fun _ => 0))), .inl (0, (9, .inl (fun _ => 0))), .inl (0, (9, .inl (fun _ => 0))), .inl (0, (9, .inl (fun _ => 0))), .inr (0, [.int 0, .int 0, .int 0, .ref 20, .ref 21, .ref 22, .ref 23, .ref 24, .ref 25, .ref 26]), .inl (0, (6, .inl (fun _ => 0))), .inl (0, (6, .inl (fun _ => 0))), .inl (0, (36, .inl (fun _ => 0))), .inl (0, (9, .inl (fun _ => 0))), .inl (0, (9, .inl (fun _ => 0))), .inl (0, (9, .inl (fun _ => 0))), .inl (0, (9, .inl (fun _ => 0))), .inr (3, [.ref 28, .ref 29, .int 0, .int 0, .int 0]), .inl (0, (6, .inl (fun _ => 0))), .inl (0, (9, .inl (fun _ => 0))), .inr (1, [.ref 31, .ref 32, .ref 33, .ref 34, .ref 35, .int 0, .int 0, .int 0, .int 0]), .inl (0, (6, .inl (fun _ => 0))), .inl (0, (9, .inl (fun _ => 0))), .inl (0, (9, .inl (fun _ => 0))), .inl (0, (9, .inl (fun _ => 0))), .inl (0, (9, .inl (fun _ => 0))), .inr (5, [.ref 37, .ref 38, .ref 39, .int 0, .int 0]), .inl (0, (6, .inl (fun _ => 0))), .inl (0, (9, .inl (fun _ => 0))), .inl (1, (81, .inr (.inl (fun _ => 0)))), .inl (0, (6, .inl (fun _ => 0))), .inl (2, (4, .inr (.inr (.inr (.inr (va_up (va_up (va_up (fun _ => none) 0 (some 42)) 1 (some 44)) 2 (some 46))))))), .inr (2, [.ref 43, .int (-1), .int 0]), .inl (0, (40, .inl (fun _ => 0))), .inr (2, [.ref 45, .int (-1), .int 0]), .inl (0, (40, .inl (fun _ => 0))), .inr (2, [.ref 47, .int (-1), .int 0]), .inl (0, (40, .inl (fun _ => 0))), .inr (2, [.null, .int 0, .int 0])]) rfl ?_
  refine AW.leq (L1 := [(0, .ref 48)]) rfl ?_
  refine aw_aload_n 0 dX2_init_0 rfl rfl ?_
  refine aw_objInit dX2_init_1 moX2_3 (by decide) (by decide) ?_
  refine aw_aload_n 0 dX2_init_4 rfl rfl ?_
  refine aw_bipush (v := 40) dX2_init_5 (by decide) ?_
  refine aw_newa (kd := 0) (N := 40) (ty := .int) (a0 := (40, .inl (fun _ => 0))) dX2_init_7 wa_int rfl (Or.inl ⟨rfl, rfl⟩) (ha_int 40) (fun _ => rfl) (by decide) (by decide) (by decide) ⟨Nat.le_of_ble_eq_true rfl, Nat.le_of_ble_eq_true rfl⟩ (N0 := 49) (by decide +kernel) (by decide) (by decide +kernel) (by decide +kernel) (fun a1 A1 => ?_)
  refine AW.heq (h1 := [.inr (6, [.ref 1, .ref 3, .ref 11, .ref 19, .ref 27, .ref 30, .ref 36, .ref 41, .ref 40, .int 0]), .inr (4, [.ref 2, .int 0, .int 0, .int 0, .int 0]), .inl (0, (40, .inl (fun _ => 0))), .inr (0, [.int 0, .int 0, .int 0, .ref 4, .ref 5, .ref 6, .ref 7, .ref 8, .ref 9, .ref 10]), .inl (0, (6, .inl (fun _ => 0))), .inl (0, (6, .inl (fun _ => 0))), .inl (0, (36, .inl (fun _ => 0))), .inl (0, (9, .inl (fun _ => 0))), .inl (0, (9, .inl (fun _ => 0))), .inl (0, (9, .inl (fun _ => 0))), .inl (0, (9, .inl (fun _ => 0))), .inr (0, [.int 0, .int 0, .int 0, .ref 12, .ref 13, .ref 14, .ref 15, .ref 16, .ref 17, .ref 18]), .inl (0, (6, .inl (fun _ => 0))), .inl (0, (6, .inl (fun _ => 0))), .inl (0, (36, .inl (fun _ => 0))), .inl (0, (9, .inl (fun _ => 0))), .inl (0, (9, .inl (fun _ => 0))), .inl (0, (9, .inl (fun _ => 0))), .inl (0, (9, .inl (fun _ => 0))), .inr (0, [.int 0, .int 0, .int 0, .ref 20, .ref 21, .ref 22, .ref 23, .ref 24, .ref 25, .ref 26]), .inl (0, (6, .inl (fun _ => 0))), .inl (0, (6, .inl (fun _ => 0))), .inl (0, (36, .inl (fun _ => 0))), .inl (0, (9, .inl (fun _ => 0))), .inl (0, (9, .inl (fun _ => 0))), .inl (0, (9, .inl (fun _ => 0))), .inl (0, (9, .inl (fun _ => 0))), .inr (3, [.ref 28, .ref 29, .int 0, .int 0, .int 0]), .inl (0, (6, .inl (fun _ => 0))), .inl (0, (9, .inl (fun _ => 0))), .inr (1, [.ref 31, .ref 32, .ref 33, .ref 34, .ref 35, .int 0, .int 0, .int 0, .int 0]), .inl (0, (6, .inl (fun _ => 0))), .inl (0, (9, .inl (fun _ => 0))), .inl (0, (9, .inl (fun _ => 0))), .inl (0, (9, .inl (fun _ => 0))), .inl (0, (9, .inl (fun _ => 0))), .inr (5, [.ref 37, .ref 38, .ref 39, .int 0, .int 0]), .inl (0, (6, .inl (fun _ => 0))), .inl (0, (9, .inl (fun _ => 0))), .inl (1, (81, .inr (.inl (fun _ => 0)))), .inl (0, (6, .inl (fun _ => 0))), .inl (2, (4, .inr (.inr (.inr (.inr (va_up (va_up (va_up (fun _ => none) 0 (some 42)) 1 (some 44)) 2 (some 46))))))), .inr (2, [.ref 43, .int (-1), .int 0]), .inl (0, (40, .inl (fun _ => 0))), .inr (2, [.ref 45, .int (-1), .int 0]), .inl (0, (40, .inl (fun _ => 0))), .inr (2, [.ref 47, .int (-1), .int 0]), .inl (0, (40, .inl (fun _ => 0))), .inr (2, [.null, .int 0, .int 0]), .inl (0, (40, .inl (fun _ => 0)))]) rfl ?_
  refine AW.keq (k1 := 1) (n1 := 40) rfl rfl ?_
  refine aw_putF hn dX2_init_9 pnX2_9 (fun _ => ⟨rfl, rfl⟩) rfl ?_
  refine AW.heq (h1 := [.inr (6, [.ref 1, .ref 3, .ref 11, .ref 19, .ref 27, .ref 30, .ref 36, .ref 41, .ref 40, .int 0]), .inr (4, [.ref 2, .int 0, .int 0, .int 0, .int 0]), .inl (0, (40, .inl (fun _ => 0))), .inr (0, [.int 0, .int 0, .int 0, .ref 4, .ref 5, .ref 6, .ref 7, .ref 8, .ref 9, .ref 10]), .inl (0, (6, .inl (fun _ => 0))), .inl (0, (6, .inl (fun _ => 0))), .inl (0, (36, .inl (fun _ => 0))), .inl (0, (9, .inl (fun _ => 0))), .inl (0, (9, .inl (fun _ => 0))), .inl (0, (9, .inl (fun _ => 0))), .inl (0, (9, .inl (fun _ => 0))), .inr (0, [.int 0, .int 0, .int 0, .ref 12, .ref 13, .ref 14, .ref 15, .ref 16, .ref 17, .ref 18]), .inl (0, (6, .inl (fun _ => 0))), .inl (0, (6, .inl (fun _ => 0))), .inl (0, (36, .inl (fun _ => 0))), .inl (0, (9, .inl (fun _ => 0))), .inl (0, (9, .inl (fun _ => 0))), .inl (0, (9, .inl (fun _ => 0))), .inl (0, (9, .inl (fun _ => 0))), .inr (0, [.int 0, .int 0, .int 0, .ref 20, .ref 21, .ref 22, .ref 23, .ref 24, .ref 25, .ref 26]), .inl (0, (6, .inl (fun _ => 0))), .inl (0, (6, .inl (fun _ => 0))), .inl (0, (36, .inl (fun _ => 0))), .inl (0, (9, .inl (fun _ => 0))), .inl (0, (9, .inl (fun _ => 0))), .inl (0, (9, .inl (fun _ => 0))), .inl (0, (9, .inl (fun _ => 0))), .inr (3, [.ref 28, .ref 29, .int 0, .int 0, .int 0]), .inl (0, (6, .inl (fun _ => 0))), .inl (0, (9, .inl (fun _ => 0))), .inr (1, [.ref 31, .ref 32, .ref 33, .ref 34, .ref 35, .int 0, .int 0, .int 0, .int 0]), .inl (0, (6, .inl (fun _ => 0))), .inl (0, (9, .inl (fun _ => 0))), .inl (0, (9, .inl (fun _ => 0))), .inl (0, (9, .inl (fun _ => 0))), .inl (0, (9, .inl (fun _ => 0))), .inr (5, [.ref 37, .ref 38, .ref 39, .int 0, .int 0]), .inl (0, (6, .inl (fun _ => 0))), .inl (0, (9, .inl (fun _ => 0))), .inl (1, (81, .inr (.inl (fun _ => 0)))), .inl (0, (6, .inl (fun _ => 0))), .inl (2, (4, .inr (.inr (.inr (.inr (va_up (va_up (va_up (fun _ => none) 0 (some 42)) 1 (some 44)) 2 (some 46))))))), .inr (2, [.ref 43, .int (-1), .int 0]), .inl (0, (40, .inl (fun _ => 0))), .inr (2, [.ref 45, .int (-1), .int 0]), .inl (0, (40, .inl (fun _ => 0))), .inr (2, [.ref 47, .int (-1), .int 0]), .inl (0, (40, .inl (fun _ => 0))), .inr (2, [.ref 49, .int 0, .int 0]), .inl (0, (40, .inl (fun _ => 0)))]) rfl ?_
  refine AW.keq (k1 := 1) (n1 := 40) rfl rfl ?_
  refine aw_aload_n 0 dX2_init_12 rfl rfl ?_
  refine aw_iconst (v := -1) dX2_init_13 (by decide) ?_
  refine aw_putI dX2_init_14 pfX2_15 rfl ?_
  refine AW.heq (h1 := [.inr (6, [.ref 1, .ref 3, .ref 11, .ref 19, .ref 27, .ref 30, .ref 36, .ref 41, .ref 40, .int 0]), .inr (4, [.ref 2, .int 0, .int 0, .int 0, .int 0]), .inl (0, (40, .inl (fun _ => 0))), .inr (0, [.int 0, .int 0, .int 0, .ref 4, .ref 5, .ref 6, .ref 7, .ref 8, .ref 9, .ref 10]), .inl (0, (6, .inl (fun _ => 0))), .inl (0, (6, .inl (fun _ => 0))), .inl (0, (36, .inl (fun _ => 0))), .inl (0, (9, .inl (fun _ => 0))), .inl (0, (9, .inl (fun _ => 0))), .inl (0, (9, .inl (fun _ => 0))), .inl (0, (9, .inl (fun _ => 0))), .inr (0, [.int 0, .int 0, .int 0, .ref 12, .ref 13, .ref 14, .ref 15, .ref 16, .ref 17, .ref 18]), .inl (0, (6, .inl (fun _ => 0))), .inl (0, (6, .inl (fun _ => 0))), .inl (0, (36, .inl (fun _ => 0))), .inl (0, (9, .inl (fun _ => 0))), .inl (0, (9, .inl (fun _ => 0))), .inl (0, (9, .inl (fun _ => 0))), .inl (0, (9, .inl (fun _ => 0))), .inr (0, [.int 0, .int 0, .int 0, .ref 20, .ref 21, .ref 22, .ref 23, .ref 24, .ref 25, .ref 26]), .inl (0, (6, .inl (fun _ => 0))), .inl (0, (6, .inl (fun _ => 0))), .inl (0, (36, .inl (fun _ => 0))), .inl (0, (9, .inl (fun _ => 0))), .inl (0, (9, .inl (fun _ => 0))), .inl (0, (9, .inl (fun _ => 0))), .inl (0, (9, .inl (fun _ => 0))), .inr (3, [.ref 28, .ref 29, .int 0, .int 0, .int 0]), .inl (0, (6, .inl (fun _ => 0))), .inl (0, (9, .inl (fun _ => 0))), .inr (1, [.ref 31, .ref 32, .ref 33, .ref 34, .ref 35, .int 0, .int 0, .int 0, .int 0]), .inl (0, (6, .inl (fun _ => 0))), .inl (0, (9, .inl (fun _ => 0))), .inl (0, (9, .inl (fun _ => 0))), .inl (0, (9, .inl (fun _ => 0))), .inl (0, (9, .inl (fun _ => 0))), .inr (5, [.ref 37, .ref 38, .ref 39, .int 0, .int 0]), .inl (0, (6, .inl (fun _ => 0))), .inl (0, (9, .inl (fun _ => 0))), .inl (1, (81, .inr (.inl (fun _ => 0)))), .inl (0, (6, .inl (fun _ => 0))), .inl (2, (4, .inr (.inr (.inr (.inr (va_up (va_up (va_up (fun _ => none) 0 (some 42)) 1 (some 44)) 2 (some 46))))))), .inr (2, [.ref 43, .int (-1), .int 0]), .inl (0, (40, .inl (fun _ => 0))), .inr (2, [.ref 45, .int (-1), .int 0]), .inl (0, (40, .inl (fun _ => 0))), .inr (2, [.ref 47, .int (-1), .int 0]), .inl (0, (40, .inl (fun _ => 0))), .inr (2, [.ref 49, .int (-1), .int 0]), .inl (0, (40, .inl (fun _ => 0)))]) rfl ?_
  refine AW.keq (k1 := 1) (n1 := 40) rfl rfl ?_
  exact aw_vret hr dX2_init_17 ⟨(Agr.tr (by decide) A1 Agr.rf), rfl, rfl⟩
set_option maxRecDepth 100000 in
set_option maxHeartbeats 4000000 in
theorem k12_X6_init : MtQ 2 49 681 yX6_init cX6_init 2 none [.ref 0] hi_22 (Qn 1 hi_23) := by
  refine MtQ.of (by decide) (by decide) (fun X adr hr hn => ?_)
  refine AW.heq (h1 := [.inr (6, [.null, .null, .null, .null, .null, .null, .null, .null, .null, .int 0])]) rfl ?_
  refine AW.leq (L1 := [(0, .ref 0)]) rfl ?_
  refine aw_aload_n 0 dX6_init_0 rfl rfl ?_
  refine aw_objInit dX6_init_1 moX6_1 (by decide) (by decide) ?_
  refine aw_aload_n 0 dX6_init_4 rfl rfl ?_
  refine aw_new (ci := 4) (fs := [.null, .int 0, .int 0, .int 0, .int 0]) tyX4 dX6_init_5 rfl inlX4 tyX4_ok wcX6_7 wiX4 wnX4 (by decide +kernel) (by decide) ⟨Nat.le_of_ble_eq_true rfl, Nat.le_of_ble_eq_true rfl⟩ (N0 := 1) (by decide +kernel) (by decide) (by decide +kernel) (by decide +kernel) (fun a1 A1 => ?_)
  refine AW.heq (h1 := [.inr (6, [.null, .null, .null, .null, .null, .null, .null, .null, .null, .int 0]), .inr (4, [.null, .int 0, .int 0, .int 0, .int 0])]) rfl ?_
  refine AW.keq (k1 := 1) (n1 := 5) rfl rfl ?_
  refine aw_dup dX6_init_8 rfl ?_
  refine aw_ctorN (as := []) dX6_init_9 moX4_init ioX4_init rfl mnX6_9 (by decide) ⟨Nat.le_of_ble_eq_true rfl, Nat.le_of_ble_eq_true rfl⟩ (by decide) rfl (N0 := 2) (by decide +kernel) k1_X4_init (fun a2 A2 => ?_)
  refine AW.heq (h1 := [.inr (6, [.null, .null, .null, .null, .null, .null, .null, .null, .null, .int 0]), .inr (4, [.ref 2, .int 0, .int 0, .int 0, .int 0]), .inl (0, (40, .inl (fun _ => 0)))]) rfl ?_
  refine AW.keq (k1 := 2) (n1 := 45) rfl rfl ?_
  refine aw_putF hn dX6_init_12 pnX6_10 (fun _ => ⟨rfl, rfl⟩) rfl ?_
  refine AW.heq (h1 := [.inr (6, [.ref 1, .null, .null, .null, .null, .null, .null, .null, .null, .int 0]), .inr (4, [.ref 2, .int 0, .int 0, .int 0, .int 0]), .inl (0, (40, .inl (fun _ => 0)))]) rfl ?_
  refine AW.keq (k1 := 2) (n1 := 45) rfl rfl ?_
  refine aw_aload_n 0 dX6_init_15 rfl rfl ?_
  refine aw_new (ci := 0) (fs := [.int 0, .int 0, .int 0, .null, .null, .null, .null, .null, .null, .null]) tyX0 dX6_init_16 rfl inlX0 tyX0_ok wcX6_16 wiX0 wnX0 (by decide +kernel) (by decide) ⟨Nat.le_of_ble_eq_true rfl, Nat.le_of_ble_eq_true rfl⟩ (N0 := 3) (by decide +kernel) (by decide) (by decide +kernel) (by decide +kernel) (fun a3 A3 => ?_)
  refine AW.heq (h1 := [.inr (6, [.ref 1, .null, .null, .null, .null, .null, .null, .null, .null, .int 0]), .inr (4, [.ref 2, .int 0, .int 0, .int 0, .int 0]), .inl (0, (40, .inl (fun _ => 0))), .inr (0, [.int 0, .int 0, .int 0, .null, .null, .null, .null, .null, .null, .null])]) rfl ?_
  refine AW.keq (k1 := 3) (n1 := 55) rfl rfl ?_
  refine aw_dup dX6_init_19 rfl ?_
  refine aw_ctorN (as := []) dX6_init_20 moX0_init ioX0_init rfl mnX6_18 (by decide) ⟨Nat.le_of_ble_eq_true rfl, Nat.le_of_ble_eq_true rfl⟩ (by decide) rfl (N0 := 4) (by decide +kernel) k2_X0_init (fun a4 A4 => ?_)
  refine AW.heq (h1 := [.inr (6, [.ref 1, .null, .null, .null, .null, .null, .null, .null, .null, .int 0]), .inr (4, [.ref 2, .int 0, .int 0, .int 0, .int 0]), .inl (0, (40, .inl (fun _ => 0))), .inr (0, [.int 0, .int 0, .int 0, .ref 4, .ref 5, .ref 6, .ref 7, .ref 8, .ref 9, .ref 10]), .inl (0, (6, .inl (fun _ => 0))), .inl (0, (6, .inl (fun _ => 0))), .inl (0, (36, .inl (fun _ => 0))), .inl (0, (9, .inl (fun _ => 0))), .inl (0, (9, .inl (fun _ => 0))), .inl (0, (9, .inl (fun _ => 0))), .inl (0, (9, .inl (fun _ => 0)))]) rfl ?_
  refine AW.keq (k1 := 10) (n1 := 139) rfl rfl ?_
  refine aw_putF hn dX6_init_23 pnX6_19 (fun _ => ⟨rfl, rfl⟩) rfl ?_
  refine AW.heq (h1 := [.inr (6, [.ref 1, .ref 3, .null, .null, .null, .null, .null, .null, .null, .int 0]), .inr (4, [.ref 2, .int 0, .int 0, .int 0, .int 0]), .inl (0, (40, .inl (fun _ => 0))), .inr (0, [.int 0, .int 0, .int 0, .ref 4, .ref 5, .ref 6, .ref 7, .ref 8, .ref 9, .ref 10]), .inl (0, (6, .inl (fun _ => 0))), .inl (0, (6, .inl (fun _ => 0))), .inl (0, (36, .inl (fun _ => 0))), .inl (0, (9, .inl (fun _ => 0))), .inl (0, (9, .inl (fun _ => 0))), .inl (0, (9, .inl (fun _ => 0))), .inl (0, (9, .inl (fun _ => 0)))]) rfl ?_
  refine AW.keq (k1 := 10) (n1 := 139) rfl rfl ?_
  refine aw_aload_n 0 dX6_init_26 rfl rfl ?_
  refine aw_new (ci := 0) (fs := [.int 0, .int 0, .int 0, .null, .null, .null, .null, .null, .null, .null]) tyX0 dX6_init_27 rfl inlX0 tyX0_ok wcX6_16 wiX0 wnX0 (by decide +kernel) (by decide) ⟨Nat.le_of_ble_eq_true rfl, Nat.le_of_ble_eq_true rfl⟩ (N0 := 11) (by decide +kernel) (by decide) (by decide +kernel) (by decide +kernel) (fun a5 A5 => ?_)
  refine AW.heq (h1 := [.inr (6, [.ref 1, .ref 3, .null, .null, .null, .null, .null, .null, .null, .int 0]), .inr (4, [.ref 2, .int 0, .int 0, .int 0, .int 0]), .inl (0, (40, .inl (fun _ => 0))), .inr (0, [.int 0, .int 0, .int 0, .ref 4, .ref 5, .ref 6, .ref 7, .ref 8, .ref 9, .ref 10]), .inl (0, (6, .inl (fun _ => 0))), .inl (0, (6, .inl (fun _ => 0))), .inl (0, (36, .inl (fun _ => 0))), .inl (0, (9, .inl (fun _ => 0))), .inl (0, (9, .inl (fun _ => 0))), .inl (0, (9, .inl (fun _ => 0))), .inl (0, (9, .inl (fun _ => 0))), .inr (0, [.int 0, .int 0, .int 0, .null, .null, .null, .null, .null, .null, .null])]) rfl ?_
  refine AW.keq (k1 := 11) (n1 := 149) rfl rfl ?_
  refine aw_dup dX6_init_30 rfl ?_
  refine aw_ctorN (as := []) dX6_init_31 moX0_init ioX0_init rfl mnX6_18 (by decide) ⟨Nat.le_of_ble_eq_true rfl, Nat.le_of_ble_eq_true rfl⟩ (by decide) rfl (N0 := 12) (by decide +kernel) k3_X0_init (fun a6 A6 => ?_)
  refine AW.heq (h1 := [.inr (6, [.ref 1, .ref 3, .null, .null, .null, .null, .null, .null, .null, .int 0]), .inr (4, [.ref 2, .int 0, .int 0, .int 0, .int 0]), .inl (0, (40, .inl (fun _ => 0))), .inr (0, [.int 0, .int 0, .int 0, .ref 4, .ref 5, .ref 6, .ref 7, .ref 8, .ref 9, .ref 10]), .inl (0, (6, .inl (fun _ => 0))), .inl (0, (6, .inl (fun _ => 0))), .inl (0, (36, .inl (fun _ => 0))), .inl (0, (9, .inl (fun _ => 0))), .inl (0, (9, .inl (fun _ => 0))), .inl (0, (9, .inl (fun _ => 0))), .inl (0, (9, .inl (fun _ => 0))), .inr (0, [.int 0, .int 0, .int 0, .ref 12, .ref 13, .ref 14, .ref 15, .ref 16, .ref 17, .ref 18]), .inl (0, (6, .inl (fun _ => 0))), .inl (0, (6, .inl (fun _ => 0))), .inl (0, (36, .inl (fun _ => 0))), .inl (0, (9, .inl (fun _ => 0))), .inl (0, (9, .inl (fun _ => 0))), .inl (0, (9, .inl (fun _ => 0))), .inl (0, (9, .inl (fun _ => 0)))]) rfl ?_
  refine AW.keq (k1 := 18) (n1 := 233) rfl rfl ?_
  refine aw_putF hn dX6_init_34 pnX6_23 (fun _ => ⟨rfl, rfl⟩) rfl ?_
  refine AW.heq (h1 := [.inr (6, [.ref 1, .ref 3, .ref 11, .null, .null, .null, .null, .null, .null, .int 0]), .inr (4, [.ref 2, .int 0, .int 0, .int 0, .int 0]), .inl (0, (40, .inl (fun _ => 0))), .inr (0, [.int 0, .int 0, .int 0, .ref 4, .ref 5, .ref 6, .ref 7, .ref 8, .ref 9, .ref 10]), .inl (0, (6, .inl (fun _ => 0))), .inl (0, (6, .inl (fun _ => 0))), .inl (0, (36, .inl (fun _ => 0))), .inl (0, (9, .inl (fun _ => 0))), .inl (0, (9, .inl (fun _ => 0))), .inl (0, (9, .inl (fun _ => 0))), .inl (0, (9, .inl (fun _ => 0))), .inr (0, [.int 0, .int 0, .int 0, .ref 12, .ref 13, .ref 14, .ref 15, .ref 16, .ref 17, .ref 18]), .inl (0, (6, .inl (fun _ => 0))), .inl (0, (6, .inl (fun _ => 0))), .inl (0, (36, .inl (fun _ => 0))), .inl (0, (9, .inl (fun _ => 0))), .inl (0, (9, .inl (fun _ => 0))), .inl (0, (9, .inl (fun _ => 0))), .inl (0, (9, .inl (fun _ => 0)))]) rfl ?_
  refine AW.keq (k1 := 18) (n1 := 233) rfl rfl ?_
  refine aw_aload_n 0 dX6_init_37 rfl rfl ?_
  refine aw_new (ci := 0) (fs := [.int 0, .int 0, .int 0, .null, .null, .null, .null, .null, .null, .null]) tyX0 dX6_init_38 rfl inlX0 tyX0_ok wcX6_16 wiX0 wnX0 (by decide +kernel) (by decide) ⟨Nat.le_of_ble_eq_true rfl, Nat.le_of_ble_eq_true rfl⟩ (N0 := 19) (by decide +kernel) (by decide) (by decide +kernel) (by decide +kernel) (fun a7 A7 => ?_)
  refine AW.heq (h1 := [.inr (6, [.ref 1, .ref 3, .ref 11, .null, .null, .null, .null, .null, .null, .int 0]), .inr (4, [.ref 2, .int 0, .int 0, .int 0, .int 0]), .inl (0, (40, .inl (fun _ => 0))), .inr (0, [.int 0, .int 0, .int 0, .ref 4, .ref 5, .ref 6, .ref 7, .ref 8, .ref 9, .ref 10]), .inl (0, (6, .inl (fun _ => 0))), .inl (0, (6, .inl (fun _ => 0))), .inl (0, (36, .inl (fun _ => 0))), .inl (0, (9, .inl (fun _ => 0))), .inl (0, (9, .inl (fun _ => 0))), .inl (0, (9, .inl (fun _ => 0))), .inl (0, (9, .inl (fun _ => 0))), .inr (0, [.int 0, .int 0, .int 0, .ref 12, .ref 13, .ref 14, .ref 15, .ref 16, .ref 17, .ref 18]), .inl (0, (6, .inl (fun _ => 0))), .inl (0, (6, .inl (fun _ => 0))), .inl (0, (36, .inl (fun _ => 0))), .inl (0, (9, .inl (fun _ => 0))), .inl (0, (9, .inl (fun _ => 0))), .inl (0, (9, .inl (fun _ => 0))), .inl (0, (9, .inl (fun _ => 0))), .inr (0, [.int 0, .int 0, .int 0, .null, .null, .null, .null, .null, .null, .null])]) rfl ?_
  refine AW.keq (k1 := 19) (n1 := 243) rfl rfl ?_
  refine aw_dup dX6_init_41 rfl ?_
  refine aw_ctorN (as := []) dX6_init_42 moX0_init ioX0_init rfl mnX6_18 (by decide) ⟨Nat.le_of_ble_eq_true rfl, Nat.le_of_ble_eq_true rfl⟩ (by decide) rfl (N0 := 20) (by decide +kernel) k4_X0_init (fun a8 A8 => ?_)
  refine AW.heq (h1 := [.inr (6, [.ref 1, .ref 3, .ref 11, .null, .null, .null, .null, .null, .null, .int 0]), .inr (4, [.ref 2, .int 0, .int 0, .int 0, .int 0]), .inl (0, (40, .inl (fun _ => 0))), .inr (0, [.int 0, .int 0, .int 0, .ref 4, .ref 5, .ref 6, .ref 7, .ref 8, .ref 9, .ref 10]), .inl (0, (6, .inl (fun _ => 0))), .inl (0, (6, .inl (fun _ => 0))), .inl (0, (36, .inl (fun _ => 0))), .inl (0, (9, .inl (fun _ => 0))), .inl (0, (9, .inl (fun _ => 0))), .inl (0, (9, .inl (fun _ => 0))), .inl (0, (9, .inl (fun _ => 0))), .inr (0, [.int 0, .int 0, .int 0, .ref 12, .ref 13, .ref 14, .ref 15, .ref 16, .ref 17, .ref 18]), .inl (0, (6, .inl (fun _ => 0))), .inl (0, (6, .inl (fun _ => 0))), .inl (0, (36, .inl (fun _ => 0))), .inl (0, (9, .inl (fun _ => 0))), .inl (0, (9, .inl (fun _ => 0))), .inl (0, (9, .inl (fun _ => 0))), .inl (0, (9, .inl (fun _ => 0))), .inr (0, [.int 0, .int 0, .int 0, .ref 20, .ref 21, .ref 22, .ref 23, .ref 24, .ref 25, .ref 26]), .inl (0, (6, .inl (fun _ => 0))), .inl (0, (6, .inl (fun _ => 0))), .inl (0, (36, .inl (fun _ => 0))), .inl (0, (9, .inl (fun _ => 0))), .inl (0, (9, .inl (fun _ => 0))), .inl (0, (9, .inl (fun _ => 0))), .inl (0, (9, .inl (fun _ => 0)))]) rfl ?_
  refine AW.keq (k1 := 26) (n1 := 327) rfl rfl ?_
  refine aw_putF hn dX6_init_45 pnX6_26 (fun _ => ⟨rfl, rfl⟩) rfl ?_
  refine AW.heq (h1 := [.inr (6, [.ref 1, .ref 3, .ref 11, .ref 19, .null, .null, .null, .null, .null, .int 0]), .inr (4, [.ref 2, .int 0, .int 0, .int 0, .int 0]), .inl (0, (40, .inl (fun _ => 0))), .inr (0, [.int 0, .int 0, .int 0, .ref 4, .ref 5, .ref 6, .ref 7, .ref 8, .ref 9, .ref 10]), .inl (0, (6, .inl (fun _ => 0))), .inl (0, (6, .inl (fun _ => 0))), .inl (0, (36, .inl (fun _ => 0))), .inl (0, (9, .inl (fun _ => 0))), .inl (0, (9, .inl (fun _ => 0))), .inl (0, (9, .inl (fun _ => 0))), .inl (0, (9, .inl (fun _ => 0))), .inr (0, [.int 0, .int 0, .int 0, .ref 12, .ref 13, .ref 14, .ref 15, .ref 16, .ref 17, .ref 18]), .inl (0, (6, .inl (fun _ => 0))), .inl (0, (6, .inl (fun _ => 0))), .inl (0, (36, .inl (fun _ => 0))), .inl (0, (9, .inl (fun _ => 0))), .inl (0, (9, .inl (fun _ => 0))), .inl (0, (9, .inl (fun _ => 0))), .inl (0, (9, .inl (fun _ => 0))), .inr (0, [.int 0, .int 0, .int 0, .ref 20, .ref 21, .ref 22, .ref 23, .ref 24, .ref 25, .ref 26]), .inl (0, (6, .inl (fun _ => 0))), .inl (0, (6, .inl (fun _ => 0))), .inl (0, (36, .inl (fun _ => 0))), .inl (0, (9, .inl (fun _ => 0))), .inl (0, (9, .inl (fun _ => 0))), .inl (0, (9, .inl (fun _ => 0))), .inl (0, (9, .inl (fun _ => 0)))]) rfl ?_
  refine AW.keq (k1 := 26) (n1 := 327) rfl rfl ?_
  refine aw_aload_n 0 dX6_init_48 rfl rfl ?_
  refine aw_new (ci := 3) (fs := [.null, .null, .int 0, .int 0, .int 0]) tyX3 dX6_init_49 rfl inlX3 tyX3_ok wcX6_29 wiX3 wnX3 (by decide +kernel) (by decide) ⟨Nat.le_of_ble_eq_true rfl, Nat.le_of_ble_eq_true rfl⟩ (N0 := 27) (by decide +kernel) (by decide) (by decide +kernel) (by decide +kernel) (fun a9 A9 => ?_)
  refine AW.heq (h1 := [.inr (6, [.ref 1, .ref 3, .ref 11, .ref 19, .null, .null, .null, .null, .null, .int 0]), .inr (4, [.ref 2, .int 0, .int 0, .int 0, .int 0]), .inl (0, (40, .inl (fun _ => 0))), .inr (0, [.int 0, .int 0, .int 0, .ref 4, .ref 5, .ref 6, .ref 7, .ref 8, .ref 9, .ref 10]), .inl (0, (6, .inl (fun _ => 0))), .inl (0, (6, .inl (fun _ => 0))), .inl (0, (36, .inl (fun _ => 0))), .inl (0, (9, .inl (fun _ => 0))), .inl (0, (9, .inl (fun _ => 0))), .inl (0, (9, .inl (fun _ => 0))), .inl (0, (9, .inl (fun _ => 0))), .inr (0, [.int 0, .int 0, .int 0, .ref 12, .ref 13, .ref 14, .ref 15, .ref 16, .ref 17, .ref 18]), .inl (0, (6, .inl (fun _ => 0))), .inl (0, (6, .inl (fun _ => 0))), .inl (0, (36, .inl (fun _ => 0))), .inl (0, (9, .inl (fun _ => 0))), .inl (0, (9, .inl (fun _ => 0))), .inl (0, (9, .inl (fun _ => 0))), .inl (0, (9, .inl (fun _ => 0))), .inr (0, [.int 0, .int 0, .int 0, .ref 20, .ref 21, .ref 22, .ref 23, .ref 24, .ref 25, .ref 26]), .inl (0, (6, .inl (fun _ => 0))), .inl (0, (6, .inl (fun _ => 0))), .inl (0, (36, .inl (fun _ => 0))), .inl (0, (9, .inl (fun _ => 0))), .inl (0, (9, .inl (fun _ => 0))), .inl (0, (9, .inl (fun _ => 0))), .inl (0, (9, .inl (fun _ => 0))), .inr (3, [.null, .null, .int 0, .int 0, .int 0])]) rfl ?_
  refine AW.keq (k1 := 27) (n1 := 332) rfl rfl ?_
  refine aw_dup dX6_init_52 rfl ?_
  refine aw_ctorN (as := []) dX6_init_53 moX3_init ioX3_init rfl mnX6_31 (by decide) ⟨Nat.le_of_ble_eq_true rfl, Nat.le_of_ble_eq_true rfl⟩ (by decide) rfl (N0 := 28) (by decide +kernel) k5_X3_init (fun a10 A10 => ?_)
  refine AW.heq (h1 := [.inr (6, [.ref 1, .ref 3, .ref 11, .ref 19, .null, .null, .null, .null, .null, .int 0]), .inr (4, [.ref 2, .int 0, .int 0, .int 0, .int 0]), .inl (0, (40, .inl (fun _ => 0))), .inr (0, [.int 0, .int 0, .int 0, .ref 4, .ref 5, .ref 6, .ref 7, .ref 8, .ref 9, .ref 10]), .inl (0, (6, .inl (fun _ => 0))), .inl (0, (6, .inl (fun _ => 0))), .inl (0, (36, .inl (fun _ => 0))), .inl (0, (9, .inl (fun _ => 0))), .inl (0, (9, .inl (fun _ => 0))), .inl (0, (9, .inl (fun _ => 0))), .inl (0, (9, .inl (fun _ => 0))), .inr (0, [.int 0, .int 0, .int 0, .ref 12, .ref 13, .ref 14, .ref 15, .ref 16, .ref 17, .ref 18]), .inl (0, (6, .inl (fun _ => 0))), .inl (0, (6, .inl (fun _ => 0))), .inl (0, (36, .inl (fun _ => 0))), .inl (0, (9, .inl (fun _ => 0))), .inl (0, (9, .inl (fun _ => 0))), .inl (0, (9, .inl (fun _ => 0))), .inl (0, (9, .inl (fun _ => 0))), .inr (0, [.int 0, .int 0, .int 0, .ref 20, .ref 21, .ref 22, .ref 23, .ref 24, .ref 25, .ref 26]), .inl (0, (6, .inl (fun _ => 0))), .inl (0, (6, .inl (fun _ => 0))), .inl (0, (36, .inl (fun _ => 0))), .inl (0, (9, .inl (fun _ => 0))), .inl (0, (9, .inl (fun _ => 0))), .inl (0, (9, .inl (fun _ => 0))), .inl (0, (9, .inl (fun _ => 0))), .inr (3, [.ref 28, .ref 29, .int 0, .int 0, .int 0]), .inl (0, (6, .inl (fun _ => 0))), .inl (0, (9, .inl (fun _ => 0)))]) rfl ?_
  refine AW.keq (k1 := 29) (n1 := 347) rfl rfl ?_
  refine aw_putF hn dX6_init_56 pnX6_32 (fun _ => ⟨rfl, rfl⟩) rfl ?_
  refine AW.heq (h1 := [.inr (6, [.ref 1, .ref 3, .ref 11, .ref 19, .ref 27, .null, .null, .null, .null, .int 0]), .inr (4, [.ref 2, .int 0, .int 0, .int 0, .int 0]), .inl (0, (40, .inl (fun _ => 0))), .inr (0, [.int 0, .int 0, .int 0, .ref 4, .ref 5, .ref 6, .ref 7, .ref 8, .ref 9, .ref 10]), .inl (0, (6, .inl (fun _ => 0))), .inl (0, (6, .inl (fun _ => 0))), .inl (0, (36, .inl (fun _ => 0))), .inl (0, (9, .inl (fun _ => 0))), .inl (0, (9, .inl (fun _ => 0))), .inl (0, (9, .inl (fun _ => 0))), .inl (0, (9, .inl (fun _ => 0))), .inr (0, [.int 0, .int 0, .int 0, .ref 12, .ref 13, .ref 14, .ref 15, .ref 16, .ref 17, .ref 18]), .inl (0, (6, .inl (fun _ => 0))), .inl (0, (6, .inl (fun _ => 0))), .inl (0, (36, .inl (fun _ => 0))), .inl (0, (9, .inl (fun _ => 0))), .inl (0, (9, .inl (fun _ => 0))), .inl (0, (9, .inl (fun _ => 0))), .inl (0, (9, .inl (fun _ => 0))), .inr (0, [.int 0, .int 0, .int 0, .ref 20, .ref 21, .ref 22, .ref 23, .ref 24, .ref 25, .ref 26]), .inl (0, (6, .inl (fun _ => 0))), .inl (0, (6, .inl (fun _ => 0))), .inl (0, (36, .inl (fun _ => 0))), .inl (0, (9, .inl (fun _ => 0))), .inl (0, (9, .inl (fun _ => 0))), .inl (0, (9, .inl (fun _ => 0))), .inl (0, (9, .inl (fun _ => 0))), .inr (3, [.ref 28, .ref 29, .int 0, .int 0, .int 0]), .inl (0, (6, .inl (fun _ => 0))), .inl (0, (9, .inl (fun _ => 0)))]) rfl ?_
  refine AW.keq (k1 := 29) (n1 := 347) rfl rfl ?_
  refine aw_aload_n 0 dX6_init_59 rfl rfl ?_
  refine aw_new (ci := 1) (fs := [.null, .null, .null, .null, .null, .int 0, .int 0, .int 0, .int 0]) tyX1 dX6_init_60 rfl inlX1 tyX1_ok wcX6_36 wiX1 wnX1 (by decide +kernel) (by decide) ⟨Nat.le_of_ble_eq_true rfl, Nat.le_of_ble_eq_true rfl⟩ (N0 := 30) (by decide +kernel) (by decide) (by decide +kernel) (by decide +kernel) (fun a11 A11 => ?_)
  refine AW.heq (h1 := [.inr (6, [.ref 1, .ref 3, .ref 11, .ref 19, .ref 27, .null, .null, .null, .null, .int 0]), .inr (4, [.ref 2, .int 0, .int 0, .int 0, .int 0]), .inl (0, (40, .inl (fun _ => 0))), .inr (0, [.int 0, .int 0, .int 0, .ref 4, .ref 5, .ref 6, .ref 7, .ref 8, .ref 9, .ref 10]), .inl (0, (6, .inl (fun _ => 0))), .inl (0, (6, .inl (fun _ => 0))), .inl (0, (36, .inl (fun _ => 0))), .inl (0, (9, .inl (fun _ => 0))), .inl (0, (9, .inl (fun _ => 0))), .inl (0, (9, .inl (fun _ => 0))), .inl (0, (9, .inl (fun _ => 0))), .inr (0, [.int 0, .int 0, .int 0, .ref 12, .ref 13, .ref 14, .ref 15, .ref 16, .ref 17, .ref 18]), .inl (0, (6, .inl (fun _ => 0))), .inl (0, (6, .inl (fun _ => 0))), .inl (0, (36, .inl (fun _ => 0))), .inl (0, (9, .inl (fun _ => 0))), .inl (0, (9, .inl (fun _ => 0))), .inl (0, (9, .inl (fun _ => 0))), .inl (0, (9, .inl (fun _ => 0))), .inr (0, [.int 0, .int 0, .int 0, .ref 20, .ref 21, .ref 22, .ref 23, .ref 24, .ref 25, .ref 26]), .inl (0, (6, .inl (fun _ => 0))), .inl (0, (6, .inl (fun _ => 0))), .inl (0, (36, .inl (fun _ => 0))), .inl (0, (9, .inl (fun _ => 0))), .inl (0, (9, .inl (fun _ => 0))), .inl (0, (9, .inl (fun _ => 0))), .inl (0, (9, .inl (fun _ => 0))), .inr (3, [.ref 28, .ref 29, .int 0, .int 0, .int 0]), .inl (0, (6, .inl (fun _ => 0))), .inl (0, (9, .inl (fun _ => 0))), .inr (1, [.null, .null, .null, .null, .null, .int 0, .int 0, .int 0, .int 0])]) rfl ?_
  refine AW.keq (k1 := 30) (n1 := 356) rfl rfl ?_
  refine aw_dup dX6_init_63 rfl ?_
  refine aw_ctorN (as := []) dX6_init_64 moX1_init ioX1_init rfl mnX6_38 (by decide) ⟨Nat.le_of_ble_eq_true rfl, Nat.le_of_ble_eq_true rfl⟩ (by decide) rfl (N0 := 31) (by decide +kernel) k6_X1_init (fun a12 A12 => ?_)
  refine AW.heq (h1 := [.inr (6, [.ref 1, .ref 3, .ref 11, .ref 19, .ref 27, .null, .null, .null, .null, .int 0]), .inr (4, [.ref 2, .int 0, .int 0, .int 0, .int 0]), .inl (0, (40, .inl (fun _ => 0))), .inr (0, [.int 0, .int 0, .int 0, .ref 4, .ref 5, .ref 6, .ref 7, .ref 8, .ref 9, .ref 10]), .inl (0, (6, .inl (fun _ => 0))), .inl (0, (6, .inl (fun _ => 0))), .inl (0, (36, .inl (fun _ => 0))), .inl (0, (9, .inl (fun _ => 0))), .inl (0, (9, .inl (fun _ => 0))), .inl (0, (9, .inl (fun _ => 0))), .inl (0, (9, .inl (fun _ => 0))), .inr (0, [.int 0, .int 0, .int 0, .ref 12, .ref 13, .ref 14, .ref 15, .ref 16, .ref 17, .ref 18]), .inl (0, (6, .inl (fun _ => 0))), .inl (0, (6, .inl (fun _ => 0))), .inl (0, (36, .inl (fun _ => 0))), .inl (0, (9, .inl (fun _ => 0))), .inl (0, (9, .inl (fun _ => 0))), .inl (0, (9, .inl (fun _ => 0))), .inl (0, (9, .inl (fun _ => 0))), .inr (0, [.int 0, .int 0, .int 0, .ref 20, .ref 21, .ref 22, .ref 23, .ref 24, .ref 25, .ref 26]), .inl (0, (6, .inl (fun _ => 0))), .inl (0, (6, .inl (fun _ => 0))), .inl (0, (36, .inl (fun _ => 0))), .inl (0, (9, .inl (fun _ => 0))), .inl (0, (9, .inl (fun _ => 0))), .inl (0, (9, .inl (fun _ => 0))), .inl (0, (9, .inl (fun _ => 0))), .inr (3, [.ref 28, .ref 29, .int 0, .int 0, .int 0]), .inl (0, (6, .inl (fun _ => 0))), .inl (0, (9, .inl (fun _ => 0))), .inr (1, [.ref 31, .ref 32, .ref 33, .ref 34, .ref 35, .int 0, .int 0, .int 0, .int 0]), .inl (0, (6, .inl (fun _ => 0))), .inl (0, (9, .inl (fun _ => 0))), .inl (0, (9, .inl (fun _ => 0))), .inl (0, (9, .inl (fun _ => 0))), .inl (0, (9, .inl (fun _ => 0)))]) rfl ?_
  refine AW.keq (k1 := 35) (n1 := 398) rfl rfl ?_
  refine aw_putF hn dX6_init_67 pnX6_39 (fun _ => ⟨rfl, rfl⟩) rfl ?_
  refine AW.heq (h1 := [.inr (6, [.ref 1, .ref 3, .ref 11, .ref 19, .ref 27, .ref 30, .null, .null, .null, .int 0]), .inr (4, [.ref 2, .int 0, .int 0, .int 0, .int 0]), .inl (0, (40, .inl (fun _ => 0))), .inr (0, [.int 0, .int 0, .int 0, .ref 4, .ref 5, .ref 6, .ref 7, .ref 8, .ref 9, .ref 10]), .inl (0, (6, .inl (fun _ => 0))), .inl (0, (6, .inl (fun _ => 0))), .inl (0, (36, .inl (fun _ => 0))), .inl (0, (9, .inl (fun _ => 0))), .inl (0, (9, .inl (fun _ => 0))), .inl (0, (9, .inl (fun _ => 0))), .inl (0, (9, .inl (fun _ => 0))), .inr (0, [.int 0, .int 0, .int 0, .ref 12, .ref 13, .ref 14, .ref 15, .ref 16, .ref 17, .ref 18]), .inl (0, (6, .inl (fun _ => 0))), .inl (0, (6, .inl (fun _ => 0))), .inl (0, (36, .inl (fun _ => 0))), .inl (0, (9, .inl (fun _ => 0))), .inl (0, (9, .inl (fun _ => 0))), .inl (0, (9, .inl (fun _ => 0))), .inl (0, (9, .inl (fun _ => 0))), .inr (0, [.int 0, .int 0, .int 0, .ref 20, .ref 21, .ref 22, .ref 23, .ref 24, .ref 25, .ref 26]), .inl (0, (6, .inl (fun _ => 0))), .inl (0, (6, .inl (fun _ => 0))), .inl (0, (36, .inl (fun _ => 0))), .inl (0, (9, .inl (fun _ => 0))), .inl (0, (9, .inl (fun _ => 0))), .inl (0, (9, .inl (fun _ => 0))), .inl (0, (9, .inl (fun _ => 0))), .inr (3, [.ref 28, .ref 29, .int 0, .int 0, .int 0]), .inl (0, (6, .inl (fun _ => 0))), .inl (0, (9, .inl (fun _ => 0))), .inr (1, [.ref 31, .ref 32, .ref 33, .ref 34, .ref 35, .int 0, .int 0, .int 0, .int 0]), .inl (0, (6, .inl (fun _ => 0))), .inl (0, (9, .inl (fun _ => 0))), .inl (0, (9, .inl (fun _ => 0))), .inl (0, (9, .inl (fun _ => 0))), .inl (0, (9, .inl (fun _ => 0)))]) rfl ?_
  refine AW.keq (k1 := 35) (n1 := 398) rfl rfl ?_
  refine aw_aload_n 0 dX6_init_70 rfl rfl ?_
  refine aw_new (ci := 5) (fs := [.null, .null, .null, .int 0, .int 0]) tyX5 dX6_init_71 rfl inlX5 tyX5_ok wcX6_43 wiX5 wnX5 (by decide +kernel) (by decide) ⟨Nat.le_of_ble_eq_true rfl, Nat.le_of_ble_eq_true rfl⟩ (N0 := 36) (by decide +kernel) (by decide) (by decide +kernel) (by decide +kernel) (fun a13 A13 => ?_)
  refine AW.heq (h1 := [.inr (6, [.ref 1, .ref 3, .ref 11, .ref 19, .ref 27, .ref 30, .null, .null, .null, .int 0]), .inr (4, [.ref 2, .int 0, .int 0, .int 0, .int 0]), .inl (0, (40, .inl (fun _ => 0))), .inr (0, [.int 0, .int 0, .int 0, .ref 4, .ref 5, .ref 6, .ref 7, .ref 8, .ref 9, .ref 10]), .inl (0, (6, .inl (fun _ => 0))), .inl (0, (6, .inl (fun _ => 0))), .inl (0, (36, .inl (fun _ => 0))), .inl (0, (9, .inl (fun _ => 0))), .inl (0, (9, .inl (fun _ => 0))), .inl (0, (9, .inl (fun _ => 0))), .inl (0, (9, .inl (fun _ => 0))), .inr (0, [.int 0, .int 0, .int 0, .ref 12, .ref 13, .ref 14, .ref 15, .ref 16, .ref 17, .ref 18]), .inl (0, (6, .inl (fun _ => 0))), .inl (0, (6, .inl (fun _ => 0))), .inl (0, (36, .inl (fun _ => 0))), .inl (0, (9, .inl (fun _ => 0))), .inl (0, (9, .inl (fun _ => 0))), .inl (0, (9, .inl (fun _ => 0))), .inl (0, (9, .inl (fun _ => 0))), .inr (0, [.int 0, .int 0, .int 0, .ref 20, .ref 21, .ref 22, .ref 23, .ref 24, .ref 25, .ref 26]), .inl (0, (6, .inl (fun _ => 0))), .inl (0, (6, .inl (fun _ => 0))), .inl (0, (36, .inl (fun _ => 0))), .inl (0, (9, .inl (fun _ => 0))), .inl (0, (9, .inl (fun _ => 0))), .inl (0, (9, .inl (fun _ => 0))), .inl (0, (9, .inl (fun _ => 0))), .inr (3, [.ref 28, .ref 29, .int 0, .int 0, .int 0]), .inl (0, (6, .inl (fun _ => 0))), .inl (0, (9, .inl (fun _ => 0))), .inr (1, [.ref 31, .ref 32, .ref 33, .ref 34, .ref 35, .int 0, .int 0, .int 0, .int 0]), .inl (0, (6, .inl (fun _ => 0))), .inl (0, (9, .inl (fun _ => 0))), .inl (0, (9, .inl (fun _ => 0))), .inl (0, (9, .inl (fun _ => 0))), .inl (0, (9, .inl (fun _ => 0))), .inr (5, [.null, .null, .null, .int 0, .int 0])]) rfl ?_
  refine AW.keq (k1 := 36) (n1 := 403) rfl rfl ?_
  refine aw_dup dX6_init_74 rfl ?_
  refine aw_ctorN (as := []) dX6_init_75 moX5_init ioX5_init rfl mnX6_45 (by decide) ⟨Nat.le_of_ble_eq_true rfl, Nat.le_of_ble_eq_true rfl⟩ (by decide) rfl (N0 := 37) (by decide +kernel) k7_X5_init (fun a14 A14 => ?_)
  refine AW.heq (h1 := [.inr (6, [.ref 1, .ref 3, .ref 11, .ref 19, .ref 27, .ref 30, .null, .null, .null, .int 0]), .inr (4, [.ref 2, .int 0, .int 0, .int 0, .int 0]), .inl (0, (40, .inl (fun _ => 0))), .inr (0, [.int 0, .int 0, .int 0, .ref 4, .ref 5, .ref 6, .ref 7, .ref 8, .ref 9, .ref 10]), .inl (0, (6, .inl (fun _ => 0))), .inl (0, (6, .inl (fun _ => 0))), .inl (0, (36, .inl (fun _ => 0))), .inl (0, (9, .inl (fun _ => 0))), .inl (0, (9, .inl (fun _ => 0))), .inl (0, (9, .inl (fun _ => 0))), .inl (0, (9, .inl (fun _ => 0))), .inr (0, [.int 0, .int 0, .int 0, .ref 12, .ref 13, .ref 14, .ref 15, .ref 16, .ref 17, .ref 18]), .inl (0, (6, .inl (fun _ => 0))), .inl (0, (6, .inl (fun _ => 0))), .inl (0, (36, .inl (fun _ => 0))), .inl (0, (9, .inl (fun _ => 0))), .inl (0, (9, .inl (fun _ => 0))), .inl (0, (9, .inl (fun _ => 0))), .inl (0, (9, .inl (fun _ => 0))), .inr (0, [.int 0, .int 0, .int 0, .ref 20, .ref 21, .ref 22, .ref 23, .ref 24, .ref 25, .ref 26]), .inl (0, (6, .inl (fun _ => 0))), .inl (0, (6, .inl (fun _ => 0))), .inl (0, (36, .inl (fun _ => 0))), .inl (0, (9, .inl (fun _ => 0))), .inl (0, (9, .inl (fun _ => 0))), .inl (0, (9, .inl (fun _ => 0))), .inl (0, (9, .inl (fun _ => 0))), .inr (3, [.ref 28, .ref 29, .int 0, .int 0, .int 0]), .inl (0, (6, .inl (fun _ => 0))), .inl (0, (9, .inl (fun _ => 0))), .inr (1, [.ref 31, .ref 32, .ref 33, .ref 34, .ref 35, .int 0, .int 0, .int 0, .int 0]), .inl (0, (6, .inl (fun _ => 0))), .inl (0, (9, .inl (fun _ => 0))), .inl (0, (9, .inl (fun _ => 0))), .inl (0, (9, .inl (fun _ => 0))), .inl (0, (9, .inl (fun _ => 0))), .inr (5, [.ref 37, .ref 38, .ref 39, .int 0, .int 0]), .inl (0, (6, .inl (fun _ => 0))), .inl (0, (9, .inl (fun _ => 0))), .inl (1, (81, .inr (.inl (fun _ => 0))))]) rfl ?_
  refine AW.keq (k1 := 39) (n1 := 499) rfl rfl ?_
  refine aw_putF hn dX6_init_78 pnX6_46 (fun _ => ⟨rfl, rfl⟩) rfl ?_
  refine AW.heq (h1 := [.inr (6, [.ref 1, .ref 3, .ref 11, .ref 19, .ref 27, .ref 30, .ref 36, .null, .null, .int 0]), .inr (4, [.ref 2, .int 0, .int 0, .int 0, .int 0]), .inl (0, (40, .inl (fun _ => 0))), .inr (0, [.int 0, .int 0, .int 0, .ref 4, .ref 5, .ref 6, .ref 7, .ref 8, .ref 9, .ref 10]), .inl (0, (6, .inl (fun _ => 0))), .inl (0, (6, .inl (fun _ => 0))), .inl (0, (36, .inl (fun _ => 0))), .inl (0, (9, .inl (fun _ => 0))), .inl (0, (9, .inl (fun _ => 0))), .inl (0, (9, .inl (fun _ => 0))), .inl (0, (9, .inl (fun _ => 0))), .inr (0, [.int 0, .int 0, .int 0, .ref 12, .ref 13, .ref 14, .ref 15, .ref 16, .ref 17, .ref 18]), .inl (0, (6, .inl (fun _ => 0))), .inl (0, (6, .inl (fun _ => 0))), .inl (0, (36, .inl (fun _ => 0))), .inl (0, (9, .inl (fun _ => 0))), .inl (0, (9, .inl (fun _ => 0))), .inl (0, (9, .inl (fun _ => 0))), .inl (0, (9, .inl (fun _ => 0))), .inr (0, [.int 0, .int 0, .int 0, .ref 20, .ref 21, .ref 22, .ref 23, .ref 24, .ref 25, .ref 26]), .inl (0, (6, .inl (fun _ => 0))), .inl (0, (6, .inl (fun _ => 0))), .inl (0, (36, .inl (fun _ => 0))), .inl (0, (9, .inl (fun _ => 0))), .inl (0, (9, .inl (fun _ => 0))), .inl (0, (9, .inl (fun _ => 0))), .inl (0, (9, .inl (fun _ => 0))), .inr (3, [.ref 28, .ref 29, .int 0, .int 0, .int 0]), .inl (0, (6, .inl (fun _ => 0))), .inl (0, (9, .inl (fun _ => 0))), .inr (1, [.ref 31, .ref 32, .ref 33, .ref 34, .ref 35, .int 0, .int 0, .int 0, .int 0]), .inl (0, (6, .inl (fun _ => 0))), .inl (0, (9, .inl (fun _ => 0))), .inl (0, (9, .inl (fun _ => 0))), .inl (0, (9, .inl (fun _ => 0))), .inl (0, (9, .inl (fun _ => 0))), .inr (5, [.ref 37, .ref 38, .ref 39, .int 0, .int 0]), .inl (0, (6, .inl (fun _ => 0))), .inl (0, (9, .inl (fun _ => 0))), .inl (1, (81, .inr (.inl (fun _ => 0))))]) rfl ?_
  refine AW.keq (k1 := 39) (n1 := 499) rfl rfl ?_
  refine aw_aload_n 0 dX6_init_81 rfl rfl ?_
  refine aw_bipush (v := 6) dX6_init_82 (by decide) ?_
  refine aw_newa (kd := 0) (N := 6) (ty := .int) (a0 := (6, .inl (fun _ => 0))) dX6_init_84 wa_int rfl (Or.inl ⟨rfl, rfl⟩) (ha_int 6) (fun _ => rfl) (by decide) (by decide) (by decide) ⟨Nat.le_of_ble_eq_true rfl, Nat.le_of_ble_eq_true rfl⟩ (N0 := 40) (by decide +kernel) (by decide) (by decide +kernel) (by decide +kernel) (fun a15 A15 => ?_)
  refine AW.heq (h1 := [.inr (6, [.ref 1, .ref 3, .ref 11, .ref 19, .ref 27, .ref 30, .ref 36, .null, .null, .int 0]), .inr (4, [.ref 2, .int 0, .int 0, .int 0, .int 0]), .inl (0, (40, .inl (fun _ => 0))), .inr (0, [.int 0, .int 0, .int 0, .ref 4, .ref 5, .ref 6, .ref 7, .ref 8, .ref 9, .ref 10]), .inl (0, (6, .inl (fun _ => 0))), .inl (0, (6, .inl (fun _ => 0))), .inl (0, (36, .inl (fun _ => 0))), .inl (0, (9, .inl (fun _ => 0))), .inl (0, (9, .inl (fun _ => 0))), .inl (0, (9, .inl (fun _ => 0))), .inl (0, (9, .inl (fun _ => 0))), .inr (0, [.int 0, .int 0, .int 0, .ref 12, .ref 13, .ref 14, .ref 15, .ref 16, .ref 17, .ref 18]), .inl (0, (6, .inl (fun _ => 0))), .inl (0, (6, .inl (fun _ => 0))), .inl (0, (36, .inl (fun _ => 0))), .inl (0, (9, .inl (fun _ => 0))), .inl (0, (9, .inl (fun _ => 0))), .inl (0, (9, .inl (fun _ => 0))), .inl (0, (9, .inl (fun _ => 0))), .inr (0, [.int 0, .int 0, .int 0, .ref 20, .ref 21, .ref 22, .ref 23, .ref 24, .ref 25, .ref 26]), .inl (0, (6, .inl (fun _ => 0))), .inl (0, (6, .inl (fun _ => 0))), .inl (0, (36, .inl (fun _ => 0))), .inl (0, (9, .inl (fun _ => 0))), .inl (0, (9, .inl (fun _ => 0))), .inl (0, (9, .inl (fun _ => 0))), .inl (0, (9, .inl (fun _ => 0))), .inr (3, [.ref 28, .ref 29, .int 0, .int 0, .int 0]), .inl (0, (6, .inl (fun _ => 0))), .inl (0, (9, .inl (fun _ => 0))), .inr (1, [.ref 31, .ref 32, .ref 33, .ref 34, .ref 35, .int 0, .int 0, .int 0, .int 0]), .inl (0, (6, .inl (fun _ => 0))), .inl (0, (9, .inl (fun _ => 0))), .inl (0, (9, .inl (fun _ => 0))), .inl (0, (9, .inl (fun _ => 0))), .inl (0, (9, .inl (fun _ => 0))), .inr (5, [.ref 37, .ref 38, .ref 39, .int 0, .int 0]), .inl (0, (6, .inl (fun _ => 0))), .inl (0, (9, .inl (fun _ => 0))), .inl (1, (81, .inr (.inl (fun _ => 0)))), .inl (0, (6, .inl (fun _ => 0)))]) rfl ?_
  refine AW.keq (k1 := 40) (n1 := 505) rfl rfl ?_
  refine aw_putF hn dX6_init_86 pnX6_50 (fun _ => ⟨rfl, rfl⟩) rfl ?_
  refine AW.heq (h1 := [.inr (6, [.ref 1, .ref 3, .ref 11, .ref 19, .ref 27, .ref 30, .ref 36, .null, .ref 40, .int 0]), .inr (4, [.ref 2, .int 0, .int 0, .int 0, .int 0]), .inl (0, (40, .inl (fun _ => 0))), .inr (0, [.int 0, .int 0, .int 0, .ref 4, .ref 5, .ref 6, .ref 7, .ref 8, .ref 9, .ref 10]), .inl (0, (6, .inl (fun _ => 0))), .inl (0, (6, .inl (fun _ => 0))), .inl (0, (36, .inl (fun _ => 0))), .inl (0, (9, .inl (fun _ => 0))), .inl (0, (9, .inl (fun _ => 0))), .inl (0, (9, .inl (fun _ => 0))), .inl (0, (9, .inl (fun _ => 0))), .inr (0, [.int 0, .int 0, .int 0, .ref 12, .ref 13, .ref 14, .ref 15, .ref 16, .ref 17, .ref 18]), .inl (0, (6, .inl (fun _ => 0))), .inl (0, (6, .inl (fun _ => 0))), .inl (0, (36, .inl (fun _ => 0))), .inl (0, (9, .inl (fun _ => 0))), .inl (0, (9, .inl (fun _ => 0))), .inl (0, (9, .inl (fun _ => 0))), .inl (0, (9, .inl (fun _ => 0))), .inr (0, [.int 0, .int 0, .int 0, .ref 20, .ref 21, .ref 22, .ref 23, .ref 24, .ref 25, .ref 26]), .inl (0, (6, .inl (fun _ => 0))), .inl (0, (6, .inl (fun _ => 0))), .inl (0, (36, .inl (fun _ => 0))), .inl (0, (9, .inl (fun _ => 0))), .inl (0, (9, .inl (fun _ => 0))), .inl (0, (9, .inl (fun _ => 0))), .inl (0, (9, .inl (fun _ => 0))), .inr (3, [.ref 28, .ref 29, .int 0, .int 0, .int 0]), .inl (0, (6, .inl (fun _ => 0))), .inl (0, (9, .inl (fun _ => 0))), .inr (1, [.ref 31, .ref 32, .ref 33, .ref 34, .ref 35, .int 0, .int 0, .int 0, .int 0]), .inl (0, (6, .inl (fun _ => 0))), .inl (0, (9, .inl (fun _ => 0))), .inl (0, (9, .inl (fun _ => 0))), .inl (0, (9, .inl (fun _ => 0))), .inl (0, (9, .inl (fun _ => 0))), .inr (5, [.ref 37, .ref 38, .ref 39, .int 0, .int 0]), .inl (0, (6, .inl (fun _ => 0))), .inl (0, (9, .inl (fun _ => 0))), .inl (1, (81, .inr (.inl (fun _ => 0)))), .inl (0, (6, .inl (fun _ => 0)))]) rfl ?_
  refine AW.keq (k1 := 40) (n1 := 505) rfl rfl ?_
  refine aw_aload_n 0 dX6_init_89 rfl rfl ?_
  refine aw_iconst (v := 4) dX6_init_90 (by decide) ?_
  refine aw_newq (N := 4) dX6_init_91 wcX6_54 (by decide) (by decide) (by decide) ⟨Nat.le_of_ble_eq_true rfl, Nat.le_of_ble_eq_true rfl⟩ (N0 := 41) (by decide +kernel) (by decide) (by decide +kernel) (by decide +kernel) (fun a16 A16 => ?_)
  refine AW.heq (h1 := [.inr (6, [.ref 1, .ref 3, .ref 11, .ref 19, .ref 27, .ref 30, .ref 36, .null, .ref 40, .int 0]), .inr (4, [.ref 2, .int 0, .int 0, .int 0, .int 0]), .inl (0, (40, .inl (fun _ => 0))), .inr (0, [.int 0, .int 0, .int 0, .ref 4, .ref 5, .ref 6, .ref 7, .ref 8, .ref 9, .ref 10]), .inl (0, (6, .inl (fun _ => 0))), .inl (0, (6, .inl (fun _ => 0))), .inl (0, (36, .inl (fun _ => 0))), .inl (0, (9, .inl (fun _ => 0))), .inl (0, (9, .inl (fun _ => 0))), .inl (0, (9, .inl (fun _ => 0))), .inl (0, (9, .inl (fun _ => 0))), .inr (0, [.int 0, .int 0, .int 0, .ref 12, .ref 13, .ref 14, .ref 15, .ref 16, .ref 17, .ref 18]), .inl (0, (6, .inl (fun _ => 0))), .inl (0, (6, .inl (fun _ => 0))), .inl (0, (36, .inl (fun _ => 0))), .inl (0, (9, .inl (fun _ => 0))), .inl (0, (9, .inl (fun _ => 0))), .inl (0, (9, .inl (fun _ => 0))), .inl (0, (9, .inl (fun _ => 0))), .inr (0, [.int 0, .int 0, .int 0, .ref 20, .ref 21, .ref 22, .ref 23, .ref 24, .ref 25, .ref 26]), .inl (0, (6, .inl (fun _ => 0))), .inl (0, (6, .inl (fun _ => 0))), .inl (0, (36, .inl (fun _ => 0))), .inl (0, (9, .inl (fun _ => 0))), .inl (0, (9, .inl (fun _ => 0))), .inl (0, (9, .inl (fun _ => 0))), .inl (0, (9, .inl (fun _ => 0))), .inr (3, [.ref 28, .ref 29, .int 0, .int 0, .int 0]), .inl (0, (6, .inl (fun _ => 0))), .inl (0, (9, .inl (fun _ => 0))), .inr (1, [.ref 31, .ref 32, .ref 33, .ref 34, .ref 35, .int 0, .int 0, .int 0, .int 0]), .inl (0, (6, .inl (fun _ => 0))), .inl (0, (9, .inl (fun _ => 0))), .inl (0, (9, .inl (fun _ => 0))), .inl (0, (9, .inl (fun _ => 0))), .inl (0, (9, .inl (fun _ => 0))), .inr (5, [.ref 37, .ref 38, .ref 39, .int 0, .int 0]), .inl (0, (6, .inl (fun _ => 0))), .inl (0, (9, .inl (fun _ => 0))), .inl (1, (81, .inr (.inl (fun _ => 0)))), .inl (0, (6, .inl (fun _ => 0))), .inl (2, (4, .inr (.inr (.inr (.inr (fun _ => none))))))]) rfl ?_
  refine AW.keq (k1 := 41) (n1 := 509) rfl rfl ?_
  refine aw_putF hn dX6_init_94 pnX6_56 (fun _ => ⟨rfl, rfl⟩) rfl ?_
  refine AW.heq (h1 := [.inr (6, [.ref 1, .ref 3, .ref 11, .ref 19, .ref 27, .ref 30, .ref 36, .ref 41, .ref 40, .int 0]), .inr (4, [.ref 2, .int 0, .int 0, .int 0, .int 0]), .inl (0, (40, .inl (fun _ => 0))), .inr (0, [.int 0, .int 0, .int 0, .ref 4, .ref 5, .ref 6, .ref 7, .ref 8, .ref 9, .ref 10]), .inl (0, (6, .inl (fun _ => 0))), .inl (0, (6, .inl (fun _ => 0))), .inl (0, (36, .inl (fun _ => 0))), .inl (0, (9, .inl (fun _ => 0))), .inl (0, (9, .inl (fun _ => 0))), .inl (0, (9, .inl (fun _ => 0))), .inl (0, (9, .inl (fun _ => 0))), .inr (0, [.int 0, .int 0, .int 0, .ref 12, .ref 13, .ref 14, .ref 15, .ref 16, .ref 17, .ref 18]), .inl (0, (6, .inl (fun _ => 0))), .inl (0, (6, .inl (fun _ => 0))), .inl (0, (36, .inl (fun _ => 0))), .inl (0, (9, .inl (fun _ => 0))), .inl (0, (9, .inl (fun _ => 0))), .inl (0, (9, .inl (fun _ => 0))), .inl (0, (9, .inl (fun _ => 0))), .inr (0, [.int 0, .int 0, .int 0, .ref 20, .ref 21, .ref 22, .ref 23, .ref 24, .ref 25, .ref 26]), .inl (0, (6, .inl (fun _ => 0))), .inl (0, (6, .inl (fun _ => 0))), .inl (0, (36, .inl (fun _ => 0))), .inl (0, (9, .inl (fun _ => 0))), .inl (0, (9, .inl (fun _ => 0))), .inl (0, (9, .inl (fun _ => 0))), .inl (0, (9, .inl (fun _ => 0))), .inr (3, [.ref 28, .ref 29, .int 0, .int 0, .int 0]), .inl (0, (6, .inl (fun _ => 0))), .inl (0, (9, .inl (fun _ => 0))), .inr (1, [.ref 31, .ref 32, .ref 33, .ref 34, .ref 35, .int 0, .int 0, .int 0, .int 0]), .inl (0, (6, .inl (fun _ => 0))), .inl (0, (9, .inl (fun _ => 0))), .inl (0, (9, .inl (fun _ => 0))), .inl (0, (9, .inl (fun _ => 0))), .inl (0, (9, .inl (fun _ => 0))), .inr (5, [.ref 37, .ref 38, .ref 39, .int 0, .int 0]), .inl (0, (6, .inl (fun _ => 0))), .inl (0, (9, .inl (fun _ => 0))), .inl (1, (81, .inr (.inl (fun _ => 0)))), .inl (0, (6, .inl (fun _ => 0))), .inl (2, (4, .inr (.inr (.inr (.inr (fun _ => none))))))]) rfl ?_
  refine AW.keq (k1 := 41) (n1 := 509) rfl rfl ?_
  refine aw_iconst (v := 0) dX6_init_97 (by decide) ?_
  refine aw_istore_n (L' := [(1, .int 0), (0, .ref 0)]) dX6_init_98 rfl (by decide) rfl ?_
  refine aw_iload_n 0 dX6_init_99 rfl rfl ?_
  refine aw_iconst (v := 4) dX6_init_100 (by decide) ?_
  refine aw_icmp_ge (tgt := 123) dX6_init_101 (by decide) (fun c => absurd c (by decide)) (fun _ => ?_)
  refine aw_aload_n 1 dX6_init_104 rfl rfl ?_
  refine aw_getR (x := 41) dX6_init_105 gfX6_56 rfl ?_
  refine aw_iload_n 0 dX6_init_108 rfl rfl ?_
  refine aw_new (ci := 2) (fs := [.null, .int 0, .int 0]) tyX2 dX6_init_109 rfl inlX2 tyX2_ok wcX6_54 wiX2 wnX2 (by decide +kernel) (by decide) ⟨Nat.le_of_ble_eq_true rfl, Nat.le_of_ble_eq_true rfl⟩ (N0 := 42) (by decide +kernel) (by decide) (by decide +kernel) (by decide +kernel) (fun a17 A17 => ?_)
  refine AW.heq (h1 := [.inr (6, [.ref 1, .ref 3, .ref 11, .ref 19, .ref 27, .ref 30, .ref 36, .ref 41, .ref 40, .int 0]), .inr (4, [.ref 2, .int 0, .int 0, .int 0, .int 0]), .inl (0, (40, .inl (fun _ => 0))), .inr (0, [.int 0, .int 0, .int 0, .ref 4, .ref 5, .ref 6, .ref 7, .ref 8, .ref 9, .ref 10]), .inl (0, (6, .inl (fun _ => 0))), .inl (0, (6, .inl (fun _ => 0))), .inl (0, (36, .inl (fun _ => 0))), .inl (0, (9, .inl (fun _ => 0))), .inl (0, (9, .inl (fun _ => 0))), .inl (0, (9, .inl (fun _ => 0))), .inl (0, (9, .inl (fun _ => 0))), .inr (0, [.int 0, .int 0, .int 0, .ref 12, .ref 13, .ref 14, .ref 15, .ref 16, .ref 17, .ref 18]), .inl (0, (6, .inl (fun _ => 0))), .inl (0, (6, .inl (fun _ => 0))), .inl (0, (36, .inl (fun _ => 0))), .inl (0, (9, .inl (fun _ => 0))), .inl (0, (9, .inl (fun _ => 0))), .inl (0, (9, .inl (fun _ => 0))), .inl (0, (9, .inl (fun _ => 0))), .inr (0, [.int 0, .int 0, .int 0, .ref 20, .ref 21, .ref 22, .ref 23, .ref 24, .ref 25, .ref 26]), .inl (0, (6, .inl (fun _ => 0))), .inl (0, (6, .inl (fun _ => 0))), .inl (0, (36, .inl (fun _ => 0))), .inl (0, (9, .inl (fun _ => 0))), .inl (0, (9, .inl (fun _ => 0))), .inl (0, (9, .inl (fun _ => 0))), .inl (0, (9, .inl (fun _ => 0))), .inr (3, [.ref 28, .ref 29, .int 0, .int 0, .int 0]), .inl (0, (6, .inl (fun _ => 0))), .inl (0, (9, .inl (fun _ => 0))), .inr (1, [.ref 31, .ref 32, .ref 33, .ref 34, .ref 35, .int 0, .int 0, .int 0, .int 0]), .inl (0, (6, .inl (fun _ => 0))), .inl (0, (9, .inl (fun _ => 0))), .inl (0, (9, .inl (fun _ => 0))), .inl (0, (9, .inl (fun _ => 0))), .inl (0, (9, .inl (fun _ => 0))), .inr (5, [.ref 37, .ref 38, .ref 39, .int 0, .int 0]), .inl (0, (6, .inl (fun _ => 0))), .inl (0, (9, .inl (fun _ => 0))), .inl (1, (81, .inr (.inl (fun _ => 0)))), .inl (0, (6, .inl (fun _ => 0))), .inl (2, (4, .inr (.inr (.inr (.inr (fun _ => none)))))), .inr (2, [.null, .int 0, .int 0])]) rfl ?_
  refine AW.keq (k1 := 42) (n1 := 512) rfl rfl ?_
  refine aw_dup dX6_init_112 rfl ?_
  refine aw_ctorN (as := []) dX6_init_113 moX2_init ioX2_init rfl mnX6_60 (by decide) ⟨Nat.le_of_ble_eq_true rfl, Nat.le_of_ble_eq_true rfl⟩ (by decide) rfl (N0 := 43) (by decide +kernel) k8_X2_init (fun a18 A18 => ?_)
  refine AW.heq (h1 := [.inr (6, [.ref 1, .ref 3, .ref 11, .ref 19, .ref 27, .ref 30, .ref 36, .ref 41, .ref 40, .int 0]), .inr (4, [.ref 2, .int 0, .int 0, .int 0, .int 0]), .inl (0, (40, .inl (fun _ => 0))), .inr (0, [.int 0, .int 0, .int 0, .ref 4, .ref 5, .ref 6, .ref 7, .ref 8, .ref 9, .ref 10]), .inl (0, (6, .inl (fun _ => 0))), .inl (0, (6, .inl (fun _ => 0))), .inl (0, (36, .inl (fun _ => 0))), .inl (0, (9, .inl (fun _ => 0))), .inl (0, (9, .inl (fun _ => 0))), .inl (0, (9, .inl (fun _ => 0))), .inl (0, (9, .inl (fun _ => 0))), .inr (0, [.int 0, .int 0, .int 0, .ref 12, .ref 13, .ref 14, .ref 15, .ref 16, .ref 17, .ref 18]), .inl (0, (6, .inl (fun _ => 0))), .inl (0, (6, .inl (fun _ => 0))), .inl (0, (36, .inl (fun _ => 0))), .inl (0, (9, .inl (fun _ => 0))), .inl (0, (9, .inl (fun _ => 0))), .inl (0, (9, .inl (fun _ => 0))), .inl (0, (9, .inl (fun _ => 0))), .inr (0, [.int 0, .int 0, .int 0, .ref 20, .ref 21, .ref 22, .ref 23, .ref 24, .ref 25, .ref 26]), .inl (0, (6, .inl (fun _ => 0))), .inl (0, (6, .inl (fun _ => 0))), .inl (0, (36, .inl (fun _ => 0))), .inl (0, (9, .inl (fun _ => 0))), .inl (0, (9, .inl (fun _ => 0))), .inl (0, (9, .inl (fun _ => 0))), .inl (0, (9, .inl (fun _ => 0))), .inr (3, [.ref 28, .ref 29, .int 0, .int 0, .int 0]), .inl (0, (6, .inl (fun _ => 0))), .inl (0, (9, .inl (fun _ => 0))), .inr (1, [.ref 31, .ref 32, .ref 33, .ref 34, .ref 35, .int 0, .int 0, .int 0, .int 0]), .inl (0, (6, .inl (fun _ => 0))), .inl (0, (9, .inl (fun _ => 0))), .inl (0, (9, .inl (fun _ => 0))), .inl (0, (9, .inl (fun _ => 0))), .inl (0, (9, .inl (fun _ => 0))), .inr (5, [.ref 37, .ref 38, .ref 39, .int 0, .int 0]), .inl (0, (6, .inl (fun _ => 0))), .inl (0, (9, .inl (fun _ => 0))), .inl (1, (81, .inr (.inl (fun _ => 0)))), .inl (0, (6, .inl (fun _ => 0))), .inl (2, (4, .inr (.inr (.inr (.inr (fun _ => none)))))), .inr (2, [.ref 43, .int (-1), .int 0]), .inl (0, (40, .inl (fun _ => 0)))]) rfl ?_
  refine AW.keq (k1 := 43) (n1 := 552) rfl rfl ?_
  refine aw_aast dX6_init_116 rfl ?_
  refine AW.heq (h1 := [.inr (6, [.ref 1, .ref 3, .ref 11, .ref 19, .ref 27, .ref 30, .ref 36, .ref 41, .ref 40, .int 0]), .inr (4, [.ref 2, .int 0, .int 0, .int 0, .int 0]), .inl (0, (40, .inl (fun _ => 0))), .inr (0, [.int 0, .int 0, .int 0, .ref 4, .ref 5, .ref 6, .ref 7, .ref 8, .ref 9, .ref 10]), .inl (0, (6, .inl (fun _ => 0))), .inl (0, (6, .inl (fun _ => 0))), .inl (0, (36, .inl (fun _ => 0))), .inl (0, (9, .inl (fun _ => 0))), .inl (0, (9, .inl (fun _ => 0))), .inl (0, (9, .inl (fun _ => 0))), .inl (0, (9, .inl (fun _ => 0))), .inr (0, [.int 0, .int 0, .int 0, .ref 12, .ref 13, .ref 14, .ref 15, .ref 16, .ref 17, .ref 18]), .inl (0, (6, .inl (fun _ => 0))), .inl (0, (6, .inl (fun _ => 0))), .inl (0, (36, .inl (fun _ => 0))), .inl (0, (9, .inl (fun _ => 0))), .inl (0, (9, .inl (fun _ => 0))), .inl (0, (9, .inl (fun _ => 0))), .inl (0, (9, .inl (fun _ => 0))), .inr (0, [.int 0, .int 0, .int 0, .ref 20, .ref 21, .ref 22, .ref 23, .ref 24, .ref 25, .ref 26]), .inl (0, (6, .inl (fun _ => 0))), .inl (0, (6, .inl (fun _ => 0))), .inl (0, (36, .inl (fun _ => 0))), .inl (0, (9, .inl (fun _ => 0))), .inl (0, (9, .inl (fun _ => 0))), .inl (0, (9, .inl (fun _ => 0))), .inl (0, (9, .inl (fun _ => 0))), .inr (3, [.ref 28, .ref 29, .int 0, .int 0, .int 0]), .inl (0, (6, .inl (fun _ => 0))), .inl (0, (9, .inl (fun _ => 0))), .inr (1, [.ref 31, .ref 32, .ref 33, .ref 34, .ref 35, .int 0, .int 0, .int 0, .int 0]), .inl (0, (6, .inl (fun _ => 0))), .inl (0, (9, .inl (fun _ => 0))), .inl (0, (9, .inl (fun _ => 0))), .inl (0, (9, .inl (fun _ => 0))), .inl (0, (9, .inl (fun _ => 0))), .inr (5, [.ref 37, .ref 38, .ref 39, .int 0, .int 0]), .inl (0, (6, .inl (fun _ => 0))), .inl (0, (9, .inl (fun _ => 0))), .inl (1, (81, .inr (.inl (fun _ => 0)))), .inl (0, (6, .inl (fun _ => 0))), .inl (2, (4, .inr (.inr (.inr (.inr (va_up (fun _ => none) 0 (some 42))))))), .inr (2, [.ref 43, .int (-1), .int 0]), .inl (0, (40, .inl (fun _ => 0)))]) rfl ?_
  refine AW.keq (k1 := 43) (n1 := 552) rfl rfl ?_
  refine aw_iinc (v := 1) (L' := [(1, .int 1), (0, .ref 0)]) 0 dX6_init_117 rfl (by decide) (by decide) rfl ?_
  refine aw_goto (tgt := 99) dX6_init_120 (by decide) ?_
  refine aw_iload_n 0 dX6_init_99 rfl rfl ?_
  refine aw_iconst (v := 4) dX6_init_100 (by decide) ?_
  refine aw_icmp_ge (tgt := 123) dX6_init_101 (by decide) (fun c => absurd c (by decide)) (fun _ => ?_)
  refine aw_aload_n 1 dX6_init_104 rfl rfl ?_
  refine aw_getR (x := 41) dX6_init_105 gfX6_56 rfl ?_
  refine aw_iload_n 0 dX6_init_108 rfl rfl ?_
  refine aw_new (ci := 2) (fs := [.null, .int 0, .int 0]) tyX2 dX6_init_109 rfl inlX2 tyX2_ok wcX6_54 wiX2 wnX2 (by decide +kernel) (by decide) ⟨Nat.le_of_ble_eq_true rfl, Nat.le_of_ble_eq_true rfl⟩ (N0 := 44) (by decide +kernel) (by decide) (by decide +kernel) (by decide +kernel) (fun a19 A19 => ?_)
  refine AW.heq (h1 := [.inr (6, [.ref 1, .ref 3, .ref 11, .ref 19, .ref 27, .ref 30, .ref 36, .ref 41, .ref 40, .int 0]), .inr (4, [.ref 2, .int 0, .int 0, .int 0, .int 0]), .inl (0, (40, .inl (fun _ => 0))), .inr (0, [.int 0, .int 0, .int 0, .ref 4, .ref 5, .ref 6, .ref 7, .ref 8, .ref 9, .ref 10]), .inl (0, (6, .inl (fun _ => 0))), .inl (0, (6, .inl (fun _ => 0))), .inl (0, (36, .inl (fun _ => 0))), .inl (0, (9, .inl (fun _ => 0))), .inl (0, (9, .inl (fun _ => 0))), .inl (0, (9, .inl (fun _ => 0))), .inl (0, (9, .inl (fun _ => 0))), .inr (0, [.int 0, .int 0, .int 0, .ref 12, .ref 13, .ref 14, .ref 15, .ref 16, .ref 17, .ref 18]), .inl (0, (6, .inl (fun _ => 0))), .inl (0, (6, .inl (fun _ => 0))), .inl (0, (36, .inl (fun _ => 0))), .inl (0, (9, .inl (fun _ => 0))), .inl (0, (9, .inl (fun _ => 0))), .inl (0, (9, .inl (fun _ => 0))), .inl (0, (9, .inl (fun _ => 0))), .inr (0, [.int 0, .int 0, .int 0, .ref 20, .ref 21, .ref 22, .ref 23, .ref 24, .ref 25, .ref 26]), .inl (0, (6, .inl (fun _ => 0))), .inl (0, (6, .inl (fun _ => 0))), .inl (0, (36, .inl (fun _ => 0))), .inl (0, (9, .inl (fun _ => 0))), .inl (0, (9, .inl (fun _ => 0))), .inl (0, (9, .inl (fun _ => 0))), .inl (0, (9, .inl (fun _ => 0))), .inr (3, [.ref 28, .ref 29, .int 0, .int 0, .int 0]), .inl (0, (6, .inl (fun _ => 0))), .inl (0, (9, .inl (fun _ => 0))), .inr (1, [.ref 31, .ref 32, .ref 33, .ref 34, .ref 35, .int 0, .int 0, .int 0, .int 0]), .inl (0, (6, .inl (fun _ => 0))), .inl (0, (9, .inl (fun _ => 0))), .inl (0, (9, .inl (fun _ => 0))), .inl (0, (9, .inl (fun _ => 0))), .inl (0, (9, .inl (fun _ => 0))), .inr (5, [.ref 37, .ref 38, .ref 39, .int 0, .int 0]), .inl (0, (6, .inl (fun _ => 0))), .inl (0, (9, .inl (fun _ => 0))), .inl (1, (81, .inr (.inl (fun _ => 0)))), .inl (0, (6, .inl (fun _ => 0))), .inl (2, (4, .inr (.inr (.inr (.inr (va_up (fun _ => none) 0 (some 42))))))), .inr (2, [.ref 43, .int (-1), .int 0]), .inl (0, (40, .inl (fun _ => 0))), .inr (2, [.null, .int 0, .int 0])]) rfl ?_
  refine AW.keq (k1 := 44) (n1 := 555) rfl rfl ?_
  refine aw_dup dX6_init_112 rfl ?_
  refine aw_ctorN (as := []) dX6_init_113 moX2_init ioX2_init rfl mnX6_60 (by decide) ⟨Nat.le_of_ble_eq_true rfl, Nat.le_of_ble_eq_true rfl⟩ (by decide) rfl (N0 := 45) (by decide +kernel) k9_X2_init (fun a20 A20 => ?_)
  refine AW.heq (h1 := [.inr (6, [.ref 1, .ref 3, .ref 11, .ref 19, .ref 27, .ref 30, .ref 36, .ref 41, .ref 40, .int 0]), .inr (4, [.ref 2, .int 0, .int 0, .int 0, .int 0]), .inl (0, (40, .inl (fun _ => 0))), .inr (0, [.int 0, .int 0, .int 0, .ref 4, .ref 5, .ref 6, .ref 7, .ref 8, .ref 9, .ref 10]), .inl (0, (6, .inl (fun _ => 0))), .inl (0, (6, .inl (fun _ => 0))), .inl (0, (36, .inl (fun _ => 0))), .inl (0, (9, .inl (fun _ => 0))), .inl (0, (9, .inl (fun _ => 0))), .inl (0, (9, .inl (fun _ => 0))), .inl (0, (9, .inl (fun _ => 0))), .inr (0, [.int 0, .int 0, .int 0, .ref 12, .ref 13, .ref 14, .ref 15, .ref 16, .ref 17, .ref 18]), .inl (0, (6, .inl (fun _ => 0))), .inl (0, (6, .inl (fun _ => 0))), .inl (0, (36, .inl (fun _ => 0))), .inl (0, (9, .inl (fun _ => 0))), .inl (0, (9, .inl (fun _ => 0))), .inl (0, (9, .inl (fun _ => 0))), .inl (0, (9, .inl (fun _ => 0))), .inr (0, [.int 0, .int 0, .int 0, .ref 20, .ref 21, .ref 22, .ref 23, .ref 24, .ref 25, .ref 26]), .inl (0, (6, .inl (fun _ => 0))), .inl (0, (6, .inl (fun _ => 0))), .inl (0, (36, .inl (fun _ => 0))), .inl (0, (9, .inl (fun _ => 0))), .inl (0, (9, .inl (fun _ => 0))), .inl (0, (9, .inl (fun _ => 0))), .inl (0, (9, .inl (fun _ => 0))), .inr (3, [.ref 28, .ref 29, .int 0, .int 0, .int 0]), .inl (0, (6, .inl (fun _ => 0))), .inl (0, (9, .inl (fun _ => 0))), .inr (1, [.ref 31, .ref 32, .ref 33, .ref 34, .ref 35, .int 0, .int 0, .int 0, .int 0]), .inl (0, (6, .inl (fun _ => 0))), .inl (0, (9, .inl (fun _ => 0))), .inl (0, (9, .inl (fun _ => 0))), .inl (0, (9, .inl (fun _ => 0))), .inl (0, (9, .inl (fun _ => 0))), .inr (5, [.ref 37, .ref 38, .ref 39, .int 0, .int 0]), .inl (0, (6, .inl (fun _ => 0))), .inl (0, (9, .inl (fun _ => 0))), .inl (1, (81, .inr (.inl (fun _ => 0)))), .inl (0, (6, .inl (fun _ => 0))), .inl (2, (4, .inr (.inr (.inr (.inr (va_up (fun _ => none) 0 (some 42))))))), .inr (2, [.ref 43, .int (-1), .int 0]), .inl (0, (40, .inl (fun _ => 0))), .inr (2, [.ref 45, .int (-1), .int 0]), .inl (0, (40, .inl (fun _ => 0)))]) rfl ?_
  refine AW.keq (k1 := 45) (n1 := 595) rfl rfl ?_
  refine aw_aast dX6_init_116 rfl ?_
  refine AW.heq (h1 := [.inr (6, [.ref 1, .ref 3, .ref 11, .ref 19, .ref 27, .ref 30, .ref 36, .ref 41, .ref 40, .int 0]), .inr (4, [.ref 2, .int 0, .int 0, .int 0, .int 0]), .inl (0, (40, .inl (fun _ => 0))), .inr (0, [.int 0, .int 0, .int 0, .ref 4, .ref 5, .ref 6, .ref 7, .ref 8, .ref 9, .ref 10]), .inl (0, (6, .inl (fun _ => 0))), .inl (0, (6, .inl (fun _ => 0))), .inl (0, (36, .inl (fun _ => 0))), .inl (0, (9, .inl (fun _ => 0))), .inl (0, (9, .inl (fun _ => 0))), .inl (0, (9, .inl (fun _ => 0))), .inl (0, (9, .inl (fun _ => 0))), .inr (0, [.int 0, .int 0, .int 0, .ref 12, .ref 13, .ref 14, .ref 15, .ref 16, .ref 17, .ref 18]), .inl (0, (6, .inl (fun _ => 0))), .inl (0, (6, .inl (fun _ => 0))), .inl (0, (36, .inl (fun _ => 0))), .inl (0, (9, .inl (fun _ => 0))), .inl (0, (9, .inl (fun _ => 0))), .inl (0, (9, .inl (fun _ => 0))), .inl (0, (9, .inl (fun _ => 0))), .inr (0, [.int 0, .int 0, .int 0, .ref 20, .ref 21, .ref 22, .ref 23, .ref 24, .ref 25, .ref 26]), .inl (0, (6, .inl (fun _ => 0))), .inl (0, (6, .inl (fun _ => 0))), .inl (0, (36, .inl (fun _ => 0))), .inl (0, (9, .inl (fun _ => 0))), .inl (0, (9, .inl (fun _ => 0))), .inl (0, (9, .inl (fun _ => 0))), .inl (0, (9, .inl (fun _ => 0))), .inr (3, [.ref 28, .ref 29, .int 0, .int 0, .int 0]), .inl (0, (6, .inl (fun _ => 0))), .inl (0, (9, .inl (fun _ => 0))), .inr (1, [.ref 31, .ref 32, .ref 33, .ref 34, .ref 35, .int 0, .int 0, .int 0, .int 0]), .inl (0, (6, .inl (fun _ => 0))), .inl (0, (9, .inl (fun _ => 0))), .inl (0, (9, .inl (fun _ => 0))), .inl (0, (9, .inl (fun _ => 0))), .inl (0, (9, .inl (fun _ => 0))), .inr (5, [.ref 37, .ref 38, .ref 39, .int 0, .int 0]), .inl (0, (6, .inl (fun _ => 0))), .inl (0, (9, .inl (fun _ => 0))), .inl (1, (81, .inr (.inl (fun _ => 0)))), .inl (0, (6, .inl (fun _ => 0))), .inl (2, (4, .inr (.inr (.inr (.inr (va_up (va_up (fun _ => none) 0 (some 42)) 1 (some 44))))))), .inr (2, [.ref 43, .int (-1), .int 0]), .inl (0, (40, .inl (fun _ => 0))), .inr (2, [.ref 45, .int (-1), .int 0]), .inl (0, (40, .inl (fun _ => 0)))]) rfl ?_
  refine AW.keq (k1 := 45) (n1 := 595) rfl rfl ?_
  refine aw_iinc (v := 2) (L' := [(1, .int 2), (0, .ref 0)]) 0 dX6_init_117 rfl (by decide) (by decide) rfl ?_
  refine aw_goto (tgt := 99) dX6_init_120 (by decide) ?_
  refine aw_iload_n 0 dX6_init_99 rfl rfl ?_
  refine aw_iconst (v := 4) dX6_init_100 (by decide) ?_
  refine aw_icmp_ge (tgt := 123) dX6_init_101 (by decide) (fun c => absurd c (by decide)) (fun _ => ?_)
  refine aw_aload_n 1 dX6_init_104 rfl rfl ?_
  refine aw_getR (x := 41) dX6_init_105 gfX6_56 rfl ?_
  refine aw_iload_n 0 dX6_init_108 rfl rfl ?_
  refine aw_new (ci := 2) (fs := [.null, .int 0, .int 0]) tyX2 dX6_init_109 rfl inlX2 tyX2_ok wcX6_54 wiX2 wnX2 (by decide +kernel) (by decide) ⟨Nat.le_of_ble_eq_true rfl, Nat.le_of_ble_eq_true rfl⟩ (N0 := 46) (by decide +kernel) (by decide) (by decide +kernel) (by decide +kernel) (fun a21 A21 => ?_)
  refine AW.heq (h1 := [.inr (6, [.ref 1, .ref 3, .ref 11, .ref 19, .ref 27, .ref 30, .ref 36, .ref 41, .ref 40, .int 0]), .inr (4, [.ref 2, .int 0, .int 0, .int 0, .int 0]), .inl (0, (40, .inl (fun _ => 0))), .inr (0, [.int 0, .int 0, .int 0, .ref 4, .ref 5, .ref 6, .ref 7, .ref 8, .ref 9, .ref 10]), .inl (0, (6, .inl (fun _ => 0))), .inl (0, (6, .inl (fun _ => 0))), .inl (0, (36, .inl (fun _ => 0))), .inl (0, (9, .inl (fun _ => 0))), .inl (0, (9, .inl (fun _ => 0))), .inl (0, (9, .inl (fun _ => 0))), .inl (0, (9, .inl (fun _ => 0))), .inr (0, [.int 0, .int 0, .int 0, .ref 12, .ref 13, .ref 14, .ref 15, .ref 16, .ref 17, .ref 18]), .inl (0, (6, .inl (fun _ => 0))), .inl (0, (6, .inl (fun _ => 0))), .inl (0, (36, .inl (fun _ => 0))), .inl (0, (9, .inl (fun _ => 0))), .inl (0, (9, .inl (fun _ => 0))), .inl (0, (9, .inl (fun _ => 0))), .inl (0, (9, .inl (fun _ => 0))), .inr (0, [.int 0, .int 0, .int 0, .ref 20, .ref 21, .ref 22, .ref 23, .ref 24, .ref 25, .ref 26]), .inl (0, (6, .inl (fun _ => 0))), .inl (0, (6, .inl (fun _ => 0))), .inl (0, (36, .inl (fun _ => 0))), .inl (0, (9, .inl (fun _ => 0))), .inl (0, (9, .inl (fun _ => 0))), .inl (0, (9, .inl (fun _ => 0))), .inl (0, (9, .inl (fun _ => 0))), .inr (3, [.ref 28, .ref 29, .int 0, .int 0, .int 0]), .inl (0, (6, .inl (fun _ => 0))), .inl (0, (9, .inl (fun _ => 0))), .inr (1, [.ref 31, .ref 32, .ref 33, .ref 34, .ref 35, .int 0, .int 0, .int 0, .int 0]), .inl (0, (6, .inl (fun _ => 0))), .inl (0, (9, .inl (fun _ => 0))), .inl (0, (9, .inl (fun _ => 0))), .inl (0, (9, .inl (fun _ => 0))), .inl (0, (9, .inl (fun _ => 0))), .inr (5, [.ref 37, .ref 38, .ref 39, .int 0, .int 0]), .inl (0, (6, .inl (fun _ => 0))), .inl (0, (9, .inl (fun _ => 0))), .inl (1, (81, .inr (.inl (fun _ => 0)))), .inl (0, (6, .inl (fun _ => 0))), .inl (2, (4, .inr (.inr (.inr (.inr (va_up (va_up (fun _ => none) 0 (some 42)) 1 (some 44))))))), .inr (2, [.ref 43, .int (-1), .int 0]), .inl (0, (40, .inl (fun _ => 0))), .inr (2, [.ref 45, .int (-1), .int 0]), .inl (0, (40, .inl (fun _ => 0))), .inr (2, [.null, .int 0, .int 0])]) rfl ?_
  refine AW.keq (k1 := 46) (n1 := 598) rfl rfl ?_
  refine aw_dup dX6_init_112 rfl ?_
  refine aw_ctorN (as := []) dX6_init_113 moX2_init ioX2_init rfl mnX6_60 (by decide) ⟨Nat.le_of_ble_eq_true rfl, Nat.le_of_ble_eq_true rfl⟩ (by decide) rfl (N0 := 47) (by decide +kernel) k10_X2_init (fun a22 A22 => ?_)
  refine AW.heq (h1 := [.inr (6, [.ref 1, .ref 3, .ref 11, .ref 19, .ref 27, .ref 30, .ref 36, .ref 41, .ref 40, .int 0]), .inr (4, [.ref 2, .int 0, .int 0, .int 0, .int 0]), .inl (0, (40, .inl (fun _ => 0))), .inr (0, [.int 0, .int 0, .int 0, .ref 4, .ref 5, .ref 6, .ref 7, .ref 8, .ref 9, .ref 10]), .inl (0, (6, .inl (fun _ => 0))), .inl (0, (6, .inl (fun _ => 0))), .inl (0, (36, .inl (fun _ => 0))), .inl (0, (9, .inl (fun _ => 0))), .inl (0, (9, .inl (fun _ => 0))), .inl (0, (9, .inl (fun _ => 0))), .inl (0, (9, .inl (fun _ => 0))), .inr (0, [.int 0, .int 0, .int 0, .ref 12, .ref 13, .ref 14, .ref 15, .ref 16, .ref 17, .ref 18]), .inl (0, (6, .inl (fun _ => 0))), .inl (0, (6, .inl (fun _ => 0))), .inl (0, (36, .inl (fun _ => 0))), .inl (0, (9, .inl (fun _ => 0))), .inl (0, (9, .inl (fun _ => 0))), .inl (0, (9, .inl (fun _ => 0))), .inl (0, (9, .inl (fun _ => 0))), .inr (0, [.int 0, .int 0, .int 0, .ref 20, .ref 21, .ref 22, .ref 23, .ref 24, .ref 25, .ref 26]), .inl (0, (6, .inl (fun _ => 0))), .inl (0, (6, .inl (fun _ => 0))), .inl (0, (36, .inl (fun _ => 0))), .inl (0, (9, .inl (fun _ => 0))), .inl (0, (9, .inl (fun _ => 0))), .inl (0, (9, .inl (fun _ => 0))), .inl (0, (9, .inl (fun _ => 0))), .inr (3, [.ref 28, .ref 29, .int 0, .int 0, .int 0]), .inl (0, (6, .inl (fun _ => 0))), .inl (0, (9, .inl (fun _ => 0))), .inr (1, [.ref 31, .ref 32, .ref 33, .ref 34, .ref 35, .int 0, .int 0, .int 0, .int 0]), .inl (0, (6, .inl (fun _ => 0))), .inl (0, (9, .inl (fun _ => 0))), .inl (0, (9, .inl (fun _ => 0))), .inl (0, (9, .inl (fun _ => 0))), .inl (0, (9, .inl (fun _ => 0))), .inr (5, [.ref 37, .ref 38, .ref 39, .int 0, .int 0]), .inl (0, (6, .inl (fun _ => 0))), .inl (0, (9, .inl (fun _ => 0))), .inl (1, (81, .inr (.inl (fun _ => 0)))), .inl (0, (6, .inl (fun _ => 0))), .inl (2, (4, .inr (.inr (.inr (.inr (va_up (va_up (fun _ => none) 0 (some 42)) 1 (some 44))))))), .inr (2, [.ref 43, .int (-1), .int 0]), .inl (0, (40, .inl (fun _ => 0))), .inr (2, [.ref 45, .int (-1), .int 0]), .inl (0, (40, .inl (fun _ => 0))), .inr (2, [.ref 47, .int (-1), .int 0]), .inl (0, (40, .inl (fun _ => 0)))]) rfl ?_
  refine AW.keq (k1 := 47) (n1 := 638) rfl rfl ?_
  refine aw_aast dX6_init_116 rfl ?_
  refine AW.heq (h1 := [.inr (6, [.ref 1, .ref 3, .ref 11, .ref 19, .ref 27, .ref 30, .ref 36, .ref 41, .ref 40, .int 0]), .inr (4, [.ref 2, .int 0, .int 0, .int 0, .int 0]), .inl (0, (40, .inl (fun _ => 0))), .inr (0, [.int 0, .int 0, .int 0, .ref 4, .ref 5, .ref 6, .ref 7, .ref 8, .ref 9, .ref 10]), .inl (0, (6, .inl (fun _ => 0))), .inl (0, (6, .inl (fun _ => 0))), .inl (0, (36, .inl (fun _ => 0))), .inl (0, (9, .inl (fun _ => 0))), .inl (0, (9, .inl (fun _ => 0))), .inl (0, (9, .inl (fun _ => 0))), .inl (0, (9, .inl (fun _ => 0))), .inr (0, [.int 0, .int 0, .int 0, .ref 12, .ref 13, .ref 14, .ref 15, .ref 16, .ref 17, .ref 18]), .inl (0, (6, .inl (fun _ => 0))), .inl (0, (6, .inl (fun _ => 0))), .inl (0, (36, .inl (fun _ => 0))), .inl (0, (9, .inl (fun _ => 0))), .inl (0, (9, .inl (fun _ => 0))), .inl (0, (9, .inl (fun _ => 0))), .inl (0, (9, .inl (fun _ => 0))), .inr (0, [.int 0, .int 0, .int 0, .ref 20, .ref 21, .ref 22, .ref 23, .ref 24, .ref 25, .ref 26]), .inl (0, (6, .inl (fun _ => 0))), .inl (0, (6, .inl (fun _ => 0))), .inl (0, (36, .inl (fun _ => 0))), .inl (0, (9, .inl (fun _ => 0))), .inl (0, (9, .inl (fun _ => 0))), .inl (0, (9, .inl (fun _ => 0))), .inl (0, (9, .inl (fun _ => 0))), .inr (3, [.ref 28, .ref 29, .int 0, .int 0, .int 0]), .inl (0, (6, .inl (fun _ => 0))), .inl (0, (9, .inl (fun _ => 0))), .inr (1, [.ref 31, .ref 32, .ref 33, .ref 34, .ref 35, .int 0, .int 0, .int 0, .int 0]), .inl (0, (6, .inl (fun _ => 0))), .inl (0, (9, .inl (fun _ => 0))), .inl (0, (9, .inl (fun _ => 0))), .inl (0, (9, .inl (fun _ => 0))), .inl (0, (9, .inl (fun _ => 0))), .inr (5, [.ref 37, .ref 38, .ref 39, .int 0, .int 0]), .inl (0, (6, .inl (fun _ => 0))), .inl (0, (9, .inl (fun _ => 0))), .inl (1, (81, .inr (.inl (fun _ => 0)))), .inl (0, (6, .inl (fun _ => 0))), .inl (2, (4, .inr (.inr (.inr (.inr (va_up (va_up (va_up (fun _ => none) 0 (some 42)) 1 (some 44)) 2 (some 46))))))), .inr (2, [.ref 43, .int (-1), .int 0]), .inl (0, (40, .inl (fun _ => 0))), .inr (2, [.ref 45, .int (-1), .int 0]), .inl (0, (40, .inl (fun _ => 0))), .inr (2, [.ref 47, .int (-1), .int 0]), .inl (0, (40, .inl (fun _ => 0)))]) rfl ?_
  refine AW.keq (k1 := 47) (n1 := 638) rfl rfl ?_
  refine aw_iinc (v := 3) (L' := [(1, .int 3), (0, .ref 0)]) 0 dX6_init_117 rfl (by decide) (by decide) rfl ?_
  refine aw_goto (tgt := 99) dX6_init_120 (by decide) ?_
  refine aw_iload_n 0 dX6_init_99 rfl rfl ?_
  refine aw_iconst (v := 4) dX6_init_100 (by decide) ?_
  refine aw_icmp_ge (tgt := 123) dX6_init_101 (by decide) (fun c => absurd c (by decide)) (fun _ => ?_)
  refine aw_aload_n 1 dX6_init_104 rfl rfl ?_
  refine aw_getR (x := 41) dX6_init_105 gfX6_56 rfl ?_
  refine aw_iload_n 0 dX6_init_108 rfl rfl ?_
  refine aw_new (ci := 2) (fs := [.null, .int 0, .int 0]) tyX2 dX6_init_109 rfl inlX2 tyX2_ok wcX6_54 wiX2 wnX2 (by decide +kernel) (by decide) ⟨Nat.le_of_ble_eq_true rfl, Nat.le_of_ble_eq_true rfl⟩ (N0 := 48) (by decide +kernel) (by decide) (by decide +kernel) (by decide +kernel) (fun a23 A23 => ?_)
  refine AW.heq (h1 := [.inr (6, [.ref 1, .ref 3, .ref 11, .ref 19, .ref 27, .ref 30, .ref 36, .ref 41, .ref 40, .int 0]), .inr (4, [.ref 2, .int 0, .int 0, .int 0, .int 0]), .inl (0, (40, .inl (fun _ => 0))), .inr (0, [.int 0, .int 0, .int 0, .ref 4, .ref 5, .ref 6, .ref 7, .ref 8, .ref 9, .ref 10]), .inl (0, (6, .inl (fun _ => 0))), .inl (0, (6, .inl (fun _ => 0))), .inl (0, (36, .inl (fun _ => 0))), .inl (0, (9, .inl (fun _ => 0))), .inl (0, (9, .inl (fun _ => 0))), .inl (0, (9, .inl (fun _ => 0))), .inl (0, (9, .inl (fun _ => 0))), .inr (0, [.int 0, .int 0, .int 0, .ref 12, .ref 13, .ref 14, .ref 15, .ref 16, .ref 17, .ref 18]), .inl (0, (6, .inl (fun _ => 0))), .inl (0, (6, .inl (fun _ => 0))), .inl (0, (36, .inl (fun _ => 0))), .inl (0, (9, .inl (fun _ => 0))), .inl (0, (9, .inl (fun _ => 0))), .inl (0, (9, .inl (fun _ => 0))), .inl (0, (9, .inl (fun _ => 0))), .inr (0, [.int 0, .int 0, .int 0, .ref 20, .ref 21, .ref 22, .ref 23, .ref 24, .ref 25, .ref 26]), .inl (0, (6, .inl (fun _ => 0))), .inl (0, (6, .inl (fun _ => 0))), .inl (0, (36, .inl (fun _ => 0))), .inl (0, (9, .inl (fun _ => 0))), .inl (0, (9, .inl (fun _ => 0))), .inl (0, (9, .inl (fun _ => 0))), .inl (0, (9, .inl (fun _ => 0))), .inr (3, [.ref 28, .ref 29, .int 0, .int 0, .int 0]), .inl (0, (6, .inl (fun _ => 0))), .inl (0, (9, .inl (fun _ => 0))), .inr (1, [.ref 31, .ref 32, .ref 33, .ref 34, .ref 35, .int 0, .int 0, .int 0, .int 0]), .inl (0, (6, .inl (fun _ => 0))), .inl (0, (9, .inl (fun _ => 0))), .inl (0, (9, .inl (fun _ => 0))), .inl (0, (9, .inl (fun _ => 0))), .inl (0, (9, .inl (fun _ => 0))), .inr (5, [.ref 37, .ref 38, .ref 39, .int 0, .int 0]), .inl (0, (6, .inl (fun _ => 0))), .inl (0, (9, .inl (fun _ => 0))), .inl (1, (81, .inr (.inl (fun _ => 0)))), .inl (0, (6, .inl (fun _ => 0))), .inl (2, (4, .inr (.inr (.inr (.inr (va_up (va_up (va_up (fun _ => none) 0 (some 42)) 1 (some 44)) 2 (some 46))))))), .inr (2, [.ref 43, .int (-1), .int 0]), .inl (0, (40, .inl (fun _ => 0))), .inr (2, [.ref 45, .int (-1), .int 0]), .inl (0, (40, .inl (fun _ => 0))), .inr (2, [.ref 47, .int (-1), .int 0]), .inl (0, (40, .inl (fun _ => 0))), .inr (2, [.null, .int 0, .int 0])]) rfl ?_
  refine AW.keq (k1 := 48) (n1 := 641) rfl rfl ?_
  refine aw_dup dX6_init_112 rfl ?_
  refine aw_ctorN (as := []) dX6_init_113 moX2_init ioX2_init rfl mnX6_60 (by decide) ⟨Nat.le_of_ble_eq_true rfl, Nat.le_of_ble_eq_true rfl⟩ (by decide) rfl (N0 := 49) (by decide +kernel) k11_X2_init (fun a24 A24 => ?_)
  refine AW.heq (h1 := [.inr (6, [.ref 1, .ref 3, .ref 11, .ref 19, .ref 27, .ref 30, .ref 36, .ref 41, .ref 40, .int 0]), .inr (4, [.ref 2, .int 0, .int 0, .int 0, .int 0]), .inl (0, (40, .inl (fun _ => 0))), .inr (0, [.int 0, .int 0, .int 0, .ref 4, .ref 5, .ref 6, .ref 7, .ref 8, .ref 9, .ref 10]), .inl (0, (6, .inl (fun _ => 0))), .inl (0, (6, .inl (fun _ => 0))), .inl (0, (36, .inl (fun _ => 0))), .inl (0, (9, .inl (fun _ => 0))), .inl (0, (9, .inl (fun _ => 0))), .inl (0, (9, .inl (fun _ => 0))), .inl (0, (9, .inl (fun _ => 0))), .inr (0, [.int 0, .int 0, .int 0, .ref 12, .ref 13, .ref 14, .ref 15, .ref 16, .ref 17, .ref 18]), .inl (0, (6, .inl (fun _ => 0))), .inl (0, (6, .inl (fun _ => 0))), .inl (0, (36, .inl (fun _ => 0))), .inl (0, (9, .inl (fun _ => 0))), .inl (0, (9, .inl (fun _ => 0))), .inl (0, (9, .inl (fun _ => 0))), .inl (0, (9, .inl (fun _ => 0))), .inr (0, [.int 0, .int 0, .int 0, .ref 20, .ref 21, .ref 22, .ref 23, .ref 24, .ref 25, .ref 26]), .inl (0, (6, .inl (fun _ => 0))), .inl (0, (6, .inl (fun _ => 0))), .inl (0, (36, .inl (fun _ => 0))), .inl (0, (9, .inl (fun _ => 0))), .inl (0, (9, .inl (fun _ => 0))), .inl (0, (9, .inl (fun _ => 0))), .inl (0, (9, .inl (fun _ => 0))), .inr (3, [.ref 28, .ref 29, .int 0, .int 0, .int 0]), .inl (0, (6, .inl (fun _ => 0))), .inl (0, (9, .inl (fun _ => 0))), .inr (1, [.ref 31, .ref 32, .ref 33, .ref 34, .ref 35, .int 0, .int 0, .int 0, .int 0]), .inl (0, (6, .inl (fun _ => 0))), .inl (0, (9, .inl (fun _ => 0))), .inl (0, (9, .inl (fun _ => 0))), .inl (0, (9, .inl (fun _ => 0))), .inl (0, (9, .inl (fun _ => 0))), .inr (5, [.ref 37, .ref 38, .ref 39, .int 0, .int 0]), .inl (0, (6, .inl (fun _ => 0))), .inl (0, (9, .inl (fun _ => 0))), .inl (1, (81, .inr (.inl (fun _ => 0)))), .inl (0, (6, .inl (fun _ => 0))), .inl (2, (4, .inr (.inr (.inr (.inr (va_up (va_up (va_up (fun _ => none) 0 (some 42)) 1 (some 44)) 2 (some 46))))))), .inr (2, [.ref 43, .int (-1), .int 0]), .inl (0, (40, .inl (fun _ => 0))), .inr (2, [.ref 45, .int (-1), .int 0]), .inl (0, (40, .inl (fun _ => 0))), .inr (2, [.ref 47, .int (-1), .int 0]), .inl (0, (40, .inl (fun _ => 0))), .inr (2, [.ref 49, .int (-1), .int 0]), .inl (0, (40, .inl (fun _ => 0)))]) rfl ?_
  refine AW.keq (k1 := 49) (n1 := 681) rfl rfl ?_
  refine aw_aast dX6_init_116 rfl ?_
  refine AW.heq (h1 := [.inr (6, [.ref 1, .ref 3, .ref 11, .ref 19, .ref 27, .ref 30, .ref 36, .ref 41, .ref 40, .int 0]), .inr (4, [.ref 2, .int 0, .int 0, .int 0, .int 0]), .inl (0, (40, .inl (fun _ => 0))), .inr (0, [.int 0, .int 0, .int 0, .ref 4, .ref 5, .ref 6, .ref 7, .ref 8, .ref 9, .ref 10]), .inl (0, (6, .inl (fun _ => 0))), .inl (0, (6, .inl (fun _ => 0))), .inl (0, (36, .inl (fun _ => 0))), .inl (0, (9, .inl (fun _ => 0))), .inl (0, (9, .inl (fun _ => 0))), .inl (0, (9, .inl (fun _ => 0))), .inl (0, (9, .inl (fun _ => 0))), .inr (0, [.int 0, .int 0, .int 0, .ref 12, .ref 13, .ref 14, .ref 15, .ref 16, .ref 17, .ref 18]), .inl (0, (6, .inl (fun _ => 0))), .inl (0, (6, .inl (fun _ => 0))), .inl (0, (36, .inl (fun _ => 0))), .inl (0, (9, .inl (fun _ => 0))), .inl (0, (9, .inl (fun _ => 0))), .inl (0, (9, .inl (fun _ => 0))), .inl (0, (9, .inl (fun _ => 0))), .inr (0, [.int 0, .int 0, .int 0, .ref 20, .ref 21, .ref 22, .ref 23, .ref 24, .ref 25, .ref 26]), .inl (0, (6, .inl (fun _ => 0))), .inl (0, (6, .inl (fun _ => 0))), .inl (0, (36, .inl (fun _ => 0))), .inl (0, (9, .inl (fun _ => 0))), .inl (0, (9, .inl (fun _ => 0))), .inl (0, (9, .inl (fun _ => 0))), .inl (0, (9, .inl (fun _ => 0))), .inr (3, [.ref 28, .ref 29, .int 0, .int 0, .int 0]), .inl (0, (6, .inl (fun _ => 0))), .inl (0, (9, .inl (fun _ => 0))), .inr (1, [.ref 31, .ref 32, .ref 33, .ref 34, .ref 35, .int 0, .int 0, .int 0, .int 0]), .inl (0, (6, .inl (fun _ => 0))), .inl (0, (9, .inl (fun _ => 0))), .inl (0, (9, .inl (fun _ => 0))), .inl (0, (9, .inl (fun _ => 0))), .inl (0, (9, .inl (fun _ => 0))), .inr (5, [.ref 37, .ref 38, .ref 39, .int 0, .int 0]), .inl (0, (6, .inl (fun _ => 0))), .inl (0, (9, .inl (fun _ => 0))), .inl (1, (81, .inr (.inl (fun _ => 0)))), .inl (0, (6, .inl (fun _ => 0))), .inl (2, (4, .inr (.inr (.inr (.inr (va_up (va_up (va_up (va_up (fun _ => none) 0 (some 42)) 1 (some 44)) 2 (some 46)) 3 (some 48))))))), .inr (2, [.ref 43, .int (-1), .int 0]), .inl (0, (40, .inl (fun _ => 0))), .inr (2, [.ref 45, .int (-1), .int 0]), .inl (0, (40, .inl (fun _ => 0))), .inr (2, [.ref 47, .int (-1), .int 0]), .inl (0, (40, .inl (fun _ => 0))), .inr (2, [.ref 49, .int (-1), .int 0]), .inl (0, (40, .inl (fun _ => 0)))]) rfl ?_
  refine AW.keq (k1 := 49) (n1 := 681) rfl rfl ?_
  refine aw_iinc (v := 4) (L' := [(1, .int 4), (0, .ref 0)]) 0 dX6_init_117 rfl (by decide) (by decide) rfl ?_
  refine aw_goto (tgt := 99) dX6_init_120 (by decide) ?_
  refine aw_iload_n 0 dX6_init_99 rfl rfl ?_
  refine aw_iconst (v := 4) dX6_init_100 (by decide) ?_
  refine aw_icmp_ge (tgt := 123) dX6_init_101 (by decide) (fun _ => ?_) (fun c => absurd (by decide) c)
  exact aw_vret hr dX6_init_123 ⟨(Agr.tr (by decide) A24 (Agr.tr (by decide) A23 (Agr.tr (by decide) A22 (Agr.tr (by decide) A21 (Agr.tr (by decide) A20 (Agr.tr (by decide) A19 (Agr.tr (by decide) A18 (Agr.tr (by decide) A17 (Agr.tr (by decide) A16 (Agr.tr (by decide) A15 (Agr.tr (by decide) A14 (Agr.tr (by decide) A13 (Agr.tr (by decide) A12 (Agr.tr (by decide) A11 (Agr.tr (by decide) A10 (Agr.tr (by decide) A9 (Agr.tr (by decide) A8 (Agr.tr (by decide) A7 (Agr.tr (by decide) A6 (Agr.tr (by decide) A5 (Agr.tr (by decide) A4 (Agr.tr (by decide) A3 (Agr.tr (by decide) A2 (Agr.tr (by decide) A1 Agr.rf)))))))))))))))))))))))), rfl, rfl⟩
theorem dX7_init_0 : decode cX7_init 0 = .ok (.aload_n 0, 1) := by decide +kernel
theorem dX7_init_1 : decode cX7_init 1 = .ok (.invokespecial 1, 3) := by decide +kernel
theorem dX7_init_4 : decode cX7_init 4 = .ok (.aload_n 0, 1) := by decide +kernel
theorem dX7_init_5 : decode cX7_init 5 = .ok (.bipush 87, 2) := by decide +kernel
theorem dX7_init_7 : decode cX7_init 7 = .ok (.newarray .int, 2) := by decide +kernel
theorem dX7_init_9 : decode cX7_init 9 = .ok (.putfield 9, 3) := by decide +kernel
theorem dX7_init_12 : decode cX7_init 12 = .ok (.aload_n 0, 1) := by decide +kernel
theorem dX7_init_13 : decode cX7_init 13 = .ok (.bipush 87, 2) := by decide +kernel
theorem dX7_init_15 : decode cX7_init 15 = .ok (.newarray .int, 2) := by decide +kernel
theorem dX7_init_17 : decode cX7_init 17 = .ok (.putfield 13, 3) := by decide +kernel
theorem dX7_init_20 : decode cX7_init 20 = .ok (.aload_n 0, 1) := by decide +kernel
theorem dX7_init_21 : decode cX7_init 21 = .ok (.bipush 9, 2) := by decide +kernel
theorem dX7_init_23 : decode cX7_init 23 = .ok (.newarray .int, 2) := by decide +kernel
theorem dX7_init_25 : decode cX7_init 25 = .ok (.putfield 16, 3) := by decide +kernel
theorem dX7_init_28 : decode cX7_init 28 = .ok (.aload_n 0, 1) := by decide +kernel
theorem dX7_init_29 : decode cX7_init 29 = .ok (.bipush 6, 2) := by decide +kernel
theorem dX7_init_31 : decode cX7_init 31 = .ok (.newarray .int, 2) := by decide +kernel
theorem dX7_init_33 : decode cX7_init 33 = .ok (.putfield 19, 3) := by decide +kernel
theorem dX7_init_36 : decode cX7_init 36 = .ok (.aload_n 0, 1) := by decide +kernel
theorem dX7_init_37 : decode cX7_init 37 = .ok (.bipush 9, 2) := by decide +kernel
theorem dX7_init_39 : decode cX7_init 39 = .ok (.newarray .int, 2) := by decide +kernel
theorem dX7_init_41 : decode cX7_init 41 = .ok (.putfield 22, 3) := by decide +kernel
theorem dX7_init_44 : decode cX7_init 44 = .ok (.aload_n 0, 1) := by decide +kernel
theorem dX7_init_45 : decode cX7_init 45 = .ok (.bipush 40, 2) := by decide +kernel
theorem dX7_init_47 : decode cX7_init 47 = .ok (.newarray .int, 2) := by decide +kernel
theorem dX7_init_49 : decode cX7_init 49 = .ok (.putfield 25, 3) := by decide +kernel
theorem dX7_init_52 : decode cX7_init 52 = .ok (.aload_n 0, 1) := by decide +kernel
theorem dX7_init_53 : decode cX7_init 53 = .ok (.bipush 25, 2) := by decide +kernel
theorem dX7_init_55 : decode cX7_init 55 = .ok (.newarray .int, 2) := by decide +kernel
theorem dX7_init_57 : decode cX7_init 57 = .ok (.dup, 1) := by decide +kernel
theorem dX7_init_58 : decode cX7_init 58 = .ok (.iconst 0, 1) := by decide +kernel
theorem dX7_init_59 : decode cX7_init 59 = .ok (.bipush 116, 2) := by decide +kernel
theorem dX7_init_61 : decode cX7_init 61 = .ok (.iastore, 1) := by decide +kernel
theorem dX7_init_62 : decode cX7_init 62 = .ok (.dup, 1) := by decide +kernel
theorem dX7_init_63 : decode cX7_init 63 = .ok (.iconst 1, 1) := by decide +kernel
theorem dX7_init_64 : decode cX7_init 64 = .ok (.bipush 101, 2) := by decide +kernel
theorem dX7_init_66 : decode cX7_init 66 = .ok (.iastore, 1) := by decide +kernel
theorem dX7_init_67 : decode cX7_init 67 = .ok (.dup, 1) := by decide +kernel
theorem dX7_init_68 : decode cX7_init 68 = .ok (.iconst 2, 1) := by decide +kernel
theorem dX7_init_69 : decode cX7_init 69 = .ok (.bipush 97, 2) := by decide +kernel
theorem dX7_init_71 : decode cX7_init 71 = .ok (.iastore, 1) := by decide +kernel
theorem dX7_init_72 : decode cX7_init 72 = .ok (.dup, 1) := by decide +kernel
theorem dX7_init_73 : decode cX7_init 73 = .ok (.iconst 3, 1) := by decide +kernel
theorem dX7_init_74 : decode cX7_init 74 = .ok (.bipush 109, 2) := by decide +kernel
theorem dX7_init_76 : decode cX7_init 76 = .ok (.iastore, 1) := by decide +kernel
theorem dX7_init_77 : decode cX7_init 77 = .ok (.dup, 1) := by decide +kernel
theorem dX7_init_78 : decode cX7_init 78 = .ok (.iconst 4, 1) := by decide +kernel
theorem dX7_init_79 : decode cX7_init 79 = .ok (.bipush 32, 2) := by decide +kernel
theorem dX7_init_81 : decode cX7_init 81 = .ok (.iastore, 1) := by decide +kernel
theorem dX7_init_82 : decode cX7_init 82 = .ok (.dup, 1) := by decide +kernel
theorem dX7_init_83 : decode cX7_init 83 = .ok (.iconst 5, 1) := by decide +kernel
theorem dX7_init_84 : decode cX7_init 84 = .ok (.bipush 115, 2) := by decide +kernel
theorem dX7_init_86 : decode cX7_init 86 = .ok (.iastore, 1) := by decide +kernel
theorem dX7_init_87 : decode cX7_init 87 = .ok (.dup, 1) := by decide +kernel
theorem dX7_init_88 : decode cX7_init 88 = .ok (.bipush 6, 2) := by decide +kernel
theorem dX7_init_90 : decode cX7_init 90 = .ok (.bipush 116, 2) := by decide +kernel
theorem dX7_init_92 : decode cX7_init 92 = .ok (.iastore, 1) := by decide +kernel
theorem dX7_init_93 : decode cX7_init 93 = .ok (.dup, 1) := by decide +kernel
theorem dX7_init_94 : decode cX7_init 94 = .ok (.bipush 7, 2) := by decide +kernel
theorem dX7_init_96 : decode cX7_init 96 = .ok (.bipush 97, 2) := by decide +kernel
theorem dX7_init_98 : decode cX7_init 98 = .ok (.iastore, 1) := by decide +kernel
theorem dX7_init_99 : decode cX7_init 99 = .ok (.dup, 1) := by decide +kernel
theorem dX7_init_100 : decode cX7_init 100 = .ok (.bipush 8, 2) := by decide +kernel
theorem dX7_init_102 : decode cX7_init 102 = .ok (.bipush 114, 2) := by decide +kernel
theorem dX7_init_104 : decode cX7_init 104 = .ok (.iastore, 1) := by decide +kernel
theorem dX7_init_105 : decode cX7_init 105 = .ok (.dup, 1) := by decide +kernel
theorem dX7_init_106 : decode cX7_init 106 = .ok (.bipush 9, 2) := by decide +kernel
theorem dX7_init_108 : decode cX7_init 108 = .ok (.bipush 116, 2) := by decide +kernel
theorem dX7_init_110 : decode cX7_init 110 = .ok (.iastore, 1) := by decide +kernel
theorem dX7_init_111 : decode cX7_init 111 = .ok (.dup, 1) := by decide +kernel
theorem dX7_init_112 : decode cX7_init 112 = .ok (.bipush 10, 2) := by decide +kernel
theorem dX7_init_114 : decode cX7_init 114 = .ok (.bipush 103, 2) := by decide +kernel
theorem dX7_init_116 : decode cX7_init 116 = .ok (.iastore, 1) := by decide +kernel
theorem dX7_init_117 : decode cX7_init 117 = .ok (.dup, 1) := by decide +kernel
theorem dX7_init_118 : decode cX7_init 118 = .ok (.bipush 11, 2) := by decide +kernel
theorem dX7_init_120 : decode cX7_init 120 = .ok (.bipush 97, 2) := by decide +kernel
theorem dX7_init_122 : decode cX7_init 122 = .ok (.iastore, 1) := by decide +kernel
theorem dX7_init_123 : decode cX7_init 123 = .ok (.dup, 1) := by decide +kernel
theorem dX7_init_124 : decode cX7_init 124 = .ok (.bipush 12, 2) := by decide +kernel
theorem dX7_init_126 : decode cX7_init 126 = .ok (.bipush 109, 2) := by decide +kernel
theorem dX7_init_128 : decode cX7_init 128 = .ok (.iastore, 1) := by decide +kernel
theorem dX7_init_129 : decode cX7_init 129 = .ok (.dup, 1) := by decide +kernel
theorem dX7_init_130 : decode cX7_init 130 = .ok (.bipush 13, 2) := by decide +kernel
theorem dX7_init_132 : decode cX7_init 132 = .ok (.bipush 101, 2) := by decide +kernel
theorem dX7_init_134 : decode cX7_init 134 = .ok (.iastore, 1) := by decide +kernel
theorem dX7_init_135 : decode cX7_init 135 = .ok (.dup, 1) := by decide +kernel
theorem dX7_init_136 : decode cX7_init 136 = .ok (.bipush 14, 2) := by decide +kernel
theorem dX7_init_138 : decode cX7_init 138 = .ok (.bipush 32, 2) := by decide +kernel
theorem dX7_init_140 : decode cX7_init 140 = .ok (.iastore, 1) := by decide +kernel
theorem dX7_init_141 : decode cX7_init 141 = .ok (.dup, 1) := by decide +kernel
theorem dX7_init_142 : decode cX7_init 142 = .ok (.bipush 15, 2) := by decide +kernel
theorem dX7_init_144 : decode cX7_init 144 = .ok (.bipush 119, 2) := by decide +kernel
theorem dX7_init_146 : decode cX7_init 146 = .ok (.iastore, 1) := by decide +kernel
theorem dX7_init_147 : decode cX7_init 147 = .ok (.dup, 1) := by decide +kernel
theorem dX7_init_148 : decode cX7_init 148 = .ok (.bipush 16, 2) := by decide +kernel
theorem dX7_init_150 : decode cX7_init 150 = .ok (.bipush 111, 2) := by decide +kernel
theorem dX7_init_152 : decode cX7_init 152 = .ok (.iastore, 1) := by decide +kernel
theorem dX7_init_153 : decode cX7_init 153 = .ok (.dup, 1) := by decide +kernel
theorem dX7_init_154 : decode cX7_init 154 = .ok (.bipush 17, 2) := by decide +kernel
theorem dX7_init_156 : decode cX7_init 156 = .ok (.bipush 110, 2) := by decide +kernel
theorem dX7_init_158 : decode cX7_init 158 = .ok (.iastore, 1) := by decide +kernel
theorem dX7_init_159 : decode cX7_init 159 = .ok (.dup, 1) := by decide +kernel
theorem dX7_init_160 : decode cX7_init 160 = .ok (.bipush 18, 2) := by decide +kernel
theorem dX7_init_162 : decode cX7_init 162 = .ok (.bipush 32, 2) := by decide +kernel
theorem dX7_init_164 : decode cX7_init 164 = .ok (.iastore, 1) := by decide +kernel
theorem dX7_init_165 : decode cX7_init 165 = .ok (.dup, 1) := by decide +kernel
theorem dX7_init_166 : decode cX7_init 166 = .ok (.bipush 19, 2) := by decide +kernel
theorem dX7_init_168 : decode cX7_init 168 = .ok (.bipush 32, 2) := by decide +kernel
theorem dX7_init_170 : decode cX7_init 170 = .ok (.iastore, 1) := by decide +kernel
theorem dX7_init_171 : decode cX7_init 171 = .ok (.dup, 1) := by decide +kernel
theorem dX7_init_172 : decode cX7_init 172 = .ok (.bipush 20, 2) := by decide +kernel
theorem dX7_init_174 : decode cX7_init 174 = .ok (.bipush 100, 2) := by decide +kernel
theorem dX7_init_176 : decode cX7_init 176 = .ok (.iastore, 1) := by decide +kernel
theorem dX7_init_177 : decode cX7_init 177 = .ok (.dup, 1) := by decide +kernel
theorem dX7_init_178 : decode cX7_init 178 = .ok (.bipush 21, 2) := by decide +kernel
theorem dX7_init_180 : decode cX7_init 180 = .ok (.bipush 114, 2) := by decide +kernel
theorem dX7_init_182 : decode cX7_init 182 = .ok (.iastore, 1) := by decide +kernel
theorem dX7_init_183 : decode cX7_init 183 = .ok (.dup, 1) := by decide +kernel
theorem dX7_init_184 : decode cX7_init 184 = .ok (.bipush 22, 2) := by decide +kernel
theorem dX7_init_186 : decode cX7_init 186 = .ok (.bipush 101, 2) := by decide +kernel
theorem dX7_init_188 : decode cX7_init 188 = .ok (.iastore, 1) := by decide +kernel
theorem dX7_init_189 : decode cX7_init 189 = .ok (.dup, 1) := by decide +kernel
theorem dX7_init_190 : decode cX7_init 190 = .ok (.bipush 23, 2) := by decide +kernel
theorem dX7_init_192 : decode cX7_init 192 = .ok (.bipush 119, 2) := by decide +kernel
theorem dX7_init_194 : decode cX7_init 194 = .ok (.iastore, 1) := by decide +kernel
theorem dX7_init_195 : decode cX7_init 195 = .ok (.dup, 1) := by decide +kernel
theorem dX7_init_196 : decode cX7_init 196 = .ok (.bipush 24, 2) := by decide +kernel
theorem dX7_init_198 : decode cX7_init 198 = .ok (.bipush 32, 2) := by decide +kernel
theorem dX7_init_200 : decode cX7_init 200 = .ok (.iastore, 1) := by decide +kernel
theorem dX7_init_201 : decode cX7_init 201 = .ok (.putfield 28, 3) := by decide +kernel
theorem dX7_init_204 : decode cX7_init 204 = .ok (.aload_n 0, 1) := by decide +kernel
theorem dX7_init_205 : decode cX7_init 205 = .ok (.sipush 486, 3) := by decide +kernel
theorem dX7_init_208 : decode cX7_init 208 = .ok (.newarray .int, 2) := by decide +kernel
theorem dX7_init_210 : decode cX7_init 210 = .ok (.putfield 31, 3) := by decide +kernel
theorem dX7_init_213 : decode cX7_init 213 = .ok (.aload_n 0, 1) := by decide +kernel
theorem dX7_init_214 : decode cX7_init 214 = .ok (.iconst 4, 1) := by decide +kernel
theorem dX7_init_215 : decode cX7_init 215 = .ok (.newarray .int, 2) := by decide +kernel
theorem dX7_init_217 : decode cX7_init 217 = .ok (.dup, 1) := by decide +kernel
theorem dX7_init_218 : decode cX7_init 218 = .ok (.iconst 0, 1) := by decide +kernel
theorem dX7_init_219 : decode cX7_init 219 = .ok (.iconst (-1), 1) := by decide +kernel
theorem dX7_init_220 : decode cX7_init 220 = .ok (.iastore, 1) := by decide +kernel
theorem dX7_init_221 : decode cX7_init 221 = .ok (.dup, 1) := by decide +kernel
theorem dX7_init_222 : decode cX7_init 222 = .ok (.iconst 1, 1) := by decide +kernel
theorem dX7_init_223 : decode cX7_init 223 = .ok (.iconst (-1), 1) := by decide +kernel
theorem dX7_init_224 : decode cX7_init 224 = .ok (.iastore, 1) := by decide +kernel
theorem dX7_init_225 : decode cX7_init 225 = .ok (.dup, 1) := by decide +kernel
theorem dX7_init_226 : decode cX7_init 226 = .ok (.iconst 2, 1) := by decide +kernel
theorem dX7_init_227 : decode cX7_init 227 = .ok (.iconst (-1), 1) := by decide +kernel
theorem dX7_init_228 : decode cX7_init 228 = .ok (.iastore, 1) := by decide +kernel
theorem dX7_init_229 : decode cX7_init 229 = .ok (.dup, 1) := by decide +kernel
theorem dX7_init_230 : decode cX7_init 230 = .ok (.iconst 3, 1) := by decide +kernel
theorem dX7_init_231 : decode cX7_init 231 = .ok (.iconst (-1), 1) := by decide +kernel
theorem dX7_init_232 : decode cX7_init 232 = .ok (.iastore, 1) := by decide +kernel
theorem dX7_init_233 : decode cX7_init 233 = .ok (.putfield 34, 3) := by decide +kernel
theorem dX7_init_236 : decode cX7_init 236 = .ok (.aload_n 0, 1) := by decide +kernel
theorem dX7_init_237 : decode cX7_init 237 = .ok (.iconst 4, 1) := by decide +kernel
theorem dX7_init_238 : decode cX7_init 238 = .ok (.newarray .int, 2) := by decide +kernel
theorem dX7_init_240 : decode cX7_init 240 = .ok (.putfield 37, 3) := by decide +kernel
theorem dX7_init_243 : decode cX7_init 243 = .ok (.aload_n 0, 1) := by decide +kernel
theorem dX7_init_244 : decode cX7_init 244 = .ok (.sipush 160, 3) := by decide +kernel
theorem dX7_init_247 : decode cX7_init 247 = .ok (.newarray .int, 2) := by decide +kernel
theorem dX7_init_249 : decode cX7_init 249 = .ok (.putfield 40, 3) := by decide +kernel
theorem dX7_init_252 : decode cX7_init 252 = .ok (.return_, 1) := by decide +kernel
set_option maxRecDepth 100000 in
set_option maxHeartbeats 4000000 in
theorem k13_X7_init : MtQ 1 11 917 yX7_init cX7_init 1 none [.ref 50] hi_24 (Qn 51 hi_25) := by
  refine MtQ.of (by decide) (by decide) (fun X adr hr hn => ?_)
  refine AW.heq (h1 := [.inr (6, [.ref 1, .ref 3, .ref 11, .ref 19, .ref 27, .ref 30, .ref 36, .ref 41, .ref 40, .int 0]), .inr (4, [.ref 2, .int 0, .int 0, .int 0, .int 0]), .inl (0, (40, .inl (fun _ => 0))), .inr (0, [.int 0, .int 0, .int 0, .ref 4, .ref 5, .ref 6, .ref 7, .ref 8, .ref 9, .ref 10]), .inl (0, (6, .inl (fun _ => 0))), .inl (0, (6, .inl (fun _ => 0))), .inl (0, (36, .inl (fun _ => 0))), .inl (0, (9, .inl (fun _ => 0))), .inl (0, (9, .inl (fun _ => 0))), .inl (0, (9, .inl (fun _ => 0))), .inl (0, (9, .inl (fun _ => 0))), .inr (0, [.int 0, .int 0, .int 0, .ref 12, .ref 13, .ref 14, .ref 15, .ref 16, .ref 17, .ref 18]), .inl (0, (6, .inl (fun _ => 0))), .inl (0, (6, .inl (fun _ => 0))), .inl (0, (36, .inl (fun _ => 0))), .inl (0, (9, .inl (fun _ => 0))), .inl (0, (9, .inl (fun _ => 0))), .inl (0, (9, .inl (fun _ => 0))), .inl (0, (9, .inl (fun _ => 0))), .inr (0, [.int 0, .int 0, .int 0, .ref 20, .ref 21, .ref 22, .ref 23, .ref 24, .ref 25, .ref 26]), .inl (0, (6, .inl (fun _ => 0))), .inl (0, (6, .inl (fun _ => 0))), .inl (0, (36, .inl (fun _ => 0))), .inl (0, (9, .inl (fun _ => 0))), .inl (0, (9, .inl (fun _ => 0))), .inl (0, (9, .inl (fun _ => 0))), .inl (0, (9, .inl (fun _ => 0))), .inr (3, [.ref 28, .ref 29, .int 0, .int 0, .int 0]), .inl (0, (6, .inl (fun _ => 0))), .inl (0, (9, .inl (fun _ => 0))), .inr (1, [.ref 31, .ref 32, .ref 33, .ref 34, .ref 35, .int 0, .int 0, .int 0, .int 0]), .inl (0, (6, .inl (fun _ => 0))), .inl (0, (9, .inl (fun _ => 0))), .inl (0, (9, .inl (fun _ => 0))), .inl (0, (9, .inl (fun _ => 0))), .inl (0, (9, .inl (fun _ => 0))), .inr (5, [.ref 37, .ref 38, .ref 39, .int 0, .int 0]), .inl (0, (6, .inl (fun _ => 0))), .inl (0, (9, .inl (fun _ => 0))), .inl (1, (81, .inr (.inl (fun _ => 0)))), .inl (0, (6, .inl (fun _ => 0))), .inl (2, (4, .inr (.inr (.inr (.inr (va_up (va_up (va_up (va_up (fun _ => none) 0 (some 42)) 1 (some 44)) 2 (some 46)) 3 (some 48))))))), .inr (2, [.ref 43, .int (-1), .int 0]), .inl (0, (40, .inl (fun _ => 0))), .inr (2, [.ref 45, .int (-1), .int 0]), .inl (0, (40, .inl (fun _ => 0))), .inr (2, [.ref 47, .int (-1), .int 0]), .inl (0, (40, .inl (fun _ => 0))), .inr (2, [.ref 49, .int (-1), .int 0]), .inl (0, (40, .inl (fun _ => 0))), .inr (7, [.null, .null, .int 0, .null, .null, .int 0, .int 0, .null, .int 0, .int 0, .null, .int 0, .int 0, .int 0, .int 0, .null, .null, .int 0, .null, .null, .null])]) rfl ?_
  refine AW.leq (L1 := [(0, .ref 50)]) rfl ?_
  refine aw_aload_n 0 dX7_init_0 rfl rfl ?_
  refine aw_objInit dX7_init_1 moX7_1 (by decide) (by decide) ?_
  refine aw_aload_n 0 dX7_init_4 rfl rfl ?_
  refine aw_bipush (v := 87) dX7_init_5 (by decide) ?_
  refine aw_newa (kd := 0) (N := 87) (ty := .int) (a0 := (87, .inl (fun _ => 0))) dX7_init_7 wa_int rfl (Or.inl ⟨rfl, rfl⟩) (ha_int 87) (fun _ => rfl) (by decide) (by decide) (by decide) ⟨Nat.le_of_ble_eq_true rfl, Nat.le_of_ble_eq_true rfl⟩ (N0 := 51) (by decide +kernel) (by decide) (by decide +kernel) (by decide +kernel) (fun a1 A1 => ?_)
  refine AW.heq (h1 := [.inr (6, [.ref 1, .ref 3, .ref 11, .ref 19, .ref 27, .ref 30, .ref 36, .ref 41, .ref 40, .int 0]), .inr (4, [.ref 2, .int 0, .int 0, .int 0, .int 0]), .inl (0, (40, .inl (fun _ => 0))), .inr (0, [.int 0, .int 0, .int 0, .ref 4, .ref 5, .ref 6, .ref 7, .ref 8, .ref 9, .ref 10]), .inl (0, (6, .inl (fun _ => 0))), .inl (0, (6, .inl (fun _ => 0))), .inl (0, (36, .inl (fun _ => 0))), .inl (0, (9, .inl (fun _ => 0))), .inl (0, (9, .inl (fun _ => 0))), .inl (0, (9, .inl (fun _ => 0))), .inl (0, (9, .inl (fun _ => 0))), .inr (0, [.int 0, .int 0, .int 0, .ref 12, .ref 13, .ref 14, .ref 15, .ref 16, .ref 17, .ref 18]), .inl (0, (6, .inl (fun _ => 0))), .inl (0, (6, .inl (fun _ => 0))), .inl (0, (36, .inl (fun _ => 0))), .inl (0, (9, .inl (fun _ => 0))), .inl (0, (9, .inl (fun _ => 0))), .inl (0, (9, .inl (fun _ => 0))), .inl (0, (9, .inl (fun _ => 0))), .inr (0, [.int 0, .int 0, .int 0, .ref 20, .ref 21, .ref 22, .ref 23, .ref 24, .ref 25, .ref 26]), .inl (0, (6, .inl (fun _ => 0))), .inl (0, (6, .inl (fun _ => 0))), .inl (0, (36, .inl (fun _ => 0))), .inl (0, (9, .inl (fun _ => 0))), .inl (0, (9, .inl (fun _ => 0))), .inl (0, (9, .inl (fun _ => 0))), .inl (0, (9, .inl (fun _ => 0))), .inr (3, [.ref 28, .ref 29, .int 0, .int 0, .int 0]), .inl (0, (6, .inl (fun _ => 0))), .inl (0, (9, .inl (fun _ => 0))), .inr (1, [.ref 31, .ref 32, .ref 33, .ref 34, .ref 35, .int 0, .int 0, .int 0, .int 0]), .inl (0, (6, .inl (fun _ => 0))), .inl (0, (9, .inl (fun _ => 0))), .inl (0, (9, .inl (fun _ => 0))), .inl (0, (9, .inl (fun _ => 0))), .inl (0, (9, .inl (fun _ => 0))), .inr (5, [.ref 37, .ref 38, .ref 39, .int 0, .int 0]), .inl (0, (6, .inl (fun _ => 0))), .inl (0, (9, .inl (fun _ => 0))), .inl (1, (81, .inr (.inl (fun _ => 0)))), .inl (0, (6, .inl (fun _ => 0))), .inl (2, (4, .inr (.inr (.inr (.inr (va_up (va_up (va_up (va_up (fun _ => none) 0 (some 42)) 1 (some 44)) 2 (some 46)) 3 (some 48))))))), .inr (2, [.ref 43, .int (-1), .int 0]), .inl (0, (40, .inl (fun _ => 0))), .inr (2, [.ref 45, .int (-1), .int 0]), .inl (0, (40, .inl (fun _ => 0))), .inr (2, [.ref 47, .int (-1), .int 0]), .inl (0, (40, .inl (fun _ => 0))), .inr (2, [.ref 49, .int (-1), .int 0]), .inl (0, (40, .inl (fun _ => 0))), .inr (7, [.null, .null, .int 0, .null, .null, .int 0, .int 0, .null, .int 0, .int 0, .null, .int 0, .int 0, .int 0, .int 0, .null, .null, .int 0, .null, .null, .null]), .inl (0, (87, .inl (fun _ => 0)))]) rfl ?_
  refine AW.keq (k1 := 1) (n1 := 87) rfl rfl ?_
  refine aw_putF hn dX7_init_9 pnX7_9 (fun _ => ⟨rfl, rfl⟩) rfl ?_
  refine AW.heq (h1 := [.inr (6, [.ref 1, .ref 3, .ref 11, .ref 19, .ref 27, .ref 30, .ref 36, .ref 41, .ref 40, .int 0]), .inr (4, [.ref 2, .int 0, .int 0, .int 0, .int 0]), .inl (0, (40, .inl (fun _ => 0))), .inr (0, [.int 0, .int 0, .int 0, .ref 4, .ref 5, .ref 6, .ref 7, .ref 8, .ref 9, .ref 10]), .inl (0, (6, .inl (fun _ => 0))), .inl (0, (6, .inl (fun _ => 0))), .inl (0, (36, .inl (fun _ => 0))), .inl (0, (9, .inl (fun _ => 0))), .inl (0, (9, .inl (fun _ => 0))), .inl (0, (9, .inl (fun _ => 0))), .inl (0, (9, .inl (fun _ => 0))), .inr (0, [.int 0, .int 0, .int 0, .ref 12, .ref 13, .ref 14, .ref 15, .ref 16, .ref 17, .ref 18]), .inl (0, (6, .inl (fun _ => 0))), .inl (0, (6, .inl (fun _ => 0))), .inl (0, (36, .inl (fun _ => 0))), .inl (0, (9, .inl (fun _ => 0))), .inl (0, (9, .inl (fun _ => 0))), .inl (0, (9, .inl (fun _ => 0))), .inl (0, (9, .inl (fun _ => 0))), .inr (0, [.int 0, .int 0, .int 0, .ref 20, .ref 21, .ref 22, .ref 23, .ref 24, .ref 25, .ref 26]), .inl (0, (6, .inl (fun _ => 0))), .inl (0, (6, .inl (fun _ => 0))), .inl (0, (36, .inl (fun _ => 0))), .inl (0, (9, .inl (fun _ => 0))), .inl (0, (9, .inl (fun _ => 0))), .inl (0, (9, .inl (fun _ => 0))), .inl (0, (9, .inl (fun _ => 0))), .inr (3, [.ref 28, .ref 29, .int 0, .int 0, .int 0]), .inl (0, (6, .inl (fun _ => 0))), .inl (0, (9, .inl (fun _ => 0))), .inr (1, [.ref 31, .ref 32, .ref 33, .ref 34, .ref 35, .int 0, .int 0, .int 0, .int 0]), .inl (0, (6, .inl (fun _ => 0))), .inl (0, (9, .inl (fun _ => 0))), .inl (0, (9, .inl (fun _ => 0))), .inl (0, (9, .inl (fun _ => 0))), .inl (0, (9, .inl (fun _ => 0))), .inr (5, [.ref 37, .ref 38, .ref 39, .int 0, .int 0]), .inl (0, (6, .inl (fun _ => 0))), .inl (0, (9, .inl (fun _ => 0))), .inl (1, (81, .inr (.inl (fun _ => 0)))), .inl (0, (6, .inl (fun _ => 0))), .inl (2, (4, .inr (.inr (.inr (.inr (va_up (va_up (va_up (va_up (fun _ => none) 0 (some 42)) 1 (some 44)) 2 (some 46)) 3 (some 48))))))), .inr (2, [.ref 43, .int (-1), .int 0]), .inl (0, (40, .inl (fun _ => 0))), .inr (2, [.ref 45, .int (-1), .int 0]), .inl (0, (40, .inl (fun _ => 0))), .inr (2, [.ref 47, .int (-1), .int 0]), .inl (0, (40, .inl (fun _ => 0))), .inr (2, [.ref 49, .int (-1), .int 0]), .inl (0, (40, .inl (fun _ => 0))), .inr (7, [.ref 51, .null, .int 0, .null, .null, .int 0, .int 0, .null, .int 0, .int 0, .null, .int 0, .int 0, .int 0, .int 0, .null, .null, .int 0, .null, .null, .null]), .inl (0, (87, .inl (fun _ => 0)))]) rfl ?_
  refine AW.keq (k1 := 1) (n1 := 87) rfl rfl ?_
  refine aw_aload_n 0 dX7_init_12 rfl rfl ?_
  refine aw_bipush (v := 87) dX7_init_13 (by decide) ?_
  refine aw_newa (kd := 0) (N := 87) (ty := .int) (a0 := (87, .inl (fun _ => 0))) dX7_init_15 wa_int rfl (Or.inl ⟨rfl, rfl⟩) (ha_int 87) (fun _ => rfl) (by decide) (by decide) (by decide) ⟨Nat.le_of_ble_eq_true rfl, Nat.le_of_ble_eq_true rfl⟩ (N0 := 52) (by decide +kernel) (by decide) (by decide +kernel) (by decide +kernel) (fun a2 A2 => ?_)
  refine AW.heq (h1 := [.inr (6, [.ref 1, .ref 3, .ref 11, .ref 19, .ref 27, .ref 30, .ref 36, .ref 41, .ref 40, .int 0]), .inr (4, [.ref 2, .int 0, .int 0, .int 0, .int 0]), .inl (0, (40, .inl (fun _ => 0))), .inr (0, [.int 0, .int 0, .int 0, .ref 4, .ref 5, .ref 6, .ref 7, .ref 8, .ref 9, .ref 10]), .inl (0, (6, .inl (fun _ => 0))), .inl (0, (6, .inl (fun _ => 0))), .inl (0, (36, .inl (fun _ => 0))), .inl (0, (9, .inl (fun _ => 0))), .inl (0, (9, .inl (fun _ => 0))), .inl (0, (9, .inl (fun _ => 0))), .inl (0, (9, .inl (fun _ => 0))), .inr (0, [.int 0, .int 0, .int 0, .ref 12, .ref 13, .ref 14, .ref 15, .ref 16, .ref 17, .ref 18]), .inl (0, (6, .inl (fun _ => 0))), .inl (0, (6, .inl (fun _ => 0))), .inl (0, (36, .inl (fun _ => 0))), .inl (0, (9, .inl (fun _ => 0))), .inl (0, (9, .inl (fun _ => 0))), .inl (0, (9, .inl (fun _ => 0))), .inl (0, (9, .inl (fun _ => 0))), .inr (0, [.int 0, .int 0, .int 0, .ref 20, .ref 21, .ref 22, .ref 23, .ref 24, .ref 25, .ref 26]), .inl (0, (6, .inl (fun _ => 0))), .inl (0, (6, .inl (fun _ => 0))), .inl (0, (36, .inl (fun _ => 0))), .inl (0, (9, .inl (fun _ => 0))), .inl (0, (9, .inl (fun _ => 0))), .inl (0, (9, .inl (fun _ => 0))), .inl (0, (9, .inl (fun _ => 0))), .inr (3, [.ref 28, .ref 29, .int 0, .int 0, .int 0]), .inl (0, (6, .inl (fun _ => 0))), .inl (0, (9, .inl (fun _ => 0))), .inr (1, [.ref 31, .ref 32, .ref 33, .ref 34, .ref 35, .int 0, .int 0, .int 0, .int 0]), .inl (0, (6, .inl (fun _ => 0))), .inl (0, (9, .inl (fun _ => 0))), .inl (0, (9, .inl (fun _ => 0))), .inl (0, (9, .inl (fun _ => 0))), .inl (0, (9, .inl (fun _ => 0))), .inr (5, [.ref 37, .ref 38, .ref 39, .int 0, .int 0]), .inl (0, (6, .inl (fun _ => 0))), .inl (0, (9, .inl (fun _ => 0))), .inl (1, (81, .inr (.inl (fun _ => 0)))), .inl (0, (6, .inl (fun _ => 0))), .inl (2, (4, .inr (.inr (.inr (.inr (va_up (va_up (va_up (va_up (fun _ => none) 0 (some 42)) 1 (some 44)) 2 (some 46)) 3 (some 48))))))), .inr (2, [.ref 43, .int (-1), .int 0]), .inl (0, (40, .inl (fun _ => 0))), .inr (2, [.ref 45, .int (-1), .int 0]), .inl (0, (40, .inl (fun _ => 0))), .inr (2, [.ref 47, .int (-1), .int 0]), .inl (0, (40, .inl (fun _ => 0))), .inr (2, [.ref 49, .int (-1), .int 0]), .inl (0, (40, .inl (fun _ => 0))), .inr (7, [.ref 51, .null, .int 0, .null, .null, .int 0, .int 0, .null, .int 0, .int 0, .null, .int 0, .int 0, .int 0, .int 0, .null, .null, .int 0, .null, .null, .null]), .inl (0, (87, .inl (fun _ => 0))), .inl (0, (87, .inl (fun _ => 0)))]) rfl ?_
  refine AW.keq (k1 := 2) (n1 := 174) rfl rfl ?_
  refine aw_putF hn dX7_init_17 pnX7_13 (fun _ => ⟨rfl, rfl⟩) rfl ?_
  refine AW.heq (h1 := [.inr (6, [.ref 1, .ref 3, .ref 11, .ref 19, .ref 27, .ref 30, .ref 36, .ref 41, .ref 40, .int 0]), .inr (4, [.ref 2, .int 0, .int 0, .int 0, .int 0]), .inl (0, (40, .inl (fun _ => 0))), .inr (0, [.int 0, .int 0, .int 0, .ref 4, .ref 5, .ref 6, .ref 7, .ref 8, .ref 9, .ref 10]), .inl (0, (6, .inl (fun _ => 0))), .inl (0, (6, .inl (fun _ => 0))), .inl (0, (36, .inl (fun _ => 0))), .inl (0, (9, .inl (fun _ => 0))), .inl (0, (9, .inl (fun _ => 0))), .inl (0, (9, .inl (fun _ => 0))), .inl (0, (9, .inl (fun _ => 0))), .inr (0, [.int 0, .int 0, .int 0, .ref 12, .ref 13, .ref 14, .ref 15, .ref 16, .ref 17, .ref 18]), .inl (0, (6, .inl (fun _ => 0))), .inl (0, (6, .inl (fun _ => 0))), .inl (0, (36, .inl (fun _ => 0))), .inl (0, (9, .inl (fun _ => 0))), .inl (0, (9, .inl (fun _ => 0))), .inl (0, (9, .inl (fun _ => 0))), .inl (0, (9, .inl (fun _ => 0))), .inr (0, [.int 0, .int 0, .int 0, .ref 20, .ref 21, .ref 22, .ref 23, .ref 24, .ref 25, .ref 26]), .inl (0, (6, .inl (fun _ => 0))), .inl (0, (6, .inl (fun _ => 0))), .inl (0, (36, .inl (fun _ => 0))), .inl (0, (9, .inl (fun _ => 0))), .inl (0, (9, .inl (fun _ => 0))), .inl (0, (9, .inl (fun _ => 0))), .inl (0, (9, .inl (fun _ => 0))), .inr (3, [.ref 28, .ref 29, .int 0, .int 0, .int 0]), .inl (0, (6, .inl (fun _ => 0))), .inl (0, (9, .inl (fun _ => 0))), .inr (1, [.ref 31, .ref 32, .ref 33, .ref 34, .ref 35, .int 0, .int 0, .int 0, .int 0]), .inl (0, (6, .inl (fun _ => 0))), .inl (0, (9, .inl (fun _ => 0))), .inl (0, (9, .inl (fun _ => 0))), .inl (0, (9, .inl (fun _ => 0))), .inl (0, (9, .inl (fun _ => 0))), .inr (5, [.ref 37, .ref 38, .ref 39, .int 0, .int 0]), .inl (0, (6, .inl (fun _ => 0))), .inl (0, (9, .inl (fun _ => 0))), .inl (1, (81, .inr (.inl (fun _ => 0)))), .inl (0, (6, .inl (fun _ => 0))), .inl (2, (4, .inr (.inr (.inr (.inr (va_up (va_up (va_up (va_up (fun _ => none) 0 (some 42)) 1 (some 44)) 2 (some 46)) 3 (some 48))))))), .inr (2, [.ref 43, .int (-1), .int 0]), .inl (0, (40, .inl (fun _ => 0))), .inr (2, [.ref 45, .int (-1), .int 0]), .inl (0, (40, .inl (fun _ => 0))), .inr (2, [.ref 47, .int (-1), .int 0]), .inl (0, (40, .inl (fun _ => 0))), .inr (2, [.ref 49, .int (-1), .int 0]), .inl (0, (40, .inl (fun _ => 0))), .inr (7, [.ref 51, .ref 52, .int 0, .null, .null, .int 0, .int 0, .null, .int 0, .int 0, .null, .int 0, .int 0, .int 0, .int 0, .null, .null, .int 0, .null, .null, .null]), .inl (0, (87, .inl (fun _ => 0))), .inl (0, (87, .inl (fun _ => 0)))]) rfl ?_
  refine AW.keq (k1 := 2) (n1 := 174) rfl rfl ?_
  refine aw_aload_n 0 dX7_init_20 rfl rfl ?_
  refine aw_bipush (v := 9) dX7_init_21 (by decide) ?_
  refine aw_newa (kd := 0) (N := 9) (ty := .int) (a0 := (9, .inl (fun _ => 0))) dX7_init_23 wa_int rfl (Or.inl ⟨rfl, rfl⟩) (ha_int 9) (fun _ => rfl) (by decide) (by decide) (by decide) ⟨Nat.le_of_ble_eq_true rfl, Nat.le_of_ble_eq_true rfl⟩ (N0 := 53) (by decide +kernel) (by decide) (by decide +kernel) (by decide +kernel) (fun a3 A3 => ?_)
  refine AW.heq (h1 := [.inr (6, [.ref 1, .ref 3, .ref 11, .ref 19, .ref 27, .ref 30, .ref 36, .ref 41, .ref 40, .int 0]), .inr (4, [.ref 2, .int 0, .int 0, .int 0, .int 0]), .inl (0, (40, .inl (fun _ => 0))), .inr (0, [.int 0, .int 0, .int 0, .ref 4, .ref 5, .ref 6, .ref 7, .ref 8, .ref 9, .ref 10]), .inl (0, (6, .inl (fun _ => 0))), .inl (0, (6, .inl (fun _ => 0))), .inl (0, (36, .inl (fun _ => 0))), .inl (0, (9, .inl (fun _ => 0))), .inl (0, (9, .inl (fun _ => 0))), .inl (0, (9, .inl (fun _ => 0))), .inl (0, (9, .inl (fun _ => 0))), .inr (0, [.int 0, .int 0, .int 0, .ref 12, .ref 13, .ref 14, .ref 15, .ref 16, .ref 17, .ref 18]), .inl (0, (6, .inl (fun _ => 0))), .inl (0, (6, .inl (fun _ => 0))), .inl (0, (36, .inl (fun _ => 0))), .inl (0, (9, .inl (fun _ => 0))), .inl (0, (9, .inl (fun _ => 0))), .inl (0, (9, .inl (fun _ => 0))), .inl (0, (9, .inl (fun _ => 0))), .inr (0, [.int 0, .int 0, .int 0, .ref 20, .ref 21, .ref 22, .ref 23, .ref 24, .ref 25, .ref 26]), .inl (0, (6, .inl (fun _ => 0))), .inl (0, (6, .inl (fun _ => 0))), .inl (0, (36, .inl (fun _ => 0))), .inl (0, (9, .inl (fun _ => 0))), .inl (0, (9, .inl (fun _ => 0))), .inl (0, (9, .inl (fun _ => 0))), .inl (0, (9, .inl (fun _ => 0))), .inr (3, [.ref 28, .ref 29, .int 0, .int 0, .int 0]), .inl (0, (6, .inl (fun _ => 0))), .inl (0, (9, .inl (fun _ => 0))), .inr (1, [.ref 31, .ref 32, .ref 33, .ref 34, .ref 35, .int 0, .int 0, .int 0, .int 0]), .inl (0, (6, .inl (fun _ => 0))), .inl (0, (9, .inl (fun _ => 0))), .inl (0, (9, .inl (fun _ => 0))), .inl (0, (9, .inl (fun _ => 0))), .inl (0, (9, .inl (fun _ => 0))), .inr (5, [.ref 37, .ref 38, .ref 39, .int 0, .int 0]), .inl (0, (6, .inl (fun _ => 0))), .inl (0, (9, .inl (fun _ => 0))), .inl (1, (81, .inr (.inl (fun _ => 0)))), .inl (0, (6, .inl (fun _ => 0))), .inl (2, (4, .inr (.inr (.inr (.inr (va_up (va_up (va_up (va_up (fun _ => none) 0 (some 42)) 1 (some 44)) 2 (some 46)) 3 (some 48))))))), .inr (2, [.ref 43, .int (-1), .int 0]), .inl (0, (40, .inl (fun _ => 0))), .inr (2, [.ref 45, .int (-1), .int 0]), .inl (0, (40, .inl (fun _ => 0))), .inr (2, [.ref 47, .int (-1), .int 0]), .inl (0, (40, .inl (fun _ => 0))), .inr (2, [.ref 49, .int (-1), .int 0]), .inl (0, (40, .inl (fun _ => 0))), .inr (7, [.ref 51, .ref 52, .int 0, .null, .null, .int 0, .int 0, .null, .int 0, .int 0, .null, .int 0, .int 0, .int 0, .int 0, .null, .null, .int 0, .null, .null, .null]), .inl (0, (87, .inl (fun _ => 0))), .inl (0, (87, .inl (fun _ => 0))), .inl (0, (9, .inl (fun _ => 0)))]) rfl ?_
  refine AW.keq (k1 := 3) (n1 := 183) rfl rfl ?_
  refine aw_putF hn dX7_init_25 pnX7_16 (fun _ => ⟨rfl, rfl⟩) rfl ?_
  refine AW.heq (h1 := [.inr (6, [.ref 1, .ref 3, .ref 11, .ref 19, .ref 27, .ref 30, .ref 36, .ref 41, .ref 40, .int 0]), .inr (4, [.ref 2, .int 0, .int 0, .int 0, .int 0]), .inl (0, (40, .inl (fun _ => 0))), .inr (0, [.int 0, .int 0, .int 0, .ref 4, .ref 5, .ref 6, .ref 7, .ref 8, .ref 9, .ref 10]), .inl (0, (6, .inl (fun _ => 0))), .inl (0, (6, .inl (fun _ => 0))), .inl (0, (36, .inl (fun _ => 0))), .inl (0, (9, .inl (fun _ => 0))), .inl (0, (9, .inl (fun _ => 0))), .inl (0, (9, .inl (fun _ => 0))), .inl (0, (9, .inl (fun _ => 0))), .inr (0, [.int 0, .int 0, .int 0, .ref 12, .ref 13, .ref 14, .ref 15, .ref 16, .ref 17, .ref 18]), .inl (0, (6, .inl (fun _ => 0))), .inl (0, (6, .inl (fun _ => 0))), .inl (0, (36, .inl (fun _ => 0))), .inl (0, (9, .inl (fun _ => 0))), .inl (0, (9, .inl (fun _ => 0))), .inl (0, (9, .inl (fun _ => 0))), .inl (0, (9, .inl (fun _ => 0))), .inr (0, [.int 0, .int 0, .int 0, .ref 20, .ref 21, .ref 22, .ref 23, .ref 24, .ref 25, .ref 26]), .inl (0, (6, .inl (fun _ => 0))), .inl (0, (6, .inl (fun _ => 0))), .inl (0, (36, .inl (fun _ => 0))), .inl (0, (9, .inl (fun _ => 0))), .inl (0, (9, .inl (fun _ => 0))), .inl (0, (9, .inl (fun _ => 0))), .inl (0, (9, .inl (fun _ => 0))), .inr (3, [.ref 28, .ref 29, .int 0, .int 0, .int 0]), .inl (0, (6, .inl (fun _ => 0))), .inl (0, (9, .inl (fun _ => 0))), .inr (1, [.ref 31, .ref 32, .ref 33, .ref 34, .ref 35, .int 0, .int 0, .int 0, .int 0]), .inl (0, (6, .inl (fun _ => 0))), .inl (0, (9, .inl (fun _ => 0))), .inl (0, (9, .inl (fun _ => 0))), .inl (0, (9, .inl (fun _ => 0))), .inl (0, (9, .inl (fun _ => 0))), .inr (5, [.ref 37, .ref 38, .ref 39, .int 0, .int 0]), .inl (0, (6, .inl (fun _ => 0))), .inl (0, (9, .inl (fun _ => 0))), .inl (1, (81, .inr (.inl (fun _ => 0)))), .inl (0, (6, .inl (fun _ => 0))), .inl (2, (4, .inr (.inr (.inr (.inr (va_up (va_up (va_up (va_up (fun _ => none) 0 (some 42)) 1 (some 44)) 2 (some 46)) 3 (some 48))))))), .inr (2, [.ref 43, .int (-1), .int 0]), .inl (0, (40, .inl (fun _ => 0))), .inr (2, [.ref 45, .int (-1), .int 0]), .inl (0, (40, .inl (fun _ => 0))), .inr (2, [.ref 47, .int (-1), .int 0]), .inl (0, (40, .inl (fun _ => 0))), .inr (2, [.ref 49, .int (-1), .int 0]), .inl (0, (40, .inl (fun _ => 0))), .inr (7, [.ref 51, .ref 52, .int 0, .ref 53, .null, .int 0, .int 0, .null, .int 0, .int 0, .null, .int 0, .int 0, .int 0, .int 0, .null, .null, .int 0, .null, .null, .null]), .inl (0, (87, .inl (fun _ => 0))), .inl (0, (87, .inl (fun _ => 0))), .inl (0, (9, .inl (fun _ => 0)))]) rfl ?_
  refine AW.keq (k1 := 3) (n1 := 183) rfl rfl ?_
  refine aw_aload_n 0 dX7_init_28 rfl rfl ?_
  refine aw_bipush (v := 6) dX7_init_29 (by decide) ?_
  refine aw_newa (kd := 0) (N := 6) (ty := .int) (a0 := (6, .inl (fun _ => 0))) dX7_init_31 wa_int rfl (Or.inl ⟨rfl, rfl⟩) (ha_int 6) (fun _ => rfl) (by decide) (by decide) (by decide) ⟨Nat.le_of_ble_eq_true rfl, Nat.le_of_ble_eq_true rfl⟩ (N0 := 54) (by decide +kernel) (by decide) (by decide +kernel) (by decide +kernel) (fun a4 A4 => ?_)
  refine AW.heq (h1 := [.inr (6, [.ref 1, .ref 3, .ref 11, .ref 19, .ref 27, .ref 30, .ref 36, .ref 41, .ref 40, .int 0]), .inr (4, [.ref 2, .int 0, .int 0, .int 0, .int 0]), .inl (0, (40, .inl (fun _ => 0))), .inr (0, [.int 0, .int 0, .int 0, .ref 4, .ref 5, .ref 6, .ref 7, .ref 8, .ref 9, .ref 10]), .inl (0, (6, .inl (fun _ => 0))), .inl (0, (6, .inl (fun _ => 0))), .inl (0, (36, .inl (fun _ => 0))), .inl (0, (9, .inl (fun _ => 0))), .inl (0, (9, .inl (fun _ => 0))), .inl (0, (9, .inl (fun _ => 0))), .inl (0, (9, .inl (fun _ => 0))), .inr (0, [.int 0, .int 0, .int 0, .ref 12, .ref 13, .ref 14, .ref 15, .ref 16, .ref 17, .ref 18]), .inl (0, (6, .inl (fun _ => 0))), .inl (0, (6, .inl (fun _ => 0))), .inl (0, (36, .inl (fun _ => 0))), .inl (0, (9, .inl (fun _ => 0))), .inl (0, (9, .inl (fun _ => 0))), .inl (0, (9, .inl (fun _ => 0))), .inl (0, (9, .inl (fun _ => 0))), .inr (0, [.int 0, .int 0, .int 0, .ref 20, .ref 21, .ref 22, .ref 23, .ref 24, .ref 25, .ref 26]), .inl (0, (6, .inl (fun _ => 0))), .inl (0, (6, .inl (fun _ => 0))), .inl (0, (36, .inl (fun _ => 0))), .inl (0, (9, .inl (fun _ => 0))), .inl (0, (9, .inl (fun _ => 0))), .inl (0, (9, .inl (fun _ => 0))), .inl (0, (9, .inl (fun _ => 0))), .inr (3, [.ref 28, .ref 29, .int 0, .int 0, .int 0]), .inl (0, (6, .inl (fun _ => 0))), .inl (0, (9, .inl (fun _ => 0))), .inr (1, [.ref 31, .ref 32, .ref 33, .ref 34, .ref 35, .int 0, .int 0, .int 0, .int 0]), .inl (0, (6, .inl (fun _ => 0))), .inl (0, (9, .inl (fun _ => 0))), .inl (0, (9, .inl (fun _ => 0))), .inl (0, (9, .inl (fun _ => 0))), .inl (0, (9, .inl (fun _ => 0))), .inr (5, [.ref 37, .ref 38, .ref 39, .int 0, .int 0]), .inl (0, (6, .inl (fun _ => 0))), .inl (0, (9, .inl (fun _ => 0))), .inl (1, (81, .inr (.inl (fun _ => 0)))), .inl (0, (6, .inl (fun _ => 0))), .inl (2, (4, .inr (.inr (.inr (.inr (va_up (va_up (va_up (va_up (fun _ => none) 0 (some 42)) 1 (some 44)) 2 (some 46)) 3 (some 48))))))), .inr (2, [.ref 43, .int (-1), .int 0]), .inl (0, (40, .inl (fun _ => 0))), .inr (2, [.ref 45, .int (-1), .int 0]), .inl (0, (40, .inl (fun _ => 0))), .inr (2, [.ref 47, .int (-1), .int 0]), .inl (0, (40, .inl (fun _ => 0))), .inr (2, [.ref 49, .int (-1), .int 0]), .inl (0, (40, .inl (fun _ => 0))), .inr (7, [.ref 51, .ref 52, .int 0, .ref 53, .null, .int 0, .int 0, .null, .int 0, .int 0, .null, .int 0, .int 0, .int 0, .int 0, .null, .null, .int 0, .null, .null, .null]), .inl (0, (87, .inl (fun _ => 0))), .inl (0, (87, .inl (fun _ => 0))), .inl (0, (9, .inl (fun _ => 0))), .inl (0, (6, .inl (fun _ => 0)))]) rfl ?_
  refine AW.keq (k1 := 4) (n1 := 189) rfl rfl ?_
  refine aw_putF hn dX7_init_33 pnX7_19 (fun _ => ⟨rfl, rfl⟩) rfl ?_
  refine AW.heq (h1 := [.inr (6, [.ref 1, .ref 3, .ref 11, .ref 19, .ref 27, .ref 30, .ref 36, .ref 41, .ref 40, .int 0]), .inr (4, [.ref 2, .int 0, .int 0, .int 0, .int 0]), .inl (0, (40, .inl (fun _ => 0))), .inr (0, [.int 0, .int 0, .int 0, .ref 4, .ref 5, .ref 6, .ref 7, .ref 8, .ref 9, .ref 10]), .inl (0, (6, .inl (fun _ => 0))), .inl (0, (6, .inl (fun _ => 0))), .inl (0, (36, .inl (fun _ => 0))), .inl (0, (9, .inl (fun _ => 0))), .inl (0, (9, .inl (fun _ => 0))), .inl (0, (9, .inl (fun _ => 0))), .inl (0, (9, .inl (fun _ => 0))), .inr (0, [.int 0, .int 0, .int 0, .ref 12, .ref 13, .ref 14, .ref 15, .ref 16, .ref 17, .ref 18]), .inl (0, (6, .inl (fun _ => 0))), .inl (0, (6, .inl (fun _ => 0))), .inl (0, (36, .inl (fun _ => 0))), .inl (0, (9, .inl (fun _ => 0))), .inl (0, (9, .inl (fun _ => 0))), .inl (0, (9, .inl (fun _ => 0))), .inl (0, (9, .inl (fun _ => 0))), .inr (0, [.int 0, .int 0, .int 0, .ref 20, .ref 21, .ref 22, .ref 23, .ref 24, .ref 25, .ref 26]), .inl (0, (6, .inl (fun _ => 0))), .inl (0, (6, .inl (fun _ => 0))), .inl (0, (36, .inl (fun _ => 0))), .inl (0, (9, .inl (fun _ => 0))), .inl (0, (9, .inl (fun _ => 0))), .inl (0, (9, .inl (fun _ => 0))), .inl (0, (9, .inl (fun _ => 0))), .inr (3, [.ref 28, .ref 29, .int 0, .int 0, .int 0]), .inl (0, (6, .inl (fun _ => 0))), .inl (0, (9, .inl (fun _ => 0))), .inr (1, [.ref 31, .ref 32, .ref 33, .ref 34, .ref 35, .int 0, .int 0, .int 0, .int 0]), .inl (0, (6, .inl (fun _ => 0))), .inl (0, (9, .inl (fun _ => 0))), .inl (0, (9, .inl (fun _ => 0))), .inl (0, (9, .inl (fun _ => 0))), .inl (0, (9, .inl (fun _ => 0))), .inr (5, [.ref 37, .ref 38, .ref 39, .int 0, .int 0]), .inl (0, (6, .inl (fun _ => 0))), .inl (0, (9, .inl (fun _ => 0))), .inl (1, (81, .inr (.inl (fun _ => 0)))), .inl (0, (6, .inl (fun _ => 0))), .inl (2, (4, .inr (.inr (.inr (.inr (va_up (va_up (va_up (va_up (fun _ => none) 0 (some 42)) 1 (some 44)) 2 (some 46)) 3 (some 48))))))), .inr (2, [.ref 43, .int (-1), .int 0]), .inl (0, (40, .inl (fun _ => 0))), .inr (2, [.ref 45, .int (-1), .int 0]), .inl (0, (40, .inl (fun _ => 0))), .inr (2, [.ref 47, .int (-1), .int 0]), .inl (0, (40, .inl (fun _ => 0))), .inr (2, [.ref 49, .int (-1), .int 0]), .inl (0, (40, .inl (fun _ => 0))), .inr (7, [.ref 51, .ref 52, .int 0, .ref 53, .ref 54, .int 0, .int 0, .null, .int 0, .int 0, .null, .int 0, .int 0, .int 0, .int 0, .null, .null, .int 0, .null, .null, .null]), .inl (0, (87, .inl (fun _ => 0))), .inl (0, (87, .inl (fun _ => 0))), .inl (0, (9, .inl (fun _ => 0))), .inl (0, (6, .inl (fun _ => 0)))]) rfl ?_
  refine AW.keq (k1 := 4) (n1 := 189) rfl rfl ?_
  refine aw_aload_n 0 dX7_init_36 rfl rfl ?_
  refine aw_bipush (v := 9) dX7_init_37 (by decide) ?_
  refine aw_newa (kd := 0) (N := 9) (ty := .int) (a0 := (9, .inl (fun _ => 0))) dX7_init_39 wa_int rfl (Or.inl ⟨rfl, rfl⟩) (ha_int 9) (fun _ => rfl) (by decide) (by decide) (by decide) ⟨Nat.le_of_ble_eq_true rfl, Nat.le_of_ble_eq_true rfl⟩ (N0 := 55) (by decide +kernel) (by decide) (by decide +kernel) (by decide +kernel) (fun a5 A5 => ?_)
  refine AW.heq (h1 := [.inr (6, [.ref 1, .ref 3, .ref 11, .ref 19, .ref 27, .ref 30, .ref 36, .ref 41, .ref 40, .int 0]), .inr (4, [.ref 2, .int 0, .int 0, .int 0, .int 0]), .inl (0, (40, .inl (fun _ => 0))), .inr (0, [.int 0, .int 0, .int 0, .ref 4, .ref 5, .ref 6, .ref 7, .ref 8, .ref 9, .ref 10]), .inl (0, (6, .inl (fun _ => 0))), .inl (0, (6, .inl (fun _ => 0))), .inl (0, (36, .inl (fun _ => 0))), .inl (0, (9, .inl (fun _ => 0))), .inl (0, (9, .inl (fun _ => 0))), .inl (0, (9, .inl (fun _ => 0))), .inl (0, (9, .inl (fun _ => 0))), .inr (0, [.int 0, .int 0, .int 0, .ref 12, .ref 13, .ref 14, .ref 15, .ref 16, .ref 17, .ref 18]), .inl (0, (6, .inl (fun _ => 0))), .inl (0, (6, .inl (fun _ => 0))), .inl (0, (36, .inl (fun _ => 0))), .inl (0, (9, .inl (fun _ => 0))), .inl (0, (9, .inl (fun _ => 0))), .inl (0, (9, .inl (fun _ => 0))), .inl (0, (9, .inl (fun _ => 0))), .inr (0, [.int 0, .int 0, .int 0, .ref 20, .ref 21, .ref 22, .ref 23, .ref 24, .ref 25, .ref 26]), .inl (0, (6, .inl (fun _ => 0))), .inl (0, (6, .inl (fun _ => 0))), .inl (0, (36, .inl (fun _ => 0))), .inl (0, (9, .inl (fun _ => 0))), .inl (0, (9, .inl (fun _ => 0))), .inl (0, (9, .inl (fun _ => 0))), .inl (0, (9, .inl (fun _ => 0))), .inr (3, [.ref 28, .ref 29, .int 0, .int 0, .int 0]), .inl (0, (6, .inl (fun _ => 0))), .inl (0, (9, .inl (fun _ => 0))), .inr (1, [.ref 31, .ref 32, .ref 33, .ref 34, .ref 35, .int 0, .int 0, .int 0, .int 0]), .inl (0, (6, .inl (fun _ => 0))), .inl (0, (9, .inl (fun _ => 0))), .inl (0, (9, .inl (fun _ => 0))), .inl (0, (9, .inl (fun _ => 0))), .inl (0, (9, .inl (fun _ => 0))), .inr (5, [.ref 37, .ref 38, .ref 39, .int 0, .int 0]), .inl (0, (6, .inl (fun _ => 0))), .inl (0, (9, .inl (fun _ => 0))), .inl (1, (81, .inr (.inl (fun _ => 0)))), .inl (0, (6, .inl (fun _ => 0))), .inl (2, (4, .inr (.inr (.inr (.inr (va_up (va_up (va_up (va_up (fun _ => none) 0 (some 42)) 1 (some 44)) 2 (some 46)) 3 (some 48))))))), .inr (2, [.ref 43, .int (-1), .int 0]), .inl (0, (40, .inl (fun _ => 0))), .inr (2, [.ref 45, .int (-1), .int 0]), .inl (0, (40, .inl (fun _ => 0))), .inr (2, [.ref 47, .int (-1), .int 0]), .inl (0, (40, .inl (fun _ => 0))), .inr (2, [.ref 49, .int (-1), .int 0]), .inl (0, (40, .inl (fun _ => 0))), .inr (7, [.ref 51, .ref 52, .int 0, .ref 53, .ref 54, .int 0, .int 0, .null, .int 0, .int 0, .null, .int 0, .int 0, .int 0, .int 0, .null, .null, .int 0, .null, .null, .null]), .inl (0, (87, .inl (fun _ => 0))), .inl (0, (87, .inl (fun _ => 0))), .inl (0, (9, .inl (fun _ => 0))), .inl (0, (6, .inl (fun _ => 0))), .inl (0, (9, .inl (fun _ => 0)))]) rfl ?_
  refine AW.keq (k1 := 5) (n1 := 198) rfl rfl ?_
  refine aw_putF hn dX7_init_41 pnX7_22 (fun _ => ⟨rfl, rfl⟩) rfl ?_
  refine AW.heq (h1 := [.inr (6, [.ref 1, .ref 3, .ref 11, .ref 19, .ref 27, .ref 30, .ref 36, .ref 41, .ref 40, .int 0]), .inr (4, [.ref 2, .int 0, .int 0, .int 0, .int 0]), .inl (0, (40, .inl (fun _ => 0))), .inr (0, [.int 0, .int 0, .int 0, .ref 4, .ref 5, .ref 6, .ref 7, .ref 8, .ref 9, .ref 10]), .inl (0, (6, .inl (fun _ => 0))), .inl (0, (6, .inl (fun _ => 0))), .inl (0, (36, .inl (fun _ => 0))), .inl (0, (9, .inl (fun _ => 0))), .inl (0, (9, .inl (fun _ => 0))), .inl (0, (9, .inl (fun _ => 0))), .inl (0, (9, .inl (fun _ => 0))), .inr (0, [.int 0, .int 0, .int 0, .ref 12, .ref 13, .ref 14, .ref 15, .ref 16, .ref 17, .ref 18]), .inl (0, (6, .inl (fun _ => 0))), .inl (0, (6, .inl (fun _ => 0))), .inl (0, (36, .inl (fun _ => 0))), .inl (0, (9, .inl (fun _ => 0))), .inl (0, (9, .inl (fun _ => 0))), .inl (0, (9, .inl (fun _ => 0))), .inl (0, (9, .inl (fun _ => 0))), .inr (0, [.int 0, .int 0, .int 0, .ref 20, .ref 21, .ref 22, .ref 23, .ref 24, .ref 25, .ref 26]), .inl (0, (6, .inl (fun _ => 0))), .inl (0, (6, .inl (fun _ => 0))), .inl (0, (36, .inl (fun _ => 0))), .inl (0, (9, .inl (fun _ => 0))), .inl (0, (9, .inl (fun _ => 0))), .inl (0, (9, .inl (fun _ => 0))), .inl (0, (9, .inl (fun _ => 0))), .inr (3, [.ref 28, .ref 29, .int 0, .int 0, .int 0]), .inl (0, (6, .inl (fun _ => 0))), .inl (0, (9, .inl (fun _ => 0))), .inr (1, [.ref 31, .ref 32, .ref 33, .ref 34, .ref 35, .int 0, .int 0, .int 0, .int 0]), .inl (0, (6, .inl (fun _ => 0))), .inl (0, (9, .inl (fun _ => 0))), .inl (0, (9, .inl (fun _ => 0))), .inl (0, (9, .inl (fun _ => 0))), .inl (0, (9, .inl (fun _ => 0))), .inr (5, [.ref 37, .ref 38, .ref 39, .int 0, .int 0]), .inl (0, (6, .inl (fun _ => 0))), .inl (0, (9, .inl (fun _ => 0))), .inl (1, (81, .inr (.inl (fun _ => 0)))), .inl (0, (6, .inl (fun _ => 0))), .inl (2, (4, .inr (.inr (.inr (.inr (va_up (va_up (va_up (va_up (fun _ => none) 0 (some 42)) 1 (some 44)) 2 (some 46)) 3 (some 48))))))), .inr (2, [.ref 43, .int (-1), .int 0]), .inl (0, (40, .inl (fun _ => 0))), .inr (2, [.ref 45, .int (-1), .int 0]), .inl (0, (40, .inl (fun _ => 0))), .inr (2, [.ref 47, .int (-1), .int 0]), .inl (0, (40, .inl (fun _ => 0))), .inr (2, [.ref 49, .int (-1), .int 0]), .inl (0, (40, .inl (fun _ => 0))), .inr (7, [.ref 51, .ref 52, .int 0, .ref 53, .ref 54, .int 0, .int 0, .ref 55, .int 0, .int 0, .null, .int 0, .int 0, .int 0, .int 0, .null, .null, .int 0, .null, .null, .null]), .inl (0, (87, .inl (fun _ => 0))), .inl (0, (87, .inl (fun _ => 0))), .inl (0, (9, .inl (fun _ => 0))), .inl (0, (6, .inl (fun _ => 0))), .inl (0, (9, .inl (fun _ => 0)))]) rfl ?_
  refine AW.keq (k1 := 5) (n1 := 198) rfl rfl ?_
  refine aw_aload_n 0 dX7_init_44 rfl rfl ?_
  refine aw_bipush (v := 40) dX7_init_45 (by decide) ?_
  refine aw_newa (kd := 0) (N := 40) (ty := .int) (a0 := (40, .inl (fun _ => 0))) dX7_init_47 wa_int rfl (Or.inl ⟨rfl, rfl⟩) (ha_int 40) (fun _ => rfl) (by decide) (by decide) (by decide) ⟨Nat.le_of_ble_eq_true rfl, Nat.le_of_ble_eq_true rfl⟩ (N0 := 56) (by decide +kernel) (by decide) (by decide +kernel) (by decide +kernel) (fun a6 A6 => ?_)
  refine AW.heq (h1 := [.inr (6, [.ref 1, .ref 3, .ref 11, .ref 19, .ref 27, .ref 30, .ref 36, .ref 41, .ref 40, .int 0]), .inr (4, [.ref 2, .int 0, .int 0, .int 0, .int 0]), .inl (0, (40, .inl (fun _ => 0))), .inr (0, [.int 0, .int 0, .int 0, .ref 4, .ref 5, .ref 6, .ref 7, .ref 8, .ref 9, .ref 10]), .inl (0, (6, .inl (fun _ => 0))), .inl (0, (6, .inl (fun _ => 0))), .inl (0, (36, .inl (fun _ => 0))), .inl (0, (9, .inl (fun _ => 0))), .inl (0, (9, .inl (fun _ => 0))), .inl (0, (9, .inl (fun _ => 0))), .inl (0, (9, .inl (fun _ => 0))), .inr (0, [.int 0, .int 0, .int 0, .ref 12, .ref 13, .ref 14, .ref 15, .ref 16, .ref 17, .ref 18]), .inl (0, (6, .inl (fun _ => 0))), .inl (0, (6, .inl (fun _ => 0))), .inl (0, (36, .inl (fun _ => 0))), .inl (0, (9, .inl (fun _ => 0))), .inl (0, (9, .inl (fun _ => 0))), .inl (0, (9, .inl (fun _ => 0))), .inl (0, (9, .inl (fun _ => 0))), .inr (0, [.int 0, .int 0, .int 0, .ref 20, .ref 21, .ref 22, .ref 23, .ref 24, .ref 25, .ref 26]), .inl (0, (6, .inl (fun _ => 0))), .inl (0, (6, .inl (fun _ => 0))), .inl (0, (36, .inl (fun _ => 0))), .inl (0, (9, .inl (fun _ => 0))), .inl (0, (9, .inl (fun _ => 0))), .inl (0, (9, .inl (fun _ => 0))), .inl (0, (9, .inl (fun _ => 0))), .inr (3, [.ref 28, .ref 29, .int 0, .int 0, .int 0]), .inl (0, (6, .inl (fun _ => 0))), .inl (0, (9, .inl (fun _ => 0))), .inr (1, [.ref 31, .ref 32, .ref 33, .ref 34, .ref 35, .int 0, .int 0, .int 0, .int 0]), .inl (0, (6, .inl (fun _ => 0))), .inl (0, (9, .inl (fun _ => 0))), .inl (0, (9, .inl (fun _ => 0))), .inl (0, (9, .inl (fun _ => 0))), .inl (0, (9, .inl (fun _ => 0))), .inr (5, [.ref 37, .ref 38, .ref 39, .int 0, .int 0]), .inl (0, (6, .inl (fun _ => 0))), .inl (0, (9, .inl (fun _ => 0))), .inl (1, (81, .inr (.inl (fun _ => 0)))), .inl (0, (6, .inl (fun _ => 0))), .inl (2, (4, .inr (.inr (.inr (.inr (va_up (va_up (va_up (va_up (fun _ => none) 0 (some 42)) 1 (some 44)) 2 (some 46)) 3 (some 48))))))), .inr (2, [.ref 43, .int (-1), .int 0]), .inl (0, (40, .inl (fun _ => 0))), .inr (2, [.ref 45, .int (-1), .int 0]), .inl (0, (40, .inl (fun _ => 0))), .inr (2, [.ref 47, .int (-1), .int 0]), .inl (0, (40, .inl (fun _ => 0))), .inr (2, [.ref 49, .int (-1), .int 0]), .inl (0, (40, .inl (fun _ => 0))), .inr (7, [.ref 51, .ref 52, .int 0, .ref 53, .ref 54, .int 0, .int 0, .ref 55, .int 0, .int 0, .null, .int 0, .int 0, .int 0, .int 0, .null, .null, .int 0, .null, .null, .null]), .inl (0, (87, .inl (fun _ => 0))), .inl (0, (87, .inl (fun _ => 0))), .inl (0, (9, .inl (fun _ => 0))), .inl (0, (6, .inl (fun _ => 0))), .inl (0, (9, .inl (fun _ => 0))), .inl (0, (40, .inl (fun _ => 0)))]) rfl ?_
  refine AW.keq (k1 := 6) (n1 := 238) rfl rfl ?_
  refine aw_putF hn dX7_init_49 pnX7_25 (fun _ => ⟨rfl, rfl⟩) rfl ?_
  refine AW.heq (h1 := [.inr (6, [.ref 1, .ref 3, .ref 11, .ref 19, .ref 27, .ref 30, .ref 36, .ref 41, .ref 40, .int 0]), .inr (4, [.ref 2, .int 0, .int 0, .int 0, .int 0]), .inl (0, (40, .inl (fun _ => 0))), .inr (0, [.int 0, .int 0, .int 0, .ref 4, .ref 5, .ref 6, .ref 7, .ref 8, .ref 9, .ref 10]), .inl (0, (6, .inl (fun _ => 0))), .inl (0, (6, .inl (fun _ => 0))), .inl (0, (36, .inl (fun _ => 0))), .inl (0, (9, .inl (fun _ => 0))), .inl (0, (9, .inl (fun _ => 0))), .inl (0, (9, .inl (fun _ => 0))), .inl (0, (9, .inl (fun _ => 0))), .inr (0, [.int 0, .int 0, .int 0, .ref 12, .ref 13, .ref 14, .ref 15, .ref 16, .ref 17, .ref 18]), .inl (0, (6, .inl (fun _ => 0))), .inl (0, (6, .inl (fun _ => 0))), .inl (0, (36, .inl (fun _ => 0))), .inl (0, (9, .inl (fun _ => 0))), .inl (0, (9, .inl (fun _ => 0))), .inl (0, (9, .inl (fun _ => 0))), .inl (0, (9, .inl (fun _ => 0))), .inr (0, [.int 0, .int 0, .int 0, .ref 20, .ref 21, .ref 22, .ref 23, .ref 24, .ref 25, .ref 26]), .inl (0, (6, .inl (fun _ => 0))), .inl (0, (6, .inl (fun _ => 0))), .inl (0, (36, .inl (fun _ => 0))), .inl (0, (9, .inl (fun _ => 0))), .inl (0, (9, .inl (fun _ => 0))), .inl (0, (9, .inl (fun _ => 0))), .inl (0, (9, .inl (fun _ => 0))), .inr (3, [.ref 28, .ref 29, .int 0, .int 0, .int 0]), .inl (0, (6, .inl (fun _ => 0))), .inl (0, (9, .inl (fun _ => 0))), .inr (1, [.ref 31, .ref 32, .ref 33, .ref 34, .ref 35, .int 0, .int 0, .int 0, .int 0]), .inl (0, (6, .inl (fun _ => 0))), .inl (0, (9, .inl (fun _ => 0))), .inl (0, (9, .inl (fun _ => 0))), .inl (0, (9, .inl (fun _ => 0))), .inl (0, (9, .inl (fun _ => 0))), .inr (5, [.ref 37, .ref 38, .ref 39, .int 0, .int 0]), .inl (0, (6, .inl (fun _ => 0))), .inl (0, (9, .inl (fun _ => 0))), .inl (1, (81, .inr (.inl (fun _ => 0)))), .inl (0, (6, .inl (fun _ => 0))), .inl (2, (4, .inr (.inr (.inr (.inr (va_up (va_up (va_up (va_up (fun _ => none) 0 (some 42)) 1 (some 44)) 2 (some 46)) 3 (some 48))))))), .inr (2, [.ref 43, .int (-1), .int 0]), .inl (0, (40, .inl (fun _ => 0))), .inr (2, [.ref 45, .int (-1), .int 0]), .inl (0, (40, .inl (fun _ => 0))), .inr (2, [.ref 47, .int (-1), .int 0]), .inl (0, (40, .inl (fun _ => 0))), .inr (2, [.ref 49, .int (-1), .int 0]), .inl (0, (40, .inl (fun _ => 0))), .inr (7, [.ref 51, .ref 52, .int 0, .ref 53, .ref 54, .int 0, .int 0, .ref 55, .int 0, .int 0, .ref 56, .int 0, .int 0, .int 0, .int 0, .null, .null, .int 0, .null, .null, .null]), .inl (0, (87, .inl (fun _ => 0))), .inl (0, (87, .inl (fun _ => 0))), .inl (0, (9, .inl (fun _ => 0))), .inl (0, (6, .inl (fun _ => 0))), .inl (0, (9, .inl (fun _ => 0))), .inl (0, (40, .inl (fun _ => 0)))]) rfl ?_
  refine AW.keq (k1 := 6) (n1 := 238) rfl rfl ?_
  refine aw_aload_n 0 dX7_init_52 rfl rfl ?_
  refine aw_bipush (v := 25) dX7_init_53 (by decide) ?_
  refine aw_newa (kd := 0) (N := 25) (ty := .int) (a0 := (25, .inl (fun _ => 0))) dX7_init_55 wa_int rfl (Or.inl ⟨rfl, rfl⟩) (ha_int 25) (fun _ => rfl) (by decide) (by decide) (by decide) ⟨Nat.le_of_ble_eq_true rfl, Nat.le_of_ble_eq_true rfl⟩ (N0 := 57) (by decide +kernel) (by decide) (by decide +kernel) (by decide +kernel) (fun a7 A7 => ?_)
  refine AW.heq (h1 := [.inr (6, [.ref 1, .ref 3, .ref 11, .ref 19, .ref 27, .ref 30, .ref 36, .ref 41, .ref 40, .int 0]), .inr (4, [.ref 2, .int 0, .int 0, .int 0, .int 0]), .inl (0, (40, .inl (fun _ => 0))), .inr (0, [.int 0, .int 0, .int 0, .ref 4, .ref 5, .ref 6, .ref 7, .ref 8, .ref 9, .ref 10]), .inl (0, (6, .inl (fun _ => 0))), .inl (0, (6, .inl (fun _ => 0))), .inl (0, (36, .inl (fun _ => 0))), .inl (0, (9, .inl (fun _ => 0))), .inl (0, (9, .inl (fun _ => 0))), .inl (0, (9, .inl (fun _ => 0))), .inl (0, (9, .inl (fun _ => 0))), .inr (0, [.int 0, .int 0, .int 0, .ref 12, .ref 13, .ref 14, .ref 15, .ref 16, .ref 17, .ref 18]), .inl (0, (6, .inl (fun _ => 0))), .inl (0, (6, .inl (fun _ => 0))), .inl (0, (36, .inl (fun _ => 0))), .inl (0, (9, .inl (fun _ => 0))), .inl (0, (9, .inl (fun _ => 0))), .inl (0, (9, .inl (fun _ => 0))), .inl (0, (9, .inl (fun _ => 0))), .inr (0, [.int 0, .int 0, .int 0, .ref 20, .ref 21, .ref 22, .ref 23, .ref 24, .ref 25, .ref 26]), .inl (0, (6, .inl (fun _ => 0))), .inl (0, (6, .inl (fun _ => 0))), .inl (0, (36, .inl (fun _ => 0))), .inl (0, (9, .inl (fun _ => 0))), .inl (0, (9, .inl (fun _ => 0))), .inl (0, (9, .inl (fun _ => 0))), .inl (0, (9, .inl (fun _ => 0))), .inr (3, [.ref 28, .ref 29, .int 0, .int 0, .int 0]), .inl (0, (6, .inl (fun _ => 0))), .inl (0, (9, .inl (fun _ => 0))), .inr (1, [.ref 31, .ref 32, .ref 33, .ref 34, .ref 35, .int 0, .int 0, .int 0, .int 0]), .inl (0, (6, .inl (fun _ => 0))), .inl (0, (9, .inl (fun _ => 0))), .inl (0, (9, .inl (fun _ => 0))), .inl (0, (9, .inl (fun _ => 0))), .inl (0, (9, .inl (fun _ => 0))), .inr (5, [.ref 37, .ref 38, .ref 39, .int 0, .int 0]), .inl (0, (6, .inl (fun _ => 0))), .inl (0, (9, .inl (fun _ => 0))), .inl (1, (81, .inr (.inl (fun _ => 0)))), .inl (0, (6, .inl (fun _ => 0))), .inl (2, (4, .inr (.inr (.inr (.inr (va_up (va_up (va_up (va_up (fun _ => none) 0 (some 42)) 1 (some 44)) 2 (some 46)) 3 (some 48))))))), .inr (2, [.ref 43, .int (-1), .int 0]), .inl (0, (40, .inl (fun _ => 0))), .inr (2, [.ref 45, .int (-1), .int 0]), .inl (0, (40, .inl (fun _ => 0))), .inr (2, [.ref 47, .int (-1), .int 0]), .inl (0, (40, .inl (fun _ => 0))), .inr (2, [.ref 49, .int (-1), .int 0]), .inl (0, (40, .inl (fun _ => 0))), .inr (7, [.ref 51, .ref 52, .int 0, .ref 53, .ref 54, .int 0, .int 0, .ref 55, .int 0, .int 0, .ref 56, .int 0, .int 0, .int 0, .int 0, .null, .null, .int 0, .null, .null, .null]), .inl (0, (87, .inl (fun _ => 0))), .inl (0, (87, .inl (fun _ => 0))), .inl (0, (9, .inl (fun _ => 0))), .inl (0, (6, .inl (fun _ => 0))), .inl (0, (9, .inl (fun _ => 0))), .inl (0, (40, .inl (fun _ => 0))), .inl (0, (25, .inl (fun _ => 0)))]) rfl ?_
  refine AW.keq (k1 := 7) (n1 := 263) rfl rfl ?_
  refine aw_dup dX7_init_57 rfl ?_
  refine aw_iconst (v := 0) dX7_init_58 (by decide) ?_
  refine aw_bipush (v := 116) dX7_init_59 (by decide) ?_
  refine aw_iast dX7_init_61 rfl ?_
  refine AW.heq (h1 := [.inr (6, [.ref 1, .ref 3, .ref 11, .ref 19, .ref 27, .ref 30, .ref 36, .ref 41, .ref 40, .int 0]), .inr (4, [.ref 2, .int 0, .int 0, .int 0, .int 0]), .inl (0, (40, .inl (fun _ => 0))), .inr (0, [.int 0, .int 0, .int 0, .ref 4, .ref 5, .ref 6, .ref 7, .ref 8, .ref 9, .ref 10]), .inl (0, (6, .inl (fun _ => 0))), .inl (0, (6, .inl (fun _ => 0))), .inl (0, (36, .inl (fun _ => 0))), .inl (0, (9, .inl (fun _ => 0))), .inl (0, (9, .inl (fun _ => 0))), .inl (0, (9, .inl (fun _ => 0))), .inl (0, (9, .inl (fun _ => 0))), .inr (0, [.int 0, .int 0, .int 0, .ref 12, .ref 13, .ref 14, .ref 15, .ref 16, .ref 17, .ref 18]), .inl (0, (6, .inl (fun _ => 0))), .inl (0, (6, .inl (fun _ => 0))), .inl (0, (36, .inl (fun _ => 0))), .inl (0, (9, .inl (fun _ => 0))), .inl (0, (9, .inl (fun _ => 0))), .inl (0, (9, .inl (fun _ => 0))), .inl (0, (9, .inl (fun _ => 0))), .inr (0, [.int 0, .int 0, .int 0, .ref 20, .ref 21, .ref 22, .ref 23, .ref 24, .ref 25, .ref 26]), .inl (0, (6, .inl (fun _ => 0))), .inl (0, (6, .inl (fun _ => 0))), .inl (0, (36, .inl (fun _ => 0))), .inl (0, (9, .inl (fun _ => 0))), .inl (0, (9, .inl (fun _ => 0))), .inl (0, (9, .inl (fun _ => 0))), .inl (0, (9, .inl (fun _ => 0))), .inr (3, [.ref 28, .ref 29, .int 0, .int 0, .int 0]), .inl (0, (6, .inl (fun _ => 0))), .inl (0, (9, .inl (fun _ => 0))), .inr (1, [.ref 31, .ref 32, .ref 33, .ref 34, .ref 35, .int 0, .int 0, .int 0, .int 0]), .inl (0, (6, .inl (fun _ => 0))), .inl (0, (9, .inl (fun _ => 0))), .inl (0, (9, .inl (fun _ => 0))), .inl (0, (9, .inl (fun _ => 0))), .inl (0, (9, .inl (fun _ => 0))), .inr (5, [.ref 37, .ref 38, .ref 39, .int 0, .int 0]), .inl (0, (6, .inl (fun _ => 0))), .inl (0, (9, .inl (fun _ => 0))), .inl (1, (81, .inr (.inl (fun _ => 0)))), .inl (0, (6, .inl (fun _ => 0))), .inl (2, (4, .inr (.inr (.inr (.inr (va_up (va_up (va_up (va_up (fun _ => none) 0 (some 42)) 1 (some 44)) 2 (some 46)) 3 (some 48))))))), .inr (2, [.ref 43, .int (-1), .int 0]), .inl (0, (40, .inl (fun _ => 0))), .inr (2, [.ref 45, .int (-1), .int 0]), .inl (0, (40, .inl (fun _ => 0))), .inr (2, [.ref 47, .int (-1), .int 0]), .inl (0, (40, .inl (fun _ => 0))), .inr (2, [.ref 49, .int (-1), .int 0]), .inl (0, (40, .inl (fun _ => 0))), .inr (7, [.ref 51, .ref 52, .int 0, .ref 53, .ref 54, .int 0, .int 0, .ref 55, .int 0, .int 0, .ref 56, .int 0, .int 0, .int 0, .int 0, .null, .null, .int 0, .null, .null, .null]), .inl (0, (87, .inl (fun _ => 0))), .inl (0, (87, .inl (fun _ => 0))), .inl (0, (9, .inl (fun _ => 0))), .inl (0, (6, .inl (fun _ => 0))), .inl (0, (9, .inl (fun _ => 0))), .inl (0, (40, .inl (fun _ => 0))), .inl (0, (25, .inl (upd (fun _ => 0) 0 (116))))]) rfl ?_
  refine AW.keq (k1 := 7) (n1 := 263) rfl rfl ?_
  refine aw_dup dX7_init_62 rfl ?_
  refine aw_iconst (v := 1) dX7_init_63 (by decide) ?_
  refine aw_bipush (v := 101) dX7_init_64 (by decide) ?_
  refine aw_iast dX7_init_66 rfl ?_
  refine AW.heq (h1 := [.inr (6, [.ref 1, .ref 3, .ref 11, .ref 19, .ref 27, .ref 30, .ref 36, .ref 41, .ref 40, .int 0]), .inr (4, [.ref 2, .int 0, .int 0, .int 0, .int 0]), .inl (0, (40, .inl (fun _ => 0))), .inr (0, [.int 0, .int 0, .int 0, .ref 4, .ref 5, .ref 6, .ref 7, .ref 8, .ref 9, .ref 10]), .inl (0, (6, .inl (fun _ => 0))), .inl (0, (6, .inl (fun _ => 0))), .inl (0, (36, .inl (fun _ => 0))), .inl (0, (9, .inl (fun _ => 0))), .inl (0, (9, .inl (fun _ => 0))), .inl (0, (9, .inl (fun _ => 0))), .inl (0, (9, .inl (fun _ => 0))), .inr (0, [.int 0, .int 0, .int 0, .ref 12, .ref 13, .ref 14, .ref 15, .ref 16, .ref 17, .ref 18]), .inl (0, (6, .inl (fun _ => 0))), .inl (0, (6, .inl (fun _ => 0))), .inl (0, (36, .inl (fun _ => 0))), .inl (0, (9, .inl (fun _ => 0))), .inl (0, (9, .inl (fun _ => 0))), .inl (0, (9, .inl (fun _ => 0))), .inl (0, (9, .inl (fun _ => 0))), .inr (0, [.int 0, .int 0, .int 0, .ref 20, .ref 21, .ref 22, .ref 23, .ref 24, .ref 25, .ref 26]), .inl (0, (6, .inl (fun _ => 0))), .inl (0, (6, .inl (fun _ => 0))), .inl (0, (36, .inl (fun _ => 0))), .inl (0, (9, .inl (fun _ => 0))), .inl (0, (9, .inl (fun _ => 0))), .inl (0, (9, .inl (fun _ => 0))), .inl (0, (9, .inl (fun _ => 0))), .inr (3, [.ref 28, .ref 29, .int 0, .int 0, .int 0]), .inl (0, (6, .inl (fun _ => 0))), .inl (0, (9, .inl (fun _ => 0))), .inr (1, [.ref 31, .ref 32, .ref 33, .ref 34, .ref 35, .int 0, .int 0, .int 0, .int 0]), .inl (0, (6, .inl (fun _ => 0))), .inl (0, (9, .inl (fun _ => 0))), .inl (0, (9, .inl (fun _ => 0))), .inl (0, (9, .inl (fun _ => 0))), .inl (0, (9, .inl (fun _ => 0))), .inr (5, [.ref 37, .ref 38, .ref 39, .int 0, .int 0]), .inl (0, (6, .inl (fun _ => 0))), .inl (0, (9, .inl (fun _ => 0))), .inl (1, (81, .inr (.inl (fun _ => 0)))), .inl (0, (6, .inl (fun _ => 0))), .inl (2, (4, .inr (.inr (.inr (.inr (va_up (va_up (va_up (va_up (fun _ => none) 0 (some 42)) 1 (some 44)) 2 (some 46)) 3 (some 48))))))), .inr (2, [.ref 43, .int (-1), .int 0]), .inl (0, (40, .inl (fun _ => 0))), .inr (2, [.ref 45, .int (-1), .int 0]), .inl (0, (40, .inl (fun _ => 0))), .inr (2, [.ref 47, .int (-1), .int 0]), .inl (0, (40, .inl (fun _ => 0))), .inr (2, [.ref 49, .int (-1), .int 0]), .inl (0, (40, .inl (fun _ => 0))), .inr (7, [.ref 51, .ref 52, .int 0, .ref 53, .ref 54, .int 0, .int 0, .ref 55, .int 0, .int 0, .ref 56, .int 0, .int 0, .int 0, .int 0, .null, .null, .int 0, .null, .null, .null]), .inl (0, (87, .inl (fun _ => 0))), .inl (0, (87, .inl (fun _ => 0))), .inl (0, (9, .inl (fun _ => 0))), .inl (0, (6, .inl (fun _ => 0))), .inl (0, (9, .inl (fun _ => 0))), .inl (0, (40, .inl (fun _ => 0))), .inl (0, (25, .inl (upd (upd (fun _ => 0) 0 (116)) 1 (101))))]) rfl ?_
  refine AW.keq (k1 := 7) (n1 := 263) rfl rfl ?_
  refine aw_dup dX7_init_67 rfl ?_
  refine aw_iconst (v := 2) dX7_init_68 (by decide) ?_
  refine aw_bipush (v := 97) dX7_init_69 (by decide) ?_
  refine aw_iast dX7_init_71 rfl ?_
  refine AW.heq (h1 := [.inr (6, [.ref 1, .ref 3, .ref 11, .ref 19, .ref 27, .ref 30, .ref 36, .ref 41, .ref 40, .int 0]), .inr (4, [.ref 2, .int 0, .int 0, .int 0, .int 0]), .inl (0, (40, .inl (fun _ => 0))), .inr (0, [.int 0, .int 0, .int 0, .ref 4, .ref 5, .ref 6, .ref 7, .ref 8, .ref 9, .ref 10]), .inl (0, (6, .inl (fun _ => 0))), .inl (0, (6, .inl (fun _ => 0))), .inl (0, (36, .inl (fun _ => 0))), .inl (0, (9, .inl (fun _ => 0))), .inl (0, (9, .inl (fun _ => 0))), .inl (0, (9, .inl (fun _ => 0))), .inl (0, (9, .inl (fun _ => 0))), .inr (0, [.int 0, .int 0, .int 0, .ref 12, .ref 13, .ref 14, .ref 15, .ref 16, .ref 17, .ref 18]), .inl (0, (6, .inl (fun _ => 0))), .inl (0, (6, .inl (fun _ => 0))), .inl (0, (36, .inl (fun _ => 0))), .inl (0, (9, .inl (fun _ => 0))), .inl (0, (9, .inl (fun _ => 0))), .inl (0, (9, .inl (fun _ => 0))), .inl (0, (9, .inl (fun _ => 0))), .inr (0, [.int 0, .int 0, .int 0, .ref 20, .ref 21, .ref 22, .ref 23, .ref 24, .ref 25, .ref 26]), .inl (0, (6, .inl (fun _ => 0))), .inl (0, (6, .inl (fun _ => 0))), .inl (0, (36, .inl (fun _ => 0))), .inl (0, (9, .inl (fun _ => 0))), .inl (0, (9, .inl (fun _ => 0))), .inl (0, (9, .inl (fun _ => 0))), .inl (0, (9, .inl (fun _ => 0))), .inr (3, [.ref 28, .ref 29, .int 0, .int 0, .int 0]), .inl (0, (6, .inl (fun _ => 0))), .inl (0, (9, .inl (fun _ => 0))), .inr (1, [.ref 31, .ref 32, .ref 33, .ref 34, .ref 35, .int 0, .int 0, .int 0, .int 0]), .inl (0, (6, .inl (fun _ => 0))), .inl (0, (9, .inl (fun _ => 0))), .inl (0, (9, .inl (fun _ => 0))), .inl (0, (9, .inl (fun _ => 0))), .inl (0, (9, .inl (fun _ => 0))), .inr (5, [.ref 37, .ref 38, .ref 39, .int 0, .int 0]), .inl (0, (6, .inl (fun _ => 0))), .inl (0, (9, .inl (fun _ => 0))), .inl (1, (81, .inr (.inl (fun _ => 0)))), .inl (0, (6, .inl (fun _ => 0))), .inl (2, (4, .inr (.inr (.inr (.inr (va_up (va_up (va_up (va_up (fun _ => none) 0 (some 42)) 1 (some 44)) 2 (some 46)) 3 (some 48))))))), .inr (2, [.ref 43, .int (-1), .int 0]), .inl (0, (40, .inl (fun _ => 0))), .inr (2, [.ref 45, .int (-1), .int 0]), .inl (0, (40, .inl (fun _ => 0))), .inr (2, [.ref 47, .int (-1), .int 0]), .inl (0, (40, .inl (fun _ => 0))), .inr (2, [.ref 49, .int (-1), .int 0]), .inl (0, (40, .inl (fun _ => 0))), .inr (7, [.ref 51, .ref 52, .int 0, .ref 53, .ref 54, .int 0, .int 0, .ref 55, .int 0, .int 0, .ref 56, .int 0, .int 0, .int 0, .int 0, .null, .null, .int 0, .null, .null, .null]), .inl (0, (87, .inl (fun _ => 0))), .inl (0, (87, .inl (fun _ => 0))), .inl (0, (9, .inl (fun _ => 0))), .inl (0, (6, .inl (fun _ => 0))), .inl (0, (9, .inl (fun _ => 0))), .inl (0, (40, .inl (fun _ => 0))), .inl (0, (25, .inl (upd (upd (upd (fun _ => 0) 0 (116)) 1 (101)) 2 (97))))]) rfl ?_
  refine AW.keq (k1 := 7) (n1 := 263) rfl rfl ?_
  refine aw_dup dX7_init_72 rfl ?_
  refine aw_iconst (v := 3) dX7_init_73 (by decide) ?_
  refine aw_bipush (v := 109) dX7_init_74 (by decide) ?_
  refine aw_iast dX7_init_76 rfl ?_
  refine AW.heq (h1 := [.inr (6, [.ref 1, .ref 3, .ref 11, .ref 19, .ref 27, .ref 30, .ref 36, .ref 41, .ref 40, .int 0]), .inr (4, [.ref 2, .int 0, .int 0, .int 0, .int 0]), .inl (0, (40, .inl (fun _ => 0))), .inr (0, [.int 0, .int 0, .int 0, .ref 4, .ref 5, .ref 6, .ref 7, .ref 8, .ref 9, .ref 10]), .inl (0, (6, .inl (fun _ => 0))), .inl (0, (6, .inl (fun _ => 0))), .inl (0, (36, .inl (fun _ => 0))), .inl (0, (9, .inl (fun _ => 0))), .inl (0, (9, .inl (fun _ => 0))), .inl (0, (9, .inl (fun _ => 0))), .inl (0, (9, .inl (fun _ => 0))), .inr (0, [.int 0, .int 0, .int 0, .ref 12, .ref 13, .ref 14, .ref 15, .ref 16, .ref 17, .ref 18]), .inl (0, (6, .inl (fun _ => 0))), .inl (0, (6, .inl (fun _ => 0))), .inl (0, (36, .inl (fun _ => 0))), .inl (0, (9, .inl (fun _ => 0))), .inl (0, (9, .inl (fun _ => 0))), .inl (0, (9, .inl (fun _ => 0))), .inl (0, (9, .inl (fun _ => 0))), .inr (0, [.int 0, .int 0, .int 0, .ref 20, .ref 21, .ref 22, .ref 23, .ref 24, .ref 25, .ref 26]), .inl (0, (6, .inl (fun _ => 0))), .inl (0, (6, .inl (fun _ => 0))), .inl (0, (36, .inl (fun _ => 0))), .inl (0, (9, .inl (fun _ => 0))), .inl (0, (9, .inl (fun _ => 0))), .inl (0, (9, .inl (fun _ => 0))), .inl (0, (9, .inl (fun _ => 0))), .inr (3, [.ref 28, .ref 29, .int 0, .int 0, .int 0]), .inl (0, (6, .inl (fun _ => 0))), .inl (0, (9, .inl (fun _ => 0))), .inr (1, [.ref 31, .ref 32, .ref 33, .ref 34, .ref 35, .int 0, .int 0, .int 0, .int 0]), .inl (0, (6, .inl (fun _ => 0))), .inl (0, (9, .inl (fun _ => 0))), .inl (0, (9, .inl (fun _ => 0))), .inl (0, (9, .inl (fun _ => 0))), .inl (0, (9, .inl (fun _ => 0))), .inr (5, [.ref 37, .ref 38, .ref 39, .int 0, .int 0]), .inl (0, (6, .inl (fun _ => 0))), .inl (0, (9, .inl (fun _ => 0))), .inl (1, (81, .inr (.inl (fun _ => 0)))), .inl (0, (6, .inl (fun _ => 0))), .inl (2, (4, .inr (.inr (.inr (.inr (va_up (va_up (va_up (va_up (fun _ => none) 0 (some 42)) 1 (some 44)) 2 (some 46)) 3 (some 48))))))), .inr (2, [.ref 43, .int (-1), .int 0]), .inl (0, (40, .inl (fun _ => 0))), .inr (2, [.ref 45, .int (-1), .int 0]), .inl (0, (40, .inl (fun _ => 0))), .inr (2, [.ref 47, .int (-1), .int 0]), .inl (0, (40, .inl (fun _ => 0))), .inr (2, [.ref 49, .int (-1), .int 0]), .inl (0, (40, .inl (fun _ => 0))), .inr (7, [.ref 51, .ref 52, .int 0, .ref 53, .ref 54, .int 0, .int 0, .ref 55, .int 0, .int 0, .ref 56, .int 0, .int 0, .int 0, .int 0, .null, .null, .int 0, .null, .null, .null]), .inl (0, (87, .inl (fun _ => 0))), .inl (0, (87, .inl (fun _ => 0))), .inl (0, (9, .inl (fun _ => 0))), .inl (0, (6, .inl (fun _ => 0))), .inl (0, (9, .inl (fun _ => 0))), .inl (0, (40, .inl (fun _ => 0))), .inl (0, (25, .inl (upd (upd (upd (upd (fun _ => 0) 0 (116)) 1 (101)) 2 (97)) 3 (109))))]) rfl ?_
  refine AW.keq (k1 := 7) (n1 := 263) rfl rfl ?_
  refine aw_dup dX7_init_77 rfl ?_
  refine aw_iconst (v := 4) dX7_init_78 (by decide) ?_
  refine aw_bipush (v := 32) dX7_init_79 (by decide) ?_
  refine aw_iast dX7_init_81 rfl ?_
  refine AW.heq (h1 := [.inr (6, [.ref 1, .ref 3, .ref 11, .ref 19, .ref 27, .ref 30, .ref 36, .ref 41, .ref 40, .int 0]), .inr (4, [.ref 2, .int 0, .int 0, .int 0, .int 0]), .inl (0, (40, .inl (fun _ => 0))), .inr (0, [.int 0, .int 0, .int 0, .ref 4, .ref 5, .ref 6, .ref 7, .ref 8, .ref 9, .ref 10]), .inl (0, (6, .inl (fun _ => 0))), .inl (0, (6, .inl (fun _ => 0))), .inl (0, (36, .inl (fun _ => 0))), .inl (0, (9, .inl (fun _ => 0))), .inl (0, (9, .inl (fun _ => 0))), .inl (0, (9, .inl (fun _ => 0))), .inl (0, (9, .inl (fun _ => 0))), .inr (0, [.int 0, .int 0, .int 0, .ref 12, .ref 13, .ref 14, .ref 15, .ref 16, .ref 17, .ref 18]), .inl (0, (6, .inl (fun _ => 0))), .inl (0, (6, .inl (fun _ => 0))), .inl (0, (36, .inl (fun _ => 0))), .inl (0, (9, .inl (fun _ => 0))), .inl (0, (9, .inl (fun _ => 0))), .inl (0, (9, .inl (fun _ => 0))), .inl (0, (9, .inl (fun _ => 0))), .inr (0, [.int 0, .int 0, .int 0, .ref 20, .ref 21, .ref 22, .ref 23, .ref 24, .ref 25, .ref 26]), .inl (0, (6, .inl (fun _ => 0))), .inl (0, (6, .inl (fun _ => 0))), .inl (0, (36, .inl (fun _ => 0))), .inl (0, (9, .inl (fun _ => 0))), .inl (0, (9, .inl (fun _ => 0))), .inl (0, (9, .inl (fun _ => 0))), .inl (0, (9, .inl (fun _ => 0))), .inr (3, [.ref 28, .ref 29, .int 0, .int 0, .int 0]), .inl (0, (6, .inl (fun _ => 0))), .inl (0, (9, .inl (fun _ => 0))), .inr (1, [.ref 31, .ref 32, .ref 33, .ref 34, .ref 35, .int 0, .int 0, .int 0, .int 0]), .inl (0, (6, .inl (fun _ => 0))), .inl (0, (9, .inl (fun _ => 0))), .inl (0, (9, .inl (fun _ => 0))), .inl (0, (9, .inl (fun _ => 0))), .inl (0, (9, .inl (fun _ => 0))), .inr (5, [.ref 37, .ref 38, .ref 39, .int 0, .int 0]), .inl (0, (6, .inl (fun _ => 0))), .inl (0, (9, .inl (fun _ => 0))), .inl (1, (81, .inr (.inl (fun _ => 0)))), .inl (0, (6, .inl (fun _ => 0))), .inl (2, (4, .inr (.inr (.inr (.inr (va_up (va_up (va_up (va_up (fun _ => none) 0 (some 42)) 1 (some 44)) 2 (some 46)) 3 (some 48))))))), .inr (2, [.ref 43, .int (-1), .int 0]), .inl (0, (40, .inl (fun _ => 0))), .inr (2, [.ref 45, .int (-1), .int 0]), .inl (0, (40, .inl (fun _ => 0))), .inr (2, [.ref 47, .int (-1), .int 0]), .inl (0, (40, .inl (fun _ => 0))), .inr (2, [.ref 49, .int (-1), .int 0]), .inl (0, (40, .inl (fun _ => 0))), .inr (7, [.ref 51, .ref 52, .int 0, .ref 53, .ref 54, .int 0, .int 0, .ref 55, .int 0, .int 0, .ref 56, .int 0, .int 0, .int 0, .int 0, .null, .null, .int 0, .null, .null, .null]), .inl (0, (87, .inl (fun _ => 0))), .inl (0, (87, .inl (fun _ => 0))), .inl (0, (9, .inl (fun _ => 0))), .inl (0, (6, .inl (fun _ => 0))), .inl (0, (9, .inl (fun _ => 0))), .inl (0, (40, .inl (fun _ => 0))), .inl (0, (25, .inl (upd (upd (upd (upd (upd (fun _ => 0) 0 (116)) 1 (101)) 2 (97)) 3 (109)) 4 (32))))]) rfl ?_
  refine AW.keq (k1 := 7) (n1 := 263) rfl rfl ?_
  refine aw_dup dX7_init_82 rfl ?_
  refine aw_iconst (v := 5) dX7_init_83 (by decide) ?_
  refine aw_bipush (v := 115) dX7_init_84 (by decide) ?_
  refine aw_iast dX7_init_86 rfl ?_
  refine AW.heq (h1 := [.inr (6, [.ref 1, .ref 3, .ref 11, .ref 19, .ref 27, .ref 30, .ref 36, .ref 41, .ref 40, .int 0]), .inr (4, [.ref 2, .int 0, .int 0, .int 0, .int 0]), .inl (0, (40, .inl (fun _ => 0))), .inr (0, [.int 0, .int 0, .int 0, .ref 4, .ref 5, .ref 6, .ref 7, .ref 8, .ref 9, .ref 10]), .inl (0, (6, .inl (fun _ => 0))), .inl (0, (6, .inl (fun _ => 0))), .inl (0, (36, .inl (fun _ => 0))), .inl (0, (9, .inl (fun _ => 0))), .inl (0, (9, .inl (fun _ => 0))), .inl (0, (9, .inl (fun _ => 0))), .inl (0, (9, .inl (fun _ => 0))), .inr (0, [.int 0, .int 0, .int 0, .ref 12, .ref 13, .ref 14, .ref 15, .ref 16, .ref 17, .ref 18]), .inl (0, (6, .inl (fun _ => 0))), .inl (0, (6, .inl (fun _ => 0))), .inl (0, (36, .inl (fun _ => 0))), .inl (0, (9, .inl (fun _ => 0))), .inl (0, (9, .inl (fun _ => 0))), .inl (0, (9, .inl (fun _ => 0))), .inl (0, (9, .inl (fun _ => 0))), .inr (0, [.int 0, .int 0, .int 0, .ref 20, .ref 21, .ref 22, .ref 23, .ref 24, .ref 25, .ref 26]), .inl (0, (6, .inl (fun _ => 0))), .inl (0, (6, .inl (fun _ => 0))), .inl (0, (36, .inl (fun _ => 0))), .inl (0, (9, .inl (fun _ => 0))), .inl (0, (9, .inl (fun _ => 0))), .inl (0, (9, .inl (fun _ => 0))), .inl (0, (9, .inl (fun _ => 0))), .inr (3, [.ref 28, .ref 29, .int 0, .int 0, .int 0]), .inl (0, (6, .inl (fun _ => 0))), .inl (0, (9, .inl (fun _ => 0))), .inr (1, [.ref 31, .ref 32, .ref 33, .ref 34, .ref 35, .int 0, .int 0, .int 0, .int 0]), .inl (0, (6, .inl (fun _ => 0))), .inl (0, (9, .inl (fun _ => 0))), .inl (0, (9, .inl (fun _ => 0))), .inl (0, (9, .inl (fun _ => 0))), .inl (0, (9, .inl (fun _ => 0))), .inr (5, [.ref 37, .ref 38, .ref 39, .int 0, .int 0]), .inl (0, (6, .inl (fun _ => 0))), .inl (0, (9, .inl (fun _ => 0))), .inl (1, (81, .inr (.inl (fun _ => 0)))), .inl (0, (6, .inl (fun _ => 0))), .inl (2, (4, .inr (.inr (.inr (.inr (va_up (va_up (va_up (va_up (fun _ => none) 0 (some 42)) 1 (some 44)) 2 (some 46)) 3 (some 48))))))), .inr (2, [.ref 43, .int (-1), .int 0]), .inl (0, (40, .inl (fun _ => 0))), .inr (2, [.ref 45, .int (-1), .int 0]), .inl (0, (40, .inl (fun _ => 0))), .inr (2, [.ref 47, .int (-1), .int 0]), .inl (0, (40, .inl (fun _ => 0))), .inr (2, [.ref 49, .int (-1), .int 0]), .inl (0, (40, .inl (fun _ => 0))), .inr (7, [.ref 51, .ref 52, .int 0, .ref 53, .ref 54, .int 0, .int 0, .ref 55, .int 0, .int 0, .ref 56, .int 0, .int 0, .int 0, .int 0, .null, .null, .int 0, .null, .null, .null]), .inl (0, (87, .inl (fun _ => 0))), .inl (0, (87, .inl (fun _ => 0))), .inl (0, (9, .inl (fun _ => 0))), .inl (0, (6, .inl (fun _ => 0))), .inl (0, (9, .inl (fun _ => 0))), .inl (0, (40, .inl (fun _ => 0))), .inl (0, (25, .inl (upd (upd (upd (upd (upd (upd (fun _ => 0) 0 (116)) 1 (101)) 2 (97)) 3 (109)) 4 (32)) 5 (115))))]) rfl ?_
  refine AW.keq (k1 := 7) (n1 := 263) rfl rfl ?_
  refine aw_dup dX7_init_87 rfl ?_
  refine aw_bipush (v := 6) dX7_init_88 (by decide) ?_
  refine aw_bipush (v := 116) dX7_init_90 (by decide) ?_
  refine aw_iast dX7_init_92 rfl ?_
  refine AW.heq (h1 := [.inr (6, [.ref 1, .ref 3, .ref 11, .ref 19, .ref 27, .ref 30, .ref 36, .ref 41, .ref 40, .int 0]), .inr (4, [.ref 2, .int 0, .int 0, .int 0, .int 0]), .inl (0, (40, .inl (fun _ => 0))), .inr (0, [.int 0, .int 0, .int 0, .ref 4, .ref 5, .ref 6, .ref 7, .ref 8, .ref 9, .ref 10]), .inl (0, (6, .inl (fun _ => 0))), .inl (0, (6, .inl (fun _ => 0))), .inl (0, (36, .inl (fun _ => 0))), .inl (0, (9, .inl (fun _ => 0))), .inl (0, (9, .inl (fun _ => 0))), .inl (0, (9, .inl (fun _ => 0))), .inl (0, (9, .inl (fun _ => 0))), .inr (0, [.int 0, .int 0, .int 0, .ref 12, .ref 13, .ref 14, .ref 15, .ref 16, .ref 17, .ref 18]), .inl (0, (6, .inl (fun _ => 0))), .inl (0, (6, .inl (fun _ => 0))), .inl (0, (36, .inl (fun _ => 0))), .inl (0, (9, .inl (fun _ => 0))), .inl (0, (9, .inl (fun _ => 0))), .inl (0, (9, .inl (fun _ => 0))), .inl (0, (9, .inl (fun _ => 0))), .inr (0, [.int 0, .int 0, .int 0, .ref 20, .ref 21, .ref 22, .ref 23, .ref 24, .ref 25, .ref 26]), .inl (0, (6, .inl (fun _ => 0))), .inl (0, (6, .inl (fun _ => 0))), .inl (0, (36, .inl (fun _ => 0))), .inl (0, (9, .inl (fun _ => 0))), .inl (0, (9, .inl (fun _ => 0))), .inl (0, (9, .inl (fun _ => 0))), .inl (0, (9, .inl (fun _ => 0))), .inr (3, [.ref 28, .ref 29, .int 0, .int 0, .int 0]), .inl (0, (6, .inl (fun _ => 0))), .inl (0, (9, .inl (fun _ => 0))), .inr (1, [.ref 31, .ref 32, .ref 33, .ref 34, .ref 35, .int 0, .int 0, .int 0, .int 0]), .inl (0, (6, .inl (fun _ => 0))), .inl (0, (9, .inl (fun _ => 0))), .inl (0, (9, .inl (fun _ => 0))), .inl (0, (9, .inl (fun _ => 0))), .inl (0, (9, .inl (fun _ => 0))), .inr (5, [.ref 37, .ref 38, .ref 39, .int 0, .int 0]), .inl (0, (6, .inl (fun _ => 0))), .inl (0, (9, .inl (fun _ => 0))), .inl (1, (81, .inr (.inl (fun _ => 0)))), .inl (0, (6, .inl (fun _ => 0))), .inl (2, (4, .inr (.inr (.inr (.inr (va_up (va_up (va_up (va_up (fun _ => none) 0 (some 42)) 1 (some 44)) 2 (some 46)) 3 (some 48))))))), .inr (2, [.ref 43, .int (-1), .int 0]), .inl (0, (40, .inl (fun _ => 0))), .inr (2, [.ref 45, .int (-1), .int 0]), .inl (0, (40, .inl (fun _ => 0))), .inr (2, [.ref 47, .int (-1), .int 0]), .inl (0, (40, .inl (fun _ => 0))), .inr (2, [.ref 49, .int (-1), .int 0]), .inl (0, (40, .inl (fun _ => 0))), .inr (7, [.ref 51, .ref 52, .int 0, .ref 53, .ref 54, .int 0, .int 0, .ref 55, .int 0, .int 0, .ref 56, .int 0, .int 0, .int 0, .int 0, .null, .null, .int 0, .null, .null, .null]), .inl (0, (87, .inl (fun _ => 0))), .inl (0, (87, .inl (fun _ => 0))), .inl (0, (9, .inl (fun _ => 0))), .inl (0, (6, .inl (fun _ => 0))), .inl (0, (9, .inl (fun _ => 0))), .inl (0, (40, .inl (fun _ => 0))), .inl (0, (25, .inl (upd (upd (upd (upd (upd (upd (upd (fun _ => 0) 0 (116)) 1 (101)) 2 (97)) 3 (109)) 4 (32)) 5 (115)) 6 (116))))]) rfl ?_
  refine AW.keq (k1 := 7) (n1 := 263) rfl rfl ?_
  refine aw_dup dX7_init_93 rfl ?_
  refine aw_bipush (v := 7) dX7_init_94 (by decide) ?_
  refine aw_bipush (v := 97) dX7_init_96 (by decide) ?_
  refine aw_iast dX7_init_98 rfl ?_
  refine AW.heq (h1 := [.inr (6, [.ref 1, .ref 3, .ref 11, .ref 19, .ref 27, .ref 30, .ref 36, .ref 41, .ref 40, .int 0]), .inr (4, [.ref 2, .int 0, .int 0, .int 0, .int 0]), .inl (0, (40, .inl (fun _ => 0))), .inr (0, [.int 0, .int 0, .int 0, .ref 4, .ref 5, .ref 6, .ref 7, .ref 8, .ref 9, .ref 10]), .inl (0, (6, .inl (fun _ => 0))), .inl (0, (6, .inl (fun _ => 0))), .inl (0, (36, .inl (fun _ => 0))), .inl (0, (9, .inl (fun _ => 0))), .inl (0, (9, .inl (fun _ => 0))), .inl (0, (9, .inl (fun _ => 0))), .inl (0, (9, .inl (fun _ => 0))), .inr (0, [.int 0, .int 0, .int 0, .ref 12, .ref 13, .ref 14, .ref 15, .ref 16, .ref 17, .ref 18]), .inl (0, (6, .inl (fun _ => 0))), .inl (0, (6, .inl (fun _ => 0))), .inl (0, (36, .inl (fun _ => 0))), .inl (0, (9, .inl (fun _ => 0))), .inl (0, (9, .inl (fun _ => 0))), .inl (0, (9, .inl (fun _ => 0))), .inl (0, (9, .inl (fun _ => 0))), .inr (0, [.int 0, .int 0, .int 0, .ref 20, .ref 21, .ref 22, .ref 23, .ref 24, .ref 25, .ref 26]), .inl (0, (6, .inl (fun _ => 0))), .inl (0, (6, .inl (fun _ => 0))), .inl (0, (36, .inl (fun _ => 0))), .inl (0, (9, .inl (fun _ => 0))), .inl (0, (9, .inl (fun _ => 0))), .inl (0, (9, .inl (fun _ => 0))), .inl (0, (9, .inl (fun _ => 0))), .inr (3, [.ref 28, .ref 29, .int 0, .int 0, .int 0]), .inl (0, (6, .inl (fun _ => 0))), .inl (0, (9, .inl (fun _ => 0))), .inr (1, [.ref 31, .ref 32, .ref 33, .ref 34, .ref 35, .int 0, .int 0, .int 0, .int 0]), .inl (0, (6, .inl (fun _ => 0))), .inl (0, (9, .inl (fun _ => 0))), .inl (0, (9, .inl (fun _ => 0))), .inl (0, (9, .inl (fun _ => 0))), .inl (0, (9, .inl (fun _ => 0))), .inr (5, [.ref 37, .ref 38, .ref 39, .int 0, .int 0]), .inl (0, (6, .inl (fun _ => 0))), .inl (0, (9, .inl (fun _ => 0))), .inl (1, (81, .inr (.inl (fun _ => 0)))), .inl (0, (6, .inl (fun _ => 0))), .inl (2, (4, .inr (.inr (.inr (.inr (va_up (va_up (va_up (va_up (fun _ => none) 0 (some 42)) 1 (some 44)) 2 (some 46)) 3 (some 48))))))), .inr (2, [.ref 43, .int (-1), .int 0]), .inl (0, (40, .inl (fun _ => 0))), .inr (2, [.ref 45, .int (-1), .int 0]), .inl (0, (40, .inl (fun _ => 0))), .inr (2, [.ref 47, .int (-1), .int 0]), .inl (0, (40, .inl (fun _ => 0))), .inr (2, [.ref 49, .int (-1), .int 0]), .inl (0, (40, .inl (fun _ => 0))), .inr (7, [.ref 51, .ref 52, .int 0, .ref 53, .ref 54, .int 0, .int 0, .ref 55, .int 0, .int 0, .ref 56, .int 0, .int 0, .int 0, .int 0, .null, .null, .int 0, .null, .null, .null]), .inl (0, (87, .inl (fun _ => 0))), .inl (0, (87, .inl (fun _ => 0))), .inl (0, (9, .inl (fun _ => 0))), .inl (0, (6, .inl (fun _ => 0))), .inl (0, (9, .inl (fun _ => 0))), .inl (0, (40, .inl (fun _ => 0))), .inl (0, (25, .inl (upd (upd (upd (upd (upd (upd (upd (upd (fun _ => 0) 0 (116)) 1 (101)) 2 (97)) 3 (109)) 4 (32)) 5 (115)) 6 (116)) 7 (97))))]) rfl ?_
  refine AW.keq (k1 := 7) (n1 := 263) rfl rfl ?_
  refine aw_dup dX7_init_99 rfl ?_
  refine aw_bipush (v := 8) dX7_init_100 (by decide) ?_
  refine aw_bipush (v := 114) dX7_init_102 (by decide) ?_
  refine aw_iast dX7_init_104 rfl ?_
  refine AW.heq (h1 := [.inr (6, [.ref 1, .ref 3, .ref 11, .ref 19, .ref 27, .ref 30, .ref 36, .ref 41, .ref 40, .int 0]), .inr (4, [.ref 2, .int 0, .int 0, .int 0, .int 0]), .inl (0, (40, .inl (fun _ => 0))), .inr (0, [.int 0, .int 0, .int 0, .ref 4, .ref 5, .ref 6, .ref 7, .ref 8, .ref 9, .ref 10]), .inl (0, (6, .inl (fun _ => 0))), .inl (0, (6, .inl (fun _ => 0))), .inl (0, (36, .inl (fun _ => 0))), .inl (0, (9, .inl (fun _ => 0))), .inl (0, (9, .inl (fun _ => 0))), .inl (0, (9, .inl (fun _ => 0))), .inl (0, (9, .inl (fun _ => 0))), .inr (0, [.int 0, .int 0, .int 0, .ref 12, .ref 13, .ref 14, .ref 15, .ref 16, .ref 17, .ref 18]), .inl (0, (6, .inl (fun _ => 0))), .inl (0, (6, .inl (fun _ => 0))), .inl (0, (36, .inl (fun _ => 0))), .inl (0, (9, .inl (fun _ => 0))), .inl (0, (9, .inl (fun _ => 0))), .inl (0, (9, .inl (fun _ => 0))), .inl (0, (9, .inl (fun _ => 0))), .inr (0, [.int 0, .int 0, .int 0, .ref 20, .ref 21, .ref 22, .ref 23, .ref 24, .ref 25, .ref 26]), .inl (0, (6, .inl (fun _ => 0))), .inl (0, (6, .inl (fun _ => 0))), .inl (0, (36, .inl (fun _ => 0))), .inl (0, (9, .inl (fun _ => 0))), .inl (0, (9, .inl (fun _ => 0))), .inl (0, (9, .inl (fun _ => 0))), .inl (0, (9, .inl (fun _ => 0))), .inr (3, [.ref 28, .ref 29, .int 0, .int 0, .int 0]), .inl (0, (6, .inl (fun _ => 0))), .inl (0, (9, .inl (fun _ => 0))), .inr (1, [.ref 31, .ref 32, .ref 33, .ref 34, .ref 35, .int 0, .int 0, .int 0, .int 0]), .inl (0, (6, .inl (fun _ => 0))), .inl (0, (9, .inl (fun _ => 0))), .inl (0, (9, .inl (fun _ => 0))), .inl (0, (9, .inl (fun _ => 0))), .inl (0, (9, .inl (fun _ => 0))), .inr (5, [.ref 37, .ref 38, .ref 39, .int 0, .int 0]), .inl (0, (6, .inl (fun _ => 0))), .inl (0, (9, .inl (fun _ => 0))), .inl (1, (81, .inr (.inl (fun _ => 0)))), .inl (0, (6, .inl (fun _ => 0))), .inl (2, (4, .inr (.inr (.inr (.inr (va_up (va_up (va_up (va_up (fun _ => none) 0 (some 42)) 1 (some 44)) 2 (some 46)) 3 (some 48))))))), .inr (2, [.ref 43, .int (-1), .int 0]), .inl (0, (40, .inl (fun _ => 0))), .inr (2, [.ref 45, .int (-1), .int 0]), .inl (0, (40, .inl (fun _ => 0))), .inr (2, [.ref 47, .int (-1), .int 0]), .inl (0, (40, .inl (fun _ => 0))), .inr (2, [.ref 49, .int (-1), .int 0]), .inl (0, (40, .inl (fun _ => 0))), .inr (7, [.ref 51, .ref 52, .int 0, .ref 53, .ref 54, .int 0, .int 0, .ref 55, .int 0, .int 0, .ref 56, .int 0, .int 0, .int 0, .int 0, .null, .null, .int 0, .null, .null, .null]), .inl (0, (87, .inl (fun _ => 0))), .inl (0, (87, .inl (fun _ => 0))), .inl (0, (9, .inl (fun _ => 0))), .inl (0, (6, .inl (fun _ => 0))), .inl (0, (9, .inl (fun _ => 0))), .inl (0, (40, .inl (fun _ => 0))), .inl (0, (25, .inl (upd (upd (upd (upd (upd (upd (upd (upd (upd (fun _ => 0) 0 (116)) 1 (101)) 2 (97)) 3 (109)) 4 (32)) 5 (115)) 6 (116)) 7 (97)) 8 (114))))]) rfl ?_
  refine AW.keq (k1 := 7) (n1 := 263) rfl rfl ?_
  refine aw_dup dX7_init_105 rfl ?_
  refine aw_bipush (v := 9) dX7_init_106 (by decide) ?_
  refine aw_bipush (v := 116) dX7_init_108 (by decide) ?_
  refine aw_iast dX7_init_110 rfl ?_
  refine AW.heq (h1 := [.inr (6, [.ref 1, .ref 3, .ref 11, .ref 19, .ref 27, .ref 30, .ref 36, .ref 41, .ref 40, .int 0]), .inr (4, [.ref 2, .int 0, .int 0, .int 0, .int 0]), .inl (0, (40, .inl (fun _ => 0))), .inr (0, [.int 0, .int 0, .int 0, .ref 4, .ref 5, .ref 6, .ref 7, .ref 8, .ref 9, .ref 10]), .inl (0, (6, .inl (fun _ => 0))), .inl (0, (6, .inl (fun _ => 0))), .inl (0, (36, .inl (fun _ => 0))), .inl (0, (9, .inl (fun _ => 0))), .inl (0, (9, .inl (fun _ => 0))), .inl (0, (9, .inl (fun _ => 0))), .inl (0, (9, .inl (fun _ => 0))), .inr (0, [.int 0, .int 0, .int 0, .ref 12, .ref 13, .ref 14, .ref 15, .ref 16, .ref 17, .ref 18]), .inl (0, (6, .inl (fun _ => 0))), .inl (0, (6, .inl (fun _ => 0))), .inl (0, (36, .inl (fun _ => 0))), .inl (0, (9, .inl (fun _ => 0))), .inl (0, (9, .inl (fun _ => 0))), .inl (0, (9, .inl (fun _ => 0))), .inl (0, (9, .inl (fun _ => 0))), .inr (0, [.int 0, .int 0, .int 0, .ref 20, .ref 21, .ref 22, .ref 23, .ref 24, .ref 25, .ref 26]), .inl (0, (6, .inl (fun _ => 0))), .inl (0, (6, .inl (fun _ => 0))), .inl (0, (36, .inl (fun _ => 0))), .inl (0, (9, .inl (fun _ => 0))), .inl (0, (9, .inl (fun _ => 0))), .inl (0, (9, .inl (fun _ => 0))), .inl (0, (9, .inl (fun _ => 0))), .inr (3, [.ref 28, .ref 29, .int 0, .int 0, .int 0]), .inl (0, (6, .inl (fun _ => 0))), .inl (0, (9, .inl (fun _ => 0))), .inr (1, [.ref 31, .ref 32, .ref 33, .ref 34, .ref 35, .int 0, .int 0, .int 0, .int 0]), .inl (0, (6, .inl (fun _ => 0))), .inl (0, (9, .inl (fun _ => 0))), .inl (0, (9, .inl (fun _ => 0))), .inl (0, (9, .inl (fun _ => 0))), .inl (0, (9, .inl (fun _ => 0))), .inr (5, [.ref 37, .ref 38, .ref 39, .int 0, .int 0]), .inl (0, (6, .inl (fun _ => 0))), .inl (0, (9, .inl (fun _ => 0))), .inl (1, (81, .inr (.inl (fun _ => 0)))), .inl (0, (6, .inl (fun _ => 0))), .inl (2, (4, .inr (.inr (.inr (.inr (va_up (va_up (va_up (va_up (fun _ => none) 0 (some 42)) 1 (some 44)) 2 (some 46)) 3 (some 48))))))), .inr (2, [.ref 43, .int (-1), .int 0]), .inl (0, (40, .inl (fun _ => 0))), .inr (2, [.ref 45, .int (-1), .int 0]), .inl (0, (40, .inl (fun _ => 0))), .inr (2, [.ref 47, .int (-1), .int 0]), .inl (0, (40, .inl (fun _ => 0))), .inr (2, [.ref 49, .int (-1), .int 0]), .inl (0, (40, .inl (fun _ => 0))), .inr (7, [.ref 51, .ref 52, .int 0, .ref 53, .ref 54, .int 0, .int 0, .ref 55, .int 0, .int 0, .ref 56, .int 0, .int 0, .int 0, .int 0, .null, .null, .int 0, .null, .null, .null]), .inl (0, (87, .inl (fun _ => 0))), .inl (0, (87, .inl (fun _ => 0))), .inl (0, (9, .inl (fun _ => 0))), .inl (0, (6, .inl (fun _ => 0))), .inl (0, (9, .inl (fun _ => 0))), .inl (0, (40, .inl (fun _ => 0))), .inl (0, (25, .inl (upd (upd (upd (upd (upd (upd (upd (upd (upd (upd (fun _ => 0) 0 (116)) 1 (101)) 2 (97)) 3 (109)) 4 (32)) 5 (115)) 6 (116)) 7 (97)) 8 (114)) 9 (116))))]) rfl ?_
  refine AW.keq (k1 := 7) (n1 := 263) rfl rfl ?_
  refine aw_dup dX7_init_111 rfl ?_
  refine aw_bipush (v := 10) dX7_init_112 (by decide) ?_
  refine aw_bipush (v := 103) dX7_init_114 (by decide) ?_
  refine aw_iast dX7_init_116 rfl ?_
  refine AW.heq (h1 := [.inr (6, [.ref 1, .ref 3, .ref 11, .ref 19, .ref 27, .ref 30, .ref 36, .ref 41, .ref 40, .int 0]), .inr (4, [.ref 2, .int 0, .int 0, .int 0, .int 0]), .inl (0, (40, .inl (fun _ => 0))), .inr (0, [.int 0, .int 0, .int 0, .ref 4, .ref 5, .ref 6, .ref 7, .ref 8, .ref 9, .ref 10]), .inl (0, (6, .inl (fun _ => 0))), .inl (0, (6, .inl (fun _ => 0))), .inl (0, (36, .inl (fun _ => 0))), .inl (0, (9, .inl (fun _ => 0))), .inl (0, (9, .inl (fun _ => 0))), .inl (0, (9, .inl (fun _ => 0))), .inl (0, (9, .inl (fun _ => 0))), .inr (0, [.int 0, .int 0, .int 0, .ref 12, .ref 13, .ref 14, .ref 15, .ref 16, .ref 17, .ref 18]), .inl (0, (6, .inl (fun _ => 0))), .inl (0, (6, .inl (fun _ => 0))), .inl (0, (36, .inl (fun _ => 0))), .inl (0, (9, .inl (fun _ => 0))), .inl (0, (9, .inl (fun _ => 0))), .inl (0, (9, .inl (fun _ => 0))), .inl (0, (9, .inl (fun _ => 0))), .inr (0, [.int 0, .int 0, .int 0, .ref 20, .ref 21, .ref 22, .ref 23, .ref 24, .ref 25, .ref 26]), .inl (0, (6, .inl (fun _ => 0))), .inl (0, (6, .inl (fun _ => 0))), .inl (0, (36, .inl (fun _ => 0))), .inl (0, (9, .inl (fun _ => 0))), .inl (0, (9, .inl (fun _ => 0))), .inl (0, (9, .inl (fun _ => 0))), .inl (0, (9, .inl (fun _ => 0))), .inr (3, [.ref 28, .ref 29, .int 0, .int 0, .int 0]), .inl (0, (6, .inl (fun _ => 0))), .inl (0, (9, .inl (fun _ => 0))), .inr (1, [.ref 31, .ref 32, .ref 33, .ref 34, .ref 35, .int 0, .int 0, .int 0, .int 0]), .inl (0, (6, .inl (fun _ => 0))), .inl (0, (9, .inl (fun _ => 0))), .inl (0, (9, .inl (fun _ => 0))), .inl (0, (9, .inl (fun _ => 0))), .inl (0, (9, .inl (fun _ => 0))), .inr (5, [.ref 37, .ref 38, .ref 39, .int 0, .int 0]), .inl (0, (6, .inl (fun _ => 0))), .inl (0, (9, .inl (fun _ => 0))), .inl (1, (81, .inr (.inl (fun _ => 0)))), .inl (0, (6, .inl (fun _ => 0))), .inl (2, (4, .inr (.inr (.inr (.inr (va_up (va_up (va_up (va_up (fun _ => none) 0 (some 42)) 1 (some 44)) 2 (some 46)) 3 (some 48))))))), .inr (2, [.ref 43, .int (-1), .int 0]), .inl (0, (40, .inl (fun _ => 0))), .inr (2, [.ref 45, .int (-1), .int 0]), .inl (0, (40, .inl (fun _ => 0))), .inr (2, [.ref 47, .int (-1), .int 0]), .inl (0, (40, .inl (fun _ => 0))), .inr (2, [.ref 49, .int (-1), .int 0]), .inl (0, (40, .inl (fun _ => 0))), .inr (7, [.ref 51, .ref 52, .int 0, .ref 53, .ref 54, .int 0, .int 0, .ref 55, .int 0, .int 0, .ref 56, .int 0, .int 0, .int 0, .int 0, .null, .null, .int 0, .null, .null, .null]), .inl (0, (87, .inl (fun _ => 0))), .inl (0, (87, .inl (fun _ => 0))), .inl (0, (9, .inl (fun _ => 0))), .inl (0, (6, .inl (fun _ => 0))), .inl (0, (9, .inl (fun _ => 0))), .inl (0, (40, .inl (fun _ => 0))), .inl (0, (25, .inl (upd (upd (upd (upd (upd (upd (upd (upd (upd (upd (upd (fun _ => 0) 0 (116)) 1 (101)) 2 (97)) 3 (109)) 4 (32)) 5 (115)) 6 (116)) 7 (97)) 8 (114)) 9 (116)) 10 (103))))]) rfl ?_
  refine AW.keq (k1 := 7) (n1 := 263) rfl rfl ?_
  refine aw_dup dX7_init_117 rfl ?_
  refine aw_bipush (v := 11) dX7_init_118 (by decide) ?_
  refine aw_bipush (v := 97) dX7_init_120 (by decide) ?_
  refine aw_iast dX7_init_122 rfl ?_
  refine AW.heq (h1 := [.inr (6, [.ref 1, .ref 3, .ref 11, .ref 19, .ref 27, .ref 30, .ref 36, .ref 41, .ref 40, .int 0]), .inr (4, [.ref 2, .int 0, .int 0, .int 0, .int 0]), .inl (0, (40, .inl (fun _ => 0))), .inr (0, [.int 0, .int 0, .int 0, .ref 4, .ref 5, .ref 6, .ref 7, .ref 8, .ref 9, .ref 10]), .inl (0, (6, .inl (fun _ => 0))), .inl (0, (6, .inl (fun _ => 0))), .inl (0, (36, .inl (fun _ => 0))), .inl (0, (9, .inl (fun _ => 0))), .inl (0, (9, .inl (fun _ => 0))), .inl (0, (9, .inl (fun _ => 0))), .inl (0, (9, .inl (fun _ => 0))), .inr (0, [.int 0, .int 0, .int 0, .ref 12, .ref 13, .ref 14, .ref 15, .ref 16, .ref 17, .ref 18]), .inl (0, (6, .inl (fun _ => 0))), .inl (0, (6, .inl (fun _ => 0))), .inl (0, (36, .inl (fun _ => 0))), .inl (0, (9, .inl (fun _ => 0))), .inl (0, (9, .inl (fun _ => 0))), .inl (0, (9, .inl (fun _ => 0))), .inl (0, (9, .inl (fun _ => 0))), .inr (0, [.int 0, .int 0, .int 0, .ref 20, .ref 21, .ref 22, .ref 23, .ref 24, .ref 25, .ref 26]), .inl (0, (6, .inl (fun _ => 0))), .inl (0, (6, .inl (fun _ => 0))), .inl (0, (36, .inl (fun _ => 0))), .inl (0, (9, .inl (fun _ => 0))), .inl (0, (9, .inl (fun _ => 0))), .inl (0, (9, .inl (fun _ => 0))), .inl (0, (9, .inl (fun _ => 0))), .inr (3, [.ref 28, .ref 29, .int 0, .int 0, .int 0]), .inl (0, (6, .inl (fun _ => 0))), .inl (0, (9, .inl (fun _ => 0))), .inr (1, [.ref 31, .ref 32, .ref 33, .ref 34, .ref 35, .int 0, .int 0, .int 0, .int 0]), .inl (0, (6, .inl (fun _ => 0))), .inl (0, (9, .inl (fun _ => 0))), .inl (0, (9, .inl (fun _ => 0))), .inl (0, (9, .inl (fun _ => 0))), .inl (0, (9, .inl (fun _ => 0))), .inr (5, [.ref 37, .ref 38, .ref 39, .int 0, .int 0]), .inl (0, (6, .inl (fun _ => 0))), .inl (0, (9, .inl (fun _ => 0))), .inl (1, (81, .inr (.inl (fun _ => 0)))), .inl (0, (6, .inl (fun _ => 0))), .inl (2, (4, .inr (.inr (.inr (.inr (va_up (va_up (va_up (va_up (fun _ => none) 0 (some 42)) 1 (some 44)) 2 (some 46)) 3 (some 48))))))), .inr (2, [.ref 43, .int (-1), .int 0]), .inl (0, (40, .inl (fun _ => 0))), .inr (2, [.ref 45, .int (-1), .int 0]), .inl (0, (40, .inl (fun _ => 0))), .inr (2, [.ref 47, .int (-1), .int 0]), .inl (0, (40, .inl (fun _ => 0))), .inr (2, [.ref 49, .int (-1), .int 0]), .inl (0, (40, .inl (fun _ => 0))), .inr (7, [.ref 51, .ref 52, .int 0, .ref 53, .ref 54, .int 0, .int 0, .ref 55, .int 0, .int 0, .ref 56, .int 0, .int 0, .int 0, .int 0, .null, .null, .int 0, .null, .null, .null]), .inl (0, (87, .inl (fun _ => 0))), .inl (0, (87, .inl (fun _ => 0))), .inl (0, (9, .inl (fun _ => 0))), .inl (0, (6, .inl (fun _ => 0))), .inl (0, (9, .inl (fun _ => 0))), .inl (0, (40, .inl (fun _ => 0))), .inl (0, (25, .inl (upd (upd (upd (upd (upd (upd (upd (upd (upd (upd (upd (upd (fun _ => 0) 0 (116)) 1 (101)) 2 (97)) 3 (109)) 4 (32)) 5 (115)) 6 (116)) 7 (97)) 8 (114)) 9 (116)) 10 (103)) 11 (97))))]) rfl ?_
  refine AW.keq (k1 := 7) (n1 := 263) rfl rfl ?_
  refine aw_dup dX7_init_123 rfl ?_
  refine aw_bipush (v := 12) dX7_init_124 (by decide) ?_
  refine aw_bipush (v := 109) dX7_init_126 (by decide) ?_
  refine aw_iast dX7_init_128 rfl ?_
  refine AW.heq (h1 := [.inr (6, [.ref 1, .ref 3, .ref 11, .ref 19, .ref 27, .ref 30, .ref 36, .ref 41, .ref 40, .int 0]), .inr (4, [.ref 2, .int 0, .int 0, .int 0, .int 0]), .inl (0, (40, .inl (fun _ => 0))), .inr (0, [.int 0, .int 0, .int 0, .ref 4, .ref 5, .ref 6, .ref 7, .ref 8, .ref 9, .ref 10]), .inl (0, (6, .inl (fun _ => 0))), .inl (0, (6, .inl (fun _ => 0))), .inl (0, (36, .inl (fun _ => 0))), .inl (0, (9, .inl (fun _ => 0))), .inl (0, (9, .inl (fun _ => 0))), .inl (0, (9, .inl (fun _ => 0))), .inl (0, (9, .inl (fun _ => 0))), .inr (0, [.int 0, .int 0, .int 0, .ref 12, .ref 13, .ref 14, .ref 15, .ref 16, .ref 17, .ref 18]), .inl (0, (6, .inl (fun _ => 0))), .inl (0, (6, .inl (fun _ => 0))), .inl (0, (36, .inl (fun _ => 0))), .inl (0, (9, .inl (fun _ => 0))), .inl (0, (9, .inl (fun _ => 0))), .inl (0, (9, .inl (fun _ => 0))), .inl (0, (9, .inl (fun _ => 0))), .inr (0, [.int 0, .int 0, .int 0, .ref 20, .ref 21, .ref 22, .ref 23, .ref 24, .ref 25, .ref 26]), .inl (0, (6, .inl (fun _ => 0))), .inl (0, (6, .inl (fun _ => 0))), .inl (0, (36, .inl (fun _ => 0))), .inl (0, (9, .inl (fun _ => 0))), .inl (0, (9, .inl (fun _ => 0))), .inl (0, (9, .inl (fun _ => 0))), .inl (0, (9, .inl (fun _ => 0))), .inr (3, [.ref 28, .ref 29, .int 0, .int 0, .int 0]), .inl (0, (6, .inl (fun _ => 0))), .inl (0, (9, .inl (fun _ => 0))), .inr (1, [.ref 31, .ref 32, .ref 33, .ref 34, .ref 35, .int 0, .int 0, .int 0, .int 0]), .inl (0, (6, .inl (fun _ => 0))), .inl (0, (9, .inl (fun _ => 0))), .inl (0, (9, .inl (fun _ => 0))), .inl (0, (9, .inl (fun _ => 0))), .inl (0, (9, .inl (fun _ => 0))), .inr (5, [.ref 37, .ref 38, .ref 39, .int 0, .int 0]), .inl (0, (6, .inl (fun _ => 0))), .inl (0, (9, .inl (fun _ => 0))), .inl (1, (81, .inr (.inl (fun _ => 0)))), .inl (0, (6, .inl (fun _ => 0))), .inl (2, (4, .inr (.inr (.inr (.inr (va_up (va_up (va_up (va_up (fun _ => none) 0 (some 42)) 1 (some 44)) 2 (some 46)) 3 (some 48))))))), .inr (2, [.ref 43, .int (-1), .int 0]), .inl (0, (40, .inl (fun _ => 0))), .inr (2, [.ref 45, .int (-1), .int 0]), .inl (0, (40, .inl (fun _ => 0))), .inr (2, [.ref 47, .int (-1), .int 0]), .inl (0, (40, .inl (fun _ => 0))), .inr (2, [.ref 49, .int (-1), .int 0]), .inl (0, (40, .inl (fun _ => 0))), .inr (7, [.ref 51, .ref 52, .int 0, .ref 53, .ref 54, .int 0, .int 0, .ref 55, .int 0, .int 0, .ref 56, .int 0, .int 0, .int 0, .int 0, .null, .null, .int 0, .null, .null, .null]), .inl (0, (87, .inl (fun _ => 0))), .inl (0, (87, .inl (fun _ => 0))), .inl (0, (9, .inl (fun _ => 0))), .inl (0, (6, .inl (fun _ => 0))), .inl (0, (9, .inl (fun _ => 0))), .inl (0, (40, .inl (fun _ => 0))), .inl (0, (25, .inl (upd (upd (upd (upd (upd (upd (upd (upd (upd (upd (upd (upd (upd (fun _ => 0) 0 (116)) 1 (101)) 2 (97)) 3 (109)) 4 (32)) 5 (115)) 6 (116)) 7 (97)) 8 (114)) 9 (116)) 10 (103)) 11 (97)) 12 (109))))]) rfl ?_
  refine AW.keq (k1 := 7) (n1 := 263) rfl rfl ?_
  refine aw_dup dX7_init_129 rfl ?_
  refine aw_bipush (v := 13) dX7_init_130 (by decide) ?_
  refine aw_bipush (v := 101) dX7_init_132 (by decide) ?_
  refine aw_iast dX7_init_134 rfl ?_
  refine AW.heq (h1 := [.inr (6, [.ref 1, .ref 3, .ref 11, .ref 19, .ref 27, .ref 30, .ref 36, .ref 41, .ref 40, .int 0]), .inr (4, [.ref 2, .int 0, .int 0, .int 0, .int 0]), .inl (0, (40, .inl (fun _ => 0))), .inr (0, [.int 0, .int 0, .int 0, .ref 4, .ref 5, .ref 6, .ref 7, .ref 8, .ref 9, .ref 10]), .inl (0, (6, .inl (fun _ => 0))), .inl (0, (6, .inl (fun _ => 0))), .inl (0, (36, .inl (fun _ => 0))), .inl (0, (9, .inl (fun _ => 0))), .inl (0, (9, .inl (fun _ => 0))), .inl (0, (9, .inl (fun _ => 0))), .inl (0, (9, .inl (fun _ => 0))), .inr (0, [.int 0, .int 0, .int 0, .ref 12, .ref 13, .ref 14, .ref 15, .ref 16, .ref 17, .ref 18]), .inl (0, (6, .inl (fun _ => 0))), .inl (0, (6, .inl (fun _ => 0))), .inl (0, (36, .inl (fun _ => 0))), .inl (0, (9, .inl (fun _ => 0))), .inl (0, (9, .inl (fun _ => 0))), .inl (0, (9, .inl (fun _ => 0))), .inl (0, (9, .inl (fun _ => 0))), .inr (0, [.int 0, .int 0, .int 0, .ref 20, .ref 21, .ref 22, .ref 23, .ref 24, .ref 25, .ref 26]), .inl (0, (6, .inl (fun _ => 0))), .inl (0, (6, .inl (fun _ => 0))), .inl (0, (36, .inl (fun _ => 0))), .inl (0, (9, .inl (fun _ => 0))), .inl (0, (9, .inl (fun _ => 0))), .inl (0, (9, .inl (fun _ => 0))), .inl (0, (9, .inl (fun _ => 0))), .inr (3, [.ref 28, .ref 29, .int 0, .int 0, .int 0]), .inl (0, (6, .inl (fun _ => 0))), .inl (0, (9, .inl (fun _ => 0))), .inr (1, [.ref 31, .ref 32, .ref 33, .ref 34, .ref 35, .int 0, .int 0, .int 0, .int 0]), .inl (0, (6, .inl (fun _ => 0))), .inl (0, (9, .inl (fun _ => 0))), .inl (0, (9, .inl (fun _ => 0))), .inl (0, (9, .inl (fun _ => 0))), .inl (0, (9, .inl (fun _ => 0))), .inr (5, [.ref 37, .ref 38, .ref 39, .int 0, .int 0]), .inl (0, (6, .inl (fun _ => 0))), .inl (0, (9, .inl (fun _ => 0))), .inl (1, (81, .inr (.inl (fun _ => 0)))), .inl (0, (6, .inl (fun _ => 0))), .inl (2, (4, .inr (.inr (.inr (.inr (va_up (va_up (va_up (va_up (fun _ => none) 0 (some 42)) 1 (some 44)) 2 (some 46)) 3 (some 48))))))), .inr (2, [.ref 43, .int (-1), .int 0]), .inl (0, (40, .inl (fun _ => 0))), .inr (2, [.ref 45, .int (-1), .int 0]), .inl (0, (40, .inl (fun _ => 0))), .inr (2, [.ref 47, .int (-1), .int 0]), .inl (0, (40, .inl (fun _ => 0))), .inr (2, [.ref 49, .int (-1), .int 0]), .inl (0, (40, .inl (fun _ => 0))), .inr (7, [.ref 51, .ref 52, .int 0, .ref 53, .ref 54, .int 0, .int 0, .ref 55, .int 0, .int 0, .ref 56, .int 0, .int 0, .int 0, .int 0, .null, .null, .int 0, .null, .null, .null]), .inl (0, (87, .inl (fun _ => 0))), .inl (0, (87, .inl (fun _ => 0))), .inl (0, (9, .inl (fun _ => 0))), .inl (0, (6, .inl (fun _ => 0))), .inl (0, (9, .inl (fun _ => 0))), .inl (0, (40, .inl (fun _ => 0))), .inl (0, (25, .inl (upd (upd (upd (upd (upd (upd (upd (upd (upd (upd (upd (upd (upd (upd (fun _ => 0) 0 (116)) 1 (101)) 2 (97)) 3 (109)) 4 (32)) 5 (115)) 6 (116)) 7 (97)) 8 (114)) 9 (116)) 10 (103)) 11 (97)) 12 (109)) 13 (101))))]) rfl ?_
  refine AW.keq (k1 := 7) (n1 := 263) rfl rfl ?_
  refine aw_dup dX7_init_135 rfl ?_
  refine aw_bipush (v := 14) dX7_init_136 (by decide) ?_
  refine aw_bipush (v := 32) dX7_init_138 (by decide) ?_
  refine aw_iast dX7_init_140 rfl ?_
  refine AW.heq (h1 := [.inr (6, [.ref 1, .ref 3, .ref 11, .ref 19, .ref 27, .ref 30, .ref 36, .ref 41, .ref 40, .int 0]), .inr (4, [.ref 2, .int 0, .int 0, .int 0, .int 0]), .inl (0, (40, .inl (fun _ => 0))), .inr (0, [.int 0, .int 0, .int 0, .ref 4, .ref 5, .ref 6, .ref 7, .ref 8, .ref 9, .ref 10]), .inl (0, (6, .inl (fun _ => 0))), .inl (0, (6, .inl (fun _ => 0))), .inl (0, (36, .inl (fun _ => 0))), .inl (0, (9, .inl (fun _ => 0))), .inl (0, (9, .inl (fun _ => 0))), .inl (0, (9, .inl (fun _ => 0))), .inl (0, (9, .inl (fun _ => 0))), .inr (0, [.int 0, .int 0, .int 0, .ref 12, .ref 13, .ref 14, .ref 15, .ref 16, .ref 17, .ref 18]), .inl (0, (6, .inl (fun _ => 0))), .inl (0, (6, .inl (fun _ => 0))), .inl (0, (36, .inl (fun _ => 0))), .inl (0, (9, .inl (fun _ => 0))), .inl (0, (9, .inl (fun _ => 0))), .inl (0, (9, .inl (fun _ => 0))), .inl (0, (9, .inl (fun _ => 0))), .inr (0, [.int 0, .int 0, .int 0, .ref 20, .ref 21, .ref 22, .ref 23, .ref 24, .ref 25, .ref 26]), .inl (0, (6, .inl (fun _ => 0))), .inl (0, (6, .inl (fun _ => 0))), .inl (0, (36, .inl (fun _ => 0))), .inl (0, (9, .inl (fun _ => 0))), .inl (0, (9, .inl (fun _ => 0))), .inl (0, (9, .inl (fun _ => 0))), .inl (0, (9, .inl (fun _ => 0))), .inr (3, [.ref 28, .ref 29, .int 0, .int 0, .int 0]), .inl (0, (6, .inl (fun _ => 0))), .inl (0, (9, .inl (fun _ => 0))), .inr (1, [.ref 31, .ref 32, .ref 33, .ref 34, .ref 35, .int 0, .int 0, .int 0, .int 0]), .inl (0, (6, .inl (fun _ => 0))), .inl (0, (9, .inl (fun _ => 0))), .inl (0, (9, .inl (fun _ => 0))), .inl (0, (9, .inl (fun _ => 0))), .inl (0, (9, .inl (fun _ => 0))), .inr (5, [.ref 37, .ref 38, .ref 39, .int 0, .int 0]), .inl (0, (6, .inl (fun _ => 0))), .inl (0, (9, .inl (fun _ => 0))), .inl (1, (81, .inr (.inl (fun _ => 0)))), .inl (0, (6, .inl (fun _ => 0))), .inl (2, (4, .inr (.inr (.inr (.inr (va_up (va_up (va_up (va_up (fun _ => none) 0 (some 42)) 1 (some 44)) 2 (some 46)) 3 (some 48))))))), .inr (2, [.ref 43, .int (-1), .int 0]), .inl (0, (40, .inl (fun _ => 0))), .inr (2, [.ref 45, .int (-1), .int 0]), .inl (0, (40, .inl (fun _ => 0))), .inr (2, [.ref 47, .int (-1), .int 0]), .inl (0, (40, .inl (fun _ => 0))), .inr (2, [.ref 49, .int (-1), .int 0]), .inl (0, (40, .inl (fun _ => 0))), .inr (7, [.ref 51, .ref 52, .int 0, .ref 53, .ref 54, .int 0, .int 0, .ref 55, .int 0, .int 0, .ref 56, .int 0, .int 0, .int 0, .int 0, .null, .null, .int 0, .null, .null, .null]), .inl (0, (87, .inl (fun _ => 0))), .inl (0, (87, .inl (fun _ => 0))), .inl (0, (9, .inl (fun _ => 0))), .inl (0, (6, .inl (fun _ => 0))), .inl (0, (9, .inl (fun _ => 0))), .inl (0, (40, .inl (fun _ => 0))), .inl (0, (25, .inl (upd (upd (upd (upd (upd (upd (upd (upd (upd (upd (upd (upd (upd (upd (upd (fun _ => 0) 0 (116)) 1 (101)) 2 (97)) 3 (109)) 4 (32)) 5 (115)) 6 (116)) 7 (97)) 8 (114)) 9 (116)) 10 (103)) 11 (97)) 12 (109)) 13 (101)) 14 (32))))]) rfl ?_
  refine AW.keq (k1 := 7) (n1 := 263) rfl rfl ?_
  refine aw_dup dX7_init_141 rfl ?_
  refine aw_bipush (v := 15) dX7_init_142 (by decide) ?_
  refine aw_bipush (v := 119) dX7_init_144 (by decide) ?_
  refine aw_iast dX7_init_146 rfl ?_
  refine AW.heq (h1 := [.inr (6, [.ref 1, .ref 3, .ref 11, .ref 19, .ref 27, .ref 30, .ref 36, .ref 41, .ref 40, .int 0]), .inr (4, [.ref 2, .int 0, .int 0, .int 0, .int 0]), .inl (0, (40, .inl (fun _ => 0))), .inr (0, [.int 0, .int 0, .int 0, .ref 4, .ref 5, .ref 6, .ref 7, .ref 8, .ref 9, .ref 10]), .inl (0, (6, .inl (fun _ => 0))), .inl (0, (6, .inl (fun _ => 0))), .inl (0, (36, .inl (fun _ => 0))), .inl (0, (9, .inl (fun _ => 0))), .inl (0, (9, .inl (fun _ => 0))), .inl (0, (9, .inl (fun _ => 0))), .inl (0, (9, .inl (fun _ => 0))), .inr (0, [.int 0, .int 0, .int 0, .ref 12, .ref 13, .ref 14, .ref 15, .ref 16, .ref 17, .ref 18]), .inl (0, (6, .inl (fun _ => 0))), .inl (0, (6, .inl (fun _ => 0))), .inl (0, (36, .inl (fun _ => 0))), .inl (0, (9, .inl (fun _ => 0))), .inl (0, (9, .inl (fun _ => 0))), .inl (0, (9, .inl (fun _ => 0))), .inl (0, (9, .inl (fun _ => 0))), .inr (0, [.int 0, .int 0, .int 0, .ref 20, .ref 21, .ref 22, .ref 23, .ref 24, .ref 25, .ref 26]), .inl (0, (6, .inl (fun _ => 0))), .inl (0, (6, .inl (fun _ => 0))), .inl (0, (36, .inl (fun _ => 0))), .inl (0, (9, .inl (fun _ => 0))), .inl (0, (9, .inl (fun _ => 0))), .inl (0, (9, .inl (fun _ => 0))), .inl (0, (9, .inl (fun _ => 0))), .inr (3, [.ref 28, .ref 29, .int 0, .int 0, .int 0]), .inl (0, (6, .inl (fun _ => 0))), .inl (0, (9, .inl (fun _ => 0))), .inr (1, [.ref 31, .ref 32, .ref 33, .ref 34, .ref 35, .int 0, .int 0, .int 0, .int 0]), .inl (0, (6, .inl (fun _ => 0))), .inl (0, (9, .inl (fun _ => 0))), .inl (0, (9, .inl (fun _ => 0))), .inl (0, (9, .inl (fun _ => 0))), .inl (0, (9, .inl (fun _ => 0))), .inr (5, [.ref 37, .ref 38, .ref 39, .int 0, .int 0]), .inl (0, (6, .inl (fun _ => 0))), .inl (0, (9, .inl (fun _ => 0))), .inl (1, (81, .inr (.inl (fun _ => 0)))), .inl (0, (6, .inl (fun _ => 0))), .inl (2, (4, .inr (.inr (.inr (.inr (va_up (va_up (va_up (va_up (fun _ => none) 0 (some 42)) 1 (some 44)) 2 (some 46)) 3 (some 48))))))), .inr (2, [.ref 43, .int (-1), .int 0]), .inl (0, (40, .inl (fun _ => 0))), .inr (2, [.ref 45, .int (-1), .int 0]), .inl (0, (40, .inl (fun _ => 0))), .inr (2, [.ref 47, .int (-1), .int 0]), .inl (0, (40, .inl (fun _ => 0))), .inr (2, [.ref 49, .int (-1), .int 0]), .inl (0, (40, .inl (fun _ => 0))), .inr (7, [.ref 51, .ref 52, .int 0, .ref 53, .ref 54, .int 0, .int 0, .ref 55, .int 0, .int 0, .ref 56, .int 0, .int 0, .int 0, .int 0, .null, .null, .int 0, .null, .null, .null]), .inl (0, (87, .inl (fun _ => 0))), .inl (0, (87, .inl (fun _ => 0))), .inl (0, (9, .inl (fun _ => 0))), .inl (0, (6, .inl (fun _ => 0))), .inl (0, (9, .inl (fun _ => 0))), .inl (0, (40, .inl (fun _ => 0))), .inl (0, (25, .inl (upd (upd (upd (upd (upd (upd (upd (upd (upd (upd (upd (upd (upd (upd (upd (upd (fun _ => 0) 0 (116)) 1 (101)) 2 (97)) 3 (109)) 4 (32)) 5 (115)) 6 (116)) 7 (97)) 8 (114)) 9 (116)) 10 (103)) 11 (97)) 12 (109)) 13 (101)) 14 (32)) 15 (119))))]) rfl ?_
  refine AW.keq (k1 := 7) (n1 := 263) rfl rfl ?_
  refine aw_dup dX7_init_147 rfl ?_
  refine aw_bipush (v := 16) dX7_init_148 (by decide) ?_
  refine aw_bipush (v := 111) dX7_init_150 (by decide) ?_
  refine aw_iast dX7_init_152 rfl ?_
  refine AW.heq (h1 := [.inr (6, [.ref 1, .ref 3, .ref 11, .ref 19, .ref 27, .ref 30, .ref 36, .ref 41, .ref 40, .int 0]), .inr (4, [.ref 2, .int 0, .int 0, .int 0, .int 0]), .inl (0, (40, .inl (fun _ => 0))), .inr (0, [.int 0, .int 0, .int 0, .ref 4, .ref 5, .ref 6, .ref 7, .ref 8, .ref 9, .ref 10]), .inl (0, (6, .inl (fun _ => 0))), .inl (0, (6, .inl (fun _ => 0))), .inl (0, (36, .inl (fun _ => 0))), .inl (0, (9, .inl (fun _ => 0))), .inl (0, (9, .inl (fun _ => 0))), .inl (0, (9, .inl (fun _ => 0))), .inl (0, (9, .inl (fun _ => 0))), .inr (0, [.int 0, .int 0, .int 0, .ref 12, .ref 13, .ref 14, .ref 15, .ref 16, .ref 17, .ref 18]), .inl (0, (6, .inl (fun _ => 0))), .inl (0, (6, .inl (fun _ => 0))), .inl (0, (36, .inl (fun _ => 0))), .inl (0, (9, .inl (fun _ => 0))), .inl (0, (9, .inl (fun _ => 0))), .inl (0, (9, .inl (fun _ => 0))), .inl (0, (9, .inl (fun _ => 0))), .inr (0, [.int 0, .int 0, .int 0, .ref 20, .ref 21, .ref 22, .ref 23, .ref 24, .ref 25, .ref 26]), .inl (0, (6, .inl (fun _ => 0))), .inl (0, (6, .inl (fun _ => 0))), .inl (0, (36, .inl (fun _ => 0))), .inl (0, (9, .inl (fun _ => 0))), .inl (0, (9, .inl (fun _ => 0))), .inl (0, (9, .inl (fun _ => 0))), .inl (0, (9, .inl (fun _ => 0))), .inr (3, [.ref 28, .ref 29, .int 0, .int 0, .int 0]), .inl (0, (6, .inl (fun _ => 0))), .inl (0, (9, .inl (fun _ => 0))), .inr (1, [.ref 31, .ref 32, .ref 33, .ref 34, .ref 35, .int 0, .int 0, .int 0, .int 0]), .inl (0, (6, .inl (fun _ => 0))), .inl (0, (9, .inl (fun _ => 0))), .inl (0, (9, .inl (fun _ => 0))), .inl (0, (9, .inl (fun _ => 0))), .inl (0, (9, .inl (fun _ => 0))), .inr (5, [.ref 37, .ref 38, .ref 39, .int 0, .int 0]), .inl (0, (6, .inl (fun _ => 0))), .inl (0, (9, .inl (fun _ => 0))), .inl (1, (81, .inr (.inl (fun _ => 0)))), .inl (0, (6, .inl (fun _ => 0))), .inl (2, (4, .inr (.inr (.inr (.inr (va_up (va_up (va_up (va_up (fun _ => none) 0 (some 42)) 1 (some 44)) 2 (some 46)) 3 (some 48))))))), .inr (2, [.ref 43, .int (-1), .int 0]), .inl (0, (40, .inl (fun _ => 0))), .inr (2, [.ref 45, .int (-1), .int 0]), .inl (0, (40, .inl (fun _ => 0))), .inr (2, [.ref 47, .int (-1), .int 0]), .inl (0, (40, .inl (fun _ => 0))), .inr (2, [.ref 49, .int (-1), .int 0]), .inl (0, (40, .inl (fun _ => 0))), .inr (7, [.ref 51, .ref 52, .int 0, .ref 53, .ref 54, .int 0, .int 0, .ref 55, .int 0, .int 0, .ref 56, .int 0, .int 0, .int 0, .int 0, .null, .null, .int 0, .null, .null, .null]), .inl (0, (87, .inl (fun _ => 0))), .inl (0, (87, .inl (fun _ => 0))), .inl (0, (9, .inl (fun _ => 0))), .inl (0, (6, .inl (fun _ => 0))), .inl (0, (9, .inl (fun _ => 0))), .inl (0, (40, .inl (fun _ => 0))), .inl (0, (25, .inl (upd (upd (upd (upd (upd (upd (upd (upd (upd (upd (upd (upd (upd (upd (upd (upd (upd (fun _ => 0) 0 (116)) 1 (101)) 2 (97)) 3 (109)) 4 (32)) 5 (115)) 6 (116)) 7 (97)) 8 (114)) 9 (116)) 10 (103)) 11 (97)) 12 (109)) 13 (101)) 14 (32)) 15 (119)) 16 (111))))]) rfl ?_
  refine AW.keq (k1 := 7) (n1 := 263) rfl rfl ?_
  refine aw_dup dX7_init_153 rfl ?_
  refine aw_bipush (v := 17) dX7_init_154 (by decide) ?_
  refine aw_bipush (v := 110) dX7_init_156 (by decide) ?_
  refine aw_iast dX7_init_158 rfl ?_
  refine AW.heq (h1 := [.inr (6, [.ref 1, .ref 3, .ref 11, .ref 19, .ref 27, .ref 30, .ref 36, .ref 41, .ref 40, .int 0]), .inr (4, [.ref 2, .int 0, .int 0, .int 0, .int 0]), .inl (0, (40, .inl (fun _ => 0))), .inr (0, [.int 0, .int 0, .int 0, .ref 4, .ref 5, .ref 6, .ref 7, .ref 8, .ref 9, .ref 10]), .inl (0, (6, .inl (fun _ => 0))), .inl (0, (6, .inl (fun _ => 0))), .inl (0, (36, .inl (fun _ => 0))), .inl (0, (9, .inl (fun _ => 0))), .inl (0, (9, .inl (fun _ => 0))), .inl (0, (9, .inl (fun _ => 0))), .inl (0, (9, .inl (fun _ => 0))), .inr (0, [.int 0, .int 0, .int 0, .ref 12, .ref 13, .ref 14, .ref 15, .ref 16, .ref 17, .ref 18]), .inl (0, (6, .inl (fun _ => 0))), .inl (0, (6, .inl (fun _ => 0))), .inl (0, (36, .inl (fun _ => 0))), .inl (0, (9, .inl (fun _ => 0))), .inl (0, (9, .inl (fun _ => 0))), .inl (0, (9, .inl (fun _ => 0))), .inl (0, (9, .inl (fun _ => 0))), .inr (0, [.int 0, .int 0, .int 0, .ref 20, .ref 21, .ref 22, .ref 23, .ref 24, .ref 25, .ref 26]), .inl (0, (6, .inl (fun _ => 0))), .inl (0, (6, .inl (fun _ => 0))), .inl (0, (36, .inl (fun _ => 0))), .inl (0, (9, .inl (fun _ => 0))), .inl (0, (9, .inl (fun _ => 0))), .inl (0, (9, .inl (fun _ => 0))), .inl (0, (9, .inl (fun _ => 0))), .inr (3, [.ref 28, .ref 29, .int 0, .int 0, .int 0]), .inl (0, (6, .inl (fun _ => 0))), .inl (0, (9, .inl (fun _ => 0))), .inr (1, [.ref 31, .ref 32, .ref 33, .ref 34, .ref 35, .int 0, .int 0, .int 0, .int 0]), .inl (0, (6, .inl (fun _ => 0))), .inl (0, (9, .inl (fun _ => 0))), .inl (0, (9, .inl (fun _ => 0))), .inl (0, (9, .inl (fun _ => 0))), .inl (0, (9, .inl (fun _ => 0))), .inr (5, [.ref 37, .ref 38, .ref 39, .int 0, .int 0]), .inl (0, (6, .inl (fun _ => 0))), .inl (0, (9, .inl (fun _ => 0))), .inl (1, (81, .inr (.inl (fun _ => 0)))), .inl (0, (6, .inl (fun _ => 0))), .inl (2, (4, .inr (.inr (.inr (.inr (va_up (va_up (va_up (va_up (fun _ => none) 0 (some 42)) 1 (some 44)) 2 (some 46)) 3 (some 48))))))), .inr (2, [.ref 43, .int (-1), .int 0]), .inl (0, (40, .inl (fun _ => 0))), .inr (2, [.ref 45, .int (-1), .int 0]), .inl (0, (40, .inl (fun _ => 0))), .inr (2, [.ref 47, .int (-1), .int 0]), .inl (0, (40, .inl (fun _ => 0))), .inr (2, [.ref 49, .int (-1), .int 0]), .inl (0, (40, .inl (fun _ => 0))), .inr (7, [.ref 51, .ref 52, .int 0, .ref 53, .ref 54, .int 0, .int 0, .ref 55, .int 0, .int 0, .ref 56, .int 0, .int 0, .int 0, .int 0, .null, .null, .int 0, .null, .null, .null]), .inl (0, (87, .inl (fun _ => 0))), .inl (0, (87, .inl (fun _ => 0))), .inl (0, (9, .inl (fun _ => 0))), .inl (0, (6, .inl (fun _ => 0))), .inl (0, (9, .inl (fun _ => 0))), .inl (0, (40, .inl (fun _ => 0))), .inl (0, (25, .inl (upd (upd (upd (upd (upd (upd (upd (upd (upd (upd (upd (upd (upd (upd (upd (upd (upd (upd (fun _ => 0) 0 (116)) 1 (101)) 2 (97)) 3 (109)) 4 (32)) 5 (115)) 6 (116)) 7 (97)) 8 (114)) 9 (116)) 10 (103)) 11 (97)) 12 (109)) 13 (101)) 14 (32)) 15 (119)) 16 (111)) 17 (110))))]) rfl ?_
  refine AW.keq (k1 := 7) (n1 := 263) rfl rfl ?_
  refine aw_dup dX7_init_159 rfl ?_
  refine aw_bipush (v := 18) dX7_init_160 (by decide) ?_
  refine aw_bipush (v := 32) dX7_init_162 (by decide) ?_
  refine aw_iast dX7_init_164 rfl ?_
  refine AW.heq (h1 := [.inr (6, [.ref 1, .ref 3, .ref 11, .ref 19, .ref 27, .ref 30, .ref 36, .ref 41, .ref 40, .int 0]), .inr (4, [.ref 2, .int 0, .int 0, .int 0, .int 0]), .inl (0, (40, .inl (fun _ => 0))), .inr (0, [.int 0, .int 0, .int 0, .ref 4, .ref 5, .ref 6, .ref 7, .ref 8, .ref 9, .ref 10]), .inl (0, (6, .inl (fun _ => 0))), .inl (0, (6, .inl (fun _ => 0))), .inl (0, (36, .inl (fun _ => 0))), .inl (0, (9, .inl (fun _ => 0))), .inl (0, (9, .inl (fun _ => 0))), .inl (0, (9, .inl (fun _ => 0))), .inl (0, (9, .inl (fun _ => 0))), .inr (0, [.int 0, .int 0, .int 0, .ref 12, .ref 13, .ref 14, .ref 15, .ref 16, .ref 17, .ref 18]), .inl (0, (6, .inl (fun _ => 0))), .inl (0, (6, .inl (fun _ => 0))), .inl (0, (36, .inl (fun _ => 0))), .inl (0, (9, .inl (fun _ => 0))), .inl (0, (9, .inl (fun _ => 0))), .inl (0, (9, .inl (fun _ => 0))), .inl (0, (9, .inl (fun _ => 0))), .inr (0, [.int 0, .int 0, .int 0, .ref 20, .ref 21, .ref 22, .ref 23, .ref 24, .ref 25, .ref 26]), .inl (0, (6, .inl (fun _ => 0))), .inl (0, (6, .inl (fun _ => 0))), .inl (0, (36, .inl (fun _ => 0))), .inl (0, (9, .inl (fun _ => 0))), .inl (0, (9, .inl (fun _ => 0))), .inl (0, (9, .inl (fun _ => 0))), .inl (0, (9, .inl (fun _ => 0))), .inr (3, [.ref 28, .ref 29, .int 0, .int 0, .int 0]), .inl (0, (6, .inl (fun _ => 0))), .inl (0, (9, .inl (fun _ => 0))), .inr (1, [.ref 31, .ref 32, .ref 33, .ref 34, .ref 35, .int 0, .int 0, .int 0, .int 0]), .inl (0, (6, .inl (fun _ => 0))), .inl (0, (9, .inl (fun _ => 0))), .inl (0, (9, .inl (fun _ => 0))), .inl (0, (9, .inl (fun _ => 0))), .inl (0, (9, .inl (fun _ => 0))), .inr (5, [.ref 37, .ref 38, .ref 39, .int 0, .int 0]), .inl (0, (6, .inl (fun _ => 0))), .inl (0, (9, .inl (fun _ => 0))), .inl (1, (81, .inr (.inl (fun _ => 0)))), .inl (0, (6, .inl (fun _ => 0))), .inl (2, (4, .inr (.inr (.inr (.inr (va_up (va_up (va_up (va_up (fun _ => none) 0 (some 42)) 1 (some 44)) 2 (some 46)) 3 (some 48))))))), .inr (2, [.ref 43, .int (-1), .int 0]), .inl (0, (40, .inl (fun _ => 0))), .inr (2, [.ref 45, .int (-1), .int 0]), .inl (0, (40, .inl (fun _ => 0))), .inr (2, [.ref 47, .int (-1), .int 0]), .inl (0, (40, .inl (fun _ => 0))), .inr (2, [.ref 49, .int (-1), .int 0]), .inl (0, (40, .inl (fun _ => 0))), .inr (7, [.ref 51, .ref 52, .int 0, .ref 53, .ref 54, .int 0, .int 0, .ref 55, .int 0, .int 0, .ref 56, .int 0, .int 0, .int 0, .int 0, .null, .null, .int 0, .null, .null, .null]), .inl (0, (87, .inl (fun _ => 0))), .inl (0, (87, .inl (fun _ => 0))), .inl (0, (9, .inl (fun _ => 0))), .inl (0, (6, .inl (fun _ => 0))), .inl (0, (9, .inl (fun _ => 0))), .inl (0, (40, .inl (fun _ => 0))), .inl (0, (25, .inl (upd (upd (upd (upd (upd (upd (upd (upd (upd (upd (upd (upd (upd (upd (upd (upd (upd (upd (upd (fun _ => 0) 0 (116)) 1 (101)) 2 (97)) 3 (109)) 4 (32)) 5 (115)) 6 (116)) 7 (97)) 8 (114)) 9 (116)) 10 (103)) 11 (97)) 12 (109)) 13 (101)) 14 (32)) 15 (119)) 16 (111)) 17 (110)) 18 (32))))]) rfl ?_
  refine AW.keq (k1 := 7) (n1 := 263) rfl rfl ?_
  refine aw_dup dX7_init_165 rfl ?_
  refine aw_bipush (v := 19) dX7_init_166 (by decide) ?_
  refine aw_bipush (v := 32) dX7_init_168 (by decide) ?_
  refine aw_iast dX7_init_170 rfl ?_
  refine AW.heq (h1 := [.inr (6, [.ref 1, .ref 3, .ref 11, .ref 19, .ref 27, .ref 30, .ref 36, .ref 41, .ref 40, .int 0]), .inr (4, [.ref 2, .int 0, .int 0, .int 0, .int 0]), .inl (0, (40, .inl (fun _ => 0))), .inr (0, [.int 0, .int 0, .int 0, .ref 4, .ref 5, .ref 6, .ref 7, .ref 8, .ref 9, .ref 10]), .inl (0, (6, .inl (fun _ => 0))), .inl (0, (6, .inl (fun _ => 0))), .inl (0, (36, .inl (fun _ => 0))), .inl (0, (9, .inl (fun _ => 0))), .inl (0, (9, .inl (fun _ => 0))), .inl (0, (9, .inl (fun _ => 0))), .inl (0, (9, .inl (fun _ => 0))), .inr (0, [.int 0, .int 0, .int 0, .ref 12, .ref 13, .ref 14, .ref 15, .ref 16, .ref 17, .ref 18]), .inl (0, (6, .inl (fun _ => 0))), .inl (0, (6, .inl (fun _ => 0))), .inl (0, (36, .inl (fun _ => 0))), .inl (0, (9, .inl (fun _ => 0))), .inl (0, (9, .inl (fun _ => 0))), .inl (0, (9, .inl (fun _ => 0))), .inl (0, (9, .inl (fun _ => 0))), .inr (0, [.int 0, .int 0, .int 0, .ref 20, .ref 21, .ref 22, .ref 23, .ref 24, .ref 25, .ref 26]), .inl (0, (6, .inl (fun _ => 0))), .inl (0, (6, .inl (fun _ => 0))), .inl (0, (36, .inl (fun _ => 0))), .inl (0, (9, .inl (fun _ => 0))), .inl (0, (9, .inl (fun _ => 0))), .inl (0, (9, .inl (fun _ => 0))), .inl (0, (9, .inl (fun _ => 0))), .inr (3, [.ref 28, .ref 29, .int 0, .int 0, .int 0]), .inl (0, (6, .inl (fun _ => 0))), .inl (0, (9, .inl (fun _ => 0))), .inr (1, [.ref 31, .ref 32, .ref 33, .ref 34, .ref 35, .int 0, .int 0, .int 0, .int 0]), .inl (0, (6, .inl (fun _ => 0))), .inl (0, (9, .inl (fun _ => 0))), .inl (0, (9, .inl (fun _ => 0))), .inl (0, (9, .inl (fun _ => 0))), .inl (0, (9, .inl (fun _ => 0))), .inr (5, [.ref 37, .ref 38, .ref 39, .int 0, .int 0]), .inl (0, (6, .inl (fun _ => 0))), .inl (0, (9, .inl (fun _ => 0))), .inl (1, (81, .inr (.inl (fun _ => 0)))), .inl (0, (6, .inl (fun _ => 0))), .inl (2, (4, .inr (.inr (.inr (.inr (va_up (va_up (va_up (va_up (fun _ => none) 0 (some 42)) 1 (some 44)) 2 (some 46)) 3 (some 48))))))), .inr (2, [.ref 43, .int (-1), .int 0]), .inl (0, (40, .inl (fun _ => 0))), .inr (2, [.ref 45, .int (-1), .int 0]), .inl (0, (40, .inl (fun _ => 0))), .inr (2, [.ref 47, .int (-1), .int 0]), .inl (0, (40, .inl (fun _ => 0))), .inr (2, [.ref 49, .int (-1), .int 0]), .inl (0, (40, .inl (fun _ => 0))), .inr (7, [.ref 51, .ref 52, .int 0, .ref 53, .ref 54, .int 0, .int 0, .ref 55, .int 0, .int 0, .ref 56, .int 0, .int 0, .int 0, .int 0, .null, .null, .int 0, .null, .null, .null]), .inl (0, (87, .inl (fun _ => 0))), .inl (0, (87, .inl (fun _ => 0))), .inl (0, (9, .inl (fun _ => 0))), .inl (0, (6, .inl (fun _ => 0))), .inl (0, (9, .inl (fun _ => 0))), .inl (0, (40, .inl (fun _ => 0))), .inl (0, (25, .inl (upd (upd (upd (upd (upd (upd (upd (upd (upd (upd (upd (upd (upd (upd (upd (upd (upd (upd (upd (upd (fun _ => 0) 0 (116)) 1 (101)) 2 (97)) 3 (109)) 4 (32)) 5 (115)) 6 (116)) 7 (97)) 8 (114)) 9 (116)) 10 (103)) 11 (97)) 12 (109)) 13 (101)) 14 (32)) 15 (119)) 16 (111)) 17 (110)) 18 (32)) 19 (32))))]) rfl ?_
  refine AW.keq (k1 := 7) (n1 := 263) rfl rfl ?_
  refine aw_dup dX7_init_171 rfl ?_
  refine aw_bipush (v := 20) dX7_init_172 (by decide) ?_
  refine aw_bipush (v := 100) dX7_init_174 (by decide) ?_
  refine aw_iast dX7_init_176 rfl ?_
  refine AW.heq (h1 := [.inr (6, [.ref 1, .ref 3, .ref 11, .ref 19, .ref 27, .ref 30, .ref 36, .ref 41, .ref 40, .int 0]), .inr (4, [.ref 2, .int 0, .int 0, .int 0, .int 0]), .inl (0, (40, .inl (fun _ => 0))), .inr (0, [.int 0, .int 0, .int 0, .ref 4, .ref 5, .ref 6, .ref 7, .ref 8, .ref 9, .ref 10]), .inl (0, (6, .inl (fun _ => 0))), .inl (0, (6, .inl (fun _ => 0))), .inl (0, (36, .inl (fun _ => 0))), .inl (0, (9, .inl (fun _ => 0))), .inl (0, (9, .inl (fun _ => 0))), .inl (0, (9, .inl (fun _ => 0))), .inl (0, (9, .inl (fun _ => 0))), .inr (0, [.int 0, .int 0, .int 0, .ref 12, .ref 13, .ref 14, .ref 15, .ref 16, .ref 17, .ref 18]), .inl (0, (6, .inl (fun _ => 0))), .inl (0, (6, .inl (fun _ => 0))), .inl (0, (36, .inl (fun _ => 0))), .inl (0, (9, .inl (fun _ => 0))), .inl (0, (9, .inl (fun _ => 0))), .inl (0, (9, .inl (fun _ => 0))), .inl (0, (9, .inl (fun _ => 0))), .inr (0, [.int 0, .int 0, .int 0, .ref 20, .ref 21, .ref 22, .ref 23, .ref 24, .ref 25, .ref 26]), .inl (0, (6, .inl (fun _ => 0))), .inl (0, (6, .inl (fun _ => 0))), .inl (0, (36, .inl (fun _ => 0))), .inl (0, (9, .inl (fun _ => 0))), .inl (0, (9, .inl (fun _ => 0))), .inl (0, (9, .inl (fun _ => 0))), .inl (0, (9, .inl (fun _ => 0))), .inr (3, [.ref 28, .ref 29, .int 0, .int 0, .int 0]), .inl (0, (6, .inl (fun _ => 0))), .inl (0, (9, .inl (fun _ => 0))), .inr (1, [.ref 31, .ref 32, .ref 33, .ref 34, .ref 35, .int 0, .int 0, .int 0, .int 0]), .inl (0, (6, .inl (fun _ => 0))), .inl (0, (9, .inl (fun _ => 0))), .inl (0, (9, .inl (fun _ => 0))), .inl (0, (9, .inl (fun _ => 0))), .inl (0, (9, .inl (fun _ => 0))), .inr (5, [.ref 37, .ref 38, .ref 39, .int 0, .int 0]), .inl (0, (6, .inl (fun _ => 0))), .inl (0, (9, .inl (fun _ => 0))), .inl (1, (81, .inr (.inl (fun _ => 0)))), .inl (0, (6, .inl (fun _ => 0))), .inl (2, (4, .inr (.inr (.inr (.inr (va_up (va_up (va_up (va_up (fun _ => none) 0 (some 42)) 1 (some 44)) 2 (some 46)) 3 (some 48))))))), .inr (2, [.ref 43, .int (-1), .int 0]), .inl (0, (40, .inl (fun _ => 0))), .inr (2, [.ref 45, .int (-1), .int 0]), .inl (0, (40, .inl (fun _ => 0))), .inr (2, [.ref 47, .int (-1), .int 0]), .inl (0, (40, .inl (fun _ => 0))), .inr (2, [.ref 49, .int (-1), .int 0]), .inl (0, (40, .inl (fun _ => 0))), .inr (7, [.ref 51, .ref 52, .int 0, .ref 53, .ref 54, .int 0, .int 0, .ref 55, .int 0, .int 0, .ref 56, .int 0, .int 0, .int 0, .int 0, .null, .null, .int 0, .null, .null, .null]), .inl (0, (87, .inl (fun _ => 0))), .inl (0, (87, .inl (fun _ => 0))), .inl (0, (9, .inl (fun _ => 0))), .inl (0, (6, .inl (fun _ => 0))), .inl (0, (9, .inl (fun _ => 0))), .inl (0, (40, .inl (fun _ => 0))), .inl (0, (25, .inl (upd (upd (upd (upd (upd (upd (upd (upd (upd (upd (upd (upd (upd (upd (upd (upd (upd (upd (upd (upd (upd (fun _ => 0) 0 (116)) 1 (101)) 2 (97)) 3 (109)) 4 (32)) 5 (115)) 6 (116)) 7 (97)) 8 (114)) 9 (116)) 10 (103)) 11 (97)) 12 (109)) 13 (101)) 14 (32)) 15 (119)) 16 (111)) 17 (110)) 18 (32)) 19 (32)) 20 (100))))]) rfl ?_
  refine AW.keq (k1 := 7) (n1 := 263) rfl rfl ?_
  refine aw_dup dX7_init_177 rfl ?_
  refine aw_bipush (v := 21) dX7_init_178 (by decide) ?_
  refine aw_bipush (v := 114) dX7_init_180 (by decide) ?_
  refine aw_iast dX7_init_182 rfl ?_
  refine AW.heq (h1 := [.inr (6, [.ref 1, .ref 3, .ref 11, .ref 19, .ref 27, .ref 30, .ref 36, .ref 41, .ref 40, .int 0]), .inr (4, [.ref 2, .int 0, .int 0, .int 0, .int 0]), .inl (0, (40, .inl (fun _ => 0))), .inr (0, [.int 0, .int 0, .int 0, .ref 4, .ref 5, .ref 6, .ref 7, .ref 8, .ref 9, .ref 10]), .inl (0, (6, .inl (fun _ => 0))), .inl (0, (6, .inl (fun _ => 0))), .inl (0, (36, .inl (fun _ => 0))), .inl (0, (9, .inl (fun _ => 0))), .inl (0, (9, .inl (fun _ => 0))), .inl (0, (9, .inl (fun _ => 0))), .inl (0, (9, .inl (fun _ => 0))), .inr (0, [.int 0, .int 0, .int 0, .ref 12, .ref 13, .ref 14, .ref 15, .ref 16, .ref 17, .ref 18]), .inl (0, (6, .inl (fun _ => 0))), .inl (0, (6, .inl (fun _ => 0))), .inl (0, (36, .inl (fun _ => 0))), .inl (0, (9, .inl (fun _ => 0))), .inl (0, (9, .inl (fun _ => 0))), .inl (0, (9, .inl (fun _ => 0))), .inl (0, (9, .inl (fun _ => 0))), .inr (0, [.int 0, .int 0, .int 0, .ref 20, .ref 21, .ref 22, .ref 23, .ref 24, .ref 25, .ref 26]), .inl (0, (6, .inl (fun _ => 0))), .inl (0, (6, .inl (fun _ => 0))), .inl (0, (36, .inl (fun _ => 0))), .inl (0, (9, .inl (fun _ => 0))), .inl (0, (9, .inl (fun _ => 0))), .inl (0, (9, .inl (fun _ => 0))), .inl (0, (9, .inl (fun _ => 0))), .inr (3, [.ref 28, .ref 29, .int 0, .int 0, .int 0]), .inl (0, (6, .inl (fun _ => 0))), .inl (0, (9, .inl (fun _ => 0))), .inr (1, [.ref 31, .ref 32, .ref 33, .ref 34, .ref 35, .int 0, .int 0, .int 0, .int 0]), .inl (0, (6, .inl (fun _ => 0))), .inl (0, (9, .inl (fun _ => 0))), .inl (0, (9, .inl (fun _ => 0))), .inl (0, (9, .inl (fun _ => 0))), .inl (0, (9, .inl (fun _ => 0))), .inr (5, [.ref 37, .ref 38, .ref 39, .int 0, .int 0]), .inl (0, (6, .inl (fun _ => 0))), .inl (0, (9, .inl (fun _ => 0))), .inl (1, (81, .inr (.inl (fun _ => 0)))), .inl (0, (6, .inl (fun _ => 0))), .inl (2, (4, .inr (.inr (.inr (.inr (va_up (va_up (va_up (va_up (fun _ => none) 0 (some 42)) 1 (some 44)) 2 (some 46)) 3 (some 48))))))), .inr (2, [.ref 43, .int (-1), .int 0]), .inl (0, (40, .inl (fun _ => 0))), .inr (2, [.ref 45, .int (-1), .int 0]), .inl (0, (40, .inl (fun _ => 0))), .inr (2, [.ref 47, .int (-1), .int 0]), .inl (0, (40, .inl (fun _ => 0))), .inr (2, [.ref 49, .int (-1), .int 0]), .inl (0, (40, .inl (fun _ => 0))), .inr (7, [.ref 51, .ref 52, .int 0, .ref 53, .ref 54, .int 0, .int 0, .ref 55, .int 0, .int 0, .ref 56, .int 0, .int 0, .int 0, .int 0, .null, .null, .int 0, .null, .null, .null]), .inl (0, (87, .inl (fun _ => 0))), .inl (0, (87, .inl (fun _ => 0))), .inl (0, (9, .inl (fun _ => 0))), .inl (0, (6, .inl (fun _ => 0))), .inl (0, (9, .inl (fun _ => 0))), .inl (0, (40, .inl (fun _ => 0))), .inl (0, (25, .inl (upd (upd (upd (upd (upd (upd (upd (upd (upd (upd (upd (upd (upd (upd (upd (upd (upd (upd (upd (upd (upd (upd (fun _ => 0) 0 (116)) 1 (101)) 2 (97)) 3 (109)) 4 (32)) 5 (115)) 6 (116)) 7 (97)) 8 (114)) 9 (116)) 10 (103)) 11 (97)) 12 (109)) 13 (101)) 14 (32)) 15 (119)) 16 (111)) 17 (110)) 18 (32)) 19 (32)) 20 (100)) 21 (114))))]) rfl ?_
  refine AW.keq (k1 := 7) (n1 := 263) rfl rfl ?_
  refine aw_dup dX7_init_183 rfl ?_
  refine aw_bipush (v := 22) dX7_init_184 (by decide) ?_
  refine aw_bipush (v := 101) dX7_init_186 (by decide) ?_
  refine aw_iast dX7_init_188 rfl ?_
  refine AW.heq (h1 := [.inr (6, [.ref 1, .ref 3, .ref 11, .ref 19, .ref 27, .ref 30, .ref 36, .ref 41, .ref 40, .int 0]), .inr (4, [.ref 2, .int 0, .int 0, .int 0, .int 0]), .inl (0, (40, .inl (fun _ => 0))), .inr (0, [.int 0, .int 0, .int 0, .ref 4, .ref 5, .ref 6, .ref 7, .ref 8, .ref 9, .ref 10]), .inl (0, (6, .inl (fun _ => 0))), .inl (0, (6, .inl (fun _ => 0))), .inl (0, (36, .inl (fun _ => 0))), .inl (0, (9, .inl (fun _ => 0))), .inl (0, (9, .inl (fun _ => 0))), .inl (0, (9, .inl (fun _ => 0))), .inl (0, (9, .inl (fun _ => 0))), .inr (0, [.int 0, .int 0, .int 0, .ref 12, .ref 13, .ref 14, .ref 15, .ref 16, .ref 17, .ref 18]), .inl (0, (6, .inl (fun _ => 0))), .inl (0, (6, .inl (fun _ => 0))), .inl (0, (36, .inl (fun _ => 0))), .inl (0, (9, .inl (fun _ => 0))), .inl (0, (9, .inl (fun _ => 0))), .inl (0, (9, .inl (fun _ => 0))), .inl (0, (9, .inl (fun _ => 0))), .inr (0, [.int 0, .int 0, .int 0, .ref 20, .ref 21, .ref 22, .ref 23, .ref 24, .ref 25, .ref 26]), .inl (0, (6, .inl (fun _ => 0))), .inl (0, (6, .inl (fun _ => 0))), .inl (0, (36, .inl (fun _ => 0))), .inl (0, (9, .inl (fun _ => 0))), .inl (0, (9, .inl (fun _ => 0))), .inl (0, (9, .inl (fun _ => 0))), .inl (0, (9, .inl (fun _ => 0))), .inr (3, [.ref 28, .ref 29, .int 0, .int 0, .int 0]), .inl (0, (6, .inl (fun _ => 0))), .inl (0, (9, .inl (fun _ => 0))), .inr (1, [.ref 31, .ref 32, .ref 33, .ref 34, .ref 35, .int 0, .int 0, .int 0, .int 0]), .inl (0, (6, .inl (fun _ => 0))), .inl (0, (9, .inl (fun _ => 0))), .inl (0, (9, .inl (fun _ => 0))), .inl (0, (9, .inl (fun _ => 0))), .inl (0, (9, .inl (fun _ => 0))), .inr (5, [.ref 37, .ref 38, .ref 39, .int 0, .int 0]), .inl (0, (6, .inl (fun _ => 0))), .inl (0, (9, .inl (fun _ => 0))), .inl (1, (81, .inr (.inl (fun _ => 0)))), .inl (0, (6, .inl (fun _ => 0))), .inl (2, (4, .inr (.inr (.inr (.inr (va_up (va_up (va_up (va_up (fun _ => none) 0 (some 42)) 1 (some 44)) 2 (some 46)) 3 (some 48))))))), .inr (2, [.ref 43, .int (-1), .int 0]), .inl (0, (40, .inl (fun _ => 0))), .inr (2, [.ref 45, .int (-1), .int 0]), .inl (0, (40, .inl (fun _ => 0))), .inr (2, [.ref 47, .int (-1), .int 0]), .inl (0, (40, .inl (fun _ => 0))), .inr (2, [.ref 49, .int (-1), .int 0]), .inl (0, (40, .inl (fun _ => 0))), .inr (7, [.ref 51, .ref 52, .int 0, .ref 53, .ref 54, .int 0, .int 0, .ref 55, .int 0, .int 0, .ref 56, .int 0, .int 0, .int 0, .int 0, .null, .null, .int 0, .null, .null, .null]), .inl (0, (87, .inl (fun _ => 0))), .inl (0, (87, .inl (fun _ => 0))), .inl (0, (9, .inl (fun _ => 0))), .inl (0, (6, .inl (fun _ => 0))), .inl (0, (9, .inl (fun _ => 0))), .inl (0, (40, .inl (fun _ => 0))), .inl (0, (25, .inl (upd (upd (upd (upd (upd (upd (upd (upd (upd (upd (upd (upd (upd (upd (upd (upd (upd (upd (upd (upd (upd (upd (upd (fun _ => 0) 0 (116)) 1 (101)) 2 (97)) 3 (109)) 4 (32)) 5 (115)) 6 (116)) 7 (97)) 8 (114)) 9 (116)) 10 (103)) 11 (97)) 12 (109)) 13 (101)) 14 (32)) 15 (119)) 16 (111)) 17 (110)) 18 (32)) 19 (32)) 20 (100)) 21 (114)) 22 (101))))]) rfl ?_
  refine AW.keq (k1 := 7) (n1 := 263) rfl rfl ?_
  refine aw_dup dX7_init_189 rfl ?_
  refine aw_bipush (v := 23) dX7_init_190 (by decide) ?_
  refine aw_bipush (v := 119) dX7_init_192 (by decide) ?_
  refine aw_iast dX7_init_194 rfl ?_
  refine AW.heq (h1 := [.inr (6, [.ref 1, .ref 3, .ref 11, .ref 19, .ref 27, .ref 30, .ref 36, .ref 41, .ref 40, .int 0]), .inr (4, [.ref 2, .int 0, .int 0, .int 0, .int 0]), .inl (0, (40, .inl (fun _ => 0))), .inr (0, [.int 0, .int 0, .int 0, .ref 4, .ref 5, .ref 6, .ref 7, .ref 8, .ref 9, .ref 10]), .inl (0, (6, .inl (fun _ => 0))), .inl (0, (6, .inl (fun _ => 0))), .inl (0, (36, .inl (fun _ => 0))), .inl (0, (9, .inl (fun _ => 0))), .inl (0, (9, .inl (fun _ => 0))), .inl (0, (9, .inl (fun _ => 0))), .inl (0, (9, .inl (fun _ => 0))), .inr (0, [.int 0, .int 0, .int 0, .ref 12, .ref 13, .ref 14, .ref 15, .ref 16, .ref 17, .ref 18]), .inl (0, (6, .inl (fun _ => 0))), .inl (0, (6, .inl (fun _ => 0))), .inl (0, (36, .inl (fun _ => 0))), .inl (0, (9, .inl (fun _ => 0))), .inl (0, (9, .inl (fun _ => 0))), .inl (0, (9, .inl (fun _ => 0))), .inl (0, (9, .inl (fun _ => 0))), .inr (0, [.int 0, .int 0, .int 0, .ref 20, .ref 21, .ref 22, .ref 23, .ref 24, .ref 25, .ref 26]), .inl (0, (6, .inl (fun _ => 0))), .inl (0, (6, .inl (fun _ => 0))), .inl (0, (36, .inl (fun _ => 0))), .inl (0, (9, .inl (fun _ => 0))), .inl (0, (9, .inl (fun _ => 0))), .inl (0, (9, .inl (fun _ => 0))), .inl (0, (9, .inl (fun _ => 0))), .inr (3, [.ref 28, .ref 29, .int 0, .int 0, .int 0]), .inl (0, (6, .inl (fun _ => 0))), .inl (0, (9, .inl (fun _ => 0))), .inr (1, [.ref 31, .ref 32, .ref 33, .ref 34, .ref 35, .int 0, .int 0, .int 0, .int 0]), .inl (0, (6, .inl (fun _ => 0))), .inl (0, (9, .inl (fun _ => 0))), .inl (0, (9, .inl (fun _ => 0))), .inl (0, (9, .inl (fun _ => 0))), .inl (0, (9, .inl (fun _ => 0))), .inr (5, [.ref 37, .ref 38, .ref 39, .int 0, .int 0]), .inl (0, (6, .inl (fun _ => 0))), .inl (0, (9, .inl (fun _ => 0))), .inl (1, (81, .inr (.inl (fun _ => 0)))), .inl (0, (6, .inl (fun _ => 0))), .inl (2, (4, .inr (.inr (.inr (.inr (va_up (va_up (va_up (va_up (fun _ => none) 0 (some 42)) 1 (some 44)) 2 (some 46)) 3 (some 48))))))), .inr (2, [.ref 43, .int (-1), .int 0]), .inl (0, (40, .inl (fun _ => 0))), .inr (2, [.ref 45, .int (-1), .int 0]), .inl (0, (40, .inl (fun _ => 0))), .inr (2, [.ref 47, .int (-1), .int 0]), .inl (0, (40, .inl (fun _ => 0))), .inr (2, [.ref 49, .int (-1), .int 0]), .inl (0, (40, .inl (fun _ => 0))), .inr (7, [.ref 51, .ref 52, .int 0, .ref 53, .ref 54, .int 0, .int 0, .ref 55, .int 0, .int 0, .ref 56, .int 0, .int 0, .int 0, .int 0, .null, .null, .int 0, .null, .null, .null]), .inl (0, (87, .inl (fun _ => 0))), .inl (0, (87, .inl (fun _ => 0))), .inl (0, (9, .inl (fun _ => 0))), .inl (0, (6, .inl (fun _ => 0))), .inl (0, (9, .inl (fun _ => 0))), .inl (0, (40, .inl (fun _ => 0))), .inl (0, (25, .inl (upd (upd (upd (upd (upd (upd (upd (upd (upd (upd (upd (upd (upd (upd (upd (upd (upd (upd (upd (upd (upd (upd (upd (upd (fun _ => 0) 0 (116)) 1 (101)) 2 (97)) 3 (109)) 4 (32)) 5 (115)) 6 (116)) 7 (97)) 8 (114)) 9 (116)) 10 (103)) 11 (97)) 12 (109)) 13 (101)) 14 (32)) 15 (119)) 16 (111)) 17 (110)) 18 (32)) 19 (32)) 20 (100)) 21 (114)) 22 (101)) 23 (119))))]) rfl ?_
  refine AW.keq (k1 := 7) (n1 := 263) rfl rfl ?_
  refine aw_dup dX7_init_195 rfl ?_
  refine aw_bipush (v := 24) dX7_init_196 (by decide) ?_
  refine aw_bipush (v := 32) dX7_init_198 (by decide) ?_
  refine aw_iast dX7_init_200 rfl ?_
  refine AW.heq (h1 := [.inr (6, [.ref 1, .ref 3, .ref 11, .ref 19, .ref 27, .ref 30, .ref 36, .ref 41, .ref 40, .int 0]), .inr (4, [.ref 2, .int 0, .int 0, .int 0, .int 0]), .inl (0, (40, .inl (fun _ => 0))), .inr (0, [.int 0, .int 0, .int 0, .ref 4, .ref 5, .ref 6, .ref 7, .ref 8, .ref 9, .ref 10]), .inl (0, (6, .inl (fun _ => 0))), .inl (0, (6, .inl (fun _ => 0))), .inl (0, (36, .inl (fun _ => 0))), .inl (0, (9, .inl (fun _ => 0))), .inl (0, (9, .inl (fun _ => 0))), .inl (0, (9, .inl (fun _ => 0))), .inl (0, (9, .inl (fun _ => 0))), .inr (0, [.int 0, .int 0, .int 0, .ref 12, .ref 13, .ref 14, .ref 15, .ref 16, .ref 17, .ref 18]), .inl (0, (6, .inl (fun _ => 0))), .inl (0, (6, .inl (fun _ => 0))), .inl (0, (36, .inl (fun _ => 0))), .inl (0, (9, .inl (fun _ => 0))), .inl (0, (9, .inl (fun _ => 0))), .inl (0, (9, .inl (fun _ => 0))), .inl (0, (9, .inl (fun _ => 0))), .inr (0, [.int 0, .int 0, .int 0, .ref 20, .ref 21, .ref 22, .ref 23, .ref 24, .ref 25, .ref 26]), .inl (0, (6, .inl (fun _ => 0))), .inl (0, (6, .inl (fun _ => 0))), .inl (0, (36, .inl (fun _ => 0))), .inl (0, (9, .inl (fun _ => 0))), .inl (0, (9, .inl (fun _ => 0))), .inl (0, (9, .inl (fun _ => 0))), .inl (0, (9, .inl (fun _ => 0))), .inr (3, [.ref 28, .ref 29, .int 0, .int 0, .int 0]), .inl (0, (6, .inl (fun _ => 0))), .inl (0, (9, .inl (fun _ => 0))), .inr (1, [.ref 31, .ref 32, .ref 33, .ref 34, .ref 35, .int 0, .int 0, .int 0, .int 0]), .inl (0, (6, .inl (fun _ => 0))), .inl (0, (9, .inl (fun _ => 0))), .inl (0, (9, .inl (fun _ => 0))), .inl (0, (9, .inl (fun _ => 0))), .inl (0, (9, .inl (fun _ => 0))), .inr (5, [.ref 37, .ref 38, .ref 39, .int 0, .int 0]), .inl (0, (6, .inl (fun _ => 0))), .inl (0, (9, .inl (fun _ => 0))), .inl (1, (81, .inr (.inl (fun _ => 0)))), .inl (0, (6, .inl (fun _ => 0))), .inl (2, (4, .inr (.inr (.inr (.inr (va_up (va_up (va_up (va_up (fun _ => none) 0 (some 42)) 1 (some 44)) 2 (some 46)) 3 (some 48))))))), .inr (2, [.ref 43, .int (-1), .int 0]), .inl (0, (40, .inl (fun _ => 0))), .inr (2, [.ref 45, .int (-1), .int 0]), .inl (0, (40, .inl (fun _ => 0))), .inr (2, [.ref 47, .int (-1), .int 0]), .inl (0, (40, .inl (fun _ => 0))), .inr (2, [.ref 49, .int (-1), .int 0]), .inl (0, (40, .inl (fun _ => 0))), .inr (7, [.ref 51, .ref 52, .int 0, .ref 53, .ref 54, .int 0, .int 0, .ref 55, .int 0, .int 0, .ref 56, .int 0, .int 0, .int 0, .int 0, .null, .null, .int 0, .null, .null, .null]), .inl (0, (87, .inl (fun _ => 0))), .inl (0, (87, .inl (fun _ => 0))), .inl (0, (9, .inl (fun _ => 0))), .inl (0, (6, .inl (fun _ => 0))), .inl (0, (9, .inl (fun _ => 0))), .inl (0, (40, .inl (fun _ => 0))), .inl (0, (25, .inl (upd (upd (upd (upd (upd (upd (upd (upd (upd (upd (upd (upd (upd (upd (upd (upd (upd (upd (upd (upd (upd (upd (upd (upd (upd (fun _ => 0) 0 (116)) 1 (101)) 2 (97)) 3 (109)) 4 (32)) 5 (115)) 6 (116)) 7 (97)) 8 (114)) 9 (116)) 10 (103)) 11 (97)) 12 (109)) 13 (101)) 14 (32)) 15 (119)) 16 (111)) 17 (110)) 18 (32)) 19 (32)) 20 (100)) 21 (114)) 22 (101)) 23 (119)) 24 (32))))]) rfl ?_
  refine AW.keq (k1 := 7) (n1 := 263) rfl rfl ?_
  refine aw_putF hn dX7_init_201 pnX7_28 (fun _ => ⟨rfl, rfl⟩) rfl ?_
  refine AW.heq (h1 := [.inr (6, [.ref 1, .ref 3, .ref 11, .ref 19, .ref 27, .ref 30, .ref 36, .ref 41, .ref 40, .int 0]), .inr (4, [.ref 2, .int 0, .int 0, .int 0, .int 0]), .inl (0, (40, .inl (fun _ => 0))), .inr (0, [.int 0, .int 0, .int 0, .ref 4, .ref 5, .ref 6, .ref 7, .ref 8, .ref 9, .ref 10]), .inl (0, (6, .inl (fun _ => 0))), .inl (0, (6, .inl (fun _ => 0))), .inl (0, (36, .inl (fun _ => 0))), .inl (0, (9, .inl (fun _ => 0))), .inl (0, (9, .inl (fun _ => 0))), .inl (0, (9, .inl (fun _ => 0))), .inl (0, (9, .inl (fun _ => 0))), .inr (0, [.int 0, .int 0, .int 0, .ref 12, .ref 13, .ref 14, .ref 15, .ref 16, .ref 17, .ref 18]), .inl (0, (6, .inl (fun _ => 0))), .inl (0, (6, .inl (fun _ => 0))), .inl (0, (36, .inl (fun _ => 0))), .inl (0, (9, .inl (fun _ => 0))), .inl (0, (9, .inl (fun _ => 0))), .inl (0, (9, .inl (fun _ => 0))), .inl (0, (9, .inl (fun _ => 0))), .inr (0, [.int 0, .int 0, .int 0, .ref 20, .ref 21, .ref 22, .ref 23, .ref 24, .ref 25, .ref 26]), .inl (0, (6, .inl (fun _ => 0))), .inl (0, (6, .inl (fun _ => 0))), .inl (0, (36, .inl (fun _ => 0))), .inl (0, (9, .inl (fun _ => 0))), .inl (0, (9, .inl (fun _ => 0))), .inl (0, (9, .inl (fun _ => 0))), .inl (0, (9, .inl (fun _ => 0))), .inr (3, [.ref 28, .ref 29, .int 0, .int 0, .int 0]), .inl (0, (6, .inl (fun _ => 0))), .inl (0, (9, .inl (fun _ => 0))), .inr (1, [.ref 31, .ref 32, .ref 33, .ref 34, .ref 35, .int 0, .int 0, .int 0, .int 0]), .inl (0, (6, .inl (fun _ => 0))), .inl (0, (9, .inl (fun _ => 0))), .inl (0, (9, .inl (fun _ => 0))), .inl (0, (9, .inl (fun _ => 0))), .inl (0, (9, .inl (fun _ => 0))), .inr (5, [.ref 37, .ref 38, .ref 39, .int 0, .int 0]), .inl (0, (6, .inl (fun _ => 0))), .inl (0, (9, .inl (fun _ => 0))), .inl (1, (81, .inr (.inl (fun _ => 0)))), .inl (0, (6, .inl (fun _ => 0))), .inl (2, (4, .inr (.inr (.inr (.inr (va_up (va_up (va_up (va_up (fun _ => none) 0 (some 42)) 1 (some 44)) 2 (some 46)) 3 (some 48))))))), .inr (2, [.ref 43, .int (-1), .int 0]), .inl (0, (40, .inl (fun _ => 0))), .inr (2, [.ref 45, .int (-1), .int 0]), .inl (0, (40, .inl (fun _ => 0))), .inr (2, [.ref 47, .int (-1), .int 0]), .inl (0, (40, .inl (fun _ => 0))), .inr (2, [.ref 49, .int (-1), .int 0]), .inl (0, (40, .inl (fun _ => 0))), .inr (7, [.ref 51, .ref 52, .int 0, .ref 53, .ref 54, .int 0, .int 0, .ref 55, .int 0, .int 0, .ref 56, .int 0, .int 0, .int 0, .int 0, .ref 57, .null, .int 0, .null, .null, .null]), .inl (0, (87, .inl (fun _ => 0))), .inl (0, (87, .inl (fun _ => 0))), .inl (0, (9, .inl (fun _ => 0))), .inl (0, (6, .inl (fun _ => 0))), .inl (0, (9, .inl (fun _ => 0))), .inl (0, (40, .inl (fun _ => 0))), .inl (0, (25, .inl (upd (upd (upd (upd (upd (upd (upd (upd (upd (upd (upd (upd (upd (upd (upd (upd (upd (upd (upd (upd (upd (upd (upd (upd (upd (fun _ => 0) 0 (116)) 1 (101)) 2 (97)) 3 (109)) 4 (32)) 5 (115)) 6 (116)) 7 (97)) 8 (114)) 9 (116)) 10 (103)) 11 (97)) 12 (109)) 13 (101)) 14 (32)) 15 (119)) 16 (111)) 17 (110)) 18 (32)) 19 (32)) 20 (100)) 21 (114)) 22 (101)) 23 (119)) 24 (32))))]) rfl ?_
  refine AW.keq (k1 := 7) (n1 := 263) rfl rfl ?_
  refine aw_aload_n 0 dX7_init_204 rfl rfl ?_
  refine aw_sipush (v := 486) dX7_init_205 (by decide) ?_
  refine aw_newa (kd := 0) (N := 486) (ty := .int) (a0 := (486, .inl (fun _ => 0))) dX7_init_208 wa_int rfl (Or.inl ⟨rfl, rfl⟩) (ha_int 486) (fun _ => rfl) (by decide) (by decide) (by decide) ⟨Nat.le_of_ble_eq_true rfl, Nat.le_of_ble_eq_true rfl⟩ (N0 := 58) (by decide +kernel) (by decide) (by decide +kernel) (by decide +kernel) (fun a8 A8 => ?_)
  refine AW.heq (h1 := [.inr (6, [.ref 1, .ref 3, .ref 11, .ref 19, .ref 27, .ref 30, .ref 36, .ref 41, .ref 40, .int 0]), .inr (4, [.ref 2, .int 0, .int 0, .int 0, .int 0]), .inl (0, (40, .inl (fun _ => 0))), .inr (0, [.int 0, .int 0, .int 0, .ref 4, .ref 5, .ref 6, .ref 7, .ref 8, .ref 9, .ref 10]), .inl (0, (6, .inl (fun _ => 0))), .inl (0, (6, .inl (fun _ => 0))), .inl (0, (36, .inl (fun _ => 0))), .inl (0, (9, .inl (fun _ => 0))), .inl (0, (9, .inl (fun _ => 0))), .inl (0, (9, .inl (fun _ => 0))), .inl (0, (9, .inl (fun _ => 0))), .inr (0, [.int 0, .int 0, .int 0, .ref 12, .ref 13, .ref 14, .ref 15, .ref 16, .ref 17, .ref 18]), .inl (0, (6, .inl (fun _ => 0))), .inl (0, (6, .inl (fun _ => 0))), .inl (0, (36, .inl (fun _ => 0))), .inl (0, (9, .inl (fun _ => 0))), .inl (0, (9, .inl (fun _ => 0))), .inl (0, (9, .inl (fun _ => 0))), .inl (0, (9, .inl (fun _ => 0))), .inr (0, [.int 0, .int 0, .int 0, .ref 20, .ref 21, .ref 22, .ref 23, .ref 24, .ref 25, .ref 26]), .inl (0, (6, .inl (fun _ => 0))), .inl (0, (6, .inl (fun _ => 0))), .inl (0, (36, .inl (fun _ => 0))), .inl (0, (9, .inl (fun _ => 0))), .inl (0, (9, .inl (fun _ => 0))), .inl (0, (9, .inl (fun _ => 0))), .inl (0, (9, .inl (fun _ => 0))), .inr (3, [.ref 28, .ref 29, .int 0, .int 0, .int 0]), .inl (0, (6, .inl (fun _ => 0))), .inl (0, (9, .inl (fun _ => 0))), .inr (1, [.ref 31, .ref 32, .ref 33, .ref 34, .ref 35, .int 0, .int 0, .int 0, .int 0]), .inl (0, (6, .inl (fun _ => 0))), .inl (0, (9, .inl (fun _ => 0))), .inl (0, (9, .inl (fun _ => 0))), .inl (0, (9, .inl (fun _ => 0))), .inl (0, (9, .inl (fun _ => 0))), .inr (5, [.ref 37, .ref 38, .ref 39, .int 0, .int 0]), .inl (0, (6, .inl (fun _ => 0))), .inl (0, (9, .inl (fun _ => 0))), .inl (1, (81, .inr (.inl (fun _ => 0)))), .inl (0, (6, .inl (fun _ => 0))), .inl (2, (4, .inr (.inr (.inr (.inr (va_up (va_up (va_up (va_up (fun _ => none) 0 (some 42)) 1 (some 44)) 2 (some 46)) 3 (some 48))))))), .inr (2, [.ref 43, .int (-1), .int 0]), .inl (0, (40, .inl (fun _ => 0))), .inr (2, [.ref 45, .int (-1), .int 0]), .inl (0, (40, .inl (fun _ => 0))), .inr (2, [.ref 47, .int (-1), .int 0]), .inl (0, (40, .inl (fun _ => 0))), .inr (2, [.ref 49, .int (-1), .int 0]), .inl (0, (40, .inl (fun _ => 0))), .inr (7, [.ref 51, .ref 52, .int 0, .ref 53, .ref 54, .int 0, .int 0, .ref 55, .int 0, .int 0, .ref 56, .int 0, .int 0, .int 0, .int 0, .ref 57, .null, .int 0, .null, .null, .null]), .inl (0, (87, .inl (fun _ => 0))), .inl (0, (87, .inl (fun _ => 0))), .inl (0, (9, .inl (fun _ => 0))), .inl (0, (6, .inl (fun _ => 0))), .inl (0, (9, .inl (fun _ => 0))), .inl (0, (40, .inl (fun _ => 0))), .inl (0, (25, .inl (upd (upd (upd (upd (upd (upd (upd (upd (upd (upd (upd (upd (upd (upd (upd (upd (upd (upd (upd (upd (upd (upd (upd (upd (upd (fun _ => 0) 0 (116)) 1 (101)) 2 (97)) 3 (109)) 4 (32)) 5 (115)) 6 (116)) 7 (97)) 8 (114)) 9 (116)) 10 (103)) 11 (97)) 12 (109)) 13 (101)) 14 (32)) 15 (119)) 16 (111)) 17 (110)) 18 (32)) 19 (32)) 20 (100)) 21 (114)) 22 (101)) 23 (119)) 24 (32)))), .inl (0, (486, .inl (fun _ => 0)))]) rfl ?_
  refine AW.keq (k1 := 8) (n1 := 749) rfl rfl ?_
  refine aw_putF hn dX7_init_210 pnX7_31 (fun _ => ⟨rfl, rfl⟩) rfl ?_
  refine AW.heq (h1 := [.inr (6, [.ref 1, .ref 3, .ref 11, .ref 19, .ref 27, .ref 30, .ref 36, .ref 41, .ref 40, .int 0]), .inr (4, [.ref 2, .int 0, .int 0, .int 0, .int 0]), .inl (0, (40, .inl (fun _ => 0))), .inr (0, [.int 0, .int 0, .int 0, .ref 4, .ref 5, .ref 6, .ref 7, .ref 8, .ref 9, .ref 10]), .inl (0, (6, .inl (fun _ => 0))), .inl (0, (6, .inl (fun _ => 0))), .inl (0, (36, .inl (fun _ => 0))), .inl (0, (9, .inl (fun _ => 0))), .inl (0, (9, .inl (fun _ => 0))), .inl (0, (9, .inl (fun _ => 0))), .inl (0, (9, .inl (fun _ => 0))), .inr (0, [.int 0, .int 0, .int 0, .ref 12, .ref 13, .ref 14, .ref 15, .ref 16, .ref 17, .ref 18]), .inl (0, (6, .inl (fun _ => 0))), .inl (0, (6, .inl (fun _ => 0))), .inl (0, (36, .inl (fun _ => 0))), .inl (0, (9, .inl (fun _ => 0))), .inl (0, (9, .inl (fun _ => 0))), .inl (0, (9, .inl (fun _ => 0))), .inl (0, (9, .inl (fun _ => 0))), .inr (0, [.int 0, .int 0, .int 0, .ref 20, .ref 21, .ref 22, .ref 23, .ref 24, .ref 25, .ref 26]), .inl (0, (6, .inl (fun _ => 0))), .inl (0, (6, .inl (fun _ => 0))), .inl (0, (36, .inl (fun _ => 0))), .inl (0, (9, .inl (fun _ => 0))), .inl (0, (9, .inl (fun _ => 0))), .inl (0, (9, .inl (fun _ => 0))), .inl (0, (9, .inl (fun _ => 0))), .inr (3, [.ref 28, .ref 29, .int 0, .int 0, .int 0]), .inl (0, (6, .inl (fun _ => 0))), .inl (0, (9, .inl (fun _ => 0))), .inr (1, [.ref 31, .ref 32, .ref 33, .ref 34, .ref 35, .int 0, .int 0, .int 0, .int 0]), .inl (0, (6, .inl (fun _ => 0))), .inl (0, (9, .inl (fun _ => 0))), .inl (0, (9, .inl (fun _ => 0))), .inl (0, (9, .inl (fun _ => 0))), .inl (0, (9, .inl (fun _ => 0))), .inr (5, [.ref 37, .ref 38, .ref 39, .int 0, .int 0]), .inl (0, (6, .inl (fun _ => 0))), .inl (0, (9, .inl (fun _ => 0))), .inl (1, (81, .inr (.inl (fun _ => 0)))), .inl (0, (6, .inl (fun _ => 0))), .inl (2, (4, .inr (.inr (.inr (.inr (va_up (va_up (va_up (va_up (fun _ => none) 0 (some 42)) 1 (some 44)) 2 (some 46)) 3 (some 48))))))), .inr (2, [.ref 43, .int (-1), .int 0]), .inl (0, (40, .inl (fun _ => 0))), .inr (2, [.ref 45, .int (-1), .int 0]), .inl (0, (40, .inl (fun _ => 0))), .inr (2, [.ref 47, .int (-1), .int 0]), .inl (0, (40, .inl (fun _ => 0))), .inr (2, [.ref 49, .int (-1), .int 0]), .inl (0, (40, .inl (fun _ => 0))), .inr (7, [.ref 51, .ref 52, .int 0, .ref 53, .ref 54, .int 0, .int 0, .ref 55, .int 0, .int 0, .ref 56, .int 0, .int 0, .int 0, .int 0, .ref 57, .ref 58, .int 0, .null, .null, .null]), .inl (0, (87, .inl (fun _ => 0))), .inl (0, (87, .inl (fun _ => 0))), .inl (0, (9, .inl (fun _ => 0))), .inl (0, (6, .inl (fun _ => 0))), .inl (0, (9, .inl (fun _ => 0))), .inl (0, (40, .inl (fun _ => 0))), .inl (0, (25, .inl (upd (upd (upd (upd (upd (upd (upd (upd (upd (upd (upd (upd (upd (upd (upd (upd (upd (upd (upd (upd (upd (upd (upd (upd (upd (fun _ => 0) 0 (116)) 1 (101)) 2 (97)) 3 (109)) 4 (32)) 5 (115)) 6 (116)) 7 (97)) 8 (114)) 9 (116)) 10 (103)) 11 (97)) 12 (109)) 13 (101)) 14 (32)) 15 (119)) 16 (111)) 17 (110)) 18 (32)) 19 (32)) 20 (100)) 21 (114)) 22 (101)) 23 (119)) 24 (32)))), .inl (0, (486, .inl (fun _ => 0)))]) rfl ?_
  refine AW.keq (k1 := 8) (n1 := 749) rfl rfl ?_
  refine aw_aload_n 0 dX7_init_213 rfl rfl ?_
  refine aw_iconst (v := 4) dX7_init_214 (by decide) ?_
  refine aw_newa (kd := 0) (N := 4) (ty := .int) (a0 := (4, .inl (fun _ => 0))) dX7_init_215 wa_int rfl (Or.inl ⟨rfl, rfl⟩) (ha_int 4) (fun _ => rfl) (by decide) (by decide) (by decide) ⟨Nat.le_of_ble_eq_true rfl, Nat.le_of_ble_eq_true rfl⟩ (N0 := 59) (by decide +kernel) (by decide) (by decide +kernel) (by decide +kernel) (fun a9 A9 => ?_)
  refine AW.heq (h1 := [.inr (6, [.ref 1, .ref 3, .ref 11, .ref 19, .ref 27, .ref 30, .ref 36, .ref 41, .ref 40, .int 0]), .inr (4, [.ref 2, .int 0, .int 0, .int 0, .int 0]), .inl (0, (40, .inl (fun _ => 0))), .inr (0, [.int 0, .int 0, .int 0, .ref 4, .ref 5, .ref 6, .ref 7, .ref 8, .ref 9, .ref 10]), .inl (0, (6, .inl (fun _ => 0))), .inl (0, (6, .inl (fun _ => 0))), .inl (0, (36, .inl (fun _ => 0))), .inl (0, (9, .inl (fun _ => 0))), .inl (0, (9, .inl (fun _ => 0))), .inl (0, (9, .inl (fun _ => 0))), .inl (0, (9, .inl (fun _ => 0))), .inr (0, [.int 0, .int 0, .int 0, .ref 12, .ref 13, .ref 14, .ref 15, .ref 16, .ref 17, .ref 18]), .inl (0, (6, .inl (fun _ => 0))), .inl (0, (6, .inl (fun _ => 0))), .inl (0, (36, .inl (fun _ => 0))), .inl (0, (9, .inl (fun _ => 0))), .inl (0, (9, .inl (fun _ => 0))), .inl (0, (9, .inl (fun _ => 0))), .inl (0, (9, .inl (fun _ => 0))), .inr (0, [.int 0, .int 0, .int 0, .ref 20, .ref 21, .ref 22, .ref 23, .ref 24, .ref 25, .ref 26]), .inl (0, (6, .inl (fun _ => 0))), .inl (0, (6, .inl (fun _ => 0))), .inl (0, (36, .inl (fun _ => 0))), .inl (0, (9, .inl (fun _ => 0))), .inl (0, (9, .inl (fun _ => 0))), .inl (0, (9, .inl (fun _ => 0))), .inl (0, (9, .inl (fun _ => 0))), .inr (3, [.ref 28, .ref 29, .int 0, .int 0, .int 0]), .inl (0, (6, .inl (fun _ => 0))), .inl (0, (9, .inl (fun _ => 0))), .inr (1, [.ref 31, .ref 32, .ref 33, .ref 34, .ref 35, .int 0, .int 0, .int 0, .int 0]), .inl (0, (6, .inl (fun _ => 0))), .inl (0, (9, .inl (fun _ => 0))), .inl (0, (9, .inl (fun _ => 0))), .inl (0, (9, .inl (fun _ => 0))), .inl (0, (9, .inl (fun _ => 0))), .inr (5, [.ref 37, .ref 38, .ref 39, .int 0, .int 0]), .inl (0, (6, .inl (fun _ => 0))), .inl (0, (9, .inl (fun _ => 0))), .inl (1, (81, .inr (.inl (fun _ => 0)))), .inl (0, (6, .inl (fun _ => 0))), .inl (2, (4, .inr (.inr (.inr (.inr (va_up (va_up (va_up (va_up (fun _ => none) 0 (some 42)) 1 (some 44)) 2 (some 46)) 3 (some 48))))))), .inr (2, [.ref 43, .int (-1), .int 0]), .inl (0, (40, .inl (fun _ => 0))), .inr (2, [.ref 45, .int (-1), .int 0]), .inl (0, (40, .inl (fun _ => 0))), .inr (2, [.ref 47, .int (-1), .int 0]), .inl (0, (40, .inl (fun _ => 0))), .inr (2, [.ref 49, .int (-1), .int 0]), .inl (0, (40, .inl (fun _ => 0))), .inr (7, [.ref 51, .ref 52, .int 0, .ref 53, .ref 54, .int 0, .int 0, .ref 55, .int 0, .int 0, .ref 56, .int 0, .int 0, .int 0, .int 0, .ref 57, .ref 58, .int 0, .null, .null, .null]), .inl (0, (87, .inl (fun _ => 0))), .inl (0, (87, .inl (fun _ => 0))), .inl (0, (9, .inl (fun _ => 0))), .inl (0, (6, .inl (fun _ => 0))), .inl (0, (9, .inl (fun _ => 0))), .inl (0, (40, .inl (fun _ => 0))), .inl (0, (25, .inl (upd (upd (upd (upd (upd (upd (upd (upd (upd (upd (upd (upd (upd (upd (upd (upd (upd (upd (upd (upd (upd (upd (upd (upd (upd (fun _ => 0) 0 (116)) 1 (101)) 2 (97)) 3 (109)) 4 (32)) 5 (115)) 6 (116)) 7 (97)) 8 (114)) 9 (116)) 10 (103)) 11 (97)) 12 (109)) 13 (101)) 14 (32)) 15 (119)) 16 (111)) 17 (110)) 18 (32)) 19 (32)) 20 (100)) 21 (114)) 22 (101)) 23 (119)) 24 (32)))), .inl (0, (486, .inl (fun _ => 0))), .inl (0, (4, .inl (fun _ => 0)))]) rfl ?_
  refine AW.keq (k1 := 9) (n1 := 753) rfl rfl ?_
  refine aw_dup dX7_init_217 rfl ?_
  refine aw_iconst (v := 0) dX7_init_218 (by decide) ?_
  refine aw_iconst (v := -1) dX7_init_219 (by decide) ?_
  refine aw_iast dX7_init_220 rfl ?_
  refine AW.heq (h1 := [.inr (6, [.ref 1, .ref 3, .ref 11, .ref 19, .ref 27, .ref 30, .ref 36, .ref 41, .ref 40, .int 0]), .inr (4, [.ref 2, .int 0, .int 0, .int 0, .int 0]), .inl (0, (40, .inl (fun _ => 0))), .inr (0, [.int 0, .int 0, .int 0, .ref 4, .ref 5, .ref 6, .ref 7, .ref 8, .ref 9, .ref 10]), .inl (0, (6, .inl (fun _ => 0))), .inl (0, (6, .inl (fun _ => 0))), .inl (0, (36, .inl (fun _ => 0))), .inl (0, (9, .inl (fun _ => 0))), .inl (0, (9, .inl (fun _ => 0))), .inl (0, (9, .inl (fun _ => 0))), .inl (0, (9, .inl (fun _ => 0))), .inr (0, [.int 0, .int 0, .int 0, .ref 12, .ref 13, .ref 14, .ref 15, .ref 16, .ref 17, .ref 18]), .inl (0, (6, .inl (fun _ => 0))), .inl (0, (6, .inl (fun _ => 0))), .inl (0, (36, .inl (fun _ => 0))), .inl (0, (9, .inl (fun _ => 0))), .inl (0, (9, .inl (fun _ => 0))), .inl (0, (9, .inl (fun _ => 0))), .inl (0, (9, .inl (fun _ => 0))), .inr (0, [.int 0, .int 0, .int 0, .ref 20, .ref 21, .ref 22, .ref 23, .ref 24, .ref 25, .ref 26]), .inl (0, (6, .inl (fun _ => 0))), .inl (0, (6, .inl (fun _ => 0))), .inl (0, (36, .inl (fun _ => 0))), .inl (0, (9, .inl (fun _ => 0))), .inl (0, (9, .inl (fun _ => 0))), .inl (0, (9, .inl (fun _ => 0))), .inl (0, (9, .inl (fun _ => 0))), .inr (3, [.ref 28, .ref 29, .int 0, .int 0, .int 0]), .inl (0, (6, .inl (fun _ => 0))), .inl (0, (9, .inl (fun _ => 0))), .inr (1, [.ref 31, .ref 32, .ref 33, .ref 34, .ref 35, .int 0, .int 0, .int 0, .int 0]), .inl (0, (6, .inl (fun _ => 0))), .inl (0, (9, .inl (fun _ => 0))), .inl (0, (9, .inl (fun _ => 0))), .inl (0, (9, .inl (fun _ => 0))), .inl (0, (9, .inl (fun _ => 0))), .inr (5, [.ref 37, .ref 38, .ref 39, .int 0, .int 0]), .inl (0, (6, .inl (fun _ => 0))), .inl (0, (9, .inl (fun _ => 0))), .inl (1, (81, .inr (.inl (fun _ => 0)))), .inl (0, (6, .inl (fun _ => 0))), .inl (2, (4, .inr (.inr (.inr (.inr (va_up (va_up (va_up (va_up (fun _ => none) 0 (some 42)) 1 (some 44)) 2 (some 46)) 3 (some 48))))))), .inr (2, [.ref 43, .int (-1), .int 0]), .inl (0, (40, .inl (fun _ => 0))), .inr (2, [.ref 45, .int (-1), .int 0]), .inl (0, (40, .inl (fun _ => 0))), .inr (2, [.ref 47, .int (-1), .int 0]), .inl (0, (40, .inl (fun _ => 0))), .inr (2, [.ref 49, .int (-1), .int 0]), .inl (0, (40, .inl (fun _ => 0))), .inr (7, [.ref 51, .ref 52, .int 0, .ref 53, .ref 54, .int 0, .int 0, .ref 55, .int 0, .int 0, .ref 56, .int 0, .int 0, .int 0, .int 0, .ref 57, .ref 58, .int 0, .null, .null, .null]), .inl (0, (87, .inl (fun _ => 0))), .inl (0, (87, .inl (fun _ => 0))), .inl (0, (9, .inl (fun _ => 0))), .inl (0, (6, .inl (fun _ => 0))), .inl (0, (9, .inl (fun _ => 0))), .inl (0, (40, .inl (fun _ => 0))), .inl (0, (25, .inl (upd (upd (upd (upd (upd (upd (upd (upd (upd (upd (upd (upd (upd (upd (upd (upd (upd (upd (upd (upd (upd (upd (upd (upd (upd (fun _ => 0) 0 (116)) 1 (101)) 2 (97)) 3 (109)) 4 (32)) 5 (115)) 6 (116)) 7 (97)) 8 (114)) 9 (116)) 10 (103)) 11 (97)) 12 (109)) 13 (101)) 14 (32)) 15 (119)) 16 (111)) 17 (110)) 18 (32)) 19 (32)) 20 (100)) 21 (114)) 22 (101)) 23 (119)) 24 (32)))), .inl (0, (486, .inl (fun _ => 0))), .inl (0, (4, .inl (upd (fun _ => 0) 0 (-1))))]) rfl ?_
  refine AW.keq (k1 := 9) (n1 := 753) rfl rfl ?_
  refine aw_dup dX7_init_221 rfl ?_
  refine aw_iconst (v := 1) dX7_init_222 (by decide) ?_
  refine aw_iconst (v := -1) dX7_init_223 (by decide) ?_
  refine aw_iast dX7_init_224 rfl ?_
  refine AW.heq (h1 := [.inr (6, [.ref 1, .ref 3, .ref 11, .ref 19, .ref 27, .ref 30, .ref 36, .ref 41, .ref 40, .int 0]), .inr (4, [.ref 2, .int 0, .int 0, .int 0, .int 0]), .inl (0, (40, .inl (fun _ => 0))), .inr (0, [.int 0, .int 0, .int 0, .ref 4, .ref 5, .ref 6, .ref 7, .ref 8, .ref 9, .ref 10]), .inl (0, (6, .inl (fun _ => 0))), .inl (0, (6, .inl (fun _ => 0))), .inl (0, (36, .inl (fun _ => 0))), .inl (0, (9, .inl (fun _ => 0))), .inl (0, (9, .inl (fun _ => 0))), .inl (0, (9, .inl (fun _ => 0))), .inl (0, (9, .inl (fun _ => 0))), .inr (0, [.int 0, .int 0, .int 0, .ref 12, .ref 13, .ref 14, .ref 15, .ref 16, .ref 17, .ref 18]), .inl (0, (6, .inl (fun _ => 0))), .inl (0, (6, .inl (fun _ => 0))), .inl (0, (36, .inl (fun _ => 0))), .inl (0, (9, .inl (fun _ => 0))), .inl (0, (9, .inl (fun _ => 0))), .inl (0, (9, .inl (fun _ => 0))), .inl (0, (9, .inl (fun _ => 0))), .inr (0, [.int 0, .int 0, .int 0, .ref 20, .ref 21, .ref 22, .ref 23, .ref 24, .ref 25, .ref 26]), .inl (0, (6, .inl (fun _ => 0))), .inl (0, (6, .inl (fun _ => 0))), .inl (0, (36, .inl (fun _ => 0))), .inl (0, (9, .inl (fun _ => 0))), .inl (0, (9, .inl (fun _ => 0))), .inl (0, (9, .inl (fun _ => 0))), .inl (0, (9, .inl (fun _ => 0))), .inr (3, [.ref 28, .ref 29, .int 0, .int 0, .int 0]), .inl (0, (6, .inl (fun _ => 0))), .inl (0, (9, .inl (fun _ => 0))), .inr (1, [.ref 31, .ref 32, .ref 33, .ref 34, .ref 35, .int 0, .int 0, .int 0, .int 0]), .inl (0, (6, .inl (fun _ => 0))), .inl (0, (9, .inl (fun _ => 0))), .inl (0, (9, .inl (fun _ => 0))), .inl (0, (9, .inl (fun _ => 0))), .inl (0, (9, .inl (fun _ => 0))), .inr (5, [.ref 37, .ref 38, .ref 39, .int 0, .int 0]), .inl (0, (6, .inl (fun _ => 0))), .inl (0, (9, .inl (fun _ => 0))), .inl (1, (81, .inr (.inl (fun _ => 0)))), .inl (0, (6, .inl (fun _ => 0))), .inl (2, (4, .inr (.inr (.inr (.inr (va_up (va_up (va_up (va_up (fun _ => none) 0 (some 42)) 1 (some 44)) 2 (some 46)) 3 (some 48))))))), .inr (2, [.ref 43, .int (-1), .int 0]), .inl (0, (40, .inl (fun _ => 0))), .inr (2, [.ref 45, .int (-1), .int 0]), .inl (0, (40, .inl (fun _ => 0))), .inr (2, [.ref 47, .int (-1), .int 0]), .inl (0, (40, .inl (fun _ => 0))), .inr (2, [.ref 49, .int (-1), .int 0]), .inl (0, (40, .inl (fun _ => 0))), .inr (7, [.ref 51, .ref 52, .int 0, .ref 53, .ref 54, .int 0, .int 0, .ref 55, .int 0, .int 0, .ref 56, .int 0, .int 0, .int 0, .int 0, .ref 57, .ref 58, .int 0, .null, .null, .null]), .inl (0, (87, .inl (fun _ => 0))), .inl (0, (87, .inl (fun _ => 0))), .inl (0, (9, .inl (fun _ => 0))), .inl (0, (6, .inl (fun _ => 0))), .inl (0, (9, .inl (fun _ => 0))), .inl (0, (40, .inl (fun _ => 0))), .inl (0, (25, .inl (upd (upd (upd (upd (upd (upd (upd (upd (upd (upd (upd (upd (upd (upd (upd (upd (upd (upd (upd (upd (upd (upd (upd (upd (upd (fun _ => 0) 0 (116)) 1 (101)) 2 (97)) 3 (109)) 4 (32)) 5 (115)) 6 (116)) 7 (97)) 8 (114)) 9 (116)) 10 (103)) 11 (97)) 12 (109)) 13 (101)) 14 (32)) 15 (119)) 16 (111)) 17 (110)) 18 (32)) 19 (32)) 20 (100)) 21 (114)) 22 (101)) 23 (119)) 24 (32)))), .inl (0, (486, .inl (fun _ => 0))), .inl (0, (4, .inl (upd (upd (fun _ => 0) 0 (-1)) 1 (-1))))]) rfl ?_
  refine AW.keq (k1 := 9) (n1 := 753) rfl rfl ?_
  refine aw_dup dX7_init_225 rfl ?_
  refine aw_iconst (v := 2) dX7_init_226 (by decide) ?_
  refine aw_iconst (v := -1) dX7_init_227 (by decide) ?_
  refine aw_iast dX7_init_228 rfl ?_
  refine AW.heq (h1 := [.inr (6, [.ref 1, .ref 3, .ref 11, .ref 19, .ref 27, .ref 30, .ref 36, .ref 41, .ref 40, .int 0]), .inr (4, [.ref 2, .int 0, .int 0, .int 0, .int 0]), .inl (0, (40, .inl (fun _ => 0))), .inr (0, [.int 0, .int 0, .int 0, .ref 4, .ref 5, .ref 6, .ref 7, .ref 8, .ref 9, .ref 10]), .inl (0, (6, .inl (fun _ => 0))), .inl (0, (6, .inl (fun _ => 0))), .inl (0, (36, .inl (fun _ => 0))), .inl (0, (9, .inl (fun _ => 0))), .inl (0, (9, .inl (fun _ => 0))), .inl (0, (9, .inl (fun _ => 0))), .inl (0, (9, .inl (fun _ => 0))), .inr (0, [.int 0, .int 0, .int 0, .ref 12, .ref 13, .ref 14, .ref 15, .ref 16, .ref 17, .ref 18]), .inl (0, (6, .inl (fun _ => 0))), .inl (0, (6, .inl (fun _ => 0))), .inl (0, (36, .inl (fun _ => 0))), .inl (0, (9, .inl (fun _ => 0))), .inl (0, (9, .inl (fun _ => 0))), .inl (0, (9, .inl (fun _ => 0))), .inl (0, (9, .inl (fun _ => 0))), .inr (0, [.int 0, .int 0, .int 0, .ref 20, .ref 21, .ref 22, .ref 23, .ref 24, .ref 25, .ref 26]), .inl (0, (6, .inl (fun _ => 0))), .inl (0, (6, .inl (fun _ => 0))), .inl (0, (36, .inl (fun _ => 0))), .inl (0, (9, .inl (fun _ => 0))), .inl (0, (9, .inl (fun _ => 0))), .inl (0, (9, .inl (fun _ => 0))), .inl (0, (9, .inl (fun _ => 0))), .inr (3, [.ref 28, .ref 29, .int 0, .int 0, .int 0]), .inl (0, (6, .inl (fun _ => 0))), .inl (0, (9, .inl (fun _ => 0))), .inr (1, [.ref 31, .ref 32, .ref 33, .ref 34, .ref 35, .int 0, .int 0, .int 0, .int 0]), .inl (0, (6, .inl (fun _ => 0))), .inl (0, (9, .inl (fun _ => 0))), .inl (0, (9, .inl (fun _ => 0))), .inl (0, (9, .inl (fun _ => 0))), .inl (0, (9, .inl (fun _ => 0))), .inr (5, [.ref 37, .ref 38, .ref 39, .int 0, .int 0]), .inl (0, (6, .inl (fun _ => 0))), .inl (0, (9, .inl (fun _ => 0))), .inl (1, (81, .inr (.inl (fun _ => 0)))), .inl (0, (6, .inl (fun _ => 0))), .inl (2, (4, .inr (.inr (.inr (.inr (va_up (va_up (va_up (va_up (fun _ => none) 0 (some 42)) 1 (some 44)) 2 (some 46)) 3 (some 48))))))), .inr (2, [.ref 43, .int (-1), .int 0]), .inl (0, (40, .inl (fun _ => 0))), .inr (2, [.ref 45, .int (-1), .int 0]), .inl (0, (40, .inl (fun _ => 0))), .inr (2, [.ref 47, .int (-1), .int 0]), .inl (0, (40, .inl (fun _ => 0))), .inr (2, [.ref 49, .int (-1), .int 0]), .inl (0, (40, .inl (fun _ => 0))), .inr (7, [.ref 51, .ref 52, .int 0, .ref 53, .ref 54, .int 0, .int 0, .ref 55, .int 0, .int 0, .ref 56, .int 0, .int 0, .int 0, .int 0, .ref 57, .ref 58, .int 0, .null, .null, .null]), .inl (0, (87, .inl (fun _ => 0))), .inl (0, (87, .inl (fun _ => 0))), .inl (0, (9, .inl (fun _ => 0))), .inl (0, (6, .inl (fun _ => 0))), .inl (0, (9, .inl (fun _ => 0))), .inl (0, (40, .inl (fun _ => 0))), .inl (0, (25, .inl (upd (upd (upd (upd (upd (upd (upd (upd (upd (upd (upd (upd (upd (upd (upd (upd (upd (upd (upd (upd (upd (upd (upd (upd (upd (fun _ => 0) 0 (116)) 1 (101)) 2 (97)) 3 (109)) 4 (32)) 5 (115)) 6 (116)) 7 (97)) 8 (114)) 9 (116)) 10 (103)) 11 (97)) 12 (109)) 13 (101)) 14 (32)) 15 (119)) 16 (111)) 17 (110)) 18 (32)) 19 (32)) 20 (100)) 21 (114)) 22 (101)) 23 (119)) 24 (32)))), .inl (0, (486, .inl (fun _ => 0))), .inl (0, (4, .inl (upd (upd (upd (fun _ => 0) 0 (-1)) 1 (-1)) 2 (-1))))]) rfl ?_
  refine AW.keq (k1 := 9) (n1 := 753) rfl rfl ?_
  refine aw_dup dX7_init_229 rfl ?_
  refine aw_iconst (v := 3) dX7_init_230 (by decide) ?_
  refine aw_iconst (v := -1) dX7_init_231 (by decide) ?_
  refine aw_iast dX7_init_232 rfl ?_
  refine AW.heq (h1 := [.inr (6, [.ref 1, .ref 3, .ref 11, .ref 19, .ref 27, .ref 30, .ref 36, .ref 41, .ref 40, .int 0]), .inr (4, [.ref 2, .int 0, .int 0, .int 0, .int 0]), .inl (0, (40, .inl (fun _ => 0))), .inr (0, [.int 0, .int 0, .int 0, .ref 4, .ref 5, .ref 6, .ref 7, .ref 8, .ref 9, .ref 10]), .inl (0, (6, .inl (fun _ => 0))), .inl (0, (6, .inl (fun _ => 0))), .inl (0, (36, .inl (fun _ => 0))), .inl (0, (9, .inl (fun _ => 0))), .inl (0, (9, .inl (fun _ => 0))), .inl (0, (9, .inl (fun _ => 0))), .inl (0, (9, .inl (fun _ => 0))), .inr (0, [.int 0, .int 0, .int 0, .ref 12, .ref 13, .ref 14, .ref 15, .ref 16, .ref 17, .ref 18]), .inl (0, (6, .inl (fun _ => 0))), .inl (0, (6, .inl (fun _ => 0))), .inl (0, (36, .inl (fun _ => 0))), .inl (0, (9, .inl (fun _ => 0))), .inl (0, (9, .inl (fun _ => 0))), .inl (0, (9, .inl (fun _ => 0))), .inl (0, (9, .inl (fun _ => 0))), .inr (0, [.int 0, .int 0, .int 0, .ref 20, .ref 21, .ref 22, .ref 23, .ref 24, .ref 25, .ref 26]), .inl (0, (6, .inl (fun _ => 0))), .inl (0, (6, .inl (fun _ => 0))), .inl (0, (36, .inl (fun _ => 0))), .inl (0, (9, .inl (fun _ => 0))), .inl (0, (9, .inl (fun _ => 0))), .inl (0, (9, .inl (fun _ => 0))), .inl (0, (9, .inl (fun _ => 0))), .inr (3, [.ref 28, .ref 29, .int 0, .int 0, .int 0]), .inl (0, (6, .inl (fun _ => 0))), .inl (0, (9, .inl (fun _ => 0))), .inr (1, [.ref 31, .ref 32, .ref 33, .ref 34, .ref 35, .int 0, .int 0, .int 0, .int 0]), .inl (0, (6, .inl (fun _ => 0))), .inl (0, (9, .inl (fun _ => 0))), .inl (0, (9, .inl (fun _ => 0))), .inl (0, (9, .inl (fun _ => 0))), .inl (0, (9, .inl (fun _ => 0))), .inr (5, [.ref 37, .ref 38, .ref 39, .int 0, .int 0]), .inl (0, (6, .inl (fun _ => 0))), .inl (0, (9, .inl (fun _ => 0))), .inl (1, (81, .inr (.inl (fun _ => 0)))), .inl (0, (6, .inl (fun _ => 0))), .inl (2, (4, .inr (.inr (.inr (.inr (va_up (va_up (va_up (va_up (fun _ => none) 0 (some 42)) 1 (some 44)) 2 (some 46)) 3 (some 48))))))), .inr (2, [.ref 43, .int (-1), .int 0]), .inl (0, (40, .inl (fun _ => 0))), .inr (2, [.ref 45, .int (-1), .int 0]), .inl (0, (40, .inl (fun _ => 0))), .inr (2, [.ref 47, .int (-1), .int 0]), .inl (0, (40, .inl (fun _ => 0))), .inr (2, [.ref 49, .int (-1), .int 0]), .inl (0, (40, .inl (fun _ => 0))), .inr (7, [.ref 51, .ref 52, .int 0, .ref 53, .ref 54, .int 0, .int 0, .ref 55, .int 0, .int 0, .ref 56, .int 0, .int 0, .int 0, .int 0, .ref 57, .ref 58, .int 0, .null, .null, .null]), .inl (0, (87, .inl (fun _ => 0))), .inl (0, (87, .inl (fun _ => 0))), .inl (0, (9, .inl (fun _ => 0))), .inl (0, (6, .inl (fun _ => 0))), .inl (0, (9, .inl (fun _ => 0))), .inl (0, (40, .inl (fun _ => 0))), .inl (0, (25, .inl (upd (upd (upd (upd (upd (upd (upd (upd (upd (upd (upd (upd (upd (upd (upd (upd (upd (upd (upd (upd (upd (upd (upd (upd (upd (fun _ => 0) 0 (116)) 1 (101)) 2 (97)) 3 (109)) 4 (32)) 5 (115)) 6 (116)) 7 (97)) 8 (114)) 9 (116)) 10 (103)) 11 (97)) 12 (109)) 13 (101)) 14 (32)) 15 (119)) 16 (111)) 17 (110)) 18 (32)) 19 (32)) 20 (100)) 21 (114)) 22 (101)) 23 (119)) 24 (32)))), .inl (0, (486, .inl (fun _ => 0))), .inl (0, (4, .inl (upd (upd (upd (upd (fun _ => 0) 0 (-1)) 1 (-1)) 2 (-1)) 3 (-1))))]) rfl ?_
  refine AW.keq (k1 := 9) (n1 := 753) rfl rfl ?_
  refine aw_putF hn dX7_init_233 pnX7_34 (fun _ => ⟨rfl, rfl⟩) rfl ?_
  refine AW.heq (h1 := [.inr (6, [.ref 1, .ref 3, .ref 11, .ref 19, .ref 27, .ref 30, .ref 36, .ref 41, .ref 40, .int 0]), .inr (4, [.ref 2, .int 0, .int 0, .int 0, .int 0]), .inl (0, (40, .inl (fun _ => 0))), .inr (0, [.int 0, .int 0, .int 0, .ref 4, .ref 5, .ref 6, .ref 7, .ref 8, .ref 9, .ref 10]), .inl (0, (6, .inl (fun _ => 0))), .inl (0, (6, .inl (fun _ => 0))), .inl (0, (36, .inl (fun _ => 0))), .inl (0, (9, .inl (fun _ => 0))), .inl (0, (9, .inl (fun _ => 0))), .inl (0, (9, .inl (fun _ => 0))), .inl (0, (9, .inl (fun _ => 0))), .inr (0, [.int 0, .int 0, .int 0, .ref 12, .ref 13, .ref 14, .ref 15, .ref 16, .ref 17, .ref 18]), .inl (0, (6, .inl (fun _ => 0))), .inl (0, (6, .inl (fun _ => 0))), .inl (0, (36, .inl (fun _ => 0))), .inl (0, (9, .inl (fun _ => 0))), .inl (0, (9, .inl (fun _ => 0))), .inl (0, (9, .inl (fun _ => 0))), .inl (0, (9, .inl (fun _ => 0))), .inr (0, [.int 0, .int 0, .int 0, .ref 20, .ref 21, .ref 22, .ref 23, .ref 24, .ref 25, .ref 26]), .inl (0, (6, .inl (fun _ => 0))), .inl (0, (6, .inl (fun _ => 0))), .inl (0, (36, .inl (fun _ => 0))), .inl (0, (9, .inl (fun _ => 0))), .inl (0, (9, .inl (fun _ => 0))), .inl (0, (9, .inl (fun _ => 0))), .inl (0, (9, .inl (fun _ => 0))), .inr (3, [.ref 28, .ref 29, .int 0, .int 0, .int 0]), .inl (0, (6, .inl (fun _ => 0))), .inl (0, (9, .inl (fun _ => 0))), .inr (1, [.ref 31, .ref 32, .ref 33, .ref 34, .ref 35, .int 0, .int 0, .int 0, .int 0]), .inl (0, (6, .inl (fun _ => 0))), .inl (0, (9, .inl (fun _ => 0))), .inl (0, (9, .inl (fun _ => 0))), .inl (0, (9, .inl (fun _ => 0))), .inl (0, (9, .inl (fun _ => 0))), .inr (5, [.ref 37, .ref 38, .ref 39, .int 0, .int 0]), .inl (0, (6, .inl (fun _ => 0))), .inl (0, (9, .inl (fun _ => 0))), .inl (1, (81, .inr (.inl (fun _ => 0)))), .inl (0, (6, .inl (fun _ => 0))), .inl (2, (4, .inr (.inr (.inr (.inr (va_up (va_up (va_up (va_up (fun _ => none) 0 (some 42)) 1 (some 44)) 2 (some 46)) 3 (some 48))))))), .inr (2, [.ref 43, .int (-1), .int 0]), .inl (0, (40, .inl (fun _ => 0))), .inr (2, [.ref 45, .int (-1), .int 0]), .inl (0, (40, .inl (fun _ => 0))), .inr (2, [.ref 47, .int (-1), .int 0]), .inl (0, (40, .inl (fun _ => 0))), .inr (2, [.ref 49, .int (-1), .int 0]), .inl (0, (40, .inl (fun _ => 0))), .inr (7, [.ref 51, .ref 52, .int 0, .ref 53, .ref 54, .int 0, .int 0, .ref 55, .int 0, .int 0, .ref 56, .int 0, .int 0, .int 0, .int 0, .ref 57, .ref 58, .int 0, .ref 59, .null, .null]), .inl (0, (87, .inl (fun _ => 0))), .inl (0, (87, .inl (fun _ => 0))), .inl (0, (9, .inl (fun _ => 0))), .inl (0, (6, .inl (fun _ => 0))), .inl (0, (9, .inl (fun _ => 0))), .inl (0, (40, .inl (fun _ => 0))), .inl (0, (25, .inl (upd (upd (upd (upd (upd (upd (upd (upd (upd (upd (upd (upd (upd (upd (upd (upd (upd (upd (upd (upd (upd (upd (upd (upd (upd (fun _ => 0) 0 (116)) 1 (101)) 2 (97)) 3 (109)) 4 (32)) 5 (115)) 6 (116)) 7 (97)) 8 (114)) 9 (116)) 10 (103)) 11 (97)) 12 (109)) 13 (101)) 14 (32)) 15 (119)) 16 (111)) 17 (110)) 18 (32)) 19 (32)) 20 (100)) 21 (114)) 22 (101)) 23 (119)) 24 (32)))), .inl (0, (486, .inl (fun _ => 0))), .inl (0, (4, .inl (upd (upd (upd (upd (fun _ => 0) 0 (-1)) 1 (-1)) 2 (-1)) 3 (-1))))]) rfl ?_
  refine AW.keq (k1 := 9) (n1 := 753) rfl rfl ?_
  refine aw_aload_n 0 dX7_init_236 rfl rfl ?_
  refine aw_iconst (v := 4) dX7_init_237 (by decide) ?_
  refine aw_newa (kd := 0) (N := 4) (ty := .int) (a0 := (4, .inl (fun _ => 0))) dX7_init_238 wa_int rfl (Or.inl ⟨rfl, rfl⟩) (ha_int 4) (fun _ => rfl) (by decide) (by decide) (by decide) ⟨Nat.le_of_ble_eq_true rfl, Nat.le_of_ble_eq_true rfl⟩ (N0 := 60) (by decide +kernel) (by decide) (by decide +kernel) (by decide +kernel) (fun a10 A10 => ?_)
  refine AW.heq (h1 := [.inr (6, [.ref 1, .ref 3, .ref 11, .ref 19, .ref 27, .ref 30, .ref 36, .ref 41, .ref 40, .int 0]), .inr (4, [.ref 2, .int 0, .int 0, .int 0, .int 0]), .inl (0, (40, .inl (fun _ => 0))), .inr (0, [.int 0, .int 0, .int 0, .ref 4, .ref 5, .ref 6, .ref 7, .ref 8, .ref 9, .ref 10]), .inl (0, (6, .inl (fun _ => 0))), .inl (0, (6, .inl (fun _ => 0))), .inl (0, (36, .inl (fun _ => 0))), .inl (0, (9, .inl (fun _ => 0))), .inl (0, (9, .inl (fun _ => 0))), .inl (0, (9, .inl (fun _ => 0))), .inl (0, (9, .inl (fun _ => 0))), .inr (0, [.int 0, .int 0, .int 0, .ref 12, .ref 13, .ref 14, .ref 15, .ref 16, .ref 17, .ref 18]), .inl (0, (6, .inl (fun _ => 0))), .inl (0, (6, .inl (fun _ => 0))), .inl (0, (36, .inl (fun _ => 0))), .inl (0, (9, .inl (fun _ => 0))), .inl (0, (9, .inl (fun _ => 0))), .inl (0, (9, .inl (fun _ => 0))), .inl (0, (9, .inl (fun _ => 0))), .inr (0, [.int 0, .int 0, .int 0, .ref 20, .ref 21, .ref 22, .ref 23, .ref 24, .ref 25, .ref 26]), .inl (0, (6, .inl (fun _ => 0))), .inl (0, (6, .inl (fun _ => 0))), .inl (0, (36, .inl (fun _ => 0))), .inl (0, (9, .inl (fun _ => 0))), .inl (0, (9, .inl (fun _ => 0))), .inl (0, (9, .inl (fun _ => 0))), .inl (0, (9, .inl (fun _ => 0))), .inr (3, [.ref 28, .ref 29, .int 0, .int 0, .int 0]), .inl (0, (6, .inl (fun _ => 0))), .inl (0, (9, .inl (fun _ => 0))), .inr (1, [.ref 31, .ref 32, .ref 33, .ref 34, .ref 35, .int 0, .int 0, .int 0, .int 0]), .inl (0, (6, .inl (fun _ => 0))), .inl (0, (9, .inl (fun _ => 0))), .inl (0, (9, .inl (fun _ => 0))), .inl (0, (9, .inl (fun _ => 0))), .inl (0, (9, .inl (fun _ => 0))), .inr (5, [.ref 37, .ref 38, .ref 39, .int 0, .int 0]), .inl (0, (6, .inl (fun _ => 0))), .inl (0, (9, .inl (fun _ => 0))), .inl (1, (81, .inr (.inl (fun _ => 0)))), .inl (0, (6, .inl (fun _ => 0))), .inl (2, (4, .inr (.inr (.inr (.inr (va_up (va_up (va_up (va_up (fun _ => none) 0 (some 42)) 1 (some 44)) 2 (some 46)) 3 (some 48))))))), .inr (2, [.ref 43, .int (-1), .int 0]), .inl (0, (40, .inl (fun _ => 0))), .inr (2, [.ref 45, .int (-1), .int 0]), .inl (0, (40, .inl (fun _ => 0))), .inr (2, [.ref 47, .int (-1), .int 0]), .inl (0, (40, .inl (fun _ => 0))), .inr (2, [.ref 49, .int (-1), .int 0]), .inl (0, (40, .inl (fun _ => 0))), .inr (7, [.ref 51, .ref 52, .int 0, .ref 53, .ref 54, .int 0, .int 0, .ref 55, .int 0, .int 0, .ref 56, .int 0, .int 0, .int 0, .int 0, .ref 57, .ref 58, .int 0, .ref 59, .null, .null]), .inl (0, (87, .inl (fun _ => 0))), .inl (0, (87, .inl (fun _ => 0))), .inl (0, (9, .inl (fun _ => 0))), .inl (0, (6, .inl (fun _ => 0))), .inl (0, (9, .inl (fun _ => 0))), .inl (0, (40, .inl (fun _ => 0))), .inl (0, (25, .inl (upd (upd (upd (upd (upd (upd (upd (upd (upd (upd (upd (upd (upd (upd (upd (upd (upd (upd (upd (upd (upd (upd (upd (upd (upd (fun _ => 0) 0 (116)) 1 (101)) 2 (97)) 3 (109)) 4 (32)) 5 (115)) 6 (116)) 7 (97)) 8 (114)) 9 (116)) 10 (103)) 11 (97)) 12 (109)) 13 (101)) 14 (32)) 15 (119)) 16 (111)) 17 (110)) 18 (32)) 19 (32)) 20 (100)) 21 (114)) 22 (101)) 23 (119)) 24 (32)))), .inl (0, (486, .inl (fun _ => 0))), .inl (0, (4, .inl (upd (upd (upd (upd (fun _ => 0) 0 (-1)) 1 (-1)) 2 (-1)) 3 (-1)))), .inl (0, (4, .inl (fun _ => 0)))]) rfl ?_
  refine AW.keq (k1 := 10) (n1 := 757) rfl rfl ?_
  refine aw_putF hn dX7_init_240 pnX7_37 (fun _ => ⟨rfl, rfl⟩) rfl ?_
  refine AW.heq (h1 := [.inr (6, [.ref 1, .ref 3, .ref 11, .ref 19, .ref 27, .ref 30, .ref 36, .ref 41, .ref 40, .int 0]), .inr (4, [.ref 2, .int 0, .int 0, .int 0, .int 0]), .inl (0, (40, .inl (fun _ => 0))), .inr (0, [.int 0, .int 0, .int 0, .ref 4, .ref 5, .ref 6, .ref 7, .ref 8, .ref 9, .ref 10]), .inl (0, (6, .inl (fun _ => 0))), .inl (0, (6, .inl (fun _ => 0))), .inl (0, (36, .inl (fun _ => 0))), .inl (0, (9, .inl (fun _ => 0))), .inl (0, (9, .inl (fun _ => 0))), .inl (0, (9, .inl (fun _ => 0))), .inl (0, (9, .inl (fun _ => 0))), .inr (0, [.int 0, .int 0, .int 0, .ref 12, .ref 13, .ref 14, .ref 15, .ref 16, .ref 17, .ref 18]), .inl (0, (6, .inl (fun _ => 0))), .inl (0, (6, .inl (fun _ => 0))), .inl (0, (36, .inl (fun _ => 0))), .inl (0, (9, .inl (fun _ => 0))), .inl (0, (9, .inl (fun _ => 0))), .inl (0, (9, .inl (fun _ => 0))), .inl (0, (9, .inl (fun _ => 0))), .inr (0, [.int 0, .int 0, .int 0, .ref 20, .ref 21, .ref 22, .ref 23, .ref 24, .ref 25, .ref 26]), .inl (0, (6, .inl (fun _ => 0))), .inl (0, (6, .inl (fun _ => 0))), .inl (0, (36, .inl (fun _ => 0))), .inl (0, (9, .inl (fun _ => 0))), .inl (0, (9, .inl (fun _ => 0))), .inl (0, (9, .inl (fun _ => 0))), .inl (0, (9, .inl (fun _ => 0))), .inr (3, [.ref 28, .ref 29, .int 0, .int 0, .int 0]), .inl (0, (6, .inl (fun _ => 0))), .inl (0, (9, .inl (fun _ => 0))), .inr (1, [.ref 31, .ref 32, .ref 33, .ref 34, .ref 35, .int 0, .int 0, .int 0, .int 0]), .inl (0, (6, .inl (fun _ => 0))), .inl (0, (9, .inl (fun _ => 0))), .inl (0, (9, .inl (fun _ => 0))), .inl (0, (9, .inl (fun _ => 0))), .inl (0, (9, .inl (fun _ => 0))), .inr (5, [.ref 37, .ref 38, .ref 39, .int 0, .int 0]), .inl (0, (6, .inl (fun _ => 0))), .inl (0, (9, .inl (fun _ => 0))), .inl (1, (81, .inr (.inl (fun _ => 0)))), .inl (0, (6, .inl (fun _ => 0))), .inl (2, (4, .inr (.inr (.inr (.inr (va_up (va_up (va_up (va_up (fun _ => none) 0 (some 42)) 1 (some 44)) 2 (some 46)) 3 (some 48))))))), .inr (2, [.ref 43, .int (-1), .int 0]), .inl (0, (40, .inl (fun _ => 0))), .inr (2, [.ref 45, .int (-1), .int 0]), .inl (0, (40, .inl (fun _ => 0))), .inr (2, [.ref 47, .int (-1), .int 0]), .inl (0, (40, .inl (fun _ => 0))), .inr (2, [.ref 49, .int (-1), .int 0]), .inl (0, (40, .inl (fun _ => 0))), .inr (7, [.ref 51, .ref 52, .int 0, .ref 53, .ref 54, .int 0, .int 0, .ref 55, .int 0, .int 0, .ref 56, .int 0, .int 0, .int 0, .int 0, .ref 57, .ref 58, .int 0, .ref 59, .ref 60, .null]), .inl (0, (87, .inl (fun _ => 0))), .inl (0, (87, .inl (fun _ => 0))), .inl (0, (9, .inl (fun _ => 0))), .inl (0, (6, .inl (fun _ => 0))), .inl (0, (9, .inl (fun _ => 0))), .inl (0, (40, .inl (fun _ => 0))), .inl (0, (25, .inl (upd (upd (upd (upd (upd (upd (upd (upd (upd (upd (upd (upd (upd (upd (upd (upd (upd (upd (upd (upd (upd (upd (upd (upd (upd (fun _ => 0) 0 (116)) 1 (101)) 2 (97)) 3 (109)) 4 (32)) 5 (115)) 6 (116)) 7 (97)) 8 (114)) 9 (116)) 10 (103)) 11 (97)) 12 (109)) 13 (101)) 14 (32)) 15 (119)) 16 (111)) 17 (110)) 18 (32)) 19 (32)) 20 (100)) 21 (114)) 22 (101)) 23 (119)) 24 (32)))), .inl (0, (486, .inl (fun _ => 0))), .inl (0, (4, .inl (upd (upd (upd (upd (fun _ => 0) 0 (-1)) 1 (-1)) 2 (-1)) 3 (-1)))), .inl (0, (4, .inl (fun _ => 0)))]) rfl ?_
  refine AW.keq (k1 := 10) (n1 := 757) rfl rfl ?_
  refine aw_aload_n 0 dX7_init_243 rfl rfl ?_
  refine aw_sipush (v := 160) dX7_init_244 (by decide) ?_
  refine aw_newa (kd := 0) (N := 160) (ty := .int) (a0 := (160, .inl (fun _ => 0))) dX7_init_247 wa_int rfl (Or.inl ⟨rfl, rfl⟩) (ha_int 160) (fun _ => rfl) (by decide) (by decide) (by decide) ⟨Nat.le_of_ble_eq_true rfl, Nat.le_of_ble_eq_true rfl⟩ (N0 := 61) (by decide +kernel) (by decide) (by decide +kernel) (by decide +kernel) (fun a11 A11 => ?_)
  refine AW.heq (h1 := [.inr (6, [.ref 1, .ref 3, .ref 11, .ref 19, .ref 27, .ref 30, .ref 36, .ref 41, .ref 40, .int 0]), .inr (4, [.ref 2, .int 0, .int 0, .int 0, .int 0]), .inl (0, (40, .inl (fun _ => 0))), .inr (0, [.int 0, .int 0, .int 0, .ref 4, .ref 5, .ref 6, .ref 7, .ref 8, .ref 9, .ref 10]), .inl (0, (6, .inl (fun _ => 0))), .inl (0, (6, .inl (fun _ => 0))), .inl (0, (36, .inl (fun _ => 0))), .inl (0, (9, .inl (fun _ => 0))), .inl (0, (9, .inl (fun _ => 0))), .inl (0, (9, .inl (fun _ => 0))), .inl (0, (9, .inl (fun _ => 0))), .inr (0, [.int 0, .int 0, .int 0, .ref 12, .ref 13, .ref 14, .ref 15, .ref 16, .ref 17, .ref 18]), .inl (0, (6, .inl (fun _ => 0))), .inl (0, (6, .inl (fun _ => 0))), .inl (0, (36, .inl (fun _ => 0))), .inl (0, (9, .inl (fun _ => 0))), .inl (0, (9, .inl (fun _ => 0))), .inl (0, (9, .inl (fun _ => 0))), .inl (0, (9, .inl (fun _ => 0))), .inr (0, [.int 0, .int 0, .int 0, .ref 20, .ref 21, .ref 22, .ref 23, .ref 24, .ref 25, .ref 26]), .inl (0, (6, .inl (fun _ => 0))), .inl (0, (6, .inl (fun _ => 0))), .inl (0, (36, .inl (fun _ => 0))), .inl (0, (9, .inl (fun _ => 0))), .inl (0, (9, .inl (fun _ => 0))), .inl (0, (9, .inl (fun _ => 0))), .inl (0, (9, .inl (fun _ => 0))), .inr (3, [.ref 28, .ref 29, .int 0, .int 0, .int 0]), .inl (0, (6, .inl (fun _ => 0))), .inl (0, (9, .inl (fun _ => 0))), .inr (1, [.ref 31, .ref 32, .ref 33, .ref 34, .ref 35, .int 0, .int 0, .int 0, .int 0]), .inl (0, (6, .inl (fun _ => 0))), .inl (0, (9, .inl (fun _ => 0))), .inl (0, (9, .inl (fun _ => 0))), .inl (0, (9, .inl (fun _ => 0))), .inl (0, (9, .inl (fun _ => 0))), .inr (5, [.ref 37, .ref 38, .ref 39, .int 0, .int 0]), .inl (0, (6, .inl (fun _ => 0))), .inl (0, (9, .inl (fun _ => 0))), .inl (1, (81, .inr (.inl (fun _ => 0)))), .inl (0, (6, .inl (fun _ => 0))), .inl (2, (4, .inr (.inr (.inr (.inr (va_up (va_up (va_up (va_up (fun _ => none) 0 (some 42)) 1 (some 44)) 2 (some 46)) 3 (some 48))))))), .inr (2, [.ref 43, .int (-1), .int 0]), .inl (0, (40, .inl (fun _ => 0))), .inr (2, [.ref 45, .int (-1), .int 0]), .inl (0, (40, .inl (fun _ => 0))), .inr (2, [.ref 47, .int (-1), .int 0]), .inl (0, (40, .inl (fun _ => 0))), .inr (2, [.ref 49, .int (-1), .int 0]), .inl (0, (40, .inl (fun _ => 0))), .inr (7, [.ref 51, .ref 52, .int 0, .ref 53, .ref 54, .int 0, .int 0, .ref 55, .int 0, .int 0, .ref 56, .int 0, .int 0, .int 0, .int 0, .ref 57, .ref 58, .int 0, .ref 59, .ref 60, .null]), .inl (0, (87, .inl (fun _ => 0))), .inl (0, (87, .inl (fun _ => 0))), .inl (0, (9, .inl (fun _ => 0))), .inl (0, (6, .inl (fun _ => 0))), .inl (0, (9, .inl (fun _ => 0))), .inl (0, (40, .inl (fun _ => 0))), .inl (0, (25, .inl (upd (upd (upd (upd (upd (upd (upd (upd (upd (upd (upd (upd (upd (upd (upd (upd (upd (upd (upd (upd (upd (upd (upd (upd (upd (fun _ => 0) 0 (116)) 1 (101)) 2 (97)) 3 (109)) 4 (32)) 5 (115)) 6 (116)) 7 (97)) 8 (114)) 9 (116)) 10 (103)) 11 (97)) 12 (109)) 13 (101)) 14 (32)) 15 (119)) 16 (111)) 17 (110)) 18 (32)) 19 (32)) 20 (100)) 21 (114)) 22 (101)) 23 (119)) 24 (32)))), .inl (0, (486, .inl (fun _ => 0))), .inl (0, (4, .inl (upd (upd (upd (upd (fun _ => 0) 0 (-1)) 1 (-1)) 2 (-1)) 3 (-1)))), .inl (0, (4, .inl (fun _ => 0))), .inl (0, (160, .inl (fun _ => 0)))]) rfl ?_
  refine AW.keq (k1 := 11) (n1 := 917) rfl rfl ?_
  refine aw_putF hn dX7_init_249 pnX7_40 (fun _ => ⟨rfl, rfl⟩) rfl ?_
  refine AW.heq (h1 := [.inr (6, [.ref 1, .ref 3, .ref 11, .ref 19, .ref 27, .ref 30, .ref 36, .ref 41, .ref 40, .int 0]), .inr (4, [.ref 2, .int 0, .int 0, .int 0, .int 0]), .inl (0, (40, .inl (fun _ => 0))), .inr (0, [.int 0, .int 0, .int 0, .ref 4, .ref 5, .ref 6, .ref 7, .ref 8, .ref 9, .ref 10]), .inl (0, (6, .inl (fun _ => 0))), .inl (0, (6, .inl (fun _ => 0))), .inl (0, (36, .inl (fun _ => 0))), .inl (0, (9, .inl (fun _ => 0))), .inl (0, (9, .inl (fun _ => 0))), .inl (0, (9, .inl (fun _ => 0))), .inl (0, (9, .inl (fun _ => 0))), .inr (0, [.int 0, .int 0, .int 0, .ref 12, .ref 13, .ref 14, .ref 15, .ref 16, .ref 17, .ref 18]), .inl (0, (6, .inl (fun _ => 0))), .inl (0, (6, .inl (fun _ => 0))), .inl (0, (36, .inl (fun _ => 0))), .inl (0, (9, .inl (fun _ => 0))), .inl (0, (9, .inl (fun _ => 0))), .inl (0, (9, .inl (fun _ => 0))), .inl (0, (9, .inl (fun _ => 0))), .inr (0, [.int 0, .int 0, .int 0, .ref 20, .ref 21, .ref 22, .ref 23, .ref 24, .ref 25, .ref 26]), .inl (0, (6, .inl (fun _ => 0))), .inl (0, (6, .inl (fun _ => 0))), .inl (0, (36, .inl (fun _ => 0))), .inl (0, (9, .inl (fun _ => 0))), .inl (0, (9, .inl (fun _ => 0))), .inl (0, (9, .inl (fun _ => 0))), .inl (0, (9, .inl (fun _ => 0))), .inr (3, [.ref 28, .ref 29, .int 0, .int 0, .int 0]), .inl (0, (6, .inl (fun _ => 0))), .inl (0, (9, .inl (fun _ => 0))), .inr (1, [.ref 31, .ref 32, .ref 33, .ref 34, .ref 35, .int 0, .int 0, .int 0, .int 0]), .inl (0, (6, .inl (fun _ => 0))), .inl (0, (9, .inl (fun _ => 0))), .inl (0, (9, .inl (fun _ => 0))), .inl (0, (9, .inl (fun _ => 0))), .inl (0, (9, .inl (fun _ => 0))), .inr (5, [.ref 37, .ref 38, .ref 39, .int 0, .int 0]), .inl (0, (6, .inl (fun _ => 0))), .inl (0, (9, .inl (fun _ => 0))), .inl (1, (81, .inr (.inl (fun _ => 0)))), .inl (0, (6, .inl (fun _ => 0))), .inl (2, (4, .inr (.inr (.inr (.inr (va_up (va_up (va_up (va_up (fun _ => none) 0 (some 42)) 1 (some 44)) 2 (some 46)) 3 (some 48))))))), .inr (2, [.ref 43, .int (-1), .int 0]), .inl (0, (40, .inl (fun _ => 0))), .inr (2, [.ref 45, .int (-1), .int 0]), .inl (0, (40, .inl (fun _ => 0))), .inr (2, [.ref 47, .int (-1), .int 0]), .inl (0, (40, .inl (fun _ => 0))), .inr (2, [.ref 49, .int (-1), .int 0]), .inl (0, (40, .inl (fun _ => 0))), .inr (7, [.ref 51, .ref 52, .int 0, .ref 53, .ref 54, .int 0, .int 0, .ref 55, .int 0, .int 0, .ref 56, .int 0, .int 0, .int 0, .int 0, .ref 57, .ref 58, .int 0, .ref 59, .ref 60, .ref 61]), .inl (0, (87, .inl (fun _ => 0))), .inl (0, (87, .inl (fun _ => 0))), .inl (0, (9, .inl (fun _ => 0))), .inl (0, (6, .inl (fun _ => 0))), .inl (0, (9, .inl (fun _ => 0))), .inl (0, (40, .inl (fun _ => 0))), .inl (0, (25, .inl (upd (upd (upd (upd (upd (upd (upd (upd (upd (upd (upd (upd (upd (upd (upd (upd (upd (upd (upd (upd (upd (upd (upd (upd (upd (fun _ => 0) 0 (116)) 1 (101)) 2 (97)) 3 (109)) 4 (32)) 5 (115)) 6 (116)) 7 (97)) 8 (114)) 9 (116)) 10 (103)) 11 (97)) 12 (109)) 13 (101)) 14 (32)) 15 (119)) 16 (111)) 17 (110)) 18 (32)) 19 (32)) 20 (100)) 21 (114)) 22 (101)) 23 (119)) 24 (32)))), .inl (0, (486, .inl (fun _ => 0))), .inl (0, (4, .inl (upd (upd (upd (upd (fun _ => 0) 0 (-1)) 1 (-1)) 2 (-1)) 3 (-1)))), .inl (0, (4, .inl (fun _ => 0))), .inl (0, (160, .inl (fun _ => 0)))]) rfl ?_
  refine AW.keq (k1 := 11) (n1 := 917) rfl rfl ?_
  exact aw_vret hr dX7_init_252 ⟨(Agr.tr (by decide) A11 (Agr.tr (by decide) A10 (Agr.tr (by decide) A9 (Agr.tr (by decide) A8 (Agr.tr (by decide) A7 (Agr.tr (by decide) A6 (Agr.tr (by decide) A5 (Agr.tr (by decide) A4 (Agr.tr (by decide) A3 (Agr.tr (by decide) A2 (Agr.tr (by decide) A1 Agr.rf))))))))))), rfl, rfl⟩
end
