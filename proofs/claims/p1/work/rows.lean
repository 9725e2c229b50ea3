section
-- ===== PART A: goes FIRST, ahead of the names: the tables' words, and 'selects' of the private methods out of them =====
/-- a private method of a class that the tables say can be made, by its rows of tables_1 -/
def lw_okq (q : MethodName × Nat) : Prop := (q.1.cls ≠ "java/lang/invoke/MethodHandle" ∧ q.1.cls ≠ "java/lang/invoke/VarHandle") ∧ Cond.instantiable q.1.cls q.2 ∈ tables_1 ∧ Cond.privateMethod q.1 ∈ tables_1 ∧ Cond.instanceMethod q.1 ∈ tables_1
theorem lw_p0 : lw_okq (⟨"StillInIt", "doText", "()I"⟩, 10) := ⟨⟨by decide +kernel, by decide +kernel⟩, List.mem_of_getElem? (i := 16) (by decide +kernel), List.mem_of_getElem? (i := 254) (by decide +kernel), List.mem_of_getElem? (i := 255) (by decide +kernel)⟩
theorem lw_p1 : lw_okq (⟨"StillInIt$Tape", "sortAt", "(I)I"⟩, 5) := ⟨⟨by decide +kernel, by decide +kernel⟩, List.mem_of_getElem? (i := 24) (by decide +kernel), List.mem_of_getElem? (i := 265) (by decide +kernel), List.mem_of_getElem? (i := 266) (by decide +kernel)⟩
theorem lw_p2 : lw_okq (⟨"StillInIt", "doTeam", "()I"⟩, 10) := ⟨⟨by decide +kernel, by decide +kernel⟩, List.mem_of_getElem? (i := 16) (by decide +kernel), List.mem_of_getElem? (i := 322) (by decide +kernel), List.mem_of_getElem? (i := 323) (by decide +kernel)⟩
theorem lw_p3 : lw_okq (⟨"StillInIt$Group", "isNamed", "(I[III)Z"⟩, 10) := ⟨⟨by decide +kernel, by decide +kernel⟩, List.mem_of_getElem? (i := 51) (by decide +kernel), List.mem_of_getElem? (i := 340) (by decide +kernel), List.mem_of_getElem? (i := 341) (by decide +kernel)⟩
theorem lw_p4 : lw_okq (⟨"StillInIt", "doStart", "()I"⟩, 10) := ⟨⟨by decide +kernel, by decide +kernel⟩, List.mem_of_getElem? (i := 16) (by decide +kernel), List.mem_of_getElem? (i := 358) (by decide +kernel), List.mem_of_getElem? (i := 359) (by decide +kernel)⟩
theorem lw_p5 : lw_okq (⟨"StillInIt", "readTeam", "(I)I"⟩, 10) := ⟨⟨by decide +kernel, by decide +kernel⟩, List.mem_of_getElem? (i := 16) (by decide +kernel), List.mem_of_getElem? (i := 362) (by decide +kernel), List.mem_of_getElem? (i := 363) (by decide +kernel)⟩
theorem lw_p6 : lw_okq (⟨"StillInIt", "doGame", "()I"⟩, 10) := ⟨⟨by decide +kernel, by decide +kernel⟩, List.mem_of_getElem? (i := 16) (by decide +kernel), List.mem_of_getElem? (i := 371) (by decide +kernel), List.mem_of_getElem? (i := 372) (by decide +kernel)⟩
theorem lw_p7 : lw_okq (⟨"StillInIt", "doPlay", "(Z)I"⟩, 10) := ⟨⟨by decide +kernel, by decide +kernel⟩, List.mem_of_getElem? (i := 16) (by decide +kernel), List.mem_of_getElem? (i := 384) (by decide +kernel), List.mem_of_getElem? (i := 385) (by decide +kernel)⟩
theorem lw_p8 : lw_okq (⟨"StillInIt", "pointsOf", "(LStillInIt$Group;I)I"⟩, 10) := ⟨⟨by decide +kernel, by decide +kernel⟩, List.mem_of_getElem? (i := 16) (by decide +kernel), List.mem_of_getElem? (i := 439) (by decide +kernel), List.mem_of_getElem? (i := 440) (by decide +kernel)⟩
theorem lw_p9 : lw_okq (⟨"StillInIt", "reachOf", "(LStillInIt$Group;I)I"⟩, 10) := ⟨⟨by decide +kernel, by decide +kernel⟩, List.mem_of_getElem? (i := 16) (by decide +kernel), List.mem_of_getElem? (i := 455) (by decide +kernel), List.mem_of_getElem? (i := 456) (by decide +kernel)⟩
theorem lw_p10 : lw_okq (⟨"StillInIt", "canWin", "(LStillInIt$Group;I)Z"⟩, 10) := ⟨⟨by decide +kernel, by decide +kernel⟩, List.mem_of_getElem? (i := 16) (by decide +kernel), List.mem_of_getElem? (i := 490) (by decide +kernel), List.mem_of_getElem? (i := 491) (by decide +kernel)⟩
theorem lw_p11 : lw_okq (⟨"StillInIt$Shutter", "open", "(LStillInIt$Group;I)V"⟩, 5) := ⟨⟨by decide +kernel, by decide +kernel⟩, List.mem_of_getElem? (i := 105) (by decide +kernel), List.mem_of_getElem? (i := 498) (by decide +kernel), List.mem_of_getElem? (i := 499) (by decide +kernel)⟩
theorem lw_p12 : lw_okq (⟨"StillInIt$Shutter", "aboveOf", "(ILStillInIt$Group;)I"⟩, 5) := ⟨⟨by decide +kernel, by decide +kernel⟩, List.mem_of_getElem? (i := 105) (by decide +kernel), List.mem_of_getElem? (i := 511) (by decide +kernel), List.mem_of_getElem? (i := 512) (by decide +kernel)⟩
theorem lw_p13 : lw_okq (⟨"StillInIt$Race", "enter", "(III)V"⟩, 9) := ⟨⟨by decide +kernel, by decide +kernel⟩, List.mem_of_getElem? (i := 129) (by decide +kernel), List.mem_of_getElem? (i := 540) (by decide +kernel), List.mem_of_getElem? (i := 541) (by decide +kernel)⟩
theorem lw_p14 : lw_okq (⟨"StillInIt$Race", "fits", "(I)Z"⟩, 9) := ⟨⟨by decide +kernel, by decide +kernel⟩, List.mem_of_getElem? (i := 129) (by decide +kernel), List.mem_of_getElem? (i := 549) (by decide +kernel), List.mem_of_getElem? (i := 550) (by decide +kernel)⟩
theorem lw_p15 : lw_okq (⟨"StillInIt$Race", "fitsWon", "(III)Z"⟩, 9) := ⟨⟨by decide +kernel, by decide +kernel⟩, List.mem_of_getElem? (i := 129) (by decide +kernel), List.mem_of_getElem? (i := 553) (by decide +kernel), List.mem_of_getElem? (i := 554) (by decide +kernel)⟩
def lw_privs_1 : List (MethodName × Nat) := [(⟨"StillInIt", "doText", "()I"⟩, 10), (⟨"StillInIt$Tape", "sortAt", "(I)I"⟩, 5), (⟨"StillInIt", "doTeam", "()I"⟩, 10), (⟨"StillInIt$Group", "isNamed", "(I[III)Z"⟩, 10), (⟨"StillInIt", "doStart", "()I"⟩, 10), (⟨"StillInIt", "readTeam", "(I)I"⟩, 10), (⟨"StillInIt", "doGame", "()I"⟩, 10), (⟨"StillInIt", "doPlay", "(Z)I"⟩, 10), (⟨"StillInIt", "pointsOf", "(LStillInIt$Group;I)I"⟩, 10), (⟨"StillInIt", "reachOf", "(LStillInIt$Group;I)I"⟩, 10), (⟨"StillInIt", "canWin", "(LStillInIt$Group;I)Z"⟩, 10), (⟨"StillInIt$Shutter", "open", "(LStillInIt$Group;I)V"⟩, 5), (⟨"StillInIt$Shutter", "aboveOf", "(ILStillInIt$Group;)I"⟩, 5), (⟨"StillInIt$Race", "enter", "(III)V"⟩, 9), (⟨"StillInIt$Race", "fits", "(I)Z"⟩, 9), (⟨"StillInIt$Race", "fitsWon", "(III)Z"⟩, 9)]
theorem lw_r1 : ∀ q ∈ lw_privs_1, lw_okq q := List.forall_mem_cons.mpr ⟨lw_p0, List.forall_mem_cons.mpr ⟨lw_p1, List.forall_mem_cons.mpr ⟨lw_p2, List.forall_mem_cons.mpr ⟨lw_p3, List.forall_mem_cons.mpr ⟨lw_p4, List.forall_mem_cons.mpr ⟨lw_p5, List.forall_mem_cons.mpr ⟨lw_p6, List.forall_mem_cons.mpr ⟨lw_p7, List.forall_mem_cons.mpr ⟨lw_p8, List.forall_mem_cons.mpr ⟨lw_p9, List.forall_mem_cons.mpr ⟨lw_p10, List.forall_mem_cons.mpr ⟨lw_p11, List.forall_mem_cons.mpr ⟨lw_p12, List.forall_mem_cons.mpr ⟨lw_p13, List.forall_mem_cons.mpr ⟨lw_p14, List.forall_mem_cons.mpr ⟨lw_p15, fun _ h => absurd h List.not_mem_nil⟩⟩⟩⟩⟩⟩⟩⟩⟩⟩⟩⟩⟩⟩⟩⟩
theorem lw_p16 : lw_okq (⟨"StillInIt$Race", "hasRoomForAll", "(II)Z"⟩, 9) := ⟨⟨by decide +kernel, by decide +kernel⟩, List.mem_of_getElem? (i := 129) (by decide +kernel), List.mem_of_getElem? (i := 557) (by decide +kernel), List.mem_of_getElem? (i := 558) (by decide +kernel)⟩
theorem lw_p17 : lw_okq (⟨"StillInIt$Race", "fitsDrawn", "(I)Z"⟩, 9) := ⟨⟨by decide +kernel, by decide +kernel⟩, List.mem_of_getElem? (i := 129) (by decide +kernel), List.mem_of_getElem? (i := 561) (by decide +kernel), List.mem_of_getElem? (i := 562) (by decide +kernel)⟩
theorem lw_p18 : lw_okq (⟨"StillInIt", "whoCanWin", "(LStillInIt$Group;)I"⟩, 10) := ⟨⟨by decide +kernel, by decide +kernel⟩, List.mem_of_getElem? (i := 16) (by decide +kernel), List.mem_of_getElem? (i := 569) (by decide +kernel), List.mem_of_getElem? (i := 570) (by decide +kernel)⟩
theorem lw_p19 : lw_okq (⟨"StillInIt", "fewestFor", "(IIZ)I"⟩, 10) := ⟨⟨by decide +kernel, by decide +kernel⟩, List.mem_of_getElem? (i := 16) (by decide +kernel), List.mem_of_getElem? (i := 596) (by decide +kernel), List.mem_of_getElem? (i := 597) (by decide +kernel)⟩
theorem lw_p20 : lw_okq (⟨"StillInIt", "suffices", "(IIZ)Z"⟩, 10) := ⟨⟨by decide +kernel, by decide +kernel⟩, List.mem_of_getElem? (i := 16) (by decide +kernel), List.mem_of_getElem? (i := 600) (by decide +kernel), List.mem_of_getElem? (i := 601) (by decide +kernel)⟩
theorem lw_p21 : lw_okq (⟨"StillInIt", "isSure", "(LStillInIt$Group;I)Z"⟩, 10) := ⟨⟨by decide +kernel, by decide +kernel⟩, List.mem_of_getElem? (i := 16) (by decide +kernel), List.mem_of_getElem? (i := 631) (by decide +kernel), List.mem_of_getElem? (i := 632) (by decide +kernel)⟩
theorem lw_p22 : lw_okq (⟨"StillInIt$Walk", "from", "(ILStillInIt$Group;LStillInIt$Sheet;)I"⟩, 5) := ⟨⟨by decide +kernel, by decide +kernel⟩, List.mem_of_getElem? (i := 163) (by decide +kernel), List.mem_of_getElem? (i := 658) (by decide +kernel), List.mem_of_getElem? (i := 659) (by decide +kernel)⟩
theorem lw_p23 : lw_okq (⟨"StillInIt$Walk", "isNew", "()Z"⟩, 5) := ⟨⟨by decide +kernel, by decide +kernel⟩, List.mem_of_getElem? (i := 163) (by decide +kernel), List.mem_of_getElem? (i := 662) (by decide +kernel), List.mem_of_getElem? (i := 663) (by decide +kernel)⟩
theorem lw_p24 : lw_okq (⟨"StillInIt$Walk", "isAsTold", "(LStillInIt$Sheet;)Z"⟩, 5) := ⟨⟨by decide +kernel, by decide +kernel⟩, List.mem_of_getElem? (i := 163) (by decide +kernel), List.mem_of_getElem? (i := 666) (by decide +kernel), List.mem_of_getElem? (i := 667) (by decide +kernel)⟩
theorem lw_p25 : lw_okq (⟨"StillInIt", "drawInto", "(I)V"⟩, 10) := ⟨⟨by decide +kernel, by decide +kernel⟩, List.mem_of_getElem? (i := 16) (by decide +kernel), List.mem_of_getElem? (i := 677) (by decide +kernel), List.mem_of_getElem? (i := 678) (by decide +kernel)⟩
theorem lw_p26 : lw_okq (⟨"StillInItModel", "next", "()V"⟩, 21) := ⟨⟨by decide +kernel, by decide +kernel⟩, List.mem_of_getElem? (i := 749) (by decide +kernel), List.mem_of_getElem? (i := 835) (by decide +kernel), List.mem_of_getElem? (i := 836) (by decide +kernel)⟩
theorem lw_p27 : lw_okq (⟨"StillInItModel", "byteAt", "(I)I"⟩, 21) := ⟨⟨by decide +kernel, by decide +kernel⟩, List.mem_of_getElem? (i := 749) (by decide +kernel), List.mem_of_getElem? (i := 839) (by decide +kernel), List.mem_of_getElem? (i := 840) (by decide +kernel)⟩
theorem lw_p28 : lw_okq (⟨"StillInItModel", "isWord", "()Z"⟩, 21) := ⟨⟨by decide +kernel, by decide +kernel⟩, List.mem_of_getElem? (i := 749) (by decide +kernel), List.mem_of_getElem? (i := 853) (by decide +kernel), List.mem_of_getElem? (i := 854) (by decide +kernel)⟩
theorem lw_p29 : lw_okq (⟨"StillInItModel", "key", "()I"⟩, 21) := ⟨⟨by decide +kernel, by decide +kernel⟩, List.mem_of_getElem? (i := 749) (by decide +kernel), List.mem_of_getElem? (i := 857) (by decide +kernel), List.mem_of_getElem? (i := 858) (by decide +kernel)⟩
theorem lw_p30 : lw_okq (⟨"StillInItModel", "faults", "()I"⟩, 21) := ⟨⟨by decide +kernel, by decide +kernel⟩, List.mem_of_getElem? (i := 749) (by decide +kernel), List.mem_of_getElem? (i := 861) (by decide +kernel), List.mem_of_getElem? (i := 862) (by decide +kernel)⟩
theorem lw_p31 : lw_okq (⟨"StillInItModel", "isName", "()Z"⟩, 21) := ⟨⟨by decide +kernel, by decide +kernel⟩, List.mem_of_getElem? (i := 749) (by decide +kernel), List.mem_of_getElem? (i := 865) (by decide +kernel), List.mem_of_getElem? (i := 866) (by decide +kernel)⟩
def lw_privs_2 : List (MethodName × Nat) := [(⟨"StillInIt$Race", "hasRoomForAll", "(II)Z"⟩, 9), (⟨"StillInIt$Race", "fitsDrawn", "(I)Z"⟩, 9), (⟨"StillInIt", "whoCanWin", "(LStillInIt$Group;)I"⟩, 10), (⟨"StillInIt", "fewestFor", "(IIZ)I"⟩, 10), (⟨"StillInIt", "suffices", "(IIZ)Z"⟩, 10), (⟨"StillInIt", "isSure", "(LStillInIt$Group;I)Z"⟩, 10), (⟨"StillInIt$Walk", "from", "(ILStillInIt$Group;LStillInIt$Sheet;)I"⟩, 5), (⟨"StillInIt$Walk", "isNew", "()Z"⟩, 5), (⟨"StillInIt$Walk", "isAsTold", "(LStillInIt$Sheet;)Z"⟩, 5), (⟨"StillInIt", "drawInto", "(I)V"⟩, 10), (⟨"StillInItModel", "next", "()V"⟩, 21), (⟨"StillInItModel", "byteAt", "(I)I"⟩, 21), (⟨"StillInItModel", "isWord", "()Z"⟩, 21), (⟨"StillInItModel", "key", "()I"⟩, 21), (⟨"StillInItModel", "faults", "()I"⟩, 21), (⟨"StillInItModel", "isName", "()Z"⟩, 21)]
theorem lw_r2 : ∀ q ∈ lw_privs_2, lw_okq q := List.forall_mem_cons.mpr ⟨lw_p16, List.forall_mem_cons.mpr ⟨lw_p17, List.forall_mem_cons.mpr ⟨lw_p18, List.forall_mem_cons.mpr ⟨lw_p19, List.forall_mem_cons.mpr ⟨lw_p20, List.forall_mem_cons.mpr ⟨lw_p21, List.forall_mem_cons.mpr ⟨lw_p22, List.forall_mem_cons.mpr ⟨lw_p23, List.forall_mem_cons.mpr ⟨lw_p24, List.forall_mem_cons.mpr ⟨lw_p25, List.forall_mem_cons.mpr ⟨lw_p26, List.forall_mem_cons.mpr ⟨lw_p27, List.forall_mem_cons.mpr ⟨lw_p28, List.forall_mem_cons.mpr ⟨lw_p29, List.forall_mem_cons.mpr ⟨lw_p30, List.forall_mem_cons.mpr ⟨lw_p31, fun _ h => absurd h List.not_mem_nil⟩⟩⟩⟩⟩⟩⟩⟩⟩⟩⟩⟩⟩⟩⟩⟩
theorem lw_p32 : lw_okq (⟨"StillInItModel", "whose", "(II)I"⟩, 21) := ⟨⟨by decide +kernel, by decide +kernel⟩, List.mem_of_getElem? (i := 749) (by decide +kernel), List.mem_of_getElem? (i := 869) (by decide +kernel), List.mem_of_getElem? (i := 870) (by decide +kernel)⟩
theorem lw_p33 : lw_okq (⟨"StillInItModel", "comesTeam", "()I"⟩, 21) := ⟨⟨by decide +kernel, by decide +kernel⟩, List.mem_of_getElem? (i := 749) (by decide +kernel), List.mem_of_getElem? (i := 873) (by decide +kernel), List.mem_of_getElem? (i := 874) (by decide +kernel)⟩
theorem lw_p34 : lw_okq (⟨"StillInItModel", "isOver", "()Z"⟩, 21) := ⟨⟨by decide +kernel, by decide +kernel⟩, List.mem_of_getElem? (i := 749) (by decide +kernel), List.mem_of_getElem? (i := 877) (by decide +kernel), List.mem_of_getElem? (i := 878) (by decide +kernel)⟩
theorem lw_p35 : lw_okq (⟨"StillInItModel", "starts", "()I"⟩, 21) := ⟨⟨by decide +kernel, by decide +kernel⟩, List.mem_of_getElem? (i := 749) (by decide +kernel), List.mem_of_getElem? (i := 881) (by decide +kernel), List.mem_of_getElem? (i := 882) (by decide +kernel)⟩
theorem lw_p36 : lw_okq (⟨"StillInItModel", "number", "(II)I"⟩, 21) := ⟨⟨by decide +kernel, by decide +kernel⟩, List.mem_of_getElem? (i := 749) (by decide +kernel), List.mem_of_getElem? (i := 885) (by decide +kernel), List.mem_of_getElem? (i := 886) (by decide +kernel)⟩
theorem lw_p37 : lw_okq (⟨"StillInItModel", "games", "(I)I"⟩, 21) := ⟨⟨by decide +kernel, by decide +kernel⟩, List.mem_of_getElem? (i := 749) (by decide +kernel), List.mem_of_getElem? (i := 889) (by decide +kernel), List.mem_of_getElem? (i := 890) (by decide +kernel)⟩
theorem lw_p38 : lw_okq (⟨"StillInItModel", "comesGame", "(III)I"⟩, 21) := ⟨⟨by decide +kernel, by decide +kernel⟩, List.mem_of_getElem? (i := 749) (by decide +kernel), List.mem_of_getElem? (i := 893) (by decide +kernel), List.mem_of_getElem? (i := 894) (by decide +kernel)⟩
theorem lw_p39 : lw_okq (⟨"StillInItModel", "isPlayed", "(IIZ)I"⟩, 21) := ⟨⟨by decide +kernel, by decide +kernel⟩, List.mem_of_getElem? (i := 749) (by decide +kernel), List.mem_of_getElem? (i := 897) (by decide +kernel), List.mem_of_getElem? (i := 898) (by decide +kernel)⟩
theorem lw_p40 : lw_okq (⟨"StillInItModel", "isOf", "(II)Z"⟩, 21) := ⟨⟨by decide +kernel, by decide +kernel⟩, List.mem_of_getElem? (i := 749) (by decide +kernel), List.mem_of_getElem? (i := 901) (by decide +kernel), List.mem_of_getElem? (i := 902) (by decide +kernel)⟩
theorem lw_p41 : lw_okq (⟨"StillInItModel", "isGame", "(I)Z"⟩, 21) := ⟨⟨by decide +kernel, by decide +kernel⟩, List.mem_of_getElem? (i := 749) (by decide +kernel), List.mem_of_getElem? (i := 918) (by decide +kernel), List.mem_of_getElem? (i := 919) (by decide +kernel)⟩
theorem lw_p42 : lw_okq (⟨"StillInItModel", "isTeam", "(I)Z"⟩, 21) := ⟨⟨by decide +kernel, by decide +kernel⟩, List.mem_of_getElem? (i := 749) (by decide +kernel), List.mem_of_getElem? (i := 930) (by decide +kernel), List.mem_of_getElem? (i := 931) (by decide +kernel)⟩
theorem lw_p43 : lw_okq (⟨"StillInItModel", "looks", "()V"⟩, 21) := ⟨⟨by decide +kernel, by decide +kernel⟩, List.mem_of_getElem? (i := 749) (by decide +kernel), List.mem_of_getElem? (i := 934) (by decide +kernel), List.mem_of_getElem? (i := 935) (by decide +kernel)⟩
theorem lw_p44 : lw_okq (⟨"StillInItModel", "counts", "()V"⟩, 21) := ⟨⟨by decide +kernel, by decide +kernel⟩, List.mem_of_getElem? (i := 749) (by decide +kernel), List.mem_of_getElem? (i := 938) (by decide +kernel), List.mem_of_getElem? (i := 939) (by decide +kernel)⟩
theorem lw_p45 : lw_okq (⟨"StillInItModel", "brings", "(III)V"⟩, 21) := ⟨⟨by decide +kernel, by decide +kernel⟩, List.mem_of_getElem? (i := 749) (by decide +kernel), List.mem_of_getElem? (i := 942) (by decide +kernel), List.mem_of_getElem? (i := 943) (by decide +kernel)⟩
theorem lw_p46 : lw_okq (⟨"StillInItModel", "wonBrings", "()I"⟩, 21) := ⟨⟨by decide +kernel, by decide +kernel⟩, List.mem_of_getElem? (i := 749) (by decide +kernel), List.mem_of_getElem? (i := 946) (by decide +kernel), List.mem_of_getElem? (i := 947) (by decide +kernel)⟩
theorem lw_p47 : lw_okq (⟨"StillInItModel", "drawnBrings", "()I"⟩, 21) := ⟨⟨by decide +kernel, by decide +kernel⟩, List.mem_of_getElem? (i := 749) (by decide +kernel), List.mem_of_getElem? (i := 950) (by decide +kernel), List.mem_of_getElem? (i := 951) (by decide +kernel)⟩
def lw_privs_3 : List (MethodName × Nat) := [(⟨"StillInItModel", "whose", "(II)I"⟩, 21), (⟨"StillInItModel", "comesTeam", "()I"⟩, 21), (⟨"StillInItModel", "isOver", "()Z"⟩, 21), (⟨"StillInItModel", "starts", "()I"⟩, 21), (⟨"StillInItModel", "number", "(II)I"⟩, 21), (⟨"StillInItModel", "games", "(I)I"⟩, 21), (⟨"StillInItModel", "comesGame", "(III)I"⟩, 21), (⟨"StillInItModel", "isPlayed", "(IIZ)I"⟩, 21), (⟨"StillInItModel", "isOf", "(II)Z"⟩, 21), (⟨"StillInItModel", "isGame", "(I)Z"⟩, 21), (⟨"StillInItModel", "isTeam", "(I)Z"⟩, 21), (⟨"StillInItModel", "looks", "()V"⟩, 21), (⟨"StillInItModel", "counts", "()V"⟩, 21), (⟨"StillInItModel", "brings", "(III)V"⟩, 21), (⟨"StillInItModel", "wonBrings", "()I"⟩, 21), (⟨"StillInItModel", "drawnBrings", "()I"⟩, 21)]
theorem lw_r3 : ∀ q ∈ lw_privs_3, lw_okq q := List.forall_mem_cons.mpr ⟨lw_p32, List.forall_mem_cons.mpr ⟨lw_p33, List.forall_mem_cons.mpr ⟨lw_p34, List.forall_mem_cons.mpr ⟨lw_p35, List.forall_mem_cons.mpr ⟨lw_p36, List.forall_mem_cons.mpr ⟨lw_p37, List.forall_mem_cons.mpr ⟨lw_p38, List.forall_mem_cons.mpr ⟨lw_p39, List.forall_mem_cons.mpr ⟨lw_p40, List.forall_mem_cons.mpr ⟨lw_p41, List.forall_mem_cons.mpr ⟨lw_p42, List.forall_mem_cons.mpr ⟨lw_p43, List.forall_mem_cons.mpr ⟨lw_p44, List.forall_mem_cons.mpr ⟨lw_p45, List.forall_mem_cons.mpr ⟨lw_p46, List.forall_mem_cons.mpr ⟨lw_p47, fun _ h => absurd h List.not_mem_nil⟩⟩⟩⟩⟩⟩⟩⟩⟩⟩⟩⟩⟩⟩⟩⟩
theorem lw_p48 : lw_okq (⟨"StillInItModel", "reach", "(I)I"⟩, 21) := ⟨⟨by decide +kernel, by decide +kernel⟩, List.mem_of_getElem? (i := 749) (by decide +kernel), List.mem_of_getElem? (i := 954) (by decide +kernel), List.mem_of_getElem? (i := 955) (by decide +kernel)⟩
theorem lw_p49 : lw_okq (⟨"StillInItModel", "ownLeft", "(I)I"⟩, 21) := ⟨⟨by decide +kernel, by decide +kernel⟩, List.mem_of_getElem? (i := 749) (by decide +kernel), List.mem_of_getElem? (i := 958) (by decide +kernel), List.mem_of_getElem? (i := 959) (by decide +kernel)⟩
theorem lw_p50 : lw_okq (⟨"StillInItModel", "isInNow", "(IZ)Z"⟩, 21) := ⟨⟨by decide +kernel, by decide +kernel⟩, List.mem_of_getElem? (i := 749) (by decide +kernel), List.mem_of_getElem? (i := 984) (by decide +kernel), List.mem_of_getElem? (i := 985) (by decide +kernel)⟩
theorem lw_p51 : lw_okq (⟨"StillInItModel", "leftSet", "()I"⟩, 21) := ⟨⟨by decide +kernel, by decide +kernel⟩, List.mem_of_getElem? (i := 749) (by decide +kernel), List.mem_of_getElem? (i := 991) (by decide +kernel), List.mem_of_getElem? (i := 992) (by decide +kernel)⟩
theorem lw_p52 : lw_okq (⟨"StillInItModel", "goes", "(II)Z"⟩, 21) := ⟨⟨by decide +kernel, by decide +kernel⟩, List.mem_of_getElem? (i := 749) (by decide +kernel), List.mem_of_getElem? (i := 995) (by decide +kernel), List.mem_of_getElem? (i := 996) (by decide +kernel)⟩
theorem lw_p53 : lw_okq (⟨"StillInItModel", "isTooMuch", "()Z"⟩, 21) := ⟨⟨by decide +kernel, by decide +kernel⟩, List.mem_of_getElem? (i := 749) (by decide +kernel), List.mem_of_getElem? (i := 999) (by decide +kernel), List.mem_of_getElem? (i := 1000) (by decide +kernel)⟩
theorem lw_p54 : lw_okq (⟨"StillInItModel", "notesDrawn", "()V"⟩, 21) := ⟨⟨by decide +kernel, by decide +kernel⟩, List.mem_of_getElem? (i := 749) (by decide +kernel), List.mem_of_getElem? (i := 1003) (by decide +kernel), List.mem_of_getElem? (i := 1004) (by decide +kernel)⟩
theorem lw_p55 : lw_okq (⟨"StillInItModel", "results", "()I"⟩, 21) := ⟨⟨by decide +kernel, by decide +kernel⟩, List.mem_of_getElem? (i := 749) (by decide +kernel), List.mem_of_getElem? (i := 1007) (by decide +kernel), List.mem_of_getElem? (i := 1008) (by decide +kernel)⟩
theorem lw_p56 : lw_okq (⟨"StillInItModel", "inSet", "()I"⟩, 21) := ⟨⟨by decide +kernel, by decide +kernel⟩, List.mem_of_getElem? (i := 749) (by decide +kernel), List.mem_of_getElem? (i := 1018) (by decide +kernel), List.mem_of_getElem? (i := 1019) (by decide +kernel)⟩
theorem lw_p57 : lw_okq (⟨"StillInItModel", "aboveOf", "(II)I"⟩, 21) := ⟨⟨by decide +kernel, by decide +kernel⟩, List.mem_of_getElem? (i := 749) (by decide +kernel), List.mem_of_getElem? (i := 1026) (by decide +kernel), List.mem_of_getElem? (i := 1027) (by decide +kernel)⟩
theorem lw_p58 : lw_okq (⟨"StillInItModel", "isEnough", "(III)Z"⟩, 21) := ⟨⟨by decide +kernel, by decide +kernel⟩, List.mem_of_getElem? (i := 749) (by decide +kernel), List.mem_of_getElem? (i := 1042) (by decide +kernel), List.mem_of_getElem? (i := 1043) (by decide +kernel)⟩
theorem lw_p59 : lw_okq (⟨"StillInItModel", "looksAsOf", "(I)V"⟩, 21) := ⟨⟨by decide +kernel, by decide +kernel⟩, List.mem_of_getElem? (i := 749) (by decide +kernel), List.mem_of_getElem? (i := 1050) (by decide +kernel), List.mem_of_getElem? (i := 1051) (by decide +kernel)⟩
theorem lw_p60 : lw_okq (⟨"StillInItModel", "canBePassed", "(II)Z"⟩, 21) := ⟨⟨by decide +kernel, by decide +kernel⟩, List.mem_of_getElem? (i := 749) (by decide +kernel), List.mem_of_getElem? (i := 1054) (by decide +kernel), List.mem_of_getElem? (i := 1055) (by decide +kernel)⟩
theorem lw_p61 : lw_okq (⟨"StillInItModel", "looksWith", "(II)V"⟩, 21) := ⟨⟨by decide +kernel, by decide +kernel⟩, List.mem_of_getElem? (i := 749) (by decide +kernel), List.mem_of_getElem? (i := 1062) (by decide +kernel), List.mem_of_getElem? (i := 1063) (by decide +kernel)⟩
theorem lw_p62 : lw_okq (⟨"StillInItModel", "tablesFrom", "(I)V"⟩, 21) := ⟨⟨by decide +kernel, by decide +kernel⟩, List.mem_of_getElem? (i := 749) (by decide +kernel), List.mem_of_getElem? (i := 1074) (by decide +kernel), List.mem_of_getElem? (i := 1075) (by decide +kernel)⟩
theorem lw_p63 : lw_okq (⟨"StillInItModel", "notesRow", "()V"⟩, 21) := ⟨⟨by decide +kernel, by decide +kernel⟩, List.mem_of_getElem? (i := 749) (by decide +kernel), List.mem_of_getElem? (i := 1078) (by decide +kernel), List.mem_of_getElem? (i := 1079) (by decide +kernel)⟩
def lw_privs_4 : List (MethodName × Nat) := [(⟨"StillInItModel", "reach", "(I)I"⟩, 21), (⟨"StillInItModel", "ownLeft", "(I)I"⟩, 21), (⟨"StillInItModel", "isInNow", "(IZ)Z"⟩, 21), (⟨"StillInItModel", "leftSet", "()I"⟩, 21), (⟨"StillInItModel", "goes", "(II)Z"⟩, 21), (⟨"StillInItModel", "isTooMuch", "()Z"⟩, 21), (⟨"StillInItModel", "notesDrawn", "()V"⟩, 21), (⟨"StillInItModel", "results", "()I"⟩, 21), (⟨"StillInItModel", "inSet", "()I"⟩, 21), (⟨"StillInItModel", "aboveOf", "(II)I"⟩, 21), (⟨"StillInItModel", "isEnough", "(III)Z"⟩, 21), (⟨"StillInItModel", "looksAsOf", "(I)V"⟩, 21), (⟨"StillInItModel", "canBePassed", "(II)Z"⟩, 21), (⟨"StillInItModel", "looksWith", "(II)V"⟩, 21), (⟨"StillInItModel", "tablesFrom", "(I)V"⟩, 21), (⟨"StillInItModel", "notesRow", "()V"⟩, 21)]
theorem lw_r4 : ∀ q ∈ lw_privs_4, lw_okq q := List.forall_mem_cons.mpr ⟨lw_p48, List.forall_mem_cons.mpr ⟨lw_p49, List.forall_mem_cons.mpr ⟨lw_p50, List.forall_mem_cons.mpr ⟨lw_p51, List.forall_mem_cons.mpr ⟨lw_p52, List.forall_mem_cons.mpr ⟨lw_p53, List.forall_mem_cons.mpr ⟨lw_p54, List.forall_mem_cons.mpr ⟨lw_p55, List.forall_mem_cons.mpr ⟨lw_p56, List.forall_mem_cons.mpr ⟨lw_p57, List.forall_mem_cons.mpr ⟨lw_p58, List.forall_mem_cons.mpr ⟨lw_p59, List.forall_mem_cons.mpr ⟨lw_p60, List.forall_mem_cons.mpr ⟨lw_p61, List.forall_mem_cons.mpr ⟨lw_p62, List.forall_mem_cons.mpr ⟨lw_p63, fun _ h => absurd h List.not_mem_nil⟩⟩⟩⟩⟩⟩⟩⟩⟩⟩⟩⟩⟩⟩⟩⟩
theorem lw_p64 : lw_okq (⟨"StillInItModel", "draws", "(I)V"⟩, 21) := ⟨⟨by decide +kernel, by decide +kernel⟩, List.mem_of_getElem? (i := 749) (by decide +kernel), List.mem_of_getElem? (i := 1086) (by decide +kernel), List.mem_of_getElem? (i := 1087) (by decide +kernel)⟩
theorem lw_p65 : lw_okq (⟨"StillInItModel", "firstOnes", "()I"⟩, 21) := ⟨⟨by decide +kernel, by decide +kernel⟩, List.mem_of_getElem? (i := 749) (by decide +kernel), List.mem_of_getElem? (i := 1091) (by decide +kernel), List.mem_of_getElem? (i := 1092) (by decide +kernel)⟩
theorem lw_p66 : lw_okq (⟨"StillInItModel", "firstTold", "(I)I"⟩, 21) := ⟨⟨by decide +kernel, by decide +kernel⟩, List.mem_of_getElem? (i := 749) (by decide +kernel), List.mem_of_getElem? (i := 1107) (by decide +kernel), List.mem_of_getElem? (i := 1108) (by decide +kernel)⟩
theorem lw_p67 : lw_okq (⟨"StillInItModel", "runsSo", "(II)I"⟩, 21) := ⟨⟨by decide +kernel, by decide +kernel⟩, List.mem_of_getElem? (i := 749) (by decide +kernel), List.mem_of_getElem? (i := 1111) (by decide +kernel), List.mem_of_getElem? (i := 1112) (by decide +kernel)⟩
def lw_privs_5 : List (MethodName × Nat) := [(⟨"StillInItModel", "draws", "(I)V"⟩, 21), (⟨"StillInItModel", "firstOnes", "()I"⟩, 21), (⟨"StillInItModel", "firstTold", "(I)I"⟩, 21), (⟨"StillInItModel", "runsSo", "(II)I"⟩, 21)]
theorem lw_r5 : ∀ q ∈ lw_privs_5, lw_okq q := List.forall_mem_cons.mpr ⟨lw_p64, List.forall_mem_cons.mpr ⟨lw_p65, List.forall_mem_cons.mpr ⟨lw_p66, List.forall_mem_cons.mpr ⟨lw_p67, fun _ h => absurd h List.not_mem_nil⟩⟩⟩⟩
def lw_privs : List (MethodName × Nat) := lw_privs_1 ++ (lw_privs_2 ++ (lw_privs_3 ++ (lw_privs_4 ++ (lw_privs_5))))
def lw_tbl : List Cond := k2_sels lw_privs ++ tables_1
theorem lw_privs_ok : ∀ q ∈ lw_privs, lw_okq q := by
  show ∀ q ∈ lw_privs_1 ++ (lw_privs_2 ++ (lw_privs_3 ++ (lw_privs_4 ++ (lw_privs_5)))), lw_okq q
  exact List.forall_mem_append.mpr ⟨lw_r1, List.forall_mem_append.mpr ⟨lw_r2, List.forall_mem_append.mpr ⟨lw_r3, List.forall_mem_append.mpr ⟨lw_r4, lw_r5⟩⟩⟩⟩
def RX0 : String := "StillInIt$Group"
def TX0 : u_T := fun k => match k with
  | 0 => ("StillInIt$Group", "teams", "I", false)
  | 1 => ("StillInIt$Group", "games", "I", false)
  | 2 => ("StillInIt$Group", "kind", "I", false)
  | 3 => ("StillInIt$Group", "starts", "[I", true)
  | 4 => ("StillInIt$Group", "sizes", "[I", true)
  | 5 => ("StillInIt$Group", "letters", "[I", true)
  | 6 => ("StillInIt$Group", "ones", "[I", true)
  | 7 => ("StillInIt$Group", "others", "[I", true)
  | 8 => ("StillInIt$Group", "days", "[I", true)
  | _ => ("StillInIt$Group", "results", "[I", true)
def tyX0 : Nat → FieldType := fun k => match k with
  | 0 => .int
  | 1 => .int
  | 2 => .int
  | 3 => .array .int
  | 4 => .array .int
  | 5 => .array .int
  | 6 => .array .int
  | 7 => .array .int
  | 8 => .array .int
  | _ => .array .int
theorem nmX0 : ∀ a, a < 10 → ∀ b, b < 10 → a ≠ b → (TX0 a).2.1 ≠ (TX0 b).2.1 := by decide +kernel
theorem tyX0_ok : ∀ k, k < 10 → parseFieldDescriptor (TX0 k).2.2.1 = some (tyX0 k) := by decide +kernel
abbrev cX0_init : ByteArray := prog_2_method_1_code
def yX0_init : MethodName := ⟨RX0, "<init>", "()V"⟩
abbrev cX0_takeFrom : ByteArray := prog_2_method_2_code
def yX0_takeFrom : MethodName := ⟨RX0, "takeFrom", "(LStillInIt$Group;)V"⟩
abbrev cX0_hasTeam : ByteArray := prog_2_method_3_code
def yX0_hasTeam : MethodName := ⟨RX0, "hasTeam", "(I)Z"⟩
abbrev cX0_hasGame : ByteArray := prog_2_method_4_code
def yX0_hasGame : MethodName := ⟨RX0, "hasGame", "(I)Z"⟩
abbrev cX0_isLeft : ByteArray := prog_2_method_5_code
def yX0_isLeft : MethodName := ⟨RX0, "isLeft", "(I)Z"⟩
abbrev cX0_winBrings : ByteArray := prog_2_method_6_code
def yX0_winBrings : MethodName := ⟨RX0, "winBrings", "()I"⟩
abbrev cX0_drawBrings : ByteArray := prog_2_method_7_code
def yX0_drawBrings : MethodName := ⟨RX0, "drawBrings", "()I"⟩
abbrev cX0_leastGiven : ByteArray := prog_2_method_8_code
def yX0_leastGiven : MethodName := ⟨RX0, "leastGiven", "()I"⟩
abbrev cX0_firstResult : ByteArray := prog_2_method_9_code
def yX0_firstResult : MethodName := ⟨RX0, "firstResult", "()I"⟩
abbrev cX0_letter : ByteArray := prog_2_method_10_code
def yX0_letter : MethodName := ⟨RX0, "letter", "(II)I"⟩
abbrev cX0_whose : ByteArray := prog_2_method_11_code
def yX0_whose : MethodName := ⟨RX0, "whose", "([III)I"⟩
abbrev cX0_isNamed : ByteArray := prog_2_method_12_code
def yX0_isNamed : MethodName := ⟨RX0, "isNamed", "(I[III)Z"⟩
abbrev cX0_addTeam : ByteArray := prog_2_method_13_code
def yX0_addTeam : MethodName := ⟨RX0, "addTeam", "([III)I"⟩
abbrev cX0_addGame : ByteArray := prog_2_method_14_code
def yX0_addGame : MethodName := ⟨RX0, "addGame", "(III)I"⟩
abbrev cX0_drop : ByteArray := prog_2_method_15_code
def yX0_drop : MethodName := ⟨RX0, "drop", "(I)V"⟩
abbrev cX0_wasPlayedOn : ByteArray := prog_2_method_16_code
def yX0_wasPlayedOn : MethodName := ⟨RX0, "wasPlayedOn", "(I)Z"⟩
abbrev cX0_forget : ByteArray := prog_2_method_17_code
def yX0_forget : MethodName := ⟨RX0, "forget", "(I)V"⟩
abbrev cX0_foe : ByteArray := prog_2_method_18_code
def yX0_foe : MethodName := ⟨RX0, "foe", "(II)I"⟩
abbrev cX0_left : ByteArray := prog_2_method_19_code
def yX0_left : MethodName := ⟨RX0, "left", "()I"⟩
abbrev cX0_leftOf : ByteArray := prog_2_method_20_code
def yX0_leftOf : MethodName := ⟨RX0, "leftOf", "(I)I"⟩
abbrev cX0_nextBetween : ByteArray := prog_2_method_21_code
def yX0_nextBetween : MethodName := ⟨RX0, "nextBetween", "(II)I"⟩
abbrev cX0_pointsInto : ByteArray := prog_2_method_22_code
def yX0_pointsInto : MethodName := ⟨RX0, "pointsInto", "([I)V"⟩
abbrev cX0_award : ByteArray := prog_2_method_23_code
def yX0_award : MethodName := ⟨RX0, "award", "([IIII)V"⟩
def RX1 : String := "StillInIt$Race"
def TX1 : u_T := fun k => match k with
  | 0 => ("StillInIt$Race", "room", "[I", true)
  | 1 => ("StillInIt$Race", "ones", "[I", true)
  | 2 => ("StillInIt$Race", "others", "[I", true)
  | 3 => ("StillInIt$Race", "numbers", "[I", true)
  | 4 => ("StillInIt$Race", "picks", "[I", true)
  | 5 => ("StillInIt$Race", "size", "I", false)
  | 6 => ("StillInIt$Race", "win", "I", false)
  | 7 => ("StillInIt$Race", "draw", "I", false)
  | _ => ("StillInIt$Race", "mayDraw", "Z", false)
def tyX1 : Nat → FieldType := fun k => match k with
  | 0 => .array .int
  | 1 => .array .int
  | 2 => .array .int
  | 3 => .array .int
  | 4 => .array .int
  | 5 => .int
  | 6 => .int
  | 7 => .int
  | _ => .boolean
theorem nmX1 : ∀ a, a < 9 → ∀ b, b < 9 → a ≠ b → (TX1 a).2.1 ≠ (TX1 b).2.1 := by decide +kernel
theorem tyX1_ok : ∀ k, k < 9 → parseFieldDescriptor (TX1 k).2.2.1 = some (tyX1 k) := by decide +kernel
abbrev cX1_init : ByteArray := prog_3_method_1_code
def yX1_init : MethodName := ⟨RX1, "<init>", "()V"⟩
abbrev cX1_open : ByteArray := prog_3_method_2_code
def yX1_open : MethodName := ⟨RX1, "open", "(LStillInIt$Group;II)V"⟩
abbrev cX1_enter : ByteArray := prog_3_method_3_code
def yX1_enter : MethodName := ⟨RX1, "enter", "(III)V"⟩
abbrev cX1_drawOnly : ByteArray := prog_3_method_4_code
def yX1_drawOnly : MethodName := ⟨RX1, "drawOnly", "(I)V"⟩
abbrev cX1_canEnd : ByteArray := prog_3_method_5_code
def yX1_canEnd : MethodName := ⟨RX1, "canEnd", "()Z"⟩
abbrev cX1_pickOf : ByteArray := prog_3_method_6_code
def yX1_pickOf : MethodName := ⟨RX1, "pickOf", "(I)I"⟩
abbrev cX1_fits : ByteArray := prog_3_method_7_code
def yX1_fits : MethodName := ⟨RX1, "fits", "(I)Z"⟩
abbrev cX1_fitsWon : ByteArray := prog_3_method_8_code
def yX1_fitsWon : MethodName := ⟨RX1, "fitsWon", "(III)Z"⟩
abbrev cX1_fitsDrawn : ByteArray := prog_3_method_9_code
def yX1_fitsDrawn : MethodName := ⟨RX1, "fitsDrawn", "(I)Z"⟩
abbrev cX1_hasRoomForAll : ByteArray := prog_3_method_10_code
def yX1_hasRoomForAll : MethodName := ⟨RX1, "hasRoomForAll", "(II)Z"⟩
def RX2 : String := "StillInIt$Sheet"
def TX2 : u_T := fun k => match k with
  | 0 => ("StillInIt$Sheet", "items", "[I", true)
  | 1 => ("StillInIt$Sheet", "sort", "I", false)
  | _ => ("StillInIt$Sheet", "size", "I", false)
def tyX2 : Nat → FieldType := fun k => match k with
  | 0 => .array .int
  | 1 => .int
  | _ => .int
theorem nmX2 : ∀ a, a < 3 → ∀ b, b < 3 → a ≠ b → (TX2 a).2.1 ≠ (TX2 b).2.1 := by decide +kernel
theorem tyX2_ok : ∀ k, k < 3 → parseFieldDescriptor (TX2 k).2.2.1 = some (tyX2 k) := by decide +kernel
abbrev cX2_init : ByteArray := prog_4_method_1_code
def yX2_init : MethodName := ⟨RX2, "<init>", "()V"⟩
abbrev cX2_isMissing : ByteArray := prog_4_method_2_code
def yX2_isMissing : MethodName := ⟨RX2, "isMissing", "()Z"⟩
abbrev cX2_become : ByteArray := prog_4_method_3_code
def yX2_become : MethodName := ⟨RX2, "become", "(II)V"⟩
abbrev cX2_holds : ByteArray := prog_4_method_4_code
def yX2_holds : MethodName := ⟨RX2, "holds", "(II)Z"⟩
def RX3 : String := "StillInIt$Shutter"
def TX3 : u_T := fun k => match k with
  | 0 => ("StillInIt$Shutter", "over", "[I", true)
  | 1 => ("StillInIt$Shutter", "pairs", "[I", true)
  | 2 => ("StillInIt$Shutter", "size", "I", false)
  | 3 => ("StillInIt$Shutter", "teams", "I", false)
  | _ => ("StillInIt$Shutter", "above", "I", false)
def tyX3 : Nat → FieldType := fun k => match k with
  | 0 => .array .int
  | 1 => .array .int
  | 2 => .int
  | 3 => .int
  | _ => .int
theorem nmX3 : ∀ a, a < 5 → ∀ b, b < 5 → a ≠ b → (TX3 a).2.1 ≠ (TX3 b).2.1 := by decide +kernel
theorem tyX3_ok : ∀ k, k < 5 → parseFieldDescriptor (TX3 k).2.2.1 = some (tyX3 k) := by decide +kernel
abbrev cX3_init : ByteArray := prog_5_method_1_code
def yX3_init : MethodName := ⟨RX3, "<init>", "()V"⟩
abbrev cX3_find : ByteArray := prog_5_method_2_code
def yX3_find : MethodName := ⟨RX3, "find", "(LStillInIt$Group;I)I"⟩
abbrev cX3_open : ByteArray := prog_5_method_3_code
def yX3_open : MethodName := ⟨RX3, "open", "(LStillInIt$Group;I)V"⟩
abbrev cX3_aboveOf : ByteArray := prog_5_method_4_code
def yX3_aboveOf : MethodName := ⟨RX3, "aboveOf", "(ILStillInIt$Group;)I"⟩
def RX4 : String := "StillInIt$Tape"
def TX4 : u_T := fun k => match k with
  | 0 => ("StillInIt$Tape", "bytes", "[I", true)
  | 1 => ("StillInIt$Tape", "size", "I", false)
  | 2 => ("StillInIt$Tape", "begin", "I", false)
  | 3 => ("StillInIt$Tape", "end", "I", false)
  | _ => ("StillInIt$Tape", "sort", "I", false)
def tyX4 : Nat → FieldType := fun k => match k with
  | 0 => .array .int
  | 1 => .int
  | 2 => .int
  | 3 => .int
  | _ => .int
theorem nmX4 : ∀ a, a < 5 → ∀ b, b < 5 → a ≠ b → (TX4 a).2.1 ≠ (TX4 b).2.1 := by decide +kernel
theorem tyX4_ok : ∀ k, k < 5 → parseFieldDescriptor (TX4 k).2.2.1 = some (tyX4 k) := by decide +kernel
abbrev cX4_init : ByteArray := prog_6_method_1_code
def yX4_init : MethodName := ⟨RX4, "<init>", "()V"⟩
abbrev cX4_add : ByteArray := prog_6_method_2_code
def yX4_add : MethodName := ⟨RX4, "add", "(I)V"⟩
abbrev cX4_clear : ByteArray := prog_6_method_3_code
def yX4_clear : MethodName := ⟨RX4, "clear", "()V"⟩
abbrev cX4_step : ByteArray := prog_6_method_4_code
def yX4_step : MethodName := ⟨RX4, "step", "()V"⟩
abbrev cX4_isBlank : ByteArray := prog_6_method_5_code
def yX4_isBlank : MethodName := ⟨RX4, "isBlank", "(I)Z"⟩
abbrev cX4_sortAt : ByteArray := prog_6_method_6_code
def yX4_sortAt : MethodName := ⟨RX4, "sortAt", "(I)I"⟩
abbrev cX4_fault : ByteArray := prog_6_method_7_code
def yX4_fault : MethodName := ⟨RX4, "fault", "()I"⟩
abbrev cX4_ends : ByteArray := prog_6_method_8_code
def yX4_ends : MethodName := ⟨RX4, "ends", "()Z"⟩
abbrev cX4_is : ByteArray := prog_6_method_9_code
def yX4_is : MethodName := ⟨RX4, "is", "(Ljava/lang/String;)Z"⟩
abbrev cX4_isName : ByteArray := prog_6_method_10_code
def yX4_isName : MethodName := ⟨RX4, "isName", "()Z"⟩
abbrev cX4_number : ByteArray := prog_6_method_11_code
def yX4_number : MethodName := ⟨RX4, "number", "(II)I"⟩
def RX5 : String := "StillInIt$Walk"
def TX5 : u_T := fun k => match k with
  | 0 => ("StillInIt$Walk", "row", "[I", true)
  | 1 => ("StillInIt$Walk", "left", "[I", true)
  | 2 => ("StillInIt$Walk", "seen", "[J", true)
  | 3 => ("StillInIt$Walk", "size", "I", false)
  | _ => ("StillInIt$Walk", "known", "I", false)
def tyX5 : Nat → FieldType := fun k => match k with
  | 0 => .array .int
  | 1 => .array .int
  | 2 => .array .long
  | 3 => .int
  | _ => .int
theorem nmX5 : ∀ a, a < 5 → ∀ b, b < 5 → a ≠ b → (TX5 a).2.1 ≠ (TX5 b).2.1 := by decide +kernel
theorem tyX5_ok : ∀ k, k < 5 → parseFieldDescriptor (TX5 k).2.2.1 = some (tyX5 k) := by decide +kernel
abbrev cX5_init : ByteArray := prog_7_method_1_code
def yX5_init : MethodName := ⟨RX5, "<init>", "()V"⟩
abbrev cX5_open : ByteArray := prog_7_method_2_code
def yX5_open : MethodName := ⟨RX5, "open", "(LStillInIt$Group;)V"⟩
abbrev cX5_from : ByteArray := prog_7_method_3_code
def yX5_from : MethodName := ⟨RX5, "from", "(ILStillInIt$Group;LStillInIt$Sheet;)I"⟩
abbrev cX5_isNew : ByteArray := prog_7_method_4_code
def yX5_isNew : MethodName := ⟨RX5, "isNew", "()Z"⟩
abbrev cX5_isAsTold : ByteArray := prog_7_method_5_code
def yX5_isAsTold : MethodName := ⟨RX5, "isAsTold", "(LStillInIt$Sheet;)Z"⟩
def RX6 : String := "StillInIt"
def TX6 : u_T := fun k => match k with
  | 0 => ("StillInIt", "tape", "LStillInIt$Tape;", true)
  | 1 => ("StillInIt", "now", "LStillInIt$Group;", true)
  | 2 => ("StillInIt", "kept", "LStillInIt$Group;", true)
  | 3 => ("StillInIt", "thought", "LStillInIt$Group;", true)
  | 4 => ("StillInIt", "shutter", "LStillInIt$Shutter;", true)
  | 5 => ("StillInIt", "race", "LStillInIt$Race;", true)
  | 6 => ("StillInIt", "walk", "LStillInIt$Walk;", true)
  | 7 => ("StillInIt", "sheets", "[LStillInIt$Sheet;", true)
  | 8 => ("StillInIt", "table", "[I", true)
  | _ => ("StillInIt", "hasImage", "Z", false)
def tyX6 : Nat → FieldType := fun k => match k with
  | 0 => .object "StillInIt$Tape"
  | 1 => .object "StillInIt$Group"
  | 2 => .object "StillInIt$Group"
  | 3 => .object "StillInIt$Group"
  | 4 => .object "StillInIt$Shutter"
  | 5 => .object "StillInIt$Race"
  | 6 => .object "StillInIt$Walk"
  | 7 => .array (.object "StillInIt$Sheet")
  | 8 => .array .int
  | _ => .boolean
theorem nmX6 : ∀ a, a < 10 → ∀ b, b < 10 → a ≠ b → (TX6 a).2.1 ≠ (TX6 b).2.1 := by decide +kernel
theorem tyX6_ok : ∀ k, k < 10 → parseFieldDescriptor (TX6 k).2.2.1 = some (tyX6 k) := by decide +kernel
abbrev cX6_init : ByteArray := prog_1_method_1_code
def yX6_init : MethodName := ⟨RX6, "<init>", "()V"⟩
abbrev cX6_feed : ByteArray := prog_1_method_2_code
def yX6_feed : MethodName := ⟨RX6, "feed", "(IIIIII)I"⟩
abbrev cX6_text : ByteArray := prog_1_method_3_code
def yX6_text : MethodName := ⟨RX6, "text", "()I"⟩
abbrev cX6_named : ByteArray := prog_1_method_4_code
def yX6_named : MethodName := ⟨RX6, "named", "()I"⟩
abbrev cX6_system : ByteArray := prog_1_method_5_code
def yX6_system : MethodName := ⟨RX6, "system", "(I)I"⟩
abbrev cX6_play : ByteArray := prog_1_method_6_code
def yX6_play : MethodName := ⟨RX6, "play", "(II)I"⟩
abbrev cX6_unplay : ByteArray := prog_1_method_7_code
def yX6_unplay : MethodName := ⟨RX6, "unplay", "(I)I"⟩
abbrev cX6_told : ByteArray := prog_1_method_8_code
def yX6_told : MethodName := ⟨RX6, "told", "(II)I"⟩
abbrev cX6_game : ByteArray := prog_1_method_9_code
def yX6_game : MethodName := ⟨RX6, "game", "(II)I"⟩
abbrev cX6_between : ByteArray := prog_1_method_10_code
def yX6_between : MethodName := ⟨RX6, "between", "(II)I"⟩
abbrev cX6_taken : ByteArray := prog_1_method_11_code
def yX6_taken : MethodName := ⟨RX6, "taken", "(I)I"⟩
abbrev cX6_isIn : ByteArray := prog_1_method_12_code
def yX6_isIn : MethodName := ⟨RX6, "isIn", "(I)I"⟩
abbrev cX6_all : ByteArray := prog_1_method_13_code
def yX6_all : MethodName := ⟨RX6, "all", "()I"⟩
abbrev cX6_set : ByteArray := prog_1_method_14_code
def yX6_set : MethodName := ⟨RX6, "set", "(II)I"⟩
abbrev cX6_run : ByteArray := prog_1_method_15_code
def yX6_run : MethodName := ⟨RX6, "run", "(II)I"⟩
abbrev cX6_pattern : ByteArray := prog_1_method_16_code
def yX6_pattern : MethodName := ⟨RX6, "pattern", "(I)I"⟩
abbrev cX6_needs : ByteArray := prog_1_method_17_code
def yX6_needs : MethodName := ⟨RX6, "needs", "(II)I"⟩
abbrev cX6_since : ByteArray := prog_1_method_18_code
def yX6_since : MethodName := ⟨RX6, "since", "(II)I"⟩
abbrev cX6_help : ByteArray := prog_1_method_19_code
def yX6_help : MethodName := ⟨RX6, "help", "(II)I"⟩
abbrev cX6_without : ByteArray := prog_1_method_20_code
def yX6_without : MethodName := ⟨RX6, "without", "(I)I"⟩
abbrev cX6_tables : ByteArray := prog_1_method_21_code
def yX6_tables : MethodName := ⟨RX6, "tables", "()I"⟩
abbrev cX6_drawn : ByteArray := prog_1_method_22_code
def yX6_drawn : MethodName := ⟨RX6, "drawn", "(I)I"⟩
abbrev cX6_chance : ByteArray := prog_1_method_23_code
def yX6_chance : MethodName := ⟨RX6, "chance", "(IIII)I"⟩
abbrev cX6_tells : ByteArray := prog_1_method_24_code
def yX6_tells : MethodName := ⟨RX6, "tells", "(II)I"⟩
abbrev cX6_film : ByteArray := prog_1_method_25_code
def yX6_film : MethodName := ⟨RX6, "film", "(II)I"⟩
abbrev cX6_image : ByteArray := prog_1_method_26_code
def yX6_image : MethodName := ⟨RX6, "image", "()I"⟩
abbrev cX6_back : ByteArray := prog_1_method_27_code
def yX6_back : MethodName := ⟨RX6, "back", "()I"⟩
abbrev cX6_count : ByteArray := prog_1_method_28_code
def yX6_count : MethodName := ⟨RX6, "count", "(I)I"⟩
abbrev cX6_sheet : ByteArray := prog_1_method_29_code
def yX6_sheet : MethodName := ⟨RX6, "sheet", "(III)I"⟩
abbrev cX6_put : ByteArray := prog_1_method_30_code
def yX6_put : MethodName := ⟨RX6, "put", "(III)I"⟩
abbrev cX6_copy : ByteArray := prog_1_method_31_code
def yX6_copy : MethodName := ⟨RX6, "copy", "(IIIII)I"⟩
abbrev cX6_load : ByteArray := prog_1_method_32_code
def yX6_load : MethodName := ⟨RX6, "load", "(IIII)I"⟩
abbrev cX6_isByte : ByteArray := prog_1_method_33_code
def yX6_isByte : MethodName := ⟨RX6, "isByte", "(I)Z"⟩
abbrev cX6_isSystem : ByteArray := prog_1_method_34_code
def yX6_isSystem : MethodName := ⟨RX6, "isSystem", "(I)Z"⟩
abbrev cX6_isPart : ByteArray := prog_1_method_35_code
def yX6_isPart : MethodName := ⟨RX6, "isPart", "(I)Z"⟩
abbrev cX6_isSheet : ByteArray := prog_1_method_36_code
def yX6_isSheet : MethodName := ⟨RX6, "isSheet", "(I)Z"⟩
abbrev cX6_isSort : ByteArray := prog_1_method_37_code
def yX6_isSort : MethodName := ⟨RX6, "isSort", "(I)Z"⟩
abbrev cX6_has : ByteArray := prog_1_method_38_code
def yX6_has : MethodName := ⟨RX6, "has", "(II)Z"⟩
abbrev cX6_doText : ByteArray := prog_1_method_39_code
def yX6_doText : MethodName := ⟨RX6, "doText", "()I"⟩
abbrev cX6_doTeam : ByteArray := prog_1_method_40_code
def yX6_doTeam : MethodName := ⟨RX6, "doTeam", "()I"⟩
abbrev cX6_doStart : ByteArray := prog_1_method_41_code
def yX6_doStart : MethodName := ⟨RX6, "doStart", "()I"⟩
abbrev cX6_doGame : ByteArray := prog_1_method_42_code
def yX6_doGame : MethodName := ⟨RX6, "doGame", "()I"⟩
abbrev cX6_doPlay : ByteArray := prog_1_method_43_code
def yX6_doPlay : MethodName := ⟨RX6, "doPlay", "(Z)I"⟩
abbrev cX6_readTeam : ByteArray := prog_1_method_44_code
def yX6_readTeam : MethodName := ⟨RX6, "readTeam", "(I)I"⟩
abbrev cX6_pointsOf : ByteArray := prog_1_method_45_code
def yX6_pointsOf : MethodName := ⟨RX6, "pointsOf", "(LStillInIt$Group;I)I"⟩
abbrev cX6_reachOf : ByteArray := prog_1_method_46_code
def yX6_reachOf : MethodName := ⟨RX6, "reachOf", "(LStillInIt$Group;I)I"⟩
abbrev cX6_canWin : ByteArray := prog_1_method_47_code
def yX6_canWin : MethodName := ⟨RX6, "canWin", "(LStillInIt$Group;I)Z"⟩
abbrev cX6_whoCanWin : ByteArray := prog_1_method_48_code
def yX6_whoCanWin : MethodName := ⟨RX6, "whoCanWin", "(LStillInIt$Group;)I"⟩
abbrev cX6_isSure : ByteArray := prog_1_method_49_code
def yX6_isSure : MethodName := ⟨RX6, "isSure", "(LStillInIt$Group;I)Z"⟩
abbrev cX6_fewestFor : ByteArray := prog_1_method_50_code
def yX6_fewestFor : MethodName := ⟨RX6, "fewestFor", "(IIZ)I"⟩
abbrev cX6_suffices : ByteArray := prog_1_method_51_code
def yX6_suffices : MethodName := ⟨RX6, "suffices", "(IIZ)Z"⟩
abbrev cX6_drawInto : ByteArray := prog_1_method_52_code
def yX6_drawInto : MethodName := ⟨RX6, "drawInto", "(I)V"⟩
abbrev cX6_firstOf : ByteArray := prog_1_method_53_code
def yX6_firstOf : MethodName := ⟨RX6, "firstOf", "([II)I"⟩
abbrev cX6_commonDivisor : ByteArray := prog_1_method_54_code
def yX6_commonDivisor : MethodName := ⟨RX6, "commonDivisor", "(II)I"⟩
def RX7 : String := "StillInItModel"
def TX7 : u_T := fun k => match k with
  | 0 => ("StillInItModel", "w", "[I", true)
  | 1 => ("StillInItModel", "kept", "[I", true)
  | 2 => ("StillInItModel", "hasImage", "Z", false)
  | 3 => ("StillInItModel", "as", "[I", true)
  | 4 => ("StillInItModel", "points", "[I", true)
  | 5 => ("StillInItModel", "forWhom", "I", false)
  | 6 => ("StillInItModel", "most", "I", false)
  | 7 => ("StillInItModel", "run", "[I", true)
  | 8 => ("StillInItModel", "bestDrawn", "I", false)
  | 9 => ("StillInItModel", "wantsAll", "Z", false)
  | 10 => ("StillInItModel", "tape", "[I", true)
  | 11 => ("StillInItModel", "taped", "I", false)
  | 12 => ("StillInItModel", "at", "I", false)
  | 13 => ("StillInItModel", "begin", "I", false)
  | 14 => ("StillInItModel", "end", "I", false)
  | 15 => ("StillInItModel", "keys", "[I", true)
  | 16 => ("StillInItModel", "rows", "[I", true)
  | 17 => ("StillInItModel", "rowMany", "I", false)
  | 18 => ("StillInItModel", "sorts", "[I", true)
  | 19 => ("StillInItModel", "sizes", "[I", true)
  | _ => ("StillInItModel", "cells", "[I", true)
def tyX7 : Nat → FieldType := fun k => match k with
  | 0 => .array .int
  | 1 => .array .int
  | 2 => .boolean
  | 3 => .array .int
  | 4 => .array .int
  | 5 => .int
  | 6 => .int
  | 7 => .array .int
  | 8 => .int
  | 9 => .boolean
  | 10 => .array .int
  | 11 => .int
  | 12 => .int
  | 13 => .int
  | 14 => .int
  | 15 => .array .int
  | 16 => .array .int
  | 17 => .int
  | 18 => .array .int
  | 19 => .array .int
  | _ => .array .int
theorem nmX7 : ∀ a, a < 21 → ∀ b, b < 21 → a ≠ b → (TX7 a).2.1 ≠ (TX7 b).2.1 := by decide +kernel
theorem tyX7_ok : ∀ k, k < 21 → parseFieldDescriptor (TX7 k).2.2.1 = some (tyX7 k) := by decide +kernel
abbrev cX7_init : ByteArray := prog_9_method_1_code
def yX7_init : MethodName := ⟨RX7, "<init>", "()V"⟩
abbrev cX7_in : ByteArray := prog_9_method_2_code
def yX7_in : MethodName := ⟨RX7, "in", "(JJJ)Z"⟩
abbrev cX7_has : ByteArray := prog_9_method_3_code
def yX7_has : MethodName := ⟨RX7, "has", "(II)Z"⟩
abbrev cX7_ones : ByteArray := prog_9_method_4_code
def yX7_ones : MethodName := ⟨RX7, "ones", "(I)I"⟩
abbrev cX7_isTeam : ByteArray := prog_9_method_5_code
def yX7_isTeam : MethodName := ⟨RX7, "isTeam", "(I)Z"⟩
abbrev cX7_isGame : ByteArray := prog_9_method_6_code
def yX7_isGame : MethodName := ⟨RX7, "isGame", "(I)Z"⟩
abbrev cX7_wonBrings : ByteArray := prog_9_method_7_code
def yX7_wonBrings : MethodName := ⟨RX7, "wonBrings", "()I"⟩
abbrev cX7_drawnBrings : ByteArray := prog_9_method_8_code
def yX7_drawnBrings : MethodName := ⟨RX7, "drawnBrings", "()I"⟩
abbrev cX7_isOf : ByteArray := prog_9_method_9_code
def yX7_isOf : MethodName := ⟨RX7, "isOf", "(II)Z"⟩
abbrev cX7_brings : ByteArray := prog_9_method_10_code
def yX7_brings : MethodName := ⟨RX7, "brings", "(III)V"⟩
abbrev cX7_counts : ByteArray := prog_9_method_11_code
def yX7_counts : MethodName := ⟨RX7, "counts", "()V"⟩
abbrev cX7_looks : ByteArray := prog_9_method_12_code
def yX7_looks : MethodName := ⟨RX7, "looks", "()V"⟩
abbrev cX7_looksAsOf : ByteArray := prog_9_method_13_code
def yX7_looksAsOf : MethodName := ⟨RX7, "looksAsOf", "(I)V"⟩
abbrev cX7_looksWith : ByteArray := prog_9_method_14_code
def yX7_looksWith : MethodName := ⟨RX7, "looksWith", "(II)V"⟩
abbrev cX7_leftSet : ByteArray := prog_9_method_15_code
def yX7_leftSet : MethodName := ⟨RX7, "leftSet", "()I"⟩
abbrev cX7_ownLeft : ByteArray := prog_9_method_16_code
def yX7_ownLeft : MethodName := ⟨RX7, "ownLeft", "(I)I"⟩
abbrev cX7_reach : ByteArray := prog_9_method_17_code
def yX7_reach : MethodName := ⟨RX7, "reach", "(I)I"⟩
abbrev cX7_isTooMuch : ByteArray := prog_9_method_18_code
def yX7_isTooMuch : MethodName := ⟨RX7, "isTooMuch", "()Z"⟩
abbrev cX7_resultAt : ByteArray := prog_9_method_19_code
def yX7_resultAt : MethodName := ⟨RX7, "resultAt", "(I)I"⟩
abbrev cX7_results : ByteArray := prog_9_method_20_code
def yX7_results : MethodName := ⟨RX7, "results", "()I"⟩
abbrev cX7_notesDrawn : ByteArray := prog_9_method_21_code
def yX7_notesDrawn : MethodName := ⟨RX7, "notesDrawn", "()V"⟩
abbrev cX7_goes : ByteArray := prog_9_method_22_code
def yX7_goes : MethodName := ⟨RX7, "goes", "(II)Z"⟩
abbrev cX7_isInNow : ByteArray := prog_9_method_23_code
def yX7_isInNow : MethodName := ⟨RX7, "isInNow", "(IZ)Z"⟩
abbrev cX7_inSet : ByteArray := prog_9_method_24_code
def yX7_inSet : MethodName := ⟨RX7, "inSet", "()I"⟩
abbrev cX7_canBePassed : ByteArray := prog_9_method_25_code
def yX7_canBePassed : MethodName := ⟨RX7, "canBePassed", "(II)Z"⟩
abbrev cX7_isByte : ByteArray := prog_9_method_26_code
def yX7_isByte : MethodName := ⟨RX7, "isByte", "(I)Z"⟩
abbrev cX7_feed : ByteArray := prog_9_method_27_code
def yX7_feed : MethodName := ⟨RX7, "feed", "(IIIIII)I"⟩
abbrev cX7_byteAt : ByteArray := prog_9_method_28_code
def yX7_byteAt : MethodName := ⟨RX7, "byteAt", "(I)I"⟩
abbrev cX7_isLetter : ByteArray := prog_9_method_29_code
def yX7_isLetter : MethodName := ⟨RX7, "isLetter", "(I)Z"⟩
abbrev cX7_isDigit : ByteArray := prog_9_method_30_code
def yX7_isDigit : MethodName := ⟨RX7, "isDigit", "(I)Z"⟩
abbrev cX7_next : ByteArray := prog_9_method_31_code
def yX7_next : MethodName := ⟨RX7, "next", "()V"⟩
abbrev cX7_isWord : ByteArray := prog_9_method_32_code
def yX7_isWord : MethodName := ⟨RX7, "isWord", "()Z"⟩
abbrev cX7_key : ByteArray := prog_9_method_33_code
def yX7_key : MethodName := ⟨RX7, "key", "()I"⟩
abbrev cX7_whose : ByteArray := prog_9_method_34_code
def yX7_whose : MethodName := ⟨RX7, "whose", "(II)I"⟩
abbrev cX7_isName : ByteArray := prog_9_method_35_code
def yX7_isName : MethodName := ⟨RX7, "isName", "()Z"⟩
abbrev cX7_number : ByteArray := prog_9_method_36_code
def yX7_number : MethodName := ⟨RX7, "number", "(II)I"⟩
abbrev cX7_faults : ByteArray := prog_9_method_37_code
def yX7_faults : MethodName := ⟨RX7, "faults", "()I"⟩
abbrev cX7_isOver : ByteArray := prog_9_method_38_code
def yX7_isOver : MethodName := ⟨RX7, "isOver", "()Z"⟩
abbrev cX7_text : ByteArray := prog_9_method_39_code
def yX7_text : MethodName := ⟨RX7, "text", "()I"⟩
abbrev cX7_comesTeam : ByteArray := prog_9_method_40_code
def yX7_comesTeam : MethodName := ⟨RX7, "comesTeam", "()I"⟩
abbrev cX7_starts : ByteArray := prog_9_method_41_code
def yX7_starts : MethodName := ⟨RX7, "starts", "()I"⟩
abbrev cX7_games : ByteArray := prog_9_method_42_code
def yX7_games : MethodName := ⟨RX7, "games", "(I)I"⟩
abbrev cX7_comesGame : ByteArray := prog_9_method_43_code
def yX7_comesGame : MethodName := ⟨RX7, "comesGame", "(III)I"⟩
abbrev cX7_isPlayed : ByteArray := prog_9_method_44_code
def yX7_isPlayed : MethodName := ⟨RX7, "isPlayed", "(IIZ)I"⟩
abbrev cX7_named : ByteArray := prog_9_method_45_code
def yX7_named : MethodName := ⟨RX7, "named", "()I"⟩
abbrev cX7_system : ByteArray := prog_9_method_46_code
def yX7_system : MethodName := ⟨RX7, "system", "(I)I"⟩
abbrev cX7_play : ByteArray := prog_9_method_47_code
def yX7_play : MethodName := ⟨RX7, "play", "(II)I"⟩
abbrev cX7_unplay : ByteArray := prog_9_method_48_code
def yX7_unplay : MethodName := ⟨RX7, "unplay", "(I)I"⟩
abbrev cX7_told : ByteArray := prog_9_method_49_code
def yX7_told : MethodName := ⟨RX7, "told", "(II)I"⟩
abbrev cX7_game : ByteArray := prog_9_method_50_code
def yX7_game : MethodName := ⟨RX7, "game", "(II)I"⟩
abbrev cX7_between : ByteArray := prog_9_method_51_code
def yX7_between : MethodName := ⟨RX7, "between", "(II)I"⟩
abbrev cX7_taken : ByteArray := prog_9_method_52_code
def yX7_taken : MethodName := ⟨RX7, "taken", "(I)I"⟩
abbrev cX7_isIn : ByteArray := prog_9_method_53_code
def yX7_isIn : MethodName := ⟨RX7, "isIn", "(I)I"⟩
abbrev cX7_all : ByteArray := prog_9_method_54_code
def yX7_all : MethodName := ⟨RX7, "all", "()I"⟩
abbrev cX7_aboveOf : ByteArray := prog_9_method_55_code
def yX7_aboveOf : MethodName := ⟨RX7, "aboveOf", "(II)I"⟩
abbrev cX7_set : ByteArray := prog_9_method_56_code
def yX7_set : MethodName := ⟨RX7, "set", "(II)I"⟩
abbrev cX7_run : ByteArray := prog_9_method_57_code
def yX7_run : MethodName := ⟨RX7, "run", "(II)I"⟩
abbrev cX7_pattern : ByteArray := prog_9_method_58_code
def yX7_pattern : MethodName := ⟨RX7, "pattern", "(I)I"⟩
abbrev cX7_isEnough : ByteArray := prog_9_method_59_code
def yX7_isEnough : MethodName := ⟨RX7, "isEnough", "(III)Z"⟩
abbrev cX7_needs : ByteArray := prog_9_method_60_code
def yX7_needs : MethodName := ⟨RX7, "needs", "(II)I"⟩
abbrev cX7_since : ByteArray := prog_9_method_61_code
def yX7_since : MethodName := ⟨RX7, "since", "(II)I"⟩
abbrev cX7_help : ByteArray := prog_9_method_62_code
def yX7_help : MethodName := ⟨RX7, "help", "(II)I"⟩
abbrev cX7_without : ByteArray := prog_9_method_63_code
def yX7_without : MethodName := ⟨RX7, "without", "(I)I"⟩
abbrev cX7_notesRow : ByteArray := prog_9_method_64_code
def yX7_notesRow : MethodName := ⟨RX7, "notesRow", "()V"⟩
abbrev cX7_tablesFrom : ByteArray := prog_9_method_65_code
def yX7_tablesFrom : MethodName := ⟨RX7, "tablesFrom", "(I)V"⟩
abbrev cX7_tables : ByteArray := prog_9_method_66_code
def yX7_tables : MethodName := ⟨RX7, "tables", "()I"⟩
abbrev cX7_draws : ByteArray := prog_9_method_67_code
def yX7_draws : MethodName := ⟨RX7, "draws", "(I)V"⟩
abbrev cX7_firstOnes : ByteArray := prog_9_method_68_code
def yX7_firstOnes : MethodName := ⟨RX7, "firstOnes", "()I"⟩
abbrev cX7_drawn : ByteArray := prog_9_method_69_code
def yX7_drawn : MethodName := ⟨RX7, "drawn", "(I)I"⟩
abbrev cX7_chance : ByteArray := prog_9_method_70_code
def yX7_chance : MethodName := ⟨RX7, "chance", "(IIII)I"⟩
abbrev cX7_isSheet : ByteArray := prog_9_method_71_code
def yX7_isSheet : MethodName := ⟨RX7, "isSheet", "(I)Z"⟩
abbrev cX7_runsSo : ByteArray := prog_9_method_72_code
def yX7_runsSo : MethodName := ⟨RX7, "runsSo", "(II)I"⟩
abbrev cX7_firstTold : ByteArray := prog_9_method_73_code
def yX7_firstTold : MethodName := ⟨RX7, "firstTold", "(I)I"⟩
abbrev cX7_tells : ByteArray := prog_9_method_74_code
def yX7_tells : MethodName := ⟨RX7, "tells", "(II)I"⟩
abbrev cX7_film : ByteArray := prog_9_method_75_code
def yX7_film : MethodName := ⟨RX7, "film", "(II)I"⟩
abbrev cX7_copies : ByteArray := prog_9_method_76_code
def yX7_copies : MethodName := ⟨RX7, "copies", "([I[I)V"⟩
abbrev cX7_image : ByteArray := prog_9_method_77_code
def yX7_image : MethodName := ⟨RX7, "image", "()I"⟩
abbrev cX7_back : ByteArray := prog_9_method_78_code
def yX7_back : MethodName := ⟨RX7, "back", "()I"⟩
abbrev cX7_count : ByteArray := prog_9_method_79_code
def yX7_count : MethodName := ⟨RX7, "count", "(I)I"⟩
abbrev cX7_sheet : ByteArray := prog_9_method_80_code
def yX7_sheet : MethodName := ⟨RX7, "sheet", "(III)I"⟩
abbrev cX7_put : ByteArray := prog_9_method_81_code
def yX7_put : MethodName := ⟨RX7, "put", "(III)I"⟩
abbrev cX7_copy : ByteArray := prog_9_method_82_code
def yX7_copy : MethodName := ⟨RX7, "copy", "(IIIII)I"⟩
abbrev cX7_load : ByteArray := prog_9_method_83_code
def yX7_load : MethodName := ⟨RX7, "load", "(IIII)I"⟩
def RJ6 : String := "java/lang/Integer"
abbrev cJ6_bitCount_0f7a4 : ByteArray := prog_10_method_49_code
def yJ6_bitCount_0f7a4 : MethodName := ⟨RJ6, "bitCount", "(I)I"⟩
def RJ0 : String := "java/lang/String"
abbrev cJ0_length_8abf5 : ByteArray := prog_11_method_54_code
def yJ0_length_8abf5 : MethodName := ⟨RJ0, "length", "()I"⟩
abbrev cJ0_charAt_5068e : ByteArray := prog_11_method_56_code
def yJ0_charAt_5068e : MethodName := ⟨RJ0, "charAt", "(I)C"⟩
abbrev cJ0_coder_7d493 : ByteArray := prog_11_method_152_code
def yJ0_coder_7d493 : MethodName := ⟨RJ0, "coder", "()B"⟩
abbrev cJ0_isLatin1_aae02 : ByteArray := prog_11_method_154_code
def yJ0_isLatin1_aae02 : MethodName := ⟨RJ0, "isLatin1", "()Z"⟩
abbrev cJ0_checkIndex_df160 : ByteArray := prog_11_method_155_code
def yJ0_checkIndex_df160 : MethodName := ⟨RJ0, "checkIndex", "(II)V"⟩
def RJ1 : String := "java/lang/StringLatin1"
abbrev cJ1_charAt_3b067 : ByteArray := prog_12_method_2_code
def yJ1_charAt_3b067 : MethodName := ⟨RJ1, "charAt", "([BI)C"⟩
def RJ2 : String := "java/lang/StringUTF16"
abbrev cJ2_getChar_3b067 : ByteArray := prog_13_method_5_code
def yJ2_getChar_3b067 : MethodName := ⟨RJ2, "getChar", "([BI)C"⟩
abbrev cJ2_length_9d52b : ByteArray := prog_13_method_6_code
def yJ2_length_9d52b : MethodName := ⟨RJ2, "length", "([B)I"⟩
abbrev cJ2_charAt_3b067 : ByteArray := prog_13_method_83_code
def yJ2_charAt_3b067 : MethodName := ⟨RJ2, "charAt", "([BI)C"⟩
abbrev cJ2_checkIndex_2214a : ByteArray := prog_13_method_91_code
def yJ2_checkIndex_2214a : MethodName := ⟨RJ2, "checkIndex", "(I[B)V"⟩
def RJ10 : String := "java/lang/System"
def RJ3 : String := "jdk/internal/util/Preconditions"
abbrev cJ3_checkIndex_8e157 : ByteArray := prog_15_method_11_code
def yJ3_checkIndex_8e157 : MethodName := ⟨RJ3, "checkIndex", "(IILjava/util/function/BiFunction;)I"⟩
def RL : String := "StillInItLaw"
abbrev cL_law : ByteArray := code
def yL_law : MethodName := ⟨RL, "law", "([I)Z"⟩
abbrev vwCl : List vw_C := [(RX0, TX0, 10), (RX1, TX1, 9), (RX2, TX2, 3), (RX3, TX3, 5), (RX4, TX4, 5), (RX5, TX5, 5), (RX6, TX6, 10), (RX7, TX7, 21)]
def lw_good : List Cond := lw_tbl.filter goodWord
theorem lw_good_all : GoodIn lw_good lw_good := fun w hw => ⟨hw, good_of_word (List.mem_filter.mp hw).2⟩
theorem lw_mem {w : Cond} (i : Nat) (h : lw_tbl[i]? = some w) (g : goodWord w = true) : w ∈ lw_good := List.mem_filter.mpr ⟨List.mem_of_getElem? h, g⟩
theorem inlX0 : ∀ w ∈ u_ws RX0 TX0 10, w ∈ lw_good := by decide +kernel
theorem inlX1 : ∀ w ∈ u_ws RX1 TX1 9, w ∈ lw_good := by decide +kernel
theorem inlX2 : ∀ w ∈ u_ws RX2 TX2 3, w ∈ lw_good := by decide +kernel
theorem inlX3 : ∀ w ∈ u_ws RX3 TX3 5, w ∈ lw_good := by decide +kernel
theorem inlX4 : ∀ w ∈ u_ws RX4 TX4 5, w ∈ lw_good := by decide +kernel
theorem inlX5 : ∀ w ∈ u_ws RX5 TX5 5, w ∈ lw_good := by decide +kernel
theorem inlX6 : ∀ w ∈ u_ws RX6 TX6 10, w ∈ lw_good := by decide +kernel
theorem inlX7 : ∀ w ∈ u_ws RX7 TX7 21, w ∈ lw_good := by decide +kernel
def nestM : List (String × Nat × MethodName × String) := [("StillInIt", 9, ⟨"StillInIt$Tape", "<init>", "()V"⟩, "StillInIt"), ("StillInIt", 18, ⟨"StillInIt$Group", "<init>", "()V"⟩, "StillInIt"), ("StillInIt", 31, ⟨"StillInIt$Shutter", "<init>", "()V"⟩, "StillInIt"), ("StillInIt", 38, ⟨"StillInIt$Race", "<init>", "()V"⟩, "StillInIt"), ("StillInIt", 45, ⟨"StillInIt$Walk", "<init>", "()V"⟩, "StillInIt"), ("StillInIt", 60, ⟨"StillInIt$Sheet", "<init>", "()V"⟩, "StillInIt"), ("StillInIt$Shutter", 32, ⟨"StillInIt", "has", "(II)Z"⟩, "StillInIt"), ("StillInIt$Race", 80, ⟨"StillInIt", "has", "(II)Z"⟩, "StillInIt"), ("StillInIt", 208, ⟨"StillInIt$Walk", "from", "(ILStillInIt$Group;LStillInIt$Sheet;)I"⟩, "StillInIt")]
theorem nestM_in : ∀ w ∈ nestM, Cond.methodLinkNest w.1 w.2.1 w.2.2.1 w.2.2.2 ∈ lw_tbl := by decide +kernel
def nestF : List (String × Nat × String × String × String × String) := [("StillInIt$Group", 52, "StillInIt", "DRAWN", "[I", "StillInIt"), ("StillInIt$Group", 49, "StillInIt", "WON", "[I", "StillInIt"), ("StillInIt$Group", 55, "StillInIt", "LEAST", "[I", "StillInIt"), ("StillInIt$Group", 58, "StillInIt", "FIRST_RESULT", "[I", "StillInIt")]
theorem nestF_in : ∀ w ∈ nestF, Cond.fieldLinkNest w.1 w.2.1 w.2.2.1 w.2.2.2.1 w.2.2.2.2.1 w.2.2.2.2.2 ∈ lw_tbl := by decide +kernel
def strR : List (String × Nat × String × Nat) := [("StillInIt", 267, "team", 0), ("StillInIt$Tape", 49, "team", 0), ("StillInIt$Tape", 55, "start", 1), ("StillInIt$Tape", 57, "game", 2), ("StillInIt$Tape", 59, "won", 3), ("StillInIt$Tape", 61, "drew", 4), ("StillInIt", 276, "start", 1), ("StillInIt", 281, "game", 2), ("StillInIt", 286, "won", 3), ("StillInIt", 292, "drew", 4)]
theorem strR_in : ∀ w ∈ strR, Cond.stringRef w.1 w.2.1 w.2.2.1 ∈ lw_tbl := by decide +kernel
def strB : List (List Int32) := [[116, 101, 97, 109], [115, 116, 97, 114, 116], [103, 97, 109, 101], [119, 111, 110], [100, 114, 101, 119]]
theorem wd_native : Cond.native arraycopyName ∈ lw_good := lw_mem 693 (by decide +kernel) (by decide +kernel)
theorem wd_copystat : Cond.static arraycopyName ∈ lw_good := lw_mem 692 (by decide +kernel) (by decide +kernel)
theorem wd_sysinit : Cond.initialized "java/lang/System" ∈ lw_good := lw_mem 82 (by decide +kernel) (by decide +kernel)
theorem wd_oinst : Cond.instanceMethod Lib.objectInit ∈ lw_good := lw_mem 89 (by decide +kernel) (by decide +kernel)
theorem wd_ocode : Cond.code Lib.objectInit ⟨#[0xb1]⟩ 1 none ∈ lw_good := lw_mem 90 (by decide +kernel) (by decide +kernel)
end
section
/-! THE LIGHT JUDGEMENT: one abstract heap (a list of cells whose references are places of that list), kept beside the machine's by one map of addresses; whole-world contracts, no splitting of worlds. -/
abbrev Ae : Type := (Nat × vp_A) ⊕ (Nat × List Value)
abbrev Hp : Type := List Ae
/-- classes' numbers and slots; array classes by kind; the first address that is ours -/
abbrev Gx : Type := va_G × (Nat → ClassId) × Nat
def tv (adr : Nat → Nat) (v : Value) : Value := match v with
  | .ref i => .ref (adr i)
  | w => w
def tA (adr : Nat → Nat) (a : vp_A) : vp_A := (a.1, match a.2 with
  | .inl f => .inl f
  | .inr (.inl f) => .inr (.inl f)
  | .inr (.inr (.inl f)) => .inr (.inr (.inl f))
  | .inr (.inr (.inr (.inl f))) => .inr (.inr (.inr (.inl f)))
  | .inr (.inr (.inr (.inr f))) => .inr (.inr (.inr (.inr (fun j => if j < a.1 then (f j).map adr else none)))))
def tE (G : Gx) (adr : Nat → Nat) (e : Ae) : va_E := match e with
  | .inl (k, a) => .inl (G.2.1 k, tA adr a)
  | .inr (c, fs) => .inr (c, fs.map (tv adr))
def cW (G : Gx) (adr : Nat → Nat) (h : Hp) : va_W := h.mapIdx (fun i e => (adr i, tE G adr e))
theorem cW_at {G : Gx} {adr : Nat → Nat} {h : Hp} {i : Nat} {e : Ae} (he : h[i]? = some e) : (cW G adr h)[i]? = some (adr i, tE G adr e) := by
  simp [cW, List.getElem?_mapIdx, he]
theorem cW_set {G : Gx} {adr : Nat → Nat} {h : Hp} {i : Nat} {e : Ae} : (cW G adr h).set i (adr i, tE G adr e) = cW G adr (h.set i e) := by
  apply List.ext_getElem?
  intro j
  simp only [cW, List.getElem?_set, List.getElem?_mapIdx, List.length_mapIdx]
  by_cases hij : i = j
  · subst hij
    by_cases hl : i < h.length
    · simp [hl]
    · simp [hl]
  · simp [hij]
theorem tv_cat (adr : Nat → Nat) (v : Value) : (tv adr v).category = v.category := by cases v <;> rfl
def tL (adr : Nat → Nat) (L : List (Nat × Value)) : List (Nat × Value) := L.map (fun q => (q.1, tv adr q.2))
theorem tL_at {adr : Nat → Nat} {L : List (Nat × Value)} {j i : Nat} {v : Value} (h : L[j]? = some (i, v)) : (tL adr L)[j]? = some (i, tv adr v) := by
  simp [tL, h]
theorem tL_st1 {adr : Nat → Nat} {L L' : List (Nat × Value)} {i : Nat} {v : Value} (h : (i, v) :: L.filter (fun q => !(q.1 == i) && !(q.1 + 1 == i && q.2.category == 2)) = L') : (i, tv adr v) :: (tL adr L).filter (fun q => !(q.1 == i) && !(q.1 + 1 == i && q.2.category == 2)) = tL adr L' := by
  subst h
  simp only [tL, List.map_cons, List.filter_map]
  congr 2
  apply List.filter_congr
  intro q _
  simp [tv_cat]
theorem tL_st2 {adr : Nat → Nat} {L L' : List (Nat × Value)} {i : Nat} {v : Value} (h : (i, v) :: L.filter (fun q => !(q.1 == i) && (!(q.1 == i + 1) && !(q.1 + 1 == i && q.2.category == 2))) = L') : (i, tv adr v) :: (tL adr L).filter (fun q => !(q.1 == i) && (!(q.1 == i + 1) && !(q.1 + 1 == i && q.2.category == 2))) = tL adr L' := by
  subst h
  simp only [tL, List.map_cons, List.filter_map]
  congr 2
  apply List.filter_congr
  intro q _
  simp [tv_cat]
theorem tL_sub {adr : Nat → Nat} {L L' : List (Nat × Value)} {ls : Array Slot} {nL : Nat} (h : lv_has ls nL (tL adr L)) (ks : List Nat) (hk : ks.map (fun k => L[k]?) = L'.map some) : lv_has ls nL (tL adr L') := by
  refine ⟨h.1, h.2.1, fun q hq => ?_⟩
  simp only [tL, List.mem_map] at hq
  obtain ⟨x, hx, rfl⟩ := hq
  have h1 : some x ∈ L'.map some := List.mem_map_of_mem hx
  rw [← hk] at h1
  obtain ⟨k, -, hk2⟩ := List.mem_map.mp h1
  have h2 : x ∈ L := List.mem_of_getElem? hk2
  exact h.2.2 (x.1, tv adr x.2) (List.mem_map.mpr ⟨x, h2, rfl⟩)
def Aq (G : Gx) : Nat → Prop := fun q => G.2.2 ≤ q
/-- static tables of our own: name, three numbers -/
def statT : List (String × List Int32) := [("WON", [1, 2, 3]), ("DRAWN", [0, 1, 1]), ("LEAST", [1, 2, 2]), ("FIRST_RESULT", [1, 0, 0])]
/-- what holds of a state beside its heap's own cells: tables, nest words, static tables, the texts of constants -/
def KK (G : Gx) (adr : Nat → Nat) (U : State) : Prop :=
  G.2.2 ≤ U.heap.size ∧ va_K G.1 vwCl [(G.2.1 0, .int), (G.2.1 1, .long), (G.2.1 2, .object "StillInIt$Sheet")] U ∧ (∀ w ∈ nestM, va_Nw (.methodLinkNest w.1 w.2.1 w.2.2.1 w.2.2.2) U) ∧ (∀ w ∈ nestF, va_Nw (.fieldLinkNest w.1 w.2.1 w.2.2.1 w.2.2.2.1 w.2.2.2.2.1 w.2.2.2.2.2) U) ∧
  (∀ (k : Nat) (q : String × List Int32), statT[k]? = some q → va_Z "StillInIt" q.1 "[I" (.ref (adr (1000 + k))) (Aq G) U U.heap ∧ va_T .int (adr (1000 + k)) 3 (fun j => .int (q.2.getD j 0)) (Aq G) U U.heap) ∧
  (∀ w ∈ strR, vk_R w.1 w.2.1 w.2.2.1 (adr (1010 + w.2.2.2)) U) ∧
  vk_S 5 [4, 5, 4, 3, 4] strB (fun i => adr (1010 + i)) (fun i => adr (1020 + i)) (Aq G) U U.heap
theorem KK.calling {G : Gx} {adr : Nat → Nat} {U : State} (a : Array Value) (g : JFrame) (mk : MethodId) (h : KK G adr U) : KK G adr (U.calling g mk a) := by
  obtain ⟨h0, h1, h2, h3, h4, h5, h6⟩ := h
  have hv : U.vm.Alike (U.calling g mk a).vm := Vm.Alike.refl _
  refine ⟨h0, va_K.moved hv h1, fun w hw => va_Nw.same rfl (u := U) rfl (h2 w hw), fun w hw => va_Nw.same rfl (u := U) rfl (h3 w hw), fun k q hq => ⟨va_Z.moved hv (h4 k q hq).1, va_T.moved hv (h4 k q hq).2⟩, fun w hw => vk_R.same (u := U) rfl (h5 w hw), vk_S.moved hv h6⟩
theorem KK.go {G : Gx} {adr : Nat → Nat} {s U : State} {H : Heap} {locs : List Loc} (h : KK G adr s) (hS : va_S (Aq G) s.heap H locs) (hW : s.WarmedH U.vm) (hU : U.heap = H) : KK G adr U := by
  obtain ⟨h0, h1, h2, h3, h4, h5, h6⟩ := h
  have hv : s.vm.Alike U.vm := hW.alike
  have hk : ∀ a : Nat, a < s.heap.size → ¬ Aq G a → U.heap[a]? = s.heap[a]? := fun a h1 h2 => by rw [hU]; exact hS.2.1 a h1 h2
  refine ⟨by rw [hU]; exact Nat.le_trans h0 hS.1, va_K.moved hv h1, fun w hw => va_Nw.warmM hW (h2 w hw), fun w hw => va_Nw.warmF hW (h3 w hw), fun k q hq => ⟨va_Z.kept (va_Z.moved hv (h4 k q hq).1) hk, va_T.kept (va_T.moved hv (h4 k q hq).2) hk⟩, fun w hw => vk_R.warm hW (h5 w hw), vk_S.kept (vk_S.moved hv h6) hk⟩
theorem KK.adr {G : Gx} {adr adr' : Nat → Nat} {U : State} (h : KK G adr U) (he : ∀ i, 1000 ≤ i → adr' i = adr i) : KK G adr' U := by
  have e1 : ∀ k, adr' (1000 + k) = adr (1000 + k) := fun k => he _ (by omega)
  have e2 : ∀ k, adr' (1010 + k) = adr (1010 + k) := fun k => he _ (by omega)
  have e3 : ∀ k, adr' (1020 + k) = adr (1020 + k) := fun k => he _ (by omega)
  unfold KK at h ⊢
  simp only [e1, e2, e3]
  exact h
/-- the abstract heap stands in the machine's -/
def RH (G : Gx) (adr : Nat → Nat) (h : Hp) (H : Heap) : Prop := va_P G.1 vwCl (cW G adr h) H ∧ va_D (Aq G) (cW G adr h)
abbrev Cx : Type := Program × Launch × Env × State × MethodId × Array Value × List Frame × Method × Code × Gx
/-- what is fixed while a method runs -/
def Fx (X : Cx) (cc : ByteArray) (nL : Nat) (own : String) : Prop := match X with
  | (p, _, _, s, m, args, _, meth, c, _) => p.tables.exec = Jvm.exec ∧ c.code = cc ∧ c.maxLocals = nL ∧ s.vm.findClass own = some m.cls ∧ (∀ w ∈ lw_good, w.before args s = true) ∧ meth.locks = false
/-- the machine, at this place of this method, with these locals, this stack and this heap, comes to Qm -/
def AW (X : Cx) (cc : ByteArray) (nL : Nat) (own : String) (R : Room) (Qm : State → Prop) (k n : Nat) (adr : Nat → Nat) (h : Hp) (pc : Nat) (L : List (Nat × Value)) (st : List Value) : Prop := match X with
  | (p, l, e, s, m, args, below, meth, c, G) => Fx X cc nL own → KK G adr s → ∀ (ls : Array Slot) (H : Heap) (locs : List Loc), lv_has ls nL (tL adr L) → RH G adr h H → va_S (Aq G) s.heap H locs → W p l e R s m args below meth c H locs k n Qm (F0 m pc ls (st.map (tv adr)))
end
section
/-! reads and writes of the abstract heap -/
def ushr (x y : Int32) : Int32 := (x.toUInt32 >>> (y.toUInt32 &&& Int32.toUInt32 31)).toInt32
def ck (h : Hp) (r ci : Nat) : Option Unit := match h[r]? with
  | some (.inr (c, _)) => if c = ci then some () else none
  | _ => none
def gF (h : Hp) (r ci k : Nat) : Option Value := match h[r]? with
  | some (.inr (c, fs)) => if c = ci then fs[k]? else none
  | _ => none
def gI (h : Hp) (r ci k : Nat) : Option Int32 := match gF h r ci k with
  | some (.int x) => some x
  | _ => none
def gR (h : Hp) (r ci k : Nat) : Option Nat := match gF h r ci k with
  | some (.ref x) => some x
  | _ => none
def pF (h : Hp) (r ci k : Nat) (v : Value) : Option Hp := match h[r]? with
  | some (.inr (c, fs)) => if c = ci ∧ k < fs.length then some (h.set r (.inr (c, fs.set k v))) else none
  | _ => none
def pI (h : Hp) (r ci k : Nat) (x : Int32) : Option Hp := pF h r ci k (.int x)
def pZ (h : Hp) (r ci k : Nat) (x : Int32) : Option Hp := if x = 0 ∨ x = 1 then pF h r ci k (.int x) else none
def aL (h : Hp) (r : Nat) (i : Int32) : Option Int32 := match h[r]? with
  | some (.inl (0, (n, .inl f))) => if i < 0 ∨ n ≤ i.toNatClampNeg then none else some (f i.toNatClampNeg)
  | _ => none
def aS (h : Hp) (r : Nat) (i x : Int32) : Option Hp := match h[r]? with
  | some (.inl (0, (n, .inl f))) => if i < 0 ∨ n ≤ i.toNatClampNeg then none else some (h.set r (.inl (0, (n, .inl (upd f i.toNatClampNeg x)))))
  | _ => none
def lL (h : Hp) (r : Nat) (i : Int32) : Option Int64 := match h[r]? with
  | some (.inl (1, (n, .inr (.inl f)))) => if i < 0 ∨ n ≤ i.toNatClampNeg then none else some (f i.toNatClampNeg)
  | _ => none
def lS (h : Hp) (r : Nat) (i : Int32) (x : Int64) : Option Hp := match h[r]? with
  | some (.inl (1, (n, .inr (.inl f)))) => if i < 0 ∨ n ≤ i.toNatClampNeg then none else some (h.set r (.inl (1, (n, .inr (.inl (vp_updL f i.toNatClampNeg x))))))
  | _ => none
def qL (h : Hp) (r : Nat) (i : Int32) : Option Nat := match h[r]? with
  | some (.inl (2, (n, .inr (.inr (.inr (.inr f)))))) => if i < 0 ∨ n ≤ i.toNatClampNeg then none else f i.toNatClampNeg
  | _ => none
def qS (h : Hp) (r : Nat) (i : Int32) (x : Nat) : Option Hp := match h[r]? with
  | some (.inl (2, (n, .inr (.inr (.inr (.inr f)))))) => if i < 0 ∨ n ≤ i.toNatClampNeg then none else match ck h x 2 with
    | some _ => some (h.set r (.inl (2, (n, .inr (.inr (.inr (.inr (va_up f i.toNatClampNeg (some x)))))))))
    | none => none
  | _ => none
def aN (h : Hp) (r : Nat) : Option Int32 := match h[r]? with
  | some (.inl (0, (n, .inl _))) => some (Int32.ofNat n)
  | _ => none
def aC (h : Hp) (r : Nat) (sp : Int32) (q : Nat) (dp z : Int32) : Option Hp := match h[r]?, h[q]? with
  | some (.inl (0, (n0, .inl f))), some (.inl (0, (n1, .inl g))) => if sp < 0 ∨ dp < 0 ∨ z < 0 ∨ n0 < sp.toNatClampNeg + z.toNatClampNeg ∨ n1 < dp.toNatClampNeg + z.toNatClampNeg then none else some (h.set q (.inl (0, (n1, .inl (va_cpy f g sp.toNatClampNeg dp.toNatClampNeg z.toNatClampNeg)))))
  | _, _ => none
def sT (q : Nat) (i : Int32) : Option Int32 := match statT[q]? with
  | some (_, xs) => if i < 0 ∨ 3 ≤ i.toNatClampNeg then none else some (xs.getD i.toNatClampNeg 0)
  | none => none
/-- a truth value -/
def bz (x : Int32) : Option Unit := if x = 0 ∨ x = 1 then some () else none
theorem gF_some {h : Hp} {r ci k : Nat} {v : Value} (hx : gF h r ci k = some v) : ∃ fs, h[r]? = some (.inr (ci, fs)) ∧ fs[k]? = some v := by
  unfold gF at hx
  split at hx
  · rename_i c fs he
    split at hx
    · rename_i hc
      subst hc
      exact ⟨fs, he, hx⟩
    · cases hx
  · cases hx
theorem gI_some {h : Hp} {r ci k : Nat} {x : Int32} (hx : gI h r ci k = some x) : gF h r ci k = some (.int x) := by
  unfold gI at hx
  split at hx
  · rename_i y he
    cases hx
    exact he
  · cases hx
theorem gR_some {h : Hp} {r ci k : Nat} {x : Nat} (hx : gR h r ci k = some x) : gF h r ci k = some (.ref x) := by
  unfold gR at hx
  split at hx
  · rename_i y he
    cases hx
    exact he
  · cases hx
theorem ck_some {h : Hp} {r ci : Nat} {u : Unit} (hx : ck h r ci = some u) : ∃ fs, h[r]? = some (.inr (ci, fs)) := by
  unfold ck at hx
  split at hx
  · rename_i c fs he
    split at hx
    · rename_i hc
      subst hc
      exact ⟨fs, he⟩
    · cases hx
  · cases hx
theorem pF_some {h h' : Hp} {r ci k : Nat} {v : Value} (hx : pF h r ci k v = some h') : ∃ fs, h[r]? = some (.inr (ci, fs)) ∧ k < fs.length ∧ h' = h.set r (.inr (ci, fs.set k v)) := by
  unfold pF at hx
  split at hx
  · rename_i c fs he
    split at hx
    · rename_i hc
      obtain ⟨rfl, hk⟩ := hc
      cases hx
      exact ⟨fs, he, hk, rfl⟩
    · cases hx
  · cases hx
theorem aL_some {h : Hp} {r : Nat} {i x : Int32} (hx : aL h r i = some x) : ∃ n f, h[r]? = some (.inl (0, (n, .inl f))) ∧ vp_in i n ∧ f i.toNatClampNeg = x := by
  unfold aL at hx
  split at hx
  · rename_i n f he
    split at hx
    · cases hx
    · rename_i hc
      cases hx
      exact ⟨n, f, he, hc, rfl⟩
  · cases hx
theorem aS_some {h h' : Hp} {r : Nat} {i x : Int32} (hx : aS h r i x = some h') : ∃ n f, h[r]? = some (.inl (0, (n, .inl f))) ∧ vp_in i n ∧ h' = h.set r (.inl (0, (n, .inl (upd f i.toNatClampNeg x)))) := by
  unfold aS at hx
  split at hx
  · rename_i n f he
    split at hx
    · cases hx
    · rename_i hc
      cases hx
      exact ⟨n, f, he, hc, rfl⟩
  · cases hx
theorem lL_some {h : Hp} {r : Nat} {i : Int32} {x : Int64} (hx : lL h r i = some x) : ∃ n f, h[r]? = some (.inl (1, (n, .inr (.inl f)))) ∧ vp_in i n ∧ f i.toNatClampNeg = x := by
  unfold lL at hx
  split at hx
  · rename_i n f he
    split at hx
    · cases hx
    · rename_i hc
      cases hx
      exact ⟨n, f, he, hc, rfl⟩
  · cases hx
theorem lS_some {h h' : Hp} {r : Nat} {i : Int32} {x : Int64} (hx : lS h r i x = some h') : ∃ n f, h[r]? = some (.inl (1, (n, .inr (.inl f)))) ∧ vp_in i n ∧ h' = h.set r (.inl (1, (n, .inr (.inl (vp_updL f i.toNatClampNeg x))))) := by
  unfold lS at hx
  split at hx
  · rename_i n f he
    split at hx
    · cases hx
    · rename_i hc
      cases hx
      exact ⟨n, f, he, hc, rfl⟩
  · cases hx
theorem qL_some {h : Hp} {r x : Nat} {i : Int32} (hx : qL h r i = some x) : ∃ n f, h[r]? = some (.inl (2, (n, .inr (.inr (.inr (.inr f)))))) ∧ vp_in i n ∧ f i.toNatClampNeg = some x := by
  unfold qL at hx
  split at hx
  · rename_i n f he
    split at hx
    · cases hx
    · rename_i hc
      exact ⟨n, f, he, hc, hx⟩
  · cases hx
theorem qS_some {h h' : Hp} {r x : Nat} {i : Int32} (hx : qS h r i x = some h') : ∃ n f vs, h[r]? = some (.inl (2, (n, .inr (.inr (.inr (.inr f)))))) ∧ h[x]? = some (.inr (2, vs)) ∧ vp_in i n ∧ h' = h.set r (.inl (2, (n, .inr (.inr (.inr (.inr (va_up f i.toNatClampNeg (some x)))))))) := by
  unfold qS at hx
  split at hx
  · rename_i n f he
    split at hx
    · cases hx
    · rename_i hc
      split at hx
      · rename_i u hu
        obtain ⟨vs, hv⟩ := ck_some hu
        cases hx
        exact ⟨n, f, vs, he, hv, hc, rfl⟩
      · cases hx
  · cases hx
theorem aN_some {h : Hp} {r : Nat} {x : Int32} (hx : aN h r = some x) : ∃ n f, h[r]? = some (.inl (0, (n, .inl f))) ∧ Int32.ofNat n = x := by
  unfold aN at hx
  split at hx
  · rename_i n f he
    cases hx
    exact ⟨n, f, he, rfl⟩
  · cases hx
theorem aC_some {h h' : Hp} {r q : Nat} {sp dp z : Int32} (hx : aC h r sp q dp z = some h') : ∃ n0 n1 f g, h[r]? = some (.inl (0, (n0, .inl f))) ∧ h[q]? = some (.inl (0, (n1, .inl g))) ∧ ¬ sp < 0 ∧ ¬ dp < 0 ∧ ¬ z < 0 ∧ sp.toNatClampNeg + z.toNatClampNeg ≤ n0 ∧ dp.toNatClampNeg + z.toNatClampNeg ≤ n1 ∧ h' = h.set q (.inl (0, (n1, .inl (va_cpy f g sp.toNatClampNeg dp.toNatClampNeg z.toNatClampNeg)))) := by
  unfold aC at hx
  split at hx
  · rename_i n0 f n1 g he hg
    split at hx
    · cases hx
    · rename_i hc
      cases hx
      simp only [not_or] at hc
      exact ⟨n0, n1, f, g, he, hg, hc.1, hc.2.1, hc.2.2.1, Nat.not_lt.mp hc.2.2.2.1, Nat.not_lt.mp hc.2.2.2.2, rfl⟩
  · cases hx
theorem sT_some {q : Nat} {nm : String} {xs : List Int32} {i x : Int32} (hq : statT[q]? = some (nm, xs)) (hx : sT q i = some x) : vp_in i 3 ∧ Value.int (xs.getD i.toNatClampNeg 0) = .int x := by
  unfold sT at hx
  rw [hq] at hx
  dsimp only at hx
  split at hx
  · cases hx
  · rename_i hc
    cases hx
    exact ⟨hc, rfl⟩
theorem bz_some {x : Int32} {u : Unit} (hx : bz x = some u) : x = 0 ∨ x = 1 := by
  unfold bz at hx
  split at hx
  · assumption
  · cases hx
/-- what a field's place asks of the tables -/
def GFok (own : String) (i ci fk : Nat) : Prop := ∃ (C : String) (T : u_T) (N : Nat), vwCl[ci]? = some (C, T, N) ∧ fk < N ∧ (∀ w ∈ u_ws C T N, w ∈ lw_good) ∧ Cond.fieldLink own i C (T fk).2.1 (T fk).2.2.1 ∈ lw_good ∧ (T fk).1 = C ∧ ∃ ty0 : Nat → FieldType, (∀ k, k < N → parseFieldDescriptor (T k).2.2.1 = some (ty0 k)) ∧ ∀ a, a < N → ∀ b, b < N → a ≠ b → (T a).2.1 ≠ (T b).2.1
def PFok (own : String) (i ci fk : Nat) (ty : FieldType) : Prop := GFok own i ci fk ∧ ∀ (C : String) (T : u_T) (N : Nat), vwCl[ci]? = some (C, T, N) → (T fk).2.2.2 = false ∧ parseFieldDescriptor (T fk).2.2.1 = some ty
def PNok (own : String) (i ci fk : Nat) (ty : FieldType) : Prop := GFok own i ci fk ∧ ∀ (C : String) (T : u_T) (N : Nat), vwCl[ci]? = some (C, T, N) → (T fk).2.2.2 = true ∧ parseFieldDescriptor (T fk).2.2.1 = some ty ∧ (T fk).1 = own
end
section
section AWR
variable {X : Cx} {cc : ByteArray} {nL : Nat} {own : String} {R : Room} {Qm : State → Prop} {k n : Nat} {adr : Nat → Nat} {h : Hp} {pc : Nat} {L : List (Nat × Value)} {st : List Value}

theorem aw_iadd {x y : Int32} (hd : decode cc pc = .ok (.iadd, 1)) (K : AW X cc nL own R Qm k n adr h (pc + 1) L (.int (x + y) :: st)) : AW X cc nL own R Qm k n adr h pc L (.int y :: .int x :: st) := by
  obtain ⟨p, l, e, s, m, args, below, meth, c, G⟩ := X
  intro F hk ls H locs hl hR hS
  exact lv_iadd F.1 F.2.1 hd (K F hk ls H locs hl hR hS)

theorem aw_isub {x y : Int32} (hd : decode cc pc = .ok (.isub, 1)) (K : AW X cc nL own R Qm k n adr h (pc + 1) L (.int (x - y) :: st)) : AW X cc nL own R Qm k n adr h pc L (.int y :: .int x :: st) := by
  obtain ⟨p, l, e, s, m, args, below, meth, c, G⟩ := X
  intro F hk ls H locs hl hR hS
  exact lv_isub F.1 F.2.1 hd (K F hk ls H locs hl hR hS)

theorem aw_imul {x y : Int32} (hd : decode cc pc = .ok (.imul, 1)) (K : AW X cc nL own R Qm k n adr h (pc + 1) L (.int (x * y) :: st)) : AW X cc nL own R Qm k n adr h pc L (.int y :: .int x :: st) := by
  obtain ⟨p, l, e, s, m, args, below, meth, c, G⟩ := X
  intro F hk ls H locs hl hR hS
  exact lv_imul F.1 F.2.1 hd (K F hk ls H locs hl hR hS)

theorem aw_iand {x y : Int32} (hd : decode cc pc = .ok (.iand, 1)) (K : AW X cc nL own R Qm k n adr h (pc + 1) L (.int (x &&& y) :: st)) : AW X cc nL own R Qm k n adr h pc L (.int y :: .int x :: st) := by
  obtain ⟨p, l, e, s, m, args, below, meth, c, G⟩ := X
  intro F hk ls H locs hl hR hS
  exact lv_iand F.1 F.2.1 hd (K F hk ls H locs hl hR hS)

theorem aw_ior {x y : Int32} (hd : decode cc pc = .ok (.ior, 1)) (K : AW X cc nL own R Qm k n adr h (pc + 1) L (.int (x ||| y) :: st)) : AW X cc nL own R Qm k n adr h pc L (.int y :: .int x :: st) := by
  obtain ⟨p, l, e, s, m, args, below, meth, c, G⟩ := X
  intro F hk ls H locs hl hR hS
  exact lv_ior F.1 F.2.1 hd (K F hk ls H locs hl hR hS)

theorem aw_ixor {x y : Int32} (hd : decode cc pc = .ok (.ixor, 1)) (K : AW X cc nL own R Qm k n adr h (pc + 1) L (.int (x ^^^ y) :: st)) : AW X cc nL own R Qm k n adr h pc L (.int y :: .int x :: st) := by
  obtain ⟨p, l, e, s, m, args, below, meth, c, G⟩ := X
  intro F hk ls H locs hl hR hS
  exact lv_ixor F.1 F.2.1 hd (K F hk ls H locs hl hR hS)

theorem aw_ishl {x y : Int32} (hd : decode cc pc = .ok (.ishl, 1)) (K : AW X cc nL own R Qm k n adr h (pc + 1) L (.int (x <<< (y &&& 31)) :: st)) : AW X cc nL own R Qm k n adr h pc L (.int y :: .int x :: st) := by
  obtain ⟨p, l, e, s, m, args, below, meth, c, G⟩ := X
  intro F hk ls H locs hl hR hS
  exact lv_ishl F.1 F.2.1 hd (K F hk ls H locs hl hR hS)

theorem aw_ishr {x y : Int32} (hd : decode cc pc = .ok (.ishr, 1)) (K : AW X cc nL own R Qm k n adr h (pc + 1) L (.int (x >>> (y &&& 31)) :: st)) : AW X cc nL own R Qm k n adr h pc L (.int y :: .int x :: st) := by
  obtain ⟨p, l, e, s, m, args, below, meth, c, G⟩ := X
  intro F hk ls H locs hl hR hS
  exact lv_ishr F.1 F.2.1 hd (K F hk ls H locs hl hR hS)

theorem aw_iushr {x y : Int32} (hd : decode cc pc = .ok (.iushr, 1)) (K : AW X cc nL own R Qm k n adr h (pc + 1) L (.int (ushr x y) :: st)) : AW X cc nL own R Qm k n adr h pc L (.int y :: .int x :: st) := by
  obtain ⟨p, l, e, s, m, args, below, meth, c, G⟩ := X
  intro F hk ls H locs hl hR hS
  exact lv_iushr F.1 F.2.1 hd rfl (K F hk ls H locs hl hR hS)

theorem aw_idiv {x y : Int32} (hd : decode cc pc = .ok (.idiv, 1)) (hne : ¬ y = 0) (K : AW X cc nL own R Qm k n adr h (pc + 1) L (.int (x / y) :: st)) : AW X cc nL own R Qm k n adr h pc L (.int y :: .int x :: st) := by
  obtain ⟨p, l, e, s, m, args, below, meth, c, G⟩ := X
  intro F hk ls H locs hl hR hS
  exact lv_idiv F.1 F.2.1 hd hne (K F hk ls H locs hl hR hS)

theorem aw_irem {x y : Int32} (hd : decode cc pc = .ok (.irem, 1)) (hne : ¬ y = 0) (K : AW X cc nL own R Qm k n adr h (pc + 1) L (.int (x - x / y * y) :: st)) : AW X cc nL own R Qm k n adr h pc L (.int y :: .int x :: st) := by
  obtain ⟨p, l, e, s, m, args, below, meth, c, G⟩ := X
  intro F hk ls H locs hl hR hS
  exact lv_irem F.1 F.2.1 hd hne (K F hk ls H locs hl hR hS)

theorem aw_ineg {x : Int32} (hd : decode cc pc = .ok (.ineg, 1)) (K : AW X cc nL own R Qm k n adr h (pc + 1) L (.int (-x) :: st)) : AW X cc nL own R Qm k n adr h pc L (.int x :: st) := by
  obtain ⟨p, l, e, s, m, args, below, meth, c, G⟩ := X
  intro F hk ls H locs hl hR hS
  exact lv_ineg F.1 F.2.1 hd (K F hk ls H locs hl hR hS)

theorem aw_i2l {x : Int32} (hd : decode cc pc = .ok (.i2l, 1)) (K : AW X cc nL own R Qm k n adr h (pc + 1) L (.long x.toInt64 :: st)) : AW X cc nL own R Qm k n adr h pc L (.int x :: st) := by
  obtain ⟨p, l, e, s, m, args, below, meth, c, G⟩ := X
  intro F hk ls H locs hl hR hS
  exact lv_i2l F.1 F.2.1 hd rfl (K F hk ls H locs hl hR hS)

theorem aw_i2b {x : Int32} (hd : decode cc pc = .ok (.i2b, 1)) (K : AW X cc nL own R Qm k n adr h (pc + 1) L (.int x.toInt8.toInt32 :: st)) : AW X cc nL own R Qm k n adr h pc L (.int x :: st) := by
  obtain ⟨p, l, e, s, m, args, below, meth, c, G⟩ := X
  intro F hk ls H locs hl hR hS
  exact lv_i2b F.1 F.2.1 hd rfl (K F hk ls H locs hl hR hS)

theorem aw_lcmp {x y : Int64} (hd : decode cc pc = .ok (.lcmp, 1)) (K : AW X cc nL own R Qm k n adr h (pc + 1) L (.int (lg_cmp x y) :: st)) : AW X cc nL own R Qm k n adr h pc L (.long y :: .long x :: st) := by
  obtain ⟨p, l, e, s, m, args, below, meth, c, G⟩ := X
  intro F hk ls H locs hl hR hS
  exact W.lcmp F.1 F.2.1 hd (K F hk ls H locs hl hR hS)

theorem aw_lor {x y : Int64} (hd : decode cc pc = .ok (.lor, 1)) (K : AW X cc nL own R Qm k n adr h (pc + 1) L (.long (x ||| y) :: st)) : AW X cc nL own R Qm k n adr h pc L (.long y :: .long x :: st) := by
  obtain ⟨p, l, e, s, m, args, below, meth, c, G⟩ := X
  intro F hk ls H locs hl hR hS
  exact lv_lor F.1 F.2.1 hd (K F hk ls H locs hl hR hS)

theorem aw_lshl {x : Int64} {y : Int32} (hd : decode cc pc = .ok (.lshl, 1)) (K : AW X cc nL own R Qm k n adr h (pc + 1) L (.long (x <<< (y.toInt64 &&& 63)) :: st)) : AW X cc nL own R Qm k n adr h pc L (.int y :: .long x :: st) := by
  obtain ⟨p, l, e, s, m, args, below, meth, c, G⟩ := X
  intro F hk ls H locs hl hR hS
  exact lv_lshl F.1 F.2.1 hd rfl (K F hk ls H locs hl hR hS)

theorem aw_iconst {z : Int} {v : Int32} (hd : decode cc pc = .ok (.iconst z, 1)) (hv : Int32.ofInt z = v) (K : AW X cc nL own R Qm k n adr h (pc + 1) L (.int v :: st)) : AW X cc nL own R Qm k n adr h pc L st := by
  obtain ⟨p, l, e, s, m, args, below, meth, c, G⟩ := X
  intro F hk ls H locs hl hR hS
  exact lv_iconst F.1 F.2.1 hd hv (K F hk ls H locs hl hR hS)

theorem aw_bipush {z : Int} {v : Int32} (hd : decode cc pc = .ok (.bipush z, 2)) (hv : (Int8.ofInt z).toInt32 = v) (K : AW X cc nL own R Qm k n adr h (pc + 2) L (.int v :: st)) : AW X cc nL own R Qm k n adr h pc L st := by
  obtain ⟨p, l, e, s, m, args, below, meth, c, G⟩ := X
  intro F hk ls H locs hl hR hS
  exact lv_bipush F.1 F.2.1 hd hv (K F hk ls H locs hl hR hS)

theorem aw_sipush {z : Int} {v : Int32} (hd : decode cc pc = .ok (.sipush z, 3)) (hv : (Int16.ofInt z).toInt32 = v) (K : AW X cc nL own R Qm k n adr h (pc + 3) L (.int v :: st)) : AW X cc nL own R Qm k n adr h pc L st := by
  obtain ⟨p, l, e, s, m, args, below, meth, c, G⟩ := X
  intro F hk ls H locs hl hR hS
  exact lv_sipush F.1 F.2.1 hd hv (K F hk ls H locs hl hR hS)

theorem aw_lconst {z : Fin 2} {v : Int64} (hd : decode cc pc = .ok (.lconst z, 1)) (hv : Int64.ofNat (z : Nat) = v) (K : AW X cc nL own R Qm k n adr h (pc + 1) L (.long v :: st)) : AW X cc nL own R Qm k n adr h pc L st := by
  obtain ⟨p, l, e, s, m, args, below, meth, c, G⟩ := X
  intro F hk ls H locs hl hR hS
  exact lv_lconst F.1 F.2.1 hd hv (K F hk ls H locs hl hR hS)

theorem aw_null (hd : decode cc pc = .ok (.aconst_null, 1)) (K : AW X cc nL own R Qm k n adr h (pc + 1) L (.null :: st)) : AW X cc nL own R Qm k n adr h pc L st := by
  obtain ⟨p, l, e, s, m, args, below, meth, c, G⟩ := X
  intro F hk ls H locs hl hR hS
  exact lv_null F.1 F.2.1 hd (K F hk ls H locs hl hR hS)

theorem aw_goto {off : Int} {tgt : Nat} (hd : decode cc pc = .ok (.goto off, 3)) (ht : (pc : Int) + off = (tgt : Int)) (K : AW X cc nL own R Qm k n adr h tgt L st) : AW X cc nL own R Qm k n adr h pc L st := by
  obtain ⟨p, l, e, s, m, args, below, meth, c, G⟩ := X
  intro F hk ls H locs hl hR hS
  exact lv_goto F.1 F.2.1 hd ht (K F hk ls H locs hl hR hS)

theorem aw_ifnonnull {off : Int} {tgt x : Nat} (hd : decode cc pc = .ok (.ifnonnull off, 3)) (ht : (pc : Int) + off = (tgt : Int)) (K : AW X cc nL own R Qm k n adr h tgt L st) : AW X cc nL own R Qm k n adr h pc L (.ref x :: st) := by
  obtain ⟨p, l, e, s, m, args, below, meth, c, G⟩ := X
  intro F hk ls H locs hl hR hS
  exact lv_ifnonnull F.1 F.2.1 hd ht (K F hk ls H locs hl hR hS)

theorem aw_ifnonnullN {off : Int} (hd : decode cc pc = .ok (.ifnonnull off, 3)) (K : AW X cc nL own R Qm k n adr h (pc + 3) L st) : AW X cc nL own R Qm k n adr h pc L (.null :: st) := by
  obtain ⟨p, l, e, s, m, args, below, meth, c, G⟩ := X
  intro F hk ls H locs hl hR hS
  exact lv_ifnonnullN F.1 F.2.1 hd (K F hk ls H locs hl hR hS)

theorem aw_ldc {i : Nat} {v : Int32} (hd : decode cc pc = .ok (.ldc i, 2)) (hw : Cond.constant own i v ∈ lw_good) (K : AW X cc nL own R Qm k n adr h (pc + 2) L (.int v :: st)) : AW X cc nL own R Qm k n adr h pc L st := by
  obtain ⟨p, l, e, s, m, args, below, meth, c, G⟩ := X
  intro F hk ls H locs hl hR hS
  exact lv_ldc F.1 F.2.1 F.2.2.2.1 (F.2.2.2.2.1 _ hw) hd (K F hk ls H locs hl hR hS)

theorem aw_ldcw {i : Nat} {v : Int32} (hd : decode cc pc = .ok (.ldc_w i, 3)) (hw : Cond.constant own i v ∈ lw_good) (K : AW X cc nL own R Qm k n adr h (pc + 3) L (.int v :: st)) : AW X cc nL own R Qm k n adr h pc L st := by
  obtain ⟨p, l, e, s, m, args, below, meth, c, G⟩ := X
  intro F hk ls H locs hl hR hS
  exact lv_ldcw F.1 F.2.1 F.2.2.2.1 (F.2.2.2.2.1 _ hw) hd (K F hk ls H locs hl hR hS)

theorem aw_ldc2 {i : Nat} {v : Int64} (hd : decode cc pc = .ok (.ldc2_w i, 3)) (hw : Cond.constantLong own i v ∈ lw_good) (K : AW X cc nL own R Qm k n adr h (pc + 3) L (.long v :: st)) : AW X cc nL own R Qm k n adr h pc L st := by
  obtain ⟨p, l, e, s, m, args, below, meth, c, G⟩ := X
  intro F hk ls H locs hl hR hS
  exact lv_ldc2 F.1 F.2.1 F.2.2.2.1 (F.2.2.2.2.1 _ hw) hd (K F hk ls H locs hl hR hS)

theorem aw_dup {v : Value} (hd : decode cc pc = .ok (.dup, 1)) (hv : v.category = 1) (K : AW X cc nL own R Qm k n adr h (pc + 1) L (v :: v :: st)) : AW X cc nL own R Qm k n adr h pc L (v :: st) := by
  obtain ⟨p, l, e, s, m, args, below, meth, c, G⟩ := X
  intro F hk ls H locs hl hR hS
  exact lv_dup F.1 F.2.1 hd (by rw [tv_cat]; exact hv) (K F hk ls H locs hl hR hS)

theorem aw_pop {v : Value} (hd : decode cc pc = .ok (.pop, 1)) (hv : v.category = 1) (K : AW X cc nL own R Qm k n adr h (pc + 1) L st) : AW X cc nL own R Qm k n adr h pc L (v :: st) := by
  obtain ⟨p, l, e, s, m, args, below, meth, c, G⟩ := X
  intro F hk ls H locs hl hR hS
  exact lv_pop F.1 F.2.1 hd (by rw [tv_cat]; exact hv) (K F hk ls H locs hl hR hS)

theorem aw_dup2 {v w : Value} (hd : decode cc pc = .ok (.dup2, 1)) (hv : v.category = 1) (hw : w.category = 1) (K : AW X cc nL own R Qm k n adr h (pc + 1) L (v :: w :: v :: w :: st)) : AW X cc nL own R Qm k n adr h pc L (v :: w :: st) := by
  obtain ⟨p, l, e, s, m, args, below, meth, c, G⟩ := X
  intro F hk ls H locs hl hR hS
  exact lv_dup2_11 F.1 F.2.1 hd (by rw [tv_cat]; exact hv) (by rw [tv_cat]; exact hw) (K F hk ls H locs hl hR hS)

theorem aw_iload_n {z : Fin 4} {i : Nat} {x : Int32} (j : Nat) (hd : decode cc pc = .ok (.iload_n z, 1)) (hi : (z : Nat) = i) (hj : L[j]? = some (i, .int x)) (K : AW X cc nL own R Qm k n adr h (pc + 1) L (.int x :: st)) : AW X cc nL own R Qm k n adr h pc L st := by
  obtain ⟨p, l, e, s, m, args, below, meth, c, G⟩ := X
  intro F hk ls H locs hl hR hS
  exact lv_iload_n F.1 F.2.1 hd hi (lv_at hl j (tL_at hj)) (K F hk ls H locs hl hR hS)

theorem aw_iload {i : Nat} {x : Int32} (j : Nat) (hd : decode cc pc = .ok (.iload i, 2)) (hj : L[j]? = some (i, .int x)) (K : AW X cc nL own R Qm k n adr h (pc + 2) L (.int x :: st)) : AW X cc nL own R Qm k n adr h pc L st := by
  obtain ⟨p, l, e, s, m, args, below, meth, c, G⟩ := X
  intro F hk ls H locs hl hR hS
  exact lv_iload F.1 F.2.1 hd (lv_at hl j (tL_at hj)) (K F hk ls H locs hl hR hS)

theorem aw_lload_n {z : Fin 4} {i : Nat} {x : Int64} (j : Nat) (hd : decode cc pc = .ok (.lload_n z, 1)) (hi : (z : Nat) = i) (hj : L[j]? = some (i, .long x)) (K : AW X cc nL own R Qm k n adr h (pc + 1) L (.long x :: st)) : AW X cc nL own R Qm k n adr h pc L st := by
  obtain ⟨p, l, e, s, m, args, below, meth, c, G⟩ := X
  intro F hk ls H locs hl hR hS
  exact lv_lload_n F.1 F.2.1 hd hi (lv_at hl j (tL_at hj)) (K F hk ls H locs hl hR hS)

theorem aw_lload {i : Nat} {x : Int64} (j : Nat) (hd : decode cc pc = .ok (.lload i, 2)) (hj : L[j]? = some (i, .long x)) (K : AW X cc nL own R Qm k n adr h (pc + 2) L (.long x :: st)) : AW X cc nL own R Qm k n adr h pc L st := by
  obtain ⟨p, l, e, s, m, args, below, meth, c, G⟩ := X
  intro F hk ls H locs hl hR hS
  exact lv_lload F.1 F.2.1 hd (lv_at hl j (tL_at hj)) (K F hk ls H locs hl hR hS)

theorem aw_aload_n {z : Fin 4} {i : Nat} {x : Nat} (j : Nat) (hd : decode cc pc = .ok (.aload_n z, 1)) (hi : (z : Nat) = i) (hj : L[j]? = some (i, .ref x)) (K : AW X cc nL own R Qm k n adr h (pc + 1) L (.ref x :: st)) : AW X cc nL own R Qm k n adr h pc L st := by
  obtain ⟨p, l, e, s, m, args, below, meth, c, G⟩ := X
  intro F hk ls H locs hl hR hS
  exact lv_aload_n F.1 F.2.1 hd hi (lv_at hl j (tL_at hj)) (K F hk ls H locs hl hR hS)

theorem aw_aload {i : Nat} {x : Nat} (j : Nat) (hd : decode cc pc = .ok (.aload i, 2)) (hj : L[j]? = some (i, .ref x)) (K : AW X cc nL own R Qm k n adr h (pc + 2) L (.ref x :: st)) : AW X cc nL own R Qm k n adr h pc L st := by
  obtain ⟨p, l, e, s, m, args, below, meth, c, G⟩ := X
  intro F hk ls H locs hl hR hS
  exact lv_aload F.1 F.2.1 hd (lv_at hl j (tL_at hj)) (K F hk ls H locs hl hR hS)

theorem aw_aload_nN {z : Fin 4} {i : Nat} (j : Nat) (hd : decode cc pc = .ok (.aload_n z, 1)) (hi : (z : Nat) = i) (hj : L[j]? = some (i, .null)) (K : AW X cc nL own R Qm k n adr h (pc + 1) L (.null :: st)) : AW X cc nL own R Qm k n adr h pc L st := by
  obtain ⟨p, l, e, s, m, args, below, meth, c, G⟩ := X
  intro F hk ls H locs hl hR hS
  exact lv_aload_nN F.1 F.2.1 hd hi (lv_at hl j (tL_at hj)) (K F hk ls H locs hl hR hS)

theorem aw_istore_n {i : Nat} {z : Fin 4} {x : Int32} {L' : List (Nat × Value)} (hd : decode cc pc = .ok (.istore_n z, 1)) (hi : (z : Nat) = i) (hn : i < nL) (hs : (i, Value.int x) :: L.filter (fun q => !(q.1 == i) && !(q.1 + 1 == i && q.2.category == 2)) = L') (K : AW X cc nL own R Qm k n adr h (pc + 1) L' st) : AW X cc nL own R Qm k n adr h pc L (.int x :: st) := by
  obtain ⟨p, l, e, s, m, args, below, meth, c, G⟩ := X
  intro F hk ls H locs hl hR hS
  exact lv_istore_n F.1 F.2.1 hd hi hl hn (tL_st1 hs) (fun ls' hl' => K F hk ls' H locs hl' hR hS)

theorem aw_istore {i : Nat} {x : Int32} {L' : List (Nat × Value)} (hd : decode cc pc = .ok (.istore i, 2)) (hn : i < nL) (hs : (i, Value.int x) :: L.filter (fun q => !(q.1 == i) && !(q.1 + 1 == i && q.2.category == 2)) = L') (K : AW X cc nL own R Qm k n adr h (pc + 2) L' st) : AW X cc nL own R Qm k n adr h pc L (.int x :: st) := by
  obtain ⟨p, l, e, s, m, args, below, meth, c, G⟩ := X
  intro F hk ls H locs hl hR hS
  exact lv_istore F.1 F.2.1 hd hl hn (tL_st1 hs) (fun ls' hl' => K F hk ls' H locs hl' hR hS)

theorem aw_astore_n {i : Nat} {z : Fin 4} {x : Nat} {L' : List (Nat × Value)} (hd : decode cc pc = .ok (.astore_n z, 1)) (hi : (z : Nat) = i) (hn : i < nL) (hs : (i, Value.ref x) :: L.filter (fun q => !(q.1 == i) && !(q.1 + 1 == i && q.2.category == 2)) = L') (K : AW X cc nL own R Qm k n adr h (pc + 1) L' st) : AW X cc nL own R Qm k n adr h pc L (.ref x :: st) := by
  obtain ⟨p, l, e, s, m, args, below, meth, c, G⟩ := X
  intro F hk ls H locs hl hR hS
  exact lv_astore_n F.1 F.2.1 hd hi hl hn (tL_st1 hs) (fun ls' hl' => K F hk ls' H locs hl' hR hS)

theorem aw_astore {i : Nat} {x : Nat} {L' : List (Nat × Value)} (hd : decode cc pc = .ok (.astore i, 2)) (hn : i < nL) (hs : (i, Value.ref x) :: L.filter (fun q => !(q.1 == i) && !(q.1 + 1 == i && q.2.category == 2)) = L') (K : AW X cc nL own R Qm k n adr h (pc + 2) L' st) : AW X cc nL own R Qm k n adr h pc L (.ref x :: st) := by
  obtain ⟨p, l, e, s, m, args, below, meth, c, G⟩ := X
  intro F hk ls H locs hl hR hS
  exact lv_astore F.1 F.2.1 hd hl hn (tL_st1 hs) (fun ls' hl' => K F hk ls' H locs hl' hR hS)

theorem aw_lstore_n {i : Nat} {z : Fin 4} {x : Int64} {L' : List (Nat × Value)} (hd : decode cc pc = .ok (.lstore_n z, 1)) (hi : (z : Nat) = i) (hn : i + 1 < nL) (hs : (i, Value.long x) :: L.filter (fun q => !(q.1 == i) && (!(q.1 == i + 1) && !(q.1 + 1 == i && q.2.category == 2))) = L') (K : AW X cc nL own R Qm k n adr h (pc + 1) L' st) : AW X cc nL own R Qm k n adr h pc L (.long x :: st) := by
  obtain ⟨p, l, e, s, m, args, below, meth, c, G⟩ := X
  intro F hk ls H locs hl hR hS
  exact lv_lstore_n F.1 F.2.1 hd hi hl hn (tL_st2 hs) (fun ls' hl' => K F hk ls' H locs hl' hR hS)

theorem aw_iinc {i : Nat} {z : Int} {x v : Int32} {L' : List (Nat × Value)} (j : Nat) (hd : decode cc pc = .ok (.iinc i z, 3)) (hj : L[j]? = some (i, .int x)) (hv : x + Int32.ofInt z = v) (hn : i < nL) (hs : (i, Value.int v) :: L.filter (fun q => !(q.1 == i) && !(q.1 + 1 == i && q.2.category == 2)) = L') (K : AW X cc nL own R Qm k n adr h (pc + 3) L' st) : AW X cc nL own R Qm k n adr h pc L st := by
  obtain ⟨p, l, e, s, m, args, below, meth, c, G⟩ := X
  intro F hk ls H locs hl hR hS
  exact lv_iinc F.1 F.2.1 hd hl (k := j) (tL_at hj) hv hn (tL_st1 hs) (fun ls' hl' => K F hk ls' H locs hl' hR hS)

theorem aw_if_eq {x : Int32} {off : Int} {tgt : Nat} (hd : decode cc pc = .ok (.ifCond .eq off, 3)) (ht : (pc : Int) + off = (tgt : Int)) (Kt : x = 0 → AW X cc nL own R Qm k n adr h tgt L st) (Kf : ¬ x = 0 → AW X cc nL own R Qm k n adr h (pc + 3) L st) : AW X cc nL own R Qm k n adr h pc L (.int x :: st) := by
  obtain ⟨p, l, e, s, m, args, below, meth, c, G⟩ := X
  intro F hk ls H locs hl hR hS
  exact lv_if_eq F.1 F.2.1 hd ht (fun q => Kt q F hk ls H locs hl hR hS) (fun q => Kf q F hk ls H locs hl hR hS)

theorem aw_if_ne {x : Int32} {off : Int} {tgt : Nat} (hd : decode cc pc = .ok (.ifCond .ne off, 3)) (ht : (pc : Int) + off = (tgt : Int)) (Kt : ¬ x = 0 → AW X cc nL own R Qm k n adr h tgt L st) (Kf : x = 0 → AW X cc nL own R Qm k n adr h (pc + 3) L st) : AW X cc nL own R Qm k n adr h pc L (.int x :: st) := by
  obtain ⟨p, l, e, s, m, args, below, meth, c, G⟩ := X
  intro F hk ls H locs hl hR hS
  exact lv_if_ne F.1 F.2.1 hd ht (fun q => Kt q F hk ls H locs hl hR hS) (fun q => Kf q F hk ls H locs hl hR hS)

theorem aw_if_lt {x : Int32} {off : Int} {tgt : Nat} (hd : decode cc pc = .ok (.ifCond .lt off, 3)) (ht : (pc : Int) + off = (tgt : Int)) (Kt : x < 0 → AW X cc nL own R Qm k n adr h tgt L st) (Kf : ¬ x < 0 → AW X cc nL own R Qm k n adr h (pc + 3) L st) : AW X cc nL own R Qm k n adr h pc L (.int x :: st) := by
  obtain ⟨p, l, e, s, m, args, below, meth, c, G⟩ := X
  intro F hk ls H locs hl hR hS
  exact lv_if_lt F.1 F.2.1 hd ht (fun q => Kt q F hk ls H locs hl hR hS) (fun q => Kf q F hk ls H locs hl hR hS)

theorem aw_if_ge {x : Int32} {off : Int} {tgt : Nat} (hd : decode cc pc = .ok (.ifCond .ge off, 3)) (ht : (pc : Int) + off = (tgt : Int)) (Kt : 0 ≤ x → AW X cc nL own R Qm k n adr h tgt L st) (Kf : ¬ 0 ≤ x → AW X cc nL own R Qm k n adr h (pc + 3) L st) : AW X cc nL own R Qm k n adr h pc L (.int x :: st) := by
  obtain ⟨p, l, e, s, m, args, below, meth, c, G⟩ := X
  intro F hk ls H locs hl hR hS
  exact lv_if_ge F.1 F.2.1 hd ht (fun q => Kt q F hk ls H locs hl hR hS) (fun q => Kf q F hk ls H locs hl hR hS)

theorem aw_if_gt {x : Int32} {off : Int} {tgt : Nat} (hd : decode cc pc = .ok (.ifCond .gt off, 3)) (ht : (pc : Int) + off = (tgt : Int)) (Kt : 0 < x → AW X cc nL own R Qm k n adr h tgt L st) (Kf : ¬ 0 < x → AW X cc nL own R Qm k n adr h (pc + 3) L st) : AW X cc nL own R Qm k n adr h pc L (.int x :: st) := by
  obtain ⟨p, l, e, s, m, args, below, meth, c, G⟩ := X
  intro F hk ls H locs hl hR hS
  exact lv_if_gt F.1 F.2.1 hd ht (fun q => Kt q F hk ls H locs hl hR hS) (fun q => Kf q F hk ls H locs hl hR hS)

theorem aw_if_le {x : Int32} {off : Int} {tgt : Nat} (hd : decode cc pc = .ok (.ifCond .le off, 3)) (ht : (pc : Int) + off = (tgt : Int)) (Kt : x ≤ 0 → AW X cc nL own R Qm k n adr h tgt L st) (Kf : ¬ x ≤ 0 → AW X cc nL own R Qm k n adr h (pc + 3) L st) : AW X cc nL own R Qm k n adr h pc L (.int x :: st) := by
  obtain ⟨p, l, e, s, m, args, below, meth, c, G⟩ := X
  intro F hk ls H locs hl hR hS
  exact lv_if_le F.1 F.2.1 hd ht (fun q => Kt q F hk ls H locs hl hR hS) (fun q => Kf q F hk ls H locs hl hR hS)

theorem aw_icmp_eq {x y : Int32} {off : Int} {tgt : Nat} (hd : decode cc pc = .ok (.if_icmp .eq off, 3)) (ht : (pc : Int) + off = (tgt : Int)) (Kt : x = y → AW X cc nL own R Qm k n adr h tgt L st) (Kf : ¬ x = y → AW X cc nL own R Qm k n adr h (pc + 3) L st) : AW X cc nL own R Qm k n adr h pc L (.int y :: .int x :: st) := by
  obtain ⟨p, l, e, s, m, args, below, meth, c, G⟩ := X
  intro F hk ls H locs hl hR hS
  exact lv_icmp_eq F.1 F.2.1 hd ht (fun q => Kt q F hk ls H locs hl hR hS) (fun q => Kf q F hk ls H locs hl hR hS)

theorem aw_icmp_ne {x y : Int32} {off : Int} {tgt : Nat} (hd : decode cc pc = .ok (.if_icmp .ne off, 3)) (ht : (pc : Int) + off = (tgt : Int)) (Kt : ¬ x = y → AW X cc nL own R Qm k n adr h tgt L st) (Kf : x = y → AW X cc nL own R Qm k n adr h (pc + 3) L st) : AW X cc nL own R Qm k n adr h pc L (.int y :: .int x :: st) := by
  obtain ⟨p, l, e, s, m, args, below, meth, c, G⟩ := X
  intro F hk ls H locs hl hR hS
  exact lv_icmp_ne F.1 F.2.1 hd ht (fun q => Kt q F hk ls H locs hl hR hS) (fun q => Kf q F hk ls H locs hl hR hS)

theorem aw_icmp_lt {x y : Int32} {off : Int} {tgt : Nat} (hd : decode cc pc = .ok (.if_icmp .lt off, 3)) (ht : (pc : Int) + off = (tgt : Int)) (Kt : x < y → AW X cc nL own R Qm k n adr h tgt L st) (Kf : ¬ x < y → AW X cc nL own R Qm k n adr h (pc + 3) L st) : AW X cc nL own R Qm k n adr h pc L (.int y :: .int x :: st) := by
  obtain ⟨p, l, e, s, m, args, below, meth, c, G⟩ := X
  intro F hk ls H locs hl hR hS
  exact lv_icmp_lt F.1 F.2.1 hd ht (fun q => Kt q F hk ls H locs hl hR hS) (fun q => Kf q F hk ls H locs hl hR hS)

theorem aw_icmp_ge {x y : Int32} {off : Int} {tgt : Nat} (hd : decode cc pc = .ok (.if_icmp .ge off, 3)) (ht : (pc : Int) + off = (tgt : Int)) (Kt : y ≤ x → AW X cc nL own R Qm k n adr h tgt L st) (Kf : ¬ y ≤ x → AW X cc nL own R Qm k n adr h (pc + 3) L st) : AW X cc nL own R Qm k n adr h pc L (.int y :: .int x :: st) := by
  obtain ⟨p, l, e, s, m, args, below, meth, c, G⟩ := X
  intro F hk ls H locs hl hR hS
  exact lv_icmp_ge F.1 F.2.1 hd ht (fun q => Kt q F hk ls H locs hl hR hS) (fun q => Kf q F hk ls H locs hl hR hS)

theorem aw_icmp_gt {x y : Int32} {off : Int} {tgt : Nat} (hd : decode cc pc = .ok (.if_icmp .gt off, 3)) (ht : (pc : Int) + off = (tgt : Int)) (Kt : y < x → AW X cc nL own R Qm k n adr h tgt L st) (Kf : ¬ y < x → AW X cc nL own R Qm k n adr h (pc + 3) L st) : AW X cc nL own R Qm k n adr h pc L (.int y :: .int x :: st) := by
  obtain ⟨p, l, e, s, m, args, below, meth, c, G⟩ := X
  intro F hk ls H locs hl hR hS
  exact lv_icmp_gt F.1 F.2.1 hd ht (fun q => Kt q F hk ls H locs hl hR hS) (fun q => Kf q F hk ls H locs hl hR hS)

theorem aw_icmp_le {x y : Int32} {off : Int} {tgt : Nat} (hd : decode cc pc = .ok (.if_icmp .le off, 3)) (ht : (pc : Int) + off = (tgt : Int)) (Kt : x ≤ y → AW X cc nL own R Qm k n adr h tgt L st) (Kf : ¬ x ≤ y → AW X cc nL own R Qm k n adr h (pc + 3) L st) : AW X cc nL own R Qm k n adr h pc L (.int y :: .int x :: st) := by
  obtain ⟨p, l, e, s, m, args, below, meth, c, G⟩ := X
  intro F hk ls H locs hl hR hS
  exact lv_icmp_le F.1 F.2.1 hd ht (fun q => Kt q F hk ls H locs hl hR hS) (fun q => Kf q F hk ls H locs hl hR hS)

theorem aw_tabOut {x : Int32} {dflt lo hi : Int} {offs : Array Int} {len tgt : Nat} (hd : decode cc pc = .ok (.tableswitch dflt lo hi offs, len)) (hx : x.toInt < lo ∨ hi < x.toInt) (ht : (pc : Int) + dflt = (tgt : Int)) (K : AW X cc nL own R Qm k n adr h tgt L st) : AW X cc nL own R Qm k n adr h pc L (.int x :: st) := by
  obtain ⟨p, l, e, s, m, args, below, meth, c, G⟩ := X
  intro F hk ls H locs hl hR hS
  exact lv_tableOut F.1 F.2.1 hd hx ht (K F hk ls H locs hl hR hS)

theorem aw_tabIn {x : Int32} {dflt lo hi off : Int} {offs : Array Int} {len tgt : Nat} (hd : decode cc pc = .ok (.tableswitch dflt lo hi offs, len)) (h1 : ¬ x.toInt < lo) (h2 : ¬ hi < x.toInt) (ho : offs[(x.toInt - lo).toNat]? = some off) (ht : (pc : Int) + off = (tgt : Int)) (K : AW X cc nL own R Qm k n adr h tgt L st) : AW X cc nL own R Qm k n adr h pc L (.int x :: st) := by
  obtain ⟨p, l, e, s, m, args, below, meth, c, G⟩ := X
  intro F hk ls H locs hl hR hS
  exact lv_tableIn F.1 F.2.1 hd h1 h2 ho ht (K F hk ls H locs hl hR hS)

theorem aw_sub {L' : List (Nat × Value)} (ks : List Nat) (hs : ks.map (fun i => L[i]?) = L'.map some) (K : AW X cc nL own R Qm k n adr h pc L' st) : AW X cc nL own R Qm k n adr h pc L st := by
  obtain ⟨p, l, e, s, m, args, below, meth, c, G⟩ := X
  intro F hk ls H locs hl hR hS
  exact K F hk ls H locs (tL_sub hl ks hs) hR hS

theorem aw_ldcS {i x : Nat} {tx : String} (hd : decode cc pc = .ok (.ldc i, 2)) (hw : (own, i, tx, x) ∈ strR) (K : AW X cc nL own R Qm k n adr h (pc + 2) L (.ref (1010 + x) :: st)) : AW X cc nL own R Qm k n adr h pc L st := by
  obtain ⟨p, l, e, s, m, args, below, meth, c, G⟩ := X
  intro F hk ls H locs hl hR hS
  exact va_ldcS F.1 F.2.1 F.2.2.2.1 (hk.2.2.2.2.2.1 _ hw) hd (K F hk ls H locs hl hR hS)

theorem aw_gets {i q : Nat} {nm host : String} {xs : List Int32} (hd : decode cc pc = .ok (.getstatic i, 3)) (hw : (own, i, "StillInIt", nm, "[I", host) ∈ nestF) (hq : statT[q]? = some (nm, xs)) (K : AW X cc nL own R Qm k n adr h (pc + 3) L (.ref (1000 + q) :: st)) : AW X cc nL own R Qm k n adr h pc L st := by
  obtain ⟨p, l, e, s, m, args, below, meth, c, G⟩ := X
  intro F hk ls H locs hl hR hS
  exact va_getsN F.1 F.2.1 (hk.2.2.2.2.1 q _ hq).1 hS F.2.2.2.1 (va_Nw.use rfl (hk.2.2.2.1 _ hw)) (fun _ z => z) hd (K F hk ls H locs hl hR hS)

theorem aw_sald {q : Nat} {nm : String} {xs : List Int32} {i x : Int32} (hd : decode cc pc = .ok (.iaload, 1)) (hq : statT[q]? = some (nm, xs)) (hx : sT q i = some x) (K : AW X cc nL own R Qm k n adr h (pc + 1) L (.int x :: st)) : AW X cc nL own R Qm k n adr h pc L (.int i :: .ref (1000 + q) :: st) := by
  obtain ⟨p, l, e, s, m, args, below, meth, c, G⟩ := X
  intro F hk ls H locs hl hR hS
  obtain ⟨hi, hv⟩ := sT_some hq hx
  exact va_ti F.1 F.2.1 (hk.2.2.2.2.1 q _ hq).2 hS hi hv hd (K F hk ls H locs hl hR hS)

theorem aw_get {i r ci fk : Nat} {v : Value} (hd : decode cc pc = .ok (.getfield i, 3)) (hw : GFok own i ci fk) (hx : gF h r ci fk = some v) (K : AW X cc nL own R Qm k n adr h (pc + 3) L (v :: st)) : AW X cc nL own R Qm k n adr h pc L (.ref r :: st) := by
  obtain ⟨p, l, e, s, m, args, below, meth, c, G⟩ := X
  intro F hk ls H locs hl hR hS
  obtain ⟨C, T, N, hc, hN, hin, hlk, hT, -⟩ := hw
  obtain ⟨fs, he, hv⟩ := gF_some hx
  exact va_get (ci := ci) F.1 F.2.1 F.2.2.2.2.1 hin F.2.2.2.1 hk.2.1 hR.1 r (cW_at he) hc fk hN (F.2.2.2.2.1 _ hlk) (fun _ z => by rw [← hT]; exact z) (by simp [hv]) hd (K F hk ls H locs hl hR hS)

theorem aw_put {i r ci fk : Nat} {v : Value} {ty : FieldType} {h' : Hp} (hd : decode cc pc = .ok (.putfield i, 3)) (hw : PFok own i ci fk ty) (hn : ∀ a, narrow ty (tv a v) = tv a v ∧ fits ty (tv a v) = true) (hx : pF h r ci fk v = some h') (K : AW X cc nL own R Qm k n adr h' (pc + 3) L st) : AW X cc nL own R Qm k n adr h pc L (v :: .ref r :: st) := by
  obtain ⟨p, l, e, s, m, args, below, meth, c, G⟩ := X
  intro F hk ls H locs hl hR hS
  obtain ⟨⟨C, T, N, hc, hN, hin, hlk, hT, ty0, hty, hnm⟩, hp⟩ := hw
  obtain ⟨fs, he, hlt, rfl⟩ := pF_some hx
  obtain ⟨hfin, hd0⟩ := hp C T N hc
  refine va_put (ci := ci) (ty := ty) F.1 F.2.1 F.2.2.2.2.1 hin ty0 hty hnm F.2.2.2.1 hk.2.1 hR.1 hR.2 hS r (cW_at he) hc fk hN (F.2.2.2.2.1 _ hlk) (fun _ z => by rw [← hT]; exact z) hfin hd0 (hn adr).1 (hn adr).2 (by simpa using hlt) hd (fun H1 locs1 hP hD hS1 => K F hk ls H1 locs1 hl ?_ hS1)
  rw [show (List.map (tv adr) fs).set fk (tv adr v) = List.map (tv adr) (fs.set fk v) from List.map_set.symm] at hP hD
  exact ⟨by rw [← cW_set]; exact hP, by rw [← cW_set]; exact hD⟩

theorem aw_iald {r : Nat} {i x : Int32} (hd : decode cc pc = .ok (.iaload, 1)) (hx : aL h r i = some x) (K : AW X cc nL own R Qm k n adr h (pc + 1) L (.int x :: st)) : AW X cc nL own R Qm k n adr h pc L (.int i :: .ref r :: st) := by
  obtain ⟨p, l, e, s, m, args, below, meth, c, G⟩ := X
  intro F hk ls H locs hl hR hS
  obtain ⟨N, f, he, hi, rfl⟩ := aL_some hx
  exact va_iald F.1 F.2.1 hk.2.1 hR.1 r 0 (cW_at he) rfl hi hd (K F hk ls H locs hl hR hS)

theorem aw_iast {r : Nat} {i x : Int32} {h' : Hp} (hd : decode cc pc = .ok (.iastore, 1)) (hx : aS h r i x = some h') (K : AW X cc nL own R Qm k n adr h' (pc + 1) L st) : AW X cc nL own R Qm k n adr h pc L (.int x :: .int i :: .ref r :: st) := by
  obtain ⟨p, l, e, s, m, args, below, meth, c, G⟩ := X
  intro F hk ls H locs hl hR hS
  obtain ⟨N, f, he, hi, rfl⟩ := aS_some hx
  refine va_iast F.1 F.2.1 hk.2.1 hR.1 hR.2 hS r 0 (cW_at he) rfl hi hd (fun H1 locs1 hP hD hS1 => K F hk ls H1 locs1 hl ?_ hS1)
  exact ⟨by rw [← cW_set]; exact hP, by rw [← cW_set]; exact hD⟩

theorem aw_lald {r : Nat} {i : Int32} {x : Int64} (hd : decode cc pc = .ok (.laload, 1)) (hx : lL h r i = some x) (K : AW X cc nL own R Qm k n adr h (pc + 1) L (.long x :: st)) : AW X cc nL own R Qm k n adr h pc L (.int i :: .ref r :: st) := by
  obtain ⟨p, l, e, s, m, args, below, meth, c, G⟩ := X
  intro F hk ls H locs hl hR hS
  obtain ⟨N, f, he, hi, rfl⟩ := lL_some hx
  exact va_lald F.1 F.2.1 hk.2.1 hR.1 r 1 (cW_at he) rfl hi hd (K F hk ls H locs hl hR hS)

theorem aw_last {r : Nat} {i : Int32} {x : Int64} {h' : Hp} (hd : decode cc pc = .ok (.lastore, 1)) (hx : lS h r i x = some h') (K : AW X cc nL own R Qm k n adr h' (pc + 1) L st) : AW X cc nL own R Qm k n adr h pc L (.long x :: .int i :: .ref r :: st) := by
  obtain ⟨p, l, e, s, m, args, below, meth, c, G⟩ := X
  intro F hk ls H locs hl hR hS
  obtain ⟨N, f, he, hi, rfl⟩ := lS_some hx
  refine va_last F.1 F.2.1 hk.2.1 hR.1 hR.2 hS r 1 (cW_at he) rfl hi hd (fun H1 locs1 hP hD hS1 => K F hk ls H1 locs1 hl ?_ hS1)
  exact ⟨by rw [← cW_set]; exact hP, by rw [← cW_set]; exact hD⟩

theorem aw_aald {r x : Nat} {i : Int32} (hd : decode cc pc = .ok (.aaload, 1)) (hx : qL h r i = some x) (K : AW X cc nL own R Qm k n adr h (pc + 1) L (.ref x :: st)) : AW X cc nL own R Qm k n adr h pc L (.int i :: .ref r :: st) := by
  obtain ⟨p, l, e, s, m, args, below, meth, c, G⟩ := X
  intro F hk ls H locs hl hR hS
  obtain ⟨N, f, he, hi, hf⟩ := qL_some hx
  have hK := K F hk ls H locs hl hR hS
  have hlt : i.toNatClampNeg < N := Nat.not_le.mp fun q => hi (Or.inr q)
  refine va_aldq F.1 F.2.1 hk.2.1 hR.1 r 2 (cW_at he) rfl hi hd ?_
  simp only [hf, hlt, if_true]
  exact hK

theorem aw_aast {r x : Nat} {i : Int32} {h' : Hp} (hd : decode cc pc = .ok (.aastore, 1)) (hx : qS h r i x = some h') (K : AW X cc nL own R Qm k n adr h' (pc + 1) L st) : AW X cc nL own R Qm k n adr h pc L (.ref x :: .int i :: .ref r :: st) := by
  obtain ⟨p, l, e, s, m, args, below, meth, c, G⟩ := X
  intro F hk ls H locs hl hR hS
  obtain ⟨N, f, vs, he, hv, hi, rfl⟩ := qS_some hx
  refine va_astq F.1 F.2.1 hk.2.1 hR.1 hR.2 hS r 2 x 2 (cW_at he) rfl (cW_at hv) rfl hi hd (fun H1 locs1 hP hD hS1 => K F hk ls H1 locs1 hl ?_ hS1)
  have hlt : i.toNatClampNeg < N := Nat.not_le.mp fun q => hi (Or.inr q)
  have e : (fun j => if j < N then (va_up f i.toNatClampNeg (some x) j).map adr else none) = va_up (fun j => if j < N then (f j).map adr else none) i.toNatClampNeg (some (adr x)) := by
    funext j
    unfold va_up
    by_cases hj : j = i.toNatClampNeg
    · simp [hj, hlt]
    · simp [hj]
  have e2 : tE G adr (.inl (2, N, .inr (.inr (.inr (.inr (va_up f i.toNatClampNeg (some x))))))) = .inl (G.2.1 2, N, .inr (.inr (.inr (.inr (va_up (fun j => if j < N then (f j).map adr else none) i.toNatClampNeg (some (adr x))))))) := by
    show Sum.inl _ = _
    unfold tA
    simp only [e]
  exact ⟨by rw [← cW_set, e2]; exact hP, by rw [← cW_set, e2]; exact hD⟩

theorem aw_alen {r : Nat} {x : Int32} (hd : decode cc pc = .ok (.arraylength, 1)) (hx : aN h r = some x) (K : AW X cc nL own R Qm k n adr h (pc + 1) L (.int x :: st)) : AW X cc nL own R Qm k n adr h pc L (.ref r :: st) := by
  obtain ⟨p, l, e, s, m, args, below, meth, c, G⟩ := X
  intro F hk ls H locs hl hR hS
  obtain ⟨N, f, he, rfl⟩ := aN_some hx
  exact va_alen F.1 F.2.1 hk.2.1 hR.1 r 0 (cW_at he) rfl rfl hd (K F hk ls H locs hl hR hS)

theorem aw_copy {i r q : Nat} {sp dp z : Int32} {h' : Hp} (hd : decode cc pc = .ok (.invokestatic i, 3)) (hw : Cond.methodLink own i arraycopyName ∈ lw_good) (hf : 1 ≤ R.frames) (hlo : (st.map fun v => v.category).sum + 40 ≤ R.locals) (hx : aC h r sp q dp z = some h') (K : AW X cc nL own R Qm k n adr h' (pc + 3) L st) : AW X cc nL own R Qm k n adr h pc L (.int z :: .int dp :: .ref q :: .int sp :: .ref r :: st) := by
  obtain ⟨p, l, e, s, m, args, below, meth, c, G⟩ := X
  intro F hk ls H locs hl hR hS
  obtain ⟨n0, n1, f, g, he, hg, h1, h2, h3, h4, h5, rfl⟩ := aC_some hx
  have hml : c.maxLocals = ls.size := by rw [F.2.2.1]; exact hl.1.symm
  refine va_copyi F.1 F.2.1 hml F.2.2.2.1 (F.2.2.2.2.1 _ hw) (F.2.2.2.2.1 _ wd_native) (F.2.2.2.2.1 _ wd_copystat) (F.2.2.2.2.1 _ wd_sysinit) hk.2.1 hR.1 hR.2 hS r q 0 0 (cW_at he) (cW_at hg) rfl rfl rfl h1 h2 h3 h4 h5 (fun _ _ => rfl) hf ?_ hd (fun H1 locs1 hP hD hS1 => K F hk ls H1 locs1 hl ?_ hS1)
  · have e : (List.map (fun v => v.category) (List.map (tv adr) st)).sum = (st.map fun v => v.category).sum := by
      rw [List.map_map]; congr 1; apply List.map_congr_left; intro v _; exact tv_cat adr v
    rw [e]
    exact Nat.le_trans (Nat.add_le_add_left (by decide +kernel) _) hlo
  · exact ⟨by rw [← cW_set]; exact hP, by rw [← cW_set]; exact hD⟩

end AWR
end
section
/-! contracts over the abstract heap, calls, ends, making -/
def mth (X : Cx) : Method := X.2.2.2.2.2.2.2.1
def Qc (G : Gx) (Q : (Nat → Nat) → Option Value → Hp → Prop) : Array Value → State → Outcome → State → Prop := fun _ st o t => (∃ (a : Nat → Nat) (r : Option Value) (h' : Hp), Q a r h' ∧ o = .returned (r.map (tv a)) ∧ RH G a h' t.heap) ∧ va_F (Aq G) st t
def Qmet (X : Cx) (mc ms : Nat) (Q : (Nat → Nat) → Option Value → Hp → Prop) : State → Prop := match X with
  | (_, _, _, s, _, args, below, _, _, G) => MQ below (Qc G Q) args s mc ms (Aq G)
def rmd (d mc ms : Nat) : Room := { frames := d, cells := mc, slots := ms, locals := 64 * d }
/-- a method's contract: from this heap, with these arguments, it ends as Q says -/
def MtQ (d mc ms : Nat) (y : MethodName) (cc : ByteArray) (nL : Nat) (ret : Option FieldType) (as : List Value) (h : Hp) (Q : (Nat → Nat) → (Nat → Nat) → Option Value → Hp → Prop) : Prop :=
  ∀ (l : Launch) (G : Gx) (adr : Nat → Nat), Met l y (.code y cc nL ret :: lw_good) (rmd d mc ms) (va_Pc (as.map (tv adr)) (fun U => KK G adr U ∧ RH G adr h U.heap)) (Qc G (Q adr)) mc ms (Aq G)
/-- nothing is made: the answer is r, the heap h' -/
def Qe (r : Option Value) (h' : Hp) : (Nat → Nat) → (Nat → Nat) → Option Value → Hp → Prop := fun adr a r0 h0 => a = adr ∧ r0 = r ∧ h0 = h'
/-- cells are made: places below those that were there keep their addresses -/
def Qn (N : Nat) (h' : Hp) : (Nat → Nat) → (Nat → Nat) → Option Value → Hp → Prop := fun adr a r0 h0 => (∀ i, (i < N ∨ 1000 ≤ i) → a i = adr i) ∧ r0 = none ∧ h0 = h'
abbrev Mt (d : Nat) (y : MethodName) (cc : ByteArray) (nL : Nat) (ret : Option FieldType) (as : List Value) (h : Hp) (r : Option Value) (h' : Hp) : Prop := MtQ d 0 0 y cc nL ret as h (Qe r h')
theorem lv_args_tv (adr : Nat → Nat) : ∀ (i : Nat) (as : List Value), lv_args i (as.map (tv adr)) = tL adr (lv_args i as)
  | _, [] => rfl
  | i, v :: vs => by
    show (i, tv adr v) :: lv_args _ (vs.map (tv adr)) = tL adr ((i, v) :: lv_args _ vs)
    rw [tv_cat, lv_args_tv adr _ vs]
    rfl
theorem lg_sl_tv (adr : Nat → Nat) (as : List Value) : (lg_sl (as.map (tv adr))).length = (lg_sl as).length := by
  induction as with
  | nil => rfl
  | cons v t ih =>
    simp only [lg_sl, List.map_cons, List.flatMap_cons, List.length_append, tv_cat] at ih ⊢
    rw [ih]
    by_cases hc : v.category = 2 <;> simp [hc]
theorem MtQ.of {d mc ms : Nat} {y : MethodName} {cc : ByteArray} {nL : Nat} {ret : Option FieldType} {as : List Value} {h : Hp} {Q : (Nat → Nat) → (Nat → Nat) → Option Value → Hp → Prop} (hy : plainName y.cls = true) (hlen : (lg_sl as).length ≤ nL)
    (body : ∀ (X : Cx) (adr : Nat → Nat), (mth X).sig.returnType = ret → (mth X).name = y.name → AW X cc nL y.cls (rmd d mc ms) (Qmet X mc ms (Q adr)) 0 0 adr h 0 (lv_args 0 as) []) : MtQ d mc ms y cc nL ret as h Q := by
  intro l G adr
  refine Met.ofW (cc := cc) (maxL := nL) (ret := ret) hy rfl ?_
  intro p e s m args below meth c s₁ B hml hv
  obtain ⟨rfl, hK, hR⟩ := hv
  have hts := atoms_spec (ws := .code y cc nL ret :: lw_good) B.pre
  have hown : s.vm.findClass y.cls = some m.cls := findClass_of_methodNamed B.named
  have hname : meth.name = y.name := (name_of_methodNamed B.named B.method).1
  have hl := lv_entry (as.map (tv adr)) (n := nL) (by rw [lg_sl_tv]; exact hlen)
  rw [lg_entry_eq]
  generalize (lg_sl (as.map (tv adr)) ++ List.replicate (nL - (lg_sl (as.map (tv adr))).length) Slot.unset).toArray = ls at hl ⊢
  rw [lv_args_tv] at hl
  exact body (p, l, e, s, m, _, below, meth, c, G) adr B.returns hname ⟨B.exec, B.bytes, hml, hown, fun w hw => hts w (List.mem_cons_of_mem _ hw), B.notSynchronized⟩ hK ls s.heap [] hl hR va_S.rf
def MOk (y : MethodName) (cc : ByteArray) (nL : Nat) (ret : Option FieldType) (n : Nat) : Prop := Cond.code y cc nL ret ∈ lw_good ∧ Cond.initialized y.cls ∈ lw_good ∧ y.cls ≠ "java/lang/invoke/MethodHandle" ∧ y.cls ≠ "java/lang/invoke/VarHandle" ∧ (parseMethodDescriptor y.desc).map (fun d => d.parameters.length) = some n
def VOk (y : MethodName) : Prop := Cond.instanceMethod y ∈ lw_good ∧ Cond.selects y.cls y y ∈ lw_good
theorem code_goodIn {y : MethodName} {cc : ByteArray} {nL : Nat} {ret : Option FieldType} (h : Cond.code y cc nL ret ∈ lw_good) : GoodIn lw_good (Cond.code y cc nL ret :: lw_good) := fun w hw => (List.mem_cons.mp hw).elim (fun e => by rw [e]; exact lw_good_all _ h) (lw_good_all w)
theorem tv_cats (adr : Nat → Nat) (st : List Value) : (List.map (fun v => v.category) (List.map (tv adr) st)).sum = (st.map fun v => v.category).sum := by
  rw [List.map_map]
  congr 1
  apply List.map_congr_left
  intro v _
  exact tv_cat adr v
section AWC
variable {p : Program} {l : Launch} {e : Env} {R : Room} {s : State} {m : MethodId} {args : Array Value} {below : List Frame} {meth : Method} {c : Code} {H : Heap} {locs : List Loc} {k n mc ms : Nat} {Qm : State → Prop} {G : Gx} {pc : Nat} {ls : Array Slot} {stk rest : List Value}
theorem aw_of_run {Q : (Nat → Nat) → Option Value → Hp → Prop} {a0 : Array Value} (hrun : va_Run p l e R s m args below meth c H locs k n mc ms (F0 m pc ls stk) rest (Qc G Q a0) (Aq G)) (hS : va_S (Aq G) s.heap H locs)
    (K : ∀ (a : Nat → Nat) (r : Option Value) (h' : Hp), Q a r h' → ∀ (H1 : Heap) (locs1 : List Loc), RH G a h' H1 → va_S (Aq G) s.heap H1 locs1 → W p l e R s m args below meth c H1 locs1 (k + mc) (n + ms) Qm (F0 m (pc + 3) ls ((r.map (tv a)).toList ++ rest))) : W p l e R s m args below meth c H locs k n Qm (F0 m pc ls stk) := by
  intro T hT Xs
  obtain ⟨v, st₀, t, T', Ls, h0, X', hL, e1, e2, ⟨⟨a, r, h', hq, hv, hRH⟩, hz, hkp⟩, hgo⟩ := hrun T hT Xs
  cases hv
  rw [h0] at hz hkp
  have hS1 : va_S (Aq G) s.heap T'.heap (locs ++ Ls) := ⟨Nat.le_trans hS.1 (by rw [e1]; exact hz), fun q h1 h2 => by rw [e1, hkp q (Nat.lt_of_lt_of_le h1 hS.1) h2]; exact hS.2.1 q h1 h2, fun q hq => by
    rcases List.mem_append.mp hq with z | z
    · exact hS.2.2 q z
    · exact hL q z⟩
  obtain ⟨t2, a1, b1⟩ := K a r h' hq T'.heap (locs ++ Ls) (by rw [e1]; exact hRH) hS1 T' rfl X'
  exact ⟨t2, hgo t2 a1, b1⟩
theorem pc_blind {as : List Value} {adr : Nat → Nat} {h : Hp} : FrameBlind (va_Pc (as.map (tv adr)) (fun U => KK G adr U ∧ RH G adr h U.heap)) := fun a U g mk q => ⟨q.1, KK.calling a g mk q.2.1, q.2.2⟩
end AWC
section AWD
variable {X : Cx} {cc : ByteArray} {nL : Nat} {own : String} {R : Room} {Qm : State → Prop} {k n : Nat} {adr : Nat → Nat} {h : Hp} {pc : Nat} {L : List (Nat × Value)} {st : List Value}
variable {i d b nL' : Nat} {y : MethodName} {cc' : ByteArray} {ret : Option FieldType} {as stk : List Value} {r : Option Value} {h' : Hp}
theorem aw_virt {ci N : Nat} {fs : List Value} {T : u_T} (hd : decode cc pc = .ok (.invokevirtual i, 3)) (hm : MOk y cc' nL' ret as.length) (hv : VOk y) (hw : Cond.methodLink own i y ∈ lw_good) (hb : h[b]? = some (.inr (ci, fs))) (hc : vwCl[ci]? = some (y.cls, T, N)) (hr : d + 1 ≤ R.frames ∧ 8 + (nL' + 11) + 64 * d ≤ R.locals) (hkn : k ≤ R.cells ∧ n ≤ R.slots) (hcat : (st.map fun v => v.category).sum ≤ 8) (hst : stk = as.reverse ++ .ref b :: st) (M : Mt d y cc' nL' ret (.ref b :: as) h r h')
    (K : AW X cc nL own R Qm k n adr h' (pc + 3) L (r.toList ++ st)) : AW X cc nL own R Qm k n adr h pc L stk := by
  obtain ⟨p, l, e, s, m, args, below, meth, c, G⟩ := X
  intro F hk ls H locs hl hR hS
  subst hst
  have hcb : CallB R s args own i y cc' nL' ret (.code y cc' nL' ret :: lw_good) (rmd d 0 0) 0 0 as.length := callB_of as.length F.2.2.2.2.1 (code_goodIn hm.1) rfl rfl rfl (F.2.2.2.2.1 _ hm.2.1) (F.2.2.2.2.1 _ hw) ⟨hm.2.2.1, hm.2.2.2.1, hm.2.2.2.2⟩ hr
  refine aw_of_run (rest := st.map (tv adr)) (va_runV (As := as.map (tv adr)) (b := adr b) ⟨F.1, F.2.1, F.2.2.1, F.2.2.2.1, F.2.2.2.2.1⟩ (M l G adr) ⟨hcb, F.2.2.2.2.1 _ hv.1, F.2.2.2.2.1 _ hv.2⟩ ⟨pc_blind, va_recv hk.2.1 hR.1 hc (cW_at hb), fun U hU hW => ⟨rfl, hk.go hS hW hU, by rw [hU]; exact hR⟩⟩ rfl (by simp) hl.1 (by simp [tv]) (lv_room (by rw [tv_cats]; exact hcat)) hd hkn) hS (fun a r0 h0 hq H1 locs1 hR1 hS1 => ?_)
  obtain ⟨rfl, rfl, rfl⟩ := hq
  have := K F hk ls H1 locs1 hl hR1 hS1
  cases r0 <;> exact this
theorem aw_virtN {ci N : Nat} {fs : List Value} {T : u_T} {host : String} (hd : decode cc pc = .ok (.invokevirtual i, 3)) (hm : MOk y cc' nL' ret as.length) (hv : VOk y) (hw : (own, i, y, host) ∈ nestM) (hb : h[b]? = some (.inr (ci, fs))) (hc : vwCl[ci]? = some (y.cls, T, N)) (hr : d + 1 ≤ R.frames ∧ 8 + (nL' + 11) + 64 * d ≤ R.locals) (hkn : k ≤ R.cells ∧ n ≤ R.slots) (hcat : (st.map fun v => v.category).sum ≤ 8) (hst : stk = as.reverse ++ .ref b :: st) (M : Mt d y cc' nL' ret (.ref b :: as) h r h')
    (K : AW X cc nL own R Qm k n adr h' (pc + 3) L (r.toList ++ st)) : AW X cc nL own R Qm k n adr h pc L stk := by
  obtain ⟨p, l, e, s, m, args, below, meth, c, G⟩ := X
  intro F hk ls H locs hl hR hS
  subst hst
  have hcb := va_cnB (R := R) (rm := rmd d 0 0) (mc := 0) (ms := 0) as.length F.2.2.2.2.1 (code_goodIn hm.1) rfl rfl rfl (hk.2.2.1 _ hw) (F.2.2.2.2.1 _ hm.2.1) ⟨hm.2.2.1, hm.2.2.2.1, hm.2.2.2.2⟩ hr
  refine aw_of_run (rest := st.map (tv adr)) (va_runVN (As := as.map (tv adr)) (b := adr b) ⟨F.1, F.2.1, F.2.2.1, F.2.2.2.1, F.2.2.2.2.1⟩ (M l G adr) ⟨hcb, F.2.2.2.2.1 _ hv.1, F.2.2.2.2.1 _ hv.2⟩ ⟨pc_blind, va_recv hk.2.1 hR.1 hc (cW_at hb), fun U hU hW => ⟨rfl, hk.go hS hW hU, by rw [hU]; exact hR⟩⟩ rfl (by simp) hl.1 (by simp [tv]) (lv_room (by rw [tv_cats]; exact hcat)) hd hkn) hS (fun a r0 h0 hq H1 locs1 hR1 hS1 => ?_)
  obtain ⟨rfl, rfl, rfl⟩ := hq
  have := K F hk ls H1 locs1 hl hR1 hS1
  cases r0 <;> exact this
theorem aw_stat (hd : decode cc pc = .ok (.invokestatic i, 3)) (hm : MOk y cc' nL' ret as.length) (hv : Cond.static y ∈ lw_good) (hw : Cond.methodLink own i y ∈ lw_good) (hr : d + 1 ≤ R.frames ∧ 8 + (nL' + 11) + 64 * d ≤ R.locals) (hkn : k ≤ R.cells ∧ n ≤ R.slots) (hcat : (st.map fun v => v.category).sum ≤ 8) (hst : stk = as.reverse ++ st) (M : Mt d y cc' nL' ret as h r h')
    (K : AW X cc nL own R Qm k n adr h' (pc + 3) L (r.toList ++ st)) : AW X cc nL own R Qm k n adr h pc L stk := by
  obtain ⟨p, l, e, s, m, args, below, meth, c, G⟩ := X
  intro F hk ls H locs hl hR hS
  subst hst
  have hcb : CallB R s args own i y cc' nL' ret (.code y cc' nL' ret :: lw_good) (rmd d 0 0) 0 0 as.length := callB_of as.length F.2.2.2.2.1 (code_goodIn hm.1) rfl rfl rfl (F.2.2.2.2.1 _ hm.2.1) (F.2.2.2.2.1 _ hw) ⟨hm.2.2.1, hm.2.2.2.1, hm.2.2.2.2⟩ hr
  refine aw_of_run (rest := st.map (tv adr)) (va_runS (As := as.map (tv adr)) ⟨F.1, F.2.1, F.2.2.1, F.2.2.2.1, F.2.2.2.2.1⟩ (M l G adr) ⟨hcb, F.2.2.2.2.1 _ hv⟩ ⟨pc_blind, fun U hU hW => ⟨rfl, hk.go hS hW hU, by rw [hU]; exact hR⟩⟩ rfl (by simp) hl.1 (by simp) (lv_room (by rw [tv_cats]; exact hcat)) hd hkn) hS (fun a r0 h0 hq H1 locs1 hR1 hS1 => ?_)
  obtain ⟨rfl, rfl, rfl⟩ := hq
  have := K F hk ls H1 locs1 hl hR1 hS1
  cases r0 <;> exact this
theorem aw_statN {host : String} (hd : decode cc pc = .ok (.invokestatic i, 3)) (hm : MOk y cc' nL' ret as.length) (hv : Cond.static y ∈ lw_good) (hw : (own, i, y, host) ∈ nestM) (hr : d + 1 ≤ R.frames ∧ 8 + (nL' + 11) + 64 * d ≤ R.locals) (hkn : k ≤ R.cells ∧ n ≤ R.slots) (hcat : (st.map fun v => v.category).sum ≤ 8) (hst : stk = as.reverse ++ st) (M : Mt d y cc' nL' ret as h r h')
    (K : AW X cc nL own R Qm k n adr h' (pc + 3) L (r.toList ++ st)) : AW X cc nL own R Qm k n adr h pc L stk := by
  obtain ⟨p, l, e, s, m, args, below, meth, c, G⟩ := X
  intro F hk ls H locs hl hR hS
  subst hst
  have hcb := va_cnB (R := R) (rm := rmd d 0 0) (mc := 0) (ms := 0) as.length F.2.2.2.2.1 (code_goodIn hm.1) rfl rfl rfl (hk.2.2.1 _ hw) (F.2.2.2.2.1 _ hm.2.1) ⟨hm.2.2.1, hm.2.2.2.1, hm.2.2.2.2⟩ hr
  refine aw_of_run (rest := st.map (tv adr)) (va_runSN (As := as.map (tv adr)) ⟨F.1, F.2.1, F.2.2.1, F.2.2.2.1, F.2.2.2.2.1⟩ (M l G adr) ⟨hcb, F.2.2.2.2.1 _ hv, trivial⟩ ⟨pc_blind, fun U hU hW => ⟨rfl, hk.go hS hW hU, by rw [hU]; exact hR⟩⟩ rfl (by simp) hl.1 (by simp) (lv_room (by rw [tv_cats]; exact hcat)) hd hkn) hS (fun a r0 h0 hq H1 locs1 hR1 hS1 => ?_)
  obtain ⟨rfl, rfl, rfl⟩ := hq
  have := K F hk ls H1 locs1 hl hR1 hS1
  cases r0 <;> exact this
variable {Q : (Nat → Nat) → Option Value → Hp → Prop}
theorem aw_iret {x : Int32} (hr : (mth X).sig.returnType = some .int) (hd : decode cc pc = .ok (.ireturn, 1)) (hq : Q adr (some (.int x)) h) : AW X cc nL own R (Qmet X k n Q) k n adr h pc L [.int x] := by
  obtain ⟨p, l, e, s, m, args, below, meth, c, G⟩ := X
  intro F hk ls H locs hl hR hS
  exact W.iret F.1 F.2.1 hr (fun t ht hW => ⟨⟨adr, some (.int x), h, hq, rfl, by rw [ht]; exact hR⟩, hS.F ht⟩) hS.2.2 hd F.2.2.2.2.2
theorem aw_zret {x : Int32} {ty : FieldType} (hr : (mth X).sig.returnType = some ty) (hn : narrow ty (.int x) = .int x) (hd : decode cc pc = .ok (.ireturn, 1)) (hq : Q adr (some (.int x)) h) : AW X cc nL own R (Qmet X k n Q) k n adr h pc L [.int x] := by
  obtain ⟨p, l, e, s, m, args, below, meth, c, G⟩ := X
  intro F hk ls H locs hl hR hS
  exact W.zret F.1 F.2.1 hr hn (fun t ht hW => ⟨⟨adr, some (.int x), h, hq, rfl, by rw [ht]; exact hR⟩, hS.F ht⟩) hS.2.2 hd F.2.2.2.2.2
theorem aw_vret (hr : (mth X).sig.returnType = none) (hd : decode cc pc = .ok (.return_, 1)) (hq : Q adr none h) : AW X cc nL own R (Qmet X k n Q) k n adr h pc L [] := by
  obtain ⟨p, l, e, s, m, args, below, meth, c, G⟩ := X
  intro F hk ls H locs hl hR hS
  exact W.vret F.1 F.2.1 hr (fun t ht hW => ⟨⟨adr, none, h, hq, rfl, by rw [ht]; exact hR⟩, hS.F ht⟩) hS.2.2 hd F.2.2.2.2.2
theorem bz_nar {x : Int32} {u : Unit} (hx : bz x = some u) : narrow .boolean (.int x) = .int x := by
  rcases bz_some hx with rfl | rfl <;> decide
theorem ck_virt {h : Hp} {r ci : Nat} {u : Unit} (hx : ck h r ci = some u) : ∃ fs, h[r]? = some (.inr (ci, fs)) := ck_some hx
theorem aw_virtK {ci N : Nat} {T : u_T} {u : Unit} (hd : decode cc pc = .ok (.invokevirtual i, 3)) (hm : MOk y cc' nL' ret as.length) (hv : VOk y) (hw : Cond.methodLink own i y ∈ lw_good) (hb : ck h b ci = some u) (hc : vwCl[ci]? = some (y.cls, T, N)) (hr : d + 1 ≤ R.frames ∧ 8 + (nL' + 11) + 64 * d ≤ R.locals) (hkn : k ≤ R.cells ∧ n ≤ R.slots) (hcat : (st.map fun v => v.category).sum ≤ 8) (hst : stk = as.reverse ++ .ref b :: st) (M : Mt d y cc' nL' ret (.ref b :: as) h r h')
    (K : AW X cc nL own R Qm k n adr h' (pc + 3) L (r.toList ++ st)) : AW X cc nL own R Qm k n adr h pc L stk := by
  obtain ⟨fs, hb⟩ := ck_some hb
  exact aw_virt hd hm hv hw hb hc hr hkn hcat hst M K
theorem aw_virtNK {ci N : Nat} {T : u_T} {u : Unit} {host : String} (hd : decode cc pc = .ok (.invokevirtual i, 3)) (hm : MOk y cc' nL' ret as.length) (hv : VOk y) (hw : (own, i, y, host) ∈ nestM) (hb : ck h b ci = some u) (hc : vwCl[ci]? = some (y.cls, T, N)) (hr : d + 1 ≤ R.frames ∧ 8 + (nL' + 11) + 64 * d ≤ R.locals) (hkn : k ≤ R.cells ∧ n ≤ R.slots) (hcat : (st.map fun v => v.category).sum ≤ 8) (hst : stk = as.reverse ++ .ref b :: st) (M : Mt d y cc' nL' ret (.ref b :: as) h r h')
    (K : AW X cc nL own R Qm k n adr h' (pc + 3) L (r.toList ++ st)) : AW X cc nL own R Qm k n adr h pc L stk := by
  obtain ⟨fs, hb⟩ := ck_some hb
  exact aw_virtN hd hm hv hw hb hc hr hkn hcat hst M K
end AWD
end
section
/-! making objects and arrays: places keep their addresses -/
def okb (n : Nat) (v : Value) : Bool := match v with
  | .ref i => decide (i < n) || decide (1000 ≤ i)
  | _ => true
def okc (n : Nat) (e : Ae) : Bool := match e with
  | .inl (_, (N, .inr (.inr (.inr (.inr f))))) => (List.range N).all fun j => match f j with
    | some i => decide (i < n) || decide (1000 ≤ i)
    | none => true
  | .inl _ => true
  | .inr (_, fs) => fs.all (okb n)
def nrf (v : Value) : Bool := match v with
  | .ref _ => false
  | _ => true
theorem nrf_map {fs : List Value} (h : fs.all nrf = true) (a : Nat → Nat) : fs.map (tv a) = fs := by
  have : fs.map (tv a) = fs.map id := List.map_congr_left fun v hv => by
    have h1 := List.all_eq_true.mp h v hv
    cases v with
    | ref i => cases h1
    | _ => rfl
  rw [this, List.map_id]
def okh (h : Hp) : Bool := h.all (okc h.length)
def okl (n : Nat) (L : List (Nat × Value)) (st : List Value) : Bool := L.all (fun q => okb n q.2) && st.all (okb n)
/-- two maps agree on what stands below N and on what is outside -/
def Agr (N : Nat) (a adr : Nat → Nat) : Prop := ∀ i, (i < N ∨ 1000 ≤ i) → a i = adr i
theorem Agr.v {N : Nat} {a adr : Nat → Nat} (hA : Agr N a adr) {v : Value} (h : okb N v = true) : tv a v = tv adr v := by
  cases v with
  | ref i =>
    simp only [okb, Bool.or_eq_true, decide_eq_true_eq] at h
    show Value.ref (a i) = .ref (adr i)
    rw [hA i h]
  | _ => rfl
theorem Agr.st {N : Nat} {a adr : Nat → Nat} (hA : Agr N a adr) {st : List Value} (h : st.all (okb N) = true) : st.map (tv a) = st.map (tv adr) := List.map_congr_left fun v hv => hA.v (List.all_eq_true.mp h v hv)
theorem Agr.L {N : Nat} {a adr : Nat → Nat} (hA : Agr N a adr) {L : List (Nat × Value)} (h : L.all (fun q => okb N q.2) = true) : tL a L = tL adr L := List.map_congr_left fun q hq => by rw [hA.v (List.all_eq_true.mp h q hq)]
theorem Agr.e {N : Nat} {a adr : Nat → Nat} (hA : Agr N a adr) {G : Gx} {e : Ae} (h : okc N e = true) : tE G a e = tE G adr e := by
  obtain ⟨k, M, f | f | f | f | f⟩ | ⟨c, fs⟩ := e
  · rfl
  · rfl
  · rfl
  · rfl
  · show Sum.inl _ = Sum.inl _
    unfold tA
    simp only
    congr 5
    congr 1
    congr 1
    congr 1
    congr 1
    funext j
    by_cases hj : j < M
    · simp only [hj, if_true]
      have h1 := List.all_eq_true.mp h j (List.mem_range.mpr hj)
      cases hf : f j with
      | none => rfl
      | some i =>
        rw [hf] at h1
        simp only [Bool.or_eq_true, decide_eq_true_eq] at h1
        show some (a i) = some (adr i)
        rw [hA i h1]
    · simp [hj]
  · show Sum.inr (c, _) = Sum.inr (c, _)
    rw [hA.st h]
theorem Agr.w {N : Nat} {a adr : Nat → Nat} (hA : Agr N a adr) {G : Gx} {h : Hp} (hN : h.length ≤ N) (hh : h.all (okc N) = true) : cW G a h = cW G adr h := by
  apply List.ext_getElem?
  intro j
  simp only [cW, List.getElem?_mapIdx]
  cases he : h[j]? with
  | none => rfl
  | some e =>
    have hl := (List.getElem?_eq_some_iff.mp he).1
    simp only [Option.map_some]
    rw [hA j (Or.inl (by omega)), hA.e (List.all_eq_true.mp hh e (List.mem_of_getElem? he))]
theorem cW_push {G : Gx} {adr : Nat → Nat} {h : Hp} {e : Ae} : cW G adr (h ++ [e]) = cW G adr h ++ [(adr h.length, tE G adr e)] := by
  simp [cW, List.mapIdx_append]
def put1 (adr : Nat → Nat) (N q : Nat) : Nat → Nat := fun i => if i = N then q else adr i
theorem put1_agr (adr : Nat → Nat) {N : Nat} (q : Nat) (hN : N < 1000) : Agr N (put1 adr N q) adr := fun i hi => by
  unfold put1
  rw [if_neg (by omega)]
theorem put1_at (adr : Nat → Nat) (N q : Nat) : put1 adr N q N = q := by simp [put1]
theorem push_w {G : Gx} {adr : Nat → Nat} {h : Hp} {e : Ae} {q : Nat} {e' : va_E} (hN : h.length < 1000) (hh : okh h = true) (he : tE G (put1 adr h.length q) e = e') : cW G (put1 adr h.length q) (h ++ [e]) = cW G adr h ++ [(q, e')] := by
  rw [cW_push, (put1_agr adr q hN).w (Nat.le_refl _) hh, put1_at, he]
section AWM
variable {X : Cx} {cc : ByteArray} {nL : Nat} {own : String} {R : Room} {Qm : State → Prop} {k n : Nat} {adr : Nat → Nat} {h : Hp} {pc : Nat} {L : List (Nat × Value)} {st : List Value}
theorem aw_new {i ci N : Nat} {C : String} {T : u_T} {fs : List Value} (ty : Nat → FieldType) (hd : decode cc pc = .ok (.new i, 3)) (hc : vwCl[ci]? = some (C, T, N)) (hin : ∀ w ∈ u_ws C T N, w ∈ lw_good) (hty : ∀ k, k < N → parseFieldDescriptor (T k).2.2.1 = some (ty k)) (hcl : Cond.classLink own i C ∈ lw_good) (hi : Cond.instantiable C N ∈ lw_good) (hini : Cond.initialized C ∈ lw_good) (hfs : ∀ j, j < N → defaultValue (ty j) = vp_V fs j) (hfr : fs.all nrf = true) (hkn : k + 1 ≤ R.cells ∧ n + N ≤ R.slots) (hN : h.length < 1000) (hh : okh h = true) (hs : okl h.length L st = true)
    (K : ∀ q : Nat, AW X cc nL own R Qm (k + 1) (n + N) (put1 adr h.length q) (h ++ [.inr (ci, fs)]) (pc + 3) L (.ref h.length :: st)) : AW X cc nL own R Qm k n adr h pc L st := by
  obtain ⟨p, l, e, s, m, args, below, meth, c, G⟩ := X
  intro F hk ls H locs hl hR hS
  simp only [okl, Bool.and_eq_true] at hs
  refine va_new (ci := ci) (fs := fs) F.1 F.2.1 F.2.2.2.2.1 hin ty hty F.2.2.2.1 (F.2.2.2.2.1 _ hcl) (F.2.2.2.2.1 _ hi) (F.2.2.2.2.1 _ hini) hk.2.1 hR.1 hR.2 hS (fun q hq => Nat.le_trans hk.1 hq) hc hfs hkn.1 hkn.2 hd (fun q H1 hP hD hS1 => ?_)
  have hA := put1_agr adr q hN
  have hfe : tE G (put1 adr h.length q) (.inr (ci, fs)) = .inr (ci, fs) := by
    show Sum.inr (ci, _) = Sum.inr (ci, _)
    rw [nrf_map hfr]
  have hw := push_w (G := G) (e := .inr (ci, fs)) (q := q) hN hh hfe
  refine W.eq ?_ (K q F (hk.adr (fun i hi => hA i (Or.inr hi))) ls H1 locs (by rw [hA.L hs.1]; exact hl) ⟨by rw [hw]; exact hP, by rw [hw]; exact hD⟩ hS1)
  simp only [List.map_cons, hA.st hs.2]
  show _ = F0 m (pc + 3) ls (.ref (put1 adr h.length q h.length) :: _)
  rw [put1_at]
theorem aw_newa {z : Int32} {kd N : Nat} {atype : ArrayType} {ty : FieldType} {a0 : vp_A} (hd : decode cc pc = .ok (.newarray atype, 2)) (hwd : Cond.arrayClass ty ∈ lw_good) (hat : newarray.typeOf atype = ty) (hkd : (kd = 0 ∧ ty = .int) ∨ (kd = 1 ∧ ty = .long)) (ha : ∀ cA : ClassId, vp_cell cA a0 = arrV cA N (fun _ => defaultValue ty)) (hta : ∀ a, tA a a0 = a0) (hz : ¬ z < 0) (hzN : z.toNatClampNeg = N) (hby : N * componentBytes ty ≤ 536870912) (hkn : k + 1 ≤ R.cells ∧ n + N ≤ R.slots) (hN : h.length < 1000) (hh : okh h = true) (hs : okl h.length L st = true)
    (K : ∀ q : Nat, AW X cc nL own R Qm (k + 1) (n + N) (put1 adr h.length q) (h ++ [.inl (kd, a0)]) (pc + 2) L (.ref h.length :: st)) : AW X cc nL own R Qm k n adr h pc L (.int z :: st) := by
  obtain ⟨p, l, e, s, m, args, below, meth, c, G⟩ := X
  intro F hk ls H locs hl hR hS
  simp only [okl, Bool.and_eq_true] at hs
  refine va_newa (atype := atype) F.1 F.2.1 (by rw [hat]; exact F.2.2.2.2.1 _ hwd) hat hk.2.1 hR.1 hR.2 hS (fun q hq => Nat.le_trans hk.1 hq) ha hz hzN hby hkn.1 hkn.2 hd (fun q cA H1 hK1 hP hD hS1 => ?_)
  have hA := put1_agr adr q hN
  have hcA : cA = G.2.1 kd := by
    have h1 := (hK1.2 3 (cA, ty) rfl).2
    rcases hkd with ⟨rfl, rfl⟩ | ⟨rfl, rfl⟩
    · have h2 := (hK1.2 0 _ rfl).2
      exact Option.some.inj (h1.symm.trans h2)
    · have h2 := (hK1.2 1 _ rfl).2
      exact Option.some.inj (h1.symm.trans h2)
  subst hcA
  have hfe : tE G (put1 adr h.length q) (.inl (kd, a0)) = .inl (G.2.1 kd, a0) := by
    show Sum.inl (G.2.1 kd, _) = Sum.inl (G.2.1 kd, _)
    rw [hta]
  have hw := push_w (G := G) (e := .inl (kd, a0)) (q := q) hN hh hfe
  refine W.eq ?_ (K q F (hk.adr (fun i hi => hA i (Or.inr hi))) ls H1 locs (by rw [hA.L hs.1]; exact hl) ⟨by rw [hw]; exact hP, by rw [hw]; exact hD⟩ hS1)
  simp only [List.map_cons, hA.st hs.2]
  show _ = F0 m (pc + 2) ls (.ref (put1 adr h.length q h.length) :: _)
  rw [put1_at]
theorem aw_newq {i N : Nat} {z : Int32} (hd : decode cc pc = .ok (.anewarray i, 3)) (hcl : Cond.classLink own i "StillInIt$Sheet" ∈ lw_good) (hov : X.2.2.2.1.vm.Alike X.2.2.2.1.vm → va_AO "StillInIt$Sheet" X.2.2.2.1) (hz : ¬ z < 0) (hzN : z.toNatClampNeg = N) (hby : N * 4 ≤ 536870912) (hkn : k + 1 ≤ R.cells ∧ n + N ≤ R.slots) (hN : h.length < 1000) (hh : okh h = true) (hs : okl h.length L st = true)
    (K : ∀ q : Nat, AW X cc nL own R Qm (k + 1) (n + N) (put1 adr h.length q) (h ++ [.inl (2, (N, .inr (.inr (.inr (.inr (fun _ => none))))))]) (pc + 3) L (.ref h.length :: st)) : AW X cc nL own R Qm k n adr h pc L (.int z :: st) := by
  obtain ⟨p, l, e, s, m, args, below, meth, c, G⟩ := X
  intro F hk ls H locs hl hR hS
  simp only [okl, Bool.and_eq_true] at hs
  refine va_newq F.1 F.2.1 F.2.2.2.1 (F.2.2.2.2.1 _ hcl) (hov (Vm.Alike.refl _)) hk.2.1 hR.1 hR.2 hS (fun q hq => Nat.le_trans hk.1 hq) hz hzN hby hkn.1 hkn.2 hd (fun q cA H1 hK1 hP hD hS1 => ?_)
  have hA := put1_agr adr q hN
  have hcA : cA = G.2.1 2 := by
    obtain ⟨kA, comp, -, -, -, h1⟩ := (hK1.2 3 (cA, .object "StillInIt$Sheet") rfl).2
    obtain ⟨kB, comp2, -, -, -, h2⟩ := (hK1.2 2 _ rfl).2
    exact Option.some.inj (h1.symm.trans h2)
  subst hcA
  have hfe : tE G (put1 adr h.length q) (.inl (2, (N, .inr (.inr (.inr (.inr (fun _ => none))))))) = .inl (G.2.1 2, (N, .inr (.inr (.inr (.inr (fun _ => none)))))) := by
    show Sum.inl (G.2.1 2, _) = Sum.inl (G.2.1 2, _)
    unfold tA
    congr 2
    simp
  have hw := push_w (G := G) (e := .inl (2, (N, .inr (.inr (.inr (.inr (fun _ => none))))))) (q := q) hN hh hfe
  refine W.eq ?_ (K q F (hk.adr (fun i hi => hA i (Or.inr hi))) ls H1 locs (by rw [hA.L hs.1]; exact hl) ⟨by rw [hw]; exact hP, by rw [hw]; exact hD⟩ hS1)
  simp only [List.map_cons, hA.st hs.2]
  show _ = F0 m (pc + 3) ls (.ref (put1 adr h.length q h.length) :: _)
  rw [put1_at]
theorem aw_objInit {i x : Nat} (hd : decode cc pc = .ok (.invokespecial i, 3)) (hw : Cond.methodLink own i Lib.objectInit ∈ lw_good) (hr : 1 ≤ R.frames ∧ (st.map fun v => v.category).sum + 12 ≤ R.locals) (hcat : (st.map fun v => v.category).sum ≤ 8)
    (K : AW X cc nL own R Qm k n adr h (pc + 3) L st) : AW X cc nL own R Qm k n adr h pc L (.ref x :: st) := by
  obtain ⟨p, l, e, s, m, args, below, meth, c, G⟩ := X
  intro F hk ls H locs hl hR hS
  refine W.objInit F.1 F.2.1 F.2.2.2.1 (F.2.2.2.2.1 _ hw) (F.2.2.2.2.1 _ wd_oinst) (F.2.2.2.2.1 _ wd_ocode) rfl (hl.1.trans F.2.2.1.symm) rfl hd hr.1 ?_ (K F hk ls H locs hl hR hS)
  have e1 : (F0 m pc ls (List.map (tv adr) (.ref x :: st))).monitorRoom = 0 := by
    have := lv_room (m := m) (pc := pc) (ls := ls) (rest := List.map (tv adr) (.ref x :: st)) (st := []) (by simp)
    rfl
  rw [e1, tv_cats]
  omega
theorem aw_putF {i r ci fk : Nat} {v : Value} {ty : FieldType} {h' : Hp} (hnm : (mth X).name = "<init>") (hd : decode cc pc = .ok (.putfield i, 3)) (hw : PNok own i ci fk ty) (hn : ∀ a, narrow ty (tv a v) = tv a v ∧ fits ty (tv a v) = true) (hx : pF h r ci fk v = some h') (K : AW X cc nL own R Qm k n adr h' (pc + 3) L st) : AW X cc nL own R Qm k n adr h pc L (v :: .ref r :: st) := by
  obtain ⟨p, l, e, s, m, args, below, meth, c, G⟩ := X
  intro F hk ls H locs hl hR hS
  obtain ⟨⟨C, T, N, hc, hN, hin, hlk, hT, ty0, hty, hnn⟩, hp⟩ := hw
  obtain ⟨fs, he, hlt, rfl⟩ := pF_some hx
  obtain ⟨hfin, hd0, hdc⟩ := hp C T N hc
  refine va_putF (ci := ci) (ty := ty) F.1 F.2.1 F.2.2.2.2.1 hin ty0 hty hnn F.2.2.2.1 hk.2.1 hR.1 hR.2 hS r (cW_at he) hc fk hN (F.2.2.2.2.1 _ hlk) (fun _ z => by rw [← hT]; exact z) hfin hnm hdc hd0 (hn adr).1 (hn adr).2 (by simpa using hlt) hd (fun H1 locs1 hP hD hS1 => K F hk ls H1 locs1 hl ?_ hS1)
  rw [show (List.map (tv adr) fs).set fk (tv adr v) = List.map (tv adr) (fs.set fk v) from List.map_set.symm] at hP hD
  exact ⟨by rw [← cW_set]; exact hP, by rw [← cW_set]; exact hD⟩
variable {i d b nL' mc ms : Nat} {y : MethodName} {cc' : ByteArray} {as stk : List Value} {h' : Hp}
theorem aw_ctor (hd : decode cc pc = .ok (.invokespecial i, 3)) (hm : MOk y cc' nL' none as.length) (hv : Cond.instanceMethod y ∈ lw_good) (hini : y.name = "<init>") (hw : Cond.methodLink own i y ∈ lw_good) (hr : d + 1 ≤ R.frames ∧ 8 + (nL' + 11) + 64 * d ≤ R.locals) (hkn : k + mc ≤ R.cells ∧ n + ms ≤ R.slots) (hcat : (st.map fun v => v.category).sum ≤ 8) (hst : stk = as.reverse ++ .ref b :: st) (hs : okl h.length L st = true) (M : MtQ d mc ms y cc' nL' none (.ref b :: as) h (Qn h.length h'))
    (K : ∀ a, Agr h.length a adr → AW X cc nL own R Qm (k + mc) (n + ms) a h' (pc + 3) L st) : AW X cc nL own R Qm k n adr h pc L stk := by
  obtain ⟨p, l, e, s, m, args, below, meth, c, G⟩ := X
  intro F hk ls H locs hl hR hS
  simp only [okl, Bool.and_eq_true] at hs
  subst hst
  have hcb : CallB R s args own i y cc' nL' none (.code y cc' nL' none :: lw_good) (rmd d mc ms) mc ms as.length := callB_of as.length F.2.2.2.2.1 (code_goodIn hm.1) rfl rfl rfl (F.2.2.2.2.1 _ hm.2.1) (F.2.2.2.2.1 _ hw) ⟨hm.2.2.1, hm.2.2.2.1, hm.2.2.2.2⟩ hr
  refine aw_of_run (rest := st.map (tv adr)) (va_runI (As := as.map (tv adr)) (b := adr b) ⟨F.1, F.2.1, F.2.2.1, F.2.2.2.1, F.2.2.2.2.1⟩ (M l G adr) ⟨hcb, hini, F.2.2.2.2.1 _ hv⟩ ⟨pc_blind, fun U hU hW => ⟨rfl, hk.go hS hW hU, by rw [hU]; exact hR⟩⟩ rfl (by simp) hl.1 (by simp [tv]) (lv_room (by rw [tv_cats]; exact hcat)) hd hkn) hS (fun a r0 h0 hq H1 locs1 hR1 hS1 => ?_)
  obtain ⟨hA, rfl, rfl⟩ := hq
  have hA : Agr h.length a adr := hA
  refine W.eq ?_ (K a hA F (hk.adr (fun i hi => hA i (Or.inr hi))) ls H1 locs1 (by rw [hA.L hs.1]; exact hl) hR1 hS1)
  rw [hA.st hs.2]
  rfl
theorem aw_ctorN {host : String} (hd : decode cc pc = .ok (.invokespecial i, 3)) (hm : MOk y cc' nL' none as.length) (hv : Cond.instanceMethod y ∈ lw_good) (hini : y.name = "<init>") (hw : (own, i, y, host) ∈ nestM) (hr : d + 1 ≤ R.frames ∧ 8 + (nL' + 11) + 64 * d ≤ R.locals) (hkn : k + mc ≤ R.cells ∧ n + ms ≤ R.slots) (hcat : (st.map fun v => v.category).sum ≤ 8) (hst : stk = as.reverse ++ .ref b :: st) (hs : okl h.length L st = true) (M : MtQ d mc ms y cc' nL' none (.ref b :: as) h (Qn h.length h'))
    (K : ∀ a, Agr h.length a adr → AW X cc nL own R Qm (k + mc) (n + ms) a h' (pc + 3) L st) : AW X cc nL own R Qm k n adr h pc L stk := by
  obtain ⟨p, l, e, s, m, args, below, meth, c, G⟩ := X
  intro F hk ls H locs hl hR hS
  simp only [okl, Bool.and_eq_true] at hs
  subst hst
  have hcb := va_cnB (R := R) (rm := rmd d mc ms) (mc := mc) (ms := ms) as.length F.2.2.2.2.1 (code_goodIn hm.1) rfl rfl rfl (hk.2.2.1 _ hw) (F.2.2.2.2.1 _ hm.2.1) ⟨hm.2.2.1, hm.2.2.2.1, hm.2.2.2.2⟩ hr
  refine aw_of_run (rest := st.map (tv adr)) (va_runIN (As := as.map (tv adr)) (b := adr b) ⟨F.1, F.2.1, F.2.2.1, F.2.2.2.1, F.2.2.2.2.1⟩ (M l G adr) ⟨hcb, hini, F.2.2.2.2.1 _ hv⟩ ⟨pc_blind, fun U hU hW => ⟨rfl, hk.go hS hW hU, by rw [hU]; exact hR⟩⟩ rfl (by simp) hl.1 (by simp [tv]) (lv_room (by rw [tv_cats]; exact hcat)) hd hkn) hS (fun a r0 h0 hq H1 locs1 hR1 hS1 => ?_)
  obtain ⟨hA, rfl, rfl⟩ := hq
  have hA : Agr h.length a adr := hA
  refine W.eq ?_ (K a hA F (hk.adr (fun i hi => hA i (Or.inr hi))) ls H1 locs1 (by rw [hA.L hs.1]; exact hl) hR1 hS1)
  rw [hA.st hs.2]
  rfl
end AWM
end
section
/-! what the printed rows use -/
def lp {σ ρ : Type} (b : (σ → Hp → Option ρ) → σ → Hp → Option ρ) : Nat → σ → Hp → Option ρ
  | 0 => fun _ _ => none
  | n + 1 => b (lp b n)
theorem aw_lp {σ ρ : Type} {b : (σ → Hp → Option ρ) → σ → Hp → Option ρ} {q : ρ} {Z : σ → Hp → Prop} (hb : ∀ kH : σ → Hp → Option ρ, (∀ v h, kH v h = some q → Z v h) → ∀ v h, b kH v h = some q → Z v h) : ∀ (n : Nat) (v : σ) (h : Hp), lp b n v h = some q → Z v h
  | 0, _, _, hf => by cases hf
  | n + 1, v, h, hf => hb (lp b n) (aw_lp hb n) v h hf
theorem b_some {α β : Type} {o : Option α} {f : α → Option β} {b : β} (h : o.bind f = some b) : ∃ a, o = some a ∧ f a = some b := by
  cases o with
  | none => cases h
  | some a => exact ⟨a, rfl, h⟩
theorem i_pos {α : Type} {c : Prop} {hd : Decidable c} {a b r : α} (hc : c) (h : @ite α c hd a b = r) : a = r := by
  rw [if_pos hc] at h
  exact h
theorem i_neg {α : Type} {c : Prop} {hd : Decidable c} {a b r : α} (hc : ¬ c) (h : @ite α c hd a b = r) : b = r := by
  rw [if_neg hc] at h
  exact h
theorem rm_ok {d d' nL' mc ms : Nat} (h1 : d + 1 ≤ d') (h2 : nL' ≤ 45) : d + 1 ≤ (rmd d' mc ms).frames ∧ 8 + (nL' + 11) + 64 * d ≤ (rmd d' mc ms).locals := ⟨h1, by
  show _ ≤ 64 * d'
  omega⟩
theorem tab_out {x : Int32} {N : Nat} {hi : Int} (hN : N < 2 ^ 31) (hh : hi = (N : Int) - 1) (h : ∀ j : Nat, j < N → ¬ x = nI j) : x.toInt < 0 ∨ hi < x.toInt := by
  by_cases h0 : x < 0
  · left
    exact Int32.lt_iff_toInt_lt.mp h0
  · right
    obtain ⟨j, hj, rfl⟩ := nI_of h0
    have h1 : ¬ j < N := fun q => h j q rfl
    rw [nI_toInt hj]
    omega
section AWX
variable {X : Cx} {cc : ByteArray} {nL : Nat} {own : String} {R : Room} {Qm : State → Prop} {k n : Nat} {adr : Nat → Nat} {h : Hp} {pc : Nat} {L : List (Nat × Value)} {st : List Value}
theorem aw_nm {z x : Int32} (he : some z = some x) (K : AW X cc nL own R Qm k n adr h pc L (.int x :: st)) : AW X cc nL own R Qm k n adr h pc L (.int z :: st) := by
  cases he
  exact K
theorem aw_nml {z x : Int64} (he : some z = some x) (K : AW X cc nL own R Qm k n adr h pc L (.long x :: st)) : AW X cc nL own R Qm k n adr h pc L (.long z :: st) := by
  cases he
  exact K
theorem aw_getI {i r ci fk : Nat} {x : Int32} (hd : decode cc pc = .ok (.getfield i, 3)) (hw : GFok own i ci fk) (hx : gI h r ci fk = some x) (K : AW X cc nL own R Qm k n adr h (pc + 3) L (.int x :: st)) : AW X cc nL own R Qm k n adr h pc L (.ref r :: st) := aw_get hd hw (gI_some hx) K
theorem aw_getR {i r ci fk x : Nat} (hd : decode cc pc = .ok (.getfield i, 3)) (hw : GFok own i ci fk) (hx : gR h r ci fk = some x) (K : AW X cc nL own R Qm k n adr h (pc + 3) L (.ref x :: st)) : AW X cc nL own R Qm k n adr h pc L (.ref r :: st) := aw_get hd hw (gR_some hx) K
theorem aw_putI {i r ci fk : Nat} {x : Int32} {h' : Hp} (hd : decode cc pc = .ok (.putfield i, 3)) (hw : PFok own i ci fk .int) (hx : pI h r ci fk x = some h') (K : AW X cc nL own R Qm k n adr h' (pc + 3) L st) : AW X cc nL own R Qm k n adr h pc L (.int x :: .ref r :: st) := aw_put hd hw (fun _ => ⟨rfl, rfl⟩) hx K
theorem aw_putZ {i r ci fk : Nat} {x : Int32} {h' : Hp} (hd : decode cc pc = .ok (.putfield i, 3)) (hw : PFok own i ci fk .boolean) (hx : pZ h r ci fk x = some h') (K : AW X cc nL own R Qm k n adr h' (pc + 3) L st) : AW X cc nL own R Qm k n adr h pc L (.int x :: .ref r :: st) := by
  unfold pZ at hx
  split at hx
  · rename_i hz
    refine aw_put hd hw (fun _ => ?_) hx K
    show narrow .boolean (.int x) = .int x ∧ fits .boolean (.int x) = true
    rcases hz with rfl | rfl
    · exact ⟨by decide, by decide⟩
    · exact ⟨by decide, by decide⟩
  · cases hx
variable {i d b nL' : Nat} {y : MethodName} {cc' : ByteArray} {ret : Option FieldType} {as stk : List Value} {v : Value} {h' : Hp}
theorem aw_cV {ci N : Nat} {T : u_T} {u : Unit} (hd : decode cc pc = .ok (.invokevirtual i, 3)) (hm : MOk y cc' nL' ret as.length) (hv : VOk y) (hw : Cond.methodLink own i y ∈ lw_good) (hb : ck h b ci = some u) (hc : vwCl[ci]? = some (y.cls, T, N)) (hr : d + 1 ≤ R.frames ∧ 8 + (nL' + 11) + 64 * d ≤ R.locals) (hkn : k ≤ R.cells ∧ n ≤ R.slots) (hcat : (st.map fun v => v.category).sum ≤ 8) (hst : stk = as.reverse ++ .ref b :: st) (M : Mt d y cc' nL' ret (.ref b :: as) h (some v) h')
    (K : AW X cc nL own R Qm k n adr h' (pc + 3) L (v :: st)) : AW X cc nL own R Qm k n adr h pc L stk := aw_virtK hd hm hv hw hb hc hr hkn hcat hst M K
theorem aw_cV0 {ci N : Nat} {T : u_T} {u : Unit} (hd : decode cc pc = .ok (.invokevirtual i, 3)) (hm : MOk y cc' nL' ret as.length) (hv : VOk y) (hw : Cond.methodLink own i y ∈ lw_good) (hb : ck h b ci = some u) (hc : vwCl[ci]? = some (y.cls, T, N)) (hr : d + 1 ≤ R.frames ∧ 8 + (nL' + 11) + 64 * d ≤ R.locals) (hkn : k ≤ R.cells ∧ n ≤ R.slots) (hcat : (st.map fun v => v.category).sum ≤ 8) (hst : stk = as.reverse ++ .ref b :: st) (M : Mt d y cc' nL' ret (.ref b :: as) h none h')
    (K : AW X cc nL own R Qm k n adr h' (pc + 3) L st) : AW X cc nL own R Qm k n adr h pc L stk := aw_virtK hd hm hv hw hb hc hr hkn hcat hst M K
theorem aw_cN {ci N : Nat} {T : u_T} {u : Unit} {host : String} (hd : decode cc pc = .ok (.invokevirtual i, 3)) (hm : MOk y cc' nL' ret as.length) (hv : VOk y) (hw : (own, i, y, host) ∈ nestM) (hb : ck h b ci = some u) (hc : vwCl[ci]? = some (y.cls, T, N)) (hr : d + 1 ≤ R.frames ∧ 8 + (nL' + 11) + 64 * d ≤ R.locals) (hkn : k ≤ R.cells ∧ n ≤ R.slots) (hcat : (st.map fun v => v.category).sum ≤ 8) (hst : stk = as.reverse ++ .ref b :: st) (M : Mt d y cc' nL' ret (.ref b :: as) h (some v) h')
    (K : AW X cc nL own R Qm k n adr h' (pc + 3) L (v :: st)) : AW X cc nL own R Qm k n adr h pc L stk := aw_virtNK hd hm hv hw hb hc hr hkn hcat hst M K
theorem aw_cS (hd : decode cc pc = .ok (.invokestatic i, 3)) (hm : MOk y cc' nL' ret as.length) (hv : Cond.static y ∈ lw_good) (hw : Cond.methodLink own i y ∈ lw_good) (hr : d + 1 ≤ R.frames ∧ 8 + (nL' + 11) + 64 * d ≤ R.locals) (hkn : k ≤ R.cells ∧ n ≤ R.slots) (hcat : (st.map fun v => v.category).sum ≤ 8) (hst : stk = as.reverse ++ st) (M : Mt d y cc' nL' ret as h (some v) h')
    (K : AW X cc nL own R Qm k n adr h' (pc + 3) L (v :: st)) : AW X cc nL own R Qm k n adr h pc L stk := aw_stat hd hm hv hw hr hkn hcat hst M K
theorem aw_cS0 (hd : decode cc pc = .ok (.invokestatic i, 3)) (hm : MOk y cc' nL' ret as.length) (hv : Cond.static y ∈ lw_good) (hw : Cond.methodLink own i y ∈ lw_good) (hr : d + 1 ≤ R.frames ∧ 8 + (nL' + 11) + 64 * d ≤ R.locals) (hkn : k ≤ R.cells ∧ n ≤ R.slots) (hcat : (st.map fun v => v.category).sum ≤ 8) (hst : stk = as.reverse ++ st) (M : Mt d y cc' nL' ret as h none h')
    (K : AW X cc nL own R Qm k n adr h' (pc + 3) L st) : AW X cc nL own R Qm k n adr h pc L stk := aw_stat hd hm hv hw hr hkn hcat hst M K
theorem aw_cSN {host : String} (hd : decode cc pc = .ok (.invokestatic i, 3)) (hm : MOk y cc' nL' ret as.length) (hv : Cond.static y ∈ lw_good) (hw : (own, i, y, host) ∈ nestM) (hr : d + 1 ≤ R.frames ∧ 8 + (nL' + 11) + 64 * d ≤ R.locals) (hkn : k ≤ R.cells ∧ n ≤ R.slots) (hcat : (st.map fun v => v.category).sum ≤ 8) (hst : stk = as.reverse ++ st) (M : Mt d y cc' nL' ret as h (some v) h')
    (K : AW X cc nL own R Qm k n adr h' (pc + 3) L (v :: st)) : AW X cc nL own R Qm k n adr h pc L stk := aw_statN hd hm hv hw hr hkn hcat hst M K
end AWX
end
section
theorem lkX0_33 : Cond.fieldLink RX0 33 RX0 (TX0 0).2.1 (TX0 0).2.2.1 ∈ lw_good := lw_mem 124 (by decide +kernel) (by decide +kernel)
theorem gfX0_33 : GFok RX0 33 0 0 := ⟨RX0, TX0, 10, rfl, by decide, inlX0, lkX0_33, rfl, tyX0, tyX0_ok, nmX0⟩
theorem moX0_hasTeam : MOk yX0_hasTeam cX0_hasTeam 2 (some .boolean) 1 := ⟨lw_mem 449 (by decide +kernel) (by decide +kernel), lw_mem 71 (by decide +kernel) (by decide +kernel), by decide +kernel, by decide +kernel, by decide +kernel⟩
theorem mlX0_65 : Cond.methodLink RX0 65 yX0_hasTeam ∈ lw_good := lw_mem 446 (by decide +kernel) (by decide +kernel)
theorem voX0_hasTeam : VOk yX0_hasTeam := ⟨lw_mem 447 (by decide +kernel) (by decide +kernel), lw_mem 448 (by decide +kernel) (by decide +kernel)⟩
theorem lkX0_37 : Cond.fieldLink RX0 37 RX0 (TX0 1).2.1 (TX0 1).2.2.1 ∈ lw_good := lw_mem 127 (by decide +kernel) (by decide +kernel)
theorem gfX0_37 : GFok RX0 37 0 1 := ⟨RX0, TX0, 10, rfl, by decide, inlX0, lkX0_37, rfl, tyX0, tyX0_ok, nmX0⟩
theorem lkX0_21 : Cond.fieldLink RX0 21 RX0 (TX0 6).2.1 (TX0 6).2.2.1 ∈ lw_good := lw_mem 139 (by decide +kernel) (by decide +kernel)
theorem gfX0_21 : GFok RX0 21 0 6 := ⟨RX0, TX0, 10, rfl, by decide, inlX0, lkX0_21, rfl, tyX0, tyX0_ok, nmX0⟩
theorem lkX0_24 : Cond.fieldLink RX0 24 RX0 (TX0 7).2.1 (TX0 7).2.2.1 ∈ lw_good := lw_mem 143 (by decide +kernel) (by decide +kernel)
theorem gfX0_24 : GFok RX0 24 0 7 := ⟨RX0, TX0, 10, rfl, by decide, inlX0, lkX0_24, rfl, tyX0, tyX0_ok, nmX0⟩
theorem lkX0_27 : Cond.fieldLink RX0 27 RX0 (TX0 8).2.1 (TX0 8).2.2.1 ∈ lw_good := lw_mem 147 (by decide +kernel) (by decide +kernel)
theorem gfX0_27 : GFok RX0 27 0 8 := ⟨RX0, TX0, 10, rfl, by decide, inlX0, lkX0_27, rfl, tyX0, tyX0_ok, nmX0⟩
theorem lkX0_30 : Cond.fieldLink RX0 30 RX0 (TX0 9).2.1 (TX0 9).2.2.1 ∈ lw_good := lw_mem 149 (by decide +kernel) (by decide +kernel)
theorem gfX0_30 : GFok RX0 30 0 9 := ⟨RX0, TX0, 10, rfl, by decide, inlX0, lkX0_30, rfl, tyX0, tyX0_ok, nmX0⟩
theorem pfX0_37 : PFok RX0 37 0 1 .int := ⟨gfX0_37, fun C T N h => by cases h; exact ⟨rfl, by decide +kernel⟩⟩
theorem lkX0_15 : Cond.fieldLink RX0 15 RX0 (TX0 4).2.1 (TX0 4).2.2.1 ∈ lw_good := lw_mem 136 (by decide +kernel) (by decide +kernel)
theorem gfX0_15 : GFok RX0 15 0 4 := ⟨RX0, TX0, 10, rfl, by decide, inlX0, lkX0_15, rfl, tyX0, tyX0_ok, nmX0⟩
theorem lkX0_9 : Cond.fieldLink RX0 9 RX0 (TX0 3).2.1 (TX0 3).2.2.1 ∈ lw_good := lw_mem 134 (by decide +kernel) (by decide +kernel)
theorem gfX0_9 : GFok RX0 9 0 3 := ⟨RX0, TX0, 10, rfl, by decide, inlX0, lkX0_9, rfl, tyX0, tyX0_ok, nmX0⟩
theorem pfX0_33 : PFok RX0 33 0 0 .int := ⟨gfX0_33, fun C T N h => by cases h; exact ⟨rfl, by decide +kernel⟩⟩
theorem lkX0_18 : Cond.fieldLink RX0 18 RX0 (TX0 5).2.1 (TX0 5).2.2.1 ∈ lw_good := lw_mem 138 (by decide +kernel) (by decide +kernel)
theorem gfX0_18 : GFok RX0 18 0 5 := ⟨RX0, TX0, 10, rfl, by decide, inlX0, lkX0_18, rfl, tyX0, tyX0_ok, nmX0⟩
theorem kfX0_49 : (RX0, 49, "StillInIt", "WON", "[I", "StillInIt") ∈ nestF := by decide +kernel
theorem lkX0_40 : Cond.fieldLink RX0 40 RX0 (TX0 2).2.1 (TX0 2).2.2.1 ∈ lw_good := lw_mem 132 (by decide +kernel) (by decide +kernel)
theorem gfX0_40 : GFok RX0 40 0 2 := ⟨RX0, TX0, 10, rfl, by decide, inlX0, lkX0_40, rfl, tyX0, tyX0_ok, nmX0⟩
theorem kfX0_52 : (RX0, 52, "StillInIt", "DRAWN", "[I", "StillInIt") ∈ nestF := by decide +kernel
theorem kfX0_58 : (RX0, 58, "StillInIt", "FIRST_RESULT", "[I", "StillInIt") ∈ nestF := by decide +kernel
theorem kfX0_55 : (RX0, 55, "StillInIt", "LEAST", "[I", "StillInIt") ∈ nestF := by decide +kernel
theorem moX0_isLeft : MOk yX0_isLeft cX0_isLeft 2 (some .boolean) 1 := ⟨lw_mem 462 (by decide +kernel) (by decide +kernel), lw_mem 71 (by decide +kernel) (by decide +kernel), by decide +kernel, by decide +kernel, by decide +kernel⟩
theorem mlX0_69 : Cond.methodLink RX0 69 yX0_isLeft ∈ lw_good := lw_mem 459 (by decide +kernel) (by decide +kernel)
theorem voX0_isLeft : VOk yX0_isLeft := ⟨lw_mem 460 (by decide +kernel) (by decide +kernel), lw_mem 461 (by decide +kernel) (by decide +kernel)⟩
theorem moX0_foe : MOk yX0_foe cX0_foe 3 (some .int) 2 := ⟨lw_mem 466 (by decide +kernel) (by decide +kernel), lw_mem 71 (by decide +kernel) (by decide +kernel), by decide +kernel, by decide +kernel, by decide +kernel⟩
theorem mlX0_72 : Cond.methodLink RX0 72 yX0_foe ∈ lw_good := lw_mem 463 (by decide +kernel) (by decide +kernel)
theorem voX0_foe : VOk yX0_foe := ⟨lw_mem 464 (by decide +kernel) (by decide +kernel), lw_mem 465 (by decide +kernel) (by decide +kernel)⟩
theorem moX0_award : MOk yX0_award cX0_award 5 none 4 := ⟨lw_mem 517 (by decide +kernel) (by decide +kernel), lw_mem 71 (by decide +kernel) (by decide +kernel), by decide +kernel, by decide +kernel, by decide +kernel⟩
theorem mlX0_76 : Cond.methodLink RX0 76 yX0_award ∈ lw_good := lw_mem 514 (by decide +kernel) (by decide +kernel)
theorem voX0_award : VOk yX0_award := ⟨lw_mem 515 (by decide +kernel) (by decide +kernel), lw_mem 516 (by decide +kernel) (by decide +kernel)⟩
theorem pfX0_40 : PFok RX0 40 0 2 .int := ⟨gfX0_40, fun C T N h => by cases h; exact ⟨rfl, by decide +kernel⟩⟩
theorem mlX0_43 : Cond.methodLink RX0 43 arraycopyName ∈ lw_good := lw_mem 691 (by decide +kernel) (by decide +kernel)
theorem moX0_isNamed : MOk yX0_isNamed cX0_isNamed 6 (some .boolean) 4 := ⟨lw_mem 410 (by decide +kernel) (by decide +kernel), lw_mem 71 (by decide +kernel) (by decide +kernel), by decide +kernel, by decide +kernel, by decide +kernel⟩
theorem mlX0_61 : Cond.methodLink RX0 61 yX0_isNamed ∈ lw_good := lw_mem 407 (by decide +kernel) (by decide +kernel)
theorem voX0_isNamed : VOk yX0_isNamed := ⟨lw_mem 409 (by decide +kernel) (by decide +kernel), lw_mem 3 (by decide +kernel) (by decide +kernel)⟩
end
section
theorem dX0_hasTeam_0 : decode cX0_hasTeam 0 = .ok (.iload_n 1, 1) := by decide +kernel
theorem dX0_hasTeam_1 : decode cX0_hasTeam 1 = .ok (.ifCond .lt 15, 3) := by decide +kernel
theorem dX0_hasTeam_4 : decode cX0_hasTeam 4 = .ok (.iload_n 1, 1) := by decide +kernel
theorem dX0_hasTeam_5 : decode cX0_hasTeam 5 = .ok (.aload_n 0, 1) := by decide +kernel
theorem dX0_hasTeam_6 : decode cX0_hasTeam 6 = .ok (.getfield 33, 3) := by decide +kernel
theorem dX0_hasTeam_9 : decode cX0_hasTeam 9 = .ok (.if_icmp .ge 7, 3) := by decide +kernel
theorem dX0_hasTeam_12 : decode cX0_hasTeam 12 = .ok (.iconst 1, 1) := by decide +kernel
theorem dX0_hasTeam_13 : decode cX0_hasTeam 13 = .ok (.goto 4, 3) := by decide +kernel
theorem dX0_hasTeam_16 : decode cX0_hasTeam 16 = .ok (.iconst 0, 1) := by decide +kernel
theorem dX0_hasTeam_17 : decode cX0_hasTeam 17 = .ok (.ireturn, 1) := by decide +kernel
def f_X0_hasTeam (l0 : Nat) (l1 : Int32) (h0 : Hp) : Option (Int32 × Hp) :=
  (ck h0 l0 0).bind fun _ => if l1 < 0 then (some ((0 : Int32), h0)) else ((gI h0 l0 0 0).bind fun x2 => if x2 ≤ l1 then (some ((0 : Int32), h0)) else (some ((1 : Int32), h0)))
set_option maxRecDepth 100000 in
set_option maxHeartbeats 4000000 in
theorem c_X0_hasTeam {l0 : Nat} {l1 : Int32} {h0 : Hp} {q : Int32 × Hp} (hf : f_X0_hasTeam l0 l1 h0 = some q) : Mt 1 yX0_hasTeam cX0_hasTeam 2 (some .boolean) [.ref l0, .int l1] h0 (some (.int q.1)) q.2 := by
  refine MtQ.of (by decide) (Nat.le_of_ble_eq_true rfl) (fun X adr hr hn => ?_)
  unfold f_X0_hasTeam at hf
  show AW X cX0_hasTeam 2 RX0 (rmd 1 0 0) (Qmet X 0 0 (Qe (some (.int q.1)) q.2 adr)) 0 0 adr h0 0 [(0, .ref l0), (1, .int l1)] []
  obtain ⟨u0, e0, hf⟩ := b_some hf
  refine aw_iload_n 1 dX0_hasTeam_0 rfl rfl ?_
  refine aw_if_lt (tgt := 16) dX0_hasTeam_1 (by decide) (fun c1 => ?_) (fun c1 => ?_)
  · have hf := i_pos c1 hf
    refine aw_iconst (v := 0) dX0_hasTeam_16 (by decide) ?_
    cases hf
    exact aw_zret hr (by decide) dX0_hasTeam_17 ⟨rfl, rfl, rfl⟩
  · have hf := i_neg c1 hf
    refine aw_iload_n 1 dX0_hasTeam_4 rfl rfl ?_
    refine aw_aload_n 0 dX0_hasTeam_5 rfl rfl ?_
    obtain ⟨x2, ex2, hf⟩ := b_some hf
    refine aw_getI dX0_hasTeam_6 gfX0_33 ex2 ?_
    refine aw_icmp_ge (tgt := 16) dX0_hasTeam_9 (by decide) (fun c3 => ?_) (fun c3 => ?_)
    · have hf := i_pos c3 hf
      refine aw_iconst (v := 0) dX0_hasTeam_16 (by decide) ?_
      cases hf
      exact aw_zret hr (by decide) dX0_hasTeam_17 ⟨rfl, rfl, rfl⟩
    · have hf := i_neg c3 hf
      refine aw_iconst (v := 1) dX0_hasTeam_12 (by decide) ?_
      refine aw_goto (tgt := 17) dX0_hasTeam_13 (by decide) ?_
      cases hf
      exact aw_zret hr (by decide) dX0_hasTeam_17 ⟨rfl, rfl, rfl⟩
theorem k_X0_hasTeam {l0 : Nat} {l1 : Int32} {h0 : Hp} {q : Int32 × Hp} (hf : f_X0_hasTeam l0 l1 h0 = some q) : ck h0 l0 0 = some () := by
  unfold f_X0_hasTeam at hf
  obtain ⟨u0, e0, hf⟩ := b_some hf
  exact e0
theorem dX0_addGame_0 : decode cX0_addGame 0 = .ok (.aload_n 0, 1) := by decide +kernel
theorem dX0_addGame_1 : decode cX0_addGame 1 = .ok (.iload_n 1, 1) := by decide +kernel
theorem dX0_addGame_2 : decode cX0_addGame 2 = .ok (.invokevirtual 65, 3) := by decide +kernel
theorem dX0_addGame_5 : decode cX0_addGame 5 = .ok (.ifCond .eq 16, 3) := by decide +kernel
theorem dX0_addGame_8 : decode cX0_addGame 8 = .ok (.aload_n 0, 1) := by decide +kernel
theorem dX0_addGame_9 : decode cX0_addGame 9 = .ok (.iload_n 2, 1) := by decide +kernel
theorem dX0_addGame_10 : decode cX0_addGame 10 = .ok (.invokevirtual 65, 3) := by decide +kernel
theorem dX0_addGame_13 : decode cX0_addGame 13 = .ok (.ifCond .eq 8, 3) := by decide +kernel
theorem dX0_addGame_16 : decode cX0_addGame 16 = .ok (.iload_n 1, 1) := by decide +kernel
theorem dX0_addGame_17 : decode cX0_addGame 17 = .ok (.iload_n 2, 1) := by decide +kernel
theorem dX0_addGame_18 : decode cX0_addGame 18 = .ok (.if_icmp .ne 5, 3) := by decide +kernel
theorem dX0_addGame_21 : decode cX0_addGame 21 = .ok (.iconst (-1), 1) := by decide +kernel
theorem dX0_addGame_22 : decode cX0_addGame 22 = .ok (.ireturn, 1) := by decide +kernel
theorem dX0_addGame_23 : decode cX0_addGame 23 = .ok (.iload_n 3, 1) := by decide +kernel
theorem dX0_addGame_24 : decode cX0_addGame 24 = .ok (.iconst 1, 1) := by decide +kernel
theorem dX0_addGame_25 : decode cX0_addGame 25 = .ok (.if_icmp .lt 18, 3) := by decide +kernel
theorem dX0_addGame_28 : decode cX0_addGame 28 = .ok (.iload_n 3, 1) := by decide +kernel
theorem dX0_addGame_29 : decode cX0_addGame 29 = .ok (.bipush 30, 2) := by decide +kernel
theorem dX0_addGame_31 : decode cX0_addGame 31 = .ok (.if_icmp .gt 12, 3) := by decide +kernel
theorem dX0_addGame_34 : decode cX0_addGame 34 = .ok (.aload_n 0, 1) := by decide +kernel
theorem dX0_addGame_35 : decode cX0_addGame 35 = .ok (.getfield 37, 3) := by decide +kernel
theorem dX0_addGame_38 : decode cX0_addGame 38 = .ok (.bipush 9, 2) := by decide +kernel
theorem dX0_addGame_40 : decode cX0_addGame 40 = .ok (.if_icmp .lt 5, 3) := by decide +kernel
theorem dX0_addGame_43 : decode cX0_addGame 43 = .ok (.iconst (-1), 1) := by decide +kernel
theorem dX0_addGame_44 : decode cX0_addGame 44 = .ok (.ireturn, 1) := by decide +kernel
theorem dX0_addGame_45 : decode cX0_addGame 45 = .ok (.aload_n 0, 1) := by decide +kernel
theorem dX0_addGame_46 : decode cX0_addGame 46 = .ok (.getfield 21, 3) := by decide +kernel
theorem dX0_addGame_49 : decode cX0_addGame 49 = .ok (.aload_n 0, 1) := by decide +kernel
theorem dX0_addGame_50 : decode cX0_addGame 50 = .ok (.getfield 37, 3) := by decide +kernel
theorem dX0_addGame_53 : decode cX0_addGame 53 = .ok (.iload_n 1, 1) := by decide +kernel
theorem dX0_addGame_54 : decode cX0_addGame 54 = .ok (.iastore, 1) := by decide +kernel
theorem dX0_addGame_55 : decode cX0_addGame 55 = .ok (.aload_n 0, 1) := by decide +kernel
theorem dX0_addGame_56 : decode cX0_addGame 56 = .ok (.getfield 24, 3) := by decide +kernel
theorem dX0_addGame_59 : decode cX0_addGame 59 = .ok (.aload_n 0, 1) := by decide +kernel
theorem dX0_addGame_60 : decode cX0_addGame 60 = .ok (.getfield 37, 3) := by decide +kernel
theorem dX0_addGame_63 : decode cX0_addGame 63 = .ok (.iload_n 2, 1) := by decide +kernel
theorem dX0_addGame_64 : decode cX0_addGame 64 = .ok (.iastore, 1) := by decide +kernel
theorem dX0_addGame_65 : decode cX0_addGame 65 = .ok (.aload_n 0, 1) := by decide +kernel
theorem dX0_addGame_66 : decode cX0_addGame 66 = .ok (.getfield 27, 3) := by decide +kernel
theorem dX0_addGame_69 : decode cX0_addGame 69 = .ok (.aload_n 0, 1) := by decide +kernel
theorem dX0_addGame_70 : decode cX0_addGame 70 = .ok (.getfield 37, 3) := by decide +kernel
theorem dX0_addGame_73 : decode cX0_addGame 73 = .ok (.iload_n 3, 1) := by decide +kernel
theorem dX0_addGame_74 : decode cX0_addGame 74 = .ok (.iastore, 1) := by decide +kernel
theorem dX0_addGame_75 : decode cX0_addGame 75 = .ok (.aload_n 0, 1) := by decide +kernel
theorem dX0_addGame_76 : decode cX0_addGame 76 = .ok (.getfield 30, 3) := by decide +kernel
theorem dX0_addGame_79 : decode cX0_addGame 79 = .ok (.aload_n 0, 1) := by decide +kernel
theorem dX0_addGame_80 : decode cX0_addGame 80 = .ok (.getfield 37, 3) := by decide +kernel
theorem dX0_addGame_83 : decode cX0_addGame 83 = .ok (.iconst (-1), 1) := by decide +kernel
theorem dX0_addGame_84 : decode cX0_addGame 84 = .ok (.iastore, 1) := by decide +kernel
theorem dX0_addGame_85 : decode cX0_addGame 85 = .ok (.aload_n 0, 1) := by decide +kernel
theorem dX0_addGame_86 : decode cX0_addGame 86 = .ok (.dup, 1) := by decide +kernel
theorem dX0_addGame_87 : decode cX0_addGame 87 = .ok (.getfield 37, 3) := by decide +kernel
theorem dX0_addGame_90 : decode cX0_addGame 90 = .ok (.iconst 1, 1) := by decide +kernel
theorem dX0_addGame_91 : decode cX0_addGame 91 = .ok (.iadd, 1) := by decide +kernel
theorem dX0_addGame_92 : decode cX0_addGame 92 = .ok (.putfield 37, 3) := by decide +kernel
theorem dX0_addGame_95 : decode cX0_addGame 95 = .ok (.aload_n 0, 1) := by decide +kernel
theorem dX0_addGame_96 : decode cX0_addGame 96 = .ok (.getfield 37, 3) := by decide +kernel
theorem dX0_addGame_99 : decode cX0_addGame 99 = .ok (.iconst 1, 1) := by decide +kernel
theorem dX0_addGame_100 : decode cX0_addGame 100 = .ok (.isub, 1) := by decide +kernel
theorem dX0_addGame_101 : decode cX0_addGame 101 = .ok (.ireturn, 1) := by decide +kernel
def f_X0_addGame (l0 : Nat) (l1 : Int32) (l2 : Int32) (l3 : Int32) (h0 : Hp) : Option (Int32 × Hp) :=
  (ck h0 l0 0).bind fun _ => (f_X0_hasTeam l0 l1 h0).bind fun q1 => if q1.1 = 0 then (some ((-1 : Int32), q1.2)) else ((f_X0_hasTeam l0 l2 q1.2).bind fun q3 => if q3.1 = 0 then (some ((-1 : Int32), q3.2)) else (if l1 = l2 then (some ((-1 : Int32), q3.2)) else (if l3 < (1 : Int32) then (some ((-1 : Int32), q3.2)) else (if (30 : Int32) < l3 then (some ((-1 : Int32), q3.2)) else ((gI q3.2 l0 0 1).bind fun x8 => if x8 < (9 : Int32) then ((gR q3.2 l0 0 6).bind fun r10 => (gI q3.2 l0 0 1).bind fun x11 => (aS q3.2 r10 x11 l1).bind fun h12 => (gR h12 l0 0 7).bind fun r13 => (gI h12 l0 0 1).bind fun x14 => (aS h12 r13 x14 l2).bind fun h15 => (gR h15 l0 0 8).bind fun r16 => (gI h15 l0 0 1).bind fun x17 => (aS h15 r16 x17 l3).bind fun h18 => (gR h18 l0 0 9).bind fun r19 => (gI h18 l0 0 1).bind fun x20 => (aS h18 r19 x20 (-1 : Int32)).bind fun h21 => (gI h21 l0 0 1).bind fun x22 => (pI h21 l0 0 1 (x22 + (1 : Int32))).bind fun h23 => (gI h23 l0 0 1).bind fun x24 => some ((x24 - (1 : Int32)), h23)) else (some ((-1 : Int32), q3.2)))))))
set_option maxRecDepth 100000 in
set_option maxHeartbeats 4000000 in
theorem c_X0_addGame {l0 : Nat} {l1 : Int32} {l2 : Int32} {l3 : Int32} {h0 : Hp} {q : Int32 × Hp} (hf : f_X0_addGame l0 l1 l2 l3 h0 = some q) : Mt 2 yX0_addGame cX0_addGame 4 (some .int) [.ref l0, .int l1, .int l2, .int l3] h0 (some (.int q.1)) q.2 := by
  refine MtQ.of (by decide) (Nat.le_of_ble_eq_true rfl) (fun X adr hr hn => ?_)
  unfold f_X0_addGame at hf
  show AW X cX0_addGame 4 RX0 (rmd 2 0 0) (Qmet X 0 0 (Qe (some (.int q.1)) q.2 adr)) 0 0 adr h0 0 [(0, .ref l0), (1, .int l1), (2, .int l2), (3, .int l3)] []
  obtain ⟨u0, e0, hf⟩ := b_some hf
  refine aw_aload_n 0 dX0_addGame_0 rfl rfl ?_
  refine aw_iload_n 1 dX0_addGame_1 rfl rfl ?_
  obtain ⟨q1, eq1, hf⟩ := b_some hf
  refine aw_cV (as := [.int l1]) dX0_addGame_2 moX0_hasTeam voX0_hasTeam mlX0_65 (k_X0_hasTeam eq1) rfl (rm_ok (by omega) (by decide)) ⟨Nat.le_refl _, Nat.le_refl _⟩ (Nat.le_of_ble_eq_true rfl) rfl (c_X0_hasTeam eq1) ?_
  refine aw_if_eq (tgt := 21) dX0_addGame_5 (by decide) (fun c2 => ?_) (fun c2 => ?_)
  · have hf := i_pos c2 hf
    refine aw_iconst (v := -1) dX0_addGame_21 (by decide) ?_
    cases hf
    exact aw_iret hr dX0_addGame_22 ⟨rfl, rfl, rfl⟩
  · have hf := i_neg c2 hf
    refine aw_aload_n 0 dX0_addGame_8 rfl rfl ?_
    refine aw_iload_n 2 dX0_addGame_9 rfl rfl ?_
    obtain ⟨q3, eq3, hf⟩ := b_some hf
    refine aw_cV (as := [.int l2]) dX0_addGame_10 moX0_hasTeam voX0_hasTeam mlX0_65 (k_X0_hasTeam eq3) rfl (rm_ok (by omega) (by decide)) ⟨Nat.le_refl _, Nat.le_refl _⟩ (Nat.le_of_ble_eq_true rfl) rfl (c_X0_hasTeam eq3) ?_
    refine aw_if_eq (tgt := 21) dX0_addGame_13 (by decide) (fun c4 => ?_) (fun c4 => ?_)
    · have hf := i_pos c4 hf
      refine aw_iconst (v := -1) dX0_addGame_21 (by decide) ?_
      cases hf
      exact aw_iret hr dX0_addGame_22 ⟨rfl, rfl, rfl⟩
    · have hf := i_neg c4 hf
      refine aw_iload_n 1 dX0_addGame_16 rfl rfl ?_
      refine aw_iload_n 2 dX0_addGame_17 rfl rfl ?_
      refine aw_icmp_ne (tgt := 23) dX0_addGame_18 (by decide) (fun c5 => ?_) (fun c5 => ?_)
      · have hf := i_neg c5 hf
        refine aw_iload_n 3 dX0_addGame_23 rfl rfl ?_
        refine aw_iconst (v := 1) dX0_addGame_24 (by decide) ?_
        refine aw_icmp_lt (tgt := 43) dX0_addGame_25 (by decide) (fun c6 => ?_) (fun c6 => ?_)
        · have hf := i_pos c6 hf
          refine aw_iconst (v := -1) dX0_addGame_43 (by decide) ?_
          cases hf
          exact aw_iret hr dX0_addGame_44 ⟨rfl, rfl, rfl⟩
        · have hf := i_neg c6 hf
          refine aw_iload_n 3 dX0_addGame_28 rfl rfl ?_
          refine aw_bipush (v := 30) dX0_addGame_29 (by decide) ?_
          refine aw_icmp_gt (tgt := 43) dX0_addGame_31 (by decide) (fun c7 => ?_) (fun c7 => ?_)
          · have hf := i_pos c7 hf
            refine aw_iconst (v := -1) dX0_addGame_43 (by decide) ?_
            cases hf
            exact aw_iret hr dX0_addGame_44 ⟨rfl, rfl, rfl⟩
          · have hf := i_neg c7 hf
            refine aw_aload_n 0 dX0_addGame_34 rfl rfl ?_
            obtain ⟨x8, ex8, hf⟩ := b_some hf
            refine aw_getI dX0_addGame_35 gfX0_37 ex8 ?_
            refine aw_bipush (v := 9) dX0_addGame_38 (by decide) ?_
            refine aw_icmp_lt (tgt := 45) dX0_addGame_40 (by decide) (fun c9 => ?_) (fun c9 => ?_)
            · have hf := i_pos c9 hf
              refine aw_aload_n 0 dX0_addGame_45 rfl rfl ?_
              obtain ⟨r10, er10, hf⟩ := b_some hf
              refine aw_getR dX0_addGame_46 gfX0_21 er10 ?_
              refine aw_aload_n 0 dX0_addGame_49 rfl rfl ?_
              obtain ⟨x11, ex11, hf⟩ := b_some hf
              refine aw_getI dX0_addGame_50 gfX0_37 ex11 ?_
              refine aw_iload_n 1 dX0_addGame_53 rfl rfl ?_
              obtain ⟨h12, eh12, hf⟩ := b_some hf
              refine aw_iast dX0_addGame_54 eh12 ?_
              refine aw_aload_n 0 dX0_addGame_55 rfl rfl ?_
              obtain ⟨r13, er13, hf⟩ := b_some hf
              refine aw_getR dX0_addGame_56 gfX0_24 er13 ?_
              refine aw_aload_n 0 dX0_addGame_59 rfl rfl ?_
              obtain ⟨x14, ex14, hf⟩ := b_some hf
              refine aw_getI dX0_addGame_60 gfX0_37 ex14 ?_
              refine aw_iload_n 2 dX0_addGame_63 rfl rfl ?_
              obtain ⟨h15, eh15, hf⟩ := b_some hf
              refine aw_iast dX0_addGame_64 eh15 ?_
              refine aw_aload_n 0 dX0_addGame_65 rfl rfl ?_
              obtain ⟨r16, er16, hf⟩ := b_some hf
              refine aw_getR dX0_addGame_66 gfX0_27 er16 ?_
              refine aw_aload_n 0 dX0_addGame_69 rfl rfl ?_
              obtain ⟨x17, ex17, hf⟩ := b_some hf
              refine aw_getI dX0_addGame_70 gfX0_37 ex17 ?_
              refine aw_iload_n 3 dX0_addGame_73 rfl rfl ?_
              obtain ⟨h18, eh18, hf⟩ := b_some hf
              refine aw_iast dX0_addGame_74 eh18 ?_
              refine aw_aload_n 0 dX0_addGame_75 rfl rfl ?_
              obtain ⟨r19, er19, hf⟩ := b_some hf
              refine aw_getR dX0_addGame_76 gfX0_30 er19 ?_
              refine aw_aload_n 0 dX0_addGame_79 rfl rfl ?_
              obtain ⟨x20, ex20, hf⟩ := b_some hf
              refine aw_getI dX0_addGame_80 gfX0_37 ex20 ?_
              refine aw_iconst (v := -1) dX0_addGame_83 (by decide) ?_
              obtain ⟨h21, eh21, hf⟩ := b_some hf
              refine aw_iast dX0_addGame_84 eh21 ?_
              refine aw_aload_n 0 dX0_addGame_85 rfl rfl ?_
              refine aw_dup dX0_addGame_86 rfl ?_
              obtain ⟨x22, ex22, hf⟩ := b_some hf
              refine aw_getI dX0_addGame_87 gfX0_37 ex22 ?_
              refine aw_iconst (v := 1) dX0_addGame_90 (by decide) ?_
              refine aw_iadd dX0_addGame_91 ?_
              obtain ⟨h23, eh23, hf⟩ := b_some hf
              refine aw_putI dX0_addGame_92 pfX0_37 eh23 ?_
              refine aw_aload_n 0 dX0_addGame_95 rfl rfl ?_
              obtain ⟨x24, ex24, hf⟩ := b_some hf
              refine aw_getI dX0_addGame_96 gfX0_37 ex24 ?_
              refine aw_iconst (v := 1) dX0_addGame_99 (by decide) ?_
              refine aw_isub dX0_addGame_100 ?_
              cases hf
              exact aw_iret hr dX0_addGame_101 ⟨rfl, rfl, rfl⟩
            · have hf := i_neg c9 hf
              refine aw_iconst (v := -1) dX0_addGame_43 (by decide) ?_
              cases hf
              exact aw_iret hr dX0_addGame_44 ⟨rfl, rfl, rfl⟩
      · have hf := i_pos c5 hf
        refine aw_iconst (v := -1) dX0_addGame_21 (by decide) ?_
        cases hf
        exact aw_iret hr dX0_addGame_22 ⟨rfl, rfl, rfl⟩
theorem k_X0_addGame {l0 : Nat} {l1 : Int32} {l2 : Int32} {l3 : Int32} {h0 : Hp} {q : Int32 × Hp} (hf : f_X0_addGame l0 l1 l2 l3 h0 = some q) : ck h0 l0 0 = some () := by
  unfold f_X0_addGame at hf
  obtain ⟨u0, e0, hf⟩ := b_some hf
  exact e0
theorem dX0_addTeam_0 : decode cX0_addTeam 0 = .ok (.aload_n 0, 1) := by decide +kernel
theorem dX0_addTeam_1 : decode cX0_addTeam 1 = .ok (.getfield 33, 3) := by decide +kernel
theorem dX0_addTeam_4 : decode cX0_addTeam 4 = .ok (.bipush 6, 2) := by decide +kernel
theorem dX0_addTeam_6 : decode cX0_addTeam 6 = .ok (.if_icmp .lt 6, 3) := by decide +kernel
theorem dX0_addTeam_9 : decode cX0_addTeam 9 = .ok (.bipush (-4), 2) := by decide +kernel
theorem dX0_addTeam_11 : decode cX0_addTeam 11 = .ok (.ireturn, 1) := by decide +kernel
theorem dX0_addTeam_12 : decode cX0_addTeam 12 = .ok (.aload_n 0, 1) := by decide +kernel
theorem dX0_addTeam_13 : decode cX0_addTeam 13 = .ok (.getfield 15, 3) := by decide +kernel
theorem dX0_addTeam_16 : decode cX0_addTeam 16 = .ok (.aload_n 0, 1) := by decide +kernel
theorem dX0_addTeam_17 : decode cX0_addTeam 17 = .ok (.getfield 33, 3) := by decide +kernel
theorem dX0_addTeam_20 : decode cX0_addTeam 20 = .ok (.iload_n 3, 1) := by decide +kernel
theorem dX0_addTeam_21 : decode cX0_addTeam 21 = .ok (.iload_n 2, 1) := by decide +kernel
theorem dX0_addTeam_22 : decode cX0_addTeam 22 = .ok (.isub, 1) := by decide +kernel
theorem dX0_addTeam_23 : decode cX0_addTeam 23 = .ok (.iastore, 1) := by decide +kernel
theorem dX0_addTeam_24 : decode cX0_addTeam 24 = .ok (.iconst 0, 1) := by decide +kernel
theorem dX0_addTeam_25 : decode cX0_addTeam 25 = .ok (.istore 4, 2) := by decide +kernel
theorem dX0_addTeam_27 : decode cX0_addTeam 27 = .ok (.iload 4, 2) := by decide +kernel
theorem dX0_addTeam_29 : decode cX0_addTeam 29 = .ok (.aload_n 0, 1) := by decide +kernel
theorem dX0_addTeam_30 : decode cX0_addTeam 30 = .ok (.getfield 15, 3) := by decide +kernel
theorem dX0_addTeam_33 : decode cX0_addTeam 33 = .ok (.aload_n 0, 1) := by decide +kernel
theorem dX0_addTeam_34 : decode cX0_addTeam 34 = .ok (.getfield 33, 3) := by decide +kernel
theorem dX0_addTeam_37 : decode cX0_addTeam 37 = .ok (.iaload, 1) := by decide +kernel
theorem dX0_addTeam_38 : decode cX0_addTeam 38 = .ok (.if_icmp .ge 30, 3) := by decide +kernel
theorem dX0_addTeam_41 : decode cX0_addTeam 41 = .ok (.aload_n 0, 1) := by decide +kernel
theorem dX0_addTeam_42 : decode cX0_addTeam 42 = .ok (.getfield 18, 3) := by decide +kernel
theorem dX0_addTeam_45 : decode cX0_addTeam 45 = .ok (.aload_n 0, 1) := by decide +kernel
theorem dX0_addTeam_46 : decode cX0_addTeam 46 = .ok (.getfield 33, 3) := by decide +kernel
theorem dX0_addTeam_49 : decode cX0_addTeam 49 = .ok (.bipush 6, 2) := by decide +kernel
theorem dX0_addTeam_51 : decode cX0_addTeam 51 = .ok (.imul, 1) := by decide +kernel
theorem dX0_addTeam_52 : decode cX0_addTeam 52 = .ok (.iload 4, 2) := by decide +kernel
theorem dX0_addTeam_54 : decode cX0_addTeam 54 = .ok (.iadd, 1) := by decide +kernel
theorem dX0_addTeam_55 : decode cX0_addTeam 55 = .ok (.aload_n 1, 1) := by decide +kernel
theorem dX0_addTeam_56 : decode cX0_addTeam 56 = .ok (.iload_n 2, 1) := by decide +kernel
theorem dX0_addTeam_57 : decode cX0_addTeam 57 = .ok (.iload 4, 2) := by decide +kernel
theorem dX0_addTeam_59 : decode cX0_addTeam 59 = .ok (.iadd, 1) := by decide +kernel
theorem dX0_addTeam_60 : decode cX0_addTeam 60 = .ok (.iaload, 1) := by decide +kernel
theorem dX0_addTeam_61 : decode cX0_addTeam 61 = .ok (.iastore, 1) := by decide +kernel
theorem dX0_addTeam_62 : decode cX0_addTeam 62 = .ok (.iinc 4 1, 3) := by decide +kernel
theorem dX0_addTeam_65 : decode cX0_addTeam 65 = .ok (.goto (-38), 3) := by decide +kernel
theorem dX0_addTeam_68 : decode cX0_addTeam 68 = .ok (.aload_n 0, 1) := by decide +kernel
theorem dX0_addTeam_69 : decode cX0_addTeam 69 = .ok (.getfield 9, 3) := by decide +kernel
theorem dX0_addTeam_72 : decode cX0_addTeam 72 = .ok (.aload_n 0, 1) := by decide +kernel
theorem dX0_addTeam_73 : decode cX0_addTeam 73 = .ok (.getfield 33, 3) := by decide +kernel
theorem dX0_addTeam_76 : decode cX0_addTeam 76 = .ok (.iconst 0, 1) := by decide +kernel
theorem dX0_addTeam_77 : decode cX0_addTeam 77 = .ok (.iastore, 1) := by decide +kernel
theorem dX0_addTeam_78 : decode cX0_addTeam 78 = .ok (.aload_n 0, 1) := by decide +kernel
theorem dX0_addTeam_79 : decode cX0_addTeam 79 = .ok (.dup, 1) := by decide +kernel
theorem dX0_addTeam_80 : decode cX0_addTeam 80 = .ok (.getfield 33, 3) := by decide +kernel
theorem dX0_addTeam_83 : decode cX0_addTeam 83 = .ok (.iconst 1, 1) := by decide +kernel
theorem dX0_addTeam_84 : decode cX0_addTeam 84 = .ok (.iadd, 1) := by decide +kernel
theorem dX0_addTeam_85 : decode cX0_addTeam 85 = .ok (.putfield 33, 3) := by decide +kernel
theorem dX0_addTeam_88 : decode cX0_addTeam 88 = .ok (.aload_n 0, 1) := by decide +kernel
theorem dX0_addTeam_89 : decode cX0_addTeam 89 = .ok (.getfield 33, 3) := by decide +kernel
theorem dX0_addTeam_92 : decode cX0_addTeam 92 = .ok (.iconst 1, 1) := by decide +kernel
theorem dX0_addTeam_93 : decode cX0_addTeam 93 = .ok (.isub, 1) := by decide +kernel
theorem dX0_addTeam_94 : decode cX0_addTeam 94 = .ok (.ireturn, 1) := by decide +kernel
def f_X0_addTeam_27 (k27 : Nat × Nat × Int32 × Int32 → Hp → Option (Int32 × Hp)) (v : Nat × Nat × Int32 × Int32) (h0 : Hp) : Option (Int32 × Hp) :=
  match v with
  | (l0, l1, l2, l4) => (gR h0 l0 0 4).bind fun r1 => (gI h0 l0 0 0).bind fun x2 => (aL h0 r1 x2).bind fun x3 => if x3 ≤ l4 then ((gR h0 l0 0 3).bind fun r5 => (gI h0 l0 0 0).bind fun x6 => (aS h0 r5 x6 (0 : Int32)).bind fun h7 => (gI h7 l0 0 0).bind fun x8 => (pI h7 l0 0 0 (x8 + (1 : Int32))).bind fun h9 => (gI h9 l0 0 0).bind fun x10 => some ((x10 - (1 : Int32)), h9)) else ((gR h0 l0 0 5).bind fun r11 => (gI h0 l0 0 0).bind fun x12 => (aL h0 l1 (l2 + l4)).bind fun x13 => (aS h0 r11 ((x12 * (6 : Int32)) + l4) x13).bind fun h14 => (some (l4 + 1)).bind fun x15 => k27 (l0, l1, l2, x15) h14)
set_option maxRecDepth 100000 in
set_option maxHeartbeats 4000000 in
theorem c_X0_addTeam_27 {X : Cx} {adr : Nat → Nat} {q : Int32 × Hp} (hr : (mth X).sig.returnType = (some .int)) (n : Nat) : ∀ v h0, lp (f_X0_addTeam_27) n v h0 = some q → AW X cX0_addTeam 5 RX0 (rmd 1 0 0) (Qmet X 0 0 (Qe (some (.int q.1)) q.2 adr)) 0 0 adr h0 27 [(0, .ref v.1), (1, .ref v.2.1), (2, .int v.2.2.1), (4, .int v.2.2.2)] [] := by
  refine aw_lp (fun k27 hk27 v h0 hf => ?_) n
  obtain ⟨l0, l1, l2, l4⟩ := v
  show AW X cX0_addTeam 5 RX0 (rmd 1 0 0) (Qmet X 0 0 (Qe (some (.int q.1)) q.2 adr)) 0 0 adr h0 27 [(0, .ref l0), (1, .ref l1), (2, .int l2), (4, .int l4)] []
  refine aw_iload 3 dX0_addTeam_27 rfl ?_
  refine aw_aload_n 0 dX0_addTeam_29 rfl rfl ?_
  obtain ⟨r1, er1, hf⟩ := b_some hf
  refine aw_getR dX0_addTeam_30 gfX0_15 er1 ?_
  refine aw_aload_n 0 dX0_addTeam_33 rfl rfl ?_
  obtain ⟨x2, ex2, hf⟩ := b_some hf
  refine aw_getI dX0_addTeam_34 gfX0_33 ex2 ?_
  obtain ⟨x3, ex3, hf⟩ := b_some hf
  refine aw_iald dX0_addTeam_37 ex3 ?_
  refine aw_icmp_ge (tgt := 68) dX0_addTeam_38 (by decide) (fun c4 => ?_) (fun c4 => ?_)
  · have hf := i_pos c4 hf
    refine aw_aload_n 0 dX0_addTeam_68 rfl rfl ?_
    obtain ⟨r5, er5, hf⟩ := b_some hf
    refine aw_getR dX0_addTeam_69 gfX0_9 er5 ?_
    refine aw_aload_n 0 dX0_addTeam_72 rfl rfl ?_
    obtain ⟨x6, ex6, hf⟩ := b_some hf
    refine aw_getI dX0_addTeam_73 gfX0_33 ex6 ?_
    refine aw_iconst (v := 0) dX0_addTeam_76 (by decide) ?_
    obtain ⟨h7, eh7, hf⟩ := b_some hf
    refine aw_iast dX0_addTeam_77 eh7 ?_
    refine aw_aload_n 0 dX0_addTeam_78 rfl rfl ?_
    refine aw_dup dX0_addTeam_79 rfl ?_
    obtain ⟨x8, ex8, hf⟩ := b_some hf
    refine aw_getI dX0_addTeam_80 gfX0_33 ex8 ?_
    refine aw_iconst (v := 1) dX0_addTeam_83 (by decide) ?_
    refine aw_iadd dX0_addTeam_84 ?_
    obtain ⟨h9, eh9, hf⟩ := b_some hf
    refine aw_putI dX0_addTeam_85 pfX0_33 eh9 ?_
    refine aw_aload_n 0 dX0_addTeam_88 rfl rfl ?_
    obtain ⟨x10, ex10, hf⟩ := b_some hf
    refine aw_getI dX0_addTeam_89 gfX0_33 ex10 ?_
    refine aw_iconst (v := 1) dX0_addTeam_92 (by decide) ?_
    refine aw_isub dX0_addTeam_93 ?_
    cases hf
    exact aw_iret hr dX0_addTeam_94 ⟨rfl, rfl, rfl⟩
  · have hf := i_neg c4 hf
    refine aw_aload_n 0 dX0_addTeam_41 rfl rfl ?_
    obtain ⟨r11, er11, hf⟩ := b_some hf
    refine aw_getR dX0_addTeam_42 gfX0_18 er11 ?_
    refine aw_aload_n 0 dX0_addTeam_45 rfl rfl ?_
    obtain ⟨x12, ex12, hf⟩ := b_some hf
    refine aw_getI dX0_addTeam_46 gfX0_33 ex12 ?_
    refine aw_bipush (v := 6) dX0_addTeam_49 (by decide) ?_
    refine aw_imul dX0_addTeam_51 ?_
    refine aw_iload 3 dX0_addTeam_52 rfl ?_
    refine aw_iadd dX0_addTeam_54 ?_
    refine aw_aload_n 1 dX0_addTeam_55 rfl rfl ?_
    refine aw_iload_n 2 dX0_addTeam_56 rfl rfl ?_
    refine aw_iload 3 dX0_addTeam_57 rfl ?_
    refine aw_iadd dX0_addTeam_59 ?_
    obtain ⟨x13, ex13, hf⟩ := b_some hf
    refine aw_iald dX0_addTeam_60 ex13 ?_
    obtain ⟨h14, eh14, hf⟩ := b_some hf
    refine aw_iast dX0_addTeam_61 eh14 ?_
    obtain ⟨x15, ex15, hf⟩ := b_some hf
    refine aw_iinc (v := x15) (L' := [(4, .int x15), (0, .ref l0), (1, .ref l1), (2, .int l2)]) 3 dX0_addTeam_62 rfl (Option.some.inj ex15) (by decide) rfl ?_
    refine aw_goto (tgt := 27) dX0_addTeam_65 (by decide) ?_
    exact aw_sub [1, 2, 3, 0] rfl (hk27 _ _ hf)
def f_X0_addTeam (l0 : Nat) (l1 : Nat) (l2 : Int32) (l3 : Int32) (h0 : Hp) : Option (Int32 × Hp) :=
  (ck h0 l0 0).bind fun _ => (gI h0 l0 0 0).bind fun x1 => if x1 < (6 : Int32) then ((gR h0 l0 0 4).bind fun r3 => (gI h0 l0 0 0).bind fun x4 => (aS h0 r3 x4 (l3 - l2)).bind fun h5 => lp (f_X0_addTeam_27) 600 (l0, l1, l2, (0 : Int32)) h5) else (some ((-4 : Int32), h0))
set_option maxRecDepth 100000 in
set_option maxHeartbeats 4000000 in
theorem c_X0_addTeam {l0 : Nat} {l1 : Nat} {l2 : Int32} {l3 : Int32} {h0 : Hp} {q : Int32 × Hp} (hf : f_X0_addTeam l0 l1 l2 l3 h0 = some q) : Mt 1 yX0_addTeam cX0_addTeam 5 (some .int) [.ref l0, .ref l1, .int l2, .int l3] h0 (some (.int q.1)) q.2 := by
  refine MtQ.of (by decide) (Nat.le_of_ble_eq_true rfl) (fun X adr hr hn => ?_)
  unfold f_X0_addTeam at hf
  show AW X cX0_addTeam 5 RX0 (rmd 1 0 0) (Qmet X 0 0 (Qe (some (.int q.1)) q.2 adr)) 0 0 adr h0 0 [(0, .ref l0), (1, .ref l1), (2, .int l2), (3, .int l3)] []
  obtain ⟨u0, e0, hf⟩ := b_some hf
  refine aw_aload_n 0 dX0_addTeam_0 rfl rfl ?_
  obtain ⟨x1, ex1, hf⟩ := b_some hf
  refine aw_getI dX0_addTeam_1 gfX0_33 ex1 ?_
  refine aw_bipush (v := 6) dX0_addTeam_4 (by decide) ?_
  refine aw_icmp_lt (tgt := 12) dX0_addTeam_6 (by decide) (fun c2 => ?_) (fun c2 => ?_)
  · have hf := i_pos c2 hf
    refine aw_aload_n 0 dX0_addTeam_12 rfl rfl ?_
    obtain ⟨r3, er3, hf⟩ := b_some hf
    refine aw_getR dX0_addTeam_13 gfX0_15 er3 ?_
    refine aw_aload_n 0 dX0_addTeam_16 rfl rfl ?_
    obtain ⟨x4, ex4, hf⟩ := b_some hf
    refine aw_getI dX0_addTeam_17 gfX0_33 ex4 ?_
    refine aw_iload_n 3 dX0_addTeam_20 rfl rfl ?_
    refine aw_iload_n 2 dX0_addTeam_21 rfl rfl ?_
    refine aw_isub dX0_addTeam_22 ?_
    obtain ⟨h5, eh5, hf⟩ := b_some hf
    refine aw_iast dX0_addTeam_23 eh5 ?_
    refine aw_iconst (v := 0) dX0_addTeam_24 (by decide) ?_
    refine aw_istore (L' := [(4, .int (0 : Int32)), (0, .ref l0), (1, .ref l1), (2, .int l2), (3, .int l3)]) dX0_addTeam_25 (by decide) rfl ?_
    exact aw_sub [1, 2, 3, 0] rfl (c_X0_addTeam_27 hr 600 _ _ hf)
  · have hf := i_neg c2 hf
    refine aw_bipush (v := -4) dX0_addTeam_9 (by decide) ?_
    cases hf
    exact aw_iret hr dX0_addTeam_11 ⟨rfl, rfl, rfl⟩
theorem k_X0_addTeam {l0 : Nat} {l1 : Nat} {l2 : Int32} {l3 : Int32} {h0 : Hp} {q : Int32 × Hp} (hf : f_X0_addTeam l0 l1 l2 l3 h0 = some q) : ck h0 l0 0 = some () := by
  unfold f_X0_addTeam at hf
  obtain ⟨u0, e0, hf⟩ := b_some hf
  exact e0
theorem dX0_award_0 : decode cX0_award 0 = .ok (.iload_n 3, 1) := by decide +kernel
theorem dX0_award_1 : decode cX0_award 1 = .ok (.ifCond .ne 50, 3) := by decide +kernel
theorem dX0_award_4 : decode cX0_award 4 = .ok (.aload_n 1, 1) := by decide +kernel
theorem dX0_award_5 : decode cX0_award 5 = .ok (.aload_n 0, 1) := by decide +kernel
theorem dX0_award_6 : decode cX0_award 6 = .ok (.getfield 21, 3) := by decide +kernel
theorem dX0_award_9 : decode cX0_award 9 = .ok (.iload_n 2, 1) := by decide +kernel
theorem dX0_award_10 : decode cX0_award 10 = .ok (.iaload, 1) := by decide +kernel
theorem dX0_award_11 : decode cX0_award 11 = .ok (.dup2, 1) := by decide +kernel
theorem dX0_award_12 : decode cX0_award 12 = .ok (.iaload, 1) := by decide +kernel
theorem dX0_award_13 : decode cX0_award 13 = .ok (.getstatic 52, 3) := by decide +kernel
theorem dX0_award_16 : decode cX0_award 16 = .ok (.aload_n 0, 1) := by decide +kernel
theorem dX0_award_17 : decode cX0_award 17 = .ok (.getfield 40, 3) := by decide +kernel
theorem dX0_award_20 : decode cX0_award 20 = .ok (.iaload, 1) := by decide +kernel
theorem dX0_award_21 : decode cX0_award 21 = .ok (.iload 4, 2) := by decide +kernel
theorem dX0_award_23 : decode cX0_award 23 = .ok (.imul, 1) := by decide +kernel
theorem dX0_award_24 : decode cX0_award 24 = .ok (.iadd, 1) := by decide +kernel
theorem dX0_award_25 : decode cX0_award 25 = .ok (.iastore, 1) := by decide +kernel
theorem dX0_award_26 : decode cX0_award 26 = .ok (.aload_n 1, 1) := by decide +kernel
theorem dX0_award_27 : decode cX0_award 27 = .ok (.aload_n 0, 1) := by decide +kernel
theorem dX0_award_28 : decode cX0_award 28 = .ok (.getfield 24, 3) := by decide +kernel
theorem dX0_award_31 : decode cX0_award 31 = .ok (.iload_n 2, 1) := by decide +kernel
theorem dX0_award_32 : decode cX0_award 32 = .ok (.iaload, 1) := by decide +kernel
theorem dX0_award_33 : decode cX0_award 33 = .ok (.dup2, 1) := by decide +kernel
theorem dX0_award_34 : decode cX0_award 34 = .ok (.iaload, 1) := by decide +kernel
theorem dX0_award_35 : decode cX0_award 35 = .ok (.getstatic 52, 3) := by decide +kernel
theorem dX0_award_38 : decode cX0_award 38 = .ok (.aload_n 0, 1) := by decide +kernel
theorem dX0_award_39 : decode cX0_award 39 = .ok (.getfield 40, 3) := by decide +kernel
theorem dX0_award_42 : decode cX0_award 42 = .ok (.iaload, 1) := by decide +kernel
theorem dX0_award_43 : decode cX0_award 43 = .ok (.iload 4, 2) := by decide +kernel
theorem dX0_award_45 : decode cX0_award 45 = .ok (.imul, 1) := by decide +kernel
theorem dX0_award_46 : decode cX0_award 46 = .ok (.iadd, 1) := by decide +kernel
theorem dX0_award_47 : decode cX0_award 47 = .ok (.iastore, 1) := by decide +kernel
theorem dX0_award_48 : decode cX0_award 48 = .ok (.goto 39, 3) := by decide +kernel
theorem dX0_award_51 : decode cX0_award 51 = .ok (.aload_n 1, 1) := by decide +kernel
theorem dX0_award_52 : decode cX0_award 52 = .ok (.iload_n 3, 1) := by decide +kernel
theorem dX0_award_53 : decode cX0_award 53 = .ok (.iconst 1, 1) := by decide +kernel
theorem dX0_award_54 : decode cX0_award 54 = .ok (.if_icmp .ne 12, 3) := by decide +kernel
theorem dX0_award_57 : decode cX0_award 57 = .ok (.aload_n 0, 1) := by decide +kernel
theorem dX0_award_58 : decode cX0_award 58 = .ok (.getfield 21, 3) := by decide +kernel
theorem dX0_award_61 : decode cX0_award 61 = .ok (.iload_n 2, 1) := by decide +kernel
theorem dX0_award_62 : decode cX0_award 62 = .ok (.iaload, 1) := by decide +kernel
theorem dX0_award_63 : decode cX0_award 63 = .ok (.goto 9, 3) := by decide +kernel
theorem dX0_award_66 : decode cX0_award 66 = .ok (.aload_n 0, 1) := by decide +kernel
theorem dX0_award_67 : decode cX0_award 67 = .ok (.getfield 24, 3) := by decide +kernel
theorem dX0_award_70 : decode cX0_award 70 = .ok (.iload_n 2, 1) := by decide +kernel
theorem dX0_award_71 : decode cX0_award 71 = .ok (.iaload, 1) := by decide +kernel
theorem dX0_award_72 : decode cX0_award 72 = .ok (.dup2, 1) := by decide +kernel
theorem dX0_award_73 : decode cX0_award 73 = .ok (.iaload, 1) := by decide +kernel
theorem dX0_award_74 : decode cX0_award 74 = .ok (.getstatic 49, 3) := by decide +kernel
theorem dX0_award_77 : decode cX0_award 77 = .ok (.aload_n 0, 1) := by decide +kernel
theorem dX0_award_78 : decode cX0_award 78 = .ok (.getfield 40, 3) := by decide +kernel
theorem dX0_award_81 : decode cX0_award 81 = .ok (.iaload, 1) := by decide +kernel
theorem dX0_award_82 : decode cX0_award 82 = .ok (.iload 4, 2) := by decide +kernel
theorem dX0_award_84 : decode cX0_award 84 = .ok (.imul, 1) := by decide +kernel
theorem dX0_award_85 : decode cX0_award 85 = .ok (.iadd, 1) := by decide +kernel
theorem dX0_award_86 : decode cX0_award 86 = .ok (.iastore, 1) := by decide +kernel
theorem dX0_award_87 : decode cX0_award 87 = .ok (.return_, 1) := by decide +kernel
def f_X0_award_72 (l0 : Nat) (l4 : Int32) (s0 : Int32) (s1 : Nat) (h0 : Hp) : Option (Unit × Hp) :=
  (aL h0 s1 s0).bind fun x1 => (gI h0 l0 0 2).bind fun x2 => (sT 0 x2).bind fun x3 => (aS h0 s1 s0 (x1 + (x3 * l4))).bind fun h4 => some ((), h4)
set_option maxRecDepth 100000 in
set_option maxHeartbeats 4000000 in
theorem c_X0_award_72 {X : Cx} {adr : Nat → Nat} {q : Unit × Hp} (hr : (mth X).sig.returnType = none) {l0 : Nat} {l4 : Int32} {s0 : Int32} {s1 : Nat} {h0 : Hp} (hf : f_X0_award_72 l0 l4 s0 s1 h0 = some q) : AW X cX0_award 5 RX0 (rmd 1 0 0) (Qmet X 0 0 (Qe none q.2 adr)) 0 0 adr h0 72 [(0, .ref l0), (4, .int l4)] [.int s0, .ref s1] := by
  unfold f_X0_award_72 at hf
  refine aw_dup2 dX0_award_72 rfl rfl ?_
  obtain ⟨x1, ex1, hf⟩ := b_some hf
  refine aw_iald dX0_award_73 ex1 ?_
  refine aw_gets (q := 0) dX0_award_74 kfX0_49 rfl ?_
  refine aw_aload_n 0 dX0_award_77 rfl rfl ?_
  obtain ⟨x2, ex2, hf⟩ := b_some hf
  refine aw_getI dX0_award_78 gfX0_40 ex2 ?_
  obtain ⟨x3, ex3, hf⟩ := b_some hf
  refine aw_sald dX0_award_81 rfl ex3 ?_
  refine aw_iload 1 dX0_award_82 rfl ?_
  refine aw_imul dX0_award_84 ?_
  refine aw_iadd dX0_award_85 ?_
  obtain ⟨h4, eh4, hf⟩ := b_some hf
  refine aw_iast dX0_award_86 eh4 ?_
  cases hf
  exact aw_vret hr dX0_award_87 ⟨rfl, rfl, rfl⟩
def f_X0_award (l0 : Nat) (l1 : Nat) (l2 : Int32) (l3 : Int32) (l4 : Int32) (h0 : Hp) : Option (Unit × Hp) :=
  (ck h0 l0 0).bind fun _ => if l3 = 0 then ((gR h0 l0 0 6).bind fun r7 => (aL h0 r7 l2).bind fun x8 => (aL h0 l1 x8).bind fun x9 => (gI h0 l0 0 2).bind fun x10 => (sT 1 x10).bind fun x11 => (aS h0 l1 x8 (x9 + (x11 * l4))).bind fun h12 => (gR h12 l0 0 7).bind fun r13 => (aL h12 r13 l2).bind fun x14 => (aL h12 l1 x14).bind fun x15 => (gI h12 l0 0 2).bind fun x16 => (sT 1 x16).bind fun x17 => (aS h12 l1 x14 (x15 + (x17 * l4))).bind fun h18 => some ((), h18)) else (if l3 = (1 : Int32) then ((gR h0 l0 0 6).bind fun r5 => (aL h0 r5 l2).bind fun x6 => f_X0_award_72 l0 l4 x6 l1 h0) else ((gR h0 l0 0 7).bind fun r3 => (aL h0 r3 l2).bind fun x4 => f_X0_award_72 l0 l4 x4 l1 h0))
set_option maxRecDepth 100000 in
set_option maxHeartbeats 4000000 in
theorem c_X0_award {l0 : Nat} {l1 : Nat} {l2 : Int32} {l3 : Int32} {l4 : Int32} {h0 : Hp} {q : Unit × Hp} (hf : f_X0_award l0 l1 l2 l3 l4 h0 = some q) : Mt 1 yX0_award cX0_award 5 none [.ref l0, .ref l1, .int l2, .int l3, .int l4] h0 none q.2 := by
  refine MtQ.of (by decide) (Nat.le_of_ble_eq_true rfl) (fun X adr hr hn => ?_)
  unfold f_X0_award at hf
  show AW X cX0_award 5 RX0 (rmd 1 0 0) (Qmet X 0 0 (Qe none q.2 adr)) 0 0 adr h0 0 [(0, .ref l0), (1, .ref l1), (2, .int l2), (3, .int l3), (4, .int l4)] []
  obtain ⟨u0, e0, hf⟩ := b_some hf
  refine aw_iload_n 3 dX0_award_0 rfl rfl ?_
  refine aw_if_ne (tgt := 51) dX0_award_1 (by decide) (fun c1 => ?_) (fun c1 => ?_)
  · have hf := i_neg c1 hf
    refine aw_aload_n 1 dX0_award_51 rfl rfl ?_
    refine aw_iload_n 3 dX0_award_52 rfl rfl ?_
    refine aw_iconst (v := 1) dX0_award_53 (by decide) ?_
    refine aw_icmp_ne (tgt := 66) dX0_award_54 (by decide) (fun c2 => ?_) (fun c2 => ?_)
    · have hf := i_neg c2 hf
      refine aw_aload_n 0 dX0_award_66 rfl rfl ?_
      obtain ⟨r3, er3, hf⟩ := b_some hf
      refine aw_getR dX0_award_67 gfX0_24 er3 ?_
      refine aw_iload_n 2 dX0_award_70 rfl rfl ?_
      obtain ⟨x4, ex4, hf⟩ := b_some hf
      refine aw_iald dX0_award_71 ex4 ?_
      exact aw_sub [0, 4] rfl (c_X0_award_72 hr hf)
    · have hf := i_pos c2 hf
      refine aw_aload_n 0 dX0_award_57 rfl rfl ?_
      obtain ⟨r5, er5, hf⟩ := b_some hf
      refine aw_getR dX0_award_58 gfX0_21 er5 ?_
      refine aw_iload_n 2 dX0_award_61 rfl rfl ?_
      obtain ⟨x6, ex6, hf⟩ := b_some hf
      refine aw_iald dX0_award_62 ex6 ?_
      refine aw_goto (tgt := 72) dX0_award_63 (by decide) ?_
      exact aw_sub [0, 4] rfl (c_X0_award_72 hr hf)
  · have hf := i_pos c1 hf
    refine aw_aload_n 1 dX0_award_4 rfl rfl ?_
    refine aw_aload_n 0 dX0_award_5 rfl rfl ?_
    obtain ⟨r7, er7, hf⟩ := b_some hf
    refine aw_getR dX0_award_6 gfX0_21 er7 ?_
    refine aw_iload_n 2 dX0_award_9 rfl rfl ?_
    obtain ⟨x8, ex8, hf⟩ := b_some hf
    refine aw_iald dX0_award_10 ex8 ?_
    refine aw_dup2 dX0_award_11 rfl rfl ?_
    obtain ⟨x9, ex9, hf⟩ := b_some hf
    refine aw_iald dX0_award_12 ex9 ?_
    refine aw_gets (q := 1) dX0_award_13 kfX0_52 rfl ?_
    refine aw_aload_n 0 dX0_award_16 rfl rfl ?_
    obtain ⟨x10, ex10, hf⟩ := b_some hf
    refine aw_getI dX0_award_17 gfX0_40 ex10 ?_
    obtain ⟨x11, ex11, hf⟩ := b_some hf
    refine aw_sald dX0_award_20 rfl ex11 ?_
    refine aw_iload 4 dX0_award_21 rfl ?_
    refine aw_imul dX0_award_23 ?_
    refine aw_iadd dX0_award_24 ?_
    obtain ⟨h12, eh12, hf⟩ := b_some hf
    refine aw_iast dX0_award_25 eh12 ?_
    refine aw_aload_n 1 dX0_award_26 rfl rfl ?_
    refine aw_aload_n 0 dX0_award_27 rfl rfl ?_
    obtain ⟨r13, er13, hf⟩ := b_some hf
    refine aw_getR dX0_award_28 gfX0_24 er13 ?_
    refine aw_iload_n 2 dX0_award_31 rfl rfl ?_
    obtain ⟨x14, ex14, hf⟩ := b_some hf
    refine aw_iald dX0_award_32 ex14 ?_
    refine aw_dup2 dX0_award_33 rfl rfl ?_
    obtain ⟨x15, ex15, hf⟩ := b_some hf
    refine aw_iald dX0_award_34 ex15 ?_
    refine aw_gets (q := 1) dX0_award_35 kfX0_52 rfl ?_
    refine aw_aload_n 0 dX0_award_38 rfl rfl ?_
    obtain ⟨x16, ex16, hf⟩ := b_some hf
    refine aw_getI dX0_award_39 gfX0_40 ex16 ?_
    obtain ⟨x17, ex17, hf⟩ := b_some hf
    refine aw_sald dX0_award_42 rfl ex17 ?_
    refine aw_iload 4 dX0_award_43 rfl ?_
    refine aw_imul dX0_award_45 ?_
    refine aw_iadd dX0_award_46 ?_
    obtain ⟨h18, eh18, hf⟩ := b_some hf
    refine aw_iast dX0_award_47 eh18 ?_
    refine aw_goto (tgt := 87) dX0_award_48 (by decide) ?_
    cases hf
    exact aw_vret hr dX0_award_87 ⟨rfl, rfl, rfl⟩
theorem k_X0_award {l0 : Nat} {l1 : Nat} {l2 : Int32} {l3 : Int32} {l4 : Int32} {h0 : Hp} {q : Unit × Hp} (hf : f_X0_award l0 l1 l2 l3 l4 h0 = some q) : ck h0 l0 0 = some () := by
  unfold f_X0_award at hf
  obtain ⟨u0, e0, hf⟩ := b_some hf
  exact e0
theorem dX0_drawBrings_0 : decode cX0_drawBrings 0 = .ok (.getstatic 52, 3) := by decide +kernel
theorem dX0_drawBrings_3 : decode cX0_drawBrings 3 = .ok (.aload_n 0, 1) := by decide +kernel
theorem dX0_drawBrings_4 : decode cX0_drawBrings 4 = .ok (.getfield 40, 3) := by decide +kernel
theorem dX0_drawBrings_7 : decode cX0_drawBrings 7 = .ok (.iaload, 1) := by decide +kernel
theorem dX0_drawBrings_8 : decode cX0_drawBrings 8 = .ok (.ireturn, 1) := by decide +kernel
def f_X0_drawBrings (l0 : Nat) (h0 : Hp) : Option (Int32 × Hp) :=
  (ck h0 l0 0).bind fun _ => (gI h0 l0 0 2).bind fun x1 => (sT 1 x1).bind fun x2 => some (x2, h0)
set_option maxRecDepth 100000 in
set_option maxHeartbeats 4000000 in
theorem c_X0_drawBrings {l0 : Nat} {h0 : Hp} {q : Int32 × Hp} (hf : f_X0_drawBrings l0 h0 = some q) : Mt 1 yX0_drawBrings cX0_drawBrings 1 (some .int) [.ref l0] h0 (some (.int q.1)) q.2 := by
  refine MtQ.of (by decide) (Nat.le_of_ble_eq_true rfl) (fun X adr hr hn => ?_)
  unfold f_X0_drawBrings at hf
  show AW X cX0_drawBrings 1 RX0 (rmd 1 0 0) (Qmet X 0 0 (Qe (some (.int q.1)) q.2 adr)) 0 0 adr h0 0 [(0, .ref l0)] []
  obtain ⟨u0, e0, hf⟩ := b_some hf
  refine aw_gets (q := 1) dX0_drawBrings_0 kfX0_52 rfl ?_
  refine aw_aload_n 0 dX0_drawBrings_3 rfl rfl ?_
  obtain ⟨x1, ex1, hf⟩ := b_some hf
  refine aw_getI dX0_drawBrings_4 gfX0_40 ex1 ?_
  obtain ⟨x2, ex2, hf⟩ := b_some hf
  refine aw_sald dX0_drawBrings_7 rfl ex2 ?_
  cases hf
  exact aw_iret hr dX0_drawBrings_8 ⟨rfl, rfl, rfl⟩
theorem k_X0_drawBrings {l0 : Nat} {h0 : Hp} {q : Int32 × Hp} (hf : f_X0_drawBrings l0 h0 = some q) : ck h0 l0 0 = some () := by
  unfold f_X0_drawBrings at hf
  obtain ⟨u0, e0, hf⟩ := b_some hf
  exact e0
theorem dX0_drop_0 : decode cX0_drop 0 = .ok (.iload_n 1, 1) := by decide +kernel
theorem dX0_drop_1 : decode cX0_drop 1 = .ok (.istore_n 2, 1) := by decide +kernel
theorem dX0_drop_2 : decode cX0_drop 2 = .ok (.iload_n 2, 1) := by decide +kernel
theorem dX0_drop_3 : decode cX0_drop 3 = .ok (.aload_n 0, 1) := by decide +kernel
theorem dX0_drop_4 : decode cX0_drop 4 = .ok (.getfield 37, 3) := by decide +kernel
theorem dX0_drop_7 : decode cX0_drop 7 = .ok (.iconst 1, 1) := by decide +kernel
theorem dX0_drop_8 : decode cX0_drop 8 = .ok (.isub, 1) := by decide +kernel
theorem dX0_drop_9 : decode cX0_drop 9 = .ok (.if_icmp .ge 65, 3) := by decide +kernel
theorem dX0_drop_12 : decode cX0_drop 12 = .ok (.aload_n 0, 1) := by decide +kernel
theorem dX0_drop_13 : decode cX0_drop 13 = .ok (.getfield 21, 3) := by decide +kernel
theorem dX0_drop_16 : decode cX0_drop 16 = .ok (.iload_n 2, 1) := by decide +kernel
theorem dX0_drop_17 : decode cX0_drop 17 = .ok (.aload_n 0, 1) := by decide +kernel
theorem dX0_drop_18 : decode cX0_drop 18 = .ok (.getfield 21, 3) := by decide +kernel
theorem dX0_drop_21 : decode cX0_drop 21 = .ok (.iload_n 2, 1) := by decide +kernel
theorem dX0_drop_22 : decode cX0_drop 22 = .ok (.iconst 1, 1) := by decide +kernel
theorem dX0_drop_23 : decode cX0_drop 23 = .ok (.iadd, 1) := by decide +kernel
theorem dX0_drop_24 : decode cX0_drop 24 = .ok (.iaload, 1) := by decide +kernel
theorem dX0_drop_25 : decode cX0_drop 25 = .ok (.iastore, 1) := by decide +kernel
theorem dX0_drop_26 : decode cX0_drop 26 = .ok (.aload_n 0, 1) := by decide +kernel
theorem dX0_drop_27 : decode cX0_drop 27 = .ok (.getfield 24, 3) := by decide +kernel
theorem dX0_drop_30 : decode cX0_drop 30 = .ok (.iload_n 2, 1) := by decide +kernel
theorem dX0_drop_31 : decode cX0_drop 31 = .ok (.aload_n 0, 1) := by decide +kernel
theorem dX0_drop_32 : decode cX0_drop 32 = .ok (.getfield 24, 3) := by decide +kernel
theorem dX0_drop_35 : decode cX0_drop 35 = .ok (.iload_n 2, 1) := by decide +kernel
theorem dX0_drop_36 : decode cX0_drop 36 = .ok (.iconst 1, 1) := by decide +kernel
theorem dX0_drop_37 : decode cX0_drop 37 = .ok (.iadd, 1) := by decide +kernel
theorem dX0_drop_38 : decode cX0_drop 38 = .ok (.iaload, 1) := by decide +kernel
theorem dX0_drop_39 : decode cX0_drop 39 = .ok (.iastore, 1) := by decide +kernel
theorem dX0_drop_40 : decode cX0_drop 40 = .ok (.aload_n 0, 1) := by decide +kernel
theorem dX0_drop_41 : decode cX0_drop 41 = .ok (.getfield 27, 3) := by decide +kernel
theorem dX0_drop_44 : decode cX0_drop 44 = .ok (.iload_n 2, 1) := by decide +kernel
theorem dX0_drop_45 : decode cX0_drop 45 = .ok (.aload_n 0, 1) := by decide +kernel
theorem dX0_drop_46 : decode cX0_drop 46 = .ok (.getfield 27, 3) := by decide +kernel
theorem dX0_drop_49 : decode cX0_drop 49 = .ok (.iload_n 2, 1) := by decide +kernel
theorem dX0_drop_50 : decode cX0_drop 50 = .ok (.iconst 1, 1) := by decide +kernel
theorem dX0_drop_51 : decode cX0_drop 51 = .ok (.iadd, 1) := by decide +kernel
theorem dX0_drop_52 : decode cX0_drop 52 = .ok (.iaload, 1) := by decide +kernel
theorem dX0_drop_53 : decode cX0_drop 53 = .ok (.iastore, 1) := by decide +kernel
theorem dX0_drop_54 : decode cX0_drop 54 = .ok (.aload_n 0, 1) := by decide +kernel
theorem dX0_drop_55 : decode cX0_drop 55 = .ok (.getfield 30, 3) := by decide +kernel
theorem dX0_drop_58 : decode cX0_drop 58 = .ok (.iload_n 2, 1) := by decide +kernel
theorem dX0_drop_59 : decode cX0_drop 59 = .ok (.aload_n 0, 1) := by decide +kernel
theorem dX0_drop_60 : decode cX0_drop 60 = .ok (.getfield 30, 3) := by decide +kernel
theorem dX0_drop_63 : decode cX0_drop 63 = .ok (.iload_n 2, 1) := by decide +kernel
theorem dX0_drop_64 : decode cX0_drop 64 = .ok (.iconst 1, 1) := by decide +kernel
theorem dX0_drop_65 : decode cX0_drop 65 = .ok (.iadd, 1) := by decide +kernel
theorem dX0_drop_66 : decode cX0_drop 66 = .ok (.iaload, 1) := by decide +kernel
theorem dX0_drop_67 : decode cX0_drop 67 = .ok (.iastore, 1) := by decide +kernel
theorem dX0_drop_68 : decode cX0_drop 68 = .ok (.iinc 2 1, 3) := by decide +kernel
theorem dX0_drop_71 : decode cX0_drop 71 = .ok (.goto (-69), 3) := by decide +kernel
theorem dX0_drop_74 : decode cX0_drop 74 = .ok (.aload_n 0, 1) := by decide +kernel
theorem dX0_drop_75 : decode cX0_drop 75 = .ok (.dup, 1) := by decide +kernel
theorem dX0_drop_76 : decode cX0_drop 76 = .ok (.getfield 37, 3) := by decide +kernel
theorem dX0_drop_79 : decode cX0_drop 79 = .ok (.iconst 1, 1) := by decide +kernel
theorem dX0_drop_80 : decode cX0_drop 80 = .ok (.isub, 1) := by decide +kernel
theorem dX0_drop_81 : decode cX0_drop 81 = .ok (.putfield 37, 3) := by decide +kernel
theorem dX0_drop_84 : decode cX0_drop 84 = .ok (.return_, 1) := by decide +kernel
def f_X0_drop_2 (k2 : Nat × Int32 → Hp → Option (Unit × Hp)) (v : Nat × Int32) (h0 : Hp) : Option (Unit × Hp) :=
  match v with
  | (l0, l2) => (gI h0 l0 0 1).bind fun x1 => if (x1 - (1 : Int32)) ≤ l2 then ((gI h0 l0 0 1).bind fun x3 => (pI h0 l0 0 1 (x3 - (1 : Int32))).bind fun h4 => some ((), h4)) else ((gR h0 l0 0 6).bind fun r5 => (gR h0 l0 0 6).bind fun r6 => (aL h0 r6 (l2 + (1 : Int32))).bind fun x7 => (aS h0 r5 l2 x7).bind fun h8 => (gR h8 l0 0 7).bind fun r9 => (gR h8 l0 0 7).bind fun r10 => (aL h8 r10 (l2 + (1 : Int32))).bind fun x11 => (aS h8 r9 l2 x11).bind fun h12 => (gR h12 l0 0 8).bind fun r13 => (gR h12 l0 0 8).bind fun r14 => (aL h12 r14 (l2 + (1 : Int32))).bind fun x15 => (aS h12 r13 l2 x15).bind fun h16 => (gR h16 l0 0 9).bind fun r17 => (gR h16 l0 0 9).bind fun r18 => (aL h16 r18 (l2 + (1 : Int32))).bind fun x19 => (aS h16 r17 l2 x19).bind fun h20 => (some (l2 + 1)).bind fun x21 => k2 (l0, x21) h20)
set_option maxRecDepth 100000 in
set_option maxHeartbeats 4000000 in
theorem c_X0_drop_2 {X : Cx} {adr : Nat → Nat} {q : Unit × Hp} (hr : (mth X).sig.returnType = none) (n : Nat) : ∀ v h0, lp (f_X0_drop_2) n v h0 = some q → AW X cX0_drop 3 RX0 (rmd 1 0 0) (Qmet X 0 0 (Qe none q.2 adr)) 0 0 adr h0 2 [(0, .ref v.1), (2, .int v.2)] [] := by
  refine aw_lp (fun k2 hk2 v h0 hf => ?_) n
  obtain ⟨l0, l2⟩ := v
  show AW X cX0_drop 3 RX0 (rmd 1 0 0) (Qmet X 0 0 (Qe none q.2 adr)) 0 0 adr h0 2 [(0, .ref l0), (2, .int l2)] []
  refine aw_iload_n 1 dX0_drop_2 rfl rfl ?_
  refine aw_aload_n 0 dX0_drop_3 rfl rfl ?_
  obtain ⟨x1, ex1, hf⟩ := b_some hf
  refine aw_getI dX0_drop_4 gfX0_37 ex1 ?_
  refine aw_iconst (v := 1) dX0_drop_7 (by decide) ?_
  refine aw_isub dX0_drop_8 ?_
  refine aw_icmp_ge (tgt := 74) dX0_drop_9 (by decide) (fun c2 => ?_) (fun c2 => ?_)
  · have hf := i_pos c2 hf
    refine aw_aload_n 0 dX0_drop_74 rfl rfl ?_
    refine aw_dup dX0_drop_75 rfl ?_
    obtain ⟨x3, ex3, hf⟩ := b_some hf
    refine aw_getI dX0_drop_76 gfX0_37 ex3 ?_
    refine aw_iconst (v := 1) dX0_drop_79 (by decide) ?_
    refine aw_isub dX0_drop_80 ?_
    obtain ⟨h4, eh4, hf⟩ := b_some hf
    refine aw_putI dX0_drop_81 pfX0_37 eh4 ?_
    cases hf
    exact aw_vret hr dX0_drop_84 ⟨rfl, rfl, rfl⟩
  · have hf := i_neg c2 hf
    refine aw_aload_n 0 dX0_drop_12 rfl rfl ?_
    obtain ⟨r5, er5, hf⟩ := b_some hf
    refine aw_getR dX0_drop_13 gfX0_21 er5 ?_
    refine aw_iload_n 1 dX0_drop_16 rfl rfl ?_
    refine aw_aload_n 0 dX0_drop_17 rfl rfl ?_
    obtain ⟨r6, er6, hf⟩ := b_some hf
    refine aw_getR dX0_drop_18 gfX0_21 er6 ?_
    refine aw_iload_n 1 dX0_drop_21 rfl rfl ?_
    refine aw_iconst (v := 1) dX0_drop_22 (by decide) ?_
    refine aw_iadd dX0_drop_23 ?_
    obtain ⟨x7, ex7, hf⟩ := b_some hf
    refine aw_iald dX0_drop_24 ex7 ?_
    obtain ⟨h8, eh8, hf⟩ := b_some hf
    refine aw_iast dX0_drop_25 eh8 ?_
    refine aw_aload_n 0 dX0_drop_26 rfl rfl ?_
    obtain ⟨r9, er9, hf⟩ := b_some hf
    refine aw_getR dX0_drop_27 gfX0_24 er9 ?_
    refine aw_iload_n 1 dX0_drop_30 rfl rfl ?_
    refine aw_aload_n 0 dX0_drop_31 rfl rfl ?_
    obtain ⟨r10, er10, hf⟩ := b_some hf
    refine aw_getR dX0_drop_32 gfX0_24 er10 ?_
    refine aw_iload_n 1 dX0_drop_35 rfl rfl ?_
    refine aw_iconst (v := 1) dX0_drop_36 (by decide) ?_
    refine aw_iadd dX0_drop_37 ?_
    obtain ⟨x11, ex11, hf⟩ := b_some hf
    refine aw_iald dX0_drop_38 ex11 ?_
    obtain ⟨h12, eh12, hf⟩ := b_some hf
    refine aw_iast dX0_drop_39 eh12 ?_
    refine aw_aload_n 0 dX0_drop_40 rfl rfl ?_
    obtain ⟨r13, er13, hf⟩ := b_some hf
    refine aw_getR dX0_drop_41 gfX0_27 er13 ?_
    refine aw_iload_n 1 dX0_drop_44 rfl rfl ?_
    refine aw_aload_n 0 dX0_drop_45 rfl rfl ?_
    obtain ⟨r14, er14, hf⟩ := b_some hf
    refine aw_getR dX0_drop_46 gfX0_27 er14 ?_
    refine aw_iload_n 1 dX0_drop_49 rfl rfl ?_
    refine aw_iconst (v := 1) dX0_drop_50 (by decide) ?_
    refine aw_iadd dX0_drop_51 ?_
    obtain ⟨x15, ex15, hf⟩ := b_some hf
    refine aw_iald dX0_drop_52 ex15 ?_
    obtain ⟨h16, eh16, hf⟩ := b_some hf
    refine aw_iast dX0_drop_53 eh16 ?_
    refine aw_aload_n 0 dX0_drop_54 rfl rfl ?_
    obtain ⟨r17, er17, hf⟩ := b_some hf
    refine aw_getR dX0_drop_55 gfX0_30 er17 ?_
    refine aw_iload_n 1 dX0_drop_58 rfl rfl ?_
    refine aw_aload_n 0 dX0_drop_59 rfl rfl ?_
    obtain ⟨r18, er18, hf⟩ := b_some hf
    refine aw_getR dX0_drop_60 gfX0_30 er18 ?_
    refine aw_iload_n 1 dX0_drop_63 rfl rfl ?_
    refine aw_iconst (v := 1) dX0_drop_64 (by decide) ?_
    refine aw_iadd dX0_drop_65 ?_
    obtain ⟨x19, ex19, hf⟩ := b_some hf
    refine aw_iald dX0_drop_66 ex19 ?_
    obtain ⟨h20, eh20, hf⟩ := b_some hf
    refine aw_iast dX0_drop_67 eh20 ?_
    obtain ⟨x21, ex21, hf⟩ := b_some hf
    refine aw_iinc (v := x21) (L' := [(2, .int x21), (0, .ref l0)]) 1 dX0_drop_68 rfl (Option.some.inj ex21) (by decide) rfl ?_
    refine aw_goto (tgt := 2) dX0_drop_71 (by decide) ?_
    exact aw_sub [1, 0] rfl (hk2 _ _ hf)
def f_X0_drop (l0 : Nat) (l1 : Int32) (h0 : Hp) : Option (Unit × Hp) :=
  (ck h0 l0 0).bind fun _ => lp (f_X0_drop_2) 600 (l0, l1) h0
set_option maxRecDepth 100000 in
set_option maxHeartbeats 4000000 in
theorem c_X0_drop {l0 : Nat} {l1 : Int32} {h0 : Hp} {q : Unit × Hp} (hf : f_X0_drop l0 l1 h0 = some q) : Mt 1 yX0_drop cX0_drop 3 none [.ref l0, .int l1] h0 none q.2 := by
  refine MtQ.of (by decide) (Nat.le_of_ble_eq_true rfl) (fun X adr hr hn => ?_)
  unfold f_X0_drop at hf
  show AW X cX0_drop 3 RX0 (rmd 1 0 0) (Qmet X 0 0 (Qe none q.2 adr)) 0 0 adr h0 0 [(0, .ref l0), (1, .int l1)] []
  obtain ⟨u0, e0, hf⟩ := b_some hf
  refine aw_iload_n 1 dX0_drop_0 rfl rfl ?_
  refine aw_istore_n (L' := [(2, .int l1), (0, .ref l0), (1, .int l1)]) dX0_drop_1 rfl (by decide) rfl ?_
  exact aw_sub [1, 0] rfl (c_X0_drop_2 hr 600 _ _ hf)
theorem k_X0_drop {l0 : Nat} {l1 : Int32} {h0 : Hp} {q : Unit × Hp} (hf : f_X0_drop l0 l1 h0 = some q) : ck h0 l0 0 = some () := by
  unfold f_X0_drop at hf
  obtain ⟨u0, e0, hf⟩ := b_some hf
  exact e0
theorem dX0_firstResult_0 : decode cX0_firstResult 0 = .ok (.getstatic 58, 3) := by decide +kernel
theorem dX0_firstResult_3 : decode cX0_firstResult 3 = .ok (.aload_n 0, 1) := by decide +kernel
theorem dX0_firstResult_4 : decode cX0_firstResult 4 = .ok (.getfield 40, 3) := by decide +kernel
theorem dX0_firstResult_7 : decode cX0_firstResult 7 = .ok (.iaload, 1) := by decide +kernel
theorem dX0_firstResult_8 : decode cX0_firstResult 8 = .ok (.ireturn, 1) := by decide +kernel
def f_X0_firstResult (l0 : Nat) (h0 : Hp) : Option (Int32 × Hp) :=
  (ck h0 l0 0).bind fun _ => (gI h0 l0 0 2).bind fun x1 => (sT 3 x1).bind fun x2 => some (x2, h0)
set_option maxRecDepth 100000 in
set_option maxHeartbeats 4000000 in
theorem c_X0_firstResult {l0 : Nat} {h0 : Hp} {q : Int32 × Hp} (hf : f_X0_firstResult l0 h0 = some q) : Mt 1 yX0_firstResult cX0_firstResult 1 (some .int) [.ref l0] h0 (some (.int q.1)) q.2 := by
  refine MtQ.of (by decide) (Nat.le_of_ble_eq_true rfl) (fun X adr hr hn => ?_)
  unfold f_X0_firstResult at hf
  show AW X cX0_firstResult 1 RX0 (rmd 1 0 0) (Qmet X 0 0 (Qe (some (.int q.1)) q.2 adr)) 0 0 adr h0 0 [(0, .ref l0)] []
  obtain ⟨u0, e0, hf⟩ := b_some hf
  refine aw_gets (q := 3) dX0_firstResult_0 kfX0_58 rfl ?_
  refine aw_aload_n 0 dX0_firstResult_3 rfl rfl ?_
  obtain ⟨x1, ex1, hf⟩ := b_some hf
  refine aw_getI dX0_firstResult_4 gfX0_40 ex1 ?_
  obtain ⟨x2, ex2, hf⟩ := b_some hf
  refine aw_sald dX0_firstResult_7 rfl ex2 ?_
  cases hf
  exact aw_iret hr dX0_firstResult_8 ⟨rfl, rfl, rfl⟩
theorem k_X0_firstResult {l0 : Nat} {h0 : Hp} {q : Int32 × Hp} (hf : f_X0_firstResult l0 h0 = some q) : ck h0 l0 0 = some () := by
  unfold f_X0_firstResult at hf
  obtain ⟨u0, e0, hf⟩ := b_some hf
  exact e0
theorem dX0_foe_0 : decode cX0_foe 0 = .ok (.aload_n 0, 1) := by decide +kernel
theorem dX0_foe_1 : decode cX0_foe 1 = .ok (.getfield 21, 3) := by decide +kernel
theorem dX0_foe_4 : decode cX0_foe 4 = .ok (.iload_n 1, 1) := by decide +kernel
theorem dX0_foe_5 : decode cX0_foe 5 = .ok (.iaload, 1) := by decide +kernel
theorem dX0_foe_6 : decode cX0_foe 6 = .ok (.iload_n 2, 1) := by decide +kernel
theorem dX0_foe_7 : decode cX0_foe 7 = .ok (.if_icmp .ne 10, 3) := by decide +kernel
theorem dX0_foe_10 : decode cX0_foe 10 = .ok (.aload_n 0, 1) := by decide +kernel
theorem dX0_foe_11 : decode cX0_foe 11 = .ok (.getfield 24, 3) := by decide +kernel
theorem dX0_foe_14 : decode cX0_foe 14 = .ok (.iload_n 1, 1) := by decide +kernel
theorem dX0_foe_15 : decode cX0_foe 15 = .ok (.iaload, 1) := by decide +kernel
theorem dX0_foe_16 : decode cX0_foe 16 = .ok (.ireturn, 1) := by decide +kernel
theorem dX0_foe_17 : decode cX0_foe 17 = .ok (.aload_n 0, 1) := by decide +kernel
theorem dX0_foe_18 : decode cX0_foe 18 = .ok (.getfield 24, 3) := by decide +kernel
theorem dX0_foe_21 : decode cX0_foe 21 = .ok (.iload_n 1, 1) := by decide +kernel
theorem dX0_foe_22 : decode cX0_foe 22 = .ok (.iaload, 1) := by decide +kernel
theorem dX0_foe_23 : decode cX0_foe 23 = .ok (.iload_n 2, 1) := by decide +kernel
theorem dX0_foe_24 : decode cX0_foe 24 = .ok (.if_icmp .ne 12, 3) := by decide +kernel
theorem dX0_foe_27 : decode cX0_foe 27 = .ok (.aload_n 0, 1) := by decide +kernel
theorem dX0_foe_28 : decode cX0_foe 28 = .ok (.getfield 21, 3) := by decide +kernel
theorem dX0_foe_31 : decode cX0_foe 31 = .ok (.iload_n 1, 1) := by decide +kernel
theorem dX0_foe_32 : decode cX0_foe 32 = .ok (.iaload, 1) := by decide +kernel
theorem dX0_foe_33 : decode cX0_foe 33 = .ok (.goto 4, 3) := by decide +kernel
theorem dX0_foe_36 : decode cX0_foe 36 = .ok (.iconst (-1), 1) := by decide +kernel
theorem dX0_foe_37 : decode cX0_foe 37 = .ok (.ireturn, 1) := by decide +kernel
def f_X0_foe (l0 : Nat) (l1 : Int32) (l2 : Int32) (h0 : Hp) : Option (Int32 × Hp) :=
  (ck h0 l0 0).bind fun _ => (gR h0 l0 0 6).bind fun r1 => (aL h0 r1 l1).bind fun x2 => if x2 = l2 then ((gR h0 l0 0 7).bind fun r9 => (aL h0 r9 l1).bind fun x10 => some (x10, h0)) else ((gR h0 l0 0 7).bind fun r4 => (aL h0 r4 l1).bind fun x5 => if x5 = l2 then ((gR h0 l0 0 6).bind fun r7 => (aL h0 r7 l1).bind fun x8 => some (x8, h0)) else (some ((-1 : Int32), h0)))
set_option maxRecDepth 100000 in
set_option maxHeartbeats 4000000 in
theorem c_X0_foe {l0 : Nat} {l1 : Int32} {l2 : Int32} {h0 : Hp} {q : Int32 × Hp} (hf : f_X0_foe l0 l1 l2 h0 = some q) : Mt 1 yX0_foe cX0_foe 3 (some .int) [.ref l0, .int l1, .int l2] h0 (some (.int q.1)) q.2 := by
  refine MtQ.of (by decide) (Nat.le_of_ble_eq_true rfl) (fun X adr hr hn => ?_)
  unfold f_X0_foe at hf
  show AW X cX0_foe 3 RX0 (rmd 1 0 0) (Qmet X 0 0 (Qe (some (.int q.1)) q.2 adr)) 0 0 adr h0 0 [(0, .ref l0), (1, .int l1), (2, .int l2)] []
  obtain ⟨u0, e0, hf⟩ := b_some hf
  refine aw_aload_n 0 dX0_foe_0 rfl rfl ?_
  obtain ⟨r1, er1, hf⟩ := b_some hf
  refine aw_getR dX0_foe_1 gfX0_21 er1 ?_
  refine aw_iload_n 1 dX0_foe_4 rfl rfl ?_
  obtain ⟨x2, ex2, hf⟩ := b_some hf
  refine aw_iald dX0_foe_5 ex2 ?_
  refine aw_iload_n 2 dX0_foe_6 rfl rfl ?_
  refine aw_icmp_ne (tgt := 17) dX0_foe_7 (by decide) (fun c3 => ?_) (fun c3 => ?_)
  · have hf := i_neg c3 hf
    refine aw_aload_n 0 dX0_foe_17 rfl rfl ?_
    obtain ⟨r4, er4, hf⟩ := b_some hf
    refine aw_getR dX0_foe_18 gfX0_24 er4 ?_
    refine aw_iload_n 1 dX0_foe_21 rfl rfl ?_
    obtain ⟨x5, ex5, hf⟩ := b_some hf
    refine aw_iald dX0_foe_22 ex5 ?_
    refine aw_iload_n 2 dX0_foe_23 rfl rfl ?_
    refine aw_icmp_ne (tgt := 36) dX0_foe_24 (by decide) (fun c6 => ?_) (fun c6 => ?_)
    · have hf := i_neg c6 hf
      refine aw_iconst (v := -1) dX0_foe_36 (by decide) ?_
      cases hf
      exact aw_iret hr dX0_foe_37 ⟨rfl, rfl, rfl⟩
    · have hf := i_pos c6 hf
      refine aw_aload_n 0 dX0_foe_27 rfl rfl ?_
      obtain ⟨r7, er7, hf⟩ := b_some hf
      refine aw_getR dX0_foe_28 gfX0_21 er7 ?_
      refine aw_iload_n 1 dX0_foe_31 rfl rfl ?_
      obtain ⟨x8, ex8, hf⟩ := b_some hf
      refine aw_iald dX0_foe_32 ex8 ?_
      refine aw_goto (tgt := 37) dX0_foe_33 (by decide) ?_
      cases hf
      exact aw_iret hr dX0_foe_37 ⟨rfl, rfl, rfl⟩
  · have hf := i_pos c3 hf
    refine aw_aload_n 0 dX0_foe_10 rfl rfl ?_
    obtain ⟨r9, er9, hf⟩ := b_some hf
    refine aw_getR dX0_foe_11 gfX0_24 er9 ?_
    refine aw_iload_n 1 dX0_foe_14 rfl rfl ?_
    obtain ⟨x10, ex10, hf⟩ := b_some hf
    refine aw_iald dX0_foe_15 ex10 ?_
    cases hf
    exact aw_iret hr dX0_foe_16 ⟨rfl, rfl, rfl⟩
theorem k_X0_foe {l0 : Nat} {l1 : Int32} {l2 : Int32} {h0 : Hp} {q : Int32 × Hp} (hf : f_X0_foe l0 l1 l2 h0 = some q) : ck h0 l0 0 = some () := by
  unfold f_X0_foe at hf
  obtain ⟨u0, e0, hf⟩ := b_some hf
  exact e0
theorem dX0_forget_0 : decode cX0_forget 0 = .ok (.iconst 0, 1) := by decide +kernel
theorem dX0_forget_1 : decode cX0_forget 1 = .ok (.istore_n 2, 1) := by decide +kernel
theorem dX0_forget_2 : decode cX0_forget 2 = .ok (.iload_n 2, 1) := by decide +kernel
theorem dX0_forget_3 : decode cX0_forget 3 = .ok (.aload_n 0, 1) := by decide +kernel
theorem dX0_forget_4 : decode cX0_forget 4 = .ok (.getfield 37, 3) := by decide +kernel
theorem dX0_forget_7 : decode cX0_forget 7 = .ok (.if_icmp .ge 26, 3) := by decide +kernel
theorem dX0_forget_10 : decode cX0_forget 10 = .ok (.aload_n 0, 1) := by decide +kernel
theorem dX0_forget_11 : decode cX0_forget 11 = .ok (.getfield 27, 3) := by decide +kernel
theorem dX0_forget_14 : decode cX0_forget 14 = .ok (.iload_n 2, 1) := by decide +kernel
theorem dX0_forget_15 : decode cX0_forget 15 = .ok (.iaload, 1) := by decide +kernel
theorem dX0_forget_16 : decode cX0_forget 16 = .ok (.iload_n 1, 1) := by decide +kernel
theorem dX0_forget_17 : decode cX0_forget 17 = .ok (.if_icmp .le 10, 3) := by decide +kernel
theorem dX0_forget_20 : decode cX0_forget 20 = .ok (.aload_n 0, 1) := by decide +kernel
theorem dX0_forget_21 : decode cX0_forget 21 = .ok (.getfield 30, 3) := by decide +kernel
theorem dX0_forget_24 : decode cX0_forget 24 = .ok (.iload_n 2, 1) := by decide +kernel
theorem dX0_forget_25 : decode cX0_forget 25 = .ok (.iconst (-1), 1) := by decide +kernel
theorem dX0_forget_26 : decode cX0_forget 26 = .ok (.iastore, 1) := by decide +kernel
theorem dX0_forget_27 : decode cX0_forget 27 = .ok (.iinc 2 1, 3) := by decide +kernel
theorem dX0_forget_30 : decode cX0_forget 30 = .ok (.goto (-28), 3) := by decide +kernel
theorem dX0_forget_33 : decode cX0_forget 33 = .ok (.return_, 1) := by decide +kernel
def f_X0_forget_2 (k2 : Nat × Int32 × Int32 → Hp → Option (Unit × Hp)) (v : Nat × Int32 × Int32) (h0 : Hp) : Option (Unit × Hp) :=
  match v with
  | (l0, l1, l2) => (gI h0 l0 0 1).bind fun x1 => if x1 ≤ l2 then (some ((), h0)) else ((gR h0 l0 0 8).bind fun r3 => (aL h0 r3 l2).bind fun x4 => if x4 ≤ l1 then ((some (l2 + 1)).bind fun x6 => k2 (l0, l1, x6) h0) else ((gR h0 l0 0 9).bind fun r7 => (aS h0 r7 l2 (-1 : Int32)).bind fun h8 => (some (l2 + 1)).bind fun x9 => k2 (l0, l1, x9) h8))
set_option maxRecDepth 100000 in
set_option maxHeartbeats 4000000 in
theorem c_X0_forget_2 {X : Cx} {adr : Nat → Nat} {q : Unit × Hp} (hr : (mth X).sig.returnType = none) (n : Nat) : ∀ v h0, lp (f_X0_forget_2) n v h0 = some q → AW X cX0_forget 3 RX0 (rmd 1 0 0) (Qmet X 0 0 (Qe none q.2 adr)) 0 0 adr h0 2 [(0, .ref v.1), (1, .int v.2.1), (2, .int v.2.2)] [] := by
  refine aw_lp (fun k2 hk2 v h0 hf => ?_) n
  obtain ⟨l0, l1, l2⟩ := v
  show AW X cX0_forget 3 RX0 (rmd 1 0 0) (Qmet X 0 0 (Qe none q.2 adr)) 0 0 adr h0 2 [(0, .ref l0), (1, .int l1), (2, .int l2)] []
  refine aw_iload_n 2 dX0_forget_2 rfl rfl ?_
  refine aw_aload_n 0 dX0_forget_3 rfl rfl ?_
  obtain ⟨x1, ex1, hf⟩ := b_some hf
  refine aw_getI dX0_forget_4 gfX0_37 ex1 ?_
  refine aw_icmp_ge (tgt := 33) dX0_forget_7 (by decide) (fun c2 => ?_) (fun c2 => ?_)
  · have hf := i_pos c2 hf
    cases hf
    exact aw_vret hr dX0_forget_33 ⟨rfl, rfl, rfl⟩
  · have hf := i_neg c2 hf
    refine aw_aload_n 0 dX0_forget_10 rfl rfl ?_
    obtain ⟨r3, er3, hf⟩ := b_some hf
    refine aw_getR dX0_forget_11 gfX0_27 er3 ?_
    refine aw_iload_n 2 dX0_forget_14 rfl rfl ?_
    obtain ⟨x4, ex4, hf⟩ := b_some hf
    refine aw_iald dX0_forget_15 ex4 ?_
    refine aw_iload_n 1 dX0_forget_16 rfl rfl ?_
    refine aw_icmp_le (tgt := 27) dX0_forget_17 (by decide) (fun c5 => ?_) (fun c5 => ?_)
    · have hf := i_pos c5 hf
      obtain ⟨x6, ex6, hf⟩ := b_some hf
      refine aw_iinc (v := x6) (L' := [(2, .int x6), (0, .ref l0), (1, .int l1)]) 2 dX0_forget_27 rfl (Option.some.inj ex6) (by decide) rfl ?_
      refine aw_goto (tgt := 2) dX0_forget_30 (by decide) ?_
      exact aw_sub [1, 2, 0] rfl (hk2 _ _ hf)
    · have hf := i_neg c5 hf
      refine aw_aload_n 0 dX0_forget_20 rfl rfl ?_
      obtain ⟨r7, er7, hf⟩ := b_some hf
      refine aw_getR dX0_forget_21 gfX0_30 er7 ?_
      refine aw_iload_n 2 dX0_forget_24 rfl rfl ?_
      refine aw_iconst (v := -1) dX0_forget_25 (by decide) ?_
      obtain ⟨h8, eh8, hf⟩ := b_some hf
      refine aw_iast dX0_forget_26 eh8 ?_
      obtain ⟨x9, ex9, hf⟩ := b_some hf
      refine aw_iinc (v := x9) (L' := [(2, .int x9), (0, .ref l0), (1, .int l1)]) 2 dX0_forget_27 rfl (Option.some.inj ex9) (by decide) rfl ?_
      refine aw_goto (tgt := 2) dX0_forget_30 (by decide) ?_
      exact aw_sub [1, 2, 0] rfl (hk2 _ _ hf)
def f_X0_forget (l0 : Nat) (l1 : Int32) (h0 : Hp) : Option (Unit × Hp) :=
  (ck h0 l0 0).bind fun _ => lp (f_X0_forget_2) 600 (l0, l1, (0 : Int32)) h0
set_option maxRecDepth 100000 in
set_option maxHeartbeats 4000000 in
theorem c_X0_forget {l0 : Nat} {l1 : Int32} {h0 : Hp} {q : Unit × Hp} (hf : f_X0_forget l0 l1 h0 = some q) : Mt 1 yX0_forget cX0_forget 3 none [.ref l0, .int l1] h0 none q.2 := by
  refine MtQ.of (by decide) (Nat.le_of_ble_eq_true rfl) (fun X adr hr hn => ?_)
  unfold f_X0_forget at hf
  show AW X cX0_forget 3 RX0 (rmd 1 0 0) (Qmet X 0 0 (Qe none q.2 adr)) 0 0 adr h0 0 [(0, .ref l0), (1, .int l1)] []
  obtain ⟨u0, e0, hf⟩ := b_some hf
  refine aw_iconst (v := 0) dX0_forget_0 (by decide) ?_
  refine aw_istore_n (L' := [(2, .int (0 : Int32)), (0, .ref l0), (1, .int l1)]) dX0_forget_1 rfl (by decide) rfl ?_
  exact aw_sub [1, 2, 0] rfl (c_X0_forget_2 hr 600 _ _ hf)
theorem k_X0_forget {l0 : Nat} {l1 : Int32} {h0 : Hp} {q : Unit × Hp} (hf : f_X0_forget l0 l1 h0 = some q) : ck h0 l0 0 = some () := by
  unfold f_X0_forget at hf
  obtain ⟨u0, e0, hf⟩ := b_some hf
  exact e0
theorem dX0_hasGame_0 : decode cX0_hasGame 0 = .ok (.iload_n 1, 1) := by decide +kernel
theorem dX0_hasGame_1 : decode cX0_hasGame 1 = .ok (.ifCond .lt 15, 3) := by decide +kernel
theorem dX0_hasGame_4 : decode cX0_hasGame 4 = .ok (.iload_n 1, 1) := by decide +kernel
theorem dX0_hasGame_5 : decode cX0_hasGame 5 = .ok (.aload_n 0, 1) := by decide +kernel
theorem dX0_hasGame_6 : decode cX0_hasGame 6 = .ok (.getfield 37, 3) := by decide +kernel
theorem dX0_hasGame_9 : decode cX0_hasGame 9 = .ok (.if_icmp .ge 7, 3) := by decide +kernel
theorem dX0_hasGame_12 : decode cX0_hasGame 12 = .ok (.iconst 1, 1) := by decide +kernel
theorem dX0_hasGame_13 : decode cX0_hasGame 13 = .ok (.goto 4, 3) := by decide +kernel
theorem dX0_hasGame_16 : decode cX0_hasGame 16 = .ok (.iconst 0, 1) := by decide +kernel
theorem dX0_hasGame_17 : decode cX0_hasGame 17 = .ok (.ireturn, 1) := by decide +kernel
def f_X0_hasGame (l0 : Nat) (l1 : Int32) (h0 : Hp) : Option (Int32 × Hp) :=
  (ck h0 l0 0).bind fun _ => if l1 < 0 then (some ((0 : Int32), h0)) else ((gI h0 l0 0 1).bind fun x2 => if x2 ≤ l1 then (some ((0 : Int32), h0)) else (some ((1 : Int32), h0)))
set_option maxRecDepth 100000 in
set_option maxHeartbeats 4000000 in
theorem c_X0_hasGame {l0 : Nat} {l1 : Int32} {h0 : Hp} {q : Int32 × Hp} (hf : f_X0_hasGame l0 l1 h0 = some q) : Mt 1 yX0_hasGame cX0_hasGame 2 (some .boolean) [.ref l0, .int l1] h0 (some (.int q.1)) q.2 := by
  refine MtQ.of (by decide) (Nat.le_of_ble_eq_true rfl) (fun X adr hr hn => ?_)
  unfold f_X0_hasGame at hf
  show AW X cX0_hasGame 2 RX0 (rmd 1 0 0) (Qmet X 0 0 (Qe (some (.int q.1)) q.2 adr)) 0 0 adr h0 0 [(0, .ref l0), (1, .int l1)] []
  obtain ⟨u0, e0, hf⟩ := b_some hf
  refine aw_iload_n 1 dX0_hasGame_0 rfl rfl ?_
  refine aw_if_lt (tgt := 16) dX0_hasGame_1 (by decide) (fun c1 => ?_) (fun c1 => ?_)
  · have hf := i_pos c1 hf
    refine aw_iconst (v := 0) dX0_hasGame_16 (by decide) ?_
    cases hf
    exact aw_zret hr (by decide) dX0_hasGame_17 ⟨rfl, rfl, rfl⟩
  · have hf := i_neg c1 hf
    refine aw_iload_n 1 dX0_hasGame_4 rfl rfl ?_
    refine aw_aload_n 0 dX0_hasGame_5 rfl rfl ?_
    obtain ⟨x2, ex2, hf⟩ := b_some hf
    refine aw_getI dX0_hasGame_6 gfX0_37 ex2 ?_
    refine aw_icmp_ge (tgt := 16) dX0_hasGame_9 (by decide) (fun c3 => ?_) (fun c3 => ?_)
    · have hf := i_pos c3 hf
      refine aw_iconst (v := 0) dX0_hasGame_16 (by decide) ?_
      cases hf
      exact aw_zret hr (by decide) dX0_hasGame_17 ⟨rfl, rfl, rfl⟩
    · have hf := i_neg c3 hf
      refine aw_iconst (v := 1) dX0_hasGame_12 (by decide) ?_
      refine aw_goto (tgt := 17) dX0_hasGame_13 (by decide) ?_
      cases hf
      exact aw_zret hr (by decide) dX0_hasGame_17 ⟨rfl, rfl, rfl⟩
theorem k_X0_hasGame {l0 : Nat} {l1 : Int32} {h0 : Hp} {q : Int32 × Hp} (hf : f_X0_hasGame l0 l1 h0 = some q) : ck h0 l0 0 = some () := by
  unfold f_X0_hasGame at hf
  obtain ⟨u0, e0, hf⟩ := b_some hf
  exact e0
theorem dX0_isLeft_0 : decode cX0_isLeft 0 = .ok (.aload_n 0, 1) := by decide +kernel
theorem dX0_isLeft_1 : decode cX0_isLeft 1 = .ok (.getfield 30, 3) := by decide +kernel
theorem dX0_isLeft_4 : decode cX0_isLeft 4 = .ok (.iload_n 1, 1) := by decide +kernel
theorem dX0_isLeft_5 : decode cX0_isLeft 5 = .ok (.iaload, 1) := by decide +kernel
theorem dX0_isLeft_6 : decode cX0_isLeft 6 = .ok (.iconst (-1), 1) := by decide +kernel
theorem dX0_isLeft_7 : decode cX0_isLeft 7 = .ok (.if_icmp .ne 7, 3) := by decide +kernel
theorem dX0_isLeft_10 : decode cX0_isLeft 10 = .ok (.iconst 1, 1) := by decide +kernel
theorem dX0_isLeft_11 : decode cX0_isLeft 11 = .ok (.goto 4, 3) := by decide +kernel
theorem dX0_isLeft_14 : decode cX0_isLeft 14 = .ok (.iconst 0, 1) := by decide +kernel
theorem dX0_isLeft_15 : decode cX0_isLeft 15 = .ok (.ireturn, 1) := by decide +kernel
def f_X0_isLeft (l0 : Nat) (l1 : Int32) (h0 : Hp) : Option (Int32 × Hp) :=
  (ck h0 l0 0).bind fun _ => (gR h0 l0 0 9).bind fun r1 => (aL h0 r1 l1).bind fun x2 => if x2 = (-1 : Int32) then (some ((1 : Int32), h0)) else (some ((0 : Int32), h0))
set_option maxRecDepth 100000 in
set_option maxHeartbeats 4000000 in
theorem c_X0_isLeft {l0 : Nat} {l1 : Int32} {h0 : Hp} {q : Int32 × Hp} (hf : f_X0_isLeft l0 l1 h0 = some q) : Mt 1 yX0_isLeft cX0_isLeft 2 (some .boolean) [.ref l0, .int l1] h0 (some (.int q.1)) q.2 := by
  refine MtQ.of (by decide) (Nat.le_of_ble_eq_true rfl) (fun X adr hr hn => ?_)
  unfold f_X0_isLeft at hf
  show AW X cX0_isLeft 2 RX0 (rmd 1 0 0) (Qmet X 0 0 (Qe (some (.int q.1)) q.2 adr)) 0 0 adr h0 0 [(0, .ref l0), (1, .int l1)] []
  obtain ⟨u0, e0, hf⟩ := b_some hf
  refine aw_aload_n 0 dX0_isLeft_0 rfl rfl ?_
  obtain ⟨r1, er1, hf⟩ := b_some hf
  refine aw_getR dX0_isLeft_1 gfX0_30 er1 ?_
  refine aw_iload_n 1 dX0_isLeft_4 rfl rfl ?_
  obtain ⟨x2, ex2, hf⟩ := b_some hf
  refine aw_iald dX0_isLeft_5 ex2 ?_
  refine aw_iconst (v := -1) dX0_isLeft_6 (by decide) ?_
  refine aw_icmp_ne (tgt := 14) dX0_isLeft_7 (by decide) (fun c3 => ?_) (fun c3 => ?_)
  · have hf := i_neg c3 hf
    refine aw_iconst (v := 0) dX0_isLeft_14 (by decide) ?_
    cases hf
    exact aw_zret hr (by decide) dX0_isLeft_15 ⟨rfl, rfl, rfl⟩
  · have hf := i_pos c3 hf
    refine aw_iconst (v := 1) dX0_isLeft_10 (by decide) ?_
    refine aw_goto (tgt := 15) dX0_isLeft_11 (by decide) ?_
    cases hf
    exact aw_zret hr (by decide) dX0_isLeft_15 ⟨rfl, rfl, rfl⟩
theorem k_X0_isLeft {l0 : Nat} {l1 : Int32} {h0 : Hp} {q : Int32 × Hp} (hf : f_X0_isLeft l0 l1 h0 = some q) : ck h0 l0 0 = some () := by
  unfold f_X0_isLeft at hf
  obtain ⟨u0, e0, hf⟩ := b_some hf
  exact e0
theorem dX0_isNamed_0 : decode cX0_isNamed 0 = .ok (.aload_n 0, 1) := by decide +kernel
theorem dX0_isNamed_1 : decode cX0_isNamed 1 = .ok (.getfield 15, 3) := by decide +kernel
theorem dX0_isNamed_4 : decode cX0_isNamed 4 = .ok (.iload_n 1, 1) := by decide +kernel
theorem dX0_isNamed_5 : decode cX0_isNamed 5 = .ok (.iaload, 1) := by decide +kernel
theorem dX0_isNamed_6 : decode cX0_isNamed 6 = .ok (.iload 4, 2) := by decide +kernel
theorem dX0_isNamed_8 : decode cX0_isNamed 8 = .ok (.iload_n 3, 1) := by decide +kernel
theorem dX0_isNamed_9 : decode cX0_isNamed 9 = .ok (.isub, 1) := by decide +kernel
theorem dX0_isNamed_10 : decode cX0_isNamed 10 = .ok (.if_icmp .eq 5, 3) := by decide +kernel
theorem dX0_isNamed_13 : decode cX0_isNamed 13 = .ok (.iconst 0, 1) := by decide +kernel
theorem dX0_isNamed_14 : decode cX0_isNamed 14 = .ok (.ireturn, 1) := by decide +kernel
theorem dX0_isNamed_15 : decode cX0_isNamed 15 = .ok (.iconst 0, 1) := by decide +kernel
theorem dX0_isNamed_16 : decode cX0_isNamed 16 = .ok (.istore 5, 2) := by decide +kernel
theorem dX0_isNamed_18 : decode cX0_isNamed 18 = .ok (.iload 5, 2) := by decide +kernel
theorem dX0_isNamed_20 : decode cX0_isNamed 20 = .ok (.aload_n 0, 1) := by decide +kernel
theorem dX0_isNamed_21 : decode cX0_isNamed 21 = .ok (.getfield 15, 3) := by decide +kernel
theorem dX0_isNamed_24 : decode cX0_isNamed 24 = .ok (.iload_n 1, 1) := by decide +kernel
theorem dX0_isNamed_25 : decode cX0_isNamed 25 = .ok (.iaload, 1) := by decide +kernel
theorem dX0_isNamed_26 : decode cX0_isNamed 26 = .ok (.if_icmp .ge 32, 3) := by decide +kernel
theorem dX0_isNamed_29 : decode cX0_isNamed 29 = .ok (.aload_n 0, 1) := by decide +kernel
theorem dX0_isNamed_30 : decode cX0_isNamed 30 = .ok (.getfield 18, 3) := by decide +kernel
theorem dX0_isNamed_33 : decode cX0_isNamed 33 = .ok (.iload_n 1, 1) := by decide +kernel
theorem dX0_isNamed_34 : decode cX0_isNamed 34 = .ok (.bipush 6, 2) := by decide +kernel
theorem dX0_isNamed_36 : decode cX0_isNamed 36 = .ok (.imul, 1) := by decide +kernel
theorem dX0_isNamed_37 : decode cX0_isNamed 37 = .ok (.iload 5, 2) := by decide +kernel
theorem dX0_isNamed_39 : decode cX0_isNamed 39 = .ok (.iadd, 1) := by decide +kernel
theorem dX0_isNamed_40 : decode cX0_isNamed 40 = .ok (.iaload, 1) := by decide +kernel
theorem dX0_isNamed_41 : decode cX0_isNamed 41 = .ok (.aload_n 2, 1) := by decide +kernel
theorem dX0_isNamed_42 : decode cX0_isNamed 42 = .ok (.iload_n 3, 1) := by decide +kernel
theorem dX0_isNamed_43 : decode cX0_isNamed 43 = .ok (.iload 5, 2) := by decide +kernel
theorem dX0_isNamed_45 : decode cX0_isNamed 45 = .ok (.iadd, 1) := by decide +kernel
theorem dX0_isNamed_46 : decode cX0_isNamed 46 = .ok (.iaload, 1) := by decide +kernel
theorem dX0_isNamed_47 : decode cX0_isNamed 47 = .ok (.if_icmp .eq 5, 3) := by decide +kernel
theorem dX0_isNamed_50 : decode cX0_isNamed 50 = .ok (.iconst 0, 1) := by decide +kernel
theorem dX0_isNamed_51 : decode cX0_isNamed 51 = .ok (.ireturn, 1) := by decide +kernel
theorem dX0_isNamed_52 : decode cX0_isNamed 52 = .ok (.iinc 5 1, 3) := by decide +kernel
theorem dX0_isNamed_55 : decode cX0_isNamed 55 = .ok (.goto (-37), 3) := by decide +kernel
theorem dX0_isNamed_58 : decode cX0_isNamed 58 = .ok (.iconst 1, 1) := by decide +kernel
theorem dX0_isNamed_59 : decode cX0_isNamed 59 = .ok (.ireturn, 1) := by decide +kernel
def f_X0_isNamed_18 (k18 : Nat × Int32 × Nat × Int32 × Int32 → Hp → Option (Int32 × Hp)) (v : Nat × Int32 × Nat × Int32 × Int32) (h0 : Hp) : Option (Int32 × Hp) :=
  match v with
  | (l0, l1, l2, l3, l5) => (gR h0 l0 0 4).bind fun r1 => (aL h0 r1 l1).bind fun x2 => if x2 ≤ l5 then (some ((1 : Int32), h0)) else ((gR h0 l0 0 5).bind fun r4 => (aL h0 r4 ((l1 * (6 : Int32)) + l5)).bind fun x5 => (aL h0 l2 (l3 + l5)).bind fun x6 => if x5 = x6 then ((some (l5 + 1)).bind fun x8 => k18 (l0, l1, l2, l3, x8) h0) else (some ((0 : Int32), h0)))
set_option maxRecDepth 100000 in
set_option maxHeartbeats 4000000 in
theorem c_X0_isNamed_18 {X : Cx} {adr : Nat → Nat} {q : Int32 × Hp} (hr : (mth X).sig.returnType = (some .boolean)) (n : Nat) : ∀ v h0, lp (f_X0_isNamed_18) n v h0 = some q → AW X cX0_isNamed 6 RX0 (rmd 1 0 0) (Qmet X 0 0 (Qe (some (.int q.1)) q.2 adr)) 0 0 adr h0 18 [(0, .ref v.1), (1, .int v.2.1), (2, .ref v.2.2.1), (3, .int v.2.2.2.1), (5, .int v.2.2.2.2)] [] := by
  refine aw_lp (fun k18 hk18 v h0 hf => ?_) n
  obtain ⟨l0, l1, l2, l3, l5⟩ := v
  show AW X cX0_isNamed 6 RX0 (rmd 1 0 0) (Qmet X 0 0 (Qe (some (.int q.1)) q.2 adr)) 0 0 adr h0 18 [(0, .ref l0), (1, .int l1), (2, .ref l2), (3, .int l3), (5, .int l5)] []
  refine aw_iload 4 dX0_isNamed_18 rfl ?_
  refine aw_aload_n 0 dX0_isNamed_20 rfl rfl ?_
  obtain ⟨r1, er1, hf⟩ := b_some hf
  refine aw_getR dX0_isNamed_21 gfX0_15 er1 ?_
  refine aw_iload_n 1 dX0_isNamed_24 rfl rfl ?_
  obtain ⟨x2, ex2, hf⟩ := b_some hf
  refine aw_iald dX0_isNamed_25 ex2 ?_
  refine aw_icmp_ge (tgt := 58) dX0_isNamed_26 (by decide) (fun c3 => ?_) (fun c3 => ?_)
  · have hf := i_pos c3 hf
    refine aw_iconst (v := 1) dX0_isNamed_58 (by decide) ?_
    cases hf
    exact aw_zret hr (by decide) dX0_isNamed_59 ⟨rfl, rfl, rfl⟩
  · have hf := i_neg c3 hf
    refine aw_aload_n 0 dX0_isNamed_29 rfl rfl ?_
    obtain ⟨r4, er4, hf⟩ := b_some hf
    refine aw_getR dX0_isNamed_30 gfX0_18 er4 ?_
    refine aw_iload_n 1 dX0_isNamed_33 rfl rfl ?_
    refine aw_bipush (v := 6) dX0_isNamed_34 (by decide) ?_
    refine aw_imul dX0_isNamed_36 ?_
    refine aw_iload 4 dX0_isNamed_37 rfl ?_
    refine aw_iadd dX0_isNamed_39 ?_
    obtain ⟨x5, ex5, hf⟩ := b_some hf
    refine aw_iald dX0_isNamed_40 ex5 ?_
    refine aw_aload_n 2 dX0_isNamed_41 rfl rfl ?_
    refine aw_iload_n 3 dX0_isNamed_42 rfl rfl ?_
    refine aw_iload 4 dX0_isNamed_43 rfl ?_
    refine aw_iadd dX0_isNamed_45 ?_
    obtain ⟨x6, ex6, hf⟩ := b_some hf
    refine aw_iald dX0_isNamed_46 ex6 ?_
    refine aw_icmp_eq (tgt := 52) dX0_isNamed_47 (by decide) (fun c7 => ?_) (fun c7 => ?_)
    · have hf := i_pos c7 hf
      obtain ⟨x8, ex8, hf⟩ := b_some hf
      refine aw_iinc (v := x8) (L' := [(5, .int x8), (0, .ref l0), (1, .int l1), (2, .ref l2), (3, .int l3)]) 4 dX0_isNamed_52 rfl (Option.some.inj ex8) (by decide) rfl ?_
      refine aw_goto (tgt := 18) dX0_isNamed_55 (by decide) ?_
      exact aw_sub [1, 2, 3, 4, 0] rfl (hk18 _ _ hf)
    · have hf := i_neg c7 hf
      refine aw_iconst (v := 0) dX0_isNamed_50 (by decide) ?_
      cases hf
      exact aw_zret hr (by decide) dX0_isNamed_51 ⟨rfl, rfl, rfl⟩
def f_X0_isNamed (l0 : Nat) (l1 : Int32) (l2 : Nat) (l3 : Int32) (l4 : Int32) (h0 : Hp) : Option (Int32 × Hp) :=
  (ck h0 l0 0).bind fun _ => (gR h0 l0 0 4).bind fun r1 => (aL h0 r1 l1).bind fun x2 => if x2 = (l4 - l3) then (lp (f_X0_isNamed_18) 600 (l0, l1, l2, l3, (0 : Int32)) h0) else (some ((0 : Int32), h0))
set_option maxRecDepth 100000 in
set_option maxHeartbeats 4000000 in
theorem c_X0_isNamed {l0 : Nat} {l1 : Int32} {l2 : Nat} {l3 : Int32} {l4 : Int32} {h0 : Hp} {q : Int32 × Hp} (hf : f_X0_isNamed l0 l1 l2 l3 l4 h0 = some q) : Mt 1 yX0_isNamed cX0_isNamed 6 (some .boolean) [.ref l0, .int l1, .ref l2, .int l3, .int l4] h0 (some (.int q.1)) q.2 := by
  refine MtQ.of (by decide) (Nat.le_of_ble_eq_true rfl) (fun X adr hr hn => ?_)
  unfold f_X0_isNamed at hf
  show AW X cX0_isNamed 6 RX0 (rmd 1 0 0) (Qmet X 0 0 (Qe (some (.int q.1)) q.2 adr)) 0 0 adr h0 0 [(0, .ref l0), (1, .int l1), (2, .ref l2), (3, .int l3), (4, .int l4)] []
  obtain ⟨u0, e0, hf⟩ := b_some hf
  refine aw_aload_n 0 dX0_isNamed_0 rfl rfl ?_
  obtain ⟨r1, er1, hf⟩ := b_some hf
  refine aw_getR dX0_isNamed_1 gfX0_15 er1 ?_
  refine aw_iload_n 1 dX0_isNamed_4 rfl rfl ?_
  obtain ⟨x2, ex2, hf⟩ := b_some hf
  refine aw_iald dX0_isNamed_5 ex2 ?_
  refine aw_iload 4 dX0_isNamed_6 rfl ?_
  refine aw_iload_n 3 dX0_isNamed_8 rfl rfl ?_
  refine aw_isub dX0_isNamed_9 ?_
  refine aw_icmp_eq (tgt := 15) dX0_isNamed_10 (by decide) (fun c3 => ?_) (fun c3 => ?_)
  · have hf := i_pos c3 hf
    refine aw_iconst (v := 0) dX0_isNamed_15 (by decide) ?_
    refine aw_istore (L' := [(5, .int (0 : Int32)), (0, .ref l0), (1, .int l1), (2, .ref l2), (3, .int l3), (4, .int l4)]) dX0_isNamed_16 (by decide) rfl ?_
    exact aw_sub [1, 2, 3, 4, 0] rfl (c_X0_isNamed_18 hr 600 _ _ hf)
  · have hf := i_neg c3 hf
    refine aw_iconst (v := 0) dX0_isNamed_13 (by decide) ?_
    cases hf
    exact aw_zret hr (by decide) dX0_isNamed_14 ⟨rfl, rfl, rfl⟩
theorem k_X0_isNamed {l0 : Nat} {l1 : Int32} {l2 : Nat} {l3 : Int32} {l4 : Int32} {h0 : Hp} {q : Int32 × Hp} (hf : f_X0_isNamed l0 l1 l2 l3 l4 h0 = some q) : ck h0 l0 0 = some () := by
  unfold f_X0_isNamed at hf
  obtain ⟨u0, e0, hf⟩ := b_some hf
  exact e0
theorem dX0_leastGiven_0 : decode cX0_leastGiven 0 = .ok (.getstatic 55, 3) := by decide +kernel
theorem dX0_leastGiven_3 : decode cX0_leastGiven 3 = .ok (.aload_n 0, 1) := by decide +kernel
theorem dX0_leastGiven_4 : decode cX0_leastGiven 4 = .ok (.getfield 40, 3) := by decide +kernel
theorem dX0_leastGiven_7 : decode cX0_leastGiven 7 = .ok (.iaload, 1) := by decide +kernel
theorem dX0_leastGiven_8 : decode cX0_leastGiven 8 = .ok (.ireturn, 1) := by decide +kernel
def f_X0_leastGiven (l0 : Nat) (h0 : Hp) : Option (Int32 × Hp) :=
  (ck h0 l0 0).bind fun _ => (gI h0 l0 0 2).bind fun x1 => (sT 2 x1).bind fun x2 => some (x2, h0)
set_option maxRecDepth 100000 in
set_option maxHeartbeats 4000000 in
theorem c_X0_leastGiven {l0 : Nat} {h0 : Hp} {q : Int32 × Hp} (hf : f_X0_leastGiven l0 h0 = some q) : Mt 1 yX0_leastGiven cX0_leastGiven 1 (some .int) [.ref l0] h0 (some (.int q.1)) q.2 := by
  refine MtQ.of (by decide) (Nat.le_of_ble_eq_true rfl) (fun X adr hr hn => ?_)
  unfold f_X0_leastGiven at hf
  show AW X cX0_leastGiven 1 RX0 (rmd 1 0 0) (Qmet X 0 0 (Qe (some (.int q.1)) q.2 adr)) 0 0 adr h0 0 [(0, .ref l0)] []
  obtain ⟨u0, e0, hf⟩ := b_some hf
  refine aw_gets (q := 2) dX0_leastGiven_0 kfX0_55 rfl ?_
  refine aw_aload_n 0 dX0_leastGiven_3 rfl rfl ?_
  obtain ⟨x1, ex1, hf⟩ := b_some hf
  refine aw_getI dX0_leastGiven_4 gfX0_40 ex1 ?_
  obtain ⟨x2, ex2, hf⟩ := b_some hf
  refine aw_sald dX0_leastGiven_7 rfl ex2 ?_
  cases hf
  exact aw_iret hr dX0_leastGiven_8 ⟨rfl, rfl, rfl⟩
theorem k_X0_leastGiven {l0 : Nat} {h0 : Hp} {q : Int32 × Hp} (hf : f_X0_leastGiven l0 h0 = some q) : ck h0 l0 0 = some () := by
  unfold f_X0_leastGiven at hf
  obtain ⟨u0, e0, hf⟩ := b_some hf
  exact e0
theorem dX0_left_0 : decode cX0_left 0 = .ok (.iconst 0, 1) := by decide +kernel
theorem dX0_left_1 : decode cX0_left 1 = .ok (.istore_n 1, 1) := by decide +kernel
theorem dX0_left_2 : decode cX0_left 2 = .ok (.iconst 0, 1) := by decide +kernel
theorem dX0_left_3 : decode cX0_left 3 = .ok (.istore_n 2, 1) := by decide +kernel
theorem dX0_left_4 : decode cX0_left 4 = .ok (.iload_n 2, 1) := by decide +kernel
theorem dX0_left_5 : decode cX0_left 5 = .ok (.aload_n 0, 1) := by decide +kernel
theorem dX0_left_6 : decode cX0_left 6 = .ok (.getfield 37, 3) := by decide +kernel
theorem dX0_left_9 : decode cX0_left 9 = .ok (.if_icmp .ge 23, 3) := by decide +kernel
theorem dX0_left_12 : decode cX0_left 12 = .ok (.aload_n 0, 1) := by decide +kernel
theorem dX0_left_13 : decode cX0_left 13 = .ok (.iload_n 2, 1) := by decide +kernel
theorem dX0_left_14 : decode cX0_left 14 = .ok (.invokevirtual 69, 3) := by decide +kernel
theorem dX0_left_17 : decode cX0_left 17 = .ok (.ifCond .eq 9, 3) := by decide +kernel
theorem dX0_left_20 : decode cX0_left 20 = .ok (.iload_n 1, 1) := by decide +kernel
theorem dX0_left_21 : decode cX0_left 21 = .ok (.iconst 1, 1) := by decide +kernel
theorem dX0_left_22 : decode cX0_left 22 = .ok (.iload_n 2, 1) := by decide +kernel
theorem dX0_left_23 : decode cX0_left 23 = .ok (.ishl, 1) := by decide +kernel
theorem dX0_left_24 : decode cX0_left 24 = .ok (.ior, 1) := by decide +kernel
theorem dX0_left_25 : decode cX0_left 25 = .ok (.istore_n 1, 1) := by decide +kernel
theorem dX0_left_26 : decode cX0_left 26 = .ok (.iinc 2 1, 3) := by decide +kernel
theorem dX0_left_29 : decode cX0_left 29 = .ok (.goto (-25), 3) := by decide +kernel
theorem dX0_left_32 : decode cX0_left 32 = .ok (.iload_n 1, 1) := by decide +kernel
theorem dX0_left_33 : decode cX0_left 33 = .ok (.ireturn, 1) := by decide +kernel
def f_X0_left_4 (k4 : Nat × Int32 × Int32 → Hp → Option (Int32 × Hp)) (v : Nat × Int32 × Int32) (h0 : Hp) : Option (Int32 × Hp) :=
  match v with
  | (l0, l1, l2) => (gI h0 l0 0 1).bind fun x1 => if x1 ≤ l2 then (some (l1, h0)) else ((f_X0_isLeft l0 l2 h0).bind fun q3 => if q3.1 = 0 then ((some (l2 + 1)).bind fun x5 => k4 (l0, l1, x5) q3.2) else ((some (l1 ||| ((1 : Int32) <<< (l2 &&& 31)))).bind fun x6 => (some (l2 + 1)).bind fun x7 => k4 (l0, x6, x7) q3.2))
set_option maxRecDepth 100000 in
set_option maxHeartbeats 4000000 in
theorem c_X0_left_4 {X : Cx} {adr : Nat → Nat} {q : Int32 × Hp} (hr : (mth X).sig.returnType = (some .int)) (n : Nat) : ∀ v h0, lp (f_X0_left_4) n v h0 = some q → AW X cX0_left 3 RX0 (rmd 2 0 0) (Qmet X 0 0 (Qe (some (.int q.1)) q.2 adr)) 0 0 adr h0 4 [(0, .ref v.1), (1, .int v.2.1), (2, .int v.2.2)] [] := by
  refine aw_lp (fun k4 hk4 v h0 hf => ?_) n
  obtain ⟨l0, l1, l2⟩ := v
  show AW X cX0_left 3 RX0 (rmd 2 0 0) (Qmet X 0 0 (Qe (some (.int q.1)) q.2 adr)) 0 0 adr h0 4 [(0, .ref l0), (1, .int l1), (2, .int l2)] []
  refine aw_iload_n 2 dX0_left_4 rfl rfl ?_
  refine aw_aload_n 0 dX0_left_5 rfl rfl ?_
  obtain ⟨x1, ex1, hf⟩ := b_some hf
  refine aw_getI dX0_left_6 gfX0_37 ex1 ?_
  refine aw_icmp_ge (tgt := 32) dX0_left_9 (by decide) (fun c2 => ?_) (fun c2 => ?_)
  · have hf := i_pos c2 hf
    refine aw_iload_n 1 dX0_left_32 rfl rfl ?_
    cases hf
    exact aw_iret hr dX0_left_33 ⟨rfl, rfl, rfl⟩
  · have hf := i_neg c2 hf
    refine aw_aload_n 0 dX0_left_12 rfl rfl ?_
    refine aw_iload_n 2 dX0_left_13 rfl rfl ?_
    obtain ⟨q3, eq3, hf⟩ := b_some hf
    refine aw_cV (as := [.int l2]) dX0_left_14 moX0_isLeft voX0_isLeft mlX0_69 (k_X0_isLeft eq3) rfl (rm_ok (by omega) (by decide)) ⟨Nat.le_refl _, Nat.le_refl _⟩ (Nat.le_of_ble_eq_true rfl) rfl (c_X0_isLeft eq3) ?_
    refine aw_if_eq (tgt := 26) dX0_left_17 (by decide) (fun c4 => ?_) (fun c4 => ?_)
    · have hf := i_pos c4 hf
      obtain ⟨x5, ex5, hf⟩ := b_some hf
      refine aw_iinc (v := x5) (L' := [(2, .int x5), (0, .ref l0), (1, .int l1)]) 2 dX0_left_26 rfl (Option.some.inj ex5) (by decide) rfl ?_
      refine aw_goto (tgt := 4) dX0_left_29 (by decide) ?_
      exact aw_sub [1, 2, 0] rfl (hk4 _ _ hf)
    · have hf := i_neg c4 hf
      refine aw_iload_n 1 dX0_left_20 rfl rfl ?_
      refine aw_iconst (v := 1) dX0_left_21 (by decide) ?_
      refine aw_iload_n 2 dX0_left_22 rfl rfl ?_
      refine aw_ishl dX0_left_23 ?_
      refine aw_ior dX0_left_24 ?_
      obtain ⟨x6, ex6, hf⟩ := b_some hf
      refine aw_nm ex6 ?_
      refine aw_istore_n (L' := [(1, .int x6), (0, .ref l0), (2, .int l2)]) dX0_left_25 rfl (by decide) rfl ?_
      obtain ⟨x7, ex7, hf⟩ := b_some hf
      refine aw_iinc (v := x7) (L' := [(2, .int x7), (1, .int x6), (0, .ref l0)]) 2 dX0_left_26 rfl (Option.some.inj ex7) (by decide) rfl ?_
      refine aw_goto (tgt := 4) dX0_left_29 (by decide) ?_
      exact aw_sub [2, 1, 0] rfl (hk4 _ _ hf)
def f_X0_left (l0 : Nat) (h0 : Hp) : Option (Int32 × Hp) :=
  (ck h0 l0 0).bind fun _ => lp (f_X0_left_4) 600 (l0, (0 : Int32), (0 : Int32)) h0
set_option maxRecDepth 100000 in
set_option maxHeartbeats 4000000 in
theorem c_X0_left {l0 : Nat} {h0 : Hp} {q : Int32 × Hp} (hf : f_X0_left l0 h0 = some q) : Mt 2 yX0_left cX0_left 3 (some .int) [.ref l0] h0 (some (.int q.1)) q.2 := by
  refine MtQ.of (by decide) (Nat.le_of_ble_eq_true rfl) (fun X adr hr hn => ?_)
  unfold f_X0_left at hf
  show AW X cX0_left 3 RX0 (rmd 2 0 0) (Qmet X 0 0 (Qe (some (.int q.1)) q.2 adr)) 0 0 adr h0 0 [(0, .ref l0)] []
  obtain ⟨u0, e0, hf⟩ := b_some hf
  refine aw_iconst (v := 0) dX0_left_0 (by decide) ?_
  refine aw_istore_n (L' := [(1, .int (0 : Int32)), (0, .ref l0)]) dX0_left_1 rfl (by decide) rfl ?_
  refine aw_iconst (v := 0) dX0_left_2 (by decide) ?_
  refine aw_istore_n (L' := [(2, .int (0 : Int32)), (1, .int (0 : Int32)), (0, .ref l0)]) dX0_left_3 rfl (by decide) rfl ?_
  exact aw_sub [2, 1, 0] rfl (c_X0_left_4 hr 600 _ _ hf)
theorem k_X0_left {l0 : Nat} {h0 : Hp} {q : Int32 × Hp} (hf : f_X0_left l0 h0 = some q) : ck h0 l0 0 = some () := by
  unfold f_X0_left at hf
  obtain ⟨u0, e0, hf⟩ := b_some hf
  exact e0
theorem dX0_leftOf_0 : decode cX0_leftOf 0 = .ok (.iconst 0, 1) := by decide +kernel
theorem dX0_leftOf_1 : decode cX0_leftOf 1 = .ok (.istore_n 2, 1) := by decide +kernel
theorem dX0_leftOf_2 : decode cX0_leftOf 2 = .ok (.iconst 0, 1) := by decide +kernel
theorem dX0_leftOf_3 : decode cX0_leftOf 3 = .ok (.istore_n 3, 1) := by decide +kernel
theorem dX0_leftOf_4 : decode cX0_leftOf 4 = .ok (.iload_n 3, 1) := by decide +kernel
theorem dX0_leftOf_5 : decode cX0_leftOf 5 = .ok (.aload_n 0, 1) := by decide +kernel
theorem dX0_leftOf_6 : decode cX0_leftOf 6 = .ok (.getfield 37, 3) := by decide +kernel
theorem dX0_leftOf_9 : decode cX0_leftOf 9 = .ok (.if_icmp .ge 33, 3) := by decide +kernel
theorem dX0_leftOf_12 : decode cX0_leftOf 12 = .ok (.aload_n 0, 1) := by decide +kernel
theorem dX0_leftOf_13 : decode cX0_leftOf 13 = .ok (.iload_n 3, 1) := by decide +kernel
theorem dX0_leftOf_14 : decode cX0_leftOf 14 = .ok (.invokevirtual 69, 3) := by decide +kernel
theorem dX0_leftOf_17 : decode cX0_leftOf 17 = .ok (.ifCond .eq 19, 3) := by decide +kernel
theorem dX0_leftOf_20 : decode cX0_leftOf 20 = .ok (.aload_n 0, 1) := by decide +kernel
theorem dX0_leftOf_21 : decode cX0_leftOf 21 = .ok (.iload_n 3, 1) := by decide +kernel
theorem dX0_leftOf_22 : decode cX0_leftOf 22 = .ok (.iload_n 1, 1) := by decide +kernel
theorem dX0_leftOf_23 : decode cX0_leftOf 23 = .ok (.invokevirtual 72, 3) := by decide +kernel
theorem dX0_leftOf_26 : decode cX0_leftOf 26 = .ok (.iconst (-1), 1) := by decide +kernel
theorem dX0_leftOf_27 : decode cX0_leftOf 27 = .ok (.if_icmp .eq 9, 3) := by decide +kernel
theorem dX0_leftOf_30 : decode cX0_leftOf 30 = .ok (.iload_n 2, 1) := by decide +kernel
theorem dX0_leftOf_31 : decode cX0_leftOf 31 = .ok (.iconst 1, 1) := by decide +kernel
theorem dX0_leftOf_32 : decode cX0_leftOf 32 = .ok (.iload_n 3, 1) := by decide +kernel
theorem dX0_leftOf_33 : decode cX0_leftOf 33 = .ok (.ishl, 1) := by decide +kernel
theorem dX0_leftOf_34 : decode cX0_leftOf 34 = .ok (.ior, 1) := by decide +kernel
theorem dX0_leftOf_35 : decode cX0_leftOf 35 = .ok (.istore_n 2, 1) := by decide +kernel
theorem dX0_leftOf_36 : decode cX0_leftOf 36 = .ok (.iinc 3 1, 3) := by decide +kernel
theorem dX0_leftOf_39 : decode cX0_leftOf 39 = .ok (.goto (-35), 3) := by decide +kernel
theorem dX0_leftOf_42 : decode cX0_leftOf 42 = .ok (.iload_n 2, 1) := by decide +kernel
theorem dX0_leftOf_43 : decode cX0_leftOf 43 = .ok (.ireturn, 1) := by decide +kernel
def f_X0_leftOf_4 (k4 : Nat × Int32 × Int32 × Int32 → Hp → Option (Int32 × Hp)) (v : Nat × Int32 × Int32 × Int32) (h0 : Hp) : Option (Int32 × Hp) :=
  match v with
  | (l0, l1, l2, l3) => (gI h0 l0 0 1).bind fun x1 => if x1 ≤ l3 then (some (l2, h0)) else ((f_X0_isLeft l0 l3 h0).bind fun q3 => if q3.1 = 0 then ((some (l3 + 1)).bind fun x5 => k4 (l0, l1, l2, x5) q3.2) else ((f_X0_foe l0 l3 l1 q3.2).bind fun q6 => if q6.1 = (-1 : Int32) then ((some (l3 + 1)).bind fun x8 => k4 (l0, l1, l2, x8) q6.2) else ((some (l2 ||| ((1 : Int32) <<< (l3 &&& 31)))).bind fun x9 => (some (l3 + 1)).bind fun x10 => k4 (l0, l1, x9, x10) q6.2)))
set_option maxRecDepth 100000 in
set_option maxHeartbeats 4000000 in
theorem c_X0_leftOf_4 {X : Cx} {adr : Nat → Nat} {q : Int32 × Hp} (hr : (mth X).sig.returnType = (some .int)) (n : Nat) : ∀ v h0, lp (f_X0_leftOf_4) n v h0 = some q → AW X cX0_leftOf 4 RX0 (rmd 2 0 0) (Qmet X 0 0 (Qe (some (.int q.1)) q.2 adr)) 0 0 adr h0 4 [(0, .ref v.1), (1, .int v.2.1), (2, .int v.2.2.1), (3, .int v.2.2.2)] [] := by
  refine aw_lp (fun k4 hk4 v h0 hf => ?_) n
  obtain ⟨l0, l1, l2, l3⟩ := v
  show AW X cX0_leftOf 4 RX0 (rmd 2 0 0) (Qmet X 0 0 (Qe (some (.int q.1)) q.2 adr)) 0 0 adr h0 4 [(0, .ref l0), (1, .int l1), (2, .int l2), (3, .int l3)] []
  refine aw_iload_n 3 dX0_leftOf_4 rfl rfl ?_
  refine aw_aload_n 0 dX0_leftOf_5 rfl rfl ?_
  obtain ⟨x1, ex1, hf⟩ := b_some hf
  refine aw_getI dX0_leftOf_6 gfX0_37 ex1 ?_
  refine aw_icmp_ge (tgt := 42) dX0_leftOf_9 (by decide) (fun c2 => ?_) (fun c2 => ?_)
  · have hf := i_pos c2 hf
    refine aw_iload_n 2 dX0_leftOf_42 rfl rfl ?_
    cases hf
    exact aw_iret hr dX0_leftOf_43 ⟨rfl, rfl, rfl⟩
  · have hf := i_neg c2 hf
    refine aw_aload_n 0 dX0_leftOf_12 rfl rfl ?_
    refine aw_iload_n 3 dX0_leftOf_13 rfl rfl ?_
    obtain ⟨q3, eq3, hf⟩ := b_some hf
    refine aw_cV (as := [.int l3]) dX0_leftOf_14 moX0_isLeft voX0_isLeft mlX0_69 (k_X0_isLeft eq3) rfl (rm_ok (by omega) (by decide)) ⟨Nat.le_refl _, Nat.le_refl _⟩ (Nat.le_of_ble_eq_true rfl) rfl (c_X0_isLeft eq3) ?_
    refine aw_if_eq (tgt := 36) dX0_leftOf_17 (by decide) (fun c4 => ?_) (fun c4 => ?_)
    · have hf := i_pos c4 hf
      obtain ⟨x5, ex5, hf⟩ := b_some hf
      refine aw_iinc (v := x5) (L' := [(3, .int x5), (0, .ref l0), (1, .int l1), (2, .int l2)]) 3 dX0_leftOf_36 rfl (Option.some.inj ex5) (by decide) rfl ?_
      refine aw_goto (tgt := 4) dX0_leftOf_39 (by decide) ?_
      exact aw_sub [1, 2, 3, 0] rfl (hk4 _ _ hf)
    · have hf := i_neg c4 hf
      refine aw_aload_n 0 dX0_leftOf_20 rfl rfl ?_
      refine aw_iload_n 3 dX0_leftOf_21 rfl rfl ?_
      refine aw_iload_n 1 dX0_leftOf_22 rfl rfl ?_
      obtain ⟨q6, eq6, hf⟩ := b_some hf
      refine aw_cV (as := [.int l3, .int l1]) dX0_leftOf_23 moX0_foe voX0_foe mlX0_72 (k_X0_foe eq6) rfl (rm_ok (by omega) (by decide)) ⟨Nat.le_refl _, Nat.le_refl _⟩ (Nat.le_of_ble_eq_true rfl) rfl (c_X0_foe eq6) ?_
      refine aw_iconst (v := -1) dX0_leftOf_26 (by decide) ?_
      refine aw_icmp_eq (tgt := 36) dX0_leftOf_27 (by decide) (fun c7 => ?_) (fun c7 => ?_)
      · have hf := i_pos c7 hf
        obtain ⟨x8, ex8, hf⟩ := b_some hf
        refine aw_iinc (v := x8) (L' := [(3, .int x8), (0, .ref l0), (1, .int l1), (2, .int l2)]) 3 dX0_leftOf_36 rfl (Option.some.inj ex8) (by decide) rfl ?_
        refine aw_goto (tgt := 4) dX0_leftOf_39 (by decide) ?_
        exact aw_sub [1, 2, 3, 0] rfl (hk4 _ _ hf)
      · have hf := i_neg c7 hf
        refine aw_iload_n 2 dX0_leftOf_30 rfl rfl ?_
        refine aw_iconst (v := 1) dX0_leftOf_31 (by decide) ?_
        refine aw_iload_n 3 dX0_leftOf_32 rfl rfl ?_
        refine aw_ishl dX0_leftOf_33 ?_
        refine aw_ior dX0_leftOf_34 ?_
        obtain ⟨x9, ex9, hf⟩ := b_some hf
        refine aw_nm ex9 ?_
        refine aw_istore_n (L' := [(2, .int x9), (0, .ref l0), (1, .int l1), (3, .int l3)]) dX0_leftOf_35 rfl (by decide) rfl ?_
        obtain ⟨x10, ex10, hf⟩ := b_some hf
        refine aw_iinc (v := x10) (L' := [(3, .int x10), (2, .int x9), (0, .ref l0), (1, .int l1)]) 3 dX0_leftOf_36 rfl (Option.some.inj ex10) (by decide) rfl ?_
        refine aw_goto (tgt := 4) dX0_leftOf_39 (by decide) ?_
        exact aw_sub [2, 3, 1, 0] rfl (hk4 _ _ hf)
def f_X0_leftOf (l0 : Nat) (l1 : Int32) (h0 : Hp) : Option (Int32 × Hp) :=
  (ck h0 l0 0).bind fun _ => lp (f_X0_leftOf_4) 600 (l0, l1, (0 : Int32), (0 : Int32)) h0
set_option maxRecDepth 100000 in
set_option maxHeartbeats 4000000 in
theorem c_X0_leftOf {l0 : Nat} {l1 : Int32} {h0 : Hp} {q : Int32 × Hp} (hf : f_X0_leftOf l0 l1 h0 = some q) : Mt 2 yX0_leftOf cX0_leftOf 4 (some .int) [.ref l0, .int l1] h0 (some (.int q.1)) q.2 := by
  refine MtQ.of (by decide) (Nat.le_of_ble_eq_true rfl) (fun X adr hr hn => ?_)
  unfold f_X0_leftOf at hf
  show AW X cX0_leftOf 4 RX0 (rmd 2 0 0) (Qmet X 0 0 (Qe (some (.int q.1)) q.2 adr)) 0 0 adr h0 0 [(0, .ref l0), (1, .int l1)] []
  obtain ⟨u0, e0, hf⟩ := b_some hf
  refine aw_iconst (v := 0) dX0_leftOf_0 (by decide) ?_
  refine aw_istore_n (L' := [(2, .int (0 : Int32)), (0, .ref l0), (1, .int l1)]) dX0_leftOf_1 rfl (by decide) rfl ?_
  refine aw_iconst (v := 0) dX0_leftOf_2 (by decide) ?_
  refine aw_istore_n (L' := [(3, .int (0 : Int32)), (2, .int (0 : Int32)), (0, .ref l0), (1, .int l1)]) dX0_leftOf_3 rfl (by decide) rfl ?_
  exact aw_sub [2, 3, 1, 0] rfl (c_X0_leftOf_4 hr 600 _ _ hf)
theorem k_X0_leftOf {l0 : Nat} {l1 : Int32} {h0 : Hp} {q : Int32 × Hp} (hf : f_X0_leftOf l0 l1 h0 = some q) : ck h0 l0 0 = some () := by
  unfold f_X0_leftOf at hf
  obtain ⟨u0, e0, hf⟩ := b_some hf
  exact e0
theorem dX0_letter_0 : decode cX0_letter 0 = .ok (.iload_n 2, 1) := by decide +kernel
theorem dX0_letter_1 : decode cX0_letter 1 = .ok (.aload_n 0, 1) := by decide +kernel
theorem dX0_letter_2 : decode cX0_letter 2 = .ok (.getfield 15, 3) := by decide +kernel
theorem dX0_letter_5 : decode cX0_letter 5 = .ok (.iload_n 1, 1) := by decide +kernel
theorem dX0_letter_6 : decode cX0_letter 6 = .ok (.iaload, 1) := by decide +kernel
theorem dX0_letter_7 : decode cX0_letter 7 = .ok (.if_icmp .ge 17, 3) := by decide +kernel
theorem dX0_letter_10 : decode cX0_letter 10 = .ok (.aload_n 0, 1) := by decide +kernel
theorem dX0_letter_11 : decode cX0_letter 11 = .ok (.getfield 18, 3) := by decide +kernel
theorem dX0_letter_14 : decode cX0_letter 14 = .ok (.iload_n 1, 1) := by decide +kernel
theorem dX0_letter_15 : decode cX0_letter 15 = .ok (.bipush 6, 2) := by decide +kernel
theorem dX0_letter_17 : decode cX0_letter 17 = .ok (.imul, 1) := by decide +kernel
theorem dX0_letter_18 : decode cX0_letter 18 = .ok (.iload_n 2, 1) := by decide +kernel
theorem dX0_letter_19 : decode cX0_letter 19 = .ok (.iadd, 1) := by decide +kernel
theorem dX0_letter_20 : decode cX0_letter 20 = .ok (.iaload, 1) := by decide +kernel
theorem dX0_letter_21 : decode cX0_letter 21 = .ok (.goto 4, 3) := by decide +kernel
theorem dX0_letter_24 : decode cX0_letter 24 = .ok (.iconst (-1), 1) := by decide +kernel
theorem dX0_letter_25 : decode cX0_letter 25 = .ok (.ireturn, 1) := by decide +kernel
def f_X0_letter (l0 : Nat) (l1 : Int32) (l2 : Int32) (h0 : Hp) : Option (Int32 × Hp) :=
  (ck h0 l0 0).bind fun _ => (gR h0 l0 0 4).bind fun r1 => (aL h0 r1 l1).bind fun x2 => if x2 ≤ l2 then (some ((-1 : Int32), h0)) else ((gR h0 l0 0 5).bind fun r4 => (aL h0 r4 ((l1 * (6 : Int32)) + l2)).bind fun x5 => some (x5, h0))
set_option maxRecDepth 100000 in
set_option maxHeartbeats 4000000 in
theorem c_X0_letter {l0 : Nat} {l1 : Int32} {l2 : Int32} {h0 : Hp} {q : Int32 × Hp} (hf : f_X0_letter l0 l1 l2 h0 = some q) : Mt 1 yX0_letter cX0_letter 3 (some .int) [.ref l0, .int l1, .int l2] h0 (some (.int q.1)) q.2 := by
  refine MtQ.of (by decide) (Nat.le_of_ble_eq_true rfl) (fun X adr hr hn => ?_)
  unfold f_X0_letter at hf
  show AW X cX0_letter 3 RX0 (rmd 1 0 0) (Qmet X 0 0 (Qe (some (.int q.1)) q.2 adr)) 0 0 adr h0 0 [(0, .ref l0), (1, .int l1), (2, .int l2)] []
  obtain ⟨u0, e0, hf⟩ := b_some hf
  refine aw_iload_n 2 dX0_letter_0 rfl rfl ?_
  refine aw_aload_n 0 dX0_letter_1 rfl rfl ?_
  obtain ⟨r1, er1, hf⟩ := b_some hf
  refine aw_getR dX0_letter_2 gfX0_15 er1 ?_
  refine aw_iload_n 1 dX0_letter_5 rfl rfl ?_
  obtain ⟨x2, ex2, hf⟩ := b_some hf
  refine aw_iald dX0_letter_6 ex2 ?_
  refine aw_icmp_ge (tgt := 24) dX0_letter_7 (by decide) (fun c3 => ?_) (fun c3 => ?_)
  · have hf := i_pos c3 hf
    refine aw_iconst (v := -1) dX0_letter_24 (by decide) ?_
    cases hf
    exact aw_iret hr dX0_letter_25 ⟨rfl, rfl, rfl⟩
  · have hf := i_neg c3 hf
    refine aw_aload_n 0 dX0_letter_10 rfl rfl ?_
    obtain ⟨r4, er4, hf⟩ := b_some hf
    refine aw_getR dX0_letter_11 gfX0_18 er4 ?_
    refine aw_iload_n 1 dX0_letter_14 rfl rfl ?_
    refine aw_bipush (v := 6) dX0_letter_15 (by decide) ?_
    refine aw_imul dX0_letter_17 ?_
    refine aw_iload_n 2 dX0_letter_18 rfl rfl ?_
    refine aw_iadd dX0_letter_19 ?_
    obtain ⟨x5, ex5, hf⟩ := b_some hf
    refine aw_iald dX0_letter_20 ex5 ?_
    refine aw_goto (tgt := 25) dX0_letter_21 (by decide) ?_
    cases hf
    exact aw_iret hr dX0_letter_25 ⟨rfl, rfl, rfl⟩
theorem k_X0_letter {l0 : Nat} {l1 : Int32} {l2 : Int32} {h0 : Hp} {q : Int32 × Hp} (hf : f_X0_letter l0 l1 l2 h0 = some q) : ck h0 l0 0 = some () := by
  unfold f_X0_letter at hf
  obtain ⟨u0, e0, hf⟩ := b_some hf
  exact e0
theorem dX0_nextBetween_0 : decode cX0_nextBetween 0 = .ok (.iconst (-1), 1) := by decide +kernel
theorem dX0_nextBetween_1 : decode cX0_nextBetween 1 = .ok (.istore_n 3, 1) := by decide +kernel
theorem dX0_nextBetween_2 : decode cX0_nextBetween 2 = .ok (.iconst 0, 1) := by decide +kernel
theorem dX0_nextBetween_3 : decode cX0_nextBetween 3 = .ok (.istore 4, 2) := by decide +kernel
theorem dX0_nextBetween_5 : decode cX0_nextBetween 5 = .ok (.iload 4, 2) := by decide +kernel
theorem dX0_nextBetween_7 : decode cX0_nextBetween 7 = .ok (.aload_n 0, 1) := by decide +kernel
theorem dX0_nextBetween_8 : decode cX0_nextBetween 8 = .ok (.getfield 37, 3) := by decide +kernel
theorem dX0_nextBetween_11 : decode cX0_nextBetween 11 = .ok (.if_icmp .ge 56, 3) := by decide +kernel
theorem dX0_nextBetween_14 : decode cX0_nextBetween 14 = .ok (.aload_n 0, 1) := by decide +kernel
theorem dX0_nextBetween_15 : decode cX0_nextBetween 15 = .ok (.iload 4, 2) := by decide +kernel
theorem dX0_nextBetween_17 : decode cX0_nextBetween 17 = .ok (.invokevirtual 69, 3) := by decide +kernel
theorem dX0_nextBetween_20 : decode cX0_nextBetween 20 = .ok (.ifCond .eq 41, 3) := by decide +kernel
theorem dX0_nextBetween_23 : decode cX0_nextBetween 23 = .ok (.aload_n 0, 1) := by decide +kernel
theorem dX0_nextBetween_24 : decode cX0_nextBetween 24 = .ok (.iload 4, 2) := by decide +kernel
theorem dX0_nextBetween_26 : decode cX0_nextBetween 26 = .ok (.iload_n 1, 1) := by decide +kernel
theorem dX0_nextBetween_27 : decode cX0_nextBetween 27 = .ok (.invokevirtual 72, 3) := by decide +kernel
theorem dX0_nextBetween_30 : decode cX0_nextBetween 30 = .ok (.iload_n 2, 1) := by decide +kernel
theorem dX0_nextBetween_31 : decode cX0_nextBetween 31 = .ok (.if_icmp .eq 6, 3) := by decide +kernel
theorem dX0_nextBetween_34 : decode cX0_nextBetween 34 = .ok (.goto 27, 3) := by decide +kernel
theorem dX0_nextBetween_37 : decode cX0_nextBetween 37 = .ok (.iload_n 3, 1) := by decide +kernel
theorem dX0_nextBetween_38 : decode cX0_nextBetween 38 = .ok (.iconst (-1), 1) := by decide +kernel
theorem dX0_nextBetween_39 : decode cX0_nextBetween 39 = .ok (.if_icmp .eq 19, 3) := by decide +kernel
theorem dX0_nextBetween_42 : decode cX0_nextBetween 42 = .ok (.aload_n 0, 1) := by decide +kernel
theorem dX0_nextBetween_43 : decode cX0_nextBetween 43 = .ok (.getfield 27, 3) := by decide +kernel
theorem dX0_nextBetween_46 : decode cX0_nextBetween 46 = .ok (.iload 4, 2) := by decide +kernel
theorem dX0_nextBetween_48 : decode cX0_nextBetween 48 = .ok (.iaload, 1) := by decide +kernel
theorem dX0_nextBetween_49 : decode cX0_nextBetween 49 = .ok (.aload_n 0, 1) := by decide +kernel
theorem dX0_nextBetween_50 : decode cX0_nextBetween 50 = .ok (.getfield 27, 3) := by decide +kernel
theorem dX0_nextBetween_53 : decode cX0_nextBetween 53 = .ok (.iload_n 3, 1) := by decide +kernel
theorem dX0_nextBetween_54 : decode cX0_nextBetween 54 = .ok (.iaload, 1) := by decide +kernel
theorem dX0_nextBetween_55 : decode cX0_nextBetween 55 = .ok (.if_icmp .ge 6, 3) := by decide +kernel
theorem dX0_nextBetween_58 : decode cX0_nextBetween 58 = .ok (.iload 4, 2) := by decide +kernel
theorem dX0_nextBetween_60 : decode cX0_nextBetween 60 = .ok (.istore_n 3, 1) := by decide +kernel
theorem dX0_nextBetween_61 : decode cX0_nextBetween 61 = .ok (.iinc 4 1, 3) := by decide +kernel
theorem dX0_nextBetween_64 : decode cX0_nextBetween 64 = .ok (.goto (-59), 3) := by decide +kernel
theorem dX0_nextBetween_67 : decode cX0_nextBetween 67 = .ok (.iload_n 3, 1) := by decide +kernel
theorem dX0_nextBetween_68 : decode cX0_nextBetween 68 = .ok (.ireturn, 1) := by decide +kernel
def f_X0_nextBetween_5 (k5 : Nat × Int32 × Int32 × Int32 × Int32 → Hp → Option (Int32 × Hp)) (v : Nat × Int32 × Int32 × Int32 × Int32) (h0 : Hp) : Option (Int32 × Hp) :=
  match v with
  | (l0, l1, l2, l3, l4) => (gI h0 l0 0 1).bind fun x1 => if x1 ≤ l4 then (some (l3, h0)) else ((f_X0_isLeft l0 l4 h0).bind fun q3 => if q3.1 = 0 then ((some (l4 + 1)).bind fun x5 => k5 (l0, l1, l2, l3, x5) q3.2) else ((f_X0_foe l0 l4 l1 q3.2).bind fun q6 => if q6.1 = l2 then (if l3 = (-1 : Int32) then ((some (l4 + 1)).bind fun x9 => k5 (l0, l1, l2, l4, x9) q6.2) else ((gR q6.2 l0 0 8).bind fun r10 => (aL q6.2 r10 l4).bind fun x11 => (gR q6.2 l0 0 8).bind fun r12 => (aL q6.2 r12 l3).bind fun x13 => if x13 ≤ x11 then ((some (l4 + 1)).bind fun x15 => k5 (l0, l1, l2, l3, x15) q6.2) else ((some (l4 + 1)).bind fun x16 => k5 (l0, l1, l2, l4, x16) q6.2))) else ((some (l4 + 1)).bind fun x17 => k5 (l0, l1, l2, l3, x17) q6.2)))
set_option maxRecDepth 100000 in
set_option maxHeartbeats 4000000 in
theorem c_X0_nextBetween_5 {X : Cx} {adr : Nat → Nat} {q : Int32 × Hp} (hr : (mth X).sig.returnType = (some .int)) (n : Nat) : ∀ v h0, lp (f_X0_nextBetween_5) n v h0 = some q → AW X cX0_nextBetween 5 RX0 (rmd 2 0 0) (Qmet X 0 0 (Qe (some (.int q.1)) q.2 adr)) 0 0 adr h0 5 [(0, .ref v.1), (1, .int v.2.1), (2, .int v.2.2.1), (3, .int v.2.2.2.1), (4, .int v.2.2.2.2)] [] := by
  refine aw_lp (fun k5 hk5 v h0 hf => ?_) n
  obtain ⟨l0, l1, l2, l3, l4⟩ := v
  show AW X cX0_nextBetween 5 RX0 (rmd 2 0 0) (Qmet X 0 0 (Qe (some (.int q.1)) q.2 adr)) 0 0 adr h0 5 [(0, .ref l0), (1, .int l1), (2, .int l2), (3, .int l3), (4, .int l4)] []
  refine aw_iload 4 dX0_nextBetween_5 rfl ?_
  refine aw_aload_n 0 dX0_nextBetween_7 rfl rfl ?_
  obtain ⟨x1, ex1, hf⟩ := b_some hf
  refine aw_getI dX0_nextBetween_8 gfX0_37 ex1 ?_
  refine aw_icmp_ge (tgt := 67) dX0_nextBetween_11 (by decide) (fun c2 => ?_) (fun c2 => ?_)
  · have hf := i_pos c2 hf
    refine aw_iload_n 3 dX0_nextBetween_67 rfl rfl ?_
    cases hf
    exact aw_iret hr dX0_nextBetween_68 ⟨rfl, rfl, rfl⟩
  · have hf := i_neg c2 hf
    refine aw_aload_n 0 dX0_nextBetween_14 rfl rfl ?_
    refine aw_iload 4 dX0_nextBetween_15 rfl ?_
    obtain ⟨q3, eq3, hf⟩ := b_some hf
    refine aw_cV (as := [.int l4]) dX0_nextBetween_17 moX0_isLeft voX0_isLeft mlX0_69 (k_X0_isLeft eq3) rfl (rm_ok (by omega) (by decide)) ⟨Nat.le_refl _, Nat.le_refl _⟩ (Nat.le_of_ble_eq_true rfl) rfl (c_X0_isLeft eq3) ?_
    refine aw_if_eq (tgt := 61) dX0_nextBetween_20 (by decide) (fun c4 => ?_) (fun c4 => ?_)
    · have hf := i_pos c4 hf
      obtain ⟨x5, ex5, hf⟩ := b_some hf
      refine aw_iinc (v := x5) (L' := [(4, .int x5), (0, .ref l0), (1, .int l1), (2, .int l2), (3, .int l3)]) 4 dX0_nextBetween_61 rfl (Option.some.inj ex5) (by decide) rfl ?_
      refine aw_goto (tgt := 5) dX0_nextBetween_64 (by decide) ?_
      exact aw_sub [1, 2, 3, 4, 0] rfl (hk5 _ _ hf)
    · have hf := i_neg c4 hf
      refine aw_aload_n 0 dX0_nextBetween_23 rfl rfl ?_
      refine aw_iload 4 dX0_nextBetween_24 rfl ?_
      refine aw_iload_n 1 dX0_nextBetween_26 rfl rfl ?_
      obtain ⟨q6, eq6, hf⟩ := b_some hf
      refine aw_cV (as := [.int l4, .int l1]) dX0_nextBetween_27 moX0_foe voX0_foe mlX0_72 (k_X0_foe eq6) rfl (rm_ok (by omega) (by decide)) ⟨Nat.le_refl _, Nat.le_refl _⟩ (Nat.le_of_ble_eq_true rfl) rfl (c_X0_foe eq6) ?_
      refine aw_iload_n 2 dX0_nextBetween_30 rfl rfl ?_
      refine aw_icmp_eq (tgt := 37) dX0_nextBetween_31 (by decide) (fun c7 => ?_) (fun c7 => ?_)
      · have hf := i_pos c7 hf
        refine aw_iload_n 3 dX0_nextBetween_37 rfl rfl ?_
        refine aw_iconst (v := -1) dX0_nextBetween_38 (by decide) ?_
        refine aw_icmp_eq (tgt := 58) dX0_nextBetween_39 (by decide) (fun c8 => ?_) (fun c8 => ?_)
        · have hf := i_pos c8 hf
          refine aw_iload 4 dX0_nextBetween_58 rfl ?_
          refine aw_istore_n (L' := [(3, .int l4), (0, .ref l0), (1, .int l1), (2, .int l2), (4, .int l4)]) dX0_nextBetween_60 rfl (by decide) rfl ?_
          obtain ⟨x9, ex9, hf⟩ := b_some hf
          refine aw_iinc (v := x9) (L' := [(4, .int x9), (3, .int l4), (0, .ref l0), (1, .int l1), (2, .int l2)]) 4 dX0_nextBetween_61 rfl (Option.some.inj ex9) (by decide) rfl ?_
          refine aw_goto (tgt := 5) dX0_nextBetween_64 (by decide) ?_
          exact aw_sub [2, 3, 4, 1, 0] rfl (hk5 _ _ hf)
        · have hf := i_neg c8 hf
          refine aw_aload_n 0 dX0_nextBetween_42 rfl rfl ?_
          obtain ⟨r10, er10, hf⟩ := b_some hf
          refine aw_getR dX0_nextBetween_43 gfX0_27 er10 ?_
          refine aw_iload 4 dX0_nextBetween_46 rfl ?_
          obtain ⟨x11, ex11, hf⟩ := b_some hf
          refine aw_iald dX0_nextBetween_48 ex11 ?_
          refine aw_aload_n 0 dX0_nextBetween_49 rfl rfl ?_
          obtain ⟨r12, er12, hf⟩ := b_some hf
          refine aw_getR dX0_nextBetween_50 gfX0_27 er12 ?_
          refine aw_iload_n 3 dX0_nextBetween_53 rfl rfl ?_
          obtain ⟨x13, ex13, hf⟩ := b_some hf
          refine aw_iald dX0_nextBetween_54 ex13 ?_
          refine aw_icmp_ge (tgt := 61) dX0_nextBetween_55 (by decide) (fun c14 => ?_) (fun c14 => ?_)
          · have hf := i_pos c14 hf
            obtain ⟨x15, ex15, hf⟩ := b_some hf
            refine aw_iinc (v := x15) (L' := [(4, .int x15), (0, .ref l0), (1, .int l1), (2, .int l2), (3, .int l3)]) 4 dX0_nextBetween_61 rfl (Option.some.inj ex15) (by decide) rfl ?_
            refine aw_goto (tgt := 5) dX0_nextBetween_64 (by decide) ?_
            exact aw_sub [1, 2, 3, 4, 0] rfl (hk5 _ _ hf)
          · have hf := i_neg c14 hf
            refine aw_iload 4 dX0_nextBetween_58 rfl ?_
            refine aw_istore_n (L' := [(3, .int l4), (0, .ref l0), (1, .int l1), (2, .int l2), (4, .int l4)]) dX0_nextBetween_60 rfl (by decide) rfl ?_
            obtain ⟨x16, ex16, hf⟩ := b_some hf
            refine aw_iinc (v := x16) (L' := [(4, .int x16), (3, .int l4), (0, .ref l0), (1, .int l1), (2, .int l2)]) 4 dX0_nextBetween_61 rfl (Option.some.inj ex16) (by decide) rfl ?_
            refine aw_goto (tgt := 5) dX0_nextBetween_64 (by decide) ?_
            exact aw_sub [2, 3, 4, 1, 0] rfl (hk5 _ _ hf)
      · have hf := i_neg c7 hf
        refine aw_goto (tgt := 61) dX0_nextBetween_34 (by decide) ?_
        obtain ⟨x17, ex17, hf⟩ := b_some hf
        refine aw_iinc (v := x17) (L' := [(4, .int x17), (0, .ref l0), (1, .int l1), (2, .int l2), (3, .int l3)]) 4 dX0_nextBetween_61 rfl (Option.some.inj ex17) (by decide) rfl ?_
        refine aw_goto (tgt := 5) dX0_nextBetween_64 (by decide) ?_
        exact aw_sub [1, 2, 3, 4, 0] rfl (hk5 _ _ hf)
def f_X0_nextBetween (l0 : Nat) (l1 : Int32) (l2 : Int32) (h0 : Hp) : Option (Int32 × Hp) :=
  (ck h0 l0 0).bind fun _ => lp (f_X0_nextBetween_5) 600 (l0, l1, l2, (-1 : Int32), (0 : Int32)) h0
set_option maxRecDepth 100000 in
set_option maxHeartbeats 4000000 in
theorem c_X0_nextBetween {l0 : Nat} {l1 : Int32} {l2 : Int32} {h0 : Hp} {q : Int32 × Hp} (hf : f_X0_nextBetween l0 l1 l2 h0 = some q) : Mt 2 yX0_nextBetween cX0_nextBetween 5 (some .int) [.ref l0, .int l1, .int l2] h0 (some (.int q.1)) q.2 := by
  refine MtQ.of (by decide) (Nat.le_of_ble_eq_true rfl) (fun X adr hr hn => ?_)
  unfold f_X0_nextBetween at hf
  show AW X cX0_nextBetween 5 RX0 (rmd 2 0 0) (Qmet X 0 0 (Qe (some (.int q.1)) q.2 adr)) 0 0 adr h0 0 [(0, .ref l0), (1, .int l1), (2, .int l2)] []
  obtain ⟨u0, e0, hf⟩ := b_some hf
  refine aw_iconst (v := -1) dX0_nextBetween_0 (by decide) ?_
  refine aw_istore_n (L' := [(3, .int (-1 : Int32)), (0, .ref l0), (1, .int l1), (2, .int l2)]) dX0_nextBetween_1 rfl (by decide) rfl ?_
  refine aw_iconst (v := 0) dX0_nextBetween_2 (by decide) ?_
  refine aw_istore (L' := [(4, .int (0 : Int32)), (3, .int (-1 : Int32)), (0, .ref l0), (1, .int l1), (2, .int l2)]) dX0_nextBetween_3 (by decide) rfl ?_
  exact aw_sub [2, 3, 4, 1, 0] rfl (c_X0_nextBetween_5 hr 600 _ _ hf)
theorem k_X0_nextBetween {l0 : Nat} {l1 : Int32} {l2 : Int32} {h0 : Hp} {q : Int32 × Hp} (hf : f_X0_nextBetween l0 l1 l2 h0 = some q) : ck h0 l0 0 = some () := by
  unfold f_X0_nextBetween at hf
  obtain ⟨u0, e0, hf⟩ := b_some hf
  exact e0
theorem dX0_pointsInto_0 : decode cX0_pointsInto 0 = .ok (.iconst 0, 1) := by decide +kernel
theorem dX0_pointsInto_1 : decode cX0_pointsInto 1 = .ok (.istore_n 2, 1) := by decide +kernel
theorem dX0_pointsInto_2 : decode cX0_pointsInto 2 = .ok (.iload_n 2, 1) := by decide +kernel
theorem dX0_pointsInto_3 : decode cX0_pointsInto 3 = .ok (.bipush 6, 2) := by decide +kernel
theorem dX0_pointsInto_5 : decode cX0_pointsInto 5 = .ok (.if_icmp .ge 30, 3) := by decide +kernel
theorem dX0_pointsInto_8 : decode cX0_pointsInto 8 = .ok (.aload_n 1, 1) := by decide +kernel
theorem dX0_pointsInto_9 : decode cX0_pointsInto 9 = .ok (.iload_n 2, 1) := by decide +kernel
theorem dX0_pointsInto_10 : decode cX0_pointsInto 10 = .ok (.iload_n 2, 1) := by decide +kernel
theorem dX0_pointsInto_11 : decode cX0_pointsInto 11 = .ok (.aload_n 0, 1) := by decide +kernel
theorem dX0_pointsInto_12 : decode cX0_pointsInto 12 = .ok (.getfield 33, 3) := by decide +kernel
theorem dX0_pointsInto_15 : decode cX0_pointsInto 15 = .ok (.if_icmp .ge 12, 3) := by decide +kernel
theorem dX0_pointsInto_18 : decode cX0_pointsInto 18 = .ok (.aload_n 0, 1) := by decide +kernel
theorem dX0_pointsInto_19 : decode cX0_pointsInto 19 = .ok (.getfield 9, 3) := by decide +kernel
theorem dX0_pointsInto_22 : decode cX0_pointsInto 22 = .ok (.iload_n 2, 1) := by decide +kernel
theorem dX0_pointsInto_23 : decode cX0_pointsInto 23 = .ok (.iaload, 1) := by decide +kernel
theorem dX0_pointsInto_24 : decode cX0_pointsInto 24 = .ok (.goto 4, 3) := by decide +kernel
theorem dX0_pointsInto_27 : decode cX0_pointsInto 27 = .ok (.iconst 0, 1) := by decide +kernel
theorem dX0_pointsInto_28 : decode cX0_pointsInto 28 = .ok (.iastore, 1) := by decide +kernel
theorem dX0_pointsInto_29 : decode cX0_pointsInto 29 = .ok (.iinc 2 1, 3) := by decide +kernel
theorem dX0_pointsInto_32 : decode cX0_pointsInto 32 = .ok (.goto (-30), 3) := by decide +kernel
theorem dX0_pointsInto_35 : decode cX0_pointsInto 35 = .ok (.iconst 0, 1) := by decide +kernel
theorem dX0_pointsInto_36 : decode cX0_pointsInto 36 = .ok (.istore_n 2, 1) := by decide +kernel
theorem dX0_pointsInto_37 : decode cX0_pointsInto 37 = .ok (.iload_n 2, 1) := by decide +kernel
theorem dX0_pointsInto_38 : decode cX0_pointsInto 38 = .ok (.aload_n 0, 1) := by decide +kernel
theorem dX0_pointsInto_39 : decode cX0_pointsInto 39 = .ok (.getfield 37, 3) := by decide +kernel
theorem dX0_pointsInto_42 : decode cX0_pointsInto 42 = .ok (.if_icmp .ge 30, 3) := by decide +kernel
theorem dX0_pointsInto_45 : decode cX0_pointsInto 45 = .ok (.aload_n 0, 1) := by decide +kernel
theorem dX0_pointsInto_46 : decode cX0_pointsInto 46 = .ok (.iload_n 2, 1) := by decide +kernel
theorem dX0_pointsInto_47 : decode cX0_pointsInto 47 = .ok (.invokevirtual 69, 3) := by decide +kernel
theorem dX0_pointsInto_50 : decode cX0_pointsInto 50 = .ok (.ifCond .ne 16, 3) := by decide +kernel
theorem dX0_pointsInto_53 : decode cX0_pointsInto 53 = .ok (.aload_n 0, 1) := by decide +kernel
theorem dX0_pointsInto_54 : decode cX0_pointsInto 54 = .ok (.aload_n 1, 1) := by decide +kernel
theorem dX0_pointsInto_55 : decode cX0_pointsInto 55 = .ok (.iload_n 2, 1) := by decide +kernel
theorem dX0_pointsInto_56 : decode cX0_pointsInto 56 = .ok (.aload_n 0, 1) := by decide +kernel
theorem dX0_pointsInto_57 : decode cX0_pointsInto 57 = .ok (.getfield 30, 3) := by decide +kernel
theorem dX0_pointsInto_60 : decode cX0_pointsInto 60 = .ok (.iload_n 2, 1) := by decide +kernel
theorem dX0_pointsInto_61 : decode cX0_pointsInto 61 = .ok (.iaload, 1) := by decide +kernel
theorem dX0_pointsInto_62 : decode cX0_pointsInto 62 = .ok (.iconst 1, 1) := by decide +kernel
theorem dX0_pointsInto_63 : decode cX0_pointsInto 63 = .ok (.invokevirtual 76, 3) := by decide +kernel
theorem dX0_pointsInto_66 : decode cX0_pointsInto 66 = .ok (.iinc 2 1, 3) := by decide +kernel
theorem dX0_pointsInto_69 : decode cX0_pointsInto 69 = .ok (.goto (-32), 3) := by decide +kernel
theorem dX0_pointsInto_72 : decode cX0_pointsInto 72 = .ok (.return_, 1) := by decide +kernel
def f_X0_pointsInto_28 (k2 : Nat × Nat × Int32 → Hp → Option (Unit × Hp)) (l0 : Nat) (l1 : Nat) (l2 : Int32) (s0 : Int32) (s1 : Int32) (s2 : Nat) (h0 : Hp) : Option (Unit × Hp) :=
  (aS h0 s2 s1 s0).bind fun h1 => (some (l2 + 1)).bind fun x2 => k2 (l0, l1, x2) h1
set_option maxRecDepth 100000 in
set_option maxHeartbeats 4000000 in
theorem c_X0_pointsInto_28 {X : Cx} {adr : Nat → Nat} {q : Unit × Hp} (hr : (mth X).sig.returnType = none) {k2 : Nat × Nat × Int32 → Hp → Option (Unit × Hp)} (hk2 : ∀ v h, k2 v h = some q → AW X cX0_pointsInto 3 RX0 (rmd 2 0 0) (Qmet X 0 0 (Qe none q.2 adr)) 0 0 adr h 2 [(0, .ref v.1), (1, .ref v.2.1), (2, .int v.2.2)] []) {l0 : Nat} {l1 : Nat} {l2 : Int32} {s0 : Int32} {s1 : Int32} {s2 : Nat} {h0 : Hp} (hf : f_X0_pointsInto_28 k2 l0 l1 l2 s0 s1 s2 h0 = some q) : AW X cX0_pointsInto 3 RX0 (rmd 2 0 0) (Qmet X 0 0 (Qe none q.2 adr)) 0 0 adr h0 28 [(0, .ref l0), (1, .ref l1), (2, .int l2)] [.int s0, .int s1, .ref s2] := by
  unfold f_X0_pointsInto_28 at hf
  obtain ⟨h1, eh1, hf⟩ := b_some hf
  refine aw_iast dX0_pointsInto_28 eh1 ?_
  obtain ⟨x2, ex2, hf⟩ := b_some hf
  refine aw_iinc (v := x2) (L' := [(2, .int x2), (0, .ref l0), (1, .ref l1)]) 2 dX0_pointsInto_29 rfl (Option.some.inj ex2) (by decide) rfl ?_
  refine aw_goto (tgt := 2) dX0_pointsInto_32 (by decide) ?_
  exact aw_sub [1, 2, 0] rfl (hk2 _ _ hf)
def f_X0_pointsInto_37 (k37 : Nat × Nat × Int32 → Hp → Option (Unit × Hp)) (v : Nat × Nat × Int32) (h0 : Hp) : Option (Unit × Hp) :=
  match v with
  | (l0, l1, l2) => (gI h0 l0 0 1).bind fun x1 => if x1 ≤ l2 then (some ((), h0)) else ((f_X0_isLeft l0 l2 h0).bind fun q3 => if q3.1 = 0 then ((gR q3.2 l0 0 9).bind fun r6 => (aL q3.2 r6 l2).bind fun x7 => (f_X0_award l0 l1 l2 x7 (1 : Int32) q3.2).bind fun q8 => (some (l2 + 1)).bind fun x9 => k37 (l0, l1, x9) q8.2) else ((some (l2 + 1)).bind fun x5 => k37 (l0, l1, x5) q3.2))
set_option maxRecDepth 100000 in
set_option maxHeartbeats 4000000 in
theorem c_X0_pointsInto_37 {X : Cx} {adr : Nat → Nat} {q : Unit × Hp} (hr : (mth X).sig.returnType = none) (n : Nat) : ∀ v h0, lp (f_X0_pointsInto_37) n v h0 = some q → AW X cX0_pointsInto 3 RX0 (rmd 2 0 0) (Qmet X 0 0 (Qe none q.2 adr)) 0 0 adr h0 37 [(0, .ref v.1), (1, .ref v.2.1), (2, .int v.2.2)] [] := by
  refine aw_lp (fun k37 hk37 v h0 hf => ?_) n
  obtain ⟨l0, l1, l2⟩ := v
  show AW X cX0_pointsInto 3 RX0 (rmd 2 0 0) (Qmet X 0 0 (Qe none q.2 adr)) 0 0 adr h0 37 [(0, .ref l0), (1, .ref l1), (2, .int l2)] []
  refine aw_iload_n 2 dX0_pointsInto_37 rfl rfl ?_
  refine aw_aload_n 0 dX0_pointsInto_38 rfl rfl ?_
  obtain ⟨x1, ex1, hf⟩ := b_some hf
  refine aw_getI dX0_pointsInto_39 gfX0_37 ex1 ?_
  refine aw_icmp_ge (tgt := 72) dX0_pointsInto_42 (by decide) (fun c2 => ?_) (fun c2 => ?_)
  · have hf := i_pos c2 hf
    cases hf
    exact aw_vret hr dX0_pointsInto_72 ⟨rfl, rfl, rfl⟩
  · have hf := i_neg c2 hf
    refine aw_aload_n 0 dX0_pointsInto_45 rfl rfl ?_
    refine aw_iload_n 2 dX0_pointsInto_46 rfl rfl ?_
    obtain ⟨q3, eq3, hf⟩ := b_some hf
    refine aw_cV (as := [.int l2]) dX0_pointsInto_47 moX0_isLeft voX0_isLeft mlX0_69 (k_X0_isLeft eq3) rfl (rm_ok (by omega) (by decide)) ⟨Nat.le_refl _, Nat.le_refl _⟩ (Nat.le_of_ble_eq_true rfl) rfl (c_X0_isLeft eq3) ?_
    refine aw_if_ne (tgt := 66) dX0_pointsInto_50 (by decide) (fun c4 => ?_) (fun c4 => ?_)
    · have hf := i_neg c4 hf
      obtain ⟨x5, ex5, hf⟩ := b_some hf
      refine aw_iinc (v := x5) (L' := [(2, .int x5), (0, .ref l0), (1, .ref l1)]) 2 dX0_pointsInto_66 rfl (Option.some.inj ex5) (by decide) rfl ?_
      refine aw_goto (tgt := 37) dX0_pointsInto_69 (by decide) ?_
      exact aw_sub [1, 2, 0] rfl (hk37 _ _ hf)
    · have hf := i_pos c4 hf
      refine aw_aload_n 0 dX0_pointsInto_53 rfl rfl ?_
      refine aw_aload_n 1 dX0_pointsInto_54 rfl rfl ?_
      refine aw_iload_n 2 dX0_pointsInto_55 rfl rfl ?_
      refine aw_aload_n 0 dX0_pointsInto_56 rfl rfl ?_
      obtain ⟨r6, er6, hf⟩ := b_some hf
      refine aw_getR dX0_pointsInto_57 gfX0_30 er6 ?_
      refine aw_iload_n 2 dX0_pointsInto_60 rfl rfl ?_
      obtain ⟨x7, ex7, hf⟩ := b_some hf
      refine aw_iald dX0_pointsInto_61 ex7 ?_
      refine aw_iconst (v := 1) dX0_pointsInto_62 (by decide) ?_
      obtain ⟨q8, eq8, hf⟩ := b_some hf
      refine aw_cV0 (as := [.ref l1, .int l2, .int x7, .int (1 : Int32)]) dX0_pointsInto_63 moX0_award voX0_award mlX0_76 (k_X0_award eq8) rfl (rm_ok (by omega) (by decide)) ⟨Nat.le_refl _, Nat.le_refl _⟩ (Nat.le_of_ble_eq_true rfl) rfl (c_X0_award eq8) ?_
      obtain ⟨x9, ex9, hf⟩ := b_some hf
      refine aw_iinc (v := x9) (L' := [(2, .int x9), (0, .ref l0), (1, .ref l1)]) 2 dX0_pointsInto_66 rfl (Option.some.inj ex9) (by decide) rfl ?_
      refine aw_goto (tgt := 37) dX0_pointsInto_69 (by decide) ?_
      exact aw_sub [1, 2, 0] rfl (hk37 _ _ hf)
def f_X0_pointsInto_2 (k2 : Nat × Nat × Int32 → Hp → Option (Unit × Hp)) (v : Nat × Nat × Int32) (h0 : Hp) : Option (Unit × Hp) :=
  match v with
  | (l0, l1, l2) => if (6 : Int32) ≤ l2 then (lp (f_X0_pointsInto_37) 600 (l0, l1, (0 : Int32)) h0) else ((gI h0 l0 0 0).bind fun x2 => if x2 ≤ l2 then (f_X0_pointsInto_28 k2 l0 l1 l2 (0 : Int32) l2 l1 h0) else ((gR h0 l0 0 3).bind fun r4 => (aL h0 r4 l2).bind fun x5 => f_X0_pointsInto_28 k2 l0 l1 l2 x5 l2 l1 h0))
set_option maxRecDepth 100000 in
set_option maxHeartbeats 4000000 in
theorem c_X0_pointsInto_2 {X : Cx} {adr : Nat → Nat} {q : Unit × Hp} (hr : (mth X).sig.returnType = none) (n : Nat) : ∀ v h0, lp (f_X0_pointsInto_2) n v h0 = some q → AW X cX0_pointsInto 3 RX0 (rmd 2 0 0) (Qmet X 0 0 (Qe none q.2 adr)) 0 0 adr h0 2 [(0, .ref v.1), (1, .ref v.2.1), (2, .int v.2.2)] [] := by
  refine aw_lp (fun k2 hk2 v h0 hf => ?_) n
  obtain ⟨l0, l1, l2⟩ := v
  show AW X cX0_pointsInto 3 RX0 (rmd 2 0 0) (Qmet X 0 0 (Qe none q.2 adr)) 0 0 adr h0 2 [(0, .ref l0), (1, .ref l1), (2, .int l2)] []
  refine aw_iload_n 2 dX0_pointsInto_2 rfl rfl ?_
  refine aw_bipush (v := 6) dX0_pointsInto_3 (by decide) ?_
  refine aw_icmp_ge (tgt := 35) dX0_pointsInto_5 (by decide) (fun c1 => ?_) (fun c1 => ?_)
  · have hf := i_pos c1 hf
    refine aw_iconst (v := 0) dX0_pointsInto_35 (by decide) ?_
    refine aw_istore_n (L' := [(2, .int (0 : Int32)), (0, .ref l0), (1, .ref l1)]) dX0_pointsInto_36 rfl (by decide) rfl ?_
    exact aw_sub [1, 2, 0] rfl (c_X0_pointsInto_37 hr 600 _ _ hf)
  · have hf := i_neg c1 hf
    refine aw_aload_n 1 dX0_pointsInto_8 rfl rfl ?_
    refine aw_iload_n 2 dX0_pointsInto_9 rfl rfl ?_
    refine aw_iload_n 2 dX0_pointsInto_10 rfl rfl ?_
    refine aw_aload_n 0 dX0_pointsInto_11 rfl rfl ?_
    obtain ⟨x2, ex2, hf⟩ := b_some hf
    refine aw_getI dX0_pointsInto_12 gfX0_33 ex2 ?_
    refine aw_icmp_ge (tgt := 27) dX0_pointsInto_15 (by decide) (fun c3 => ?_) (fun c3 => ?_)
    · have hf := i_pos c3 hf
      refine aw_iconst (v := 0) dX0_pointsInto_27 (by decide) ?_
      exact aw_sub [0, 1, 2] rfl (c_X0_pointsInto_28 hr hk2 hf)
    · have hf := i_neg c3 hf
      refine aw_aload_n 0 dX0_pointsInto_18 rfl rfl ?_
      obtain ⟨r4, er4, hf⟩ := b_some hf
      refine aw_getR dX0_pointsInto_19 gfX0_9 er4 ?_
      refine aw_iload_n 2 dX0_pointsInto_22 rfl rfl ?_
      obtain ⟨x5, ex5, hf⟩ := b_some hf
      refine aw_iald dX0_pointsInto_23 ex5 ?_
      refine aw_goto (tgt := 28) dX0_pointsInto_24 (by decide) ?_
      exact aw_sub [0, 1, 2] rfl (c_X0_pointsInto_28 hr hk2 hf)
def f_X0_pointsInto (l0 : Nat) (l1 : Nat) (h0 : Hp) : Option (Unit × Hp) :=
  (ck h0 l0 0).bind fun _ => lp (f_X0_pointsInto_2) 600 (l0, l1, (0 : Int32)) h0
set_option maxRecDepth 100000 in
set_option maxHeartbeats 4000000 in
theorem c_X0_pointsInto {l0 : Nat} {l1 : Nat} {h0 : Hp} {q : Unit × Hp} (hf : f_X0_pointsInto l0 l1 h0 = some q) : Mt 2 yX0_pointsInto cX0_pointsInto 3 none [.ref l0, .ref l1] h0 none q.2 := by
  refine MtQ.of (by decide) (Nat.le_of_ble_eq_true rfl) (fun X adr hr hn => ?_)
  unfold f_X0_pointsInto at hf
  show AW X cX0_pointsInto 3 RX0 (rmd 2 0 0) (Qmet X 0 0 (Qe none q.2 adr)) 0 0 adr h0 0 [(0, .ref l0), (1, .ref l1)] []
  obtain ⟨u0, e0, hf⟩ := b_some hf
  refine aw_iconst (v := 0) dX0_pointsInto_0 (by decide) ?_
  refine aw_istore_n (L' := [(2, .int (0 : Int32)), (0, .ref l0), (1, .ref l1)]) dX0_pointsInto_1 rfl (by decide) rfl ?_
  exact aw_sub [1, 2, 0] rfl (c_X0_pointsInto_2 hr 600 _ _ hf)
theorem k_X0_pointsInto {l0 : Nat} {l1 : Nat} {h0 : Hp} {q : Unit × Hp} (hf : f_X0_pointsInto l0 l1 h0 = some q) : ck h0 l0 0 = some () := by
  unfold f_X0_pointsInto at hf
  obtain ⟨u0, e0, hf⟩ := b_some hf
  exact e0
theorem dX0_takeFrom_0 : decode cX0_takeFrom 0 = .ok (.aload_n 0, 1) := by decide +kernel
theorem dX0_takeFrom_1 : decode cX0_takeFrom 1 = .ok (.aload_n 1, 1) := by decide +kernel
theorem dX0_takeFrom_2 : decode cX0_takeFrom 2 = .ok (.getfield 33, 3) := by decide +kernel
theorem dX0_takeFrom_5 : decode cX0_takeFrom 5 = .ok (.putfield 33, 3) := by decide +kernel
theorem dX0_takeFrom_8 : decode cX0_takeFrom 8 = .ok (.aload_n 0, 1) := by decide +kernel
theorem dX0_takeFrom_9 : decode cX0_takeFrom 9 = .ok (.aload_n 1, 1) := by decide +kernel
theorem dX0_takeFrom_10 : decode cX0_takeFrom 10 = .ok (.getfield 37, 3) := by decide +kernel
theorem dX0_takeFrom_13 : decode cX0_takeFrom 13 = .ok (.putfield 37, 3) := by decide +kernel
theorem dX0_takeFrom_16 : decode cX0_takeFrom 16 = .ok (.aload_n 0, 1) := by decide +kernel
theorem dX0_takeFrom_17 : decode cX0_takeFrom 17 = .ok (.aload_n 1, 1) := by decide +kernel
theorem dX0_takeFrom_18 : decode cX0_takeFrom 18 = .ok (.getfield 40, 3) := by decide +kernel
theorem dX0_takeFrom_21 : decode cX0_takeFrom 21 = .ok (.putfield 40, 3) := by decide +kernel
theorem dX0_takeFrom_24 : decode cX0_takeFrom 24 = .ok (.aload_n 1, 1) := by decide +kernel
theorem dX0_takeFrom_25 : decode cX0_takeFrom 25 = .ok (.getfield 9, 3) := by decide +kernel
theorem dX0_takeFrom_28 : decode cX0_takeFrom 28 = .ok (.iconst 0, 1) := by decide +kernel
theorem dX0_takeFrom_29 : decode cX0_takeFrom 29 = .ok (.aload_n 0, 1) := by decide +kernel
theorem dX0_takeFrom_30 : decode cX0_takeFrom 30 = .ok (.getfield 9, 3) := by decide +kernel
theorem dX0_takeFrom_33 : decode cX0_takeFrom 33 = .ok (.iconst 0, 1) := by decide +kernel
theorem dX0_takeFrom_34 : decode cX0_takeFrom 34 = .ok (.bipush 6, 2) := by decide +kernel
theorem dX0_takeFrom_36 : decode cX0_takeFrom 36 = .ok (.invokestatic 43, 3) := by decide +kernel
theorem dX0_takeFrom_39 : decode cX0_takeFrom 39 = .ok (.aload_n 1, 1) := by decide +kernel
theorem dX0_takeFrom_40 : decode cX0_takeFrom 40 = .ok (.getfield 15, 3) := by decide +kernel
theorem dX0_takeFrom_43 : decode cX0_takeFrom 43 = .ok (.iconst 0, 1) := by decide +kernel
theorem dX0_takeFrom_44 : decode cX0_takeFrom 44 = .ok (.aload_n 0, 1) := by decide +kernel
theorem dX0_takeFrom_45 : decode cX0_takeFrom 45 = .ok (.getfield 15, 3) := by decide +kernel
theorem dX0_takeFrom_48 : decode cX0_takeFrom 48 = .ok (.iconst 0, 1) := by decide +kernel
theorem dX0_takeFrom_49 : decode cX0_takeFrom 49 = .ok (.bipush 6, 2) := by decide +kernel
theorem dX0_takeFrom_51 : decode cX0_takeFrom 51 = .ok (.invokestatic 43, 3) := by decide +kernel
theorem dX0_takeFrom_54 : decode cX0_takeFrom 54 = .ok (.aload_n 1, 1) := by decide +kernel
theorem dX0_takeFrom_55 : decode cX0_takeFrom 55 = .ok (.getfield 18, 3) := by decide +kernel
theorem dX0_takeFrom_58 : decode cX0_takeFrom 58 = .ok (.iconst 0, 1) := by decide +kernel
theorem dX0_takeFrom_59 : decode cX0_takeFrom 59 = .ok (.aload_n 0, 1) := by decide +kernel
theorem dX0_takeFrom_60 : decode cX0_takeFrom 60 = .ok (.getfield 18, 3) := by decide +kernel
theorem dX0_takeFrom_63 : decode cX0_takeFrom 63 = .ok (.iconst 0, 1) := by decide +kernel
theorem dX0_takeFrom_64 : decode cX0_takeFrom 64 = .ok (.bipush 36, 2) := by decide +kernel
theorem dX0_takeFrom_66 : decode cX0_takeFrom 66 = .ok (.invokestatic 43, 3) := by decide +kernel
theorem dX0_takeFrom_69 : decode cX0_takeFrom 69 = .ok (.aload_n 1, 1) := by decide +kernel
theorem dX0_takeFrom_70 : decode cX0_takeFrom 70 = .ok (.getfield 21, 3) := by decide +kernel
theorem dX0_takeFrom_73 : decode cX0_takeFrom 73 = .ok (.iconst 0, 1) := by decide +kernel
theorem dX0_takeFrom_74 : decode cX0_takeFrom 74 = .ok (.aload_n 0, 1) := by decide +kernel
theorem dX0_takeFrom_75 : decode cX0_takeFrom 75 = .ok (.getfield 21, 3) := by decide +kernel
theorem dX0_takeFrom_78 : decode cX0_takeFrom 78 = .ok (.iconst 0, 1) := by decide +kernel
theorem dX0_takeFrom_79 : decode cX0_takeFrom 79 = .ok (.bipush 9, 2) := by decide +kernel
theorem dX0_takeFrom_81 : decode cX0_takeFrom 81 = .ok (.invokestatic 43, 3) := by decide +kernel
theorem dX0_takeFrom_84 : decode cX0_takeFrom 84 = .ok (.aload_n 1, 1) := by decide +kernel
theorem dX0_takeFrom_85 : decode cX0_takeFrom 85 = .ok (.getfield 24, 3) := by decide +kernel
theorem dX0_takeFrom_88 : decode cX0_takeFrom 88 = .ok (.iconst 0, 1) := by decide +kernel
theorem dX0_takeFrom_89 : decode cX0_takeFrom 89 = .ok (.aload_n 0, 1) := by decide +kernel
theorem dX0_takeFrom_90 : decode cX0_takeFrom 90 = .ok (.getfield 24, 3) := by decide +kernel
theorem dX0_takeFrom_93 : decode cX0_takeFrom 93 = .ok (.iconst 0, 1) := by decide +kernel
theorem dX0_takeFrom_94 : decode cX0_takeFrom 94 = .ok (.bipush 9, 2) := by decide +kernel
theorem dX0_takeFrom_96 : decode cX0_takeFrom 96 = .ok (.invokestatic 43, 3) := by decide +kernel
theorem dX0_takeFrom_99 : decode cX0_takeFrom 99 = .ok (.aload_n 1, 1) := by decide +kernel
theorem dX0_takeFrom_100 : decode cX0_takeFrom 100 = .ok (.getfield 27, 3) := by decide +kernel
theorem dX0_takeFrom_103 : decode cX0_takeFrom 103 = .ok (.iconst 0, 1) := by decide +kernel
theorem dX0_takeFrom_104 : decode cX0_takeFrom 104 = .ok (.aload_n 0, 1) := by decide +kernel
theorem dX0_takeFrom_105 : decode cX0_takeFrom 105 = .ok (.getfield 27, 3) := by decide +kernel
theorem dX0_takeFrom_108 : decode cX0_takeFrom 108 = .ok (.iconst 0, 1) := by decide +kernel
theorem dX0_takeFrom_109 : decode cX0_takeFrom 109 = .ok (.bipush 9, 2) := by decide +kernel
theorem dX0_takeFrom_111 : decode cX0_takeFrom 111 = .ok (.invokestatic 43, 3) := by decide +kernel
theorem dX0_takeFrom_114 : decode cX0_takeFrom 114 = .ok (.aload_n 1, 1) := by decide +kernel
theorem dX0_takeFrom_115 : decode cX0_takeFrom 115 = .ok (.getfield 30, 3) := by decide +kernel
theorem dX0_takeFrom_118 : decode cX0_takeFrom 118 = .ok (.iconst 0, 1) := by decide +kernel
theorem dX0_takeFrom_119 : decode cX0_takeFrom 119 = .ok (.aload_n 0, 1) := by decide +kernel
theorem dX0_takeFrom_120 : decode cX0_takeFrom 120 = .ok (.getfield 30, 3) := by decide +kernel
theorem dX0_takeFrom_123 : decode cX0_takeFrom 123 = .ok (.iconst 0, 1) := by decide +kernel
theorem dX0_takeFrom_124 : decode cX0_takeFrom 124 = .ok (.bipush 9, 2) := by decide +kernel
theorem dX0_takeFrom_126 : decode cX0_takeFrom 126 = .ok (.invokestatic 43, 3) := by decide +kernel
theorem dX0_takeFrom_129 : decode cX0_takeFrom 129 = .ok (.return_, 1) := by decide +kernel
def f_X0_takeFrom (l0 : Nat) (l1 : Nat) (h0 : Hp) : Option (Unit × Hp) :=
  (ck h0 l0 0).bind fun _ => (gI h0 l1 0 0).bind fun x1 => (pI h0 l0 0 0 x1).bind fun h2 => (gI h2 l1 0 1).bind fun x3 => (pI h2 l0 0 1 x3).bind fun h4 => (gI h4 l1 0 2).bind fun x5 => (pI h4 l0 0 2 x5).bind fun h6 => (gR h6 l1 0 3).bind fun r7 => (gR h6 l0 0 3).bind fun r8 => (aC h6 r7 (0 : Int32) r8 (0 : Int32) (6 : Int32)).bind fun h9 => (gR h9 l1 0 4).bind fun r10 => (gR h9 l0 0 4).bind fun r11 => (aC h9 r10 (0 : Int32) r11 (0 : Int32) (6 : Int32)).bind fun h12 => (gR h12 l1 0 5).bind fun r13 => (gR h12 l0 0 5).bind fun r14 => (aC h12 r13 (0 : Int32) r14 (0 : Int32) (36 : Int32)).bind fun h15 => (gR h15 l1 0 6).bind fun r16 => (gR h15 l0 0 6).bind fun r17 => (aC h15 r16 (0 : Int32) r17 (0 : Int32) (9 : Int32)).bind fun h18 => (gR h18 l1 0 7).bind fun r19 => (gR h18 l0 0 7).bind fun r20 => (aC h18 r19 (0 : Int32) r20 (0 : Int32) (9 : Int32)).bind fun h21 => (gR h21 l1 0 8).bind fun r22 => (gR h21 l0 0 8).bind fun r23 => (aC h21 r22 (0 : Int32) r23 (0 : Int32) (9 : Int32)).bind fun h24 => (gR h24 l1 0 9).bind fun r25 => (gR h24 l0 0 9).bind fun r26 => (aC h24 r25 (0 : Int32) r26 (0 : Int32) (9 : Int32)).bind fun h27 => some ((), h27)
set_option maxRecDepth 100000 in
set_option maxHeartbeats 4000000 in
theorem c_X0_takeFrom {l0 : Nat} {l1 : Nat} {h0 : Hp} {q : Unit × Hp} (hf : f_X0_takeFrom l0 l1 h0 = some q) : Mt 2 yX0_takeFrom cX0_takeFrom 2 none [.ref l0, .ref l1] h0 none q.2 := by
  refine MtQ.of (by decide) (Nat.le_of_ble_eq_true rfl) (fun X adr hr hn => ?_)
  unfold f_X0_takeFrom at hf
  show AW X cX0_takeFrom 2 RX0 (rmd 2 0 0) (Qmet X 0 0 (Qe none q.2 adr)) 0 0 adr h0 0 [(0, .ref l0), (1, .ref l1)] []
  obtain ⟨u0, e0, hf⟩ := b_some hf
  refine aw_aload_n 0 dX0_takeFrom_0 rfl rfl ?_
  refine aw_aload_n 1 dX0_takeFrom_1 rfl rfl ?_
  obtain ⟨x1, ex1, hf⟩ := b_some hf
  refine aw_getI dX0_takeFrom_2 gfX0_33 ex1 ?_
  obtain ⟨h2, eh2, hf⟩ := b_some hf
  refine aw_putI dX0_takeFrom_5 pfX0_33 eh2 ?_
  refine aw_aload_n 0 dX0_takeFrom_8 rfl rfl ?_
  refine aw_aload_n 1 dX0_takeFrom_9 rfl rfl ?_
  obtain ⟨x3, ex3, hf⟩ := b_some hf
  refine aw_getI dX0_takeFrom_10 gfX0_37 ex3 ?_
  obtain ⟨h4, eh4, hf⟩ := b_some hf
  refine aw_putI dX0_takeFrom_13 pfX0_37 eh4 ?_
  refine aw_aload_n 0 dX0_takeFrom_16 rfl rfl ?_
  refine aw_aload_n 1 dX0_takeFrom_17 rfl rfl ?_
  obtain ⟨x5, ex5, hf⟩ := b_some hf
  refine aw_getI dX0_takeFrom_18 gfX0_40 ex5 ?_
  obtain ⟨h6, eh6, hf⟩ := b_some hf
  refine aw_putI dX0_takeFrom_21 pfX0_40 eh6 ?_
  refine aw_aload_n 1 dX0_takeFrom_24 rfl rfl ?_
  obtain ⟨r7, er7, hf⟩ := b_some hf
  refine aw_getR dX0_takeFrom_25 gfX0_9 er7 ?_
  refine aw_iconst (v := 0) dX0_takeFrom_28 (by decide) ?_
  refine aw_aload_n 0 dX0_takeFrom_29 rfl rfl ?_
  obtain ⟨r8, er8, hf⟩ := b_some hf
  refine aw_getR dX0_takeFrom_30 gfX0_9 er8 ?_
  refine aw_iconst (v := 0) dX0_takeFrom_33 (by decide) ?_
  refine aw_bipush (v := 6) dX0_takeFrom_34 (by decide) ?_
  obtain ⟨h9, eh9, hf⟩ := b_some hf
  refine aw_copy dX0_takeFrom_36 mlX0_43 (by decide) (Nat.le_of_ble_eq_true rfl) eh9 ?_
  refine aw_aload_n 1 dX0_takeFrom_39 rfl rfl ?_
  obtain ⟨r10, er10, hf⟩ := b_some hf
  refine aw_getR dX0_takeFrom_40 gfX0_15 er10 ?_
  refine aw_iconst (v := 0) dX0_takeFrom_43 (by decide) ?_
  refine aw_aload_n 0 dX0_takeFrom_44 rfl rfl ?_
  obtain ⟨r11, er11, hf⟩ := b_some hf
  refine aw_getR dX0_takeFrom_45 gfX0_15 er11 ?_
  refine aw_iconst (v := 0) dX0_takeFrom_48 (by decide) ?_
  refine aw_bipush (v := 6) dX0_takeFrom_49 (by decide) ?_
  obtain ⟨h12, eh12, hf⟩ := b_some hf
  refine aw_copy dX0_takeFrom_51 mlX0_43 (by decide) (Nat.le_of_ble_eq_true rfl) eh12 ?_
  refine aw_aload_n 1 dX0_takeFrom_54 rfl rfl ?_
  obtain ⟨r13, er13, hf⟩ := b_some hf
  refine aw_getR dX0_takeFrom_55 gfX0_18 er13 ?_
  refine aw_iconst (v := 0) dX0_takeFrom_58 (by decide) ?_
  refine aw_aload_n 0 dX0_takeFrom_59 rfl rfl ?_
  obtain ⟨r14, er14, hf⟩ := b_some hf
  refine aw_getR dX0_takeFrom_60 gfX0_18 er14 ?_
  refine aw_iconst (v := 0) dX0_takeFrom_63 (by decide) ?_
  refine aw_bipush (v := 36) dX0_takeFrom_64 (by decide) ?_
  obtain ⟨h15, eh15, hf⟩ := b_some hf
  refine aw_copy dX0_takeFrom_66 mlX0_43 (by decide) (Nat.le_of_ble_eq_true rfl) eh15 ?_
  refine aw_aload_n 1 dX0_takeFrom_69 rfl rfl ?_
  obtain ⟨r16, er16, hf⟩ := b_some hf
  refine aw_getR dX0_takeFrom_70 gfX0_21 er16 ?_
  refine aw_iconst (v := 0) dX0_takeFrom_73 (by decide) ?_
  refine aw_aload_n 0 dX0_takeFrom_74 rfl rfl ?_
  obtain ⟨r17, er17, hf⟩ := b_some hf
  refine aw_getR dX0_takeFrom_75 gfX0_21 er17 ?_
  refine aw_iconst (v := 0) dX0_takeFrom_78 (by decide) ?_
  refine aw_bipush (v := 9) dX0_takeFrom_79 (by decide) ?_
  obtain ⟨h18, eh18, hf⟩ := b_some hf
  refine aw_copy dX0_takeFrom_81 mlX0_43 (by decide) (Nat.le_of_ble_eq_true rfl) eh18 ?_
  refine aw_aload_n 1 dX0_takeFrom_84 rfl rfl ?_
  obtain ⟨r19, er19, hf⟩ := b_some hf
  refine aw_getR dX0_takeFrom_85 gfX0_24 er19 ?_
  refine aw_iconst (v := 0) dX0_takeFrom_88 (by decide) ?_
  refine aw_aload_n 0 dX0_takeFrom_89 rfl rfl ?_
  obtain ⟨r20, er20, hf⟩ := b_some hf
  refine aw_getR dX0_takeFrom_90 gfX0_24 er20 ?_
  refine aw_iconst (v := 0) dX0_takeFrom_93 (by decide) ?_
  refine aw_bipush (v := 9) dX0_takeFrom_94 (by decide) ?_
  obtain ⟨h21, eh21, hf⟩ := b_some hf
  refine aw_copy dX0_takeFrom_96 mlX0_43 (by decide) (Nat.le_of_ble_eq_true rfl) eh21 ?_
  refine aw_aload_n 1 dX0_takeFrom_99 rfl rfl ?_
  obtain ⟨r22, er22, hf⟩ := b_some hf
  refine aw_getR dX0_takeFrom_100 gfX0_27 er22 ?_
  refine aw_iconst (v := 0) dX0_takeFrom_103 (by decide) ?_
  refine aw_aload_n 0 dX0_takeFrom_104 rfl rfl ?_
  obtain ⟨r23, er23, hf⟩ := b_some hf
  refine aw_getR dX0_takeFrom_105 gfX0_27 er23 ?_
  refine aw_iconst (v := 0) dX0_takeFrom_108 (by decide) ?_
  refine aw_bipush (v := 9) dX0_takeFrom_109 (by decide) ?_
  obtain ⟨h24, eh24, hf⟩ := b_some hf
  refine aw_copy dX0_takeFrom_111 mlX0_43 (by decide) (Nat.le_of_ble_eq_true rfl) eh24 ?_
  refine aw_aload_n 1 dX0_takeFrom_114 rfl rfl ?_
  obtain ⟨r25, er25, hf⟩ := b_some hf
  refine aw_getR dX0_takeFrom_115 gfX0_30 er25 ?_
  refine aw_iconst (v := 0) dX0_takeFrom_118 (by decide) ?_
  refine aw_aload_n 0 dX0_takeFrom_119 rfl rfl ?_
  obtain ⟨r26, er26, hf⟩ := b_some hf
  refine aw_getR dX0_takeFrom_120 gfX0_30 er26 ?_
  refine aw_iconst (v := 0) dX0_takeFrom_123 (by decide) ?_
  refine aw_bipush (v := 9) dX0_takeFrom_124 (by decide) ?_
  obtain ⟨h27, eh27, hf⟩ := b_some hf
  refine aw_copy dX0_takeFrom_126 mlX0_43 (by decide) (Nat.le_of_ble_eq_true rfl) eh27 ?_
  cases hf
  exact aw_vret hr dX0_takeFrom_129 ⟨rfl, rfl, rfl⟩
theorem k_X0_takeFrom {l0 : Nat} {l1 : Nat} {h0 : Hp} {q : Unit × Hp} (hf : f_X0_takeFrom l0 l1 h0 = some q) : ck h0 l0 0 = some () := by
  unfold f_X0_takeFrom at hf
  obtain ⟨u0, e0, hf⟩ := b_some hf
  exact e0
theorem dX0_wasPlayedOn_0 : decode cX0_wasPlayedOn 0 = .ok (.iconst 0, 1) := by decide +kernel
theorem dX0_wasPlayedOn_1 : decode cX0_wasPlayedOn 1 = .ok (.istore_n 2, 1) := by decide +kernel
theorem dX0_wasPlayedOn_2 : decode cX0_wasPlayedOn 2 = .ok (.iload_n 2, 1) := by decide +kernel
theorem dX0_wasPlayedOn_3 : decode cX0_wasPlayedOn 3 = .ok (.aload_n 0, 1) := by decide +kernel
theorem dX0_wasPlayedOn_4 : decode cX0_wasPlayedOn 4 = .ok (.getfield 37, 3) := by decide +kernel
theorem dX0_wasPlayedOn_7 : decode cX0_wasPlayedOn 7 = .ok (.if_icmp .ge 29, 3) := by decide +kernel
theorem dX0_wasPlayedOn_10 : decode cX0_wasPlayedOn 10 = .ok (.aload_n 0, 1) := by decide +kernel
theorem dX0_wasPlayedOn_11 : decode cX0_wasPlayedOn 11 = .ok (.getfield 27, 3) := by decide +kernel
theorem dX0_wasPlayedOn_14 : decode cX0_wasPlayedOn 14 = .ok (.iload_n 2, 1) := by decide +kernel
theorem dX0_wasPlayedOn_15 : decode cX0_wasPlayedOn 15 = .ok (.iaload, 1) := by decide +kernel
theorem dX0_wasPlayedOn_16 : decode cX0_wasPlayedOn 16 = .ok (.iload_n 1, 1) := by decide +kernel
theorem dX0_wasPlayedOn_17 : decode cX0_wasPlayedOn 17 = .ok (.if_icmp .ne 13, 3) := by decide +kernel
theorem dX0_wasPlayedOn_20 : decode cX0_wasPlayedOn 20 = .ok (.aload_n 0, 1) := by decide +kernel
theorem dX0_wasPlayedOn_21 : decode cX0_wasPlayedOn 21 = .ok (.iload_n 2, 1) := by decide +kernel
theorem dX0_wasPlayedOn_22 : decode cX0_wasPlayedOn 22 = .ok (.invokevirtual 69, 3) := by decide +kernel
theorem dX0_wasPlayedOn_25 : decode cX0_wasPlayedOn 25 = .ok (.ifCond .ne 5, 3) := by decide +kernel
theorem dX0_wasPlayedOn_28 : decode cX0_wasPlayedOn 28 = .ok (.iconst 1, 1) := by decide +kernel
theorem dX0_wasPlayedOn_29 : decode cX0_wasPlayedOn 29 = .ok (.ireturn, 1) := by decide +kernel
theorem dX0_wasPlayedOn_30 : decode cX0_wasPlayedOn 30 = .ok (.iinc 2 1, 3) := by decide +kernel
theorem dX0_wasPlayedOn_33 : decode cX0_wasPlayedOn 33 = .ok (.goto (-31), 3) := by decide +kernel
theorem dX0_wasPlayedOn_36 : decode cX0_wasPlayedOn 36 = .ok (.iconst 0, 1) := by decide +kernel
theorem dX0_wasPlayedOn_37 : decode cX0_wasPlayedOn 37 = .ok (.ireturn, 1) := by decide +kernel
def f_X0_wasPlayedOn_2 (k2 : Nat × Int32 × Int32 → Hp → Option (Int32 × Hp)) (v : Nat × Int32 × Int32) (h0 : Hp) : Option (Int32 × Hp) :=
  match v with
  | (l0, l1, l2) => (gI h0 l0 0 1).bind fun x1 => if x1 ≤ l2 then (some ((0 : Int32), h0)) else ((gR h0 l0 0 8).bind fun r3 => (aL h0 r3 l2).bind fun x4 => if x4 = l1 then ((f_X0_isLeft l0 l2 h0).bind fun q7 => if q7.1 = 0 then (some ((1 : Int32), q7.2)) else ((some (l2 + 1)).bind fun x9 => k2 (l0, l1, x9) q7.2)) else ((some (l2 + 1)).bind fun x6 => k2 (l0, l1, x6) h0))
set_option maxRecDepth 100000 in
set_option maxHeartbeats 4000000 in
theorem c_X0_wasPlayedOn_2 {X : Cx} {adr : Nat → Nat} {q : Int32 × Hp} (hr : (mth X).sig.returnType = (some .boolean)) (n : Nat) : ∀ v h0, lp (f_X0_wasPlayedOn_2) n v h0 = some q → AW X cX0_wasPlayedOn 3 RX0 (rmd 2 0 0) (Qmet X 0 0 (Qe (some (.int q.1)) q.2 adr)) 0 0 adr h0 2 [(0, .ref v.1), (1, .int v.2.1), (2, .int v.2.2)] [] := by
  refine aw_lp (fun k2 hk2 v h0 hf => ?_) n
  obtain ⟨l0, l1, l2⟩ := v
  show AW X cX0_wasPlayedOn 3 RX0 (rmd 2 0 0) (Qmet X 0 0 (Qe (some (.int q.1)) q.2 adr)) 0 0 adr h0 2 [(0, .ref l0), (1, .int l1), (2, .int l2)] []
  refine aw_iload_n 2 dX0_wasPlayedOn_2 rfl rfl ?_
  refine aw_aload_n 0 dX0_wasPlayedOn_3 rfl rfl ?_
  obtain ⟨x1, ex1, hf⟩ := b_some hf
  refine aw_getI dX0_wasPlayedOn_4 gfX0_37 ex1 ?_
  refine aw_icmp_ge (tgt := 36) dX0_wasPlayedOn_7 (by decide) (fun c2 => ?_) (fun c2 => ?_)
  · have hf := i_pos c2 hf
    refine aw_iconst (v := 0) dX0_wasPlayedOn_36 (by decide) ?_
    cases hf
    exact aw_zret hr (by decide) dX0_wasPlayedOn_37 ⟨rfl, rfl, rfl⟩
  · have hf := i_neg c2 hf
    refine aw_aload_n 0 dX0_wasPlayedOn_10 rfl rfl ?_
    obtain ⟨r3, er3, hf⟩ := b_some hf
    refine aw_getR dX0_wasPlayedOn_11 gfX0_27 er3 ?_
    refine aw_iload_n 2 dX0_wasPlayedOn_14 rfl rfl ?_
    obtain ⟨x4, ex4, hf⟩ := b_some hf
    refine aw_iald dX0_wasPlayedOn_15 ex4 ?_
    refine aw_iload_n 1 dX0_wasPlayedOn_16 rfl rfl ?_
    refine aw_icmp_ne (tgt := 30) dX0_wasPlayedOn_17 (by decide) (fun c5 => ?_) (fun c5 => ?_)
    · have hf := i_neg c5 hf
      obtain ⟨x6, ex6, hf⟩ := b_some hf
      refine aw_iinc (v := x6) (L' := [(2, .int x6), (0, .ref l0), (1, .int l1)]) 2 dX0_wasPlayedOn_30 rfl (Option.some.inj ex6) (by decide) rfl ?_
      refine aw_goto (tgt := 2) dX0_wasPlayedOn_33 (by decide) ?_
      exact aw_sub [1, 2, 0] rfl (hk2 _ _ hf)
    · have hf := i_pos c5 hf
      refine aw_aload_n 0 dX0_wasPlayedOn_20 rfl rfl ?_
      refine aw_iload_n 2 dX0_wasPlayedOn_21 rfl rfl ?_
      obtain ⟨q7, eq7, hf⟩ := b_some hf
      refine aw_cV (as := [.int l2]) dX0_wasPlayedOn_22 moX0_isLeft voX0_isLeft mlX0_69 (k_X0_isLeft eq7) rfl (rm_ok (by omega) (by decide)) ⟨Nat.le_refl _, Nat.le_refl _⟩ (Nat.le_of_ble_eq_true rfl) rfl (c_X0_isLeft eq7) ?_
      refine aw_if_ne (tgt := 30) dX0_wasPlayedOn_25 (by decide) (fun c8 => ?_) (fun c8 => ?_)
      · have hf := i_neg c8 hf
        obtain ⟨x9, ex9, hf⟩ := b_some hf
        refine aw_iinc (v := x9) (L' := [(2, .int x9), (0, .ref l0), (1, .int l1)]) 2 dX0_wasPlayedOn_30 rfl (Option.some.inj ex9) (by decide) rfl ?_
        refine aw_goto (tgt := 2) dX0_wasPlayedOn_33 (by decide) ?_
        exact aw_sub [1, 2, 0] rfl (hk2 _ _ hf)
      · have hf := i_pos c8 hf
        refine aw_iconst (v := 1) dX0_wasPlayedOn_28 (by decide) ?_
        cases hf
        exact aw_zret hr (by decide) dX0_wasPlayedOn_29 ⟨rfl, rfl, rfl⟩
def f_X0_wasPlayedOn (l0 : Nat) (l1 : Int32) (h0 : Hp) : Option (Int32 × Hp) :=
  (ck h0 l0 0).bind fun _ => lp (f_X0_wasPlayedOn_2) 600 (l0, l1, (0 : Int32)) h0
set_option maxRecDepth 100000 in
set_option maxHeartbeats 4000000 in
theorem c_X0_wasPlayedOn {l0 : Nat} {l1 : Int32} {h0 : Hp} {q : Int32 × Hp} (hf : f_X0_wasPlayedOn l0 l1 h0 = some q) : Mt 2 yX0_wasPlayedOn cX0_wasPlayedOn 3 (some .boolean) [.ref l0, .int l1] h0 (some (.int q.1)) q.2 := by
  refine MtQ.of (by decide) (Nat.le_of_ble_eq_true rfl) (fun X adr hr hn => ?_)
  unfold f_X0_wasPlayedOn at hf
  show AW X cX0_wasPlayedOn 3 RX0 (rmd 2 0 0) (Qmet X 0 0 (Qe (some (.int q.1)) q.2 adr)) 0 0 adr h0 0 [(0, .ref l0), (1, .int l1)] []
  obtain ⟨u0, e0, hf⟩ := b_some hf
  refine aw_iconst (v := 0) dX0_wasPlayedOn_0 (by decide) ?_
  refine aw_istore_n (L' := [(2, .int (0 : Int32)), (0, .ref l0), (1, .int l1)]) dX0_wasPlayedOn_1 rfl (by decide) rfl ?_
  exact aw_sub [1, 2, 0] rfl (c_X0_wasPlayedOn_2 hr 600 _ _ hf)
theorem k_X0_wasPlayedOn {l0 : Nat} {l1 : Int32} {h0 : Hp} {q : Int32 × Hp} (hf : f_X0_wasPlayedOn l0 l1 h0 = some q) : ck h0 l0 0 = some () := by
  unfold f_X0_wasPlayedOn at hf
  obtain ⟨u0, e0, hf⟩ := b_some hf
  exact e0
theorem dX0_whose_0 : decode cX0_whose 0 = .ok (.iconst 0, 1) := by decide +kernel
theorem dX0_whose_1 : decode cX0_whose 1 = .ok (.istore 4, 2) := by decide +kernel
theorem dX0_whose_3 : decode cX0_whose 3 = .ok (.iload 4, 2) := by decide +kernel
theorem dX0_whose_5 : decode cX0_whose 5 = .ok (.aload_n 0, 1) := by decide +kernel
theorem dX0_whose_6 : decode cX0_whose 6 = .ok (.getfield 33, 3) := by decide +kernel
theorem dX0_whose_9 : decode cX0_whose 9 = .ok (.if_icmp .ge 24, 3) := by decide +kernel
theorem dX0_whose_12 : decode cX0_whose 12 = .ok (.aload_n 0, 1) := by decide +kernel
theorem dX0_whose_13 : decode cX0_whose 13 = .ok (.iload 4, 2) := by decide +kernel
theorem dX0_whose_15 : decode cX0_whose 15 = .ok (.aload_n 1, 1) := by decide +kernel
theorem dX0_whose_16 : decode cX0_whose 16 = .ok (.iload_n 2, 1) := by decide +kernel
theorem dX0_whose_17 : decode cX0_whose 17 = .ok (.iload_n 3, 1) := by decide +kernel
theorem dX0_whose_18 : decode cX0_whose 18 = .ok (.invokevirtual 61, 3) := by decide +kernel
theorem dX0_whose_21 : decode cX0_whose 21 = .ok (.ifCond .eq 6, 3) := by decide +kernel
theorem dX0_whose_24 : decode cX0_whose 24 = .ok (.iload 4, 2) := by decide +kernel
theorem dX0_whose_26 : decode cX0_whose 26 = .ok (.ireturn, 1) := by decide +kernel
theorem dX0_whose_27 : decode cX0_whose 27 = .ok (.iinc 4 1, 3) := by decide +kernel
theorem dX0_whose_30 : decode cX0_whose 30 = .ok (.goto (-27), 3) := by decide +kernel
theorem dX0_whose_33 : decode cX0_whose 33 = .ok (.iconst (-1), 1) := by decide +kernel
theorem dX0_whose_34 : decode cX0_whose 34 = .ok (.ireturn, 1) := by decide +kernel
def f_X0_whose_3 (k3 : Nat × Nat × Int32 × Int32 × Int32 → Hp → Option (Int32 × Hp)) (v : Nat × Nat × Int32 × Int32 × Int32) (h0 : Hp) : Option (Int32 × Hp) :=
  match v with
  | (l0, l1, l2, l3, l4) => (gI h0 l0 0 0).bind fun x1 => if x1 ≤ l4 then (some ((-1 : Int32), h0)) else ((f_X0_isNamed l0 l4 l1 l2 l3 h0).bind fun q3 => if q3.1 = 0 then ((some (l4 + 1)).bind fun x5 => k3 (l0, l1, l2, l3, x5) q3.2) else (some (l4, q3.2)))
set_option maxRecDepth 100000 in
set_option maxHeartbeats 4000000 in
theorem c_X0_whose_3 {X : Cx} {adr : Nat → Nat} {q : Int32 × Hp} (hr : (mth X).sig.returnType = (some .int)) (n : Nat) : ∀ v h0, lp (f_X0_whose_3) n v h0 = some q → AW X cX0_whose 5 RX0 (rmd 2 0 0) (Qmet X 0 0 (Qe (some (.int q.1)) q.2 adr)) 0 0 adr h0 3 [(0, .ref v.1), (1, .ref v.2.1), (2, .int v.2.2.1), (3, .int v.2.2.2.1), (4, .int v.2.2.2.2)] [] := by
  refine aw_lp (fun k3 hk3 v h0 hf => ?_) n
  obtain ⟨l0, l1, l2, l3, l4⟩ := v
  show AW X cX0_whose 5 RX0 (rmd 2 0 0) (Qmet X 0 0 (Qe (some (.int q.1)) q.2 adr)) 0 0 adr h0 3 [(0, .ref l0), (1, .ref l1), (2, .int l2), (3, .int l3), (4, .int l4)] []
  refine aw_iload 4 dX0_whose_3 rfl ?_
  refine aw_aload_n 0 dX0_whose_5 rfl rfl ?_
  obtain ⟨x1, ex1, hf⟩ := b_some hf
  refine aw_getI dX0_whose_6 gfX0_33 ex1 ?_
  refine aw_icmp_ge (tgt := 33) dX0_whose_9 (by decide) (fun c2 => ?_) (fun c2 => ?_)
  · have hf := i_pos c2 hf
    refine aw_iconst (v := -1) dX0_whose_33 (by decide) ?_
    cases hf
    exact aw_iret hr dX0_whose_34 ⟨rfl, rfl, rfl⟩
  · have hf := i_neg c2 hf
    refine aw_aload_n 0 dX0_whose_12 rfl rfl ?_
    refine aw_iload 4 dX0_whose_13 rfl ?_
    refine aw_aload_n 1 dX0_whose_15 rfl rfl ?_
    refine aw_iload_n 2 dX0_whose_16 rfl rfl ?_
    refine aw_iload_n 3 dX0_whose_17 rfl rfl ?_
    obtain ⟨q3, eq3, hf⟩ := b_some hf
    refine aw_cV (as := [.int l4, .ref l1, .int l2, .int l3]) dX0_whose_18 moX0_isNamed voX0_isNamed mlX0_61 (k_X0_isNamed eq3) rfl (rm_ok (by omega) (by decide)) ⟨Nat.le_refl _, Nat.le_refl _⟩ (Nat.le_of_ble_eq_true rfl) rfl (c_X0_isNamed eq3) ?_
    refine aw_if_eq (tgt := 27) dX0_whose_21 (by decide) (fun c4 => ?_) (fun c4 => ?_)
    · have hf := i_pos c4 hf
      obtain ⟨x5, ex5, hf⟩ := b_some hf
      refine aw_iinc (v := x5) (L' := [(4, .int x5), (0, .ref l0), (1, .ref l1), (2, .int l2), (3, .int l3)]) 4 dX0_whose_27 rfl (Option.some.inj ex5) (by decide) rfl ?_
      refine aw_goto (tgt := 3) dX0_whose_30 (by decide) ?_
      exact aw_sub [1, 2, 3, 4, 0] rfl (hk3 _ _ hf)
    · have hf := i_neg c4 hf
      refine aw_iload 4 dX0_whose_24 rfl ?_
      cases hf
      exact aw_iret hr dX0_whose_26 ⟨rfl, rfl, rfl⟩
def f_X0_whose (l0 : Nat) (l1 : Nat) (l2 : Int32) (l3 : Int32) (h0 : Hp) : Option (Int32 × Hp) :=
  (ck h0 l0 0).bind fun _ => lp (f_X0_whose_3) 600 (l0, l1, l2, l3, (0 : Int32)) h0
set_option maxRecDepth 100000 in
set_option maxHeartbeats 4000000 in
theorem c_X0_whose {l0 : Nat} {l1 : Nat} {l2 : Int32} {l3 : Int32} {h0 : Hp} {q : Int32 × Hp} (hf : f_X0_whose l0 l1 l2 l3 h0 = some q) : Mt 2 yX0_whose cX0_whose 5 (some .int) [.ref l0, .ref l1, .int l2, .int l3] h0 (some (.int q.1)) q.2 := by
  refine MtQ.of (by decide) (Nat.le_of_ble_eq_true rfl) (fun X adr hr hn => ?_)
  unfold f_X0_whose at hf
  show AW X cX0_whose 5 RX0 (rmd 2 0 0) (Qmet X 0 0 (Qe (some (.int q.1)) q.2 adr)) 0 0 adr h0 0 [(0, .ref l0), (1, .ref l1), (2, .int l2), (3, .int l3)] []
  obtain ⟨u0, e0, hf⟩ := b_some hf
  refine aw_iconst (v := 0) dX0_whose_0 (by decide) ?_
  refine aw_istore (L' := [(4, .int (0 : Int32)), (0, .ref l0), (1, .ref l1), (2, .int l2), (3, .int l3)]) dX0_whose_1 (by decide) rfl ?_
  exact aw_sub [1, 2, 3, 4, 0] rfl (c_X0_whose_3 hr 600 _ _ hf)
theorem k_X0_whose {l0 : Nat} {l1 : Nat} {l2 : Int32} {l3 : Int32} {h0 : Hp} {q : Int32 × Hp} (hf : f_X0_whose l0 l1 l2 l3 h0 = some q) : ck h0 l0 0 = some () := by
  unfold f_X0_whose at hf
  obtain ⟨u0, e0, hf⟩ := b_some hf
  exact e0
theorem dX0_winBrings_0 : decode cX0_winBrings 0 = .ok (.getstatic 49, 3) := by decide +kernel
theorem dX0_winBrings_3 : decode cX0_winBrings 3 = .ok (.aload_n 0, 1) := by decide +kernel
theorem dX0_winBrings_4 : decode cX0_winBrings 4 = .ok (.getfield 40, 3) := by decide +kernel
theorem dX0_winBrings_7 : decode cX0_winBrings 7 = .ok (.iaload, 1) := by decide +kernel
theorem dX0_winBrings_8 : decode cX0_winBrings 8 = .ok (.ireturn, 1) := by decide +kernel
def f_X0_winBrings (l0 : Nat) (h0 : Hp) : Option (Int32 × Hp) :=
  (ck h0 l0 0).bind fun _ => (gI h0 l0 0 2).bind fun x1 => (sT 0 x1).bind fun x2 => some (x2, h0)
set_option maxRecDepth 100000 in
set_option maxHeartbeats 4000000 in
theorem c_X0_winBrings {l0 : Nat} {h0 : Hp} {q : Int32 × Hp} (hf : f_X0_winBrings l0 h0 = some q) : Mt 1 yX0_winBrings cX0_winBrings 1 (some .int) [.ref l0] h0 (some (.int q.1)) q.2 := by
  refine MtQ.of (by decide) (Nat.le_of_ble_eq_true rfl) (fun X adr hr hn => ?_)
  unfold f_X0_winBrings at hf
  show AW X cX0_winBrings 1 RX0 (rmd 1 0 0) (Qmet X 0 0 (Qe (some (.int q.1)) q.2 adr)) 0 0 adr h0 0 [(0, .ref l0)] []
  obtain ⟨u0, e0, hf⟩ := b_some hf
  refine aw_gets (q := 0) dX0_winBrings_0 kfX0_49 rfl ?_
  refine aw_aload_n 0 dX0_winBrings_3 rfl rfl ?_
  obtain ⟨x1, ex1, hf⟩ := b_some hf
  refine aw_getI dX0_winBrings_4 gfX0_40 ex1 ?_
  obtain ⟨x2, ex2, hf⟩ := b_some hf
  refine aw_sald dX0_winBrings_7 rfl ex2 ?_
  cases hf
  exact aw_iret hr dX0_winBrings_8 ⟨rfl, rfl, rfl⟩
theorem k_X0_winBrings {l0 : Nat} {h0 : Hp} {q : Int32 × Hp} (hf : f_X0_winBrings l0 h0 = some q) : ck h0 l0 0 = some () := by
  unfold f_X0_winBrings at hf
  obtain ⟨u0, e0, hf⟩ := b_some hf
  exact e0
end
