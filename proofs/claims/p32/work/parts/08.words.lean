set_option maxRecDepth 100000 in
theorem lkX0_33 : Cond.fieldLink RX0 33 RX0 (TX0 0).2.1 (TX0 0).2.2.1 ∈ lw_good := lw_m1 56 rfl rfl
set_option maxRecDepth 100000 in
theorem gfX0_33 : GFok RX0 33 0 0 := ⟨RX0, TX0, 10, rfl, by decide, inlX0, lkX0_33, rfl, tyX0, tyX0_ok, nmX0⟩
set_option maxRecDepth 100000 in
theorem neX0 : RX0 ≠ "java/lang/invoke/MethodHandle" ∧ RX0 ≠ "java/lang/invoke/VarHandle" := by decide +kernel
set_option maxRecDepth 100000 in
theorem wnX0 : Cond.initialized RX0 ∈ lw_good := lw_m1 3 rfl rfl
set_option maxRecDepth 100000 in
theorem ds_0 : (parseMethodDescriptor "(I)Z").map (fun d => d.parameters.length) = some 1 := by decide +kernel
set_option maxRecDepth 100000 in
theorem moX0_hasTeam : MOk yX0_hasTeam cX0_hasTeam 2 (some .boolean) 1 := ⟨lw_m2 141 rfl rfl, wnX0, neX0.1, neX0.2, ds_0⟩
set_option maxRecDepth 100000 in
theorem mlX0_65 : Cond.methodLink RX0 65 yX0_hasTeam ∈ lw_good := lw_m2 138 rfl rfl
set_option maxRecDepth 100000 in
theorem voX0_hasTeam : VOk yX0_hasTeam := ⟨lw_m2 139 rfl rfl, lw_m2 140 rfl rfl⟩
set_option maxRecDepth 100000 in
theorem lkX0_37 : Cond.fieldLink RX0 37 RX0 (TX0 1).2.1 (TX0 1).2.2.1 ∈ lw_good := lw_m1 59 rfl rfl
set_option maxRecDepth 100000 in
theorem gfX0_37 : GFok RX0 37 0 1 := ⟨RX0, TX0, 10, rfl, by decide, inlX0, lkX0_37, rfl, tyX0, tyX0_ok, nmX0⟩
set_option maxRecDepth 100000 in
theorem lkX0_21 : Cond.fieldLink RX0 21 RX0 (TX0 6).2.1 (TX0 6).2.2.1 ∈ lw_good := lw_m1 71 rfl rfl
set_option maxRecDepth 100000 in
theorem gfX0_21 : GFok RX0 21 0 6 := ⟨RX0, TX0, 10, rfl, by decide, inlX0, lkX0_21, rfl, tyX0, tyX0_ok, nmX0⟩
set_option maxRecDepth 100000 in
theorem lkX0_24 : Cond.fieldLink RX0 24 RX0 (TX0 7).2.1 (TX0 7).2.2.1 ∈ lw_good := lw_m1 75 rfl rfl
set_option maxRecDepth 100000 in
theorem gfX0_24 : GFok RX0 24 0 7 := ⟨RX0, TX0, 10, rfl, by decide, inlX0, lkX0_24, rfl, tyX0, tyX0_ok, nmX0⟩
set_option maxRecDepth 100000 in
theorem lkX0_27 : Cond.fieldLink RX0 27 RX0 (TX0 8).2.1 (TX0 8).2.2.1 ∈ lw_good := lw_m1 79 rfl rfl
set_option maxRecDepth 100000 in
theorem gfX0_27 : GFok RX0 27 0 8 := ⟨RX0, TX0, 10, rfl, by decide, inlX0, lkX0_27, rfl, tyX0, tyX0_ok, nmX0⟩
set_option maxRecDepth 100000 in
theorem lkX0_30 : Cond.fieldLink RX0 30 RX0 (TX0 9).2.1 (TX0 9).2.2.1 ∈ lw_good := lw_m1 81 rfl rfl
set_option maxRecDepth 100000 in
theorem gfX0_30 : GFok RX0 30 0 9 := ⟨RX0, TX0, 10, rfl, by decide, inlX0, lkX0_30, rfl, tyX0, tyX0_ok, nmX0⟩
set_option maxRecDepth 100000 in
theorem pfX0_37 : PFok RX0 37 0 1 .int := ⟨gfX0_37, fun C T N h => by cases h; exact ⟨rfl, tyX0_ok 1 (by decide)⟩⟩
set_option maxRecDepth 100000 in
theorem lkX0_15 : Cond.fieldLink RX0 15 RX0 (TX0 4).2.1 (TX0 4).2.2.1 ∈ lw_good := lw_m1 68 rfl rfl
set_option maxRecDepth 100000 in
theorem gfX0_15 : GFok RX0 15 0 4 := ⟨RX0, TX0, 10, rfl, by decide, inlX0, lkX0_15, rfl, tyX0, tyX0_ok, nmX0⟩
set_option maxRecDepth 100000 in
theorem lkX0_9 : Cond.fieldLink RX0 9 RX0 (TX0 3).2.1 (TX0 3).2.2.1 ∈ lw_good := lw_m1 66 rfl rfl
set_option maxRecDepth 100000 in
theorem gfX0_9 : GFok RX0 9 0 3 := ⟨RX0, TX0, 10, rfl, by decide, inlX0, lkX0_9, rfl, tyX0, tyX0_ok, nmX0⟩
set_option maxRecDepth 100000 in
theorem pfX0_33 : PFok RX0 33 0 0 .int := ⟨gfX0_33, fun C T N h => by cases h; exact ⟨rfl, tyX0_ok 0 (by decide)⟩⟩
set_option maxRecDepth 100000 in
theorem lkX0_18 : Cond.fieldLink RX0 18 RX0 (TX0 5).2.1 (TX0 5).2.2.1 ∈ lw_good := lw_m1 70 rfl rfl
set_option maxRecDepth 100000 in
theorem gfX0_18 : GFok RX0 18 0 5 := ⟨RX0, TX0, 10, rfl, by decide, inlX0, lkX0_18, rfl, tyX0, tyX0_ok, nmX0⟩
set_option maxRecDepth 100000 in
theorem kfX0_49 : (RX0, 49, "StillInIt", "WON", "[I", "StillInIt") ∈ nestF := by decide +kernel
set_option maxRecDepth 100000 in
theorem lkX0_40 : Cond.fieldLink RX0 40 RX0 (TX0 2).2.1 (TX0 2).2.2.1 ∈ lw_good := lw_m1 64 rfl rfl
set_option maxRecDepth 100000 in
theorem gfX0_40 : GFok RX0 40 0 2 := ⟨RX0, TX0, 10, rfl, by decide, inlX0, lkX0_40, rfl, tyX0, tyX0_ok, nmX0⟩
set_option maxRecDepth 100000 in
theorem kfX0_52 : (RX0, 52, "StillInIt", "DRAWN", "[I", "StillInIt") ∈ nestF := by decide +kernel
set_option maxRecDepth 100000 in
theorem kfX0_58 : (RX0, 58, "StillInIt", "FIRST_RESULT", "[I", "StillInIt") ∈ nestF := by decide +kernel
set_option maxRecDepth 100000 in
theorem kfX0_55 : (RX0, 55, "StillInIt", "LEAST", "[I", "StillInIt") ∈ nestF := by decide +kernel
set_option maxRecDepth 100000 in
theorem moX0_isLeft : MOk yX0_isLeft cX0_isLeft 2 (some .boolean) 1 := ⟨lw_m2 154 rfl rfl, wnX0, neX0.1, neX0.2, ds_0⟩
set_option maxRecDepth 100000 in
theorem mlX0_69 : Cond.methodLink RX0 69 yX0_isLeft ∈ lw_good := lw_m2 151 rfl rfl
set_option maxRecDepth 100000 in
theorem voX0_isLeft : VOk yX0_isLeft := ⟨lw_m2 152 rfl rfl, lw_m2 153 rfl rfl⟩
set_option maxRecDepth 100000 in
theorem ds_1 : (parseMethodDescriptor "(II)I").map (fun d => d.parameters.length) = some 2 := by decide +kernel
set_option maxRecDepth 100000 in
theorem moX0_foe : MOk yX0_foe cX0_foe 3 (some .int) 2 := ⟨lw_m2 158 rfl rfl, wnX0, neX0.1, neX0.2, ds_1⟩
set_option maxRecDepth 100000 in
theorem mlX0_72 : Cond.methodLink RX0 72 yX0_foe ∈ lw_good := lw_m2 155 rfl rfl
set_option maxRecDepth 100000 in
theorem voX0_foe : VOk yX0_foe := ⟨lw_m2 156 rfl rfl, lw_m2 157 rfl rfl⟩
set_option maxRecDepth 100000 in
theorem ds_2 : (parseMethodDescriptor "([IIII)V").map (fun d => d.parameters.length) = some 4 := by decide +kernel
set_option maxRecDepth 100000 in
theorem moX0_award : MOk yX0_award cX0_award 5 none 4 := ⟨lw_m2 209 rfl rfl, wnX0, neX0.1, neX0.2, ds_2⟩
set_option maxRecDepth 100000 in
theorem mlX0_76 : Cond.methodLink RX0 76 yX0_award ∈ lw_good := lw_m2 206 rfl rfl
set_option maxRecDepth 100000 in
theorem voX0_award : VOk yX0_award := ⟨lw_m2 207 rfl rfl, lw_m2 208 rfl rfl⟩
set_option maxRecDepth 100000 in
theorem pfX0_40 : PFok RX0 40 0 2 .int := ⟨gfX0_40, fun C T N h => by cases h; exact ⟨rfl, tyX0_ok 2 (by decide)⟩⟩
set_option maxRecDepth 100000 in
theorem mlX0_43 : Cond.methodLink RX0 43 arraycopyName ∈ lw_good := lw_m3 143 rfl rfl
set_option maxRecDepth 100000 in
theorem ds_3 : (parseMethodDescriptor "(I[III)Z").map (fun d => d.parameters.length) = some 4 := by decide +kernel
set_option maxRecDepth 100000 in
theorem moX0_isNamed : MOk yX0_isNamed cX0_isNamed 6 (some .boolean) 4 := ⟨lw_m2 102 rfl rfl, wnX0, neX0.1, neX0.2, ds_3⟩
set_option maxRecDepth 100000 in
theorem mlX0_61 : Cond.methodLink RX0 61 yX0_isNamed ∈ lw_good := lw_m2 99 rfl rfl
set_option maxRecDepth 100000 in
theorem voX0_isNamed : VOk yX0_isNamed := ⟨lw_m2 101 rfl rfl, lw_mem 3 rfl rfl⟩
set_option maxRecDepth 100000 in
theorem lkX1_33 : Cond.fieldLink RX1 33 RX1 (TX1 6).2.1 (TX1 6).2.2.1 ∈ lw_good := lw_m1 140 rfl rfl
set_option maxRecDepth 100000 in
theorem gfX1_33 : GFok RX1 33 1 6 := ⟨RX1, TX1, 9, rfl, by decide, inlX1, lkX1_33, rfl, tyX1, tyX1_ok, nmX1⟩
set_option maxRecDepth 100000 in
theorem lkX1_60 : Cond.fieldLink RX1 60 RX1 (TX1 5).2.1 (TX1 5).2.2.1 ∈ lw_good := lw_m1 139 rfl rfl
set_option maxRecDepth 100000 in
theorem gfX1_60 : GFok RX1 60 1 5 := ⟨RX1, TX1, 9, rfl, by decide, inlX1, lkX1_60, rfl, tyX1, tyX1_ok, nmX1⟩
set_option maxRecDepth 100000 in
theorem lkX1_9 : Cond.fieldLink RX1 9 RX1 (TX1 0).2.1 (TX1 0).2.2.1 ∈ lw_good := lw_m1 134 rfl rfl
set_option maxRecDepth 100000 in
theorem gfX1_9 : GFok RX1 9 1 0 := ⟨RX1, TX1, 9, rfl, by decide, inlX1, lkX1_9, rfl, tyX1, tyX1_ok, nmX1⟩
set_option maxRecDepth 100000 in
theorem lkX1_15 : Cond.fieldLink RX1 15 RX1 (TX1 1).2.1 (TX1 1).2.2.1 ∈ lw_good := lw_m1 135 rfl rfl
set_option maxRecDepth 100000 in
theorem gfX1_15 : GFok RX1 15 1 1 := ⟨RX1, TX1, 9, rfl, by decide, inlX1, lkX1_15, rfl, tyX1, tyX1_ok, nmX1⟩
set_option maxRecDepth 100000 in
theorem lkX1_18 : Cond.fieldLink RX1 18 RX1 (TX1 2).2.1 (TX1 2).2.2.1 ∈ lw_good := lw_m1 136 rfl rfl
set_option maxRecDepth 100000 in
theorem gfX1_18 : GFok RX1 18 1 2 := ⟨RX1, TX1, 9, rfl, by decide, inlX1, lkX1_18, rfl, tyX1, tyX1_ok, nmX1⟩
set_option maxRecDepth 100000 in
theorem lkX1_24 : Cond.fieldLink RX1 24 RX1 (TX1 4).2.1 (TX1 4).2.2.1 ∈ lw_good := lw_m1 138 rfl rfl
set_option maxRecDepth 100000 in
theorem gfX1_24 : GFok RX1 24 1 4 := ⟨RX1, TX1, 9, rfl, by decide, inlX1, lkX1_24, rfl, tyX1, tyX1_ok, nmX1⟩
set_option maxRecDepth 100000 in
theorem neX1 : RX1 ≠ "java/lang/invoke/MethodHandle" ∧ RX1 ≠ "java/lang/invoke/VarHandle" := by decide +kernel
set_option maxRecDepth 100000 in
theorem wnX1 : Cond.initialized RX1 ∈ lw_good := lw_m1 5 rfl rfl
set_option maxRecDepth 100000 in
theorem moX1_fits : MOk yX1_fits cX1_fits 2 (some .boolean) 1 := ⟨lw_m3 71 rfl rfl, wnX1, neX1.1, neX1.2, ds_0⟩
set_option maxRecDepth 100000 in
theorem mlX1_84 : Cond.methodLink RX1 84 yX1_fits ∈ lw_good := lw_m3 68 rfl rfl
set_option maxRecDepth 100000 in
theorem voX1_fits : VOk yX1_fits := ⟨lw_m3 70 rfl rfl, lw_mem 14 rfl rfl⟩
set_option maxRecDepth 100000 in
theorem lkX1_40 : Cond.fieldLink RX1 40 RX1 (TX1 7).2.1 (TX1 7).2.2.1 ∈ lw_good := lw_m1 141 rfl rfl
set_option maxRecDepth 100000 in
theorem gfX1_40 : GFok RX1 40 1 7 := ⟨RX1, TX1, 9, rfl, by decide, inlX1, lkX1_40, rfl, tyX1, tyX1_ok, nmX1⟩
set_option maxRecDepth 100000 in
theorem ds_4 : (parseMethodDescriptor "(III)Z").map (fun d => d.parameters.length) = some 3 := by decide +kernel
set_option maxRecDepth 100000 in
theorem moX1_fitsWon : MOk yX1_fitsWon cX1_fitsWon 5 (some .boolean) 3 := ⟨lw_m3 75 rfl rfl, wnX1, neX1.1, neX1.2, ds_4⟩
set_option maxRecDepth 100000 in
theorem mlX1_87 : Cond.methodLink RX1 87 yX1_fitsWon ∈ lw_good := lw_m3 72 rfl rfl
set_option maxRecDepth 100000 in
theorem voX1_fitsWon : VOk yX1_fitsWon := ⟨lw_m3 74 rfl rfl, lw_mem 15 rfl rfl⟩
set_option maxRecDepth 100000 in
theorem ds_5 : (parseMethodDescriptor "(II)Z").map (fun d => d.parameters.length) = some 2 := by decide +kernel
set_option maxRecDepth 100000 in
theorem moX1_hasRoomForAll : MOk yX1_hasRoomForAll cX1_hasRoomForAll 5 (some .boolean) 2 := ⟨lw_m3 79 rfl rfl, wnX1, neX1.1, neX1.2, ds_5⟩
set_option maxRecDepth 100000 in
theorem mlX1_91 : Cond.methodLink RX1 91 yX1_hasRoomForAll ∈ lw_good := lw_m3 76 rfl rfl
set_option maxRecDepth 100000 in
theorem voX1_hasRoomForAll : VOk yX1_hasRoomForAll := ⟨lw_m3 78 rfl rfl, lw_mem 16 rfl rfl⟩
set_option maxRecDepth 100000 in
theorem lkX1_46 : Cond.fieldLink RX1 46 RX1 (TX1 8).2.1 (TX1 8).2.2.1 ∈ lw_good := lw_m1 142 rfl rfl
set_option maxRecDepth 100000 in
theorem gfX1_46 : GFok RX1 46 1 8 := ⟨RX1, TX1, 9, rfl, by decide, inlX1, lkX1_46, rfl, tyX1, tyX1_ok, nmX1⟩
set_option maxRecDepth 100000 in
theorem moX1_fitsDrawn : MOk yX1_fitsDrawn cX1_fitsDrawn 5 (some .boolean) 1 := ⟨lw_m3 83 rfl rfl, wnX1, neX1.1, neX1.2, ds_0⟩
set_option maxRecDepth 100000 in
theorem mlX1_94 : Cond.methodLink RX1 94 yX1_fitsDrawn ∈ lw_good := lw_m3 80 rfl rfl
set_option maxRecDepth 100000 in
theorem voX1_fitsDrawn : VOk yX1_fitsDrawn := ⟨lw_m3 82 rfl rfl, lw_mem 17 rfl rfl⟩
set_option maxRecDepth 100000 in
theorem lkX1_21 : Cond.fieldLink RX1 21 RX1 (TX1 3).2.1 (TX1 3).2.2.1 ∈ lw_good := lw_m1 137 rfl rfl
set_option maxRecDepth 100000 in
theorem gfX1_21 : GFok RX1 21 1 3 := ⟨RX1, TX1, 9, rfl, by decide, inlX1, lkX1_21, rfl, tyX1, tyX1_ok, nmX1⟩
set_option maxRecDepth 100000 in
theorem pfX1_60 : PFok RX1 60 1 5 .int := ⟨gfX1_60, fun C T N h => by cases h; exact ⟨rfl, tyX1_ok 5 (by decide)⟩⟩
set_option maxRecDepth 100000 in
theorem neX6 : RX6 ≠ "java/lang/invoke/MethodHandle" ∧ RX6 ≠ "java/lang/invoke/VarHandle" := by decide +kernel
set_option maxRecDepth 100000 in
theorem wnX6 : Cond.initialized RX6 ∈ lw_good := lw_m1 1 rfl rfl
set_option maxRecDepth 100000 in
theorem moX6_has : MOk yX6_has cX6_has 2 (some .boolean) 2 := ⟨lw_m3 29 rfl rfl, wnX6, neX6.1, neX6.2, ds_5⟩
set_option maxRecDepth 100000 in
theorem mnX1_80 : (RX1, 80, yX6_has, "StillInIt") ∈ nestM := by decide +kernel
set_option maxRecDepth 100000 in
theorem soX6_has : Cond.static yX6_has ∈ lw_good := lw_m3 28 rfl rfl
set_option maxRecDepth 100000 in
theorem ds_6 : (parseMethodDescriptor "(III)V").map (fun d => d.parameters.length) = some 3 := by decide +kernel
set_option maxRecDepth 100000 in
theorem moX1_enter : MOk yX1_enter cX1_enter 4 none 3 := ⟨lw_m3 62 rfl rfl, wnX1, neX1.1, neX1.2, ds_6⟩
set_option maxRecDepth 100000 in
theorem mlX1_76 : Cond.methodLink RX1 76 yX1_enter ∈ lw_good := lw_m3 59 rfl rfl
set_option maxRecDepth 100000 in
theorem voX1_enter : VOk yX1_enter := ⟨lw_m3 61 rfl rfl, lw_mem 13 rfl rfl⟩
set_option maxRecDepth 100000 in
theorem pfX1_46 : PFok RX1 46 1 8 .boolean := ⟨gfX1_46, fun C T N h => by cases h; exact ⟨rfl, tyX1_ok 8 (by decide)⟩⟩
set_option maxRecDepth 100000 in
theorem kcJ6_265 : Cond.constant RJ6 265 (1431655765) ∈ lw_good := lw_m2 229 rfl rfl
set_option maxRecDepth 100000 in
theorem kcJ6_266 : Cond.constant RJ6 266 (858993459) ∈ lw_good := lw_m2 230 rfl rfl
set_option maxRecDepth 100000 in
theorem kcJ6_267 : Cond.constant RJ6 267 (252645135) ∈ lw_good := lw_m2 231 rfl rfl
set_option maxRecDepth 100000 in
theorem lkX1_63 : Cond.fieldLink RX1 63 RX0 (TX0 1).2.1 (TX0 1).2.2.1 ∈ lw_good := lw_m1 61 rfl rfl
set_option maxRecDepth 100000 in
theorem gfX1_63 : GFok RX1 63 0 1 := ⟨RX0, TX0, 10, rfl, by decide, inlX0, lkX1_63, rfl, tyX0, tyX0_ok, nmX0⟩
set_option maxRecDepth 100000 in
theorem mlX1_66 : Cond.methodLink RX1 66 yX0_isLeft ∈ lw_good := lw_m3 57 rfl rfl
set_option maxRecDepth 100000 in
theorem mlX1_70 : Cond.methodLink RX1 70 yX0_foe ∈ lw_good := lw_m3 58 rfl rfl
set_option maxRecDepth 100000 in
theorem lkX1_74 : Cond.fieldLink RX1 74 RX0 (TX0 6).2.1 (TX0 6).2.2.1 ∈ lw_good := lw_m1 72 rfl rfl
set_option maxRecDepth 100000 in
theorem gfX1_74 : GFok RX1 74 0 6 := ⟨RX0, TX0, 10, rfl, by decide, inlX0, lkX1_74, rfl, tyX0, tyX0_ok, nmX0⟩
set_option maxRecDepth 100000 in
theorem lkX1_75 : Cond.fieldLink RX1 75 RX0 (TX0 7).2.1 (TX0 7).2.2.1 ∈ lw_good := lw_m1 76 rfl rfl
set_option maxRecDepth 100000 in
theorem gfX1_75 : GFok RX1 75 0 7 := ⟨RX0, TX0, 10, rfl, by decide, inlX0, lkX1_75, rfl, tyX0, tyX0_ok, nmX0⟩
set_option maxRecDepth 100000 in
theorem ds_7 : (parseMethodDescriptor "([I)V").map (fun d => d.parameters.length) = some 1 := by decide +kernel
set_option maxRecDepth 100000 in
theorem moX0_pointsInto : MOk yX0_pointsInto cX0_pointsInto 3 none 1 := ⟨lw_m2 205 rfl rfl, wnX0, neX0.1, neX0.2, ds_7⟩
set_option maxRecDepth 100000 in
theorem mlX1_50 : Cond.methodLink RX1 50 yX0_pointsInto ∈ lw_good := lw_m3 55 rfl rfl
set_option maxRecDepth 100000 in
theorem voX0_pointsInto : VOk yX0_pointsInto := ⟨lw_m2 203 rfl rfl, lw_m2 204 rfl rfl⟩
set_option maxRecDepth 100000 in
theorem neJ6 : RJ6 ≠ "java/lang/invoke/MethodHandle" ∧ RJ6 ≠ "java/lang/invoke/VarHandle" := by decide +kernel
set_option maxRecDepth 100000 in
theorem wnJ6 : Cond.initialized RJ6 ∈ lw_good := lw_m1 13 rfl rfl
set_option maxRecDepth 100000 in
theorem ds_8 : (parseMethodDescriptor "(I)I").map (fun d => d.parameters.length) = some 1 := by decide +kernel
set_option maxRecDepth 100000 in
theorem moJ6_bitCount_0f7a4 : MOk yJ6_bitCount_0f7a4 cJ6_bitCount_0f7a4 1 (some .int) 1 := ⟨lw_m2 228 rfl rfl, wnJ6, neJ6.1, neJ6.2, ds_8⟩
set_option maxRecDepth 100000 in
theorem mlX1_54 : Cond.methodLink RX1 54 yJ6_bitCount_0f7a4 ∈ lw_good := lw_m3 56 rfl rfl
set_option maxRecDepth 100000 in
theorem soJ6_bitCount_0f7a4 : Cond.static yJ6_bitCount_0f7a4 ∈ lw_good := lw_m2 227 rfl rfl
set_option maxRecDepth 100000 in
theorem ds_9 : (parseMethodDescriptor "()I").map (fun d => d.parameters.length) = some 0 := by decide +kernel
set_option maxRecDepth 100000 in
theorem moX0_winBrings : MOk yX0_winBrings cX0_winBrings 1 (some .int) 0 := ⟨lw_m2 221 rfl rfl, wnX0, neX0.1, neX0.2, ds_9⟩
set_option maxRecDepth 100000 in
theorem mlX1_27 : Cond.methodLink RX1 27 yX0_winBrings ∈ lw_good := lw_m3 44 rfl rfl
set_option maxRecDepth 100000 in
theorem voX0_winBrings : VOk yX0_winBrings := ⟨lw_m2 219 rfl rfl, lw_m2 220 rfl rfl⟩
set_option maxRecDepth 100000 in
theorem pfX1_33 : PFok RX1 33 1 6 .int := ⟨gfX1_33, fun C T N h => by cases h; exact ⟨rfl, tyX1_ok 6 (by decide)⟩⟩
set_option maxRecDepth 100000 in
theorem moX0_drawBrings : MOk yX0_drawBrings cX0_drawBrings 1 (some .int) 0 := ⟨lw_m3 48 rfl rfl, wnX0, neX0.1, neX0.2, ds_9⟩
set_option maxRecDepth 100000 in
theorem mlX1_37 : Cond.methodLink RX1 37 yX0_drawBrings ∈ lw_good := lw_m3 45 rfl rfl
set_option maxRecDepth 100000 in
theorem voX0_drawBrings : VOk yX0_drawBrings := ⟨lw_m3 46 rfl rfl, lw_m3 47 rfl rfl⟩
set_option maxRecDepth 100000 in
theorem pfX1_40 : PFok RX1 40 1 7 .int := ⟨gfX1_40, fun C T N h => by cases h; exact ⟨rfl, tyX1_ok 7 (by decide)⟩⟩
set_option maxRecDepth 100000 in
theorem moX0_firstResult : MOk yX0_firstResult cX0_firstResult 1 (some .int) 0 := ⟨lw_m3 52 rfl rfl, wnX0, neX0.1, neX0.2, ds_9⟩
set_option maxRecDepth 100000 in
theorem mlX1_43 : Cond.methodLink RX1 43 yX0_firstResult ∈ lw_good := lw_m3 49 rfl rfl
set_option maxRecDepth 100000 in
theorem voX0_firstResult : VOk yX0_firstResult := ⟨lw_m3 50 rfl rfl, lw_m3 51 rfl rfl⟩
set_option maxRecDepth 100000 in
theorem lkX2_9 : Cond.fieldLink RX2 9 RX2 (TX2 0).2.1 (TX2 0).2.2.1 ∈ lw_good := lw_m1 192 rfl rfl
set_option maxRecDepth 100000 in
theorem gfX2_9 : GFok RX2 9 2 0 := ⟨RX2, TX2, 3, rfl, by decide, inlX2, lkX2_9, rfl, tyX2, tyX2_ok, nmX2⟩
set_option maxRecDepth 100000 in
theorem lkX2_15 : Cond.fieldLink RX2 15 RX2 (TX2 1).2.1 (TX2 1).2.2.1 ∈ lw_good := lw_m1 195 rfl rfl
set_option maxRecDepth 100000 in
theorem gfX2_15 : GFok RX2 15 2 1 := ⟨RX2, TX2, 3, rfl, by decide, inlX2, lkX2_15, rfl, tyX2, tyX2_ok, nmX2⟩
set_option maxRecDepth 100000 in
theorem pfX2_15 : PFok RX2 15 2 1 .int := ⟨gfX2_15, fun C T N h => by cases h; exact ⟨rfl, tyX2_ok 1 (by decide)⟩⟩
set_option maxRecDepth 100000 in
theorem lkX2_19 : Cond.fieldLink RX2 19 RX2 (TX2 2).2.1 (TX2 2).2.2.1 ∈ lw_good := lw_m1 197 rfl rfl
set_option maxRecDepth 100000 in
theorem gfX2_19 : GFok RX2 19 2 2 := ⟨RX2, TX2, 3, rfl, by decide, inlX2, lkX2_19, rfl, tyX2, tyX2_ok, nmX2⟩
set_option maxRecDepth 100000 in
theorem pfX2_19 : PFok RX2 19 2 2 .int := ⟨gfX2_19, fun C T N h => by cases h; exact ⟨rfl, tyX2_ok 2 (by decide)⟩⟩
set_option maxRecDepth 100000 in
theorem lkX3_57 : Cond.fieldLink RX3 57 RX3 (TX3 2).2.1 (TX3 2).2.2.1 ∈ lw_good := lw_m1 112 rfl rfl
set_option maxRecDepth 100000 in
theorem gfX3_57 : GFok RX3 57 3 2 := ⟨RX3, TX3, 5, rfl, by decide, inlX3, lkX3_57, rfl, tyX3, tyX3_ok, nmX3⟩
set_option maxRecDepth 100000 in
theorem lkX3_15 : Cond.fieldLink RX3 15 RX3 (TX3 1).2.1 (TX3 1).2.2.1 ∈ lw_good := lw_m1 111 rfl rfl
set_option maxRecDepth 100000 in
theorem gfX3_15 : GFok RX3 15 3 1 := ⟨RX3, TX3, 5, rfl, by decide, inlX3, lkX3_15, rfl, tyX3, tyX3_ok, nmX3⟩
set_option maxRecDepth 100000 in
theorem moX0_leastGiven : MOk yX0_leastGiven cX0_leastGiven 1 (some .int) 0 := ⟨lw_m3 37 rfl rfl, wnX0, neX0.1, neX0.2, ds_9⟩
set_option maxRecDepth 100000 in
theorem mlX3_77 : Cond.methodLink RX3 77 yX0_leastGiven ∈ lw_good := lw_m3 34 rfl rfl
set_option maxRecDepth 100000 in
theorem voX0_leastGiven : VOk yX0_leastGiven := ⟨lw_m3 35 rfl rfl, lw_m3 36 rfl rfl⟩
set_option maxRecDepth 100000 in
theorem lkX3_29 : Cond.fieldLink RX3 29 RX0 (TX0 0).2.1 (TX0 0).2.2.1 ∈ lw_good := lw_m1 57 rfl rfl
set_option maxRecDepth 100000 in
theorem gfX3_29 : GFok RX3 29 0 0 := ⟨RX0, TX0, 10, rfl, by decide, inlX0, lkX3_29, rfl, tyX0, tyX0_ok, nmX0⟩
set_option maxRecDepth 100000 in
theorem mnX3_32 : (RX3, 32, yX6_has, "StillInIt") ∈ nestM := by decide +kernel
set_option maxRecDepth 100000 in
theorem lkX3_9 : Cond.fieldLink RX3 9 RX3 (TX3 0).2.1 (TX3 0).2.2.1 ∈ lw_good := lw_m1 110 rfl rfl
set_option maxRecDepth 100000 in
theorem gfX3_9 : GFok RX3 9 3 0 := ⟨RX3, TX3, 5, rfl, by decide, inlX3, lkX3_9, rfl, tyX3, tyX3_ok, nmX3⟩
set_option maxRecDepth 100000 in
theorem lkX3_60 : Cond.fieldLink RX3 60 RX0 (TX0 1).2.1 (TX0 1).2.2.1 ∈ lw_good := lw_m1 62 rfl rfl
set_option maxRecDepth 100000 in
theorem gfX3_60 : GFok RX3 60 0 1 := ⟨RX0, TX0, 10, rfl, by decide, inlX0, lkX3_60, rfl, tyX0, tyX0_ok, nmX0⟩
set_option maxRecDepth 100000 in
theorem mlX3_63 : Cond.methodLink RX3 63 yX0_isLeft ∈ lw_good := lw_m3 25 rfl rfl
set_option maxRecDepth 100000 in
theorem mlX3_67 : Cond.methodLink RX3 67 yX0_foe ∈ lw_good := lw_m3 26 rfl rfl
set_option maxRecDepth 100000 in
theorem lkX3_71 : Cond.fieldLink RX3 71 RX0 (TX0 6).2.1 (TX0 6).2.2.1 ∈ lw_good := lw_m1 73 rfl rfl
set_option maxRecDepth 100000 in
theorem gfX3_71 : GFok RX3 71 0 6 := ⟨RX0, TX0, 10, rfl, by decide, inlX0, lkX3_71, rfl, tyX0, tyX0_ok, nmX0⟩
set_option maxRecDepth 100000 in
theorem lkX3_74 : Cond.fieldLink RX3 74 RX0 (TX0 7).2.1 (TX0 7).2.2.1 ∈ lw_good := lw_m1 77 rfl rfl
set_option maxRecDepth 100000 in
theorem gfX3_74 : GFok RX3 74 0 7 := ⟨RX0, TX0, 10, rfl, by decide, inlX0, lkX3_74, rfl, tyX0, tyX0_ok, nmX0⟩
set_option maxRecDepth 100000 in
theorem pfX3_57 : PFok RX3 57 3 2 .int := ⟨gfX3_57, fun C T N h => by cases h; exact ⟨rfl, tyX3_ok 2 (by decide)⟩⟩
set_option maxRecDepth 100000 in
theorem mlX3_46 : Cond.methodLink RX3 46 yX0_pointsInto ∈ lw_good := lw_m3 21 rfl rfl
set_option maxRecDepth 100000 in
theorem mlX3_50 : Cond.methodLink RX3 50 yX0_winBrings ∈ lw_good := lw_m3 22 rfl rfl
set_option maxRecDepth 100000 in
theorem moX0_leftOf : MOk yX0_leftOf cX0_leftOf 4 (some .int) 1 := ⟨lw_m2 225 rfl rfl, wnX0, neX0.1, neX0.2, ds_8⟩
set_option maxRecDepth 100000 in
theorem mlX3_54 : Cond.methodLink RX3 54 yX0_leftOf ∈ lw_good := lw_m3 23 rfl rfl
set_option maxRecDepth 100000 in
theorem voX0_leftOf : VOk yX0_leftOf := ⟨lw_m2 223 rfl rfl, lw_m2 224 rfl rfl⟩
set_option maxRecDepth 100000 in
theorem mlX3_40 : Cond.methodLink RX3 40 yJ6_bitCount_0f7a4 ∈ lw_good := lw_m3 24 rfl rfl
set_option maxRecDepth 100000 in
theorem lkX3_22 : Cond.fieldLink RX3 22 RX3 (TX3 3).2.1 (TX3 3).2.2.1 ∈ lw_good := lw_m1 113 rfl rfl
set_option maxRecDepth 100000 in
theorem gfX3_22 : GFok RX3 22 3 3 := ⟨RX3, TX3, 5, rfl, by decide, inlX3, lkX3_22, rfl, tyX3, tyX3_ok, nmX3⟩
set_option maxRecDepth 100000 in
theorem pfX3_22 : PFok RX3 22 3 3 .int := ⟨gfX3_22, fun C T N h => by cases h; exact ⟨rfl, tyX3_ok 3 (by decide)⟩⟩
set_option maxRecDepth 100000 in
theorem lkX3_26 : Cond.fieldLink RX3 26 RX3 (TX3 4).2.1 (TX3 4).2.2.1 ∈ lw_good := lw_m1 115 rfl rfl
set_option maxRecDepth 100000 in
theorem gfX3_26 : GFok RX3 26 3 4 := ⟨RX3, TX3, 5, rfl, by decide, inlX3, lkX3_26, rfl, tyX3, tyX3_ok, nmX3⟩
set_option maxRecDepth 100000 in
theorem pfX3_26 : PFok RX3 26 3 4 .int := ⟨gfX3_26, fun C T N h => by cases h; exact ⟨rfl, tyX3_ok 4 (by decide)⟩⟩
set_option maxRecDepth 100000 in
theorem neX3 : RX3 ≠ "java/lang/invoke/MethodHandle" ∧ RX3 ≠ "java/lang/invoke/VarHandle" := by decide +kernel
set_option maxRecDepth 100000 in
theorem wnX3 : Cond.initialized RX3 ∈ lw_good := lw_m1 4 rfl rfl
set_option maxRecDepth 100000 in
theorem ds_10 : (parseMethodDescriptor "(ILStillInIt$Group;)I").map (fun d => d.parameters.length) = some 2 := by decide +kernel
set_option maxRecDepth 100000 in
theorem moX3_aboveOf : MOk yX3_aboveOf cX3_aboveOf 5 (some .int) 2 := ⟨lw_m3 33 rfl rfl, wnX3, neX3.1, neX3.2, ds_10⟩
set_option maxRecDepth 100000 in
theorem mlX3_36 : Cond.methodLink RX3 36 yX3_aboveOf ∈ lw_good := lw_m3 30 rfl rfl
set_option maxRecDepth 100000 in
theorem voX3_aboveOf : VOk yX3_aboveOf := ⟨lw_m3 32 rfl rfl, lw_mem 12 rfl rfl⟩
set_option maxRecDepth 100000 in
theorem ds_11 : (parseMethodDescriptor "(LStillInIt$Group;I)V").map (fun d => d.parameters.length) = some 2 := by decide +kernel
set_option maxRecDepth 100000 in
theorem moX3_open : MOk yX3_open cX3_open 5 none 2 := ⟨lw_m3 20 rfl rfl, wnX3, neX3.1, neX3.2, ds_11⟩
set_option maxRecDepth 100000 in
theorem mlX3_18 : Cond.methodLink RX3 18 yX3_open ∈ lw_good := lw_m3 17 rfl rfl
set_option maxRecDepth 100000 in
theorem voX3_open : VOk yX3_open := ⟨lw_m3 19 rfl rfl, lw_mem 11 rfl rfl⟩
set_option maxRecDepth 100000 in
theorem lkX4_15 : Cond.fieldLink RX4 15 RX4 (TX4 1).2.1 (TX4 1).2.2.1 ∈ lw_good := lw_m1 31 rfl rfl
set_option maxRecDepth 100000 in
theorem gfX4_15 : GFok RX4 15 4 1 := ⟨RX4, TX4, 5, rfl, by decide, inlX4, lkX4_15, rfl, tyX4, tyX4_ok, nmX4⟩
set_option maxRecDepth 100000 in
theorem lkX4_9 : Cond.fieldLink RX4 9 RX4 (TX4 0).2.1 (TX4 0).2.2.1 ∈ lw_good := lw_m1 29 rfl rfl
set_option maxRecDepth 100000 in
theorem gfX4_9 : GFok RX4 9 4 0 := ⟨RX4, TX4, 5, rfl, by decide, inlX4, lkX4_9, rfl, tyX4, tyX4_ok, nmX4⟩
set_option maxRecDepth 100000 in
theorem pfX4_15 : PFok RX4 15 4 1 .int := ⟨gfX4_15, fun C T N h => by cases h; exact ⟨rfl, tyX4_ok 1 (by decide)⟩⟩
set_option maxRecDepth 100000 in
theorem lkX4_19 : Cond.fieldLink RX4 19 RX4 (TX4 2).2.1 (TX4 2).2.2.1 ∈ lw_good := lw_m1 33 rfl rfl
set_option maxRecDepth 100000 in
theorem gfX4_19 : GFok RX4 19 4 2 := ⟨RX4, TX4, 5, rfl, by decide, inlX4, lkX4_19, rfl, tyX4, tyX4_ok, nmX4⟩
set_option maxRecDepth 100000 in
theorem pfX4_19 : PFok RX4 19 4 2 .int := ⟨gfX4_19, fun C T N h => by cases h; exact ⟨rfl, tyX4_ok 2 (by decide)⟩⟩
set_option maxRecDepth 100000 in
theorem lkX4_22 : Cond.fieldLink RX4 22 RX4 (TX4 3).2.1 (TX4 3).2.2.1 ∈ lw_good := lw_m1 35 rfl rfl
set_option maxRecDepth 100000 in
theorem gfX4_22 : GFok RX4 22 4 3 := ⟨RX4, TX4, 5, rfl, by decide, inlX4, lkX4_22, rfl, tyX4, tyX4_ok, nmX4⟩
set_option maxRecDepth 100000 in
theorem pfX4_22 : PFok RX4 22 4 3 .int := ⟨gfX4_22, fun C T N h => by cases h; exact ⟨rfl, tyX4_ok 3 (by decide)⟩⟩
set_option maxRecDepth 100000 in
theorem lkX4_25 : Cond.fieldLink RX4 25 RX4 (TX4 4).2.1 (TX4 4).2.2.1 ∈ lw_good := lw_m1 37 rfl rfl
set_option maxRecDepth 100000 in
theorem gfX4_25 : GFok RX4 25 4 4 := ⟨RX4, TX4, 5, rfl, by decide, inlX4, lkX4_25, rfl, tyX4, tyX4_ok, nmX4⟩
set_option maxRecDepth 100000 in
theorem pfX4_25 : PFok RX4 25 4 4 .int := ⟨gfX4_25, fun C T N h => by cases h; exact ⟨rfl, tyX4_ok 4 (by decide)⟩⟩
set_option maxRecDepth 100000 in
theorem neX4 : RX4 ≠ "java/lang/invoke/MethodHandle" ∧ RX4 ≠ "java/lang/invoke/VarHandle" := by decide +kernel
set_option maxRecDepth 100000 in
theorem wnX4 : Cond.initialized RX4 ∈ lw_good := lw_m1 2 rfl rfl
set_option maxRecDepth 100000 in
theorem moX4_sortAt : MOk yX4_sortAt cX4_sortAt 3 (some .int) 1 := ⟨lw_m2 27 rfl rfl, wnX4, neX4.1, neX4.2, ds_8⟩
set_option maxRecDepth 100000 in
theorem mlX4_32 : Cond.methodLink RX4 32 yX4_sortAt ∈ lw_good := lw_m2 24 rfl rfl
set_option maxRecDepth 100000 in
theorem voX4_sortAt : VOk yX4_sortAt := ⟨lw_m2 26 rfl rfl, lw_mem 1 rfl rfl⟩
set_option maxRecDepth 100000 in
theorem moX4_isBlank : MOk yX4_isBlank cX4_isBlank 1 (some .boolean) 1 := ⟨lw_m2 23 rfl rfl, wnX4, neX4.1, neX4.2, ds_0⟩
set_option maxRecDepth 100000 in
theorem mlX4_28 : Cond.methodLink RX4 28 yX4_isBlank ∈ lw_good := lw_m2 21 rfl rfl
set_option maxRecDepth 100000 in
theorem soX4_isBlank : Cond.static yX4_isBlank ∈ lw_good := lw_m2 22 rfl rfl
set_option maxRecDepth 100000 in
theorem ds_12 : (parseMethodDescriptor "()V").map (fun d => d.parameters.length) = some 0 := by decide +kernel
set_option maxRecDepth 100000 in
theorem moX4_step : MOk yX4_step cX4_step 1 none 0 := ⟨lw_m2 20 rfl rfl, wnX4, neX4.1, neX4.2, ds_12⟩
set_option maxRecDepth 100000 in
theorem mlX4_36 : Cond.methodLink RX4 36 yX4_step ∈ lw_good := lw_m2 111 rfl rfl
set_option maxRecDepth 100000 in
theorem voX4_step : VOk yX4_step := ⟨lw_m2 18 rfl rfl, lw_m2 19 rfl rfl⟩
set_option maxRecDepth 100000 in
theorem mlX4_39 : Cond.methodLink RX4 39 yJ0_length_8abf5 ∈ lw_good := lw_m2 33 rfl rfl
set_option maxRecDepth 100000 in
theorem mlX4_45 : Cond.methodLink RX4 45 yJ0_charAt_5068e ∈ lw_good := lw_m2 43 rfl rfl
set_option maxRecDepth 100000 in
theorem ksX4_49 : (RX4, 49, "team", 0) ∈ strR := by decide +kernel
set_option maxRecDepth 100000 in
theorem ds_13 : (parseMethodDescriptor "(Ljava/lang/String;)Z").map (fun d => d.parameters.length) = some 1 := by decide +kernel
set_option maxRecDepth 100000 in
theorem moX4_is : MOk yX4_is cX4_is 3 (some .boolean) 1 := ⟨lw_m2 32 rfl rfl, wnX4, neX4.1, neX4.2, ds_13⟩
set_option maxRecDepth 100000 in
theorem mlX4_51 : Cond.methodLink RX4 51 yX4_is ∈ lw_good := lw_m2 90 rfl rfl
set_option maxRecDepth 100000 in
theorem voX4_is : VOk yX4_is := ⟨lw_m2 30 rfl rfl, lw_m2 31 rfl rfl⟩
set_option maxRecDepth 100000 in
theorem ksX4_55 : (RX4, 55, "start", 1) ∈ strR := by decide +kernel
set_option maxRecDepth 100000 in
theorem ksX4_57 : (RX4, 57, "game", 2) ∈ strR := by decide +kernel
set_option maxRecDepth 100000 in
theorem ksX4_59 : (RX4, 59, "won", 3) ∈ strR := by decide +kernel
set_option maxRecDepth 100000 in
theorem ksX4_61 : (RX4, 61, "drew", 4) ∈ strR := by decide +kernel
set_option maxRecDepth 100000 in
theorem lkX5_62 : Cond.fieldLink RX5 62 RX2 (TX2 2).2.1 (TX2 2).2.2.1 ∈ lw_good := lw_m1 198 rfl rfl
set_option maxRecDepth 100000 in
theorem gfX5_62 : GFok RX5 62 2 2 := ⟨RX2, TX2, 3, rfl, by decide, inlX2, lkX5_62, rfl, tyX2, tyX2_ok, nmX2⟩
set_option maxRecDepth 100000 in
theorem lkX5_9 : Cond.fieldLink RX5 9 RX5 (TX5 0).2.1 (TX5 0).2.2.1 ∈ lw_good := lw_m1 168 rfl rfl
set_option maxRecDepth 100000 in
theorem gfX5_9 : GFok RX5 9 5 0 := ⟨RX5, TX5, 5, rfl, by decide, inlX5, lkX5_9, rfl, tyX5, tyX5_ok, nmX5⟩
set_option maxRecDepth 100000 in
theorem lkX5_65 : Cond.fieldLink RX5 65 RX2 (TX2 0).2.1 (TX2 0).2.2.1 ∈ lw_good := lw_m1 193 rfl rfl
set_option maxRecDepth 100000 in
theorem gfX5_65 : GFok RX5 65 2 0 := ⟨RX2, TX2, 3, rfl, by decide, inlX2, lkX5_65, rfl, tyX2, tyX2_ok, nmX2⟩
set_option maxRecDepth 100000 in
theorem lkX5_28 : Cond.fieldLink RX5 28 RX5 (TX5 4).2.1 (TX5 4).2.2.1 ∈ lw_good := lw_m1 172 rfl rfl
set_option maxRecDepth 100000 in
theorem gfX5_28 : GFok RX5 28 5 4 := ⟨RX5, TX5, 5, rfl, by decide, inlX5, lkX5_28, rfl, tyX5, tyX5_ok, nmX5⟩
set_option maxRecDepth 100000 in
theorem lkX5_18 : Cond.fieldLink RX5 18 RX5 (TX5 2).2.1 (TX5 2).2.2.1 ∈ lw_good := lw_m1 170 rfl rfl
set_option maxRecDepth 100000 in
theorem gfX5_18 : GFok RX5 18 5 2 := ⟨RX5, TX5, 5, rfl, by decide, inlX5, lkX5_18, rfl, tyX5, tyX5_ok, nmX5⟩
set_option maxRecDepth 100000 in
theorem pfX5_28 : PFok RX5 28 5 4 .int := ⟨gfX5_28, fun C T N h => by cases h; exact ⟨rfl, tyX5_ok 4 (by decide)⟩⟩
set_option maxRecDepth 100000 in
theorem lkX5_15 : Cond.fieldLink RX5 15 RX5 (TX5 1).2.1 (TX5 1).2.2.1 ∈ lw_good := lw_m1 169 rfl rfl
set_option maxRecDepth 100000 in
theorem gfX5_15 : GFok RX5 15 5 1 := ⟨RX5, TX5, 5, rfl, by decide, inlX5, lkX5_15, rfl, tyX5, tyX5_ok, nmX5⟩
set_option maxRecDepth 100000 in
theorem mlX5_54 : Cond.methodLink RX5 54 yX0_award ∈ lw_good := lw_m3 190 rfl rfl
set_option maxRecDepth 100000 in
theorem neX5 : RX5 ≠ "java/lang/invoke/MethodHandle" ∧ RX5 ≠ "java/lang/invoke/VarHandle" := by decide +kernel
set_option maxRecDepth 100000 in
theorem wnX5 : Cond.initialized RX5 ∈ lw_good := lw_m1 6 rfl rfl
set_option maxRecDepth 100000 in
theorem ds_14 : (parseMethodDescriptor "(ILStillInIt$Group;LStillInIt$Sheet;)I").map (fun d => d.parameters.length) = some 3 := by decide +kernel
set_option maxRecDepth 100000 in
theorem moX5_from : MOk yX5_from cX5_from 6 (some .int) 3 := ⟨lw_m3 180 rfl rfl, wnX5, neX5.1, neX5.2, ds_14⟩
set_option maxRecDepth 100000 in
theorem mlX5_58 : Cond.methodLink RX5 58 yX5_from ∈ lw_good := lw_m3 191 rfl rfl
set_option maxRecDepth 100000 in
theorem voX5_from : VOk yX5_from := ⟨lw_m3 179 rfl rfl, lw_mem 22 rfl rfl⟩
set_option maxRecDepth 100000 in
theorem lkX5_32 : Cond.fieldLink RX5 32 RX5 (TX5 3).2.1 (TX5 3).2.2.1 ∈ lw_good := lw_m1 171 rfl rfl
set_option maxRecDepth 100000 in
theorem gfX5_32 : GFok RX5 32 5 3 := ⟨RX5, TX5, 5, rfl, by decide, inlX5, lkX5_32, rfl, tyX5, tyX5_ok, nmX5⟩
set_option maxRecDepth 100000 in
theorem mlX5_50 : Cond.methodLink RX5 50 yX0_firstResult ∈ lw_good := lw_m3 189 rfl rfl
set_option maxRecDepth 100000 in
theorem ds_15 : (parseMethodDescriptor "()Z").map (fun d => d.parameters.length) = some 0 := by decide +kernel
set_option maxRecDepth 100000 in
theorem moX5_isNew : MOk yX5_isNew cX5_isNew 4 (some .boolean) 0 := ⟨lw_m3 184 rfl rfl, wnX5, neX5.1, neX5.2, ds_15⟩
set_option maxRecDepth 100000 in
theorem mlX5_42 : Cond.methodLink RX5 42 yX5_isNew ∈ lw_good := lw_m3 181 rfl rfl
set_option maxRecDepth 100000 in
theorem voX5_isNew : VOk yX5_isNew := ⟨lw_m3 183 rfl rfl, lw_mem 23 rfl rfl⟩
set_option maxRecDepth 100000 in
theorem ds_16 : (parseMethodDescriptor "(LStillInIt$Sheet;)Z").map (fun d => d.parameters.length) = some 1 := by decide +kernel
set_option maxRecDepth 100000 in
theorem moX5_isAsTold : MOk yX5_isAsTold cX5_isAsTold 3 (some .boolean) 1 := ⟨lw_m3 188 rfl rfl, wnX5, neX5.1, neX5.2, ds_16⟩
set_option maxRecDepth 100000 in
theorem mlX5_46 : Cond.methodLink RX5 46 yX5_isAsTold ∈ lw_good := lw_m3 185 rfl rfl
set_option maxRecDepth 100000 in
theorem voX5_isAsTold : VOk yX5_isAsTold := ⟨lw_m3 187 rfl rfl, lw_mem 24 rfl rfl⟩
set_option maxRecDepth 100000 in
theorem lkX5_35 : Cond.fieldLink RX5 35 RX0 (TX0 1).2.1 (TX0 1).2.2.1 ∈ lw_good := lw_m1 60 rfl rfl
set_option maxRecDepth 100000 in
theorem gfX5_35 : GFok RX5 35 0 1 := ⟨RX0, TX0, 10, rfl, by decide, inlX0, lkX5_35, rfl, tyX0, tyX0_ok, nmX0⟩
set_option maxRecDepth 100000 in
theorem mlX5_38 : Cond.methodLink RX5 38 yX0_isLeft ∈ lw_good := lw_m3 176 rfl rfl
set_option maxRecDepth 100000 in
theorem pfX5_32 : PFok RX5 32 5 3 .int := ⟨gfX5_32, fun C T N h => by cases h; exact ⟨rfl, tyX5_ok 3 (by decide)⟩⟩
set_option maxRecDepth 100000 in
theorem mlX5_22 : Cond.methodLink RX5 22 yX0_pointsInto ∈ lw_good := lw_m3 175 rfl rfl
set_option maxRecDepth 100000 in
theorem lkX6_32 : Cond.fieldLink RX6 32 RX6 (TX6 4).2.1 (TX6 4).2.2.1 ∈ lw_good := lw_m1 211 rfl rfl
set_option maxRecDepth 100000 in
theorem gfX6_32 : GFok RX6 32 6 4 := ⟨RX6, TX6, 10, rfl, by decide, inlX6, lkX6_32, rfl, tyX6, tyX6_ok, nmX6⟩
set_option maxRecDepth 100000 in
theorem ds_17 : (parseMethodDescriptor "(LStillInIt$Group;I)I").map (fun d => d.parameters.length) = some 2 := by decide +kernel
set_option maxRecDepth 100000 in
theorem moX3_find : MOk yX3_find cX3_find 6 (some .int) 2 := ⟨lw_m3 16 rfl rfl, wnX3, neX3.1, neX3.2, ds_17⟩
set_option maxRecDepth 100000 in
theorem mlX6_155 : Cond.methodLink RX6 155 yX3_find ∈ lw_good := lw_m3 13 rfl rfl
set_option maxRecDepth 100000 in
theorem voX3_find : VOk yX3_find := ⟨lw_m3 14 rfl rfl, lw_m3 15 rfl rfl⟩
set_option maxRecDepth 100000 in
theorem lkX6_90 : Cond.fieldLink RX6 90 RX0 (TX0 2).2.1 (TX0 2).2.2.1 ∈ lw_good := lw_m1 65 rfl rfl
set_option maxRecDepth 100000 in
theorem gfX6_90 : GFok RX6 90 0 2 := ⟨RX0, TX0, 10, rfl, by decide, inlX0, lkX6_90, rfl, tyX0, tyX0_ok, nmX0⟩
set_option maxRecDepth 100000 in
theorem lkX6_39 : Cond.fieldLink RX6 39 RX6 (TX6 5).2.1 (TX6 5).2.2.1 ∈ lw_good := lw_m1 212 rfl rfl
set_option maxRecDepth 100000 in
theorem gfX6_39 : GFok RX6 39 6 5 := ⟨RX6, TX6, 10, rfl, by decide, inlX6, lkX6_39, rfl, tyX6, tyX6_ok, nmX6⟩
set_option maxRecDepth 100000 in
theorem mlX6_119 : Cond.methodLink RX6 119 yX0_leftOf ∈ lw_good := lw_m2 222 rfl rfl
set_option maxRecDepth 100000 in
theorem ds_18 : (parseMethodDescriptor "(LStillInIt$Group;II)V").map (fun d => d.parameters.length) = some 3 := by decide +kernel
set_option maxRecDepth 100000 in
theorem moX1_open : MOk yX1_open cX1_open 7 none 3 := ⟨lw_m3 43 rfl rfl, wnX1, neX1.1, neX1.2, ds_18⟩
set_option maxRecDepth 100000 in
theorem mlX6_164 : Cond.methodLink RX6 164 yX1_open ∈ lw_good := lw_m3 40 rfl rfl
set_option maxRecDepth 100000 in
theorem voX1_open : VOk yX1_open := ⟨lw_m3 41 rfl rfl, lw_m3 42 rfl rfl⟩
set_option maxRecDepth 100000 in
theorem moX1_canEnd : MOk yX1_canEnd cX1_canEnd 2 (some .boolean) 0 := ⟨lw_m3 67 rfl rfl, wnX1, neX1.1, neX1.2, ds_15⟩
set_option maxRecDepth 100000 in
theorem mlX6_168 : Cond.methodLink RX6 168 yX1_canEnd ∈ lw_good := lw_m3 64 rfl rfl
set_option maxRecDepth 100000 in
theorem voX1_canEnd : VOk yX1_canEnd := ⟨lw_m3 65 rfl rfl, lw_m3 66 rfl rfl⟩
set_option maxRecDepth 100000 in
theorem lkX6_215 : Cond.fieldLink RX6 215 RX0 (TX0 0).2.1 (TX0 0).2.2.1 ∈ lw_good := lw_m1 58 rfl rfl
set_option maxRecDepth 100000 in
theorem gfX6_215 : GFok RX6 215 0 0 := ⟨RX0, TX0, 10, rfl, by decide, inlX0, lkX6_215, rfl, tyX0, tyX0_ok, nmX0⟩
set_option maxRecDepth 100000 in
theorem ds_19 : (parseMethodDescriptor "(LStillInIt$Group;I)Z").map (fun d => d.parameters.length) = some 2 := by decide +kernel
set_option maxRecDepth 100000 in
theorem moX6_canWin : MOk yX6_canWin cX6_canWin 3 (some .boolean) 2 := ⟨lw_m3 12 rfl rfl, wnX6, neX6.1, neX6.2, ds_19⟩
set_option maxRecDepth 100000 in
theorem mlX6_144 : Cond.methodLink RX6 144 yX6_canWin ∈ lw_good := lw_m3 9 rfl rfl
set_option maxRecDepth 100000 in
theorem voX6_canWin : VOk yX6_canWin := ⟨lw_m3 11 rfl rfl, lw_mem 10 rfl rfl⟩
set_option maxRecDepth 100000 in
theorem lkX6_19 : Cond.fieldLink RX6 19 RX6 (TX6 1).2.1 (TX6 1).2.2.1 ∈ lw_good := lw_m1 208 rfl rfl
set_option maxRecDepth 100000 in
theorem gfX6_19 : GFok RX6 19 6 1 := ⟨RX6, TX6, 10, rfl, by decide, inlX6, lkX6_19, rfl, tyX6, tyX6_ok, nmX6⟩
set_option maxRecDepth 100000 in
theorem ds_20 : (parseMethodDescriptor "(LStillInIt$Group;)I").map (fun d => d.parameters.length) = some 1 := by decide +kernel
set_option maxRecDepth 100000 in
theorem moX6_whoCanWin : MOk yX6_whoCanWin cX6_whoCanWin 4 (some .int) 1 := ⟨lw_m3 91 rfl rfl, wnX6, neX6.1, neX6.2, ds_20⟩
set_option maxRecDepth 100000 in
theorem mlX6_148 : Cond.methodLink RX6 148 yX6_whoCanWin ∈ lw_good := lw_m3 88 rfl rfl
set_option maxRecDepth 100000 in
theorem voX6_whoCanWin : VOk yX6_whoCanWin := ⟨lw_m3 90 rfl rfl, lw_mem 18 rfl rfl⟩
set_option maxRecDepth 100000 in
theorem lkX6_241 : Cond.fieldLink RX6 241 RX6 (TX6 9).2.1 (TX6 9).2.2.1 ∈ lw_good := lw_m1 216 rfl rfl
set_option maxRecDepth 100000 in
theorem gfX6_241 : GFok RX6 241 6 9 := ⟨RX6, TX6, 10, rfl, by decide, inlX6, lkX6_241, rfl, tyX6, tyX6_ok, nmX6⟩
set_option maxRecDepth 100000 in
theorem lkX6_23 : Cond.fieldLink RX6 23 RX6 (TX6 2).2.1 (TX6 2).2.2.1 ∈ lw_good := lw_m1 209 rfl rfl
set_option maxRecDepth 100000 in
theorem gfX6_23 : GFok RX6 23 6 2 := ⟨RX6, TX6, 10, rfl, by decide, inlX6, lkX6_23, rfl, tyX6, tyX6_ok, nmX6⟩
set_option maxRecDepth 100000 in
theorem ds_21 : (parseMethodDescriptor "(LStillInIt$Group;)V").map (fun d => d.parameters.length) = some 1 := by decide +kernel
set_option maxRecDepth 100000 in
theorem moX0_takeFrom : MOk yX0_takeFrom cX0_takeFrom 2 none 1 := ⟨lw_m3 142 rfl rfl, wnX0, neX0.1, neX0.2, ds_21⟩
set_option maxRecDepth 100000 in
theorem mlX6_190 : Cond.methodLink RX6 190 yX0_takeFrom ∈ lw_good := lw_m3 139 rfl rfl
set_option maxRecDepth 100000 in
theorem voX0_takeFrom : VOk yX0_takeFrom := ⟨lw_m3 140 rfl rfl, lw_m3 141 rfl rfl⟩
set_option maxRecDepth 100000 in
theorem lkX6_135 : Cond.fieldLink RX6 135 RX0 (TX0 1).2.1 (TX0 1).2.2.1 ∈ lw_good := lw_m1 63 rfl rfl
set_option maxRecDepth 100000 in
theorem gfX6_135 : GFok RX6 135 0 1 := ⟨RX0, TX0, 10, rfl, by decide, inlX0, lkX6_135, rfl, tyX0, tyX0_ok, nmX0⟩
set_option maxRecDepth 100000 in
theorem mlX6_138 : Cond.methodLink RX6 138 yX0_foe ∈ lw_good := lw_m3 0 rfl rfl
set_option maxRecDepth 100000 in
theorem mlX6_102 : Cond.methodLink RX6 102 yX0_hasTeam ∈ lw_good := lw_m2 193 rfl rfl
set_option maxRecDepth 100000 in
theorem mlX6_96 : Cond.methodLink RX6 96 yX0_isLeft ∈ lw_good := lw_m2 184 rfl rfl
set_option maxRecDepth 100000 in
theorem kcX6_332 : Cond.constant RX6 332 (1103515245) ∈ lw_good := lw_m3 200 rfl rfl
set_option maxRecDepth 100000 in
theorem lkX6_50 : Cond.fieldLink RX6 50 RX6 (TX6 8).2.1 (TX6 8).2.2.1 ∈ lw_good := lw_m1 215 rfl rfl
set_option maxRecDepth 100000 in
theorem gfX6_50 : GFok RX6 50 6 8 := ⟨RX6, TX6, 10, rfl, by decide, inlX6, lkX6_50, rfl, tyX6, tyX6_ok, nmX6⟩
set_option maxRecDepth 100000 in
theorem mlX6_333 : Cond.methodLink RX6 333 yX0_award ∈ lw_good := lw_m3 201 rfl rfl
set_option maxRecDepth 100000 in
theorem mlX6_321 : Cond.methodLink RX6 321 yX0_pointsInto ∈ lw_good := lw_m2 202 rfl rfl
set_option maxRecDepth 100000 in
theorem mlX6_200 : Cond.methodLink RX6 200 yX0_firstResult ∈ lw_good := lw_m3 158 rfl rfl
set_option maxRecDepth 100000 in
theorem moX6_commonDivisor : MOk yX6_commonDivisor cX6_commonDivisor 6 (some .int) 2 := ⟨lw_m3 212 rfl rfl, wnX6, neX6.1, neX6.2, ds_1⟩
set_option maxRecDepth 100000 in
theorem mlX6_224 : Cond.methodLink RX6 224 yX6_commonDivisor ∈ lw_good := lw_m3 210 rfl rfl
set_option maxRecDepth 100000 in
theorem soX6_commonDivisor : Cond.static yX6_commonDivisor ∈ lw_good := lw_m3 211 rfl rfl
set_option maxRecDepth 100000 in
theorem ds_22 : (parseMethodDescriptor "(I)V").map (fun d => d.parameters.length) = some 1 := by decide +kernel
set_option maxRecDepth 100000 in
theorem moX6_drawInto : MOk yX6_drawInto cX6_drawInto 5 none 1 := ⟨lw_m3 199 rfl rfl, wnX6, neX6.1, neX6.2, ds_22⟩
set_option maxRecDepth 100000 in
theorem mlX6_212 : Cond.methodLink RX6 212 yX6_drawInto ∈ lw_good := lw_m3 196 rfl rfl
set_option maxRecDepth 100000 in
theorem voX6_drawInto : VOk yX6_drawInto := ⟨lw_m3 198 rfl rfl, lw_mem 25 rfl rfl⟩
set_option maxRecDepth 100000 in
theorem ds_23 : (parseMethodDescriptor "([II)I").map (fun d => d.parameters.length) = some 2 := by decide +kernel
set_option maxRecDepth 100000 in
theorem moX6_firstOf : MOk yX6_firstOf cX6_firstOf 5 (some .int) 2 := ⟨lw_m3 204 rfl rfl, wnX6, neX6.1, neX6.2, ds_23⟩
set_option maxRecDepth 100000 in
theorem mlX6_216 : Cond.methodLink RX6 216 yX6_firstOf ∈ lw_good := lw_m3 202 rfl rfl
set_option maxRecDepth 100000 in
theorem soX6_firstOf : Cond.static yX6_firstOf ∈ lw_good := lw_m3 203 rfl rfl
set_option maxRecDepth 100000 in
theorem mlX6_220 : Cond.methodLink RX6 220 yX6_has ∈ lw_good := lw_m3 209 rfl rfl
set_option maxRecDepth 100000 in
theorem moX6_isPart : MOk yX6_isPart cX6_isPart 1 (some .boolean) 1 := ⟨lw_m3 98 rfl rfl, wnX6, neX6.1, neX6.2, ds_0⟩
set_option maxRecDepth 100000 in
theorem mlX6_152 : Cond.methodLink RX6 152 yX6_isPart ∈ lw_good := lw_m3 96 rfl rfl
set_option maxRecDepth 100000 in
theorem soX6_isPart : Cond.static yX6_isPart ∈ lw_good := lw_m3 97 rfl rfl
set_option maxRecDepth 100000 in
theorem moX6_isSheet : MOk yX6_isSheet cX6_isSheet 1 (some .boolean) 1 := ⟨lw_m3 219 rfl rfl, wnX6, neX6.1, neX6.2, ds_0⟩
set_option maxRecDepth 100000 in
theorem mlX6_227 : Cond.methodLink RX6 227 yX6_isSheet ∈ lw_good := lw_m3 217 rfl rfl
set_option maxRecDepth 100000 in
theorem soX6_isSheet : Cond.static yX6_isSheet ∈ lw_good := lw_m3 218 rfl rfl
set_option maxRecDepth 100000 in
theorem lkX6_56 : Cond.fieldLink RX6 56 RX6 (TX6 7).2.1 (TX6 7).2.2.1 ∈ lw_good := lw_m1 214 rfl rfl
set_option maxRecDepth 100000 in
theorem gfX6_56 : GFok RX6 56 6 7 := ⟨RX6, TX6, 10, rfl, by decide, inlX6, lkX6_56, rfl, tyX6, tyX6_ok, nmX6⟩
set_option maxRecDepth 100000 in
theorem neX2 : RX2 ≠ "java/lang/invoke/MethodHandle" ∧ RX2 ≠ "java/lang/invoke/VarHandle" := by decide +kernel
set_option maxRecDepth 100000 in
theorem wnX2 : Cond.initialized RX2 ∈ lw_good := lw_m1 7 rfl rfl
set_option maxRecDepth 100000 in
theorem moX2_isMissing : MOk yX2_isMissing cX2_isMissing 1 (some .boolean) 0 := ⟨lw_m3 223 rfl rfl, wnX2, neX2.1, neX2.2, ds_15⟩
set_option maxRecDepth 100000 in
theorem mlX6_230 : Cond.methodLink RX6 230 yX2_isMissing ∈ lw_good := lw_m3 220 rfl rfl
set_option maxRecDepth 100000 in
theorem voX2_isMissing : VOk yX2_isMissing := ⟨lw_m3 221 rfl rfl, lw_m3 222 rfl rfl⟩
set_option maxRecDepth 100000 in
theorem lkX6_248 : Cond.fieldLink RX6 248 RX2 (TX2 1).2.1 (TX2 1).2.2.1 ∈ lw_good := lw_m1 196 rfl rfl
set_option maxRecDepth 100000 in
theorem gfX6_248 : GFok RX6 248 2 1 := ⟨RX2, TX2, 3, rfl, by decide, inlX2, lkX6_248, rfl, tyX2, tyX2_ok, nmX2⟩
set_option maxRecDepth 100000 in
theorem moX2_holds : MOk yX2_holds cX2_holds 3 (some .boolean) 2 := ⟨lw_m4 22 rfl rfl, wnX2, neX2.1, neX2.2, ds_5⟩
set_option maxRecDepth 100000 in
theorem mlX6_251 : Cond.methodLink RX6 251 yX2_holds ∈ lw_good := lw_m4 19 rfl rfl
set_option maxRecDepth 100000 in
theorem voX2_holds : VOk yX2_holds := ⟨lw_m4 20 rfl rfl, lw_m4 21 rfl rfl⟩
set_option maxRecDepth 100000 in
theorem lkX6_234 : Cond.fieldLink RX6 234 RX2 (TX2 0).2.1 (TX2 0).2.2.1 ∈ lw_good := lw_m1 194 rfl rfl
set_option maxRecDepth 100000 in
theorem gfX6_234 : GFok RX6 234 2 0 := ⟨RX2, TX2, 3, rfl, by decide, inlX2, lkX6_234, rfl, tyX2, tyX2_ok, nmX2⟩
set_option maxRecDepth 100000 in
theorem mlX6_254 : Cond.methodLink RX6 254 arraycopyName ∈ lw_good := lw_m4 23 rfl rfl
set_option maxRecDepth 100000 in
theorem moX0_left : MOk yX0_left cX0_left 3 (some .int) 0 := ⟨lw_m3 114 rfl rfl, wnX0, neX0.1, neX0.2, ds_9⟩
set_option maxRecDepth 100000 in
theorem mlX6_175 : Cond.methodLink RX6 175 yX0_left ∈ lw_good := lw_m3 111 rfl rfl
set_option maxRecDepth 100000 in
theorem voX0_left : VOk yX0_left := ⟨lw_m3 112 rfl rfl, lw_m3 113 rfl rfl⟩
set_option maxRecDepth 100000 in
theorem mlX6_182 : Cond.methodLink RX6 182 yJ6_bitCount_0f7a4 ∈ lw_good := lw_m2 226 rfl rfl
set_option maxRecDepth 100000 in
theorem lkX6_10 : Cond.fieldLink RX6 10 RX6 (TX6 0).2.1 (TX6 0).2.2.1 ∈ lw_good := lw_m1 207 rfl rfl
set_option maxRecDepth 100000 in
theorem gfX6_10 : GFok RX6 10 6 0 := ⟨RX6, TX6, 10, rfl, by decide, inlX6, lkX6_10, rfl, tyX6, tyX6_ok, nmX6⟩
set_option maxRecDepth 100000 in
theorem lkX6_65 : Cond.fieldLink RX6 65 RX4 (TX4 1).2.1 (TX4 1).2.2.1 ∈ lw_good := lw_m1 32 rfl rfl
set_option maxRecDepth 100000 in
theorem gfX6_65 : GFok RX6 65 4 1 := ⟨RX4, TX4, 5, rfl, by decide, inlX4, lkX6_65, rfl, tyX4, tyX4_ok, nmX4⟩
set_option maxRecDepth 100000 in
theorem mlX6_264 : Cond.methodLink RX6 264 yX4_step ∈ lw_good := lw_m2 17 rfl rfl
set_option maxRecDepth 100000 in
theorem moX4_isName : MOk yX4_isName cX4_isName 1 (some .boolean) 0 := ⟨lw_m2 88 rfl rfl, wnX4, neX4.1, neX4.2, ds_15⟩
set_option maxRecDepth 100000 in
theorem mlX6_303 : Cond.methodLink RX6 303 yX4_isName ∈ lw_good := lw_m2 85 rfl rfl
set_option maxRecDepth 100000 in
theorem voX4_isName : VOk yX4_isName := ⟨lw_m2 86 rfl rfl, lw_m2 87 rfl rfl⟩
set_option maxRecDepth 100000 in
theorem lkX6_80 : Cond.fieldLink RX6 80 RX4 (TX4 0).2.1 (TX4 0).2.2.1 ∈ lw_good := lw_m1 30 rfl rfl
set_option maxRecDepth 100000 in
theorem gfX6_80 : GFok RX6 80 4 0 := ⟨RX4, TX4, 5, rfl, by decide, inlX4, lkX6_80, rfl, tyX4, tyX4_ok, nmX4⟩
set_option maxRecDepth 100000 in
theorem lkX6_297 : Cond.fieldLink RX6 297 RX4 (TX4 2).2.1 (TX4 2).2.2.1 ∈ lw_good := lw_m1 34 rfl rfl
set_option maxRecDepth 100000 in
theorem gfX6_297 : GFok RX6 297 4 2 := ⟨RX4, TX4, 5, rfl, by decide, inlX4, lkX6_297, rfl, tyX4, tyX4_ok, nmX4⟩
set_option maxRecDepth 100000 in
theorem lkX6_300 : Cond.fieldLink RX6 300 RX4 (TX4 3).2.1 (TX4 3).2.2.1 ∈ lw_good := lw_m1 36 rfl rfl
set_option maxRecDepth 100000 in
theorem gfX6_300 : GFok RX6 300 4 3 := ⟨RX4, TX4, 5, rfl, by decide, inlX4, lkX6_300, rfl, tyX4, tyX4_ok, nmX4⟩
set_option maxRecDepth 100000 in
theorem ds_24 : (parseMethodDescriptor "([III)I").map (fun d => d.parameters.length) = some 3 := by decide +kernel
set_option maxRecDepth 100000 in
theorem moX0_whose : MOk yX0_whose cX0_whose 5 (some .int) 3 := ⟨lw_m2 98 rfl rfl, wnX0, neX0.1, neX0.2, ds_24⟩
set_option maxRecDepth 100000 in
theorem mlX6_83 : Cond.methodLink RX6 83 yX0_whose ∈ lw_good := lw_m2 95 rfl rfl
set_option maxRecDepth 100000 in
theorem voX0_whose : VOk yX0_whose := ⟨lw_m2 96 rfl rfl, lw_m2 97 rfl rfl⟩
set_option maxRecDepth 100000 in
theorem moX4_fault : MOk yX4_fault cX4_fault 1 (some .int) 0 := ⟨lw_m2 106 rfl rfl, wnX4, neX4.1, neX4.2, ds_9⟩
set_option maxRecDepth 100000 in
theorem mlX6_294 : Cond.methodLink RX6 294 yX4_fault ∈ lw_good := lw_m2 103 rfl rfl
set_option maxRecDepth 100000 in
theorem voX4_fault : VOk yX4_fault := ⟨lw_m2 104 rfl rfl, lw_m2 105 rfl rfl⟩
set_option maxRecDepth 100000 in
theorem moX6_readTeam : MOk yX6_readTeam cX6_readTeam 3 (some .int) 1 := ⟨lw_m2 124 rfl rfl, wnX6, neX6.1, neX6.2, ds_8⟩
set_option maxRecDepth 100000 in
theorem mlX6_312 : Cond.methodLink RX6 312 yX6_readTeam ∈ lw_good := lw_m2 121 rfl rfl
set_option maxRecDepth 100000 in
theorem voX6_readTeam : VOk yX6_readTeam := ⟨lw_m2 123 rfl rfl, lw_mem 5 rfl rfl⟩
set_option maxRecDepth 100000 in
theorem moX4_number : MOk yX4_number cX4_number 5 (some .int) 2 := ⟨lw_m2 128 rfl rfl, wnX4, neX4.1, neX4.2, ds_1⟩
set_option maxRecDepth 100000 in
theorem mlX6_315 : Cond.methodLink RX6 315 yX4_number ∈ lw_good := lw_m2 125 rfl rfl
set_option maxRecDepth 100000 in
theorem voX4_number : VOk yX4_number := ⟨lw_m2 126 rfl rfl, lw_m2 127 rfl rfl⟩
set_option maxRecDepth 100000 in
theorem moX4_ends : MOk yX4_ends cX4_ends 1 (some .boolean) 0 := ⟨lw_m2 110 rfl rfl, wnX4, neX4.1, neX4.2, ds_15⟩
set_option maxRecDepth 100000 in
theorem mlX6_306 : Cond.methodLink RX6 306 yX4_ends ∈ lw_good := lw_m2 107 rfl rfl
set_option maxRecDepth 100000 in
theorem voX4_ends : VOk yX4_ends := ⟨lw_m2 108 rfl rfl, lw_m2 109 rfl rfl⟩
set_option maxRecDepth 100000 in
theorem ds_25 : (parseMethodDescriptor "(III)I").map (fun d => d.parameters.length) = some 3 := by decide +kernel
set_option maxRecDepth 100000 in
theorem moX0_addGame : MOk yX0_addGame cX0_addGame 4 (some .int) 3 := ⟨lw_m2 137 rfl rfl, wnX0, neX0.1, neX0.2, ds_25⟩
set_option maxRecDepth 100000 in
theorem mlX6_260 : Cond.methodLink RX6 260 yX0_addGame ∈ lw_good := lw_m2 134 rfl rfl
set_option maxRecDepth 100000 in
theorem voX0_addGame : VOk yX0_addGame := ⟨lw_m2 135 rfl rfl, lw_m2 136 rfl rfl⟩
set_option maxRecDepth 100000 in
theorem lkX6_99 : Cond.fieldLink RX6 99 RX0 (TX0 9).2.1 (TX0 9).2.2.1 ∈ lw_good := lw_m1 82 rfl rfl
set_option maxRecDepth 100000 in
theorem gfX6_99 : GFok RX6 99 0 9 := ⟨RX0, TX0, 10, rfl, by decide, inlX0, lkX6_99, rfl, tyX0, tyX0_ok, nmX0⟩
set_option maxRecDepth 100000 in
theorem moX0_nextBetween : MOk yX0_nextBetween cX0_nextBetween 5 (some .int) 2 := ⟨lw_m2 150 rfl rfl, wnX0, neX0.1, neX0.2, ds_1⟩
set_option maxRecDepth 100000 in
theorem mlX6_318 : Cond.methodLink RX6 318 yX0_nextBetween ∈ lw_good := lw_m2 147 rfl rfl
set_option maxRecDepth 100000 in
theorem voX0_nextBetween : VOk yX0_nextBetween := ⟨lw_m2 148 rfl rfl, lw_m2 149 rfl rfl⟩
set_option maxRecDepth 100000 in
theorem lkX6_126 : Cond.fieldLink RX6 126 RX0 (TX0 6).2.1 (TX0 6).2.2.1 ∈ lw_good := lw_m1 74 rfl rfl
set_option maxRecDepth 100000 in
theorem gfX6_126 : GFok RX6 126 0 6 := ⟨RX0, TX0, 10, rfl, by decide, inlX0, lkX6_126, rfl, tyX0, tyX0_ok, nmX0⟩
set_option maxRecDepth 100000 in
theorem lkX6_109 : Cond.fieldLink RX6 109 RX0 (TX0 3).2.1 (TX0 3).2.2.1 ∈ lw_good := lw_m1 67 rfl rfl
set_option maxRecDepth 100000 in
theorem gfX6_109 : GFok RX6 109 0 3 := ⟨RX0, TX0, 10, rfl, by decide, inlX0, lkX6_109, rfl, tyX0, tyX0_ok, nmX0⟩
set_option maxRecDepth 100000 in
theorem moX0_addTeam : MOk yX0_addTeam cX0_addTeam 5 (some .int) 3 := ⟨lw_m2 115 rfl rfl, wnX0, neX0.1, neX0.2, ds_24⟩
set_option maxRecDepth 100000 in
theorem mlX6_309 : Cond.methodLink RX6 309 yX0_addTeam ∈ lw_good := lw_m2 112 rfl rfl
set_option maxRecDepth 100000 in
theorem voX0_addTeam : VOk yX0_addTeam := ⟨lw_m2 113 rfl rfl, lw_m2 114 rfl rfl⟩
set_option maxRecDepth 100000 in
theorem ksX6_267 : (RX6, 267, "team", 0) ∈ strR := by decide +kernel
set_option maxRecDepth 100000 in
theorem mlX6_269 : Cond.methodLink RX6 269 yX4_is ∈ lw_good := lw_m2 29 rfl rfl
set_option maxRecDepth 100000 in
theorem ksX6_276 : (RX6, 276, "start", 1) ∈ strR := by decide +kernel
set_option maxRecDepth 100000 in
theorem ksX6_281 : (RX6, 281, "game", 2) ∈ strR := by decide +kernel
set_option maxRecDepth 100000 in
theorem ksX6_286 : (RX6, 286, "won", 3) ∈ strR := by decide +kernel
set_option maxRecDepth 100000 in
theorem ksX6_292 : (RX6, 292, "drew", 4) ∈ strR := by decide +kernel
set_option maxRecDepth 100000 in
theorem ds_26 : (parseMethodDescriptor "(Z)I").map (fun d => d.parameters.length) = some 1 := by decide +kernel
set_option maxRecDepth 100000 in
theorem moX6_doPlay : MOk yX6_doPlay cX6_doPlay 6 (some .int) 1 := ⟨lw_m2 146 rfl rfl, wnX6, neX6.1, neX6.2, ds_26⟩
set_option maxRecDepth 100000 in
theorem mlX6_288 : Cond.methodLink RX6 288 yX6_doPlay ∈ lw_good := lw_m2 143 rfl rfl
set_option maxRecDepth 100000 in
theorem voX6_doPlay : VOk yX6_doPlay := ⟨lw_m2 145 rfl rfl, lw_mem 7 rfl rfl⟩
set_option maxRecDepth 100000 in
theorem moX6_doGame : MOk yX6_doGame cX6_doGame 5 (some .int) 0 := ⟨lw_m2 133 rfl rfl, wnX6, neX6.1, neX6.2, ds_9⟩
set_option maxRecDepth 100000 in
theorem mlX6_283 : Cond.methodLink RX6 283 yX6_doGame ∈ lw_good := lw_m2 130 rfl rfl
set_option maxRecDepth 100000 in
theorem voX6_doGame : VOk yX6_doGame := ⟨lw_m2 132 rfl rfl, lw_mem 6 rfl rfl⟩
set_option maxRecDepth 100000 in
theorem moX6_doStart : MOk yX6_doStart cX6_doStart 3 (some .int) 0 := ⟨lw_m2 120 rfl rfl, wnX6, neX6.1, neX6.2, ds_9⟩
set_option maxRecDepth 100000 in
theorem mlX6_278 : Cond.methodLink RX6 278 yX6_doStart ∈ lw_good := lw_m2 117 rfl rfl
set_option maxRecDepth 100000 in
theorem voX6_doStart : VOk yX6_doStart := ⟨lw_m2 119 rfl rfl, lw_mem 4 rfl rfl⟩
set_option maxRecDepth 100000 in
theorem moX6_doTeam : MOk yX6_doTeam cX6_doTeam 3 (some .int) 0 := ⟨lw_m2 84 rfl rfl, wnX6, neX6.1, neX6.2, ds_9⟩
set_option maxRecDepth 100000 in
theorem mlX6_273 : Cond.methodLink RX6 273 yX6_doTeam ∈ lw_good := lw_m2 81 rfl rfl
set_option maxRecDepth 100000 in
theorem voX6_doTeam : VOk yX6_doTeam := ⟨lw_m2 83 rfl rfl, lw_mem 2 rfl rfl⟩
set_option maxRecDepth 100000 in
theorem moX4_add : MOk yX4_add cX4_add 2 none 1 := ⟨lw_m2 8 rfl rfl, wnX4, neX4.1, neX4.2, ds_22⟩
set_option maxRecDepth 100000 in
theorem mlX6_69 : Cond.methodLink RX6 69 yX4_add ∈ lw_good := lw_m2 5 rfl rfl
set_option maxRecDepth 100000 in
theorem voX4_add : VOk yX4_add := ⟨lw_m2 6 rfl rfl, lw_m2 7 rfl rfl⟩
set_option maxRecDepth 100000 in
theorem moX6_isByte : MOk yX6_isByte cX6_isByte 1 (some .boolean) 1 := ⟨lw_m2 4 rfl rfl, wnX6, neX6.1, neX6.2, ds_0⟩
set_option maxRecDepth 100000 in
theorem mlX6_61 : Cond.methodLink RX6 61 yX6_isByte ∈ lw_good := lw_m2 2 rfl rfl
set_option maxRecDepth 100000 in
theorem soX6_isByte : Cond.static yX6_isByte ∈ lw_good := lw_m2 3 rfl rfl
set_option maxRecDepth 100000 in
theorem moX1_drawOnly : MOk yX1_drawOnly cX1_drawOnly 4 none 1 := ⟨lw_m3 126 rfl rfl, wnX1, neX1.1, neX1.2, ds_22⟩
set_option maxRecDepth 100000 in
theorem mlX6_329 : Cond.methodLink RX6 329 yX1_drawOnly ∈ lw_good := lw_m3 123 rfl rfl
set_option maxRecDepth 100000 in
theorem voX1_drawOnly : VOk yX1_drawOnly := ⟨lw_m3 124 rfl rfl, lw_m3 125 rfl rfl⟩
set_option maxRecDepth 100000 in
theorem ds_27 : (parseMethodDescriptor "(IIZ)Z").map (fun d => d.parameters.length) = some 3 := by decide +kernel
set_option maxRecDepth 100000 in
theorem moX6_suffices : MOk yX6_suffices cX6_suffices 4 (some .boolean) 3 := ⟨lw_m3 122 rfl rfl, wnX6, neX6.1, neX6.2, ds_27⟩
set_option maxRecDepth 100000 in
theorem mlX6_325 : Cond.methodLink RX6 325 yX6_suffices ∈ lw_good := lw_m3 119 rfl rfl
set_option maxRecDepth 100000 in
theorem voX6_suffices : VOk yX6_suffices := ⟨lw_m3 121 rfl rfl, lw_mem 20 rfl rfl⟩
set_option maxRecDepth 100000 in
theorem ds_28 : (parseMethodDescriptor "(II)V").map (fun d => d.parameters.length) = some 2 := by decide +kernel
set_option maxRecDepth 100000 in
theorem moX2_become : MOk yX2_become cX2_become 4 none 2 := ⟨lw_m3 231 rfl rfl, wnX2, neX2.1, neX2.2, ds_28⟩
set_option maxRecDepth 100000 in
theorem mlX6_237 : Cond.methodLink RX6 237 yX2_become ∈ lw_good := lw_m3 228 rfl rfl
set_option maxRecDepth 100000 in
theorem voX2_become : VOk yX2_become := ⟨lw_m3 229 rfl rfl, lw_m3 230 rfl rfl⟩
set_option maxRecDepth 100000 in
theorem moX0_hasGame : MOk yX0_hasGame cX0_hasGame 2 (some .boolean) 1 := ⟨lw_m2 183 rfl rfl, wnX0, neX0.1, neX0.2, ds_0⟩
set_option maxRecDepth 100000 in
theorem mlX6_93 : Cond.methodLink RX6 93 yX0_hasGame ∈ lw_good := lw_m2 180 rfl rfl
set_option maxRecDepth 100000 in
theorem voX0_hasGame : VOk yX0_hasGame := ⟨lw_m2 181 rfl rfl, lw_m2 182 rfl rfl⟩
set_option maxRecDepth 100000 in
theorem lkX6_129 : Cond.fieldLink RX6 129 RX0 (TX0 7).2.1 (TX0 7).2.2.1 ∈ lw_good := lw_m1 78 rfl rfl
set_option maxRecDepth 100000 in
theorem gfX6_129 : GFok RX6 129 0 7 := ⟨RX0, TX0, 10, rfl, by decide, inlX0, lkX6_129, rfl, tyX0, tyX0_ok, nmX0⟩
set_option maxRecDepth 100000 in
theorem lkX6_132 : Cond.fieldLink RX6 132 RX0 (TX0 8).2.1 (TX0 8).2.2.1 ∈ lw_good := lw_m1 80 rfl rfl
set_option maxRecDepth 100000 in
theorem gfX6_132 : GFok RX6 132 0 8 := ⟨RX0, TX0, 10, rfl, by decide, inlX0, lkX6_132, rfl, tyX0, tyX0_ok, nmX0⟩
set_option maxRecDepth 100000 in
theorem lkX6_26 : Cond.fieldLink RX6 26 RX6 (TX6 3).2.1 (TX6 3).2.2.1 ∈ lw_good := lw_m1 210 rfl rfl
set_option maxRecDepth 100000 in
theorem gfX6_26 : GFok RX6 26 6 3 := ⟨RX6, TX6, 10, rfl, by decide, inlX6, lkX6_26, rfl, tyX6, tyX6_ok, nmX6⟩
set_option maxRecDepth 100000 in
theorem pfX6_241 : PFok RX6 241 6 9 .boolean := ⟨gfX6_241, fun C T N h => by cases h; exact ⟨rfl, tyX6_ok 9 (by decide)⟩⟩
set_option maxRecDepth 100000 in
theorem moX6_pointsOf : MOk yX6_pointsOf cX6_pointsOf 3 (some .int) 2 := ⟨lw_m2 201 rfl rfl, wnX6, neX6.1, neX6.2, ds_17⟩
set_option maxRecDepth 100000 in
theorem mlX6_112 : Cond.methodLink RX6 112 yX6_pointsOf ∈ lw_good := lw_m2 198 rfl rfl
set_option maxRecDepth 100000 in
theorem voX6_pointsOf : VOk yX6_pointsOf := ⟨lw_m2 200 rfl rfl, lw_mem 8 rfl rfl⟩
set_option maxRecDepth 100000 in
theorem mlX6_141 : Cond.methodLink RX6 141 yX0_winBrings ∈ lw_good := lw_m2 218 rfl rfl
set_option maxRecDepth 100000 in
theorem moX6_reachOf : MOk yX6_reachOf cX6_reachOf 3 (some .int) 2 := ⟨lw_m2 217 rfl rfl, wnX6, neX6.1, neX6.2, ds_17⟩
set_option maxRecDepth 100000 in
theorem mlX6_116 : Cond.methodLink RX6 116 yX6_reachOf ∈ lw_good := lw_m2 214 rfl rfl
set_option maxRecDepth 100000 in
theorem voX6_reachOf : VOk yX6_reachOf := ⟨lw_m2 216 rfl rfl, lw_mem 9 rfl rfl⟩
set_option maxRecDepth 100000 in
theorem moX6_isSort : MOk yX6_isSort cX6_isSort 1 (some .boolean) 1 := ⟨lw_m4 10 rfl rfl, wnX6, neX6.1, neX6.2, ds_0⟩
set_option maxRecDepth 100000 in
theorem mlX6_245 : Cond.methodLink RX6 245 yX6_isSort ∈ lw_good := lw_m4 8 rfl rfl
set_option maxRecDepth 100000 in
theorem soX6_isSort : Cond.static yX6_isSort ∈ lw_good := lw_m4 9 rfl rfl
set_option maxRecDepth 100000 in
theorem moX4_clear : MOk yX4_clear cX4_clear 1 none 0 := ⟨lw_m2 163 rfl rfl, wnX4, neX4.1, neX4.2, ds_12⟩
set_option maxRecDepth 100000 in
theorem mlX6_77 : Cond.methodLink RX6 77 yX4_clear ∈ lw_good := lw_m2 160 rfl rfl
set_option maxRecDepth 100000 in
theorem voX4_clear : VOk yX4_clear := ⟨lw_m2 161 rfl rfl, lw_m2 162 rfl rfl⟩
set_option maxRecDepth 100000 in
theorem ds_29 : (parseMethodDescriptor "(IIZ)I").map (fun d => d.parameters.length) = some 3 := by decide +kernel
set_option maxRecDepth 100000 in
theorem moX6_fewestFor : MOk yX6_fewestFor cX6_fewestFor 7 (some .int) 3 := ⟨lw_m3 118 rfl rfl, wnX6, neX6.1, neX6.2, ds_29⟩
set_option maxRecDepth 100000 in
theorem mlX6_178 : Cond.methodLink RX6 178 yX6_fewestFor ∈ lw_good := lw_m3 115 rfl rfl
set_option maxRecDepth 100000 in
theorem voX6_fewestFor : VOk yX6_fewestFor := ⟨lw_m3 117 rfl rfl, lw_mem 19 rfl rfl⟩
set_option maxRecDepth 100000 in
theorem lkX6_233 : Cond.fieldLink RX6 233 RX2 (TX2 2).2.1 (TX2 2).2.2.1 ∈ lw_good := lw_m1 199 rfl rfl
set_option maxRecDepth 100000 in
theorem gfX6_233 : GFok RX6 233 2 2 := ⟨RX2, TX2, 3, rfl, by decide, inlX2, lkX6_233, rfl, tyX2, tyX2_ok, nmX2⟩
set_option maxRecDepth 100000 in
theorem moX1_pickOf : MOk yX1_pickOf cX1_pickOf 3 (some .int) 1 := ⟨lw_m3 106 rfl rfl, wnX1, neX1.1, neX1.2, ds_8⟩
set_option maxRecDepth 100000 in
theorem mlX6_172 : Cond.methodLink RX6 172 yX1_pickOf ∈ lw_good := lw_m3 103 rfl rfl
set_option maxRecDepth 100000 in
theorem voX1_pickOf : VOk yX1_pickOf := ⟨lw_m3 104 rfl rfl, lw_m3 105 rfl rfl⟩
set_option maxRecDepth 100000 in
theorem lkX6_161 : Cond.fieldLink RX6 161 RX3 (TX3 4).2.1 (TX3 4).2.2.1 ∈ lw_good := lw_m1 116 rfl rfl
set_option maxRecDepth 100000 in
theorem gfX6_161 : GFok RX6 161 3 4 := ⟨RX3, TX3, 5, rfl, by decide, inlX3, lkX6_161, rfl, tyX3, tyX3_ok, nmX3⟩
set_option maxRecDepth 100000 in
theorem lkX6_158 : Cond.fieldLink RX6 158 RX3 (TX3 3).2.1 (TX3 3).2.2.1 ∈ lw_good := lw_m1 114 rfl rfl
set_option maxRecDepth 100000 in
theorem gfX6_158 : GFok RX6 158 3 3 := ⟨RX3, TX3, 5, rfl, by decide, inlX3, lkX6_158, rfl, tyX3, tyX3_ok, nmX3⟩
set_option maxRecDepth 100000 in
theorem moX0_forget : MOk yX0_forget cX0_forget 3 none 1 := ⟨lw_m3 149 rfl rfl, wnX0, neX0.1, neX0.2, ds_22⟩
set_option maxRecDepth 100000 in
theorem mlX6_194 : Cond.methodLink RX6 194 yX0_forget ∈ lw_good := lw_m3 146 rfl rfl
set_option maxRecDepth 100000 in
theorem voX0_forget : VOk yX0_forget := ⟨lw_m3 147 rfl rfl, lw_m3 148 rfl rfl⟩
set_option maxRecDepth 100000 in
theorem moX6_isSure : MOk yX6_isSure cX6_isSure 5 (some .boolean) 2 := ⟨lw_m3 153 rfl rfl, wnX6, neX6.1, neX6.2, ds_19⟩
set_option maxRecDepth 100000 in
theorem mlX6_197 : Cond.methodLink RX6 197 yX6_isSure ∈ lw_good := lw_m3 150 rfl rfl
set_option maxRecDepth 100000 in
theorem voX6_isSure : VOk yX6_isSure := ⟨lw_m3 152 rfl rfl, lw_mem 21 rfl rfl⟩
set_option maxRecDepth 100000 in
theorem moX0_wasPlayedOn : MOk yX0_wasPlayedOn cX0_wasPlayedOn 3 (some .boolean) 1 := ⟨lw_m3 138 rfl rfl, wnX0, neX0.1, neX0.2, ds_0⟩
set_option maxRecDepth 100000 in
theorem mlX6_187 : Cond.methodLink RX6 187 yX0_wasPlayedOn ∈ lw_good := lw_m3 135 rfl rfl
set_option maxRecDepth 100000 in
theorem voX0_wasPlayedOn : VOk yX0_wasPlayedOn := ⟨lw_m3 136 rfl rfl, lw_m3 137 rfl rfl⟩
set_option maxRecDepth 100000 in
theorem moX6_isSystem : MOk yX6_isSystem cX6_isSystem 1 (some .boolean) 1 := ⟨lw_m2 175 rfl rfl, wnX6, neX6.1, neX6.2, ds_0⟩
set_option maxRecDepth 100000 in
theorem mlX6_87 : Cond.methodLink RX6 87 yX6_isSystem ∈ lw_good := lw_m2 173 rfl rfl
set_option maxRecDepth 100000 in
theorem soX6_isSystem : Cond.static yX6_isSystem ∈ lw_good := lw_m2 174 rfl rfl
set_option maxRecDepth 100000 in
theorem pfX6_90 : PFok RX6 90 0 2 .int := ⟨gfX6_90, fun C T N h => by cases h; exact ⟨rfl, tyX0_ok 2 (by decide)⟩⟩
set_option maxRecDepth 100000 in
theorem lkX6_46 : Cond.fieldLink RX6 46 RX6 (TX6 6).2.1 (TX6 6).2.2.1 ∈ lw_good := lw_m1 213 rfl rfl
set_option maxRecDepth 100000 in
theorem gfX6_46 : GFok RX6 46 6 6 := ⟨RX6, TX6, 10, rfl, by decide, inlX6, lkX6_46, rfl, tyX6, tyX6_ok, nmX6⟩
set_option maxRecDepth 100000 in
theorem moX5_open : MOk yX5_open cX5_open 3 none 1 := ⟨lw_m3 174 rfl rfl, wnX5, neX5.1, neX5.2, ds_21⟩
set_option maxRecDepth 100000 in
theorem mlX6_206 : Cond.methodLink RX6 206 yX5_open ∈ lw_good := lw_m3 171 rfl rfl
set_option maxRecDepth 100000 in
theorem voX5_open : VOk yX5_open := ⟨lw_m3 172 rfl rfl, lw_m3 173 rfl rfl⟩
set_option maxRecDepth 100000 in
theorem mnX6_208 : (RX6, 208, yX5_from, "StillInIt") ∈ nestM := by decide +kernel
set_option maxRecDepth 100000 in
theorem moX6_doText : MOk yX6_doText cX6_doText 1 (some .int) 0 := ⟨lw_m2 16 rfl rfl, wnX6, neX6.1, neX6.2, ds_9⟩
set_option maxRecDepth 100000 in
theorem mlX6_73 : Cond.methodLink RX6 73 yX6_doText ∈ lw_good := lw_m2 13 rfl rfl
set_option maxRecDepth 100000 in
theorem voX6_doText : VOk yX6_doText := ⟨lw_m2 15 rfl rfl, lw_mem 0 rfl rfl⟩
set_option maxRecDepth 100000 in
theorem lkX6_123 : Cond.fieldLink RX6 123 RX0 (TX0 4).2.1 (TX0 4).2.2.1 ∈ lw_good := lw_m1 69 rfl rfl
set_option maxRecDepth 100000 in
theorem gfX6_123 : GFok RX6 123 0 4 := ⟨RX0, TX0, 10, rfl, by decide, inlX0, lkX6_123, rfl, tyX0, tyX0_ok, nmX0⟩
set_option maxRecDepth 100000 in
theorem moX0_letter : MOk yX0_letter cX0_letter 3 (some .int) 2 := ⟨lw_m2 197 rfl rfl, wnX0, neX0.1, neX0.2, ds_1⟩
set_option maxRecDepth 100000 in
theorem mlX6_105 : Cond.methodLink RX6 105 yX0_letter ∈ lw_good := lw_m2 194 rfl rfl
set_option maxRecDepth 100000 in
theorem voX0_letter : VOk yX0_letter := ⟨lw_m2 195 rfl rfl, lw_m2 196 rfl rfl⟩
set_option maxRecDepth 100000 in
theorem moX0_drop : MOk yX0_drop cX0_drop 3 none 1 := ⟨lw_m3 166 rfl rfl, wnX0, neX0.1, neX0.2, ds_22⟩
set_option maxRecDepth 100000 in
theorem mlX6_203 : Cond.methodLink RX6 203 yX0_drop ∈ lw_good := lw_m3 163 rfl rfl
set_option maxRecDepth 100000 in
theorem voX0_drop : VOk yX0_drop := ⟨lw_m3 164 rfl rfl, lw_m3 165 rfl rfl⟩
set_option maxRecDepth 100000 in
theorem lkX7_9 : Cond.fieldLink RX7 9 RX7 (TX7 0).2.1 (TX7 0).2.2.1 ∈ lw_good := lw_m4 34 rfl rfl
set_option maxRecDepth 100000 in
theorem gfX7_9 : GFok RX7 9 7 0 := ⟨RX7, TX7, 21, rfl, by decide, inlX7, lkX7_9, rfl, tyX7, tyX7_ok, nmX7⟩
set_option maxRecDepth 100000 in
theorem lkX7_16 : Cond.fieldLink RX7 16 RX7 (TX7 3).2.1 (TX7 3).2.2.1 ∈ lw_good := lw_m4 37 rfl rfl
set_option maxRecDepth 100000 in
theorem gfX7_16 : GFok RX7 16 7 3 := ⟨RX7, TX7, 21, rfl, by decide, inlX7, lkX7_16, rfl, tyX7, tyX7_ok, nmX7⟩
set_option maxRecDepth 100000 in
theorem neX7 : RX7 ≠ "java/lang/invoke/MethodHandle" ∧ RX7 ≠ "java/lang/invoke/VarHandle" := by decide +kernel
set_option maxRecDepth 100000 in
theorem wnX7 : Cond.initialized RX7 ∈ lw_good := lw_m1 8 rfl rfl
set_option maxRecDepth 100000 in
theorem moX7_isOf : MOk yX7_isOf cX7_isOf 3 (some .boolean) 2 := ⟨lw_m4 183 rfl rfl, wnX7, neX7.1, neX7.2, ds_5⟩
set_option maxRecDepth 100000 in
theorem mlX7_64 : Cond.methodLink RX7 64 yX7_isOf ∈ lw_good := lw_m4 180 rfl rfl
set_option maxRecDepth 100000 in
theorem voX7_isOf : VOk yX7_isOf := ⟨lw_m4 182 rfl rfl, lw_mem 40 rfl rfl⟩
set_option maxRecDepth 100000 in
theorem lkX7_19 : Cond.fieldLink RX7 19 RX7 (TX7 4).2.1 (TX7 4).2.2.1 ∈ lw_good := lw_m4 38 rfl rfl
set_option maxRecDepth 100000 in
theorem gfX7_19 : GFok RX7 19 7 4 := ⟨RX7, TX7, 21, rfl, by decide, inlX7, lkX7_19, rfl, tyX7, tyX7_ok, nmX7⟩
set_option maxRecDepth 100000 in
theorem moX7_wonBrings : MOk yX7_wonBrings cX7_wonBrings 1 (some .int) 0 := ⟨lw_m4 228 rfl rfl, wnX7, neX7.1, neX7.2, ds_9⟩
set_option maxRecDepth 100000 in
theorem mlX7_47 : Cond.methodLink RX7 47 yX7_wonBrings ∈ lw_good := lw_m4 225 rfl rfl
set_option maxRecDepth 100000 in
theorem voX7_wonBrings : VOk yX7_wonBrings := ⟨lw_m4 227 rfl rfl, lw_mem 46 rfl rfl⟩
set_option maxRecDepth 100000 in
theorem moX7_ownLeft : MOk yX7_ownLeft cX7_ownLeft 4 (some .int) 1 := ⟨lw_m5 0 rfl rfl, wnX7, neX7.1, neX7.2, ds_8⟩
set_option maxRecDepth 100000 in
theorem mlX7_68 : Cond.methodLink RX7 68 yX7_ownLeft ∈ lw_good := lw_m4 237 rfl rfl
set_option maxRecDepth 100000 in
theorem voX7_ownLeft : VOk yX7_ownLeft := ⟨lw_m4 239 rfl rfl, lw_mem 49 rfl rfl⟩
set_option maxRecDepth 100000 in
theorem moX7_ones : MOk yX7_ones cX7_ones 3 (some .int) 1 := ⟨lw_m5 3 rfl rfl, wnX7, neX7.1, neX7.2, ds_8⟩
set_option maxRecDepth 100000 in
theorem mlX7_72 : Cond.methodLink RX7 72 yX7_ones ∈ lw_good := lw_m5 1 rfl rfl
set_option maxRecDepth 100000 in
theorem soX7_ones : Cond.static yX7_ones ∈ lw_good := lw_m5 2 rfl rfl
set_option maxRecDepth 100000 in
theorem moX7_has : MOk yX7_has cX7_has 2 (some .boolean) 2 := ⟨lw_m5 29 rfl rfl, wnX7, neX7.1, neX7.2, ds_5⟩
set_option maxRecDepth 100000 in
theorem mlX7_92 : Cond.methodLink RX7 92 yX7_has ∈ lw_good := lw_m5 27 rfl rfl
set_option maxRecDepth 100000 in
theorem soX7_has : Cond.static yX7_has ∈ lw_good := lw_m5 28 rfl rfl
set_option maxRecDepth 100000 in
theorem moX7_reach : MOk yX7_reach cX7_reach 2 (some .int) 1 := ⟨lw_m4 236 rfl rfl, wnX7, neX7.1, neX7.2, ds_8⟩
set_option maxRecDepth 100000 in
theorem mlX7_108 : Cond.methodLink RX7 108 yX7_reach ∈ lw_good := lw_m4 233 rfl rfl
set_option maxRecDepth 100000 in
theorem voX7_reach : VOk yX7_reach := ⟨lw_m4 235 rfl rfl, lw_mem 48 rfl rfl⟩
set_option maxRecDepth 100000 in
theorem moX7_drawnBrings : MOk yX7_drawnBrings cX7_drawnBrings 1 (some .int) 0 := ⟨lw_m4 232 rfl rfl, wnX7, neX7.1, neX7.2, ds_9⟩
set_option maxRecDepth 100000 in
theorem mlX7_51 : Cond.methodLink RX7 51 yX7_drawnBrings ∈ lw_good := lw_m4 229 rfl rfl
set_option maxRecDepth 100000 in
theorem voX7_drawnBrings : VOk yX7_drawnBrings := ⟨lw_m4 231 rfl rfl, lw_mem 47 rfl rfl⟩
set_option maxRecDepth 100000 in
theorem lkX7_75 : Cond.fieldLink RX7 75 RX7 (TX7 5).2.1 (TX7 5).2.2.1 ∈ lw_good := lw_m4 39 rfl rfl
set_option maxRecDepth 100000 in
theorem gfX7_75 : GFok RX7 75 7 5 := ⟨RX7, TX7, 21, rfl, by decide, inlX7, lkX7_75, rfl, tyX7, tyX7_ok, nmX7⟩
set_option maxRecDepth 100000 in
theorem lkX7_79 : Cond.fieldLink RX7 79 RX7 (TX7 6).2.1 (TX7 6).2.2.1 ∈ lw_good := lw_m4 40 rfl rfl
set_option maxRecDepth 100000 in
theorem gfX7_79 : GFok RX7 79 7 6 := ⟨RX7, TX7, 21, rfl, by decide, inlX7, lkX7_79, rfl, tyX7, tyX7_ok, nmX7⟩
set_option maxRecDepth 100000 in
theorem lkX7_82 : Cond.fieldLink RX7 82 RX7 (TX7 8).2.1 (TX7 8).2.2.1 ∈ lw_good := lw_m4 42 rfl rfl
set_option maxRecDepth 100000 in
theorem gfX7_82 : GFok RX7 82 7 8 := ⟨RX7, TX7, 21, rfl, by decide, inlX7, lkX7_82, rfl, tyX7, tyX7_ok, nmX7⟩
set_option maxRecDepth 100000 in
theorem pfX7_82 : PFok RX7 82 7 8 .int := ⟨gfX7_82, fun C T N h => by cases h; exact ⟨rfl, tyX7_ok 8 (by decide)⟩⟩
set_option maxRecDepth 100000 in
theorem lkX7_22 : Cond.fieldLink RX7 22 RX7 (TX7 7).2.1 (TX7 7).2.2.1 ∈ lw_good := lw_m4 41 rfl rfl
set_option maxRecDepth 100000 in
theorem gfX7_22 : GFok RX7 22 7 7 := ⟨RX7, TX7, 21, rfl, by decide, inlX7, lkX7_22, rfl, tyX7, tyX7_ok, nmX7⟩
set_option maxRecDepth 100000 in
theorem moX7_resultAt : MOk yX7_resultAt cX7_resultAt 1 (some .int) 1 := ⟨lw_m5 52 rfl rfl, wnX7, neX7.1, neX7.2, ds_8⟩
set_option maxRecDepth 100000 in
theorem mlX7_105 : Cond.methodLink RX7 105 yX7_resultAt ∈ lw_good := lw_m5 50 rfl rfl
set_option maxRecDepth 100000 in
theorem soX7_resultAt : Cond.static yX7_resultAt ∈ lw_good := lw_m5 51 rfl rfl
set_option maxRecDepth 100000 in
theorem moX7_brings : MOk yX7_brings cX7_brings 6 none 3 := ⟨lw_m4 224 rfl rfl, wnX7, neX7.1, neX7.2, ds_6⟩
set_option maxRecDepth 100000 in
theorem mlX7_54 : Cond.methodLink RX7 54 yX7_brings ∈ lw_good := lw_m4 221 rfl rfl
set_option maxRecDepth 100000 in
theorem voX7_brings : VOk yX7_brings := ⟨lw_m4 223 rfl rfl, lw_mem 45 rfl rfl⟩
set_option maxRecDepth 100000 in
theorem moX7_goes : MOk yX7_goes cX7_goes 6 (some .boolean) 2 := ⟨lw_m5 37 rfl rfl, wnX7, neX7.1, neX7.2, ds_5⟩
set_option maxRecDepth 100000 in
theorem mlX7_95 : Cond.methodLink RX7 95 yX7_goes ∈ lw_good := lw_m5 34 rfl rfl
set_option maxRecDepth 100000 in
theorem voX7_goes : VOk yX7_goes := ⟨lw_m5 36 rfl rfl, lw_mem 52 rfl rfl⟩
set_option maxRecDepth 100000 in
theorem moX7_results : MOk yX7_results cX7_results 1 (some .int) 0 := ⟨lw_m5 49 rfl rfl, wnX7, neX7.1, neX7.2, ds_9⟩
set_option maxRecDepth 100000 in
theorem mlX7_98 : Cond.methodLink RX7 98 yX7_results ∈ lw_good := lw_m5 46 rfl rfl
set_option maxRecDepth 100000 in
theorem voX7_results : VOk yX7_results := ⟨lw_m5 48 rfl rfl, lw_mem 55 rfl rfl⟩
set_option maxRecDepth 100000 in
theorem lkX7_101 : Cond.fieldLink RX7 101 RX7 (TX7 9).2.1 (TX7 9).2.2.1 ∈ lw_good := lw_m4 43 rfl rfl
set_option maxRecDepth 100000 in
theorem gfX7_101 : GFok RX7 101 7 9 := ⟨RX7, TX7, 21, rfl, by decide, inlX7, lkX7_101, rfl, tyX7, tyX7_ok, nmX7⟩
set_option maxRecDepth 100000 in
theorem moX7_isTooMuch : MOk yX7_isTooMuch cX7_isTooMuch 2 (some .boolean) 0 := ⟨lw_m5 41 rfl rfl, wnX7, neX7.1, neX7.2, ds_15⟩
set_option maxRecDepth 100000 in
theorem mlX7_85 : Cond.methodLink RX7 85 yX7_isTooMuch ∈ lw_good := lw_m5 38 rfl rfl
set_option maxRecDepth 100000 in
theorem voX7_isTooMuch : VOk yX7_isTooMuch := ⟨lw_m5 40 rfl rfl, lw_mem 53 rfl rfl⟩
set_option maxRecDepth 100000 in
theorem moX7_notesDrawn : MOk yX7_notesDrawn cX7_notesDrawn 3 none 0 := ⟨lw_m5 45 rfl rfl, wnX7, neX7.1, neX7.2, ds_12⟩
set_option maxRecDepth 100000 in
theorem mlX7_89 : Cond.methodLink RX7 89 yX7_notesDrawn ∈ lw_good := lw_m5 42 rfl rfl
set_option maxRecDepth 100000 in
theorem voX7_notesDrawn : VOk yX7_notesDrawn := ⟨lw_m5 44 rfl rfl, lw_mem 54 rfl rfl⟩
set_option maxRecDepth 100000 in
theorem moX7_leftSet : MOk yX7_leftSet cX7_leftSet 3 (some .int) 0 := ⟨lw_m5 33 rfl rfl, wnX7, neX7.1, neX7.2, ds_9⟩
set_option maxRecDepth 100000 in
theorem mlX7_111 : Cond.methodLink RX7 111 yX7_leftSet ∈ lw_good := lw_m5 30 rfl rfl
set_option maxRecDepth 100000 in
theorem voX7_leftSet : VOk yX7_leftSet := ⟨lw_m5 32 rfl rfl, lw_mem 51 rfl rfl⟩
set_option maxRecDepth 100000 in
theorem pfX7_75 : PFok RX7 75 7 5 .int := ⟨gfX7_75, fun C T N h => by cases h; exact ⟨rfl, tyX7_ok 5 (by decide)⟩⟩
set_option maxRecDepth 100000 in
theorem pfX7_79 : PFok RX7 79 7 6 .int := ⟨gfX7_79, fun C T N h => by cases h; exact ⟨rfl, tyX7_ok 6 (by decide)⟩⟩
set_option maxRecDepth 100000 in
theorem pfX7_101 : PFok RX7 101 7 9 .boolean := ⟨gfX7_101, fun C T N h => by cases h; exact ⟨rfl, tyX7_ok 9 (by decide)⟩⟩
set_option maxRecDepth 100000 in
theorem ds_30 : (parseMethodDescriptor "(IZ)Z").map (fun d => d.parameters.length) = some 2 := by decide +kernel
set_option maxRecDepth 100000 in
theorem moX7_isInNow : MOk yX7_isInNow cX7_isInNow 5 (some .boolean) 2 := ⟨lw_m5 26 rfl rfl, wnX7, neX7.1, neX7.2, ds_30⟩
set_option maxRecDepth 100000 in
theorem mlX7_114 : Cond.methodLink RX7 114 yX7_isInNow ∈ lw_good := lw_m5 23 rfl rfl
set_option maxRecDepth 100000 in
theorem voX7_isInNow : VOk yX7_isInNow := ⟨lw_m5 25 rfl rfl, lw_mem 50 rfl rfl⟩
set_option maxRecDepth 100000 in
theorem moX7_counts : MOk yX7_counts cX7_counts 2 none 0 := ⟨lw_m4 220 rfl rfl, wnX7, neX7.1, neX7.2, ds_12⟩
set_option maxRecDepth 100000 in
theorem mlX7_58 : Cond.methodLink RX7 58 yX7_counts ∈ lw_good := lw_m4 217 rfl rfl
set_option maxRecDepth 100000 in
theorem voX7_counts : VOk yX7_counts := ⟨lw_m4 219 rfl rfl, lw_mem 44 rfl rfl⟩
set_option maxRecDepth 100000 in
theorem moX7_looks : MOk yX7_looks cX7_looks 2 none 0 := ⟨lw_m4 216 rfl rfl, wnX7, neX7.1, neX7.2, ds_12⟩
set_option maxRecDepth 100000 in
theorem mlX7_61 : Cond.methodLink RX7 61 yX7_looks ∈ lw_good := lw_m4 213 rfl rfl
set_option maxRecDepth 100000 in
theorem voX7_looks : VOk yX7_looks := ⟨lw_m4 215 rfl rfl, lw_mem 43 rfl rfl⟩
set_option maxRecDepth 100000 in
theorem moX7_inSet : MOk yX7_inSet cX7_inSet 3 (some .int) 0 := ⟨lw_m5 60 rfl rfl, wnX7, neX7.1, neX7.2, ds_9⟩
set_option maxRecDepth 100000 in
theorem mlX7_214 : Cond.methodLink RX7 214 yX7_inSet ∈ lw_good := lw_m5 57 rfl rfl
set_option maxRecDepth 100000 in
theorem voX7_inSet : VOk yX7_inSet := ⟨lw_m5 59 rfl rfl, lw_mem 56 rfl rfl⟩
set_option maxRecDepth 100000 in
theorem lkX7_262 : Cond.fieldLink RX7 262 RX7 (TX7 2).2.1 (TX7 2).2.2.1 ∈ lw_good := lw_m4 36 rfl rfl
set_option maxRecDepth 100000 in
theorem gfX7_262 : GFok RX7 262 7 2 := ⟨RX7, TX7, 21, rfl, by decide, inlX7, lkX7_262, rfl, tyX7, tyX7_ok, nmX7⟩
set_option maxRecDepth 100000 in
theorem lkX7_13 : Cond.fieldLink RX7 13 RX7 (TX7 1).2.1 (TX7 1).2.2.1 ∈ lw_good := lw_m4 35 rfl rfl
set_option maxRecDepth 100000 in
theorem gfX7_13 : GFok RX7 13 7 1 := ⟨RX7, TX7, 21, rfl, by decide, inlX7, lkX7_13, rfl, tyX7, tyX7_ok, nmX7⟩
set_option maxRecDepth 100000 in
theorem ds_31 : (parseMethodDescriptor "([I[I)V").map (fun d => d.parameters.length) = some 2 := by decide +kernel
set_option maxRecDepth 100000 in
theorem moX7_copies : MOk yX7_copies cX7_copies 3 none 2 := ⟨lw_m5 169 rfl rfl, wnX7, neX7.1, neX7.2, ds_31⟩
set_option maxRecDepth 100000 in
theorem mlX7_265 : Cond.methodLink RX7 265 yX7_copies ∈ lw_good := lw_m5 167 rfl rfl
set_option maxRecDepth 100000 in
theorem soX7_copies : Cond.static yX7_copies ∈ lw_good := lw_m5 168 rfl rfl
set_option maxRecDepth 100000 in
theorem ds_32 : (parseMethodDescriptor "(JJJ)Z").map (fun d => d.parameters.length) = some 3 := by decide +kernel
set_option maxRecDepth 100000 in
theorem moX7_in : MOk yX7_in cX7_in 6 (some .boolean) 3 := ⟨lw_m4 105 rfl rfl, wnX7, neX7.1, neX7.2, ds_32⟩
set_option maxRecDepth 100000 in
theorem mlX7_43 : Cond.methodLink RX7 43 yX7_in ∈ lw_good := lw_m4 103 rfl rfl
set_option maxRecDepth 100000 in
theorem soX7_in : Cond.static yX7_in ∈ lw_good := lw_m4 104 rfl rfl
set_option maxRecDepth 100000 in
theorem moX7_isTeam : MOk yX7_isTeam cX7_isTeam 2 (some .boolean) 1 := ⟨lw_m4 212 rfl rfl, wnX7, neX7.1, neX7.2, ds_0⟩
set_option maxRecDepth 100000 in
theorem mlX7_205 : Cond.methodLink RX7 205 yX7_isTeam ∈ lw_good := lw_m4 209 rfl rfl
set_option maxRecDepth 100000 in
theorem voX7_isTeam : VOk yX7_isTeam := ⟨lw_m4 211 rfl rfl, lw_mem 42 rfl rfl⟩
set_option maxRecDepth 100000 in
theorem lkX7_129 : Cond.fieldLink RX7 129 RX7 (TX7 11).2.1 (TX7 11).2.2.1 ∈ lw_good := lw_m4 45 rfl rfl
set_option maxRecDepth 100000 in
theorem gfX7_129 : GFok RX7 129 7 11 := ⟨RX7, TX7, 21, rfl, by decide, inlX7, lkX7_129, rfl, tyX7, tyX7_ok, nmX7⟩
set_option maxRecDepth 100000 in
theorem lkX7_25 : Cond.fieldLink RX7 25 RX7 (TX7 10).2.1 (TX7 10).2.2.1 ∈ lw_good := lw_m4 44 rfl rfl
set_option maxRecDepth 100000 in
theorem gfX7_25 : GFok RX7 25 7 10 := ⟨RX7, TX7, 21, rfl, by decide, inlX7, lkX7_25, rfl, tyX7, tyX7_ok, nmX7⟩
set_option maxRecDepth 100000 in
theorem moX7_canBePassed : MOk yX7_canBePassed cX7_canBePassed 5 (some .boolean) 2 := ⟨lw_m5 96 rfl rfl, wnX7, neX7.1, neX7.2, ds_5⟩
set_option maxRecDepth 100000 in
theorem mlX7_118 : Cond.methodLink RX7 118 yX7_canBePassed ∈ lw_good := lw_m5 93 rfl rfl
set_option maxRecDepth 100000 in
theorem voX7_canBePassed : VOk yX7_canBePassed := ⟨lw_m5 95 rfl rfl, lw_mem 60 rfl rfl⟩
set_option maxRecDepth 100000 in
theorem kcX7_241 : Cond.constant RX7 241 (1103515245) ∈ lw_good := lw_m5 129 rfl rfl
set_option maxRecDepth 100000 in
theorem moX7_draws : MOk yX7_draws cX7_draws 4 none 1 := ⟨lw_m5 128 rfl rfl, wnX7, neX7.1, neX7.2, ds_22⟩
set_option maxRecDepth 100000 in
theorem mlX7_242 : Cond.methodLink RX7 242 yX7_draws ∈ lw_good := lw_m5 125 rfl rfl
set_option maxRecDepth 100000 in
theorem voX7_draws : VOk yX7_draws := ⟨lw_m5 127 rfl rfl, lw_mem 64 rfl rfl⟩
set_option maxRecDepth 100000 in
theorem moX7_firstOnes : MOk yX7_firstOnes cX7_firstOnes 5 (some .int) 0 := ⟨lw_m5 133 rfl rfl, wnX7, neX7.1, neX7.2, ds_9⟩
set_option maxRecDepth 100000 in
theorem mlX7_245 : Cond.methodLink RX7 245 yX7_firstOnes ∈ lw_good := lw_m5 130 rfl rfl
set_option maxRecDepth 100000 in
theorem voX7_firstOnes : VOk yX7_firstOnes := ⟨lw_m5 132 rfl rfl, lw_mem 65 rfl rfl⟩
set_option maxRecDepth 100000 in
theorem klX7_248 : Cond.constantLong RX7 248 (20) ∈ lw_good := lw_m5 138 rfl rfl
set_option maxRecDepth 100000 in
theorem lkX7_146 : Cond.fieldLink RX7 146 RX7 (TX7 13).2.1 (TX7 13).2.2.1 ∈ lw_good := lw_m4 47 rfl rfl
set_option maxRecDepth 100000 in
theorem gfX7_146 : GFok RX7 146 7 13 := ⟨RX7, TX7, 21, rfl, by decide, inlX7, lkX7_146, rfl, tyX7, tyX7_ok, nmX7⟩
set_option maxRecDepth 100000 in
theorem pfX7_129 : PFok RX7 129 7 11 .int := ⟨gfX7_129, fun C T N h => by cases h; exact ⟨rfl, tyX7_ok 11 (by decide)⟩⟩
set_option maxRecDepth 100000 in
theorem klX7_136 : Cond.constantLong RX7 136 (48) ∈ lw_good := lw_m4 130 rfl rfl
set_option maxRecDepth 100000 in
theorem klX7_138 : Cond.constantLong RX7 138 (57) ∈ lw_good := lw_m4 131 rfl rfl
set_option maxRecDepth 100000 in
theorem klX7_132 : Cond.constantLong RX7 132 (97) ∈ lw_good := lw_m4 125 rfl rfl
set_option maxRecDepth 100000 in
theorem klX7_134 : Cond.constantLong RX7 134 (122) ∈ lw_good := lw_m4 126 rfl rfl
set_option maxRecDepth 100000 in
theorem lkX7_140 : Cond.fieldLink RX7 140 RX7 (TX7 12).2.1 (TX7 12).2.2.1 ∈ lw_good := lw_m4 46 rfl rfl
set_option maxRecDepth 100000 in
theorem gfX7_140 : GFok RX7 140 7 12 := ⟨RX7, TX7, 21, rfl, by decide, inlX7, lkX7_140, rfl, tyX7, tyX7_ok, nmX7⟩
set_option maxRecDepth 100000 in
theorem pfX7_140 : PFok RX7 140 7 12 .int := ⟨gfX7_140, fun C T N h => by cases h; exact ⟨rfl, tyX7_ok 12 (by decide)⟩⟩
set_option maxRecDepth 100000 in
theorem lkX7_149 : Cond.fieldLink RX7 149 RX7 (TX7 14).2.1 (TX7 14).2.2.1 ∈ lw_good := lw_m4 48 rfl rfl
set_option maxRecDepth 100000 in
theorem gfX7_149 : GFok RX7 149 7 14 := ⟨RX7, TX7, 21, rfl, by decide, inlX7, lkX7_149, rfl, tyX7, tyX7_ok, nmX7⟩
set_option maxRecDepth 100000 in
theorem pfX7_149 : PFok RX7 149 7 14 .int := ⟨gfX7_149, fun C T N h => by cases h; exact ⟨rfl, tyX7_ok 14 (by decide)⟩⟩
set_option maxRecDepth 100000 in
theorem moX7_byteAt : MOk yX7_byteAt cX7_byteAt 2 (some .int) 1 := ⟨lw_m4 121 rfl rfl, wnX7, neX7.1, neX7.2, ds_8⟩
set_option maxRecDepth 100000 in
theorem mlX7_143 : Cond.methodLink RX7 143 yX7_byteAt ∈ lw_good := lw_m4 118 rfl rfl
set_option maxRecDepth 100000 in
theorem voX7_byteAt : VOk yX7_byteAt := ⟨lw_m4 120 rfl rfl, lw_mem 27 rfl rfl⟩
set_option maxRecDepth 100000 in
theorem moX7_isDigit : MOk yX7_isDigit cX7_isDigit 1 (some .boolean) 1 := ⟨lw_m4 129 rfl rfl, wnX7, neX7.1, neX7.2, ds_0⟩
set_option maxRecDepth 100000 in
theorem mlX7_155 : Cond.methodLink RX7 155 yX7_isDigit ∈ lw_good := lw_m4 127 rfl rfl
set_option maxRecDepth 100000 in
theorem soX7_isDigit : Cond.static yX7_isDigit ∈ lw_good := lw_m4 128 rfl rfl
set_option maxRecDepth 100000 in
theorem moX7_isLetter : MOk yX7_isLetter cX7_isLetter 1 (some .boolean) 1 := ⟨lw_m4 124 rfl rfl, wnX7, neX7.1, neX7.2, ds_0⟩
set_option maxRecDepth 100000 in
theorem mlX7_152 : Cond.methodLink RX7 152 yX7_isLetter ∈ lw_good := lw_m4 122 rfl rfl
set_option maxRecDepth 100000 in
theorem soX7_isLetter : Cond.static yX7_isLetter ∈ lw_good := lw_m4 123 rfl rfl
set_option maxRecDepth 100000 in
theorem pfX7_146 : PFok RX7 146 7 13 .int := ⟨gfX7_146, fun C T N h => by cases h; exact ⟨rfl, tyX7_ok 13 (by decide)⟩⟩
set_option maxRecDepth 100000 in
theorem moX7_next : MOk yX7_next cX7_next 2 none 0 := ⟨lw_m4 117 rfl rfl, wnX7, neX7.1, neX7.2, ds_12⟩
set_option maxRecDepth 100000 in
theorem mlX7_164 : Cond.methodLink RX7 164 yX7_next ∈ lw_good := lw_m4 114 rfl rfl
set_option maxRecDepth 100000 in
theorem voX7_next : VOk yX7_next := ⟨lw_m4 116 rfl rfl, lw_mem 26 rfl rfl⟩
set_option maxRecDepth 100000 in
theorem moX7_isOver : MOk yX7_isOver cX7_isOver 1 (some .boolean) 0 := ⟨lw_m4 159 rfl rfl, wnX7, neX7.1, neX7.2, ds_15⟩
set_option maxRecDepth 100000 in
theorem mlX7_186 : Cond.methodLink RX7 186 yX7_isOver ∈ lw_good := lw_m4 156 rfl rfl
set_option maxRecDepth 100000 in
theorem voX7_isOver : VOk yX7_isOver := ⟨lw_m4 158 rfl rfl, lw_mem 34 rfl rfl⟩
set_option maxRecDepth 100000 in
theorem moX7_faults : MOk yX7_faults cX7_faults 2 (some .int) 0 := ⟨lw_m4 143 rfl rfl, wnX7, neX7.1, neX7.2, ds_9⟩
set_option maxRecDepth 100000 in
theorem mlX7_167 : Cond.methodLink RX7 167 yX7_faults ∈ lw_good := lw_m4 140 rfl rfl
set_option maxRecDepth 100000 in
theorem voX7_faults : VOk yX7_faults := ⟨lw_m4 142 rfl rfl, lw_mem 30 rfl rfl⟩
set_option maxRecDepth 100000 in
theorem klX7_212 : Cond.constantLong RX7 212 (3) ∈ lw_good := lw_m5 10 rfl rfl
set_option maxRecDepth 100000 in
theorem lkX7_40 : Cond.fieldLink RX7 40 RX7 (TX7 20).2.1 (TX7 20).2.2.1 ∈ lw_good := lw_m4 54 rfl rfl
set_option maxRecDepth 100000 in
theorem gfX7_40 : GFok RX7 40 7 20 := ⟨RX7, TX7, 21, rfl, by decide, inlX7, lkX7_40, rfl, tyX7, tyX7_ok, nmX7⟩
set_option maxRecDepth 100000 in
theorem moX7_isSheet : MOk yX7_isSheet cX7_isSheet 1 (some .boolean) 1 := ⟨lw_m5 145 rfl rfl, wnX7, neX7.1, neX7.2, ds_0⟩
set_option maxRecDepth 100000 in
theorem mlX7_253 : Cond.methodLink RX7 253 yX7_isSheet ∈ lw_good := lw_m5 143 rfl rfl
set_option maxRecDepth 100000 in
theorem soX7_isSheet : Cond.static yX7_isSheet ∈ lw_good := lw_m5 144 rfl rfl
set_option maxRecDepth 100000 in
theorem lkX7_34 : Cond.fieldLink RX7 34 RX7 (TX7 18).2.1 (TX7 18).2.2.1 ∈ lw_good := lw_m4 52 rfl rfl
set_option maxRecDepth 100000 in
theorem gfX7_34 : GFok RX7 34 7 18 := ⟨RX7, TX7, 21, rfl, by decide, inlX7, lkX7_34, rfl, tyX7, tyX7_ok, nmX7⟩
set_option maxRecDepth 100000 in
theorem lkX7_37 : Cond.fieldLink RX7 37 RX7 (TX7 19).2.1 (TX7 19).2.2.1 ∈ lw_good := lw_m4 53 rfl rfl
set_option maxRecDepth 100000 in
theorem gfX7_37 : GFok RX7 37 7 19 := ⟨RX7, TX7, 21, rfl, by decide, inlX7, lkX7_37, rfl, tyX7, tyX7_ok, nmX7⟩
set_option maxRecDepth 100000 in
theorem klX7_121 : Cond.constantLong RX7 121 (255) ∈ lw_good := lw_m4 109 rfl rfl
set_option maxRecDepth 100000 in
theorem klX7_123 : Cond.constantLong RX7 123 (5) ∈ lw_good := lw_m4 102 rfl rfl
set_option maxRecDepth 100000 in
theorem moX7_isByte : MOk yX7_isByte cX7_isByte 1 (some .boolean) 1 := ⟨lw_m4 108 rfl rfl, wnX7, neX7.1, neX7.2, ds_0⟩
set_option maxRecDepth 100000 in
theorem mlX7_125 : Cond.methodLink RX7 125 yX7_isByte ∈ lw_good := lw_m4 106 rfl rfl
set_option maxRecDepth 100000 in
theorem soX7_isByte : Cond.static yX7_isByte ∈ lw_good := lw_m4 107 rfl rfl
set_option maxRecDepth 100000 in
theorem klX7_269 : Cond.constantLong RX7 269 (-1) ∈ lw_good := lw_m5 162 rfl rfl
set_option maxRecDepth 100000 in
theorem moX7_sheet : MOk yX7_sheet cX7_sheet 5 (some .int) 3 := ⟨lw_m5 161 rfl rfl, wnX7, neX7.1, neX7.2, ds_25⟩
set_option maxRecDepth 100000 in
theorem mlX7_259 : Cond.methodLink RX7 259 yX7_sheet ∈ lw_good := lw_m5 158 rfl rfl
set_option maxRecDepth 100000 in
theorem voX7_sheet : VOk yX7_sheet := ⟨lw_m5 159 rfl rfl, lw_m5 160 rfl rfl⟩
set_option maxRecDepth 100000 in
theorem moX7_isGame : MOk yX7_isGame cX7_isGame 2 (some .boolean) 1 := ⟨lw_m4 200 rfl rfl, wnX7, neX7.1, neX7.2, ds_0⟩
set_option maxRecDepth 100000 in
theorem mlX7_202 : Cond.methodLink RX7 202 yX7_isGame ∈ lw_good := lw_m4 197 rfl rfl
set_option maxRecDepth 100000 in
theorem voX7_isGame : VOk yX7_isGame := ⟨lw_m4 199 rfl rfl, lw_mem 41 rfl rfl⟩
set_option maxRecDepth 100000 in
theorem lkX7_28 : Cond.fieldLink RX7 28 RX7 (TX7 15).2.1 (TX7 15).2.2.1 ∈ lw_good := lw_m4 49 rfl rfl
set_option maxRecDepth 100000 in
theorem gfX7_28 : GFok RX7 28 7 15 := ⟨RX7, TX7, 21, rfl, by decide, inlX7, lkX7_28, rfl, tyX7, tyX7_ok, nmX7⟩
set_option maxRecDepth 100000 in
theorem moX7_isWord : MOk yX7_isWord cX7_isWord 1 (some .boolean) 0 := ⟨lw_m4 135 rfl rfl, wnX7, neX7.1, neX7.2, ds_15⟩
set_option maxRecDepth 100000 in
theorem mlX7_158 : Cond.methodLink RX7 158 yX7_isWord ∈ lw_good := lw_m4 132 rfl rfl
set_option maxRecDepth 100000 in
theorem voX7_isWord : VOk yX7_isWord := ⟨lw_m4 134 rfl rfl, lw_mem 28 rfl rfl⟩
set_option maxRecDepth 100000 in
theorem moX7_key : MOk yX7_key cX7_key 4 (some .int) 0 := ⟨lw_m4 139 rfl rfl, wnX7, neX7.1, neX7.2, ds_9⟩
set_option maxRecDepth 100000 in
theorem mlX7_161 : Cond.methodLink RX7 161 yX7_key ∈ lw_good := lw_m4 136 rfl rfl
set_option maxRecDepth 100000 in
theorem voX7_key : VOk yX7_key := ⟨lw_m4 138 rfl rfl, lw_mem 29 rfl rfl⟩
set_option maxRecDepth 100000 in
theorem moX7_isPlayed : MOk yX7_isPlayed cX7_isPlayed 7 (some .int) 3 := ⟨lw_m4 179 rfl rfl, wnX7, neX7.1, neX7.2, ds_29⟩
set_option maxRecDepth 100000 in
theorem mlX7_196 : Cond.methodLink RX7 196 yX7_isPlayed ∈ lw_good := lw_m4 176 rfl rfl
set_option maxRecDepth 100000 in
theorem voX7_isPlayed : VOk yX7_isPlayed := ⟨lw_m4 178 rfl rfl, lw_mem 39 rfl rfl⟩
set_option maxRecDepth 100000 in
theorem moX7_comesGame : MOk yX7_comesGame cX7_comesGame 5 (some .int) 3 := ⟨lw_m4 175 rfl rfl, wnX7, neX7.1, neX7.2, ds_25⟩
set_option maxRecDepth 100000 in
theorem mlX7_192 : Cond.methodLink RX7 192 yX7_comesGame ∈ lw_good := lw_m4 172 rfl rfl
set_option maxRecDepth 100000 in
theorem voX7_comesGame : VOk yX7_comesGame := ⟨lw_m4 174 rfl rfl, lw_mem 38 rfl rfl⟩
set_option maxRecDepth 100000 in
theorem moX7_whose : MOk yX7_whose cX7_whose 6 (some .int) 2 := ⟨lw_m4 151 rfl rfl, wnX7, neX7.1, neX7.2, ds_1⟩
set_option maxRecDepth 100000 in
theorem mlX7_173 : Cond.methodLink RX7 173 yX7_whose ∈ lw_good := lw_m4 148 rfl rfl
set_option maxRecDepth 100000 in
theorem voX7_whose : VOk yX7_whose := ⟨lw_m4 150 rfl rfl, lw_mem 32 rfl rfl⟩
set_option maxRecDepth 100000 in
theorem moX7_isName : MOk yX7_isName cX7_isName 1 (some .boolean) 0 := ⟨lw_m4 147 rfl rfl, wnX7, neX7.1, neX7.2, ds_15⟩
set_option maxRecDepth 100000 in
theorem mlX7_170 : Cond.methodLink RX7 170 yX7_isName ∈ lw_good := lw_m4 144 rfl rfl
set_option maxRecDepth 100000 in
theorem voX7_isName : VOk yX7_isName := ⟨lw_m4 146 rfl rfl, lw_mem 31 rfl rfl⟩
set_option maxRecDepth 100000 in
theorem moX7_number : MOk yX7_number cX7_number 5 (some .int) 2 := ⟨lw_m4 167 rfl rfl, wnX7, neX7.1, neX7.2, ds_1⟩
set_option maxRecDepth 100000 in
theorem mlX7_189 : Cond.methodLink RX7 189 yX7_number ∈ lw_good := lw_m4 164 rfl rfl
set_option maxRecDepth 100000 in
theorem voX7_number : VOk yX7_number := ⟨lw_m4 166 rfl rfl, lw_mem 36 rfl rfl⟩
set_option maxRecDepth 100000 in
theorem moX7_looksWith : MOk yX7_looksWith cX7_looksWith 3 none 2 := ⟨lw_m5 104 rfl rfl, wnX7, neX7.1, neX7.2, ds_28⟩
set_option maxRecDepth 100000 in
theorem mlX7_228 : Cond.methodLink RX7 228 yX7_looksWith ∈ lw_good := lw_m5 101 rfl rfl
set_option maxRecDepth 100000 in
theorem voX7_looksWith : VOk yX7_looksWith := ⟨lw_m5 103 rfl rfl, lw_mem 61 rfl rfl⟩
set_option maxRecDepth 100000 in
theorem pfX7_262 : PFok RX7 262 7 2 .boolean := ⟨gfX7_262, fun C T N h => by cases h; exact ⟨rfl, tyX7_ok 2 (by decide)⟩⟩
set_option maxRecDepth 100000 in
theorem klX7_273 : Cond.constantLong RX7 273 (30) ∈ lw_good := lw_m5 192 rfl rfl
set_option maxRecDepth 100000 in
theorem klX7_271 : Cond.constantLong RX7 271 (9) ∈ lw_good := lw_m5 191 rfl rfl
set_option maxRecDepth 100000 in
theorem moX7_isEnough : MOk yX7_isEnough cX7_isEnough 6 (some .boolean) 3 := ⟨lw_m5 84 rfl rfl, wnX7, neX7.1, neX7.2, ds_4⟩
set_option maxRecDepth 100000 in
theorem mlX7_220 : Cond.methodLink RX7 220 yX7_isEnough ∈ lw_good := lw_m5 81 rfl rfl
set_option maxRecDepth 100000 in
theorem voX7_isEnough : VOk yX7_isEnough := ⟨lw_m5 83 rfl rfl, lw_mem 58 rfl rfl⟩
set_option maxRecDepth 100000 in
theorem lkX7_31 : Cond.fieldLink RX7 31 RX7 (TX7 16).2.1 (TX7 16).2.2.1 ∈ lw_good := lw_m4 50 rfl rfl
set_option maxRecDepth 100000 in
theorem gfX7_31 : GFok RX7 31 7 16 := ⟨RX7, TX7, 21, rfl, by decide, inlX7, lkX7_31, rfl, tyX7, tyX7_ok, nmX7⟩
set_option maxRecDepth 100000 in
theorem lkX7_232 : Cond.fieldLink RX7 232 RX7 (TX7 17).2.1 (TX7 17).2.2.1 ∈ lw_good := lw_m4 51 rfl rfl
set_option maxRecDepth 100000 in
theorem gfX7_232 : GFok RX7 232 7 17 := ⟨RX7, TX7, 21, rfl, by decide, inlX7, lkX7_232, rfl, tyX7, tyX7_ok, nmX7⟩
set_option maxRecDepth 100000 in
theorem pfX7_232 : PFok RX7 232 7 17 .int := ⟨gfX7_232, fun C T N h => by cases h; exact ⟨rfl, tyX7_ok 17 (by decide)⟩⟩
set_option maxRecDepth 100000 in
theorem klX7_200 : Cond.constantLong RX7 200 (2) ∈ lw_good := lw_m4 192 rfl rfl
set_option maxRecDepth 100000 in
theorem moX7_runsSo : MOk yX7_runsSo cX7_runsSo 5 (some .int) 2 := ⟨lw_m5 153 rfl rfl, wnX7, neX7.1, neX7.2, ds_1⟩
set_option maxRecDepth 100000 in
theorem mlX7_250 : Cond.methodLink RX7 250 yX7_runsSo ∈ lw_good := lw_m5 150 rfl rfl
set_option maxRecDepth 100000 in
theorem voX7_runsSo : VOk yX7_runsSo := ⟨lw_m5 152 rfl rfl, lw_mem 67 rfl rfl⟩
set_option maxRecDepth 100000 in
theorem moX7_aboveOf : MOk yX7_aboveOf cX7_aboveOf 6 (some .int) 2 := ⟨lw_m5 68 rfl rfl, wnX7, neX7.1, neX7.2, ds_1⟩
set_option maxRecDepth 100000 in
theorem mlX7_217 : Cond.methodLink RX7 217 yX7_aboveOf ∈ lw_good := lw_m5 65 rfl rfl
set_option maxRecDepth 100000 in
theorem voX7_aboveOf : VOk yX7_aboveOf := ⟨lw_m5 67 rfl rfl, lw_mem 57 rfl rfl⟩
set_option maxRecDepth 100000 in
theorem moX7_looksAsOf : MOk yX7_looksAsOf cX7_looksAsOf 3 none 1 := ⟨lw_m5 92 rfl rfl, wnX7, neX7.1, neX7.2, ds_22⟩
set_option maxRecDepth 100000 in
theorem mlX7_224 : Cond.methodLink RX7 224 yX7_looksAsOf ∈ lw_good := lw_m5 89 rfl rfl
set_option maxRecDepth 100000 in
theorem voX7_looksAsOf : VOk yX7_looksAsOf := ⟨lw_m5 91 rfl rfl, lw_mem 59 rfl rfl⟩
set_option maxRecDepth 100000 in
theorem moX7_tablesFrom : MOk yX7_tablesFrom cX7_tablesFrom 3 none 1 := ⟨lw_m5 116 rfl rfl, wnX7, neX7.1, neX7.2, ds_22⟩
set_option maxRecDepth 100000 in
theorem mlX7_238 : Cond.methodLink RX7 238 yX7_tablesFrom ∈ lw_good := lw_m5 113 rfl rfl
set_option maxRecDepth 100000 in
theorem voX7_tablesFrom : VOk yX7_tablesFrom := ⟨lw_m5 115 rfl rfl, lw_mem 62 rfl rfl⟩
set_option maxRecDepth 100000 in
theorem moX7_notesRow : MOk yX7_notesRow cX7_notesRow 4 none 0 := ⟨lw_m5 120 rfl rfl, wnX7, neX7.1, neX7.2, ds_12⟩
set_option maxRecDepth 100000 in
theorem mlX7_235 : Cond.methodLink RX7 235 yX7_notesRow ∈ lw_good := lw_m5 117 rfl rfl
set_option maxRecDepth 100000 in
theorem voX7_notesRow : VOk yX7_notesRow := ⟨lw_m5 119 rfl rfl, lw_mem 63 rfl rfl⟩
set_option maxRecDepth 100000 in
theorem moX7_firstTold : MOk yX7_firstTold cX7_firstTold 6 (some .int) 1 := ⟨lw_m5 149 rfl rfl, wnX7, neX7.1, neX7.2, ds_8⟩
set_option maxRecDepth 100000 in
theorem mlX7_256 : Cond.methodLink RX7 256 yX7_firstTold ∈ lw_good := lw_m5 146 rfl rfl
set_option maxRecDepth 100000 in
theorem voX7_firstTold : VOk yX7_firstTold := ⟨lw_m5 148 rfl rfl, lw_mem 66 rfl rfl⟩
set_option maxRecDepth 100000 in
theorem moX7_games : MOk yX7_games cX7_games 5 (some .int) 1 := ⟨lw_m4 171 rfl rfl, wnX7, neX7.1, neX7.2, ds_8⟩
set_option maxRecDepth 100000 in
theorem mlX7_183 : Cond.methodLink RX7 183 yX7_games ∈ lw_good := lw_m4 168 rfl rfl
set_option maxRecDepth 100000 in
theorem voX7_games : VOk yX7_games := ⟨lw_m4 170 rfl rfl, lw_mem 37 rfl rfl⟩
set_option maxRecDepth 100000 in
theorem moX7_starts : MOk yX7_starts cX7_starts 3 (some .int) 0 := ⟨lw_m4 163 rfl rfl, wnX7, neX7.1, neX7.2, ds_9⟩
set_option maxRecDepth 100000 in
theorem mlX7_180 : Cond.methodLink RX7 180 yX7_starts ∈ lw_good := lw_m4 160 rfl rfl
set_option maxRecDepth 100000 in
theorem voX7_starts : VOk yX7_starts := ⟨lw_m4 162 rfl rfl, lw_mem 35 rfl rfl⟩
set_option maxRecDepth 100000 in
theorem moX7_comesTeam : MOk yX7_comesTeam cX7_comesTeam 5 (some .int) 0 := ⟨lw_m4 155 rfl rfl, wnX7, neX7.1, neX7.2, ds_9⟩
set_option maxRecDepth 100000 in
theorem mlX7_177 : Cond.methodLink RX7 177 yX7_comesTeam ∈ lw_good := lw_m4 152 rfl rfl
set_option maxRecDepth 100000 in
theorem voX7_comesTeam : VOk yX7_comesTeam := ⟨lw_m4 154 rfl rfl, lw_mem 33 rfl rfl⟩
set_option maxRecDepth 100000 in
theorem klX7_208 : Cond.constantLong RX7 208 (10) ∈ lw_good := lw_m5 4 rfl rfl
set_option maxRecDepth 100000 in
theorem klX7_210 : Cond.constantLong RX7 210 (15) ∈ lw_good := lw_m5 5 rfl rfl
set_option maxRecDepth 100000 in
theorem moX6_1 : Cond.methodLink RX6 1 Lib.objectInit ∈ lw_good := lw_m1 20 rfl rfl
set_option maxRecDepth 100000 in
theorem wcX6_7 : Cond.classLink RX6 7 RX4 ∈ lw_good := lw_m1 23 rfl rfl
set_option maxRecDepth 100000 in
theorem wiX4 : Cond.instantiable RX4 5 ∈ lw_good := lw_m1 24 rfl rfl
set_option maxRecDepth 100000 in
theorem moX4_3 : Cond.methodLink RX4 3 Lib.objectInit ∈ lw_good := lw_m1 28 rfl rfl
set_option maxRecDepth 100000 in
theorem wa_int : Cond.arrayClass .int ∈ lw_good := lw_m1 49 rfl rfl
set_option maxRecDepth 100000 in
theorem pnX4_9 : PNok RX4 9 4 0 (.array .int) := ⟨gfX4_9, fun C T N h => by cases h; exact ⟨rfl, tyX4_ok 0 (by decide), rfl⟩⟩
set_option maxRecDepth 100000 in
theorem moX4_init : MOk yX4_init cX4_init 1 none 0 := ⟨lw_m1 27 rfl rfl, wnX4, neX4.1, neX4.2, ds_12⟩
set_option maxRecDepth 100000 in
theorem mnX6_9 : (RX6, 9, yX4_init, "StillInIt") ∈ nestM := by decide +kernel
set_option maxRecDepth 100000 in
theorem ioX4_init : Cond.instanceMethod yX4_init ∈ lw_good := lw_m1 26 rfl rfl
set_option maxRecDepth 100000 in
theorem pnX6_10 : PNok RX6 10 6 0 (.object "StillInIt$Tape") := ⟨gfX6_10, fun C T N h => by cases h; exact ⟨rfl, tyX6_ok 0 (by decide), rfl⟩⟩
set_option maxRecDepth 100000 in
theorem wcX6_16 : Cond.classLink RX6 16 RX0 ∈ lw_good := lw_m1 50 rfl rfl
set_option maxRecDepth 100000 in
theorem wiX0 : Cond.instantiable RX0 10 ∈ lw_good := lw_m1 51 rfl rfl
set_option maxRecDepth 100000 in
theorem moX0_3 : Cond.methodLink RX0 3 Lib.objectInit ∈ lw_good := lw_m1 55 rfl rfl
set_option maxRecDepth 100000 in
theorem pnX0_9 : PNok RX0 9 0 3 (.array .int) := ⟨gfX0_9, fun C T N h => by cases h; exact ⟨rfl, tyX0_ok 3 (by decide), rfl⟩⟩
set_option maxRecDepth 100000 in
theorem pnX0_15 : PNok RX0 15 0 4 (.array .int) := ⟨gfX0_15, fun C T N h => by cases h; exact ⟨rfl, tyX0_ok 4 (by decide), rfl⟩⟩
set_option maxRecDepth 100000 in
theorem pnX0_18 : PNok RX0 18 0 5 (.array .int) := ⟨gfX0_18, fun C T N h => by cases h; exact ⟨rfl, tyX0_ok 5 (by decide), rfl⟩⟩
set_option maxRecDepth 100000 in
theorem pnX0_21 : PNok RX0 21 0 6 (.array .int) := ⟨gfX0_21, fun C T N h => by cases h; exact ⟨rfl, tyX0_ok 6 (by decide), rfl⟩⟩
set_option maxRecDepth 100000 in
theorem pnX0_24 : PNok RX0 24 0 7 (.array .int) := ⟨gfX0_24, fun C T N h => by cases h; exact ⟨rfl, tyX0_ok 7 (by decide), rfl⟩⟩
set_option maxRecDepth 100000 in
theorem pnX0_27 : PNok RX0 27 0 8 (.array .int) := ⟨gfX0_27, fun C T N h => by cases h; exact ⟨rfl, tyX0_ok 8 (by decide), rfl⟩⟩
set_option maxRecDepth 100000 in
theorem pnX0_30 : PNok RX0 30 0 9 (.array .int) := ⟨gfX0_30, fun C T N h => by cases h; exact ⟨rfl, tyX0_ok 9 (by decide), rfl⟩⟩
set_option maxRecDepth 100000 in
theorem moX0_init : MOk yX0_init cX0_init 1 none 0 := ⟨lw_m1 54 rfl rfl, wnX0, neX0.1, neX0.2, ds_12⟩
set_option maxRecDepth 100000 in
theorem mnX6_18 : (RX6, 18, yX0_init, "StillInIt") ∈ nestM := by decide +kernel
set_option maxRecDepth 100000 in
theorem ioX0_init : Cond.instanceMethod yX0_init ∈ lw_good := lw_m1 53 rfl rfl
set_option maxRecDepth 100000 in
theorem pnX6_19 : PNok RX6 19 6 1 (.object "StillInIt$Group") := ⟨gfX6_19, fun C T N h => by cases h; exact ⟨rfl, tyX6_ok 1 (by decide), rfl⟩⟩
set_option maxRecDepth 100000 in
theorem pnX6_23 : PNok RX6 23 6 2 (.object "StillInIt$Group") := ⟨gfX6_23, fun C T N h => by cases h; exact ⟨rfl, tyX6_ok 2 (by decide), rfl⟩⟩
set_option maxRecDepth 100000 in
theorem pnX6_26 : PNok RX6 26 6 3 (.object "StillInIt$Group") := ⟨gfX6_26, fun C T N h => by cases h; exact ⟨rfl, tyX6_ok 3 (by decide), rfl⟩⟩
set_option maxRecDepth 100000 in
theorem wcX6_29 : Cond.classLink RX6 29 RX3 ∈ lw_good := lw_m1 104 rfl rfl
set_option maxRecDepth 100000 in
theorem wiX3 : Cond.instantiable RX3 5 ∈ lw_good := lw_m1 105 rfl rfl
set_option maxRecDepth 100000 in
theorem moX3_3 : Cond.methodLink RX3 3 Lib.objectInit ∈ lw_good := lw_m1 109 rfl rfl
set_option maxRecDepth 100000 in
theorem pnX3_9 : PNok RX3 9 3 0 (.array .int) := ⟨gfX3_9, fun C T N h => by cases h; exact ⟨rfl, tyX3_ok 0 (by decide), rfl⟩⟩
set_option maxRecDepth 100000 in
theorem pnX3_15 : PNok RX3 15 3 1 (.array .int) := ⟨gfX3_15, fun C T N h => by cases h; exact ⟨rfl, tyX3_ok 1 (by decide), rfl⟩⟩
set_option maxRecDepth 100000 in
theorem moX3_init : MOk yX3_init cX3_init 1 none 0 := ⟨lw_m1 108 rfl rfl, wnX3, neX3.1, neX3.2, ds_12⟩
set_option maxRecDepth 100000 in
theorem mnX6_31 : (RX6, 31, yX3_init, "StillInIt") ∈ nestM := by decide +kernel
set_option maxRecDepth 100000 in
theorem ioX3_init : Cond.instanceMethod yX3_init ∈ lw_good := lw_m1 107 rfl rfl
set_option maxRecDepth 100000 in
theorem pnX6_32 : PNok RX6 32 6 4 (.object "StillInIt$Shutter") := ⟨gfX6_32, fun C T N h => by cases h; exact ⟨rfl, tyX6_ok 4 (by decide), rfl⟩⟩
set_option maxRecDepth 100000 in
theorem wcX6_36 : Cond.classLink RX6 36 RX1 ∈ lw_good := lw_m1 128 rfl rfl
set_option maxRecDepth 100000 in
theorem wiX1 : Cond.instantiable RX1 9 ∈ lw_good := lw_m1 129 rfl rfl
set_option maxRecDepth 100000 in
theorem moX1_3 : Cond.methodLink RX1 3 Lib.objectInit ∈ lw_good := lw_m1 133 rfl rfl
set_option maxRecDepth 100000 in
theorem pnX1_9 : PNok RX1 9 1 0 (.array .int) := ⟨gfX1_9, fun C T N h => by cases h; exact ⟨rfl, tyX1_ok 0 (by decide), rfl⟩⟩
set_option maxRecDepth 100000 in
theorem pnX1_15 : PNok RX1 15 1 1 (.array .int) := ⟨gfX1_15, fun C T N h => by cases h; exact ⟨rfl, tyX1_ok 1 (by decide), rfl⟩⟩
set_option maxRecDepth 100000 in
theorem pnX1_18 : PNok RX1 18 1 2 (.array .int) := ⟨gfX1_18, fun C T N h => by cases h; exact ⟨rfl, tyX1_ok 2 (by decide), rfl⟩⟩
set_option maxRecDepth 100000 in
theorem pnX1_21 : PNok RX1 21 1 3 (.array .int) := ⟨gfX1_21, fun C T N h => by cases h; exact ⟨rfl, tyX1_ok 3 (by decide), rfl⟩⟩
set_option maxRecDepth 100000 in
theorem pnX1_24 : PNok RX1 24 1 4 (.array .int) := ⟨gfX1_24, fun C T N h => by cases h; exact ⟨rfl, tyX1_ok 4 (by decide), rfl⟩⟩
set_option maxRecDepth 100000 in
theorem moX1_init : MOk yX1_init cX1_init 1 none 0 := ⟨lw_m1 132 rfl rfl, wnX1, neX1.1, neX1.2, ds_12⟩
set_option maxRecDepth 100000 in
theorem mnX6_38 : (RX6, 38, yX1_init, "StillInIt") ∈ nestM := by decide +kernel
set_option maxRecDepth 100000 in
theorem ioX1_init : Cond.instanceMethod yX1_init ∈ lw_good := lw_m1 131 rfl rfl
set_option maxRecDepth 100000 in
theorem pnX6_39 : PNok RX6 39 6 5 (.object "StillInIt$Race") := ⟨gfX6_39, fun C T N h => by cases h; exact ⟨rfl, tyX6_ok 5 (by decide), rfl⟩⟩
set_option maxRecDepth 100000 in
theorem wcX6_43 : Cond.classLink RX6 43 RX5 ∈ lw_good := lw_m1 162 rfl rfl
set_option maxRecDepth 100000 in
theorem wiX5 : Cond.instantiable RX5 5 ∈ lw_good := lw_m1 163 rfl rfl
set_option maxRecDepth 100000 in
theorem moX5_3 : Cond.methodLink RX5 3 Lib.objectInit ∈ lw_good := lw_m1 167 rfl rfl
set_option maxRecDepth 100000 in
theorem pnX5_9 : PNok RX5 9 5 0 (.array .int) := ⟨gfX5_9, fun C T N h => by cases h; exact ⟨rfl, tyX5_ok 0 (by decide), rfl⟩⟩
set_option maxRecDepth 100000 in
theorem pnX5_15 : PNok RX5 15 5 1 (.array .int) := ⟨gfX5_15, fun C T N h => by cases h; exact ⟨rfl, tyX5_ok 1 (by decide), rfl⟩⟩
set_option maxRecDepth 100000 in
theorem wa_long : Cond.arrayClass .long ∈ lw_good := lw_m1 184 rfl rfl
set_option maxRecDepth 100000 in
theorem pnX5_18 : PNok RX5 18 5 2 (.array .long) := ⟨gfX5_18, fun C T N h => by cases h; exact ⟨rfl, tyX5_ok 2 (by decide), rfl⟩⟩
set_option maxRecDepth 100000 in
theorem moX5_init : MOk yX5_init cX5_init 1 none 0 := ⟨lw_m1 166 rfl rfl, wnX5, neX5.1, neX5.2, ds_12⟩
set_option maxRecDepth 100000 in
theorem mnX6_45 : (RX6, 45, yX5_init, "StillInIt") ∈ nestM := by decide +kernel
set_option maxRecDepth 100000 in
theorem ioX5_init : Cond.instanceMethod yX5_init ∈ lw_good := lw_m1 165 rfl rfl
set_option maxRecDepth 100000 in
theorem pnX6_46 : PNok RX6 46 6 6 (.object "StillInIt$Walk") := ⟨gfX6_46, fun C T N h => by cases h; exact ⟨rfl, tyX6_ok 6 (by decide), rfl⟩⟩
set_option maxRecDepth 100000 in
theorem pnX6_50 : PNok RX6 50 6 8 (.array .int) := ⟨gfX6_50, fun C T N h => by cases h; exact ⟨rfl, tyX6_ok 8 (by decide), rfl⟩⟩
set_option maxRecDepth 100000 in
theorem wcX6_54 : Cond.classLink RX6 54 "StillInIt$Sheet" ∈ lw_good := lw_m1 185 rfl rfl
set_option maxRecDepth 100000 in
theorem pnX6_56 : PNok RX6 56 6 7 (.array (.object "StillInIt$Sheet")) := ⟨gfX6_56, fun C T N h => by cases h; exact ⟨rfl, tyX6_ok 7 (by decide), rfl⟩⟩
set_option maxRecDepth 100000 in
theorem wiX2 : Cond.instantiable RX2 3 ∈ lw_good := lw_m1 187 rfl rfl
set_option maxRecDepth 100000 in
theorem moX2_3 : Cond.methodLink RX2 3 Lib.objectInit ∈ lw_good := lw_m1 191 rfl rfl
set_option maxRecDepth 100000 in
theorem pnX2_9 : PNok RX2 9 2 0 (.array .int) := ⟨gfX2_9, fun C T N h => by cases h; exact ⟨rfl, tyX2_ok 0 (by decide), rfl⟩⟩
set_option maxRecDepth 100000 in
theorem moX2_init : MOk yX2_init cX2_init 1 none 0 := ⟨lw_m1 190 rfl rfl, wnX2, neX2.1, neX2.2, ds_12⟩
set_option maxRecDepth 100000 in
theorem mnX6_60 : (RX6, 60, yX2_init, "StillInIt") ∈ nestM := by decide +kernel
set_option maxRecDepth 100000 in
theorem ioX2_init : Cond.instanceMethod yX2_init ∈ lw_good := lw_m1 189 rfl rfl
set_option maxRecDepth 100000 in
theorem moX7_1 : Cond.methodLink RX7 1 Lib.objectInit ∈ lw_good := lw_m4 33 rfl rfl
set_option maxRecDepth 100000 in
theorem pnX7_9 : PNok RX7 9 7 0 (.array .int) := ⟨gfX7_9, fun C T N h => by cases h; exact ⟨rfl, tyX7_ok 0 (by decide), rfl⟩⟩
set_option maxRecDepth 100000 in
theorem pnX7_13 : PNok RX7 13 7 1 (.array .int) := ⟨gfX7_13, fun C T N h => by cases h; exact ⟨rfl, tyX7_ok 1 (by decide), rfl⟩⟩
set_option maxRecDepth 100000 in
theorem pnX7_16 : PNok RX7 16 7 3 (.array .int) := ⟨gfX7_16, fun C T N h => by cases h; exact ⟨rfl, tyX7_ok 3 (by decide), rfl⟩⟩
set_option maxRecDepth 100000 in
theorem pnX7_19 : PNok RX7 19 7 4 (.array .int) := ⟨gfX7_19, fun C T N h => by cases h; exact ⟨rfl, tyX7_ok 4 (by decide), rfl⟩⟩
set_option maxRecDepth 100000 in
theorem pnX7_22 : PNok RX7 22 7 7 (.array .int) := ⟨gfX7_22, fun C T N h => by cases h; exact ⟨rfl, tyX7_ok 7 (by decide), rfl⟩⟩
set_option maxRecDepth 100000 in
theorem pnX7_25 : PNok RX7 25 7 10 (.array .int) := ⟨gfX7_25, fun C T N h => by cases h; exact ⟨rfl, tyX7_ok 10 (by decide), rfl⟩⟩
set_option maxRecDepth 100000 in
theorem pnX7_28 : PNok RX7 28 7 15 (.array .int) := ⟨gfX7_28, fun C T N h => by cases h; exact ⟨rfl, tyX7_ok 15 (by decide), rfl⟩⟩
set_option maxRecDepth 100000 in
theorem pnX7_31 : PNok RX7 31 7 16 (.array .int) := ⟨gfX7_31, fun C T N h => by cases h; exact ⟨rfl, tyX7_ok 16 (by decide), rfl⟩⟩
set_option maxRecDepth 100000 in
theorem pnX7_34 : PNok RX7 34 7 18 (.array .int) := ⟨gfX7_34, fun C T N h => by cases h; exact ⟨rfl, tyX7_ok 18 (by decide), rfl⟩⟩
set_option maxRecDepth 100000 in
theorem pnX7_37 : PNok RX7 37 7 19 (.array .int) := ⟨gfX7_37, fun C T N h => by cases h; exact ⟨rfl, tyX7_ok 19 (by decide), rfl⟩⟩
set_option maxRecDepth 100000 in
theorem pnX7_40 : PNok RX7 40 7 20 (.array .int) := ⟨gfX7_40, fun C T N h => by cases h; exact ⟨rfl, tyX7_ok 20 (by decide), rfl⟩⟩
set_option maxRecDepth 100000 in
theorem ds_33 : (parseMethodDescriptor "(IIIIII)I").map (fun d => d.parameters.length) = some 6 := by decide +kernel
set_option maxRecDepth 100000 in
theorem moX6_feed : MOk yX6_feed cX6_feed 7 (some .int) 6 := ⟨lw_m2 1 rfl rfl, wnX6, neX6.1, neX6.2, ds_33⟩
set_option maxRecDepth 100000 in
theorem mlL_13 : Cond.methodLink RL 13 yX6_feed ∈ lw_good := lw_m1 238 rfl rfl
set_option maxRecDepth 100000 in
theorem voX6_feed : VOk yX6_feed := ⟨lw_m1 239 rfl rfl, lw_m2 0 rfl rfl⟩
set_option maxRecDepth 100000 in
theorem moX7_feed : MOk yX7_feed cX7_feed 8 (some .int) 6 := ⟨lw_m4 101 rfl rfl, wnX7, neX7.1, neX7.2, ds_33⟩
set_option maxRecDepth 100000 in
theorem mlL_17 : Cond.methodLink RL 17 yX7_feed ∈ lw_good := lw_m4 98 rfl rfl
set_option maxRecDepth 100000 in
theorem voX7_feed : VOk yX7_feed := ⟨lw_m4 99 rfl rfl, lw_m4 100 rfl rfl⟩
set_option maxRecDepth 100000 in
theorem moX6_text : MOk yX6_text cX6_text 2 (some .int) 0 := ⟨lw_m2 12 rfl rfl, wnX6, neX6.1, neX6.2, ds_9⟩
set_option maxRecDepth 100000 in
theorem mlL_18 : Cond.methodLink RL 18 yX6_text ∈ lw_good := lw_m2 9 rfl rfl
set_option maxRecDepth 100000 in
theorem voX6_text : VOk yX6_text := ⟨lw_m2 10 rfl rfl, lw_m2 11 rfl rfl⟩
set_option maxRecDepth 100000 in
theorem moX7_text : MOk yX7_text cX7_text 2 (some .int) 0 := ⟨lw_m4 113 rfl rfl, wnX7, neX7.1, neX7.2, ds_9⟩
set_option maxRecDepth 100000 in
theorem mlL_22 : Cond.methodLink RL 22 yX7_text ∈ lw_good := lw_m4 110 rfl rfl
set_option maxRecDepth 100000 in
theorem voX7_text : VOk yX7_text := ⟨lw_m4 111 rfl rfl, lw_m4 112 rfl rfl⟩
set_option maxRecDepth 100000 in
theorem moX6_named : MOk yX6_named cX6_named 2 (some .int) 0 := ⟨lw_m2 168 rfl rfl, wnX6, neX6.1, neX6.2, ds_9⟩
set_option maxRecDepth 100000 in
theorem mlL_23 : Cond.methodLink RL 23 yX6_named ∈ lw_good := lw_m2 165 rfl rfl
set_option maxRecDepth 100000 in
theorem voX6_named : VOk yX6_named := ⟨lw_m2 166 rfl rfl, lw_m2 167 rfl rfl⟩
set_option maxRecDepth 100000 in
theorem moX7_named : MOk yX7_named cX7_named 2 (some .int) 0 := ⟨lw_m4 187 rfl rfl, wnX7, neX7.1, neX7.2, ds_9⟩
set_option maxRecDepth 100000 in
theorem mlL_26 : Cond.methodLink RL 26 yX7_named ∈ lw_good := lw_m4 184 rfl rfl
set_option maxRecDepth 100000 in
theorem voX7_named : VOk yX7_named := ⟨lw_m4 185 rfl rfl, lw_m4 186 rfl rfl⟩
set_option maxRecDepth 100000 in
theorem moX6_system : MOk yX6_system cX6_system 3 (some .int) 1 := ⟨lw_m2 172 rfl rfl, wnX6, neX6.1, neX6.2, ds_8⟩
set_option maxRecDepth 100000 in
theorem mlL_27 : Cond.methodLink RL 27 yX6_system ∈ lw_good := lw_m2 169 rfl rfl
set_option maxRecDepth 100000 in
theorem voX6_system : VOk yX6_system := ⟨lw_m2 170 rfl rfl, lw_m2 171 rfl rfl⟩
set_option maxRecDepth 100000 in
theorem moX7_system : MOk yX7_system cX7_system 3 (some .int) 1 := ⟨lw_m4 191 rfl rfl, wnX7, neX7.1, neX7.2, ds_8⟩
set_option maxRecDepth 100000 in
theorem mlL_31 : Cond.methodLink RL 31 yX7_system ∈ lw_good := lw_m4 188 rfl rfl
set_option maxRecDepth 100000 in
theorem voX7_system : VOk yX7_system := ⟨lw_m4 189 rfl rfl, lw_m4 190 rfl rfl⟩
set_option maxRecDepth 100000 in
theorem moX6_play : MOk yX6_play cX6_play 3 (some .int) 2 := ⟨lw_m2 179 rfl rfl, wnX6, neX6.1, neX6.2, ds_1⟩
set_option maxRecDepth 100000 in
theorem mlL_32 : Cond.methodLink RL 32 yX6_play ∈ lw_good := lw_m2 176 rfl rfl
set_option maxRecDepth 100000 in
theorem voX6_play : VOk yX6_play := ⟨lw_m2 177 rfl rfl, lw_m2 178 rfl rfl⟩
set_option maxRecDepth 100000 in
theorem moX7_play : MOk yX7_play cX7_play 3 (some .int) 2 := ⟨lw_m4 196 rfl rfl, wnX7, neX7.1, neX7.2, ds_1⟩
set_option maxRecDepth 100000 in
theorem mlL_36 : Cond.methodLink RL 36 yX7_play ∈ lw_good := lw_m4 193 rfl rfl
set_option maxRecDepth 100000 in
theorem voX7_play : VOk yX7_play := ⟨lw_m4 194 rfl rfl, lw_m4 195 rfl rfl⟩
set_option maxRecDepth 100000 in
theorem moX6_unplay : MOk yX6_unplay cX6_unplay 3 (some .int) 1 := ⟨lw_m2 188 rfl rfl, wnX6, neX6.1, neX6.2, ds_8⟩
set_option maxRecDepth 100000 in
theorem mlL_37 : Cond.methodLink RL 37 yX6_unplay ∈ lw_good := lw_m2 185 rfl rfl
set_option maxRecDepth 100000 in
theorem voX6_unplay : VOk yX6_unplay := ⟨lw_m2 186 rfl rfl, lw_m2 187 rfl rfl⟩
set_option maxRecDepth 100000 in
theorem moX7_unplay : MOk yX7_unplay cX7_unplay 3 (some .int) 1 := ⟨lw_m4 204 rfl rfl, wnX7, neX7.1, neX7.2, ds_8⟩
set_option maxRecDepth 100000 in
theorem mlL_40 : Cond.methodLink RL 40 yX7_unplay ∈ lw_good := lw_m4 201 rfl rfl
set_option maxRecDepth 100000 in
theorem voX7_unplay : VOk yX7_unplay := ⟨lw_m4 202 rfl rfl, lw_m4 203 rfl rfl⟩
set_option maxRecDepth 100000 in
theorem moX6_told : MOk yX6_told cX6_told 3 (some .int) 2 := ⟨lw_m2 192 rfl rfl, wnX6, neX6.1, neX6.2, ds_1⟩
set_option maxRecDepth 100000 in
theorem mlL_41 : Cond.methodLink RL 41 yX6_told ∈ lw_good := lw_m2 189 rfl rfl
set_option maxRecDepth 100000 in
theorem voX6_told : VOk yX6_told := ⟨lw_m2 190 rfl rfl, lw_m2 191 rfl rfl⟩
set_option maxRecDepth 100000 in
theorem moX7_told : MOk yX7_told cX7_told 3 (some .int) 2 := ⟨lw_m4 208 rfl rfl, wnX7, neX7.1, neX7.2, ds_1⟩
set_option maxRecDepth 100000 in
theorem mlL_44 : Cond.methodLink RL 44 yX7_told ∈ lw_good := lw_m4 205 rfl rfl
set_option maxRecDepth 100000 in
theorem voX7_told : VOk yX7_told := ⟨lw_m4 206 rfl rfl, lw_m4 207 rfl rfl⟩
set_option maxRecDepth 100000 in
theorem moX6_game : MOk yX6_game cX6_game 3 (some .int) 2 := ⟨lw_m2 235 rfl rfl, wnX6, neX6.1, neX6.2, ds_1⟩
set_option maxRecDepth 100000 in
theorem mlL_45 : Cond.methodLink RL 45 yX6_game ∈ lw_good := lw_m2 232 rfl rfl
set_option maxRecDepth 100000 in
theorem voX6_game : VOk yX6_game := ⟨lw_m2 233 rfl rfl, lw_m2 234 rfl rfl⟩
set_option maxRecDepth 100000 in
theorem moX7_game : MOk yX7_game cX7_game 3 (some .int) 2 := ⟨lw_m5 9 rfl rfl, wnX7, neX7.1, neX7.2, ds_1⟩
set_option maxRecDepth 100000 in
theorem mlL_48 : Cond.methodLink RL 48 yX7_game ∈ lw_good := lw_m5 6 rfl rfl
set_option maxRecDepth 100000 in
theorem voX7_game : VOk yX7_game := ⟨lw_m5 7 rfl rfl, lw_m5 8 rfl rfl⟩
set_option maxRecDepth 100000 in
theorem moX6_between : MOk yX6_between cX6_between 5 (some .int) 2 := ⟨lw_m2 239 rfl rfl, wnX6, neX6.1, neX6.2, ds_1⟩
set_option maxRecDepth 100000 in
theorem mlL_49 : Cond.methodLink RL 49 yX6_between ∈ lw_good := lw_m2 236 rfl rfl
set_option maxRecDepth 100000 in
theorem voX6_between : VOk yX6_between := ⟨lw_m2 237 rfl rfl, lw_m2 238 rfl rfl⟩
set_option maxRecDepth 100000 in
theorem moX7_between : MOk yX7_between cX7_between 5 (some .int) 2 := ⟨lw_m5 14 rfl rfl, wnX7, neX7.1, neX7.2, ds_1⟩
set_option maxRecDepth 100000 in
theorem mlL_52 : Cond.methodLink RL 52 yX7_between ∈ lw_good := lw_m5 11 rfl rfl
set_option maxRecDepth 100000 in
theorem voX7_between : VOk yX7_between := ⟨lw_m5 12 rfl rfl, lw_m5 13 rfl rfl⟩
set_option maxRecDepth 100000 in
theorem moX6_taken : MOk yX6_taken cX6_taken 2 (some .int) 1 := ⟨lw_m3 4 rfl rfl, wnX6, neX6.1, neX6.2, ds_8⟩
set_option maxRecDepth 100000 in
theorem mlL_53 : Cond.methodLink RL 53 yX6_taken ∈ lw_good := lw_m3 1 rfl rfl
set_option maxRecDepth 100000 in
theorem voX6_taken : VOk yX6_taken := ⟨lw_m3 2 rfl rfl, lw_m3 3 rfl rfl⟩
set_option maxRecDepth 100000 in
theorem moX7_taken : MOk yX7_taken cX7_taken 2 (some .int) 1 := ⟨lw_m5 18 rfl rfl, wnX7, neX7.1, neX7.2, ds_8⟩
set_option maxRecDepth 100000 in
theorem mlL_56 : Cond.methodLink RL 56 yX7_taken ∈ lw_good := lw_m5 15 rfl rfl
set_option maxRecDepth 100000 in
theorem voX7_taken : VOk yX7_taken := ⟨lw_m5 16 rfl rfl, lw_m5 17 rfl rfl⟩
set_option maxRecDepth 100000 in
theorem moX6_isIn : MOk yX6_isIn cX6_isIn 2 (some .int) 1 := ⟨lw_m3 8 rfl rfl, wnX6, neX6.1, neX6.2, ds_8⟩
set_option maxRecDepth 100000 in
theorem mlL_57 : Cond.methodLink RL 57 yX6_isIn ∈ lw_good := lw_m3 5 rfl rfl
set_option maxRecDepth 100000 in
theorem voX6_isIn : VOk yX6_isIn := ⟨lw_m3 6 rfl rfl, lw_m3 7 rfl rfl⟩
set_option maxRecDepth 100000 in
theorem moX7_isIn : MOk yX7_isIn cX7_isIn 2 (some .int) 1 := ⟨lw_m5 22 rfl rfl, wnX7, neX7.1, neX7.2, ds_8⟩
set_option maxRecDepth 100000 in
theorem mlL_60 : Cond.methodLink RL 60 yX7_isIn ∈ lw_good := lw_m5 19 rfl rfl
set_option maxRecDepth 100000 in
theorem voX7_isIn : VOk yX7_isIn := ⟨lw_m5 20 rfl rfl, lw_m5 21 rfl rfl⟩
set_option maxRecDepth 100000 in
theorem moX6_all : MOk yX6_all cX6_all 1 (some .int) 0 := ⟨lw_m3 87 rfl rfl, wnX6, neX6.1, neX6.2, ds_9⟩
set_option maxRecDepth 100000 in
theorem mlL_61 : Cond.methodLink RL 61 yX6_all ∈ lw_good := lw_m3 84 rfl rfl
set_option maxRecDepth 100000 in
theorem voX6_all : VOk yX6_all := ⟨lw_m3 85 rfl rfl, lw_m3 86 rfl rfl⟩
set_option maxRecDepth 100000 in
theorem moX7_all : MOk yX7_all cX7_all 1 (some .int) 0 := ⟨lw_m5 56 rfl rfl, wnX7, neX7.1, neX7.2, ds_9⟩
set_option maxRecDepth 100000 in
theorem mlL_64 : Cond.methodLink RL 64 yX7_all ∈ lw_good := lw_m5 53 rfl rfl
set_option maxRecDepth 100000 in
theorem voX7_all : VOk yX7_all := ⟨lw_m5 54 rfl rfl, lw_m5 55 rfl rfl⟩
set_option maxRecDepth 100000 in
theorem moX6_set : MOk yX6_set cX6_set 3 (some .int) 2 := ⟨lw_m3 95 rfl rfl, wnX6, neX6.1, neX6.2, ds_1⟩
set_option maxRecDepth 100000 in
theorem mlL_65 : Cond.methodLink RL 65 yX6_set ∈ lw_good := lw_m3 92 rfl rfl
set_option maxRecDepth 100000 in
theorem voX6_set : VOk yX6_set := ⟨lw_m3 93 rfl rfl, lw_m3 94 rfl rfl⟩
set_option maxRecDepth 100000 in
theorem moX7_set : MOk yX7_set cX7_set 8 (some .int) 2 := ⟨lw_m5 64 rfl rfl, wnX7, neX7.1, neX7.2, ds_1⟩
set_option maxRecDepth 100000 in
theorem mlL_68 : Cond.methodLink RL 68 yX7_set ∈ lw_good := lw_m5 61 rfl rfl
set_option maxRecDepth 100000 in
theorem voX7_set : VOk yX7_set := ⟨lw_m5 62 rfl rfl, lw_m5 63 rfl rfl⟩
set_option maxRecDepth 100000 in
theorem moX6_run : MOk yX6_run cX6_run 3 (some .int) 2 := ⟨lw_m3 102 rfl rfl, wnX6, neX6.1, neX6.2, ds_1⟩
set_option maxRecDepth 100000 in
theorem mlL_69 : Cond.methodLink RL 69 yX6_run ∈ lw_good := lw_m3 99 rfl rfl
set_option maxRecDepth 100000 in
theorem voX6_run : VOk yX6_run := ⟨lw_m3 100 rfl rfl, lw_m3 101 rfl rfl⟩
set_option maxRecDepth 100000 in
theorem moX7_run : MOk yX7_run cX7_run 3 (some .int) 2 := ⟨lw_m5 72 rfl rfl, wnX7, neX7.1, neX7.2, ds_1⟩
set_option maxRecDepth 100000 in
theorem mlL_72 : Cond.methodLink RL 72 yX7_run ∈ lw_good := lw_m5 69 rfl rfl
set_option maxRecDepth 100000 in
theorem voX7_run : VOk yX7_run := ⟨lw_m5 70 rfl rfl, lw_m5 71 rfl rfl⟩
set_option maxRecDepth 100000 in
theorem moX6_pattern : MOk yX6_pattern cX6_pattern 2 (some .int) 1 := ⟨lw_m3 110 rfl rfl, wnX6, neX6.1, neX6.2, ds_8⟩
set_option maxRecDepth 100000 in
theorem mlL_73 : Cond.methodLink RL 73 yX6_pattern ∈ lw_good := lw_m3 107 rfl rfl
set_option maxRecDepth 100000 in
theorem voX6_pattern : VOk yX6_pattern := ⟨lw_m3 108 rfl rfl, lw_m3 109 rfl rfl⟩
set_option maxRecDepth 100000 in
theorem moX7_pattern : MOk yX7_pattern cX7_pattern 3 (some .int) 1 := ⟨lw_m5 76 rfl rfl, wnX7, neX7.1, neX7.2, ds_8⟩
set_option maxRecDepth 100000 in
theorem mlL_76 : Cond.methodLink RL 76 yX7_pattern ∈ lw_good := lw_m5 73 rfl rfl
set_option maxRecDepth 100000 in
theorem voX7_pattern : VOk yX7_pattern := ⟨lw_m5 74 rfl rfl, lw_m5 75 rfl rfl⟩
set_option maxRecDepth 100000 in
theorem moX6_needs : MOk yX6_needs cX6_needs 4 (some .int) 2 := ⟨lw_m3 130 rfl rfl, wnX6, neX6.1, neX6.2, ds_1⟩
set_option maxRecDepth 100000 in
theorem mlL_77 : Cond.methodLink RL 77 yX6_needs ∈ lw_good := lw_m3 127 rfl rfl
set_option maxRecDepth 100000 in
theorem voX6_needs : VOk yX6_needs := ⟨lw_m3 128 rfl rfl, lw_m3 129 rfl rfl⟩
set_option maxRecDepth 100000 in
theorem moX7_needs : MOk yX7_needs cX7_needs 7 (some .int) 2 := ⟨lw_m5 80 rfl rfl, wnX7, neX7.1, neX7.2, ds_1⟩
set_option maxRecDepth 100000 in
theorem mlL_80 : Cond.methodLink RL 80 yX7_needs ∈ lw_good := lw_m5 77 rfl rfl
set_option maxRecDepth 100000 in
theorem voX7_needs : VOk yX7_needs := ⟨lw_m5 78 rfl rfl, lw_m5 79 rfl rfl⟩
set_option maxRecDepth 100000 in
theorem moX6_since : MOk yX6_since cX6_since 4 (some .int) 2 := ⟨lw_m3 134 rfl rfl, wnX6, neX6.1, neX6.2, ds_1⟩
set_option maxRecDepth 100000 in
theorem mlL_81 : Cond.methodLink RL 81 yX6_since ∈ lw_good := lw_m3 131 rfl rfl
set_option maxRecDepth 100000 in
theorem voX6_since : VOk yX6_since := ⟨lw_m3 132 rfl rfl, lw_m3 133 rfl rfl⟩
set_option maxRecDepth 100000 in
theorem moX7_since : MOk yX7_since cX7_since 4 (some .int) 2 := ⟨lw_m5 88 rfl rfl, wnX7, neX7.1, neX7.2, ds_1⟩
set_option maxRecDepth 100000 in
theorem mlL_84 : Cond.methodLink RL 84 yX7_since ∈ lw_good := lw_m5 85 rfl rfl
set_option maxRecDepth 100000 in
theorem voX7_since : VOk yX7_since := ⟨lw_m5 86 rfl rfl, lw_m5 87 rfl rfl⟩
set_option maxRecDepth 100000 in
theorem moX6_help : MOk yX6_help cX6_help 5 (some .int) 2 := ⟨lw_m3 157 rfl rfl, wnX6, neX6.1, neX6.2, ds_1⟩
set_option maxRecDepth 100000 in
theorem mlL_85 : Cond.methodLink RL 85 yX6_help ∈ lw_good := lw_m3 154 rfl rfl
set_option maxRecDepth 100000 in
theorem voX6_help : VOk yX6_help := ⟨lw_m3 155 rfl rfl, lw_m3 156 rfl rfl⟩
set_option maxRecDepth 100000 in
theorem moX7_help : MOk yX7_help cX7_help 5 (some .int) 2 := ⟨lw_m5 100 rfl rfl, wnX7, neX7.1, neX7.2, ds_1⟩
set_option maxRecDepth 100000 in
theorem mlL_88 : Cond.methodLink RL 88 yX7_help ∈ lw_good := lw_m5 97 rfl rfl
set_option maxRecDepth 100000 in
theorem voX7_help : VOk yX7_help := ⟨lw_m5 98 rfl rfl, lw_m5 99 rfl rfl⟩
set_option maxRecDepth 100000 in
theorem moX6_without : MOk yX6_without cX6_without 2 (some .int) 1 := ⟨lw_m3 162 rfl rfl, wnX6, neX6.1, neX6.2, ds_8⟩
set_option maxRecDepth 100000 in
theorem mlL_89 : Cond.methodLink RL 89 yX6_without ∈ lw_good := lw_m3 159 rfl rfl
set_option maxRecDepth 100000 in
theorem voX6_without : VOk yX6_without := ⟨lw_m3 160 rfl rfl, lw_m3 161 rfl rfl⟩
set_option maxRecDepth 100000 in
theorem moX7_without : MOk yX7_without cX7_without 2 (some .int) 1 := ⟨lw_m5 108 rfl rfl, wnX7, neX7.1, neX7.2, ds_8⟩
set_option maxRecDepth 100000 in
theorem mlL_92 : Cond.methodLink RL 92 yX7_without ∈ lw_good := lw_m5 105 rfl rfl
set_option maxRecDepth 100000 in
theorem voX7_without : VOk yX7_without := ⟨lw_m5 106 rfl rfl, lw_m5 107 rfl rfl⟩
set_option maxRecDepth 100000 in
theorem moX6_tables : MOk yX6_tables cX6_tables 1 (some .int) 0 := ⟨lw_m3 170 rfl rfl, wnX6, neX6.1, neX6.2, ds_9⟩
set_option maxRecDepth 100000 in
theorem mlL_93 : Cond.methodLink RL 93 yX6_tables ∈ lw_good := lw_m3 167 rfl rfl
set_option maxRecDepth 100000 in
theorem voX6_tables : VOk yX6_tables := ⟨lw_m3 168 rfl rfl, lw_m3 169 rfl rfl⟩
set_option maxRecDepth 100000 in
theorem moX7_tables : MOk yX7_tables cX7_tables 1 (some .int) 0 := ⟨lw_m5 112 rfl rfl, wnX7, neX7.1, neX7.2, ds_9⟩
set_option maxRecDepth 100000 in
theorem mlL_96 : Cond.methodLink RL 96 yX7_tables ∈ lw_good := lw_m5 109 rfl rfl
set_option maxRecDepth 100000 in
theorem voX7_tables : VOk yX7_tables := ⟨lw_m5 110 rfl rfl, lw_m5 111 rfl rfl⟩
set_option maxRecDepth 100000 in
theorem moX6_drawn : MOk yX6_drawn cX6_drawn 2 (some .int) 1 := ⟨lw_m3 195 rfl rfl, wnX6, neX6.1, neX6.2, ds_8⟩
set_option maxRecDepth 100000 in
theorem mlL_97 : Cond.methodLink RL 97 yX6_drawn ∈ lw_good := lw_m3 192 rfl rfl
set_option maxRecDepth 100000 in
theorem voX6_drawn : VOk yX6_drawn := ⟨lw_m3 193 rfl rfl, lw_m3 194 rfl rfl⟩
set_option maxRecDepth 100000 in
theorem moX7_drawn : MOk yX7_drawn cX7_drawn 2 (some .int) 1 := ⟨lw_m5 124 rfl rfl, wnX7, neX7.1, neX7.2, ds_8⟩
set_option maxRecDepth 100000 in
theorem mlL_100 : Cond.methodLink RL 100 yX7_drawn ∈ lw_good := lw_m5 121 rfl rfl
set_option maxRecDepth 100000 in
theorem voX7_drawn : VOk yX7_drawn := ⟨lw_m5 122 rfl rfl, lw_m5 123 rfl rfl⟩
set_option maxRecDepth 100000 in
theorem ds_34 : (parseMethodDescriptor "(IIII)I").map (fun d => d.parameters.length) = some 4 := by decide +kernel
set_option maxRecDepth 100000 in
theorem moX6_chance : MOk yX6_chance cX6_chance 7 (some .int) 4 := ⟨lw_m3 208 rfl rfl, wnX6, neX6.1, neX6.2, ds_34⟩
set_option maxRecDepth 100000 in
theorem mlL_101 : Cond.methodLink RL 101 yX6_chance ∈ lw_good := lw_m3 205 rfl rfl
set_option maxRecDepth 100000 in
theorem voX6_chance : VOk yX6_chance := ⟨lw_m3 206 rfl rfl, lw_m3 207 rfl rfl⟩
set_option maxRecDepth 100000 in
theorem moX7_chance : MOk yX7_chance cX7_chance 9 (some .int) 4 := ⟨lw_m5 137 rfl rfl, wnX7, neX7.1, neX7.2, ds_34⟩
set_option maxRecDepth 100000 in
theorem mlL_105 : Cond.methodLink RL 105 yX7_chance ∈ lw_good := lw_m5 134 rfl rfl
set_option maxRecDepth 100000 in
theorem voX7_chance : VOk yX7_chance := ⟨lw_m5 135 rfl rfl, lw_m5 136 rfl rfl⟩
set_option maxRecDepth 100000 in
theorem moX6_tells : MOk yX6_tells cX6_tells 4 (some .int) 2 := ⟨lw_m3 216 rfl rfl, wnX6, neX6.1, neX6.2, ds_1⟩
set_option maxRecDepth 100000 in
theorem mlL_106 : Cond.methodLink RL 106 yX6_tells ∈ lw_good := lw_m3 213 rfl rfl
set_option maxRecDepth 100000 in
theorem voX6_tells : VOk yX6_tells := ⟨lw_m3 214 rfl rfl, lw_m3 215 rfl rfl⟩
set_option maxRecDepth 100000 in
theorem moX7_tells : MOk yX7_tells cX7_tells 3 (some .int) 2 := ⟨lw_m5 142 rfl rfl, wnX7, neX7.1, neX7.2, ds_1⟩
set_option maxRecDepth 100000 in
theorem mlL_109 : Cond.methodLink RL 109 yX7_tells ∈ lw_good := lw_m5 139 rfl rfl
set_option maxRecDepth 100000 in
theorem voX7_tells : VOk yX7_tells := ⟨lw_m5 140 rfl rfl, lw_m5 141 rfl rfl⟩
set_option maxRecDepth 100000 in
theorem moX6_film : MOk yX6_film cX6_film 5 (some .int) 2 := ⟨lw_m3 227 rfl rfl, wnX6, neX6.1, neX6.2, ds_1⟩
set_option maxRecDepth 100000 in
theorem mlL_110 : Cond.methodLink RL 110 yX6_film ∈ lw_good := lw_m3 224 rfl rfl
set_option maxRecDepth 100000 in
theorem voX6_film : VOk yX6_film := ⟨lw_m3 225 rfl rfl, lw_m3 226 rfl rfl⟩
set_option maxRecDepth 100000 in
theorem moX7_film : MOk yX7_film cX7_film 5 (some .int) 2 := ⟨lw_m5 157 rfl rfl, wnX7, neX7.1, neX7.2, ds_1⟩
set_option maxRecDepth 100000 in
theorem mlL_113 : Cond.methodLink RL 113 yX7_film ∈ lw_good := lw_m5 154 rfl rfl
set_option maxRecDepth 100000 in
theorem voX7_film : VOk yX7_film := ⟨lw_m5 155 rfl rfl, lw_m5 156 rfl rfl⟩
set_option maxRecDepth 100000 in
theorem moX6_image : MOk yX6_image cX6_image 1 (some .int) 0 := ⟨lw_m3 235 rfl rfl, wnX6, neX6.1, neX6.2, ds_9⟩
set_option maxRecDepth 100000 in
theorem mlL_114 : Cond.methodLink RL 114 yX6_image ∈ lw_good := lw_m3 232 rfl rfl
set_option maxRecDepth 100000 in
theorem voX6_image : VOk yX6_image := ⟨lw_m3 233 rfl rfl, lw_m3 234 rfl rfl⟩
set_option maxRecDepth 100000 in
theorem moX7_image : MOk yX7_image cX7_image 1 (some .int) 0 := ⟨lw_m5 166 rfl rfl, wnX7, neX7.1, neX7.2, ds_9⟩
set_option maxRecDepth 100000 in
theorem mlL_117 : Cond.methodLink RL 117 yX7_image ∈ lw_good := lw_m5 163 rfl rfl
set_option maxRecDepth 100000 in
theorem voX7_image : VOk yX7_image := ⟨lw_m5 164 rfl rfl, lw_m5 165 rfl rfl⟩
set_option maxRecDepth 100000 in
theorem moX6_back : MOk yX6_back cX6_back 1 (some .int) 0 := ⟨lw_m3 239 rfl rfl, wnX6, neX6.1, neX6.2, ds_9⟩
set_option maxRecDepth 100000 in
theorem mlL_118 : Cond.methodLink RL 118 yX6_back ∈ lw_good := lw_m3 236 rfl rfl
set_option maxRecDepth 100000 in
theorem voX6_back : VOk yX6_back := ⟨lw_m3 237 rfl rfl, lw_m3 238 rfl rfl⟩
set_option maxRecDepth 100000 in
theorem moX7_back : MOk yX7_back cX7_back 1 (some .int) 0 := ⟨lw_m5 173 rfl rfl, wnX7, neX7.1, neX7.2, ds_9⟩
set_option maxRecDepth 100000 in
theorem mlL_121 : Cond.methodLink RL 121 yX7_back ∈ lw_good := lw_m5 170 rfl rfl
set_option maxRecDepth 100000 in
theorem voX7_back : VOk yX7_back := ⟨lw_m5 171 rfl rfl, lw_m5 172 rfl rfl⟩
set_option maxRecDepth 100000 in
theorem moX6_count : MOk yX6_count cX6_count 2 (some .int) 1 := ⟨lw_m4 3 rfl rfl, wnX6, neX6.1, neX6.2, ds_8⟩
set_option maxRecDepth 100000 in
theorem mlL_122 : Cond.methodLink RL 122 yX6_count ∈ lw_good := lw_m4 0 rfl rfl
set_option maxRecDepth 100000 in
theorem voX6_count : VOk yX6_count := ⟨lw_m4 1 rfl rfl, lw_m4 2 rfl rfl⟩
set_option maxRecDepth 100000 in
theorem moX7_count : MOk yX7_count cX7_count 2 (some .int) 1 := ⟨lw_m5 177 rfl rfl, wnX7, neX7.1, neX7.2, ds_8⟩
set_option maxRecDepth 100000 in
theorem mlL_125 : Cond.methodLink RL 125 yX7_count ∈ lw_good := lw_m5 174 rfl rfl
set_option maxRecDepth 100000 in
theorem voX7_count : VOk yX7_count := ⟨lw_m5 175 rfl rfl, lw_m5 176 rfl rfl⟩
set_option maxRecDepth 100000 in
theorem moX6_sheet : MOk yX6_sheet cX6_sheet 4 (some .int) 3 := ⟨lw_m4 7 rfl rfl, wnX6, neX6.1, neX6.2, ds_25⟩
set_option maxRecDepth 100000 in
theorem mlL_126 : Cond.methodLink RL 126 yX6_sheet ∈ lw_good := lw_m4 4 rfl rfl
set_option maxRecDepth 100000 in
theorem voX6_sheet : VOk yX6_sheet := ⟨lw_m4 5 rfl rfl, lw_m4 6 rfl rfl⟩
set_option maxRecDepth 100000 in
theorem mlL_130 : Cond.methodLink RL 130 yX7_sheet ∈ lw_good := lw_m5 178 rfl rfl
set_option maxRecDepth 100000 in
theorem moX6_put : MOk yX6_put cX6_put 5 (some .int) 3 := ⟨lw_m4 14 rfl rfl, wnX6, neX6.1, neX6.2, ds_25⟩
set_option maxRecDepth 100000 in
theorem mlL_131 : Cond.methodLink RL 131 yX6_put ∈ lw_good := lw_m4 11 rfl rfl
set_option maxRecDepth 100000 in
theorem voX6_put : VOk yX6_put := ⟨lw_m4 12 rfl rfl, lw_m4 13 rfl rfl⟩
set_option maxRecDepth 100000 in
theorem moX7_put : MOk yX7_put cX7_put 4 (some .int) 3 := ⟨lw_m5 182 rfl rfl, wnX7, neX7.1, neX7.2, ds_25⟩
set_option maxRecDepth 100000 in
theorem mlL_134 : Cond.methodLink RL 134 yX7_put ∈ lw_good := lw_m5 179 rfl rfl
set_option maxRecDepth 100000 in
theorem voX7_put : VOk yX7_put := ⟨lw_m5 180 rfl rfl, lw_m5 181 rfl rfl⟩
set_option maxRecDepth 100000 in
theorem ds_35 : (parseMethodDescriptor "(IIIII)I").map (fun d => d.parameters.length) = some 5 := by decide +kernel
set_option maxRecDepth 100000 in
theorem moX6_copy : MOk yX6_copy cX6_copy 8 (some .int) 5 := ⟨lw_m4 18 rfl rfl, wnX6, neX6.1, neX6.2, ds_35⟩
set_option maxRecDepth 100000 in
theorem mlL_135 : Cond.methodLink RL 135 yX6_copy ∈ lw_good := lw_m4 15 rfl rfl
set_option maxRecDepth 100000 in
theorem voX6_copy : VOk yX6_copy := ⟨lw_m4 16 rfl rfl, lw_m4 17 rfl rfl⟩
set_option maxRecDepth 100000 in
theorem moX7_copy : MOk yX7_copy cX7_copy 8 (some .int) 5 := ⟨lw_m5 186 rfl rfl, wnX7, neX7.1, neX7.2, ds_35⟩
set_option maxRecDepth 100000 in
theorem mlL_139 : Cond.methodLink RL 139 yX7_copy ∈ lw_good := lw_m5 183 rfl rfl
set_option maxRecDepth 100000 in
theorem voX7_copy : VOk yX7_copy := ⟨lw_m5 184 rfl rfl, lw_m5 185 rfl rfl⟩
set_option maxRecDepth 100000 in
theorem moX6_load : MOk yX6_load cX6_load 9 (some .int) 4 := ⟨lw_m4 27 rfl rfl, wnX6, neX6.1, neX6.2, ds_34⟩
set_option maxRecDepth 100000 in
theorem mlL_140 : Cond.methodLink RL 140 yX6_load ∈ lw_good := lw_m4 24 rfl rfl
set_option maxRecDepth 100000 in
theorem voX6_load : VOk yX6_load := ⟨lw_m4 25 rfl rfl, lw_m4 26 rfl rfl⟩
set_option maxRecDepth 100000 in
theorem moX7_load : MOk yX7_load cX7_load 9 (some .int) 4 := ⟨lw_m5 190 rfl rfl, wnX7, neX7.1, neX7.2, ds_34⟩
set_option maxRecDepth 100000 in
theorem mlL_143 : Cond.methodLink RL 143 yX7_load ∈ lw_good := lw_m5 187 rfl rfl
set_option maxRecDepth 100000 in
theorem voX7_load : VOk yX7_load := ⟨lw_m5 188 rfl rfl, lw_m5 189 rfl rfl⟩
set_option maxRecDepth 100000 in
theorem wcL_7 : Cond.classLink RL 7 RX6 ∈ lw_good := lw_m1 15 rfl rfl
set_option maxRecDepth 100000 in
theorem wiX6 : Cond.instantiable RX6 10 ∈ lw_good := lw_m1 16 rfl rfl
set_option maxRecDepth 100000 in
theorem moX6_init : MOk yX6_init cX6_init 2 none 0 := ⟨lw_m1 19 rfl rfl, wnX6, neX6.1, neX6.2, ds_12⟩
set_option maxRecDepth 100000 in
theorem ioX6_init : Cond.instanceMethod yX6_init ∈ lw_good := lw_m1 18 rfl rfl
set_option maxRecDepth 100000 in
theorem mlL_9 : Cond.methodLink RL 9 yX6_init ∈ lw_good := lw_m1 17 rfl rfl
set_option maxRecDepth 100000 in
theorem wcL_10 : Cond.classLink RL 10 RX7 ∈ lw_good := lw_m4 28 rfl rfl
set_option maxRecDepth 100000 in
theorem wiX7 : Cond.instantiable RX7 21 ∈ lw_good := lw_m4 29 rfl rfl
set_option maxRecDepth 100000 in
theorem moX7_init : MOk yX7_init cX7_init 1 none 0 := ⟨lw_m4 32 rfl rfl, wnX7, neX7.1, neX7.2, ds_12⟩
set_option maxRecDepth 100000 in
theorem ioX7_init : Cond.instanceMethod yX7_init ∈ lw_good := lw_m4 31 rfl rfl
set_option maxRecDepth 100000 in
theorem mlL_12 : Cond.methodLink RL 12 yX7_init ∈ lw_good := lw_m4 30 rfl rfl
