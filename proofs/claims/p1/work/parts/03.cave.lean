abbrev cJ7_fill_d0a16 : ByteArray := prog_36_method_101_code
def yJ7_fill_d0a16 : MethodName := ⟨RJ7, "fill", "([JJ)V"⟩
abbrev cX1_standFrom : ByteArray := prog_3_method_2_code
def yX1_standFrom : MethodName := ⟨RX1, "standFrom", "(I)V"⟩
abbrev cX2_mergeAsOf : ByteArray := prog_4_method_3_code
def yX2_mergeAsOf : MethodName := ⟨RX2, "mergeAsOf", "(I)V"⟩
abbrev cX4_agreesWith : ByteArray := prog_6_method_23_code
def yX4_agreesWith : MethodName := ⟨RX4, "agreesWith", "(LCavernbook$Places;)Z"⟩
abbrev cX4_eliminate : ByteArray := prog_6_method_13_code
def yX4_eliminate : MethodName := ⟨RX4, "eliminate", "()V"⟩
abbrev cX4_fillNet : ByteArray := prog_6_method_10_code
def yX4_fillNet : MethodName := ⟨RX4, "fillNet", "()V"⟩
abbrev cX4_giveRows : ByteArray := prog_6_method_9_code
def yX4_giveRows : MethodName := ⟨RX4, "giveRows", "(Z)V"⟩
abbrev cX4_hang : ByteArray := prog_6_method_2_code
def yX4_hang : MethodName := ⟨RX4, "hang", "(II)V"⟩
abbrev cX4_hangMore : ByteArray := prog_6_method_3_code
def yX4_hangMore : MethodName := ⟨RX4, "hangMore", "()Z"⟩
abbrev cX4_keepUseful : ByteArray := prog_6_method_4_code
def yX4_keepUseful : MethodName := ⟨RX4, "keepUseful", "()V"⟩
abbrev cX4_sumTop : ByteArray := prog_6_method_21_code
def yX4_sumTop : MethodName := ⟨RX4, "sumTop", "()J"⟩
abbrev cX4_topSpread : ByteArray := prog_6_method_22_code
def yX4_topSpread : MethodName := ⟨RX4, "topSpread", "(I)J"⟩
abbrev cX4_unknowns : ByteArray := prog_6_method_6_code
def yX4_unknowns : MethodName := ⟨RX4, "unknowns", "()I"⟩
abbrev cX4_weigh : ByteArray := prog_6_method_8_code
def yX4_weigh : MethodName := ⟨RX4, "weigh", "(Z)V"⟩
theorem vJ7_fill_d0a16 : yJ7_fill_d0a16.cls = RJ7 ∧ yJ7_fill_d0a16.cls ≠ "java/lang/invoke/MethodHandle" ∧ yJ7_fill_d0a16.cls ≠ "java/lang/invoke/VarHandle" ∧ (parseMethodDescriptor yJ7_fill_d0a16.desc).map (fun d => d.parameters.length) = some 2 := by decide +kernel
theorem vX2_mergeAsOf : yX2_mergeAsOf.cls = RX2 ∧ yX2_mergeAsOf.cls ≠ "java/lang/invoke/MethodHandle" ∧ yX2_mergeAsOf.cls ≠ "java/lang/invoke/VarHandle" ∧ (parseMethodDescriptor yX2_mergeAsOf.desc).map (fun d => d.parameters.length) = some 1 := by decide +kernel
theorem vX4_eliminate : yX4_eliminate.cls = RX4 ∧ yX4_eliminate.cls ≠ "java/lang/invoke/MethodHandle" ∧ yX4_eliminate.cls ≠ "java/lang/invoke/VarHandle" ∧ (parseMethodDescriptor yX4_eliminate.desc).map (fun d => d.parameters.length) = some 0 := by decide +kernel
theorem vX4_fillNet : yX4_fillNet.cls = RX4 ∧ yX4_fillNet.cls ≠ "java/lang/invoke/MethodHandle" ∧ yX4_fillNet.cls ≠ "java/lang/invoke/VarHandle" ∧ (parseMethodDescriptor yX4_fillNet.desc).map (fun d => d.parameters.length) = some 0 := by decide +kernel
theorem vX4_giveRows : yX4_giveRows.cls = RX4 ∧ yX4_giveRows.cls ≠ "java/lang/invoke/MethodHandle" ∧ yX4_giveRows.cls ≠ "java/lang/invoke/VarHandle" ∧ (parseMethodDescriptor yX4_giveRows.desc).map (fun d => d.parameters.length) = some 1 := by decide +kernel
theorem vX4_hangMore : yX4_hangMore.cls = RX4 ∧ yX4_hangMore.cls ≠ "java/lang/invoke/MethodHandle" ∧ yX4_hangMore.cls ≠ "java/lang/invoke/VarHandle" ∧ (parseMethodDescriptor yX4_hangMore.desc).map (fun d => d.parameters.length) = some 0 := by decide +kernel
theorem vX4_keepUseful : yX4_keepUseful.cls = RX4 ∧ yX4_keepUseful.cls ≠ "java/lang/invoke/MethodHandle" ∧ yX4_keepUseful.cls ≠ "java/lang/invoke/VarHandle" ∧ (parseMethodDescriptor yX4_keepUseful.desc).map (fun d => d.parameters.length) = some 0 := by decide +kernel
theorem vX4_unknowns : yX4_unknowns.cls = RX4 ∧ yX4_unknowns.cls ≠ "java/lang/invoke/MethodHandle" ∧ yX4_unknowns.cls ≠ "java/lang/invoke/VarHandle" ∧ (parseMethodDescriptor yX4_unknowns.desc).map (fun d => d.parameters.length) = some 0 := by decide +kernel
theorem q69 : Cond.fieldLink RX2 24 "Cavernbook$Joins" "told" "I" ∈ wAll := wIn (wT1 (List.mem_of_getElem? (i := 65) rfl)) rfl
theorem q70 : Cond.fieldLink RX4 78 "Cavernbook$Places" "hungCount" "I" ∈ wAll := wIn (wT1 (List.mem_of_getElem? (i := 180) rfl)) rfl
theorem q71 : Cond.methodLink RX4 100 Lib.Math.max.name ∈ wAll := wIn (wT3 (List.mem_of_getElem? (i := 165) rfl)) rfl
theorem q72 : Cond.static Lib.Math.max.name ∈ wAll := wIn (wT3 (List.mem_of_getElem? (i := 64) rfl)) rfl
theorem q73 : Cond.initialized "java/lang/Math" ∈ wAll := wIn (wT1 (List.mem_of_getElem? (i := 25) rfl)) rfl
theorem q74 : Cond.code Lib.Math.max.name Lib.Math.max.code 2 (some .int) ∈ wAll := wIn (wT3 (List.mem_of_getElem? (i := 65) rfl)) rfl
theorem q75 : Cond.fieldLink RX4 64 "Cavernbook$Cave" "shotCount" "I" ∈ wAll := wIn (wT1 (List.mem_of_getElem? (i := 133) rfl)) rfl
theorem q76 : Cond.fieldLink RX4 97 "Cavernbook$Places" "usedCount" "I" ∈ wAll := wIn (wT1 (List.mem_of_getElem? (i := 182) rfl)) rfl
theorem q77 : Cond.fieldLink RX4 51 "Cavernbook$Cave" "joins" "LCavernbook$Joins;" ∈ wAll := wIn (wT1 (List.mem_of_getElem? (i := 128) rfl)) rfl
theorem q78 : Cond.methodLink RX4 57 yX2_mergeAsOf ∈ wAll := wIn (wT3 (List.mem_of_getElem? (i := 88) rfl)) rfl
theorem q79 : Cond.code yX2_mergeAsOf cX2_mergeAsOf 3 none ∈ wAll := wIn (wT3 (List.mem_of_getElem? (i := 55) rfl)) rfl
theorem q80 : Cond.instanceMethod yX2_mergeAsOf ∈ wAll := wIn (wT3 (List.mem_of_getElem? (i := 53) rfl)) rfl
theorem q81 : Cond.selects RX2 yX2_mergeAsOf yX2_mergeAsOf ∈ wAll := wIn (wT3 (List.mem_of_getElem? (i := 54) rfl)) rfl
theorem q82 : Cond.fieldLink RX4 81 "Cavernbook$Cave" "stationCount" "I" ∈ wAll := wIn (wT1 (List.mem_of_getElem? (i := 132) rfl)) rfl
theorem q83 : Cond.methodLink RX4 84 yX4_hangMore ∈ wAll := wIn (wT3 (List.mem_of_getElem? (i := 93) rfl)) rfl
theorem q84 : Cond.code yX4_hangMore cX4_hangMore 5 (some .boolean) ∈ wAll := wIn (wT3 (List.mem_of_getElem? (i := 96) rfl)) rfl
theorem q85 : Cond.instanceMethod yX4_hangMore ∈ wAll := wIn (wT3 (List.mem_of_getElem? (i := 95) rfl)) rfl
theorem q86 : Cond.selects RX4 yX4_hangMore yX4_hangMore ∈ wAll := wIn (wT0 (List.mem_of_getElem? (i := 4) rfl)) rfl
theorem q87 : Cond.initialized RX4 ∈ wAll := wIn (wT1 (List.mem_of_getElem? (i := 5) rfl)) rfl
theorem q88 : Cond.methodLink RX4 88 yX4_keepUseful ∈ wAll := wIn (wT3 (List.mem_of_getElem? (i := 97) rfl)) rfl
theorem q89 : Cond.code yX4_keepUseful cX4_keepUseful 4 none ∈ wAll := wIn (wT3 (List.mem_of_getElem? (i := 100) rfl)) rfl
theorem q90 : Cond.instanceMethod yX4_keepUseful ∈ wAll := wIn (wT3 (List.mem_of_getElem? (i := 99) rfl)) rfl
theorem q91 : Cond.selects RX4 yX4_keepUseful yX4_keepUseful ∈ wAll := wIn (wT0 (List.mem_of_getElem? (i := 5) rfl)) rfl
theorem q92 : Cond.fieldLink RX4 63 "Cavernbook$Joins" "lowest" "[I" ∈ wAll := wIn (wT1 (List.mem_of_getElem? (i := 63) rfl)) rfl
theorem q93 : Cond.methodLink RX4 116 yJ7_fill_d0a16 ∈ wAll := wIn (wT3 (List.mem_of_getElem? (i := 146) rfl)) rfl
theorem q94 : Cond.code yJ7_fill_d0a16 cJ7_fill_d0a16 5 none ∈ wAll := wIn (wT3 (List.mem_of_getElem? (i := 148) rfl)) rfl
theorem q95 : Cond.static yJ7_fill_d0a16 ∈ wAll := wIn (wT3 (List.mem_of_getElem? (i := 147) rfl)) rfl
theorem q96 : Cond.initialized RJ7 ∈ wAll := wIn (wT1 (List.mem_of_getElem? (i := 26) rfl)) rfl
theorem q97 : Cond.methodLink RX4 136 yX4_unknowns ∈ wAll := wIn (wT3 (List.mem_of_getElem? (i := 161) rfl)) rfl
theorem q98 : Cond.code yX4_unknowns cX4_unknowns 1 (some .int) ∈ wAll := wIn (wT3 (List.mem_of_getElem? (i := 164) rfl)) rfl
theorem q99 : Cond.instanceMethod yX4_unknowns ∈ wAll := wIn (wT3 (List.mem_of_getElem? (i := 162) rfl)) rfl
theorem q100 : Cond.selects RX4 yX4_unknowns yX4_unknowns ∈ wAll := wIn (wT3 (List.mem_of_getElem? (i := 163) rfl)) rfl
theorem q101 : Cond.methodLink RX4 148 Lib.MathLoose.max_long.x ∈ wAll := wIn (wT3 (List.mem_of_getElem? (i := 187) rfl)) rfl
theorem q102 : Cond.static Lib.MathLoose.max_long.x ∈ wAll := wIn (wT3 (List.mem_of_getElem? (i := 188) rfl)) rfl
theorem q103 : Cond.code Lib.MathLoose.max_long.x Lib.MathLoose.max_long.code 4 (some .long) ∈ wAll := wIn (wT3 (List.mem_of_getElem? (i := 189) rfl)) rfl
theorem q104 : Cond.methodLink RX4 106 yX4_giveRows ∈ wAll := wIn (wT3 (List.mem_of_getElem? (i := 138) rfl)) rfl
theorem q105 : Cond.code yX4_giveRows cX4_giveRows 5 none ∈ wAll := wIn (wT3 (List.mem_of_getElem? (i := 141) rfl)) rfl
theorem q106 : Cond.instanceMethod yX4_giveRows ∈ wAll := wIn (wT3 (List.mem_of_getElem? (i := 140) rfl)) rfl
theorem q107 : Cond.selects RX4 yX4_giveRows yX4_giveRows ∈ wAll := wIn (wT0 (List.mem_of_getElem? (i := 7) rfl)) rfl
theorem q108 : Cond.methodLink RX4 110 yX4_fillNet ∈ wAll := wIn (wT3 (List.mem_of_getElem? (i := 142) rfl)) rfl
theorem q109 : Cond.code yX4_fillNet cX4_fillNet 2 none ∈ wAll := wIn (wT3 (List.mem_of_getElem? (i := 145) rfl)) rfl
theorem q110 : Cond.instanceMethod yX4_fillNet ∈ wAll := wIn (wT3 (List.mem_of_getElem? (i := 144) rfl)) rfl
theorem q111 : Cond.selects RX4 yX4_fillNet yX4_fillNet ∈ wAll := wIn (wT0 (List.mem_of_getElem? (i := 8) rfl)) rfl
theorem q112 : Cond.methodLink RX4 113 yX4_eliminate ∈ wAll := wIn (wT3 (List.mem_of_getElem? (i := 157) rfl)) rfl
theorem q113 : Cond.code yX4_eliminate cX4_eliminate 6 none ∈ wAll := wIn (wT3 (List.mem_of_getElem? (i := 160) rfl)) rfl
theorem q114 : Cond.instanceMethod yX4_eliminate ∈ wAll := wIn (wT3 (List.mem_of_getElem? (i := 159) rfl)) rfl
theorem q115 : Cond.selects RX4 yX4_eliminate yX4_eliminate ∈ wAll := wIn (wT0 (List.mem_of_getElem? (i := 11) rfl)) rfl
theorem q116 : Cond.methodLink RX4 198 Lib.MathLoose.min_long.x ∈ wAll := wIn (wT4 (List.mem_of_getElem? (i := 81) rfl)) rfl
theorem q117 : Cond.static Lib.MathLoose.min_long.x ∈ wAll := wIn (wT3 (List.mem_of_getElem? (i := 207) rfl)) rfl
theorem q118 : Cond.code Lib.MathLoose.min_long.x Lib.MathLoose.min_long.code 4 (some .long) ∈ wAll := wIn (wT3 (List.mem_of_getElem? (i := 208) rfl)) rfl
theorem q119 : Cond.methodLink RX1 18 Lib.Math.max.name ∈ wAll := wIn (wT4 (List.mem_of_getElem? (i := 184) rfl)) rfl
theorem dJ7_fill_d0a16_0 : decode cJ7_fill_d0a16 0 = .ok (.iconst 0, 1) := by decide +kernel
theorem dJ7_fill_d0a16_1 : decode cJ7_fill_d0a16 1 = .ok (.istore_n 3, 1) := by decide +kernel
theorem dJ7_fill_d0a16_2 : decode cJ7_fill_d0a16 2 = .ok (.aload_n 0, 1) := by decide +kernel
theorem dJ7_fill_d0a16_3 : decode cJ7_fill_d0a16 3 = .ok (.arraylength, 1) := by decide +kernel
theorem dJ7_fill_d0a16_4 : decode cJ7_fill_d0a16 4 = .ok (.istore 4, 2) := by decide +kernel
theorem dJ7_fill_d0a16_6 : decode cJ7_fill_d0a16 6 = .ok (.iload_n 3, 1) := by decide +kernel
theorem dJ7_fill_d0a16_7 : decode cJ7_fill_d0a16 7 = .ok (.iload 4, 2) := by decide +kernel
theorem dJ7_fill_d0a16_9 : decode cJ7_fill_d0a16 9 = .ok (.if_icmp .ge 13, 3) := by decide +kernel
theorem dJ7_fill_d0a16_12 : decode cJ7_fill_d0a16 12 = .ok (.aload_n 0, 1) := by decide +kernel
theorem dJ7_fill_d0a16_13 : decode cJ7_fill_d0a16 13 = .ok (.iload_n 3, 1) := by decide +kernel
theorem dJ7_fill_d0a16_14 : decode cJ7_fill_d0a16 14 = .ok (.lload_n 1, 1) := by decide +kernel
theorem dJ7_fill_d0a16_15 : decode cJ7_fill_d0a16 15 = .ok (.lastore, 1) := by decide +kernel
theorem dJ7_fill_d0a16_16 : decode cJ7_fill_d0a16 16 = .ok (.iinc 3 1, 3) := by decide +kernel
theorem dJ7_fill_d0a16_19 : decode cJ7_fill_d0a16 19 = .ok (.goto (-13), 3) := by decide +kernel
theorem dJ7_fill_d0a16_22 : decode cJ7_fill_d0a16 22 = .ok (.return_, 1) := by decide +kernel
theorem dX1_standFrom_0 : decode cX1_standFrom 0 = .ok (.iload_n 1, 1) := by decide +kernel
theorem dX1_standFrom_1 : decode cX1_standFrom 1 = .ok (.iconst 0, 1) := by decide +kernel
theorem dX1_standFrom_2 : decode cX1_standFrom 2 = .ok (.invokestatic 18, 3) := by decide +kernel
theorem dX1_standFrom_5 : decode cX1_standFrom 5 = .ok (.istore_n 2, 1) := by decide +kernel
theorem dX1_standFrom_6 : decode cX1_standFrom 6 = .ok (.iload_n 2, 1) := by decide +kernel
theorem dX1_standFrom_7 : decode cX1_standFrom 7 = .ok (.sipush 400, 3) := by decide +kernel
theorem dX1_standFrom_10 : decode cX1_standFrom 10 = .ok (.if_icmp .gt 55, 3) := by decide +kernel
theorem dX1_standFrom_13 : decode cX1_standFrom 13 = .ok (.iload_n 2, 1) := by decide +kernel
theorem dX1_standFrom_14 : decode cX1_standFrom 14 = .ok (.ifCond .le 14, 3) := by decide +kernel
theorem dX1_standFrom_17 : decode cX1_standFrom 17 = .ok (.aload_n 0, 1) := by decide +kernel
theorem dX1_standFrom_18 : decode cX1_standFrom 18 = .ok (.getfield 15, 3) := by decide +kernel
theorem dX1_standFrom_21 : decode cX1_standFrom 21 = .ok (.iload_n 2, 1) := by decide +kernel
theorem dX1_standFrom_22 : decode cX1_standFrom 22 = .ok (.iconst 1, 1) := by decide +kernel
theorem dX1_standFrom_23 : decode cX1_standFrom 23 = .ok (.isub, 1) := by decide +kernel
theorem dX1_standFrom_24 : decode cX1_standFrom 24 = .ok (.iaload, 1) := by decide +kernel
theorem dX1_standFrom_25 : decode cX1_standFrom 25 = .ok (.goto 4, 3) := by decide +kernel
theorem dX1_standFrom_28 : decode cX1_standFrom 28 = .ok (.iconst 0, 1) := by decide +kernel
theorem dX1_standFrom_29 : decode cX1_standFrom 29 = .ok (.istore_n 3, 1) := by decide +kernel
theorem dX1_standFrom_30 : decode cX1_standFrom 30 = .ok (.aload_n 0, 1) := by decide +kernel
theorem dX1_standFrom_31 : decode cX1_standFrom 31 = .ok (.getfield 15, 3) := by decide +kernel
theorem dX1_standFrom_34 : decode cX1_standFrom 34 = .ok (.iload_n 2, 1) := by decide +kernel
theorem dX1_standFrom_35 : decode cX1_standFrom 35 = .ok (.iload_n 3, 1) := by decide +kernel
theorem dX1_standFrom_36 : decode cX1_standFrom 36 = .ok (.iconst 3, 1) := by decide +kernel
theorem dX1_standFrom_37 : decode cX1_standFrom 37 = .ok (.imul, 1) := by decide +kernel
theorem dX1_standFrom_38 : decode cX1_standFrom 38 = .ok (.iconst 4, 1) := by decide +kernel
theorem dX1_standFrom_39 : decode cX1_standFrom 39 = .ok (.idiv, 1) := by decide +kernel
theorem dX1_standFrom_40 : decode cX1_standFrom 40 = .ok (.iload_n 2, 1) := by decide +kernel
theorem dX1_standFrom_41 : decode cX1_standFrom 41 = .ok (.sipush 199, 3) := by decide +kernel
theorem dX1_standFrom_44 : decode cX1_standFrom 44 = .ok (.if_icmp .gt 12, 3) := by decide +kernel
theorem dX1_standFrom_47 : decode cX1_standFrom 47 = .ok (.aload_n 0, 1) := by decide +kernel
theorem dX1_standFrom_48 : decode cX1_standFrom 48 = .ok (.getfield 9, 3) := by decide +kernel
theorem dX1_standFrom_51 : decode cX1_standFrom 51 = .ok (.iload_n 2, 1) := by decide +kernel
theorem dX1_standFrom_52 : decode cX1_standFrom 52 = .ok (.iaload, 1) := by decide +kernel
theorem dX1_standFrom_53 : decode cX1_standFrom 53 = .ok (.goto 4, 3) := by decide +kernel
theorem dX1_standFrom_56 : decode cX1_standFrom 56 = .ok (.iconst 0, 1) := by decide +kernel
theorem dX1_standFrom_57 : decode cX1_standFrom 57 = .ok (.iadd, 1) := by decide +kernel
theorem dX1_standFrom_58 : decode cX1_standFrom 58 = .ok (.iastore, 1) := by decide +kernel
theorem dX1_standFrom_59 : decode cX1_standFrom 59 = .ok (.iinc 2 1, 3) := by decide +kernel
theorem dX1_standFrom_62 : decode cX1_standFrom 62 = .ok (.goto (-56), 3) := by decide +kernel
theorem dX1_standFrom_65 : decode cX1_standFrom 65 = .ok (.return_, 1) := by decide +kernel
theorem dX2_mergeAsOf_0 : decode cX2_mergeAsOf 0 = .ok (.iconst 0, 1) := by decide +kernel
theorem dX2_mergeAsOf_1 : decode cX2_mergeAsOf 1 = .ok (.istore_n 2, 1) := by decide +kernel
theorem dX2_mergeAsOf_2 : decode cX2_mergeAsOf 2 = .ok (.iload_n 2, 1) := by decide +kernel
theorem dX2_mergeAsOf_3 : decode cX2_mergeAsOf 3 = .ok (.bipush 9, 2) := by decide +kernel
theorem dX2_mergeAsOf_5 : decode cX2_mergeAsOf 5 = .ok (.if_icmp .ge 16, 3) := by decide +kernel
theorem dX2_mergeAsOf_8 : decode cX2_mergeAsOf 8 = .ok (.aload_n 0, 1) := by decide +kernel
theorem dX2_mergeAsOf_9 : decode cX2_mergeAsOf 9 = .ok (.getfield 21, 3) := by decide +kernel
theorem dX2_mergeAsOf_12 : decode cX2_mergeAsOf 12 = .ok (.iload_n 2, 1) := by decide +kernel
theorem dX2_mergeAsOf_13 : decode cX2_mergeAsOf 13 = .ok (.iload_n 2, 1) := by decide +kernel
theorem dX2_mergeAsOf_14 : decode cX2_mergeAsOf 14 = .ok (.iastore, 1) := by decide +kernel
theorem dX2_mergeAsOf_15 : decode cX2_mergeAsOf 15 = .ok (.iinc 2 1, 3) := by decide +kernel
theorem dX2_mergeAsOf_18 : decode cX2_mergeAsOf 18 = .ok (.goto (-16), 3) := by decide +kernel
theorem dX2_mergeAsOf_21 : decode cX2_mergeAsOf 21 = .ok (.iconst 0, 1) := by decide +kernel
theorem dX2_mergeAsOf_22 : decode cX2_mergeAsOf 22 = .ok (.istore_n 2, 1) := by decide +kernel
theorem dX2_mergeAsOf_23 : decode cX2_mergeAsOf 23 = .ok (.iload_n 2, 1) := by decide +kernel
theorem dX2_mergeAsOf_24 : decode cX2_mergeAsOf 24 = .ok (.aload_n 0, 1) := by decide +kernel
theorem dX2_mergeAsOf_25 : decode cX2_mergeAsOf 25 = .ok (.getfield 24, 3) := by decide +kernel
theorem dX2_mergeAsOf_28 : decode cX2_mergeAsOf 28 = .ok (.if_icmp .ge 45, 3) := by decide +kernel
theorem dX2_mergeAsOf_73 : decode cX2_mergeAsOf 73 = .ok (.return_, 1) := by decide +kernel
theorem dX4_agreesWith_0 : decode cX4_agreesWith 0 = .ok (.iconst 0, 1) := by decide +kernel
theorem dX4_agreesWith_1 : decode cX4_agreesWith 1 = .ok (.istore_n 2, 1) := by decide +kernel
theorem dX4_agreesWith_2 : decode cX4_agreesWith 2 = .ok (.iload_n 2, 1) := by decide +kernel
theorem dX4_agreesWith_3 : decode cX4_agreesWith 3 = .ok (.aload_n 0, 1) := by decide +kernel
theorem dX4_agreesWith_4 : decode cX4_agreesWith 4 = .ok (.getfield 9, 3) := by decide +kernel
theorem dX4_agreesWith_7 : decode cX4_agreesWith 7 = .ok (.getfield 81, 3) := by decide +kernel
theorem dX4_agreesWith_10 : decode cX4_agreesWith 10 = .ok (.if_icmp .ge 80, 3) := by decide +kernel
theorem dX4_agreesWith_90 : decode cX4_agreesWith 90 = .ok (.iconst 1, 1) := by decide +kernel
theorem dX4_agreesWith_91 : decode cX4_agreesWith 91 = .ok (.ireturn, 1) := by decide +kernel
theorem dX4_eliminate_0 : decode cX4_eliminate 0 = .ok (.aload_n 0, 1) := by decide +kernel
theorem dX4_eliminate_1 : decode cX4_eliminate 1 = .ok (.invokevirtual 136, 3) := by decide +kernel
theorem dX4_eliminate_4 : decode cX4_eliminate 4 = .ok (.istore_n 1, 1) := by decide +kernel
theorem dX4_eliminate_5 : decode cX4_eliminate 5 = .ok (.lconst 1, 1) := by decide +kernel
theorem dX4_eliminate_6 : decode cX4_eliminate 6 = .ok (.lstore_n 2, 1) := by decide +kernel
theorem dX4_eliminate_7 : decode cX4_eliminate 7 = .ok (.iconst 0, 1) := by decide +kernel
theorem dX4_eliminate_8 : decode cX4_eliminate 8 = .ok (.istore 4, 2) := by decide +kernel
theorem dX4_eliminate_10 : decode cX4_eliminate 10 = .ok (.iload 4, 2) := by decide +kernel
theorem dX4_eliminate_12 : decode cX4_eliminate 12 = .ok (.iload_n 1, 1) := by decide +kernel
theorem dX4_eliminate_13 : decode cX4_eliminate 13 = .ok (.if_icmp .ge 56, 3) := by decide +kernel
theorem dX4_eliminate_69 : decode cX4_eliminate 69 = .ok (.aload_n 0, 1) := by decide +kernel
theorem dX4_eliminate_70 : decode cX4_eliminate 70 = .ok (.lload_n 2, 1) := by decide +kernel
theorem dX4_eliminate_71 : decode cX4_eliminate 71 = .ok (.lconst 1, 1) := by decide +kernel
theorem dX4_eliminate_72 : decode cX4_eliminate 72 = .ok (.invokestatic 148, 3) := by decide +kernel
theorem dX4_eliminate_75 : decode cX4_eliminate 75 = .ok (.putfield 47, 3) := by decide +kernel
theorem dX4_eliminate_78 : decode cX4_eliminate 78 = .ok (.return_, 1) := by decide +kernel
theorem dX4_fillNet_0 : decode cX4_fillNet 0 = .ok (.iconst 0, 1) := by decide +kernel
theorem dX4_fillNet_1 : decode cX4_fillNet 1 = .ok (.istore_n 1, 1) := by decide +kernel
theorem dX4_fillNet_2 : decode cX4_fillNet 2 = .ok (.iload_n 1, 1) := by decide +kernel
theorem dX4_fillNet_3 : decode cX4_fillNet 3 = .ok (.bipush 8, 2) := by decide +kernel
theorem dX4_fillNet_5 : decode cX4_fillNet 5 = .ok (.if_icmp .ge 19, 3) := by decide +kernel
theorem dX4_fillNet_8 : decode cX4_fillNet 8 = .ok (.aload_n 0, 1) := by decide +kernel
theorem dX4_fillNet_9 : decode cX4_fillNet 9 = .ok (.getfield 28, 3) := by decide +kernel
theorem dX4_fillNet_12 : decode cX4_fillNet 12 = .ok (.iload_n 1, 1) := by decide +kernel
theorem dX4_fillNet_13 : decode cX4_fillNet 13 = .ok (.aaload, 1) := by decide +kernel
theorem dX4_fillNet_14 : decode cX4_fillNet 14 = .ok (.lconst 0, 1) := by decide +kernel
theorem dX4_fillNet_15 : decode cX4_fillNet 15 = .ok (.invokestatic 116, 3) := by decide +kernel
theorem dX4_fillNet_18 : decode cX4_fillNet 18 = .ok (.iinc 1 1, 3) := by decide +kernel
theorem dX4_fillNet_21 : decode cX4_fillNet 21 = .ok (.goto (-19), 3) := by decide +kernel
theorem dX4_fillNet_24 : decode cX4_fillNet 24 = .ok (.iconst 0, 1) := by decide +kernel
theorem dX4_fillNet_25 : decode cX4_fillNet 25 = .ok (.istore_n 1, 1) := by decide +kernel
theorem dX4_fillNet_26 : decode cX4_fillNet 26 = .ok (.iload_n 1, 1) := by decide +kernel
theorem dX4_fillNet_27 : decode cX4_fillNet 27 = .ok (.aload_n 0, 1) := by decide +kernel
theorem dX4_fillNet_28 : decode cX4_fillNet 28 = .ok (.getfield 9, 3) := by decide +kernel
theorem dX4_fillNet_31 : decode cX4_fillNet 31 = .ok (.getfield 64, 3) := by decide +kernel
theorem dX4_fillNet_34 : decode cX4_fillNet 34 = .ok (.if_icmp .ge 31, 3) := by decide +kernel
theorem dX4_fillNet_65 : decode cX4_fillNet 65 = .ok (.return_, 1) := by decide +kernel
theorem dX4_giveRows_0 : decode cX4_giveRows 0 = .ok (.iconst 0, 1) := by decide +kernel
theorem dX4_giveRows_1 : decode cX4_giveRows 1 = .ok (.istore_n 2, 1) := by decide +kernel
theorem dX4_giveRows_2 : decode cX4_giveRows 2 = .ok (.iconst 0, 1) := by decide +kernel
theorem dX4_giveRows_3 : decode cX4_giveRows 3 = .ok (.istore_n 3, 1) := by decide +kernel
theorem dX4_giveRows_4 : decode cX4_giveRows 4 = .ok (.iload_n 3, 1) := by decide +kernel
theorem dX4_giveRows_5 : decode cX4_giveRows 5 = .ok (.bipush 9, 2) := by decide +kernel
theorem dX4_giveRows_7 : decode cX4_giveRows 7 = .ok (.if_icmp .ge 63, 3) := by decide +kernel
theorem dX4_giveRows_10 : decode cX4_giveRows 10 = .ok (.iload_n 1, 1) := by decide +kernel
theorem dX4_giveRows_11 : decode cX4_giveRows 11 = .ok (.ifCond .eq 10, 3) := by decide +kernel
theorem dX4_giveRows_14 : decode cX4_giveRows 14 = .ok (.bipush 8, 2) := by decide +kernel
theorem dX4_giveRows_16 : decode cX4_giveRows 16 = .ok (.iload_n 3, 1) := by decide +kernel
theorem dX4_giveRows_17 : decode cX4_giveRows 17 = .ok (.isub, 1) := by decide +kernel
theorem dX4_giveRows_18 : decode cX4_giveRows 18 = .ok (.goto 4, 3) := by decide +kernel
theorem dX4_giveRows_21 : decode cX4_giveRows 21 = .ok (.iload_n 3, 1) := by decide +kernel
theorem dX4_giveRows_22 : decode cX4_giveRows 22 = .ok (.istore 4, 2) := by decide +kernel
theorem dX4_giveRows_24 : decode cX4_giveRows 24 = .ok (.aload_n 0, 1) := by decide +kernel
theorem dX4_giveRows_25 : decode cX4_giveRows 25 = .ok (.getfield 23, 3) := by decide +kernel
theorem dX4_giveRows_28 : decode cX4_giveRows 28 = .ok (.iload 4, 2) := by decide +kernel
theorem dX4_giveRows_30 : decode cX4_giveRows 30 = .ok (.iconst (-1), 1) := by decide +kernel
theorem dX4_giveRows_31 : decode cX4_giveRows 31 = .ok (.iastore, 1) := by decide +kernel
theorem dX4_giveRows_32 : decode cX4_giveRows 32 = .ok (.iload 4, 2) := by decide +kernel
theorem dX4_giveRows_34 : decode cX4_giveRows 34 = .ok (.ifCond .eq 30, 3) := by decide +kernel
theorem dX4_giveRows_37 : decode cX4_giveRows 37 = .ok (.aload_n 0, 1) := by decide +kernel
theorem dX4_giveRows_38 : decode cX4_giveRows 38 = .ok (.getfield 19, 3) := by decide +kernel
theorem dX4_giveRows_41 : decode cX4_giveRows 41 = .ok (.iload 4, 2) := by decide +kernel
theorem dX4_giveRows_43 : decode cX4_giveRows 43 = .ok (.baload, 1) := by decide +kernel
theorem dX4_giveRows_44 : decode cX4_giveRows 44 = .ok (.ifCond .eq 20, 3) := by decide +kernel
theorem dX4_giveRows_64 : decode cX4_giveRows 64 = .ok (.iinc 3 1, 3) := by decide +kernel
theorem dX4_giveRows_67 : decode cX4_giveRows 67 = .ok (.goto (-63), 3) := by decide +kernel
theorem dX4_giveRows_70 : decode cX4_giveRows 70 = .ok (.return_, 1) := by decide +kernel
theorem dX4_hang_0 : decode cX4_hang 0 = .ok (.aload_n 0, 1) := by decide +kernel
theorem dX4_hang_1 : decode cX4_hang 1 = .ok (.getfield 9, 3) := by decide +kernel
theorem dX4_hang_4 : decode cX4_hang 4 = .ok (.getfield 51, 3) := by decide +kernel
theorem dX4_hang_7 : decode cX4_hang 7 = .ok (.iload_n 1, 1) := by decide +kernel
theorem dX4_hang_8 : decode cX4_hang 8 = .ok (.invokevirtual 57, 3) := by decide +kernel
theorem dX4_hang_11 : decode cX4_hang 11 = .ok (.iconst 0, 1) := by decide +kernel
theorem dX4_hang_12 : decode cX4_hang 12 = .ok (.istore_n 3, 1) := by decide +kernel
theorem dX4_hang_13 : decode cX4_hang 13 = .ok (.iload_n 3, 1) := by decide +kernel
theorem dX4_hang_14 : decode cX4_hang 14 = .ok (.bipush 9, 2) := by decide +kernel
theorem dX4_hang_16 : decode cX4_hang 16 = .ok (.if_icmp .ge 34, 3) := by decide +kernel
theorem dX4_hang_19 : decode cX4_hang 19 = .ok (.aload_n 0, 1) := by decide +kernel
theorem dX4_hang_20 : decode cX4_hang 20 = .ok (.getfield 15, 3) := by decide +kernel
theorem dX4_hang_23 : decode cX4_hang 23 = .ok (.iload_n 3, 1) := by decide +kernel
theorem dX4_hang_24 : decode cX4_hang 24 = .ok (.aload_n 0, 1) := by decide +kernel
theorem dX4_hang_25 : decode cX4_hang 25 = .ok (.getfield 9, 3) := by decide +kernel
theorem dX4_hang_28 : decode cX4_hang 28 = .ok (.getfield 51, 3) := by decide +kernel
theorem dX4_hang_31 : decode cX4_hang 31 = .ok (.getfield 63, 3) := by decide +kernel
theorem dX4_hang_34 : decode cX4_hang 34 = .ok (.iload_n 3, 1) := by decide +kernel
theorem dX4_hang_35 : decode cX4_hang 35 = .ok (.iaload, 1) := by decide +kernel
theorem dX4_hang_36 : decode cX4_hang 36 = .ok (.iastore, 1) := by decide +kernel
theorem dX4_hang_37 : decode cX4_hang 37 = .ok (.aload_n 0, 1) := by decide +kernel
theorem dX4_hang_38 : decode cX4_hang 38 = .ok (.getfield 19, 3) := by decide +kernel
theorem dX4_hang_41 : decode cX4_hang 41 = .ok (.iload_n 3, 1) := by decide +kernel
theorem dX4_hang_42 : decode cX4_hang 42 = .ok (.iconst 0, 1) := by decide +kernel
theorem dX4_hang_43 : decode cX4_hang 43 = .ok (.bastore, 1) := by decide +kernel
theorem dX4_hang_44 : decode cX4_hang 44 = .ok (.iinc 3 1, 3) := by decide +kernel
theorem dX4_hang_47 : decode cX4_hang 47 = .ok (.goto (-34), 3) := by decide +kernel
theorem dX4_hang_50 : decode cX4_hang 50 = .ok (.iconst 0, 1) := by decide +kernel
theorem dX4_hang_51 : decode cX4_hang 51 = .ok (.istore_n 3, 1) := by decide +kernel
theorem dX4_hang_52 : decode cX4_hang 52 = .ok (.iload_n 3, 1) := by decide +kernel
theorem dX4_hang_53 : decode cX4_hang 53 = .ok (.bipush 24, 2) := by decide +kernel
theorem dX4_hang_55 : decode cX4_hang 55 = .ok (.if_icmp .ge 52, 3) := by decide +kernel
theorem dX4_hang_58 : decode cX4_hang 58 = .ok (.aload_n 0, 1) := by decide +kernel
theorem dX4_hang_59 : decode cX4_hang 59 = .ok (.getfield 44, 3) := by decide +kernel
theorem dX4_hang_62 : decode cX4_hang 62 = .ok (.iload_n 3, 1) := by decide +kernel
theorem dX4_hang_63 : decode cX4_hang 63 = .ok (.iload_n 3, 1) := by decide +kernel
theorem dX4_hang_64 : decode cX4_hang 64 = .ok (.aload_n 0, 1) := by decide +kernel
theorem dX4_hang_65 : decode cX4_hang 65 = .ok (.getfield 9, 3) := by decide +kernel
theorem dX4_hang_68 : decode cX4_hang 68 = .ok (.getfield 64, 3) := by decide +kernel
theorem dX4_hang_71 : decode cX4_hang 71 = .ok (.if_icmp .ge 28, 3) := by decide +kernel
theorem dX4_hang_99 : decode cX4_hang 99 = .ok (.iconst 0, 1) := by decide +kernel
theorem dX4_hang_100 : decode cX4_hang 100 = .ok (.bastore, 1) := by decide +kernel
theorem dX4_hang_101 : decode cX4_hang 101 = .ok (.iinc 3 1, 3) := by decide +kernel
theorem dX4_hang_104 : decode cX4_hang 104 = .ok (.goto (-52), 3) := by decide +kernel
theorem dX4_hang_107 : decode cX4_hang 107 = .ok (.aload_n 0, 1) := by decide +kernel
theorem dX4_hang_108 : decode cX4_hang 108 = .ok (.iconst 0, 1) := by decide +kernel
theorem dX4_hang_109 : decode cX4_hang 109 = .ok (.putfield 78, 3) := by decide +kernel
theorem dX4_hang_112 : decode cX4_hang 112 = .ok (.aload_n 0, 1) := by decide +kernel
theorem dX4_hang_113 : decode cX4_hang 113 = .ok (.getfield 9, 3) := by decide +kernel
theorem dX4_hang_116 : decode cX4_hang 116 = .ok (.getfield 81, 3) := by decide +kernel
theorem dX4_hang_119 : decode cX4_hang 119 = .ok (.ifCond .le 15, 3) := by decide +kernel
theorem dX4_hang_134 : decode cX4_hang 134 = .ok (.iconst 1, 1) := by decide +kernel
theorem dX4_hang_135 : decode cX4_hang 135 = .ok (.istore_n 3, 1) := by decide +kernel
theorem dX4_hang_136 : decode cX4_hang 136 = .ok (.iconst 0, 1) := by decide +kernel
theorem dX4_hang_137 : decode cX4_hang 137 = .ok (.istore 4, 2) := by decide +kernel
theorem dX4_hang_139 : decode cX4_hang 139 = .ok (.iload 4, 2) := by decide +kernel
theorem dX4_hang_141 : decode cX4_hang 141 = .ok (.bipush 9, 2) := by decide +kernel
theorem dX4_hang_143 : decode cX4_hang 143 = .ok (.if_icmp .ge 18, 3) := by decide +kernel
theorem dX4_hang_146 : decode cX4_hang 146 = .ok (.iload_n 3, 1) := by decide +kernel
theorem dX4_hang_147 : decode cX4_hang 147 = .ok (.ifCond .eq 14, 3) := by decide +kernel
theorem dX4_hang_150 : decode cX4_hang 150 = .ok (.aload_n 0, 1) := by decide +kernel
theorem dX4_hang_151 : decode cX4_hang 151 = .ok (.invokevirtual 84, 3) := by decide +kernel
theorem dX4_hang_154 : decode cX4_hang 154 = .ok (.istore_n 3, 1) := by decide +kernel
theorem dX4_hang_155 : decode cX4_hang 155 = .ok (.iinc 4 1, 3) := by decide +kernel
theorem dX4_hang_158 : decode cX4_hang 158 = .ok (.goto (-19), 3) := by decide +kernel
theorem dX4_hang_161 : decode cX4_hang 161 = .ok (.aload_n 0, 1) := by decide +kernel
theorem dX4_hang_162 : decode cX4_hang 162 = .ok (.invokevirtual 88, 3) := by decide +kernel
theorem dX4_hang_165 : decode cX4_hang 165 = .ok (.return_, 1) := by decide +kernel
theorem dX4_hangMore_0 : decode cX4_hangMore 0 = .ok (.iconst 0, 1) := by decide +kernel
theorem dX4_hangMore_1 : decode cX4_hangMore 1 = .ok (.istore_n 1, 1) := by decide +kernel
theorem dX4_hangMore_2 : decode cX4_hangMore 2 = .ok (.iconst 0, 1) := by decide +kernel
theorem dX4_hangMore_3 : decode cX4_hangMore 3 = .ok (.istore_n 2, 1) := by decide +kernel
theorem dX4_hangMore_4 : decode cX4_hangMore 4 = .ok (.iload_n 2, 1) := by decide +kernel
theorem dX4_hangMore_5 : decode cX4_hangMore 5 = .ok (.aload_n 0, 1) := by decide +kernel
theorem dX4_hangMore_6 : decode cX4_hangMore 6 = .ok (.getfield 9, 3) := by decide +kernel
theorem dX4_hangMore_9 : decode cX4_hangMore 9 = .ok (.getfield 64, 3) := by decide +kernel
theorem dX4_hangMore_12 : decode cX4_hangMore 12 = .ok (.if_icmp .ge 98, 3) := by decide +kernel
theorem dX4_hangMore_110 : decode cX4_hangMore 110 = .ok (.iload_n 1, 1) := by decide +kernel
theorem dX4_hangMore_111 : decode cX4_hangMore 111 = .ok (.ireturn, 1) := by decide +kernel
theorem dX4_keepUseful_0 : decode cX4_keepUseful 0 = .ok (.aload_n 0, 1) := by decide +kernel
theorem dX4_keepUseful_1 : decode cX4_keepUseful 1 = .ok (.iconst 0, 1) := by decide +kernel
theorem dX4_keepUseful_2 : decode cX4_keepUseful 2 = .ok (.putfield 97, 3) := by decide +kernel
theorem dX4_keepUseful_5 : decode cX4_keepUseful 5 = .ok (.iconst 0, 1) := by decide +kernel
theorem dX4_keepUseful_6 : decode cX4_keepUseful 6 = .ok (.istore_n 1, 1) := by decide +kernel
theorem dX4_keepUseful_7 : decode cX4_keepUseful 7 = .ok (.iload_n 1, 1) := by decide +kernel
theorem dX4_keepUseful_8 : decode cX4_keepUseful 8 = .ok (.aload_n 0, 1) := by decide +kernel
theorem dX4_keepUseful_9 : decode cX4_keepUseful 9 = .ok (.getfield 9, 3) := by decide +kernel
theorem dX4_keepUseful_12 : decode cX4_keepUseful 12 = .ok (.getfield 64, 3) := by decide +kernel
theorem dX4_keepUseful_15 : decode cX4_keepUseful 15 = .ok (.if_icmp .ge 102, 3) := by decide +kernel
theorem dX4_keepUseful_117 : decode cX4_keepUseful 117 = .ok (.return_, 1) := by decide +kernel
theorem dX4_sumTop_0 : decode cX4_sumTop 0 = .ok (.lconst 0, 1) := by decide +kernel
theorem dX4_sumTop_1 : decode cX4_sumTop 1 = .ok (.lstore_n 1, 1) := by decide +kernel
theorem dX4_sumTop_2 : decode cX4_sumTop 2 = .ok (.iconst 0, 1) := by decide +kernel
theorem dX4_sumTop_3 : decode cX4_sumTop 3 = .ok (.istore_n 3, 1) := by decide +kernel
theorem dX4_sumTop_4 : decode cX4_sumTop 4 = .ok (.iload_n 3, 1) := by decide +kernel
theorem dX4_sumTop_5 : decode cX4_sumTop 5 = .ok (.aload_n 0, 1) := by decide +kernel
theorem dX4_sumTop_6 : decode cX4_sumTop 6 = .ok (.getfield 9, 3) := by decide +kernel
theorem dX4_sumTop_9 : decode cX4_sumTop 9 = .ok (.getfield 64, 3) := by decide +kernel
theorem dX4_sumTop_12 : decode cX4_sumTop 12 = .ok (.if_icmp .ge 72, 3) := by decide +kernel
theorem dX4_sumTop_84 : decode cX4_sumTop 84 = .ok (.lload_n 1, 1) := by decide +kernel
theorem dX4_sumTop_85 : decode cX4_sumTop 85 = .ok (.lreturn, 1) := by decide +kernel
theorem dX4_topSpread_0 : decode cX4_topSpread 0 = .ok (.lconst 0, 1) := by decide +kernel
theorem dX4_topSpread_1 : decode cX4_topSpread 1 = .ok (.lstore_n 2, 1) := by decide +kernel
theorem dX4_topSpread_2 : decode cX4_topSpread 2 = .ok (.lconst 0, 1) := by decide +kernel
theorem dX4_topSpread_3 : decode cX4_topSpread 3 = .ok (.lstore 4, 2) := by decide +kernel
theorem dX4_topSpread_5 : decode cX4_topSpread 5 = .ok (.iconst 0, 1) := by decide +kernel
theorem dX4_topSpread_6 : decode cX4_topSpread 6 = .ok (.istore 6, 2) := by decide +kernel
theorem dX4_topSpread_8 : decode cX4_topSpread 8 = .ok (.iload 6, 2) := by decide +kernel
theorem dX4_topSpread_10 : decode cX4_topSpread 10 = .ok (.bipush 9, 2) := by decide +kernel
theorem dX4_topSpread_12 : decode cX4_topSpread 12 = .ok (.if_icmp .ge 39, 3) := by decide +kernel
theorem dX4_topSpread_15 : decode cX4_topSpread 15 = .ok (.lload_n 2, 1) := by decide +kernel
theorem dX4_topSpread_16 : decode cX4_topSpread 16 = .ok (.aload_n 0, 1) := by decide +kernel
theorem dX4_topSpread_17 : decode cX4_topSpread 17 = .ok (.getfield 31, 3) := by decide +kernel
theorem dX4_topSpread_20 : decode cX4_topSpread 20 = .ok (.iload 6, 2) := by decide +kernel
theorem dX4_topSpread_22 : decode cX4_topSpread 22 = .ok (.aaload, 1) := by decide +kernel
theorem dX4_topSpread_23 : decode cX4_topSpread 23 = .ok (.iload_n 1, 1) := by decide +kernel
theorem dX4_topSpread_24 : decode cX4_topSpread 24 = .ok (.laload, 1) := by decide +kernel
theorem dX4_topSpread_25 : decode cX4_topSpread 25 = .ok (.invokestatic 148, 3) := by decide +kernel
theorem dX4_topSpread_28 : decode cX4_topSpread 28 = .ok (.lstore_n 2, 1) := by decide +kernel
theorem dX4_topSpread_29 : decode cX4_topSpread 29 = .ok (.lload 4, 2) := by decide +kernel
theorem dX4_topSpread_31 : decode cX4_topSpread 31 = .ok (.aload_n 0, 1) := by decide +kernel
theorem dX4_topSpread_32 : decode cX4_topSpread 32 = .ok (.getfield 31, 3) := by decide +kernel
theorem dX4_topSpread_35 : decode cX4_topSpread 35 = .ok (.iload 6, 2) := by decide +kernel
theorem dX4_topSpread_37 : decode cX4_topSpread 37 = .ok (.aaload, 1) := by decide +kernel
theorem dX4_topSpread_38 : decode cX4_topSpread 38 = .ok (.iload_n 1, 1) := by decide +kernel
theorem dX4_topSpread_39 : decode cX4_topSpread 39 = .ok (.laload, 1) := by decide +kernel
theorem dX4_topSpread_40 : decode cX4_topSpread 40 = .ok (.invokestatic 198, 3) := by decide +kernel
theorem dX4_topSpread_43 : decode cX4_topSpread 43 = .ok (.lstore 4, 2) := by decide +kernel
theorem dX4_topSpread_45 : decode cX4_topSpread 45 = .ok (.iinc 6 1, 3) := by decide +kernel
theorem dX4_topSpread_48 : decode cX4_topSpread 48 = .ok (.goto (-40), 3) := by decide +kernel
theorem dX4_topSpread_51 : decode cX4_topSpread 51 = .ok (.lload_n 2, 1) := by decide +kernel
theorem dX4_topSpread_52 : decode cX4_topSpread 52 = .ok (.lload 4, 2) := by decide +kernel
theorem dX4_topSpread_54 : decode cX4_topSpread 54 = .ok (.lsub, 1) := by decide +kernel
theorem dX4_topSpread_55 : decode cX4_topSpread 55 = .ok (.lreturn, 1) := by decide +kernel
theorem dX4_unknowns_0 : decode cX4_unknowns 0 = .ok (.aload_n 0, 1) := by decide +kernel
theorem dX4_unknowns_1 : decode cX4_unknowns 1 = .ok (.getfield 78, 3) := by decide +kernel
theorem dX4_unknowns_4 : decode cX4_unknowns 4 = .ok (.iconst 1, 1) := by decide +kernel
theorem dX4_unknowns_5 : decode cX4_unknowns 5 = .ok (.isub, 1) := by decide +kernel
theorem dX4_unknowns_6 : decode cX4_unknowns 6 = .ok (.iconst 0, 1) := by decide +kernel
theorem dX4_unknowns_7 : decode cX4_unknowns 7 = .ok (.invokestatic 100, 3) := by decide +kernel
theorem dX4_unknowns_10 : decode cX4_unknowns 10 = .ok (.ireturn, 1) := by decide +kernel
theorem dX4_weigh_0 : decode cX4_weigh 0 = .ok (.aload_n 0, 1) := by decide +kernel
theorem dX4_weigh_1 : decode cX4_weigh 1 = .ok (.iload_n 1, 1) := by decide +kernel
theorem dX4_weigh_2 : decode cX4_weigh 2 = .ok (.invokevirtual 106, 3) := by decide +kernel
theorem dX4_weigh_5 : decode cX4_weigh 5 = .ok (.aload_n 0, 1) := by decide +kernel
theorem dX4_weigh_6 : decode cX4_weigh 6 = .ok (.invokevirtual 110, 3) := by decide +kernel
theorem dX4_weigh_9 : decode cX4_weigh 9 = .ok (.aload_n 0, 1) := by decide +kernel
theorem dX4_weigh_10 : decode cX4_weigh 10 = .ok (.invokevirtual 113, 3) := by decide +kernel
theorem dX4_weigh_13 : decode cX4_weigh 13 = .ok (.iconst 0, 1) := by decide +kernel
theorem dX4_weigh_14 : decode cX4_weigh 14 = .ok (.istore_n 2, 1) := by decide +kernel
theorem dX4_weigh_15 : decode cX4_weigh 15 = .ok (.iload_n 2, 1) := by decide +kernel
theorem dX4_weigh_16 : decode cX4_weigh 16 = .ok (.bipush 9, 2) := by decide +kernel
theorem dX4_weigh_18 : decode cX4_weigh 18 = .ok (.if_icmp .ge 60, 3) := by decide +kernel
theorem dX4_weigh_21 : decode cX4_weigh 21 = .ok (.iconst 0, 1) := by decide +kernel
theorem dX4_weigh_22 : decode cX4_weigh 22 = .ok (.istore_n 3, 1) := by decide +kernel
theorem dX4_weigh_23 : decode cX4_weigh 23 = .ok (.iload_n 3, 1) := by decide +kernel
theorem dX4_weigh_24 : decode cX4_weigh 24 = .ok (.iconst 3, 1) := by decide +kernel
theorem dX4_weigh_25 : decode cX4_weigh 25 = .ok (.if_icmp .ge 47, 3) := by decide +kernel
theorem dX4_weigh_28 : decode cX4_weigh 28 = .ok (.aload_n 0, 1) := by decide +kernel
theorem dX4_weigh_29 : decode cX4_weigh 29 = .ok (.getfield 31, 3) := by decide +kernel
theorem dX4_weigh_32 : decode cX4_weigh 32 = .ok (.iload_n 2, 1) := by decide +kernel
theorem dX4_weigh_33 : decode cX4_weigh 33 = .ok (.aaload, 1) := by decide +kernel
theorem dX4_weigh_34 : decode cX4_weigh 34 = .ok (.iload_n 3, 1) := by decide +kernel
theorem dX4_weigh_35 : decode cX4_weigh 35 = .ok (.aload_n 0, 1) := by decide +kernel
theorem dX4_weigh_36 : decode cX4_weigh 36 = .ok (.getfield 23, 3) := by decide +kernel
theorem dX4_weigh_39 : decode cX4_weigh 39 = .ok (.iload_n 2, 1) := by decide +kernel
theorem dX4_weigh_40 : decode cX4_weigh 40 = .ok (.iaload, 1) := by decide +kernel
theorem dX4_weigh_41 : decode cX4_weigh 41 = .ok (.iconst (-1), 1) := by decide +kernel
theorem dX4_weigh_42 : decode cX4_weigh 42 = .ok (.if_icmp .ne 7, 3) := by decide +kernel
theorem dX4_weigh_45 : decode cX4_weigh 45 = .ok (.lconst 0, 1) := by decide +kernel
theorem dX4_weigh_46 : decode cX4_weigh 46 = .ok (.goto 19, 3) := by decide +kernel
theorem dX4_weigh_65 : decode cX4_weigh 65 = .ok (.lastore, 1) := by decide +kernel
theorem dX4_weigh_66 : decode cX4_weigh 66 = .ok (.iinc 3 1, 3) := by decide +kernel
theorem dX4_weigh_69 : decode cX4_weigh 69 = .ok (.goto (-46), 3) := by decide +kernel
theorem dX4_weigh_72 : decode cX4_weigh 72 = .ok (.iinc 2 1, 3) := by decide +kernel
theorem dX4_weigh_75 : decode cX4_weigh 75 = .ok (.goto (-60), 3) := by decide +kernel
theorem dX4_weigh_78 : decode cX4_weigh 78 = .ok (.return_, 1) := by decide +kernel
set_option maxHeartbeats 4000000 in
set_option maxRecDepth 100000 in
/-- mergeAsOf, nothing told: each station is its own lowest -/
theorem k_mergeAsOf (l : Launch) (D : va_G) (cy : Nat → ClassId) (h0 : Nat) (j1 : Nat) (j2 : Nat) (j3 : Nat) (jL : Nat) (day : Int32) (f : Nat → Int32) (sz : Nat)  : Met l yX2_mergeAsOf (wz yX2_mergeAsOf cX2_mergeAsOf 3 none) ({ frames := 0, cells := 0, slots := 0, locals := 0 } : Room) (va_Pc [.ref h0, .int day] (zPre vwCl D cy [(h0, .inr (5, [.ref j1, .ref j2, .ref j3, .ref jL, .int 0])), (jL, .inl (cy 0, 9, .inl f))] sz)) (va_Qv (fun _ : Unit => True) (fun (u : Unit) t => zPost vwCl D (va_A [(h0, .inr (5, [.ref j1, .ref j2, .ref j3, .ref jL, .int 0])), (jL, .inl (cy 0, 9, .inl f))] sz) [(h0, .inr (5, [.ref j1, .ref j2, .ref j3, .ref jL, .int 0])), (jL, .inl (cy 0, 9, .inl (fun j => nI j)))] t) (va_A [(h0, .inr (5, [.ref j1, .ref j2, .ref j3, .ref jL, .int 0])), (jL, .inl (cy 0, 9, .inl f))] sz)) 0 0 (va_A [(h0, .inr (5, [.ref j1, .ref j2, .ref j3, .ref jL, .int 0])), (jL, .inl (cy 0, 9, .inl f))] sz) := by
  refine Met.ofW (cc := cX2_mergeAsOf) (maxL := 3) (ret := none) (by decide) rfl ?_
  intro p e s m args below meth c s₁ B hml hv
  obtain ⟨rfl, hsz, hP, hK, hD0, hX, hY⟩ := hv
  have hx := B.exec
  have hb := B.bytes
  have hr := B.returns
  have hts0 := atoms_spec (ws := wz yX2_mergeAsOf cX2_mergeAsOf 3 none) B.pre
  have hts : ∀ w ∈ wAll, w.before _ s = true := fun w h => hts0 w (List.mem_cons_of_mem _ h)
  have hown : s.vm.findClass RX2 = some m.cls := findClass_of_methodNamed B.named
  have hlocks := B.notSynchronized
  subst hsz
  have hD := hD0.self (sz := s.heap.size)
  generalize hAe : va_A [(h0, .inr (5, [.ref j1, .ref j2, .ref j3, .ref jL, .int 0])), (jL, .inl (cy 0, 9, .inl f))] s.heap.size = A at hD hY ⊢
  have hA : ∀ q : Nat, s.heap.size ≤ q → A q := fun q h => by rw [← hAe]; exact Or.inr h
  have hS : va_S A s.heap s.heap [] := va_S.rf
  have hP : va_P D vwCl [(h0, .inr (5, [.ref j1, .ref j2, .ref j3, .ref jL, .int 0])), (jL, .inl (cy 0, 9, .inl f))] s.heap := hP
  have hl := lv_entry ([.ref h0, .int day]) (n := 3) (Nat.le_of_ble_eq_true rfl)
  rw [lg_entry_eq]
  generalize (lg_sl ([.ref h0, .int day]) ++ List.replicate (3 - (lg_sl ([.ref h0, .int day])).length) Slot.unset).toArray = ls at hl ⊢
  have hl : lv_has ls 3 [(0, .ref h0), (1, .int day)] := hl
  refine z_anyQ (fun Q hQe => ?_)
  refine lv_iconst (v := 0) hx hb dX2_mergeAsOf_0 (by decide) ?_
  refine lv_istore_n (lv' := [(2, .int 0), (0, .ref h0), (1, .int day)]) hx hb dX2_mergeAsOf_1 rfl hl (by decide) rfl (fun ls hl => ?_)
  have lp2_1 : ∀ (n i : Nat), i ≤ 9 → 9 + 1 ≤ i + n → ∀ (g : Nat → Int32) (hg : ∀ j, j < i → g j = nI j) (H : Heap) (locs : List Loc), va_P D vwCl [(h0, .inr (5, [.ref j1, .ref j2, .ref j3, .ref jL, .int 0])), (jL, .inl (cy 0, 9, .inl g))] H → va_D A [(h0, .inr (5, [.ref j1, .ref j2, .ref j3, .ref jL, .int 0])), (jL, .inl (cy 0, 9, .inl g))] → va_S A s.heap H locs → ∀ ls, lv_has ls 3 [(0, .ref h0), (1, .int day), (2, .int (nI i))] → W p l e (headSpec (wz yX2_mergeAsOf cX2_mergeAsOf 3 none) ({ frames := 0, cells := 0, slots := 0, locals := 0 } : Room)).room s m ([.ref h0, .int day] : List Value).toArray below meth c H locs 0 0 Q (F0 m 2 ls []) := by
    intro n
    induction n with
    | zero => intro i h1 h2; exact absurd h2 (by omega)
    | succ n ih2 =>
      intro i hii hni g hg H locs hP hD hS ls hl
      refine lv_iload_n hx hb dX2_mergeAsOf_2 rfl (lv_at hl 2 rfl) ?_
      refine lv_bipush (v := 9) hx hb dX2_mergeAsOf_3 (by decide) ?_
      refine lv_icmp_ge (tgt := 21) hx hb dX2_mergeAsOf_5 (by decide) (fun c_5_1 => ?_) (fun c_5_1 => ?_)
      · skip
        have hE : i = 9 := z_ge (N := 9) (by decide) hii (by decide) c_5_1
        subst hE
        have hl : lv_has ls 3 [(0, .ref h0), (1, .int day), (2, .int 9)] := hl
        obtain ⟨hP, hD⟩ := zP_i (fun j => nI j) hP hD (q := 1) rfl hg
        have hP : va_P D vwCl [(h0, .inr (5, [.ref j1, .ref j2, .ref j3, .ref jL, .int 0])), (jL, .inl (cy 0, 9, .inl (fun j => nI j)))] H := hP
        have hD : va_D A [(h0, .inr (5, [.ref j1, .ref j2, .ref j3, .ref jL, .int 0])), (jL, .inl (cy 0, 9, .inl (fun j => nI j)))] := hD
        refine lv_iconst (v := 0) hx hb dX2_mergeAsOf_21 (by decide) ?_
        refine lv_istore_n (lv' := [(2, .int 0), (0, .ref h0), (1, .int day)]) hx hb dX2_mergeAsOf_22 rfl hl (by decide) rfl (fun ls hl => ?_)
        refine lv_iload_n hx hb dX2_mergeAsOf_23 rfl (lv_at hl 0 rfl) ?_
        refine lv_aload_n hx hb dX2_mergeAsOf_24 rfl (lv_at hl 1 rfl) ?_
        refine va_get (D := D) (ci := 5) (v := .int 0) (C := RX2) (T := TX2) (N := 5) hx hb hts iRX2 hown hK hP 0 rfl rfl 4 (by decide) (hts _ q69) (fun _ h9 => h9) rfl dX2_mergeAsOf_25 ?_
        refine lv_icmp_ge (tgt := 73) hx hb dX2_mergeAsOf_28 (by decide) (fun _ => ?_) (fun c_28_2 => absurd (by decide +kernel) c_28_2)
        have hP9 := hP.sub (ws' := [(h0, .inr (5, [.ref j1, .ref j2, .ref j3, .ref jL, .int 0])), (jL, .inl (cy 0, 9, .inl (fun j => nI j)))]) [0, 1] rfl
        have hD9 := hD.sub (ws' := [(h0, .inr (5, [.ref j1, .ref j2, .ref j3, .ref jL, .int 0])), (jL, .inl (cy 0, 9, .inl (fun j => nI j)))]) [0, 1] (by decide) rfl
        refine W.widen (k := 0) (n := 0) (Nat.le_of_ble_eq_true rfl) (Nat.le_of_ble_eq_true rfl) ?_
        rw [hQe]
        exact W.vret hx hb hr (fun t ht hW => ⟨⟨(), rfl, trivial, ⟨by rw [ht]; exact hP9, hD9⟩⟩, hS.F ht⟩) hS.2.2 dX2_mergeAsOf_73
      · skip
        have hlti : i < 9 := z_lt (N := 9) (by decide) hii (by decide) c_5_1
        refine lv_aload_n hx hb dX2_mergeAsOf_8 rfl (lv_at hl 0 rfl) ?_
        refine va_get (D := D) (ci := 5) (v := .ref jL) (C := RX2) (T := TX2) (N := 5) hx hb hts iRX2 hown hK hP 0 rfl rfl 3 (by decide) (hts _ q15) (fun _ h9 => h9) rfl dX2_mergeAsOf_9 ?_
        refine lv_iload_n hx hb dX2_mergeAsOf_12 rfl (lv_at hl 2 rfl) ?_
        refine lv_iload_n hx hb dX2_mergeAsOf_13 rfl (lv_at hl 2 rfl) ?_
        refine va_iast hx hb hK hP hD hS 1 0 rfl rfl (vp_in_nI (by omega) (by decide)) dX2_mergeAsOf_14 (fun H locs hP hD hS => ?_)
        have hP : va_P D vwCl [(h0, .inr (5, [.ref j1, .ref j2, .ref j3, .ref jL, .int 0])), (jL, .inl (cy 0, 9, .inl (upd g (nI i).toNatClampNeg (nI i))))] H := hP
        have hD : va_D A [(h0, .inr (5, [.ref j1, .ref j2, .ref j3, .ref jL, .int 0])), (jL, .inl (cy 0, 9, .inl (upd g (nI i).toNatClampNeg (nI i))))] := hD
        refine lv_iinc (v := (nI (i + 1))) (lv' := [(2, .int (nI (i + 1))), (0, .ref h0), (1, .int day)]) hx hb dX2_mergeAsOf_15 hl (k := 2) rfl (z_n1 i) (by decide) rfl (fun ls hl => ?_)
        refine lv_goto (tgt := 2) hx hb dX2_mergeAsOf_18 (by decide) ?_
        exact ih2 (i + 1) (by omega) (by omega) _ (z_up (by omega) hg rfl) _ _ (hP.sub [0, 1] rfl) (hD.sub [0, 1] (by decide) rfl) hS ls (lv_sub hl [1, 2, 0] rfl)
  exact lp2_1 (9 + 1) 0 (by decide) (by decide) _ z_nil _ _ hP hD hS ls (lv_sub hl [1, 2, 0] rfl)
set_option maxHeartbeats 4000000 in
set_option maxRecDepth 100000 in
/-- no station hung: no unknown -/
theorem k_unknowns (l : Launch) (D : va_G) (cy : Nat → ClassId) (h0 : Nat) (vC : Nat) (p1 : Nat) (p2 : Nat) (p3 : Nat) (p4 : Nat) (p5 : Nat) (p6 : Nat) (p7 : Nat) (p8 : Nat) (e1 : Int32) (e2 : Int64) (x2 : Int32) (x3 : Int64) (sz : Nat)  : Met l yX4_unknowns (wz yX4_unknowns cX4_unknowns 1 (some .int)) ({ frames := 1, cells := 0, slots := 0, locals := 17 } : Room) (va_Pc [.ref h0] (zPre vwCl D cy [(h0, .inr (7, [.ref vC, .ref p1, .ref p2, .ref p3, .ref p4, .ref p5, .ref p6, .ref p7, .int e1, .long e2, .ref p8, .int 0, .int x2, .long x3]))] sz)) (va_Qi (fun (r : Int32) (_ : Unit) => r = 0) (fun (u : Unit) t => zPost vwCl D (va_A [(h0, .inr (7, [.ref vC, .ref p1, .ref p2, .ref p3, .ref p4, .ref p5, .ref p6, .ref p7, .int e1, .long e2, .ref p8, .int 0, .int x2, .long x3]))] sz) [(h0, .inr (7, [.ref vC, .ref p1, .ref p2, .ref p3, .ref p4, .ref p5, .ref p6, .ref p7, .int e1, .long e2, .ref p8, .int 0, .int x2, .long x3]))] t) (va_A [(h0, .inr (7, [.ref vC, .ref p1, .ref p2, .ref p3, .ref p4, .ref p5, .ref p6, .ref p7, .int e1, .long e2, .ref p8, .int 0, .int x2, .long x3]))] sz)) 0 0 (va_A [(h0, .inr (7, [.ref vC, .ref p1, .ref p2, .ref p3, .ref p4, .ref p5, .ref p6, .ref p7, .int e1, .long e2, .ref p8, .int 0, .int x2, .long x3]))] sz) := by
  refine Met.ofW (cc := cX4_unknowns) (maxL := 1) (ret := (some .int)) (by decide) rfl ?_
  intro p e s m args below meth c s₁ B hml hv
  obtain ⟨rfl, hsz, hP, hK, hD0, hX, hY⟩ := hv
  have hx := B.exec
  have hb := B.bytes
  have hr := B.returns
  have hts0 := atoms_spec (ws := wz yX4_unknowns cX4_unknowns 1 (some .int)) B.pre
  have hts : ∀ w ∈ wAll, w.before _ s = true := fun w h => hts0 w (List.mem_cons_of_mem _ h)
  have hown : s.vm.findClass RX4 = some m.cls := findClass_of_methodNamed B.named
  have hlocks := B.notSynchronized
  subst hsz
  have hD := hD0.self (sz := s.heap.size)
  generalize hAe : va_A [(h0, .inr (7, [.ref vC, .ref p1, .ref p2, .ref p3, .ref p4, .ref p5, .ref p6, .ref p7, .int e1, .long e2, .ref p8, .int 0, .int x2, .long x3]))] s.heap.size = A at hD hY ⊢
  have hA : ∀ q : Nat, s.heap.size ≤ q → A q := fun q h => by rw [← hAe]; exact Or.inr h
  have hS : va_S A s.heap s.heap [] := va_S.rf
  have hP : va_P D vwCl [(h0, .inr (7, [.ref vC, .ref p1, .ref p2, .ref p3, .ref p4, .ref p5, .ref p6, .ref p7, .int e1, .long e2, .ref p8, .int 0, .int x2, .long x3]))] s.heap := hP
  have hl := lv_entry ([.ref h0]) (n := 1) (Nat.le_of_ble_eq_true rfl)
  rw [lg_entry_eq]
  generalize (lg_sl ([.ref h0]) ++ List.replicate (1 - (lg_sl ([.ref h0])).length) Slot.unset).toArray = ls at hl ⊢
  have hl : lv_has ls 1 [(0, .ref h0)] := hl
  refine z_anyQ (fun Q hQe => ?_)
  refine lv_aload_n hx hb dX4_unknowns_0 rfl (lv_at hl 0 rfl) ?_
  refine va_get (D := D) (ci := 7) (v := .int 0) (C := RX4) (T := TX4) (N := 14) hx hb hts iRX4 hown hK hP 0 rfl rfl 11 (by decide) (hts _ q70) (fun _ h9 => h9) rfl dX4_unknowns_1 ?_
  refine lv_iconst (v := 1) hx hb dX4_unknowns_4 (by decide) ?_
  refine lv_isub hx hb dX4_unknowns_5 ?_
  refine lv_topi (fun y1 ey1 => ?_)
  obtain rfl : y1 = (-1) := ey1.trans (by decide +kernel)
  refine lv_iconst (v := 0) hx hb dX4_unknowns_6 (by decide) ?_
  refine va_mmax hx hb (by rw [hml]; exact hl.1.symm) hown (hts _ q71) (hts _ q72) (hts _ q73) (hts _ q74) (Nat.le_of_ble_eq_true rfl) (Nat.le_of_ble_eq_true rfl) (Nat.le_of_ble_eq_true rfl) (Nat.le_of_ble_eq_true rfl) dX4_unknowns_7 ?_
  refine lv_topi (fun y2 ey2 => ?_)
  obtain rfl : y2 = 0 := ey2.trans (by decide +kernel)
  have hP9 := hP.sub (ws' := [(h0, .inr (7, [.ref vC, .ref p1, .ref p2, .ref p3, .ref p4, .ref p5, .ref p6, .ref p7, .int e1, .long e2, .ref p8, .int 0, .int x2, .long x3]))]) [0] rfl
  have hD9 := hD.sub (ws' := [(h0, .inr (7, [.ref vC, .ref p1, .ref p2, .ref p3, .ref p4, .ref p5, .ref p6, .ref p7, .int e1, .long e2, .ref p8, .int 0, .int x2, .long x3]))]) [0] (by decide) rfl
  refine W.widen (k := 0) (n := 0) (Nat.le_of_ble_eq_true rfl) (Nat.le_of_ble_eq_true rfl) ?_
  rw [hQe]
  exact W.iret (v := 0) hx hb hr (fun t ht hW => ⟨⟨0, (), rfl, rfl, ⟨by rw [ht]; exact hP9, hD9⟩⟩, hS.F ht⟩) hS.2.2 dX4_unknowns_10
set_option maxHeartbeats 4000000 in
set_option maxRecDepth 100000 in
/-- no shots: nothing grows -/
theorem k_hangMore (l : Launch) (D : va_G) (cy : Nat → ClassId) (h0 : Nat) (vC : Nat) (p1 : Nat) (p2 : Nat) (p3 : Nat) (p4 : Nat) (p5 : Nat) (p6 : Nat) (p7 : Nat) (p8 : Nat) (e1 : Int32) (e2 : Int64) (x1 : Int32) (x2 : Int32) (x3 : Int64) (sS : Nat) (sJ : Nat) (sz : Nat)  : Met l yX4_hangMore (wz yX4_hangMore cX4_hangMore 5 (some .boolean)) ({ frames := 0, cells := 0, slots := 0, locals := 0 } : Room) (va_Pc [.ref h0] (zPre vwCl D cy [(h0, .inr (7, [.ref vC, .ref p1, .ref p2, .ref p3, .ref p4, .ref p5, .ref p6, .ref p7, .int e1, .long e2, .ref p8, .int x1, .int x2, .long x3])), (vC, .inr (3, [.ref sS, .ref sJ, .int 0, .int 0]))] sz)) (va_Qi (fun (r : Int32) (_ : Unit) => r = 0) (fun (u : Unit) t => zPost vwCl D (va_A [(h0, .inr (7, [.ref vC, .ref p1, .ref p2, .ref p3, .ref p4, .ref p5, .ref p6, .ref p7, .int e1, .long e2, .ref p8, .int x1, .int x2, .long x3])), (vC, .inr (3, [.ref sS, .ref sJ, .int 0, .int 0]))] sz) [(h0, .inr (7, [.ref vC, .ref p1, .ref p2, .ref p3, .ref p4, .ref p5, .ref p6, .ref p7, .int e1, .long e2, .ref p8, .int x1, .int x2, .long x3])), (vC, .inr (3, [.ref sS, .ref sJ, .int 0, .int 0]))] t) (va_A [(h0, .inr (7, [.ref vC, .ref p1, .ref p2, .ref p3, .ref p4, .ref p5, .ref p6, .ref p7, .int e1, .long e2, .ref p8, .int x1, .int x2, .long x3])), (vC, .inr (3, [.ref sS, .ref sJ, .int 0, .int 0]))] sz)) 0 0 (va_A [(h0, .inr (7, [.ref vC, .ref p1, .ref p2, .ref p3, .ref p4, .ref p5, .ref p6, .ref p7, .int e1, .long e2, .ref p8, .int x1, .int x2, .long x3])), (vC, .inr (3, [.ref sS, .ref sJ, .int 0, .int 0]))] sz) := by
  refine Met.ofW (cc := cX4_hangMore) (maxL := 5) (ret := (some .boolean)) (by decide) rfl ?_
  intro p e s m args below meth c s₁ B hml hv
  obtain ⟨rfl, hsz, hP, hK, hD0, hX, hY⟩ := hv
  have hx := B.exec
  have hb := B.bytes
  have hr := B.returns
  have hts0 := atoms_spec (ws := wz yX4_hangMore cX4_hangMore 5 (some .boolean)) B.pre
  have hts : ∀ w ∈ wAll, w.before _ s = true := fun w h => hts0 w (List.mem_cons_of_mem _ h)
  have hown : s.vm.findClass RX4 = some m.cls := findClass_of_methodNamed B.named
  have hlocks := B.notSynchronized
  subst hsz
  have hD := hD0.self (sz := s.heap.size)
  generalize hAe : va_A [(h0, .inr (7, [.ref vC, .ref p1, .ref p2, .ref p3, .ref p4, .ref p5, .ref p6, .ref p7, .int e1, .long e2, .ref p8, .int x1, .int x2, .long x3])), (vC, .inr (3, [.ref sS, .ref sJ, .int 0, .int 0]))] s.heap.size = A at hD hY ⊢
  have hA : ∀ q : Nat, s.heap.size ≤ q → A q := fun q h => by rw [← hAe]; exact Or.inr h
  have hS : va_S A s.heap s.heap [] := va_S.rf
  have hP : va_P D vwCl [(h0, .inr (7, [.ref vC, .ref p1, .ref p2, .ref p3, .ref p4, .ref p5, .ref p6, .ref p7, .int e1, .long e2, .ref p8, .int x1, .int x2, .long x3])), (vC, .inr (3, [.ref sS, .ref sJ, .int 0, .int 0]))] s.heap := hP
  have hl := lv_entry ([.ref h0]) (n := 5) (Nat.le_of_ble_eq_true rfl)
  rw [lg_entry_eq]
  generalize (lg_sl ([.ref h0]) ++ List.replicate (5 - (lg_sl ([.ref h0])).length) Slot.unset).toArray = ls at hl ⊢
  have hl : lv_has ls 5 [(0, .ref h0)] := hl
  refine z_anyQ (fun Q hQe => ?_)
  refine lv_iconst (v := 0) hx hb dX4_hangMore_0 (by decide) ?_
  refine lv_istore_n (lv' := [(1, .int 0), (0, .ref h0)]) hx hb dX4_hangMore_1 rfl hl (by decide) rfl (fun ls hl => ?_)
  refine lv_iconst (v := 0) hx hb dX4_hangMore_2 (by decide) ?_
  refine lv_istore_n (lv' := [(2, .int 0), (1, .int 0), (0, .ref h0)]) hx hb dX4_hangMore_3 rfl hl (by decide) rfl (fun ls hl => ?_)
  refine lv_iload_n hx hb dX4_hangMore_4 rfl (lv_at hl 0 rfl) ?_
  refine lv_aload_n hx hb dX4_hangMore_5 rfl (lv_at hl 2 rfl) ?_
  refine va_get (D := D) (ci := 7) (v := .ref vC) (C := RX4) (T := TX4) (N := 14) hx hb hts iRX4 hown hK hP 0 rfl rfl 0 (by decide) (hts _ q35) (fun _ h9 => h9) rfl dX4_hangMore_6 ?_
  refine va_get (D := D) (ci := 3) (v := .int 0) (C := RX0) (T := TX0) (N := 4) hx hb hts iRX0 hown hK hP 1 rfl rfl 3 (by decide) (hts _ q75) (fun _ h9 => h9) rfl dX4_hangMore_9 ?_
  refine lv_icmp_ge (tgt := 110) hx hb dX4_hangMore_12 (by decide) (fun _ => ?_) (fun c_12_0 => absurd (by decide +kernel) c_12_0)
  refine lv_iload_n hx hb dX4_hangMore_110 rfl (lv_at hl 1 rfl) ?_
  have hP9 := hP.sub (ws' := [(h0, .inr (7, [.ref vC, .ref p1, .ref p2, .ref p3, .ref p4, .ref p5, .ref p6, .ref p7, .int e1, .long e2, .ref p8, .int x1, .int x2, .long x3])), (vC, .inr (3, [.ref sS, .ref sJ, .int 0, .int 0]))]) [0, 1] rfl
  have hD9 := hD.sub (ws' := [(h0, .inr (7, [.ref vC, .ref p1, .ref p2, .ref p3, .ref p4, .ref p5, .ref p6, .ref p7, .int e1, .long e2, .ref p8, .int x1, .int x2, .long x3])), (vC, .inr (3, [.ref sS, .ref sJ, .int 0, .int 0]))]) [0, 1] (by decide) rfl
  refine W.widen (k := 0) (n := 0) (Nat.le_of_ble_eq_true rfl) (Nat.le_of_ble_eq_true rfl) ?_
  rw [hQe]
  exact W.zret (v := 0) hx hb hr rfl (fun t ht hW => ⟨⟨0, (), rfl, rfl, ⟨by rw [ht]; exact hP9, hD9⟩⟩, hS.F ht⟩) hS.2.2 dX4_hangMore_111
set_option maxHeartbeats 4000000 in
set_option maxRecDepth 100000 in
/-- no shots: none is used -/
theorem k_keepUseful (l : Launch) (D : va_G) (cy : Nat → ClassId) (h0 : Nat) (vC : Nat) (p1 : Nat) (p2 : Nat) (p3 : Nat) (p4 : Nat) (p5 : Nat) (p6 : Nat) (p7 : Nat) (p8 : Nat) (e1 : Int32) (e2 : Int64) (x1 : Int32) (x2 : Int32) (x3 : Int64) (sS : Nat) (sJ : Nat) (sz : Nat)  : Met l yX4_keepUseful (wz yX4_keepUseful cX4_keepUseful 4 none) ({ frames := 0, cells := 0, slots := 0, locals := 0 } : Room) (va_Pc [.ref h0] (zPre vwCl D cy [(h0, .inr (7, [.ref vC, .ref p1, .ref p2, .ref p3, .ref p4, .ref p5, .ref p6, .ref p7, .int e1, .long e2, .ref p8, .int x1, .int x2, .long x3])), (vC, .inr (3, [.ref sS, .ref sJ, .int 0, .int 0]))] sz)) (va_Qv (fun _ : Unit => True) (fun (u : Unit) t => zPost vwCl D (va_A [(h0, .inr (7, [.ref vC, .ref p1, .ref p2, .ref p3, .ref p4, .ref p5, .ref p6, .ref p7, .int e1, .long e2, .ref p8, .int x1, .int x2, .long x3])), (vC, .inr (3, [.ref sS, .ref sJ, .int 0, .int 0]))] sz) [(h0, .inr (7, [.ref vC, .ref p1, .ref p2, .ref p3, .ref p4, .ref p5, .ref p6, .ref p7, .int e1, .long e2, .ref p8, .int x1, .int 0, .long x3])), (vC, .inr (3, [.ref sS, .ref sJ, .int 0, .int 0]))] t) (va_A [(h0, .inr (7, [.ref vC, .ref p1, .ref p2, .ref p3, .ref p4, .ref p5, .ref p6, .ref p7, .int e1, .long e2, .ref p8, .int x1, .int x2, .long x3])), (vC, .inr (3, [.ref sS, .ref sJ, .int 0, .int 0]))] sz)) 0 0 (va_A [(h0, .inr (7, [.ref vC, .ref p1, .ref p2, .ref p3, .ref p4, .ref p5, .ref p6, .ref p7, .int e1, .long e2, .ref p8, .int x1, .int x2, .long x3])), (vC, .inr (3, [.ref sS, .ref sJ, .int 0, .int 0]))] sz) := by
  refine Met.ofW (cc := cX4_keepUseful) (maxL := 4) (ret := none) (by decide) rfl ?_
  intro p e s m args below meth c s₁ B hml hv
  obtain ⟨rfl, hsz, hP, hK, hD0, hX, hY⟩ := hv
  have hx := B.exec
  have hb := B.bytes
  have hr := B.returns
  have hts0 := atoms_spec (ws := wz yX4_keepUseful cX4_keepUseful 4 none) B.pre
  have hts : ∀ w ∈ wAll, w.before _ s = true := fun w h => hts0 w (List.mem_cons_of_mem _ h)
  have hown : s.vm.findClass RX4 = some m.cls := findClass_of_methodNamed B.named
  have hlocks := B.notSynchronized
  subst hsz
  have hD := hD0.self (sz := s.heap.size)
  generalize hAe : va_A [(h0, .inr (7, [.ref vC, .ref p1, .ref p2, .ref p3, .ref p4, .ref p5, .ref p6, .ref p7, .int e1, .long e2, .ref p8, .int x1, .int x2, .long x3])), (vC, .inr (3, [.ref sS, .ref sJ, .int 0, .int 0]))] s.heap.size = A at hD hY ⊢
  have hA : ∀ q : Nat, s.heap.size ≤ q → A q := fun q h => by rw [← hAe]; exact Or.inr h
  have hS : va_S A s.heap s.heap [] := va_S.rf
  have hP : va_P D vwCl [(h0, .inr (7, [.ref vC, .ref p1, .ref p2, .ref p3, .ref p4, .ref p5, .ref p6, .ref p7, .int e1, .long e2, .ref p8, .int x1, .int x2, .long x3])), (vC, .inr (3, [.ref sS, .ref sJ, .int 0, .int 0]))] s.heap := hP
  have hl := lv_entry ([.ref h0]) (n := 4) (Nat.le_of_ble_eq_true rfl)
  rw [lg_entry_eq]
  generalize (lg_sl ([.ref h0]) ++ List.replicate (4 - (lg_sl ([.ref h0])).length) Slot.unset).toArray = ls at hl ⊢
  have hl : lv_has ls 4 [(0, .ref h0)] := hl
  refine z_anyQ (fun Q hQe => ?_)
  refine lv_aload_n hx hb dX4_keepUseful_0 rfl (lv_at hl 0 rfl) ?_
  refine lv_iconst (v := 0) hx hb dX4_keepUseful_1 (by decide) ?_
  refine va_put (D := D) (ci := 7) (v := .int 0) (ty := .int) (C := RX4) (T := TX4) (N := 14) hx hb hts iRX4 tyX4 tyX4_ok nmX4 hown hK hP hD hS 0 rfl rfl 12 (by decide) (hts _ q76) (fun _ h9 => h9) rfl (tyX4_ok 12 (by decide)) rfl rfl (Nat.le_of_ble_eq_true rfl) dX4_keepUseful_2 (fun H locs hP hD hS => ?_)
  have hP : va_P D vwCl [(h0, .inr (7, [.ref vC, .ref p1, .ref p2, .ref p3, .ref p4, .ref p5, .ref p6, .ref p7, .int e1, .long e2, .ref p8, .int x1, .int 0, .long x3])), (vC, .inr (3, [.ref sS, .ref sJ, .int 0, .int 0]))] H := hP
  have hD : va_D A [(h0, .inr (7, [.ref vC, .ref p1, .ref p2, .ref p3, .ref p4, .ref p5, .ref p6, .ref p7, .int e1, .long e2, .ref p8, .int x1, .int 0, .long x3])), (vC, .inr (3, [.ref sS, .ref sJ, .int 0, .int 0]))] := hD
  refine lv_iconst (v := 0) hx hb dX4_keepUseful_5 (by decide) ?_
  refine lv_istore_n (lv' := [(1, .int 0), (0, .ref h0)]) hx hb dX4_keepUseful_6 rfl hl (by decide) rfl (fun ls hl => ?_)
  refine lv_iload_n hx hb dX4_keepUseful_7 rfl (lv_at hl 0 rfl) ?_
  refine lv_aload_n hx hb dX4_keepUseful_8 rfl (lv_at hl 1 rfl) ?_
  refine va_get (D := D) (ci := 7) (v := .ref vC) (C := RX4) (T := TX4) (N := 14) hx hb hts iRX4 hown hK hP 0 rfl rfl 0 (by decide) (hts _ q35) (fun _ h9 => h9) rfl dX4_keepUseful_9 ?_
  refine va_get (D := D) (ci := 3) (v := .int 0) (C := RX0) (T := TX0) (N := 4) hx hb hts iRX0 hown hK hP 1 rfl rfl 3 (by decide) (hts _ q75) (fun _ h9 => h9) rfl dX4_keepUseful_12 ?_
  refine lv_icmp_ge (tgt := 117) hx hb dX4_keepUseful_15 (by decide) (fun _ => ?_) (fun c_15_0 => absurd (by decide +kernel) c_15_0)
  have hP9 := hP.sub (ws' := [(h0, .inr (7, [.ref vC, .ref p1, .ref p2, .ref p3, .ref p4, .ref p5, .ref p6, .ref p7, .int e1, .long e2, .ref p8, .int x1, .int 0, .long x3])), (vC, .inr (3, [.ref sS, .ref sJ, .int 0, .int 0]))]) [0, 1] rfl
  have hD9 := hD.sub (ws' := [(h0, .inr (7, [.ref vC, .ref p1, .ref p2, .ref p3, .ref p4, .ref p5, .ref p6, .ref p7, .int e1, .long e2, .ref p8, .int x1, .int 0, .long x3])), (vC, .inr (3, [.ref sS, .ref sJ, .int 0, .int 0]))]) [0, 1] (by decide) rfl
  refine W.widen (k := 0) (n := 0) (Nat.le_of_ble_eq_true rfl) (Nat.le_of_ble_eq_true rfl) ?_
  rw [hQe]
  exact W.vret hx hb hr (fun t ht hW => ⟨⟨(), rfl, trivial, ⟨by rw [ht]; exact hP9, hD9⟩⟩, hS.F ht⟩) hS.2.2 dX4_keepUseful_117
set_option maxHeartbeats 4000000 in
set_option maxRecDepth 100000 in
/-- hang on a fresh cave: nothing is hung, no shot is used -/
theorem k_hang (l : Launch) (D : va_G) (cy : Nat → ClassId) (h0 : Nat) (vC : Nat) (p1 : Nat) (p2 : Nat) (p3 : Nat) (p4 : Nat) (p5 : Nat) (p6 : Nat) (p7 : Nat) (p8 : Nat) (e1 : Int32) (e2 : Int64) (x1 : Int32) (x2 : Int32) (x3 : Int64) (sS : Nat) (sJ : Nat) (j1 : Nat) (j2 : Nat) (j3 : Nat) (jL : Nat) (day : Int32) (lo : Int32) (fj : Nat → Int32) (f1 : Nat → Int32) (f2 : Nat → Int32) (f3 : Nat → Int32) (sz : Nat)  : Met l yX4_hang (wz yX4_hang cX4_hang 5 none) ({ frames := 1, cells := 0, slots := 0, locals := 24 } : Room) (va_Pc [.ref h0, .int day, .int lo] (zPre vwCl D cy [(h0, .inr (7, [.ref vC, .ref p1, .ref p2, .ref p3, .ref p4, .ref p5, .ref p6, .ref p7, .int e1, .long e2, .ref p8, .int x1, .int x2, .long x3])), (vC, .inr (3, [.ref sS, .ref sJ, .int 0, .int 0])), (sJ, .inr (5, [.ref j1, .ref j2, .ref j3, .ref jL, .int 0])), (jL, .inl (cy 0, 9, .inl fj)), (p1, .inl (cy 0, 9, .inl f1)), (p2, .inl (cy 2, 9, .inl f2)), (p8, .inl (cy 2, 24, .inl f3))] sz)) (va_Qv (fun _ : Unit => True) (fun (u : Unit) t => zPost vwCl D (va_A [(h0, .inr (7, [.ref vC, .ref p1, .ref p2, .ref p3, .ref p4, .ref p5, .ref p6, .ref p7, .int e1, .long e2, .ref p8, .int x1, .int x2, .long x3])), (vC, .inr (3, [.ref sS, .ref sJ, .int 0, .int 0])), (sJ, .inr (5, [.ref j1, .ref j2, .ref j3, .ref jL, .int 0])), (jL, .inl (cy 0, 9, .inl fj)), (p1, .inl (cy 0, 9, .inl f1)), (p2, .inl (cy 2, 9, .inl f2)), (p8, .inl (cy 2, 24, .inl f3))] sz) [(h0, .inr (7, [.ref vC, .ref p1, .ref p2, .ref p3, .ref p4, .ref p5, .ref p6, .ref p7, .int e1, .long e2, .ref p8, .int 0, .int 0, .long x3])), (vC, .inr (3, [.ref sS, .ref sJ, .int 0, .int 0])), (sJ, .inr (5, [.ref j1, .ref j2, .ref j3, .ref jL, .int 0])), (jL, .inl (cy 0, 9, .inl (fun j => nI j))), (p1, .inl (cy 0, 9, .inl (fun j => nI j))), (p2, .inl (cy 2, 9, .inl (fun _ => 0))), (p8, .inl (cy 2, 24, .inl (fun _ => 0)))] t) (va_A [(h0, .inr (7, [.ref vC, .ref p1, .ref p2, .ref p3, .ref p4, .ref p5, .ref p6, .ref p7, .int e1, .long e2, .ref p8, .int x1, .int x2, .long x3])), (vC, .inr (3, [.ref sS, .ref sJ, .int 0, .int 0])), (sJ, .inr (5, [.ref j1, .ref j2, .ref j3, .ref jL, .int 0])), (jL, .inl (cy 0, 9, .inl fj)), (p1, .inl (cy 0, 9, .inl f1)), (p2, .inl (cy 2, 9, .inl f2)), (p8, .inl (cy 2, 24, .inl f3))] sz)) 0 0 (va_A [(h0, .inr (7, [.ref vC, .ref p1, .ref p2, .ref p3, .ref p4, .ref p5, .ref p6, .ref p7, .int e1, .long e2, .ref p8, .int x1, .int x2, .long x3])), (vC, .inr (3, [.ref sS, .ref sJ, .int 0, .int 0])), (sJ, .inr (5, [.ref j1, .ref j2, .ref j3, .ref jL, .int 0])), (jL, .inl (cy 0, 9, .inl fj)), (p1, .inl (cy 0, 9, .inl f1)), (p2, .inl (cy 2, 9, .inl f2)), (p8, .inl (cy 2, 24, .inl f3))] sz) := by
  refine Met.ofW (cc := cX4_hang) (maxL := 5) (ret := none) (by decide) rfl ?_
  intro p e s m args below meth c s₁ B hml hv
  obtain ⟨rfl, hsz, hP, hK, hD0, hX, hY⟩ := hv
  have hx := B.exec
  have hb := B.bytes
  have hr := B.returns
  have hts0 := atoms_spec (ws := wz yX4_hang cX4_hang 5 none) B.pre
  have hts : ∀ w ∈ wAll, w.before _ s = true := fun w h => hts0 w (List.mem_cons_of_mem _ h)
  have hown : s.vm.findClass RX4 = some m.cls := findClass_of_methodNamed B.named
  have hlocks := B.notSynchronized
  subst hsz
  have hD := hD0.self (sz := s.heap.size)
  generalize hAe : va_A [(h0, .inr (7, [.ref vC, .ref p1, .ref p2, .ref p3, .ref p4, .ref p5, .ref p6, .ref p7, .int e1, .long e2, .ref p8, .int x1, .int x2, .long x3])), (vC, .inr (3, [.ref sS, .ref sJ, .int 0, .int 0])), (sJ, .inr (5, [.ref j1, .ref j2, .ref j3, .ref jL, .int 0])), (jL, .inl (cy 0, 9, .inl fj)), (p1, .inl (cy 0, 9, .inl f1)), (p2, .inl (cy 2, 9, .inl f2)), (p8, .inl (cy 2, 24, .inl f3))] s.heap.size = A at hD hY ⊢
  have hA : ∀ q : Nat, s.heap.size ≤ q → A q := fun q h => by rw [← hAe]; exact Or.inr h
  have hS : va_S A s.heap s.heap [] := va_S.rf
  have hP : va_P D vwCl [(h0, .inr (7, [.ref vC, .ref p1, .ref p2, .ref p3, .ref p4, .ref p5, .ref p6, .ref p7, .int e1, .long e2, .ref p8, .int x1, .int x2, .long x3])), (vC, .inr (3, [.ref sS, .ref sJ, .int 0, .int 0])), (sJ, .inr (5, [.ref j1, .ref j2, .ref j3, .ref jL, .int 0])), (jL, .inl (cy 0, 9, .inl fj)), (p1, .inl (cy 0, 9, .inl f1)), (p2, .inl (cy 2, 9, .inl f2)), (p8, .inl (cy 2, 24, .inl f3))] s.heap := hP
  have hl := lv_entry ([.ref h0, .int day, .int lo]) (n := 5) (Nat.le_of_ble_eq_true rfl)
  rw [lg_entry_eq]
  generalize (lg_sl ([.ref h0, .int day, .int lo]) ++ List.replicate (5 - (lg_sl ([.ref h0, .int day, .int lo])).length) Slot.unset).toArray = ls at hl ⊢
  have hl : lv_has ls 5 [(0, .ref h0), (1, .int day), (2, .int lo)] := hl
  refine z_anyQ (fun Q hQe => ?_)
  refine lv_aload_n hx hb dX4_hang_0 rfl (lv_at hl 0 rfl) ?_
  refine va_get (D := D) (ci := 7) (v := .ref vC) (C := RX4) (T := TX4) (N := 14) hx hb hts iRX4 hown hK hP 0 rfl rfl 0 (by decide) (hts _ q35) (fun _ h9 => h9) rfl dX4_hang_1 ?_
  refine va_get (D := D) (ci := 3) (v := .ref sJ) (C := RX0) (T := TX0) (N := 4) hx hb hts iRX0 hown hK hP 1 rfl rfl 1 (by decide) (hts _ q77) (fun _ h9 => h9) rfl dX4_hang_4 ?_
  refine lv_iload_n hx hb dX4_hang_7 rfl (lv_at hl 1 rfl) ?_
  refine zq_v (wc := [(sJ, .inr (5, [.ref j1, .ref j2, .ref j3, .ref jL, .int 0])), (jL, .inl (cy 0, 9, .inl fj))]) (wr := [(h0, .inr (7, [.ref vC, .ref p1, .ref p2, .ref p3, .ref p4, .ref p5, .ref p6, .ref p7, .int e1, .long e2, .ref p8, .int x1, .int x2, .long x3])), (vC, .inr (3, [.ref sS, .ref sJ, .int 0, .int 0])), (p1, .inl (cy 0, 9, .inl f1)), (p2, .inl (cy 2, 9, .inl f2)), (p8, .inl (cy 2, 24, .inl f3))]) (va_runV (As := [.int day]) (rest := []) ⟨hx, hb, hml, hown, hts⟩ (k_mergeAsOf l D cy sJ j1 j2 j3 jL day fj s.heap.size ) (cwV 1 hts (gzV (gz q79) q78 q80 q81 q57) rfl rfl rfl vX2_mergeAsOf ⟨Nat.le_of_ble_eq_true rfl, Nat.le_of_ble_eq_true rfl⟩) (zpV (ci := 5) (T := TX2) (N := 5) (q0 := 0) hK hX hY hP hD hS hA [2, 3] (by decide) rfl rfl rfl) rfl rfl hl.1 rfl (lv_room (Nat.le_of_ble_eq_true rfl)) dX4_hang_8 ⟨Nat.le_of_ble_eq_true rfl, Nat.le_of_ble_eq_true rfl⟩) hP hD hS hA [2, 3] [0, 1, 4, 5, 6] rfl rfl (by decide) (by decide) (fun u1 H locs hw hP hD hS => ?_)
  have hP : va_P D vwCl [(h0, .inr (7, [.ref vC, .ref p1, .ref p2, .ref p3, .ref p4, .ref p5, .ref p6, .ref p7, .int e1, .long e2, .ref p8, .int x1, .int x2, .long x3])), (vC, .inr (3, [.ref sS, .ref sJ, .int 0, .int 0])), (p1, .inl (cy 0, 9, .inl f1)), (p2, .inl (cy 2, 9, .inl f2)), (p8, .inl (cy 2, 24, .inl f3)), (sJ, .inr (5, [.ref j1, .ref j2, .ref j3, .ref jL, .int 0])), (jL, .inl (cy 0, 9, .inl (fun j => nI j)))] H := hP
  have hD : va_D A [(h0, .inr (7, [.ref vC, .ref p1, .ref p2, .ref p3, .ref p4, .ref p5, .ref p6, .ref p7, .int e1, .long e2, .ref p8, .int x1, .int x2, .long x3])), (vC, .inr (3, [.ref sS, .ref sJ, .int 0, .int 0])), (p1, .inl (cy 0, 9, .inl f1)), (p2, .inl (cy 2, 9, .inl f2)), (p8, .inl (cy 2, 24, .inl f3)), (sJ, .inr (5, [.ref j1, .ref j2, .ref j3, .ref jL, .int 0])), (jL, .inl (cy 0, 9, .inl (fun j => nI j)))] := hD
  refine lv_iconst (v := 0) hx hb dX4_hang_11 (by decide) ?_
  refine lv_istore_n (lv' := [(3, .int 0), (0, .ref h0), (1, .int day), (2, .int lo)]) hx hb dX4_hang_12 rfl hl (by decide) rfl (fun ls hl => ?_)
  have lp13_3 : ∀ (n i : Nat), i ≤ 9 → 9 + 1 ≤ i + n → ∀ (g1 : Nat → Int32) (g2 : Nat → Int32) (hg1 : ∀ j, j < i → g1 j = nI j) (hg2 : ∀ j, j < i → g2 j = 0) (H : Heap) (locs : List Loc), va_P D vwCl [(h0, .inr (7, [.ref vC, .ref p1, .ref p2, .ref p3, .ref p4, .ref p5, .ref p6, .ref p7, .int e1, .long e2, .ref p8, .int x1, .int x2, .long x3])), (vC, .inr (3, [.ref sS, .ref sJ, .int 0, .int 0])), (p1, .inl (cy 0, 9, .inl g1)), (p2, .inl (cy 2, 9, .inl g2)), (p8, .inl (cy 2, 24, .inl f3)), (sJ, .inr (5, [.ref j1, .ref j2, .ref j3, .ref jL, .int 0])), (jL, .inl (cy 0, 9, .inl (fun j => nI j)))] H → va_D A [(h0, .inr (7, [.ref vC, .ref p1, .ref p2, .ref p3, .ref p4, .ref p5, .ref p6, .ref p7, .int e1, .long e2, .ref p8, .int x1, .int x2, .long x3])), (vC, .inr (3, [.ref sS, .ref sJ, .int 0, .int 0])), (p1, .inl (cy 0, 9, .inl g1)), (p2, .inl (cy 2, 9, .inl g2)), (p8, .inl (cy 2, 24, .inl f3)), (sJ, .inr (5, [.ref j1, .ref j2, .ref j3, .ref jL, .int 0])), (jL, .inl (cy 0, 9, .inl (fun j => nI j)))] → va_S A s.heap H locs → ∀ ls, lv_has ls 5 [(0, .ref h0), (1, .int day), (2, .int lo), (3, .int (nI i))] → W p l e (headSpec (wz yX4_hang cX4_hang 5 none) ({ frames := 1, cells := 0, slots := 0, locals := 24 } : Room)).room s m ([.ref h0, .int day, .int lo] : List Value).toArray below meth c H locs 0 0 Q (F0 m 13 ls []) := by
    intro n
    induction n with
    | zero => intro i h1 h2; exact absurd h2 (by omega)
    | succ n ih13 =>
      intro i hii hni g1 g2 hg1 hg2 H locs hP hD hS ls hl
      refine lv_iload_n hx hb dX4_hang_13 rfl (lv_at hl 3 rfl) ?_
      refine lv_bipush (v := 9) hx hb dX4_hang_14 (by decide) ?_
      refine lv_icmp_ge (tgt := 50) hx hb dX4_hang_16 (by decide) (fun c_16_3 => ?_) (fun c_16_3 => ?_)
      · skip
        have hE : i = 9 := z_ge (N := 9) (by decide) hii (by decide) c_16_3
        subst hE
        have hl : lv_has ls 5 [(0, .ref h0), (1, .int day), (2, .int lo), (3, .int 9)] := hl
        obtain ⟨hP, hD⟩ := zP_i (fun j => nI j) hP hD (q := 2) rfl hg1
        have hP : va_P D vwCl [(h0, .inr (7, [.ref vC, .ref p1, .ref p2, .ref p3, .ref p4, .ref p5, .ref p6, .ref p7, .int e1, .long e2, .ref p8, .int x1, .int x2, .long x3])), (vC, .inr (3, [.ref sS, .ref sJ, .int 0, .int 0])), (p1, .inl (cy 0, 9, .inl (fun j => nI j))), (p2, .inl (cy 2, 9, .inl g2)), (p8, .inl (cy 2, 24, .inl f3)), (sJ, .inr (5, [.ref j1, .ref j2, .ref j3, .ref jL, .int 0])), (jL, .inl (cy 0, 9, .inl (fun j => nI j)))] H := hP
        have hD : va_D A [(h0, .inr (7, [.ref vC, .ref p1, .ref p2, .ref p3, .ref p4, .ref p5, .ref p6, .ref p7, .int e1, .long e2, .ref p8, .int x1, .int x2, .long x3])), (vC, .inr (3, [.ref sS, .ref sJ, .int 0, .int 0])), (p1, .inl (cy 0, 9, .inl (fun j => nI j))), (p2, .inl (cy 2, 9, .inl g2)), (p8, .inl (cy 2, 24, .inl f3)), (sJ, .inr (5, [.ref j1, .ref j2, .ref j3, .ref jL, .int 0])), (jL, .inl (cy 0, 9, .inl (fun j => nI j)))] := hD
        obtain ⟨hP, hD⟩ := zP_i (fun _ => 0) hP hD (q := 3) rfl hg2
        have hP : va_P D vwCl [(h0, .inr (7, [.ref vC, .ref p1, .ref p2, .ref p3, .ref p4, .ref p5, .ref p6, .ref p7, .int e1, .long e2, .ref p8, .int x1, .int x2, .long x3])), (vC, .inr (3, [.ref sS, .ref sJ, .int 0, .int 0])), (p1, .inl (cy 0, 9, .inl (fun j => nI j))), (p2, .inl (cy 2, 9, .inl (fun _ => 0))), (p8, .inl (cy 2, 24, .inl f3)), (sJ, .inr (5, [.ref j1, .ref j2, .ref j3, .ref jL, .int 0])), (jL, .inl (cy 0, 9, .inl (fun j => nI j)))] H := hP
        have hD : va_D A [(h0, .inr (7, [.ref vC, .ref p1, .ref p2, .ref p3, .ref p4, .ref p5, .ref p6, .ref p7, .int e1, .long e2, .ref p8, .int x1, .int x2, .long x3])), (vC, .inr (3, [.ref sS, .ref sJ, .int 0, .int 0])), (p1, .inl (cy 0, 9, .inl (fun j => nI j))), (p2, .inl (cy 2, 9, .inl (fun _ => 0))), (p8, .inl (cy 2, 24, .inl f3)), (sJ, .inr (5, [.ref j1, .ref j2, .ref j3, .ref jL, .int 0])), (jL, .inl (cy 0, 9, .inl (fun j => nI j)))] := hD
        refine lv_iconst (v := 0) hx hb dX4_hang_50 (by decide) ?_
        refine lv_istore_n (lv' := [(3, .int 0), (0, .ref h0), (1, .int day), (2, .int lo)]) hx hb dX4_hang_51 rfl hl (by decide) rfl (fun ls hl => ?_)
        have lp52_5 : ∀ (n i : Nat), i ≤ 24 → 24 + 1 ≤ i + n → ∀ (g3 : Nat → Int32) (hg3 : ∀ j, j < i → g3 j = 0) (H : Heap) (locs : List Loc), va_P D vwCl [(h0, .inr (7, [.ref vC, .ref p1, .ref p2, .ref p3, .ref p4, .ref p5, .ref p6, .ref p7, .int e1, .long e2, .ref p8, .int x1, .int x2, .long x3])), (vC, .inr (3, [.ref sS, .ref sJ, .int 0, .int 0])), (p1, .inl (cy 0, 9, .inl (fun j => nI j))), (p2, .inl (cy 2, 9, .inl (fun _ => 0))), (p8, .inl (cy 2, 24, .inl g3)), (sJ, .inr (5, [.ref j1, .ref j2, .ref j3, .ref jL, .int 0])), (jL, .inl (cy 0, 9, .inl (fun j => nI j)))] H → va_D A [(h0, .inr (7, [.ref vC, .ref p1, .ref p2, .ref p3, .ref p4, .ref p5, .ref p6, .ref p7, .int e1, .long e2, .ref p8, .int x1, .int x2, .long x3])), (vC, .inr (3, [.ref sS, .ref sJ, .int 0, .int 0])), (p1, .inl (cy 0, 9, .inl (fun j => nI j))), (p2, .inl (cy 2, 9, .inl (fun _ => 0))), (p8, .inl (cy 2, 24, .inl g3)), (sJ, .inr (5, [.ref j1, .ref j2, .ref j3, .ref jL, .int 0])), (jL, .inl (cy 0, 9, .inl (fun j => nI j)))] → va_S A s.heap H locs → ∀ ls, lv_has ls 5 [(0, .ref h0), (1, .int day), (2, .int lo), (3, .int (nI i))] → W p l e (headSpec (wz yX4_hang cX4_hang 5 none) ({ frames := 1, cells := 0, slots := 0, locals := 24 } : Room)).room s m ([.ref h0, .int day, .int lo] : List Value).toArray below meth c H locs 0 0 Q (F0 m 52 ls []) := by
          intro n
          induction n with
          | zero => intro i h1 h2; exact absurd h2 (by omega)
          | succ n ih52 =>
            intro i hii hni g3 hg3 H locs hP hD hS ls hl
            refine lv_iload_n hx hb dX4_hang_52 rfl (lv_at hl 3 rfl) ?_
            refine lv_bipush (v := 24) hx hb dX4_hang_53 (by decide) ?_
            refine lv_icmp_ge (tgt := 107) hx hb dX4_hang_55 (by decide) (fun c_55_5 => ?_) (fun c_55_5 => ?_)
            · skip
              have hE : i = 24 := z_ge (N := 24) (by decide) hii (by decide) c_55_5
              subst hE
              have hl : lv_has ls 5 [(0, .ref h0), (1, .int day), (2, .int lo), (3, .int 24)] := hl
              obtain ⟨hP, hD⟩ := zP_i (fun _ => 0) hP hD (q := 4) rfl hg3
              have hP : va_P D vwCl [(h0, .inr (7, [.ref vC, .ref p1, .ref p2, .ref p3, .ref p4, .ref p5, .ref p6, .ref p7, .int e1, .long e2, .ref p8, .int x1, .int x2, .long x3])), (vC, .inr (3, [.ref sS, .ref sJ, .int 0, .int 0])), (p1, .inl (cy 0, 9, .inl (fun j => nI j))), (p2, .inl (cy 2, 9, .inl (fun _ => 0))), (p8, .inl (cy 2, 24, .inl (fun _ => 0))), (sJ, .inr (5, [.ref j1, .ref j2, .ref j3, .ref jL, .int 0])), (jL, .inl (cy 0, 9, .inl (fun j => nI j)))] H := hP
              have hD : va_D A [(h0, .inr (7, [.ref vC, .ref p1, .ref p2, .ref p3, .ref p4, .ref p5, .ref p6, .ref p7, .int e1, .long e2, .ref p8, .int x1, .int x2, .long x3])), (vC, .inr (3, [.ref sS, .ref sJ, .int 0, .int 0])), (p1, .inl (cy 0, 9, .inl (fun j => nI j))), (p2, .inl (cy 2, 9, .inl (fun _ => 0))), (p8, .inl (cy 2, 24, .inl (fun _ => 0))), (sJ, .inr (5, [.ref j1, .ref j2, .ref j3, .ref jL, .int 0])), (jL, .inl (cy 0, 9, .inl (fun j => nI j)))] := hD
              refine lv_aload_n hx hb dX4_hang_107 rfl (lv_at hl 0 rfl) ?_
              refine lv_iconst (v := 0) hx hb dX4_hang_108 (by decide) ?_
              refine va_put (D := D) (ci := 7) (v := .int 0) (ty := .int) (C := RX4) (T := TX4) (N := 14) hx hb hts iRX4 tyX4 tyX4_ok nmX4 hown hK hP hD hS 0 rfl rfl 11 (by decide) (hts _ q70) (fun _ h9 => h9) rfl (tyX4_ok 11 (by decide)) rfl rfl (Nat.le_of_ble_eq_true rfl) dX4_hang_109 (fun H locs hP hD hS => ?_)
              have hP : va_P D vwCl [(h0, .inr (7, [.ref vC, .ref p1, .ref p2, .ref p3, .ref p4, .ref p5, .ref p6, .ref p7, .int e1, .long e2, .ref p8, .int 0, .int x2, .long x3])), (vC, .inr (3, [.ref sS, .ref sJ, .int 0, .int 0])), (p1, .inl (cy 0, 9, .inl (fun j => nI j))), (p2, .inl (cy 2, 9, .inl (fun _ => 0))), (p8, .inl (cy 2, 24, .inl (fun _ => 0))), (sJ, .inr (5, [.ref j1, .ref j2, .ref j3, .ref jL, .int 0])), (jL, .inl (cy 0, 9, .inl (fun j => nI j)))] H := hP
              have hD : va_D A [(h0, .inr (7, [.ref vC, .ref p1, .ref p2, .ref p3, .ref p4, .ref p5, .ref p6, .ref p7, .int e1, .long e2, .ref p8, .int 0, .int x2, .long x3])), (vC, .inr (3, [.ref sS, .ref sJ, .int 0, .int 0])), (p1, .inl (cy 0, 9, .inl (fun j => nI j))), (p2, .inl (cy 2, 9, .inl (fun _ => 0))), (p8, .inl (cy 2, 24, .inl (fun _ => 0))), (sJ, .inr (5, [.ref j1, .ref j2, .ref j3, .ref jL, .int 0])), (jL, .inl (cy 0, 9, .inl (fun j => nI j)))] := hD
              refine lv_aload_n hx hb dX4_hang_112 rfl (lv_at hl 0 rfl) ?_
              refine va_get (D := D) (ci := 7) (v := .ref vC) (C := RX4) (T := TX4) (N := 14) hx hb hts iRX4 hown hK hP 0 rfl rfl 0 (by decide) (hts _ q35) (fun _ h9 => h9) rfl dX4_hang_113 ?_
              refine va_get (D := D) (ci := 3) (v := .int 0) (C := RX0) (T := TX0) (N := 4) hx hb hts iRX0 hown hK hP 1 rfl rfl 2 (by decide) (hts _ q82) (fun _ h9 => h9) rfl dX4_hang_116 ?_
              refine lv_if_le (tgt := 134) hx hb dX4_hang_119 (by decide) (fun _ => ?_) (fun c_119_6 => absurd (by decide +kernel) c_119_6)
              refine lv_iconst (v := 1) hx hb dX4_hang_134 (by decide) ?_
              refine lv_istore_n (lv' := [(3, .int 1), (0, .ref h0), (1, .int day), (2, .int lo)]) hx hb dX4_hang_135 rfl hl (by decide) rfl (fun ls hl => ?_)
              refine lv_iconst (v := 0) hx hb dX4_hang_136 (by decide) ?_
              refine lv_istore (lv' := [(4, .int 0), (3, .int 1), (0, .ref h0), (1, .int day), (2, .int lo)]) hx hb dX4_hang_137 hl (by decide) rfl (fun ls hl => ?_)
              refine lv_iload hx hb dX4_hang_139 (lv_at hl 0 rfl) ?_
              refine lv_bipush (v := 9) hx hb dX4_hang_141 (by decide) ?_
              refine lv_icmp_ge (tgt := 161) hx hb dX4_hang_143 (by decide) (fun c_143_7 => absurd c_143_7 (by decide +kernel)) (fun _ => ?_)
              refine lv_iload_n hx hb dX4_hang_146 rfl (lv_at hl 1 rfl) ?_
              refine lv_if_eq (tgt := 161) hx hb dX4_hang_147 (by decide) (fun c_147_8 => absurd c_147_8 (by decide +kernel)) (fun _ => ?_)
              refine lv_aload_n hx hb dX4_hang_150 rfl (lv_at hl 2 rfl) ?_
              refine zq_i (wc := [(h0, .inr (7, [.ref vC, .ref p1, .ref p2, .ref p3, .ref p4, .ref p5, .ref p6, .ref p7, .int e1, .long e2, .ref p8, .int 0, .int x2, .long x3])), (vC, .inr (3, [.ref sS, .ref sJ, .int 0, .int 0]))]) (wr := [(p1, .inl (cy 0, 9, .inl (fun j => nI j))), (p2, .inl (cy 2, 9, .inl (fun _ => 0))), (p8, .inl (cy 2, 24, .inl (fun _ => 0))), (sJ, .inr (5, [.ref j1, .ref j2, .ref j3, .ref jL, .int 0])), (jL, .inl (cy 0, 9, .inl (fun j => nI j)))]) (va_runV (As := []) (rest := []) ⟨hx, hb, hml, hown, hts⟩ (k_hangMore l D cy h0 vC p1 p2 p3 p4 p5 p6 p7 p8 e1 e2 0 x2 x3 sS sJ H.size ) (cwV 0 hts (gzV (gz q84) q83 q85 q86 q87) rfl rfl rfl vX4_hangMore ⟨Nat.le_of_ble_eq_true rfl, Nat.le_of_ble_eq_true rfl⟩) (zpV (ci := 7) (T := TX4) (N := 14) (q0 := 0) hK hX hY hP hD hS hA [0, 1] (by decide) rfl rfl rfl) rfl rfl hl.1 rfl (lv_room (Nat.le_of_ble_eq_true rfl)) dX4_hang_151 ⟨Nat.le_of_ble_eq_true rfl, Nat.le_of_ble_eq_true rfl⟩) hP hD hS hA [0, 1] [2, 3, 4, 5, 6] rfl rfl (by decide) (by decide) (fun x11 u10 H locs hw hP hD hS => ?_)
              obtain rfl : x11 = 0 := hw
              have hP : va_P D vwCl [(p1, .inl (cy 0, 9, .inl (fun j => nI j))), (p2, .inl (cy 2, 9, .inl (fun _ => 0))), (p8, .inl (cy 2, 24, .inl (fun _ => 0))), (sJ, .inr (5, [.ref j1, .ref j2, .ref j3, .ref jL, .int 0])), (jL, .inl (cy 0, 9, .inl (fun j => nI j))), (h0, .inr (7, [.ref vC, .ref p1, .ref p2, .ref p3, .ref p4, .ref p5, .ref p6, .ref p7, .int e1, .long e2, .ref p8, .int 0, .int x2, .long x3])), (vC, .inr (3, [.ref sS, .ref sJ, .int 0, .int 0]))] H := hP
              have hD : va_D A [(p1, .inl (cy 0, 9, .inl (fun j => nI j))), (p2, .inl (cy 2, 9, .inl (fun _ => 0))), (p8, .inl (cy 2, 24, .inl (fun _ => 0))), (sJ, .inr (5, [.ref j1, .ref j2, .ref j3, .ref jL, .int 0])), (jL, .inl (cy 0, 9, .inl (fun j => nI j))), (h0, .inr (7, [.ref vC, .ref p1, .ref p2, .ref p3, .ref p4, .ref p5, .ref p6, .ref p7, .int e1, .long e2, .ref p8, .int 0, .int x2, .long x3])), (vC, .inr (3, [.ref sS, .ref sJ, .int 0, .int 0]))] := hD
              refine lv_istore_n (lv' := [(3, .int 0), (4, .int 0), (0, .ref h0), (1, .int day), (2, .int lo)]) hx hb dX4_hang_154 rfl hl (by decide) rfl (fun ls hl => ?_)
              refine lv_iinc (v := 1) (lv' := [(4, .int 1), (3, .int 0), (0, .ref h0), (1, .int day), (2, .int lo)]) hx hb dX4_hang_155 hl (k := 1) rfl (by decide) (by decide) rfl (fun ls hl => ?_)
              refine lv_goto (tgt := 139) hx hb dX4_hang_158 (by decide) ?_
              refine lv_iload hx hb dX4_hang_139 (lv_at hl 0 rfl) ?_
              refine lv_bipush (v := 9) hx hb dX4_hang_141 (by decide) ?_
              refine lv_icmp_ge (tgt := 161) hx hb dX4_hang_143 (by decide) (fun c_143_11 => absurd c_143_11 (by decide +kernel)) (fun _ => ?_)
              refine lv_iload_n hx hb dX4_hang_146 rfl (lv_at hl 1 rfl) ?_
              refine lv_if_eq (tgt := 161) hx hb dX4_hang_147 (by decide) (fun _ => ?_) (fun c_147_12 => absurd (by decide +kernel) c_147_12)
              refine lv_aload_n hx hb dX4_hang_161 rfl (lv_at hl 2 rfl) ?_
              refine zq_v (wc := [(h0, .inr (7, [.ref vC, .ref p1, .ref p2, .ref p3, .ref p4, .ref p5, .ref p6, .ref p7, .int e1, .long e2, .ref p8, .int 0, .int x2, .long x3])), (vC, .inr (3, [.ref sS, .ref sJ, .int 0, .int 0]))]) (wr := [(p1, .inl (cy 0, 9, .inl (fun j => nI j))), (p2, .inl (cy 2, 9, .inl (fun _ => 0))), (p8, .inl (cy 2, 24, .inl (fun _ => 0))), (sJ, .inr (5, [.ref j1, .ref j2, .ref j3, .ref jL, .int 0])), (jL, .inl (cy 0, 9, .inl (fun j => nI j)))]) (va_runV (As := []) (rest := []) ⟨hx, hb, hml, hown, hts⟩ (k_keepUseful l D cy h0 vC p1 p2 p3 p4 p5 p6 p7 p8 e1 e2 0 x2 x3 sS sJ H.size ) (cwV 0 hts (gzV (gz q89) q88 q90 q91 q87) rfl rfl rfl vX4_keepUseful ⟨Nat.le_of_ble_eq_true rfl, Nat.le_of_ble_eq_true rfl⟩) (zpV (ci := 7) (T := TX4) (N := 14) (q0 := 0) hK hX hY hP hD hS hA [5, 6] (by decide) rfl rfl rfl) rfl rfl hl.1 rfl (lv_room (Nat.le_of_ble_eq_true rfl)) dX4_hang_162 ⟨Nat.le_of_ble_eq_true rfl, Nat.le_of_ble_eq_true rfl⟩) hP hD hS hA [5, 6] [0, 1, 2, 3, 4] rfl rfl (by decide) (by decide) (fun u14 H locs hw hP hD hS => ?_)
              have hP : va_P D vwCl [(p1, .inl (cy 0, 9, .inl (fun j => nI j))), (p2, .inl (cy 2, 9, .inl (fun _ => 0))), (p8, .inl (cy 2, 24, .inl (fun _ => 0))), (sJ, .inr (5, [.ref j1, .ref j2, .ref j3, .ref jL, .int 0])), (jL, .inl (cy 0, 9, .inl (fun j => nI j))), (h0, .inr (7, [.ref vC, .ref p1, .ref p2, .ref p3, .ref p4, .ref p5, .ref p6, .ref p7, .int e1, .long e2, .ref p8, .int 0, .int 0, .long x3])), (vC, .inr (3, [.ref sS, .ref sJ, .int 0, .int 0]))] H := hP
              have hD : va_D A [(p1, .inl (cy 0, 9, .inl (fun j => nI j))), (p2, .inl (cy 2, 9, .inl (fun _ => 0))), (p8, .inl (cy 2, 24, .inl (fun _ => 0))), (sJ, .inr (5, [.ref j1, .ref j2, .ref j3, .ref jL, .int 0])), (jL, .inl (cy 0, 9, .inl (fun j => nI j))), (h0, .inr (7, [.ref vC, .ref p1, .ref p2, .ref p3, .ref p4, .ref p5, .ref p6, .ref p7, .int e1, .long e2, .ref p8, .int 0, .int 0, .long x3])), (vC, .inr (3, [.ref sS, .ref sJ, .int 0, .int 0]))] := hD
              have hP9 := hP.sub (ws' := [(h0, .inr (7, [.ref vC, .ref p1, .ref p2, .ref p3, .ref p4, .ref p5, .ref p6, .ref p7, .int e1, .long e2, .ref p8, .int 0, .int 0, .long x3])), (vC, .inr (3, [.ref sS, .ref sJ, .int 0, .int 0])), (sJ, .inr (5, [.ref j1, .ref j2, .ref j3, .ref jL, .int 0])), (jL, .inl (cy 0, 9, .inl (fun j => nI j))), (p1, .inl (cy 0, 9, .inl (fun j => nI j))), (p2, .inl (cy 2, 9, .inl (fun _ => 0))), (p8, .inl (cy 2, 24, .inl (fun _ => 0)))]) [5, 6, 3, 4, 0, 1, 2] rfl
              have hD9 := hD.sub (ws' := [(h0, .inr (7, [.ref vC, .ref p1, .ref p2, .ref p3, .ref p4, .ref p5, .ref p6, .ref p7, .int e1, .long e2, .ref p8, .int 0, .int 0, .long x3])), (vC, .inr (3, [.ref sS, .ref sJ, .int 0, .int 0])), (sJ, .inr (5, [.ref j1, .ref j2, .ref j3, .ref jL, .int 0])), (jL, .inl (cy 0, 9, .inl (fun j => nI j))), (p1, .inl (cy 0, 9, .inl (fun j => nI j))), (p2, .inl (cy 2, 9, .inl (fun _ => 0))), (p8, .inl (cy 2, 24, .inl (fun _ => 0)))]) [5, 6, 3, 4, 0, 1, 2] (by decide) rfl
              refine W.widen (k := 0) (n := 0) (Nat.le_of_ble_eq_true rfl) (Nat.le_of_ble_eq_true rfl) ?_
              rw [hQe]
              exact W.vret hx hb hr (fun t ht hW => ⟨⟨(), rfl, trivial, ⟨by rw [ht]; exact hP9, hD9⟩⟩, hS.F ht⟩) hS.2.2 dX4_hang_165
            · skip
              have hlti : i < 24 := z_lt (N := 24) (by decide) hii (by decide) c_55_5
              refine lv_aload_n hx hb dX4_hang_58 rfl (lv_at hl 0 rfl) ?_
              refine va_get (D := D) (ci := 7) (v := .ref p8) (C := RX4) (T := TX4) (N := 14) hx hb hts iRX4 hown hK hP 0 rfl rfl 10 (by decide) (hts _ q52) (fun _ h9 => h9) rfl dX4_hang_59 ?_
              refine lv_iload_n hx hb dX4_hang_62 rfl (lv_at hl 3 rfl) ?_
              refine lv_iload_n hx hb dX4_hang_63 rfl (lv_at hl 3 rfl) ?_
              refine lv_aload_n hx hb dX4_hang_64 rfl (lv_at hl 0 rfl) ?_
              refine va_get (D := D) (ci := 7) (v := .ref vC) (C := RX4) (T := TX4) (N := 14) hx hb hts iRX4 hown hK hP 0 rfl rfl 0 (by decide) (hts _ q35) (fun _ h9 => h9) rfl dX4_hang_65 ?_
              refine va_get (D := D) (ci := 3) (v := .int 0) (C := RX0) (T := TX0) (N := 4) hx hb hts iRX0 hown hK hP 1 rfl rfl 3 (by decide) (hts _ q75) (fun _ h9 => h9) rfl dX4_hang_68 ?_
              refine lv_icmp_ge (tgt := 99) hx hb dX4_hang_71 (by decide) (fun _ => ?_) (fun c_71_15 => absurd (nI_pos' (by omega)) c_71_15)
              refine lv_iconst (v := 0) hx hb dX4_hang_99 (by decide) ?_
              refine va_zast hx hb hK hP hD hS 4 2 rfl rfl (vp_in_nI (by omega) (by decide)) dX4_hang_100 (fun H locs hP hD hS => ?_)
              have hP : va_P D vwCl [(h0, .inr (7, [.ref vC, .ref p1, .ref p2, .ref p3, .ref p4, .ref p5, .ref p6, .ref p7, .int e1, .long e2, .ref p8, .int x1, .int x2, .long x3])), (vC, .inr (3, [.ref sS, .ref sJ, .int 0, .int 0])), (p1, .inl (cy 0, 9, .inl (fun j => nI j))), (p2, .inl (cy 2, 9, .inl (fun _ => 0))), (p8, .inl (cy 2, 24, .inl (upd g3 (nI i).toNatClampNeg (vp_nar .boolean 0)))), (sJ, .inr (5, [.ref j1, .ref j2, .ref j3, .ref jL, .int 0])), (jL, .inl (cy 0, 9, .inl (fun j => nI j)))] H := hP
              have hD : va_D A [(h0, .inr (7, [.ref vC, .ref p1, .ref p2, .ref p3, .ref p4, .ref p5, .ref p6, .ref p7, .int e1, .long e2, .ref p8, .int x1, .int x2, .long x3])), (vC, .inr (3, [.ref sS, .ref sJ, .int 0, .int 0])), (p1, .inl (cy 0, 9, .inl (fun j => nI j))), (p2, .inl (cy 2, 9, .inl (fun _ => 0))), (p8, .inl (cy 2, 24, .inl (upd g3 (nI i).toNatClampNeg (vp_nar .boolean 0)))), (sJ, .inr (5, [.ref j1, .ref j2, .ref j3, .ref jL, .int 0])), (jL, .inl (cy 0, 9, .inl (fun j => nI j)))] := hD
              refine lv_iinc (v := (nI (i + 1))) (lv' := [(3, .int (nI (i + 1))), (0, .ref h0), (1, .int day), (2, .int lo)]) hx hb dX4_hang_101 hl (k := 3) rfl (z_n1 i) (by decide) rfl (fun ls hl => ?_)
              refine lv_goto (tgt := 52) hx hb dX4_hang_104 (by decide) ?_
              exact ih52 (i + 1) (by omega) (by omega) _ (z_up (by omega) hg3 rfl) _ _ (hP.sub [0, 1, 2, 3, 4, 5, 6] rfl) (hD.sub [0, 1, 2, 3, 4, 5, 6] (by decide) rfl) hS ls (lv_sub hl [1, 2, 3, 0] rfl)
        exact lp52_5 (24 + 1) 0 (by decide) (by decide) _ z_nil _ _ hP hD hS ls (lv_sub hl [1, 2, 3, 0] rfl)
      · skip
        have hlti : i < 9 := z_lt (N := 9) (by decide) hii (by decide) c_16_3
        refine lv_aload_n hx hb dX4_hang_19 rfl (lv_at hl 0 rfl) ?_
        refine va_get (D := D) (ci := 7) (v := .ref p1) (C := RX4) (T := TX4) (N := 14) hx hb hts iRX4 hown hK hP 0 rfl rfl 1 (by decide) (hts _ q36) (fun _ h9 => h9) rfl dX4_hang_20 ?_
        refine lv_iload_n hx hb dX4_hang_23 rfl (lv_at hl 3 rfl) ?_
        refine lv_aload_n hx hb dX4_hang_24 rfl (lv_at hl 0 rfl) ?_
        refine va_get (D := D) (ci := 7) (v := .ref vC) (C := RX4) (T := TX4) (N := 14) hx hb hts iRX4 hown hK hP 0 rfl rfl 0 (by decide) (hts _ q35) (fun _ h9 => h9) rfl dX4_hang_25 ?_
        refine va_get (D := D) (ci := 3) (v := .ref sJ) (C := RX0) (T := TX0) (N := 4) hx hb hts iRX0 hown hK hP 1 rfl rfl 1 (by decide) (hts _ q77) (fun _ h9 => h9) rfl dX4_hang_28 ?_
        refine va_get (D := D) (ci := 5) (v := .ref jL) (C := RX2) (T := TX2) (N := 5) hx hb hts iRX2 hown hK hP 5 rfl rfl 3 (by decide) (hts _ q92) (fun _ h9 => h9) rfl dX4_hang_31 ?_
        refine lv_iload_n hx hb dX4_hang_34 rfl (lv_at hl 3 rfl) ?_
        refine va_iald hx hb hK hP 6 0 rfl rfl (vp_in_nI (by omega) (by decide)) dX4_hang_35 ?_
        refine lv_topi (fun y17 ey17 => ?_)
        obtain rfl : y17 = (nI i) := ey17.trans (congrArg nI (nI_clamp (by omega)))
        refine va_iast hx hb hK hP hD hS 2 0 rfl rfl (vp_in_nI (by omega) (by decide)) dX4_hang_36 (fun H locs hP hD hS => ?_)
        have hP : va_P D vwCl [(h0, .inr (7, [.ref vC, .ref p1, .ref p2, .ref p3, .ref p4, .ref p5, .ref p6, .ref p7, .int e1, .long e2, .ref p8, .int x1, .int x2, .long x3])), (vC, .inr (3, [.ref sS, .ref sJ, .int 0, .int 0])), (p1, .inl (cy 0, 9, .inl (upd g1 (nI i).toNatClampNeg (nI i)))), (p2, .inl (cy 2, 9, .inl g2)), (p8, .inl (cy 2, 24, .inl f3)), (sJ, .inr (5, [.ref j1, .ref j2, .ref j3, .ref jL, .int 0])), (jL, .inl (cy 0, 9, .inl (fun j => nI j)))] H := hP
        have hD : va_D A [(h0, .inr (7, [.ref vC, .ref p1, .ref p2, .ref p3, .ref p4, .ref p5, .ref p6, .ref p7, .int e1, .long e2, .ref p8, .int x1, .int x2, .long x3])), (vC, .inr (3, [.ref sS, .ref sJ, .int 0, .int 0])), (p1, .inl (cy 0, 9, .inl (upd g1 (nI i).toNatClampNeg (nI i)))), (p2, .inl (cy 2, 9, .inl g2)), (p8, .inl (cy 2, 24, .inl f3)), (sJ, .inr (5, [.ref j1, .ref j2, .ref j3, .ref jL, .int 0])), (jL, .inl (cy 0, 9, .inl (fun j => nI j)))] := hD
        refine lv_aload_n hx hb dX4_hang_37 rfl (lv_at hl 0 rfl) ?_
        refine va_get (D := D) (ci := 7) (v := .ref p2) (C := RX4) (T := TX4) (N := 14) hx hb hts iRX4 hown hK hP 0 rfl rfl 2 (by decide) (hts _ q38) (fun _ h9 => h9) rfl dX4_hang_38 ?_
        refine lv_iload_n hx hb dX4_hang_41 rfl (lv_at hl 3 rfl) ?_
        refine lv_iconst (v := 0) hx hb dX4_hang_42 (by decide) ?_
        refine va_zast hx hb hK hP hD hS 3 2 rfl rfl (vp_in_nI (by omega) (by decide)) dX4_hang_43 (fun H locs hP hD hS => ?_)
        have hP : va_P D vwCl [(h0, .inr (7, [.ref vC, .ref p1, .ref p2, .ref p3, .ref p4, .ref p5, .ref p6, .ref p7, .int e1, .long e2, .ref p8, .int x1, .int x2, .long x3])), (vC, .inr (3, [.ref sS, .ref sJ, .int 0, .int 0])), (p1, .inl (cy 0, 9, .inl (upd g1 (nI i).toNatClampNeg (nI i)))), (p2, .inl (cy 2, 9, .inl (upd g2 (nI i).toNatClampNeg (vp_nar .boolean 0)))), (p8, .inl (cy 2, 24, .inl f3)), (sJ, .inr (5, [.ref j1, .ref j2, .ref j3, .ref jL, .int 0])), (jL, .inl (cy 0, 9, .inl (fun j => nI j)))] H := hP
        have hD : va_D A [(h0, .inr (7, [.ref vC, .ref p1, .ref p2, .ref p3, .ref p4, .ref p5, .ref p6, .ref p7, .int e1, .long e2, .ref p8, .int x1, .int x2, .long x3])), (vC, .inr (3, [.ref sS, .ref sJ, .int 0, .int 0])), (p1, .inl (cy 0, 9, .inl (upd g1 (nI i).toNatClampNeg (nI i)))), (p2, .inl (cy 2, 9, .inl (upd g2 (nI i).toNatClampNeg (vp_nar .boolean 0)))), (p8, .inl (cy 2, 24, .inl f3)), (sJ, .inr (5, [.ref j1, .ref j2, .ref j3, .ref jL, .int 0])), (jL, .inl (cy 0, 9, .inl (fun j => nI j)))] := hD
        refine lv_iinc (v := (nI (i + 1))) (lv' := [(3, .int (nI (i + 1))), (0, .ref h0), (1, .int day), (2, .int lo)]) hx hb dX4_hang_44 hl (k := 3) rfl (z_n1 i) (by decide) rfl (fun ls hl => ?_)
        refine lv_goto (tgt := 13) hx hb dX4_hang_47 (by decide) ?_
        exact ih13 (i + 1) (by omega) (by omega) _ _ (z_up (by omega) hg1 rfl) (z_up (by omega) hg2 rfl) _ _ (hP.sub [0, 1, 2, 3, 4, 5, 6] rfl) (hD.sub [0, 1, 2, 3, 4, 5, 6] (by decide) rfl) hS ls (lv_sub hl [1, 2, 3, 0] rfl)
  exact lp13_3 (9 + 1) 0 (by decide) (by decide) _ _ z_nil z_nil _ _ hP hD hS ls (lv_sub hl [1, 2, 3, 0] rfl)
set_option maxHeartbeats 4000000 in
set_option maxRecDepth 100000 in
/-- giveRows, nothing hung: no row is given -/
theorem k_giveRows0 (l : Launch) (D : va_G) (cy : Nat → ClassId) (h0 : Nat) (vC : Nat) (p1 : Nat) (p2 : Nat) (p3 : Nat) (p4 : Nat) (p5 : Nat) (p6 : Nat) (p7 : Nat) (p8 : Nat) (e1 : Int32) (e2 : Int64) (x1 : Int32) (x2 : Int32) (x3 : Int64) (sz : Nat)  : Met l yX4_giveRows (wz yX4_giveRows cX4_giveRows 5 none) ({ frames := 0, cells := 0, slots := 0, locals := 0 } : Room) (va_Pc [.ref h0, .int 0] (zPre vwCl D cy [(h0, .inr (7, [.ref vC, .ref p1, .ref p2, .ref p3, .ref p4, .ref p5, .ref p6, .ref p7, .int e1, .long e2, .ref p8, .int x1, .int x2, .long x3])), (p2, .inl (cy 2, 9, .inl (fun _ => 0))), (p3, .inl (cy 0, 9, .inl (fun _ => 0)))] sz)) (va_Qv (fun _ : Unit => True) (fun (u : Unit) t => zPost vwCl D (va_A [(h0, .inr (7, [.ref vC, .ref p1, .ref p2, .ref p3, .ref p4, .ref p5, .ref p6, .ref p7, .int e1, .long e2, .ref p8, .int x1, .int x2, .long x3])), (p2, .inl (cy 2, 9, .inl (fun _ => 0))), (p3, .inl (cy 0, 9, .inl (fun _ => 0)))] sz) [(h0, .inr (7, [.ref vC, .ref p1, .ref p2, .ref p3, .ref p4, .ref p5, .ref p6, .ref p7, .int e1, .long e2, .ref p8, .int x1, .int x2, .long x3])), (p2, .inl (cy 2, 9, .inl (fun _ => 0))), (p3, .inl (cy 0, 9, .inl (fun _ => (-1))))] t) (va_A [(h0, .inr (7, [.ref vC, .ref p1, .ref p2, .ref p3, .ref p4, .ref p5, .ref p6, .ref p7, .int e1, .long e2, .ref p8, .int x1, .int x2, .long x3])), (p2, .inl (cy 2, 9, .inl (fun _ => 0))), (p3, .inl (cy 0, 9, .inl (fun _ => 0)))] sz)) 0 0 (va_A [(h0, .inr (7, [.ref vC, .ref p1, .ref p2, .ref p3, .ref p4, .ref p5, .ref p6, .ref p7, .int e1, .long e2, .ref p8, .int x1, .int x2, .long x3])), (p2, .inl (cy 2, 9, .inl (fun _ => 0))), (p3, .inl (cy 0, 9, .inl (fun _ => 0)))] sz) := by
  refine Met.ofW (cc := cX4_giveRows) (maxL := 5) (ret := none) (by decide) rfl ?_
  intro p e s m args below meth c s₁ B hml hv
  obtain ⟨rfl, hsz, hP, hK, hD0, hX, hY⟩ := hv
  have hx := B.exec
  have hb := B.bytes
  have hr := B.returns
  have hts0 := atoms_spec (ws := wz yX4_giveRows cX4_giveRows 5 none) B.pre
  have hts : ∀ w ∈ wAll, w.before _ s = true := fun w h => hts0 w (List.mem_cons_of_mem _ h)
  have hown : s.vm.findClass RX4 = some m.cls := findClass_of_methodNamed B.named
  have hlocks := B.notSynchronized
  subst hsz
  have hD := hD0.self (sz := s.heap.size)
  generalize hAe : va_A [(h0, .inr (7, [.ref vC, .ref p1, .ref p2, .ref p3, .ref p4, .ref p5, .ref p6, .ref p7, .int e1, .long e2, .ref p8, .int x1, .int x2, .long x3])), (p2, .inl (cy 2, 9, .inl (fun _ => 0))), (p3, .inl (cy 0, 9, .inl (fun _ => 0)))] s.heap.size = A at hD hY ⊢
  have hA : ∀ q : Nat, s.heap.size ≤ q → A q := fun q h => by rw [← hAe]; exact Or.inr h
  have hS : va_S A s.heap s.heap [] := va_S.rf
  have hP : va_P D vwCl [(h0, .inr (7, [.ref vC, .ref p1, .ref p2, .ref p3, .ref p4, .ref p5, .ref p6, .ref p7, .int e1, .long e2, .ref p8, .int x1, .int x2, .long x3])), (p2, .inl (cy 2, 9, .inl (fun _ => 0))), (p3, .inl (cy 0, 9, .inl (fun _ => 0)))] s.heap := hP
  have hl := lv_entry ([.ref h0, .int 0]) (n := 5) (Nat.le_of_ble_eq_true rfl)
  rw [lg_entry_eq]
  generalize (lg_sl ([.ref h0, .int 0]) ++ List.replicate (5 - (lg_sl ([.ref h0, .int 0])).length) Slot.unset).toArray = ls at hl ⊢
  have hl : lv_has ls 5 [(0, .ref h0), (1, .int 0)] := hl
  refine z_anyQ (fun Q hQe => ?_)
  refine lv_iconst (v := 0) hx hb dX4_giveRows_0 (by decide) ?_
  refine lv_istore_n (lv' := [(2, .int 0), (0, .ref h0), (1, .int 0)]) hx hb dX4_giveRows_1 rfl hl (by decide) rfl (fun ls hl => ?_)
  refine lv_iconst (v := 0) hx hb dX4_giveRows_2 (by decide) ?_
  refine lv_istore_n (lv' := [(3, .int 0), (2, .int 0), (0, .ref h0), (1, .int 0)]) hx hb dX4_giveRows_3 rfl hl (by decide) rfl (fun ls hl => ?_)
  have lp4_1 : ∀ (n i : Nat), i ≤ 9 → 9 + 1 ≤ i + n → ∀ (g : Nat → Int32) (hg : ∀ j, j < i → g j = (-1)) (H : Heap) (locs : List Loc), va_P D vwCl [(h0, .inr (7, [.ref vC, .ref p1, .ref p2, .ref p3, .ref p4, .ref p5, .ref p6, .ref p7, .int e1, .long e2, .ref p8, .int x1, .int x2, .long x3])), (p2, .inl (cy 2, 9, .inl (fun _ => 0))), (p3, .inl (cy 0, 9, .inl g))] H → va_D A [(h0, .inr (7, [.ref vC, .ref p1, .ref p2, .ref p3, .ref p4, .ref p5, .ref p6, .ref p7, .int e1, .long e2, .ref p8, .int x1, .int x2, .long x3])), (p2, .inl (cy 2, 9, .inl (fun _ => 0))), (p3, .inl (cy 0, 9, .inl g))] → va_S A s.heap H locs → ∀ ls, lv_has ls 5 [(0, .ref h0), (1, .int 0), (2, .int 0), (3, .int (nI i))] → W p l e (headSpec (wz yX4_giveRows cX4_giveRows 5 none) ({ frames := 0, cells := 0, slots := 0, locals := 0 } : Room)).room s m ([.ref h0, .int 0] : List Value).toArray below meth c H locs 0 0 Q (F0 m 4 ls []) := by
    intro n
    induction n with
    | zero => intro i h1 h2; exact absurd h2 (by omega)
    | succ n ih4 =>
      intro i hii hni g hg H locs hP hD hS ls hl
      refine lv_iload_n hx hb dX4_giveRows_4 rfl (lv_at hl 3 rfl) ?_
      refine lv_bipush (v := 9) hx hb dX4_giveRows_5 (by decide) ?_
      refine lv_icmp_ge (tgt := 70) hx hb dX4_giveRows_7 (by decide) (fun c_7_1 => ?_) (fun c_7_1 => ?_)
      · skip
        have hE : i = 9 := z_ge (N := 9) (by decide) hii (by decide) c_7_1
        subst hE
        have hl : lv_has ls 5 [(0, .ref h0), (1, .int 0), (2, .int 0), (3, .int 9)] := hl
        obtain ⟨hP, hD⟩ := zP_i (fun _ => (-1)) hP hD (q := 2) rfl hg
        have hP : va_P D vwCl [(h0, .inr (7, [.ref vC, .ref p1, .ref p2, .ref p3, .ref p4, .ref p5, .ref p6, .ref p7, .int e1, .long e2, .ref p8, .int x1, .int x2, .long x3])), (p2, .inl (cy 2, 9, .inl (fun _ => 0))), (p3, .inl (cy 0, 9, .inl (fun _ => (-1))))] H := hP
        have hD : va_D A [(h0, .inr (7, [.ref vC, .ref p1, .ref p2, .ref p3, .ref p4, .ref p5, .ref p6, .ref p7, .int e1, .long e2, .ref p8, .int x1, .int x2, .long x3])), (p2, .inl (cy 2, 9, .inl (fun _ => 0))), (p3, .inl (cy 0, 9, .inl (fun _ => (-1))))] := hD
        have hP9 := hP.sub (ws' := [(h0, .inr (7, [.ref vC, .ref p1, .ref p2, .ref p3, .ref p4, .ref p5, .ref p6, .ref p7, .int e1, .long e2, .ref p8, .int x1, .int x2, .long x3])), (p2, .inl (cy 2, 9, .inl (fun _ => 0))), (p3, .inl (cy 0, 9, .inl (fun _ => (-1))))]) [0, 1, 2] rfl
        have hD9 := hD.sub (ws' := [(h0, .inr (7, [.ref vC, .ref p1, .ref p2, .ref p3, .ref p4, .ref p5, .ref p6, .ref p7, .int e1, .long e2, .ref p8, .int x1, .int x2, .long x3])), (p2, .inl (cy 2, 9, .inl (fun _ => 0))), (p3, .inl (cy 0, 9, .inl (fun _ => (-1))))]) [0, 1, 2] (by decide) rfl
        refine W.widen (k := 0) (n := 0) (Nat.le_of_ble_eq_true rfl) (Nat.le_of_ble_eq_true rfl) ?_
        rw [hQe]
        exact W.vret hx hb hr (fun t ht hW => ⟨⟨(), rfl, trivial, ⟨by rw [ht]; exact hP9, hD9⟩⟩, hS.F ht⟩) hS.2.2 dX4_giveRows_70
      · skip
        have hlti : i < 9 := z_lt (N := 9) (by decide) hii (by decide) c_7_1
        refine lv_iload_n hx hb dX4_giveRows_10 rfl (lv_at hl 1 rfl) ?_
        refine lv_if_eq (tgt := 21) hx hb dX4_giveRows_11 (by decide) (fun _ => ?_) (fun c_11_2 => absurd (by decide +kernel) c_11_2)
        refine lv_iload_n hx hb dX4_giveRows_21 rfl (lv_at hl 3 rfl) ?_
        refine lv_istore (lv' := [(4, .int (nI i)), (0, .ref h0), (1, .int 0), (2, .int 0), (3, .int (nI i))]) hx hb dX4_giveRows_22 hl (by decide) rfl (fun ls hl => ?_)
        refine lv_aload_n hx hb dX4_giveRows_24 rfl (lv_at hl 1 rfl) ?_
        refine va_get (D := D) (ci := 7) (v := .ref p3) (C := RX4) (T := TX4) (N := 14) hx hb hts iRX4 hown hK hP 0 rfl rfl 3 (by decide) (hts _ q39) (fun _ h9 => h9) rfl dX4_giveRows_25 ?_
        refine lv_iload hx hb dX4_giveRows_28 (lv_at hl 0 rfl) ?_
        refine lv_iconst (v := (-1)) hx hb dX4_giveRows_30 (by decide) ?_
        refine va_iast hx hb hK hP hD hS 2 0 rfl rfl (vp_in_nI (by omega) (by decide)) dX4_giveRows_31 (fun H locs hP hD hS => ?_)
        have hP : va_P D vwCl [(h0, .inr (7, [.ref vC, .ref p1, .ref p2, .ref p3, .ref p4, .ref p5, .ref p6, .ref p7, .int e1, .long e2, .ref p8, .int x1, .int x2, .long x3])), (p2, .inl (cy 2, 9, .inl (fun _ => 0))), (p3, .inl (cy 0, 9, .inl (upd g (nI i).toNatClampNeg (-1))))] H := hP
        have hD : va_D A [(h0, .inr (7, [.ref vC, .ref p1, .ref p2, .ref p3, .ref p4, .ref p5, .ref p6, .ref p7, .int e1, .long e2, .ref p8, .int x1, .int x2, .long x3])), (p2, .inl (cy 2, 9, .inl (fun _ => 0))), (p3, .inl (cy 0, 9, .inl (upd g (nI i).toNatClampNeg (-1))))] := hD
        refine lv_iload hx hb dX4_giveRows_32 (lv_at hl 0 rfl) ?_
        refine lv_if_eq (tgt := 64) hx hb dX4_giveRows_34 (by decide) (fun c_34_3 => ?_) (fun c_34_3 => ?_)
        · skip
          refine lv_iinc (v := (nI (i + 1))) (lv' := [(3, .int (nI (i + 1))), (4, .int (nI i)), (0, .ref h0), (1, .int 0), (2, .int 0)]) hx hb dX4_giveRows_64 hl (k := 4) rfl (z_n1 i) (by decide) rfl (fun ls hl => ?_)
          refine lv_goto (tgt := 4) hx hb dX4_giveRows_67 (by decide) ?_
          exact ih4 (i + 1) (by omega) (by omega) _ (z_up (by omega) hg rfl) _ _ (hP.sub [0, 1, 2] rfl) (hD.sub [0, 1, 2] (by decide) rfl) hS ls (lv_sub hl [2, 3, 4, 0] rfl)
        · skip
          refine lv_aload_n hx hb dX4_giveRows_37 rfl (lv_at hl 1 rfl) ?_
          refine va_get (D := D) (ci := 7) (v := .ref p2) (C := RX4) (T := TX4) (N := 14) hx hb hts iRX4 hown hK hP 0 rfl rfl 2 (by decide) (hts _ q38) (fun _ h9 => h9) rfl dX4_giveRows_38 ?_
          refine lv_iload hx hb dX4_giveRows_41 (lv_at hl 0 rfl) ?_
          refine va_zald hx hb hK hP 1 2 rfl rfl (vp_in_nI (by omega) (by decide)) dX4_giveRows_43 ?_
          refine lv_topi (fun y5 ey5 => ?_)
          obtain rfl : y5 = 0 := ey5.trans rfl
          refine lv_if_eq (tgt := 64) hx hb dX4_giveRows_44 (by decide) (fun _ => ?_) (fun c_44_5 => absurd (by decide +kernel) c_44_5)
          refine lv_iinc (v := (nI (i + 1))) (lv' := [(3, .int (nI (i + 1))), (4, .int (nI i)), (0, .ref h0), (1, .int 0), (2, .int 0)]) hx hb dX4_giveRows_64 hl (k := 4) rfl (z_n1 i) (by decide) rfl (fun ls hl => ?_)
          refine lv_goto (tgt := 4) hx hb dX4_giveRows_67 (by decide) ?_
          exact ih4 (i + 1) (by omega) (by omega) _ (z_up (by omega) hg rfl) _ _ (hP.sub [0, 1, 2] rfl) (hD.sub [0, 1, 2] (by decide) rfl) hS ls (lv_sub hl [2, 3, 4, 0] rfl)
  exact lp4_1 (9 + 1) 0 (by decide) (by decide) _ z_nil _ _ hP hD hS ls (lv_sub hl [2, 3, 1, 0] rfl)
set_option maxHeartbeats 4000000 in
set_option maxRecDepth 100000 in
/-- giveRows, nothing hung: no row is given -/
theorem k_giveRows1 (l : Launch) (D : va_G) (cy : Nat → ClassId) (h0 : Nat) (vC : Nat) (p1 : Nat) (p2 : Nat) (p3 : Nat) (p4 : Nat) (p5 : Nat) (p6 : Nat) (p7 : Nat) (p8 : Nat) (e1 : Int32) (e2 : Int64) (x1 : Int32) (x2 : Int32) (x3 : Int64) (sz : Nat)  : Met l yX4_giveRows (wz yX4_giveRows cX4_giveRows 5 none) ({ frames := 0, cells := 0, slots := 0, locals := 0 } : Room) (va_Pc [.ref h0, .int 1] (zPre vwCl D cy [(h0, .inr (7, [.ref vC, .ref p1, .ref p2, .ref p3, .ref p4, .ref p5, .ref p6, .ref p7, .int e1, .long e2, .ref p8, .int x1, .int x2, .long x3])), (p2, .inl (cy 2, 9, .inl (fun _ => 0))), (p3, .inl (cy 0, 9, .inl (fun _ => 0)))] sz)) (va_Qv (fun _ : Unit => True) (fun (u : Unit) t => zPost vwCl D (va_A [(h0, .inr (7, [.ref vC, .ref p1, .ref p2, .ref p3, .ref p4, .ref p5, .ref p6, .ref p7, .int e1, .long e2, .ref p8, .int x1, .int x2, .long x3])), (p2, .inl (cy 2, 9, .inl (fun _ => 0))), (p3, .inl (cy 0, 9, .inl (fun _ => 0)))] sz) [(h0, .inr (7, [.ref vC, .ref p1, .ref p2, .ref p3, .ref p4, .ref p5, .ref p6, .ref p7, .int e1, .long e2, .ref p8, .int x1, .int x2, .long x3])), (p2, .inl (cy 2, 9, .inl (fun _ => 0))), (p3, .inl (cy 0, 9, .inl (fun _ => (-1))))] t) (va_A [(h0, .inr (7, [.ref vC, .ref p1, .ref p2, .ref p3, .ref p4, .ref p5, .ref p6, .ref p7, .int e1, .long e2, .ref p8, .int x1, .int x2, .long x3])), (p2, .inl (cy 2, 9, .inl (fun _ => 0))), (p3, .inl (cy 0, 9, .inl (fun _ => 0)))] sz)) 0 0 (va_A [(h0, .inr (7, [.ref vC, .ref p1, .ref p2, .ref p3, .ref p4, .ref p5, .ref p6, .ref p7, .int e1, .long e2, .ref p8, .int x1, .int x2, .long x3])), (p2, .inl (cy 2, 9, .inl (fun _ => 0))), (p3, .inl (cy 0, 9, .inl (fun _ => 0)))] sz) := by
  refine Met.ofW (cc := cX4_giveRows) (maxL := 5) (ret := none) (by decide) rfl ?_
  intro p e s m args below meth c s₁ B hml hv
  obtain ⟨rfl, hsz, hP, hK, hD0, hX, hY⟩ := hv
  have hx := B.exec
  have hb := B.bytes
  have hr := B.returns
  have hts0 := atoms_spec (ws := wz yX4_giveRows cX4_giveRows 5 none) B.pre
  have hts : ∀ w ∈ wAll, w.before _ s = true := fun w h => hts0 w (List.mem_cons_of_mem _ h)
  have hown : s.vm.findClass RX4 = some m.cls := findClass_of_methodNamed B.named
  have hlocks := B.notSynchronized
  subst hsz
  have hD := hD0.self (sz := s.heap.size)
  generalize hAe : va_A [(h0, .inr (7, [.ref vC, .ref p1, .ref p2, .ref p3, .ref p4, .ref p5, .ref p6, .ref p7, .int e1, .long e2, .ref p8, .int x1, .int x2, .long x3])), (p2, .inl (cy 2, 9, .inl (fun _ => 0))), (p3, .inl (cy 0, 9, .inl (fun _ => 0)))] s.heap.size = A at hD hY ⊢
  have hA : ∀ q : Nat, s.heap.size ≤ q → A q := fun q h => by rw [← hAe]; exact Or.inr h
  have hS : va_S A s.heap s.heap [] := va_S.rf
  have hP : va_P D vwCl [(h0, .inr (7, [.ref vC, .ref p1, .ref p2, .ref p3, .ref p4, .ref p5, .ref p6, .ref p7, .int e1, .long e2, .ref p8, .int x1, .int x2, .long x3])), (p2, .inl (cy 2, 9, .inl (fun _ => 0))), (p3, .inl (cy 0, 9, .inl (fun _ => 0)))] s.heap := hP
  have hl := lv_entry ([.ref h0, .int 1]) (n := 5) (Nat.le_of_ble_eq_true rfl)
  rw [lg_entry_eq]
  generalize (lg_sl ([.ref h0, .int 1]) ++ List.replicate (5 - (lg_sl ([.ref h0, .int 1])).length) Slot.unset).toArray = ls at hl ⊢
  have hl : lv_has ls 5 [(0, .ref h0), (1, .int 1)] := hl
  refine z_anyQ (fun Q hQe => ?_)
  refine lv_iconst (v := 0) hx hb dX4_giveRows_0 (by decide) ?_
  refine lv_istore_n (lv' := [(2, .int 0), (0, .ref h0), (1, .int 1)]) hx hb dX4_giveRows_1 rfl hl (by decide) rfl (fun ls hl => ?_)
  refine lv_iconst (v := 0) hx hb dX4_giveRows_2 (by decide) ?_
  refine lv_istore_n (lv' := [(3, .int 0), (2, .int 0), (0, .ref h0), (1, .int 1)]) hx hb dX4_giveRows_3 rfl hl (by decide) rfl (fun ls hl => ?_)
  have lp4_1 : ∀ (n i : Nat), i ≤ 9 → 9 + 1 ≤ i + n → ∀ (g : Nat → Int32) (hg : ∀ j, j < 9 → 9 ≤ j + i → g j = (-1)) (H : Heap) (locs : List Loc), va_P D vwCl [(h0, .inr (7, [.ref vC, .ref p1, .ref p2, .ref p3, .ref p4, .ref p5, .ref p6, .ref p7, .int e1, .long e2, .ref p8, .int x1, .int x2, .long x3])), (p2, .inl (cy 2, 9, .inl (fun _ => 0))), (p3, .inl (cy 0, 9, .inl g))] H → va_D A [(h0, .inr (7, [.ref vC, .ref p1, .ref p2, .ref p3, .ref p4, .ref p5, .ref p6, .ref p7, .int e1, .long e2, .ref p8, .int x1, .int x2, .long x3])), (p2, .inl (cy 2, 9, .inl (fun _ => 0))), (p3, .inl (cy 0, 9, .inl g))] → va_S A s.heap H locs → ∀ ls, lv_has ls 5 [(0, .ref h0), (1, .int 1), (2, .int 0), (3, .int (nI i))] → W p l e (headSpec (wz yX4_giveRows cX4_giveRows 5 none) ({ frames := 0, cells := 0, slots := 0, locals := 0 } : Room)).room s m ([.ref h0, .int 1] : List Value).toArray below meth c H locs 0 0 Q (F0 m 4 ls []) := by
    intro n
    induction n with
    | zero => intro i h1 h2; exact absurd h2 (by omega)
    | succ n ih4 =>
      intro i hii hni g hg H locs hP hD hS ls hl
      refine lv_iload_n hx hb dX4_giveRows_4 rfl (lv_at hl 3 rfl) ?_
      refine lv_bipush (v := 9) hx hb dX4_giveRows_5 (by decide) ?_
      refine lv_icmp_ge (tgt := 70) hx hb dX4_giveRows_7 (by decide) (fun c_7_1 => ?_) (fun c_7_1 => ?_)
      · skip
        have hE : i = 9 := z_ge (N := 9) (by decide) hii (by decide) c_7_1
        subst hE
        have hl : lv_has ls 5 [(0, .ref h0), (1, .int 1), (2, .int 0), (3, .int 9)] := hl
        obtain ⟨hP, hD⟩ := zP_i (fun _ => (-1)) hP hD (q := 2) rfl (fun j hj => hg j hj (by omega))
        have hP : va_P D vwCl [(h0, .inr (7, [.ref vC, .ref p1, .ref p2, .ref p3, .ref p4, .ref p5, .ref p6, .ref p7, .int e1, .long e2, .ref p8, .int x1, .int x2, .long x3])), (p2, .inl (cy 2, 9, .inl (fun _ => 0))), (p3, .inl (cy 0, 9, .inl (fun _ => (-1))))] H := hP
        have hD : va_D A [(h0, .inr (7, [.ref vC, .ref p1, .ref p2, .ref p3, .ref p4, .ref p5, .ref p6, .ref p7, .int e1, .long e2, .ref p8, .int x1, .int x2, .long x3])), (p2, .inl (cy 2, 9, .inl (fun _ => 0))), (p3, .inl (cy 0, 9, .inl (fun _ => (-1))))] := hD
        have hP9 := hP.sub (ws' := [(h0, .inr (7, [.ref vC, .ref p1, .ref p2, .ref p3, .ref p4, .ref p5, .ref p6, .ref p7, .int e1, .long e2, .ref p8, .int x1, .int x2, .long x3])), (p2, .inl (cy 2, 9, .inl (fun _ => 0))), (p3, .inl (cy 0, 9, .inl (fun _ => (-1))))]) [0, 1, 2] rfl
        have hD9 := hD.sub (ws' := [(h0, .inr (7, [.ref vC, .ref p1, .ref p2, .ref p3, .ref p4, .ref p5, .ref p6, .ref p7, .int e1, .long e2, .ref p8, .int x1, .int x2, .long x3])), (p2, .inl (cy 2, 9, .inl (fun _ => 0))), (p3, .inl (cy 0, 9, .inl (fun _ => (-1))))]) [0, 1, 2] (by decide) rfl
        refine W.widen (k := 0) (n := 0) (Nat.le_of_ble_eq_true rfl) (Nat.le_of_ble_eq_true rfl) ?_
        rw [hQe]
        exact W.vret hx hb hr (fun t ht hW => ⟨⟨(), rfl, trivial, ⟨by rw [ht]; exact hP9, hD9⟩⟩, hS.F ht⟩) hS.2.2 dX4_giveRows_70
      · skip
        have hlti : i < 9 := z_lt (N := 9) (by decide) hii (by decide) c_7_1
        refine lv_iload_n hx hb dX4_giveRows_10 rfl (lv_at hl 1 rfl) ?_
        refine lv_if_eq (tgt := 21) hx hb dX4_giveRows_11 (by decide) (fun c_11_2 => absurd c_11_2 (by decide +kernel)) (fun _ => ?_)
        refine lv_bipush (v := 8) hx hb dX4_giveRows_14 (by decide) ?_
        refine lv_iload_n hx hb dX4_giveRows_16 rfl (lv_at hl 3 rfl) ?_
        refine lv_isub hx hb dX4_giveRows_17 ?_
        refine lv_topi (fun y4 ey4 => ?_)
        obtain rfl : y4 = (nI (8 - i)) := ey4.trans (pk_sub (a := 8) (by omega))
        refine lv_goto (tgt := 22) hx hb dX4_giveRows_18 (by decide) ?_
        refine lv_istore (lv' := [(4, .int (nI (8 - i))), (0, .ref h0), (1, .int 1), (2, .int 0), (3, .int (nI i))]) hx hb dX4_giveRows_22 hl (by decide) rfl (fun ls hl => ?_)
        refine lv_aload_n hx hb dX4_giveRows_24 rfl (lv_at hl 1 rfl) ?_
        refine va_get (D := D) (ci := 7) (v := .ref p3) (C := RX4) (T := TX4) (N := 14) hx hb hts iRX4 hown hK hP 0 rfl rfl 3 (by decide) (hts _ q39) (fun _ h9 => h9) rfl dX4_giveRows_25 ?_
        refine lv_iload hx hb dX4_giveRows_28 (lv_at hl 0 rfl) ?_
        refine lv_iconst (v := (-1)) hx hb dX4_giveRows_30 (by decide) ?_
        refine va_iast hx hb hK hP hD hS 2 0 rfl rfl (vp_in_nI (by omega) (by decide)) dX4_giveRows_31 (fun H locs hP hD hS => ?_)
        have hP : va_P D vwCl [(h0, .inr (7, [.ref vC, .ref p1, .ref p2, .ref p3, .ref p4, .ref p5, .ref p6, .ref p7, .int e1, .long e2, .ref p8, .int x1, .int x2, .long x3])), (p2, .inl (cy 2, 9, .inl (fun _ => 0))), (p3, .inl (cy 0, 9, .inl (upd g (nI (8 - i)).toNatClampNeg (-1))))] H := hP
        have hD : va_D A [(h0, .inr (7, [.ref vC, .ref p1, .ref p2, .ref p3, .ref p4, .ref p5, .ref p6, .ref p7, .int e1, .long e2, .ref p8, .int x1, .int x2, .long x3])), (p2, .inl (cy 2, 9, .inl (fun _ => 0))), (p3, .inl (cy 0, 9, .inl (upd g (nI (8 - i)).toNatClampNeg (-1))))] := hD
        refine lv_iload hx hb dX4_giveRows_32 (lv_at hl 0 rfl) ?_
        refine lv_if_eq (tgt := 64) hx hb dX4_giveRows_34 (by decide) (fun c_34_4 => ?_) (fun c_34_4 => ?_)
        · skip
          refine lv_iinc (v := (nI (i + 1))) (lv' := [(3, .int (nI (i + 1))), (4, .int (nI (8 - i))), (0, .ref h0), (1, .int 1), (2, .int 0)]) hx hb dX4_giveRows_64 hl (k := 4) rfl (z_n1 i) (by decide) rfl (fun ls hl => ?_)
          refine lv_goto (tgt := 4) hx hb dX4_giveRows_67 (by decide) ?_
          exact ih4 (i + 1) (by omega) (by omega) _ (z_dn hlti hg) _ _ (hP.sub [0, 1, 2] rfl) (hD.sub [0, 1, 2] (by decide) rfl) hS ls (lv_sub hl [2, 3, 4, 0] rfl)
        · skip
          refine lv_aload_n hx hb dX4_giveRows_37 rfl (lv_at hl 1 rfl) ?_
          refine va_get (D := D) (ci := 7) (v := .ref p2) (C := RX4) (T := TX4) (N := 14) hx hb hts iRX4 hown hK hP 0 rfl rfl 2 (by decide) (hts _ q38) (fun _ h9 => h9) rfl dX4_giveRows_38 ?_
          refine lv_iload hx hb dX4_giveRows_41 (lv_at hl 0 rfl) ?_
          refine va_zald hx hb hK hP 1 2 rfl rfl (vp_in_nI (by omega) (by decide)) dX4_giveRows_43 ?_
          refine lv_topi (fun y6 ey6 => ?_)
          obtain rfl : y6 = 0 := ey6.trans rfl
          refine lv_if_eq (tgt := 64) hx hb dX4_giveRows_44 (by decide) (fun _ => ?_) (fun c_44_6 => absurd (by decide +kernel) c_44_6)
          refine lv_iinc (v := (nI (i + 1))) (lv' := [(3, .int (nI (i + 1))), (4, .int (nI (8 - i))), (0, .ref h0), (1, .int 1), (2, .int 0)]) hx hb dX4_giveRows_64 hl (k := 4) rfl (z_n1 i) (by decide) rfl (fun ls hl => ?_)
          refine lv_goto (tgt := 4) hx hb dX4_giveRows_67 (by decide) ?_
          exact ih4 (i + 1) (by omega) (by omega) _ (z_dn hlti hg) _ _ (hP.sub [0, 1, 2] rfl) (hD.sub [0, 1, 2] (by decide) rfl) hS ls (lv_sub hl [2, 3, 4, 0] rfl)
  exact lp4_1 (9 + 1) 0 (by decide) (by decide) _ (fun j h1 h2 => absurd h2 (by omega)) _ _ hP hD hS ls (lv_sub hl [2, 3, 1, 0] rfl)
set_option maxHeartbeats 4000000 in
set_option maxRecDepth 100000 in
/-- Arrays.fill(row, 0) of a row of 11 -/
theorem k_fill (l : Launch) (D : va_G) (cy : Nat → ClassId) (h0 : Nat) (f : Nat → Int64) (sz : Nat)  : Met l yJ7_fill_d0a16 (wz yJ7_fill_d0a16 cJ7_fill_d0a16 5 none) ({ frames := 0, cells := 0, slots := 0, locals := 0 } : Room) (va_Pc [.ref h0, .long 0] (zPre vwCl D cy [(h0, .inl (cy 1, 11, .inr (.inl f)))] sz)) (va_Qv (fun _ : Unit => True) (fun (u : Unit) t => zPost vwCl D (va_A [(h0, .inl (cy 1, 11, .inr (.inl f)))] sz) [(h0, .inl (cy 1, 11, .inr (.inl (fun _ => 0))))] t) (va_A [(h0, .inl (cy 1, 11, .inr (.inl f)))] sz)) 0 0 (va_A [(h0, .inl (cy 1, 11, .inr (.inl f)))] sz) := by
  refine Met.ofW (cc := cJ7_fill_d0a16) (maxL := 5) (ret := none) (by decide) rfl ?_
  intro p e s m args below meth c s₁ B hml hv
  obtain ⟨rfl, hsz, hP, hK, hD0, hX, hY⟩ := hv
  have hx := B.exec
  have hb := B.bytes
  have hr := B.returns
  have hts0 := atoms_spec (ws := wz yJ7_fill_d0a16 cJ7_fill_d0a16 5 none) B.pre
  have hts : ∀ w ∈ wAll, w.before _ s = true := fun w h => hts0 w (List.mem_cons_of_mem _ h)
  have hown : s.vm.findClass RJ7 = some m.cls := findClass_of_methodNamed B.named
  have hlocks := B.notSynchronized
  subst hsz
  have hD := hD0.self (sz := s.heap.size)
  generalize hAe : va_A [(h0, .inl (cy 1, 11, .inr (.inl f)))] s.heap.size = A at hD hY ⊢
  have hA : ∀ q : Nat, s.heap.size ≤ q → A q := fun q h => by rw [← hAe]; exact Or.inr h
  have hS : va_S A s.heap s.heap [] := va_S.rf
  have hP : va_P D vwCl [(h0, .inl (cy 1, 11, .inr (.inl f)))] s.heap := hP
  have hl := lv_entry ([.ref h0, .long 0]) (n := 5) (Nat.le_of_ble_eq_true rfl)
  rw [lg_entry_eq]
  generalize (lg_sl ([.ref h0, .long 0]) ++ List.replicate (5 - (lg_sl ([.ref h0, .long 0])).length) Slot.unset).toArray = ls at hl ⊢
  have hl : lv_has ls 5 [(0, .ref h0), (1, .long 0)] := hl
  refine z_anyQ (fun Q hQe => ?_)
  refine lv_iconst (v := 0) hx hb dJ7_fill_d0a16_0 (by decide) ?_
  refine lv_istore_n (lv' := [(3, .int 0), (0, .ref h0), (1, .long 0)]) hx hb dJ7_fill_d0a16_1 rfl hl (by decide) rfl (fun ls hl => ?_)
  refine lv_aload_n hx hb dJ7_fill_d0a16_2 rfl (lv_at hl 1 rfl) ?_
  refine va_alen (v := 11) hx hb hK hP 0 1 rfl rfl rfl dJ7_fill_d0a16_3 ?_
  refine lv_istore (lv' := [(4, .int 11), (3, .int 0), (0, .ref h0), (1, .long 0)]) hx hb dJ7_fill_d0a16_4 hl (by decide) rfl (fun ls hl => ?_)
  have lp6_1 : ∀ (n i : Nat), i ≤ 11 → 11 + 1 ≤ i + n → ∀ (g : Nat → Int64) (hg : ∀ j, j < i → g j = 0) (H : Heap) (locs : List Loc), va_P D vwCl [(h0, .inl (cy 1, 11, .inr (.inl g)))] H → va_D A [(h0, .inl (cy 1, 11, .inr (.inl g)))] → va_S A s.heap H locs → ∀ ls, lv_has ls 5 [(0, .ref h0), (1, .long 0), (3, .int (nI i)), (4, .int 11)] → W p l e (headSpec (wz yJ7_fill_d0a16 cJ7_fill_d0a16 5 none) ({ frames := 0, cells := 0, slots := 0, locals := 0 } : Room)).room s m ([.ref h0, .long 0] : List Value).toArray below meth c H locs 0 0 Q (F0 m 6 ls []) := by
    intro n
    induction n with
    | zero => intro i h1 h2; exact absurd h2 (by omega)
    | succ n ih6 =>
      intro i hii hni g hg H locs hP hD hS ls hl
      refine lv_iload_n hx hb dJ7_fill_d0a16_6 rfl (lv_at hl 2 rfl) ?_
      refine lv_iload hx hb dJ7_fill_d0a16_7 (lv_at hl 3 rfl) ?_
      refine lv_icmp_ge (tgt := 22) hx hb dJ7_fill_d0a16_9 (by decide) (fun c_9_1 => ?_) (fun c_9_1 => ?_)
      · skip
        have hE : i = 11 := z_ge (N := 11) (by decide) hii (by decide) c_9_1
        subst hE
        have hl : lv_has ls 5 [(0, .ref h0), (1, .long 0), (3, .int 11), (4, .int 11)] := hl
        obtain ⟨hP, hD⟩ := zP_l (fun _ => 0) hP hD (q := 0) rfl hg
        have hP : va_P D vwCl [(h0, .inl (cy 1, 11, .inr (.inl (fun _ => 0))))] H := hP
        have hD : va_D A [(h0, .inl (cy 1, 11, .inr (.inl (fun _ => 0))))] := hD
        have hP9 := hP.sub (ws' := [(h0, .inl (cy 1, 11, .inr (.inl (fun _ => 0))))]) [0] rfl
        have hD9 := hD.sub (ws' := [(h0, .inl (cy 1, 11, .inr (.inl (fun _ => 0))))]) [0] (by decide) rfl
        refine W.widen (k := 0) (n := 0) (Nat.le_of_ble_eq_true rfl) (Nat.le_of_ble_eq_true rfl) ?_
        rw [hQe]
        exact W.vret hx hb hr (fun t ht hW => ⟨⟨(), rfl, trivial, ⟨by rw [ht]; exact hP9, hD9⟩⟩, hS.F ht⟩) hS.2.2 dJ7_fill_d0a16_22
      · skip
        have hlti : i < 11 := z_lt (N := 11) (by decide) hii (by decide) c_9_1
        refine lv_aload_n hx hb dJ7_fill_d0a16_12 rfl (lv_at hl 0 rfl) ?_
        refine lv_iload_n hx hb dJ7_fill_d0a16_13 rfl (lv_at hl 2 rfl) ?_
        refine lv_lload_n hx hb dJ7_fill_d0a16_14 rfl (lv_at hl 1 rfl) ?_
        refine va_last hx hb hK hP hD hS 0 1 rfl rfl (vp_in_nI (by omega) (by decide)) dJ7_fill_d0a16_15 (fun H locs hP hD hS => ?_)
        have hP : va_P D vwCl [(h0, .inl (cy 1, 11, .inr (.inl (vp_updL g (nI i).toNatClampNeg 0))))] H := hP
        have hD : va_D A [(h0, .inl (cy 1, 11, .inr (.inl (vp_updL g (nI i).toNatClampNeg 0))))] := hD
        refine lv_iinc (v := (nI (i + 1))) (lv' := [(3, .int (nI (i + 1))), (0, .ref h0), (1, .long 0), (4, .int 11)]) hx hb dJ7_fill_d0a16_16 hl (k := 2) rfl (z_n1 i) (by decide) rfl (fun ls hl => ?_)
        refine lv_goto (tgt := 6) hx hb dJ7_fill_d0a16_19 (by decide) ?_
        exact ih6 (i + 1) (by omega) (by omega) _ (z_upL (by omega) hg rfl) _ _ (hP.sub [0] rfl) (hD.sub [0] (by decide) rfl) hS ls (lv_sub hl [1, 2, 0, 3] rfl)
  exact lp6_1 (11 + 1) 0 (by decide) (by decide) _ z_nil _ _ hP hD hS ls (lv_sub hl [2, 3, 1, 0] rfl)
set_option maxHeartbeats 4000000 in
set_option maxRecDepth 100000 in
/-- fillNet without shots: all 0 -/
theorem k_fillNet (l : Launch) (D : va_G) (cy : Nat → ClassId) (h0 : Nat) (vC : Nat) (p1 : Nat) (p2 : Nat) (p3 : Nat) (p4 : Nat) (p5 : Nat) (p6 : Nat) (p7 : Nat) (p8 : Nat) (e1 : Int32) (e2 : Int64) (x1 : Int32) (x2 : Int32) (x3 : Int64) (sS : Nat) (sJ : Nat) (rn : Nat → Nat) (sz : Nat)  : Met l yX4_fillNet (wz yX4_fillNet cX4_fillNet 2 none) ({ frames := 1, cells := 0, slots := 0, locals := 24 } : Room) (va_Pc [.ref h0] (zPre vwCl D cy [(h0, .inr (7, [.ref vC, .ref p1, .ref p2, .ref p3, .ref p4, .ref p5, .ref p6, .ref p7, .int e1, .long e2, .ref p8, .int x1, .int x2, .long x3])), (vC, .inr (3, [.ref sS, .ref sJ, .int 0, .int 0])), (p4, .inl (cy 3, 8, .inr (.inr (.inr (.inr (fun k9 => if k9 < 8 then some (rn k9) else none)))))), ((rn 0), .inl (cy 1, 11, .inr (.inl (fun _ => 0)))), ((rn 1), .inl (cy 1, 11, .inr (.inl (fun _ => 0)))), ((rn 2), .inl (cy 1, 11, .inr (.inl (fun _ => 0)))), ((rn 3), .inl (cy 1, 11, .inr (.inl (fun _ => 0)))), ((rn 4), .inl (cy 1, 11, .inr (.inl (fun _ => 0)))), ((rn 5), .inl (cy 1, 11, .inr (.inl (fun _ => 0)))), ((rn 6), .inl (cy 1, 11, .inr (.inl (fun _ => 0)))), ((rn 7), .inl (cy 1, 11, .inr (.inl (fun _ => 0))))] sz)) (va_Qv (fun _ : Unit => True) (fun (u : Unit) t => zPost vwCl D (va_A [(h0, .inr (7, [.ref vC, .ref p1, .ref p2, .ref p3, .ref p4, .ref p5, .ref p6, .ref p7, .int e1, .long e2, .ref p8, .int x1, .int x2, .long x3])), (vC, .inr (3, [.ref sS, .ref sJ, .int 0, .int 0])), (p4, .inl (cy 3, 8, .inr (.inr (.inr (.inr (fun k9 => if k9 < 8 then some (rn k9) else none)))))), ((rn 0), .inl (cy 1, 11, .inr (.inl (fun _ => 0)))), ((rn 1), .inl (cy 1, 11, .inr (.inl (fun _ => 0)))), ((rn 2), .inl (cy 1, 11, .inr (.inl (fun _ => 0)))), ((rn 3), .inl (cy 1, 11, .inr (.inl (fun _ => 0)))), ((rn 4), .inl (cy 1, 11, .inr (.inl (fun _ => 0)))), ((rn 5), .inl (cy 1, 11, .inr (.inl (fun _ => 0)))), ((rn 6), .inl (cy 1, 11, .inr (.inl (fun _ => 0)))), ((rn 7), .inl (cy 1, 11, .inr (.inl (fun _ => 0))))] sz) [(h0, .inr (7, [.ref vC, .ref p1, .ref p2, .ref p3, .ref p4, .ref p5, .ref p6, .ref p7, .int e1, .long e2, .ref p8, .int x1, .int x2, .long x3])), (vC, .inr (3, [.ref sS, .ref sJ, .int 0, .int 0])), (p4, .inl (cy 3, 8, .inr (.inr (.inr (.inr (fun k9 => if k9 < 8 then some (rn k9) else none)))))), ((rn 0), .inl (cy 1, 11, .inr (.inl (fun _ => 0)))), ((rn 1), .inl (cy 1, 11, .inr (.inl (fun _ => 0)))), ((rn 2), .inl (cy 1, 11, .inr (.inl (fun _ => 0)))), ((rn 3), .inl (cy 1, 11, .inr (.inl (fun _ => 0)))), ((rn 4), .inl (cy 1, 11, .inr (.inl (fun _ => 0)))), ((rn 5), .inl (cy 1, 11, .inr (.inl (fun _ => 0)))), ((rn 6), .inl (cy 1, 11, .inr (.inl (fun _ => 0)))), ((rn 7), .inl (cy 1, 11, .inr (.inl (fun _ => 0))))] t) (va_A [(h0, .inr (7, [.ref vC, .ref p1, .ref p2, .ref p3, .ref p4, .ref p5, .ref p6, .ref p7, .int e1, .long e2, .ref p8, .int x1, .int x2, .long x3])), (vC, .inr (3, [.ref sS, .ref sJ, .int 0, .int 0])), (p4, .inl (cy 3, 8, .inr (.inr (.inr (.inr (fun k9 => if k9 < 8 then some (rn k9) else none)))))), ((rn 0), .inl (cy 1, 11, .inr (.inl (fun _ => 0)))), ((rn 1), .inl (cy 1, 11, .inr (.inl (fun _ => 0)))), ((rn 2), .inl (cy 1, 11, .inr (.inl (fun _ => 0)))), ((rn 3), .inl (cy 1, 11, .inr (.inl (fun _ => 0)))), ((rn 4), .inl (cy 1, 11, .inr (.inl (fun _ => 0)))), ((rn 5), .inl (cy 1, 11, .inr (.inl (fun _ => 0)))), ((rn 6), .inl (cy 1, 11, .inr (.inl (fun _ => 0)))), ((rn 7), .inl (cy 1, 11, .inr (.inl (fun _ => 0))))] sz)) 0 0 (va_A [(h0, .inr (7, [.ref vC, .ref p1, .ref p2, .ref p3, .ref p4, .ref p5, .ref p6, .ref p7, .int e1, .long e2, .ref p8, .int x1, .int x2, .long x3])), (vC, .inr (3, [.ref sS, .ref sJ, .int 0, .int 0])), (p4, .inl (cy 3, 8, .inr (.inr (.inr (.inr (fun k9 => if k9 < 8 then some (rn k9) else none)))))), ((rn 0), .inl (cy 1, 11, .inr (.inl (fun _ => 0)))), ((rn 1), .inl (cy 1, 11, .inr (.inl (fun _ => 0)))), ((rn 2), .inl (cy 1, 11, .inr (.inl (fun _ => 0)))), ((rn 3), .inl (cy 1, 11, .inr (.inl (fun _ => 0)))), ((rn 4), .inl (cy 1, 11, .inr (.inl (fun _ => 0)))), ((rn 5), .inl (cy 1, 11, .inr (.inl (fun _ => 0)))), ((rn 6), .inl (cy 1, 11, .inr (.inl (fun _ => 0)))), ((rn 7), .inl (cy 1, 11, .inr (.inl (fun _ => 0))))] sz) := by
  refine Met.ofW (cc := cX4_fillNet) (maxL := 2) (ret := none) (by decide) rfl ?_
  intro p e s m args below meth c s₁ B hml hv
  obtain ⟨rfl, hsz, hP, hK, hD0, hX, hY⟩ := hv
  have hx := B.exec
  have hb := B.bytes
  have hr := B.returns
  have hts0 := atoms_spec (ws := wz yX4_fillNet cX4_fillNet 2 none) B.pre
  have hts : ∀ w ∈ wAll, w.before _ s = true := fun w h => hts0 w (List.mem_cons_of_mem _ h)
  have hown : s.vm.findClass RX4 = some m.cls := findClass_of_methodNamed B.named
  have hlocks := B.notSynchronized
  subst hsz
  have hD := hD0.self (sz := s.heap.size)
  generalize hAe : va_A [(h0, .inr (7, [.ref vC, .ref p1, .ref p2, .ref p3, .ref p4, .ref p5, .ref p6, .ref p7, .int e1, .long e2, .ref p8, .int x1, .int x2, .long x3])), (vC, .inr (3, [.ref sS, .ref sJ, .int 0, .int 0])), (p4, .inl (cy 3, 8, .inr (.inr (.inr (.inr (fun k9 => if k9 < 8 then some (rn k9) else none)))))), ((rn 0), .inl (cy 1, 11, .inr (.inl (fun _ => 0)))), ((rn 1), .inl (cy 1, 11, .inr (.inl (fun _ => 0)))), ((rn 2), .inl (cy 1, 11, .inr (.inl (fun _ => 0)))), ((rn 3), .inl (cy 1, 11, .inr (.inl (fun _ => 0)))), ((rn 4), .inl (cy 1, 11, .inr (.inl (fun _ => 0)))), ((rn 5), .inl (cy 1, 11, .inr (.inl (fun _ => 0)))), ((rn 6), .inl (cy 1, 11, .inr (.inl (fun _ => 0)))), ((rn 7), .inl (cy 1, 11, .inr (.inl (fun _ => 0))))] s.heap.size = A at hD hY ⊢
  have hA : ∀ q : Nat, s.heap.size ≤ q → A q := fun q h => by rw [← hAe]; exact Or.inr h
  have hS : va_S A s.heap s.heap [] := va_S.rf
  have hP : va_P D vwCl [(h0, .inr (7, [.ref vC, .ref p1, .ref p2, .ref p3, .ref p4, .ref p5, .ref p6, .ref p7, .int e1, .long e2, .ref p8, .int x1, .int x2, .long x3])), (vC, .inr (3, [.ref sS, .ref sJ, .int 0, .int 0])), (p4, .inl (cy 3, 8, .inr (.inr (.inr (.inr (fun k9 => if k9 < 8 then some (rn k9) else none)))))), ((rn 0), .inl (cy 1, 11, .inr (.inl (fun _ => 0)))), ((rn 1), .inl (cy 1, 11, .inr (.inl (fun _ => 0)))), ((rn 2), .inl (cy 1, 11, .inr (.inl (fun _ => 0)))), ((rn 3), .inl (cy 1, 11, .inr (.inl (fun _ => 0)))), ((rn 4), .inl (cy 1, 11, .inr (.inl (fun _ => 0)))), ((rn 5), .inl (cy 1, 11, .inr (.inl (fun _ => 0)))), ((rn 6), .inl (cy 1, 11, .inr (.inl (fun _ => 0)))), ((rn 7), .inl (cy 1, 11, .inr (.inl (fun _ => 0))))] s.heap := hP
  have hl := lv_entry ([.ref h0]) (n := 2) (Nat.le_of_ble_eq_true rfl)
  rw [lg_entry_eq]
  generalize (lg_sl ([.ref h0]) ++ List.replicate (2 - (lg_sl ([.ref h0])).length) Slot.unset).toArray = ls at hl ⊢
  have hl : lv_has ls 2 [(0, .ref h0)] := hl
  refine z_anyQ (fun Q hQe => ?_)
  refine lv_iconst (v := 0) hx hb dX4_fillNet_0 (by decide) ?_
  refine lv_istore_n (lv' := [(1, .int 0), (0, .ref h0)]) hx hb dX4_fillNet_1 rfl hl (by decide) rfl (fun ls hl => ?_)
  refine lv_iload_n hx hb dX4_fillNet_2 rfl (lv_at hl 0 rfl) ?_
  refine lv_bipush (v := 8) hx hb dX4_fillNet_3 (by decide) ?_
  refine lv_icmp_ge (tgt := 24) hx hb dX4_fillNet_5 (by decide) (fun c_5_0 => absurd c_5_0 (by decide +kernel)) (fun _ => ?_)
  refine lv_aload_n hx hb dX4_fillNet_8 rfl (lv_at hl 1 rfl) ?_
  refine va_get (D := D) (ci := 7) (v := .ref p4) (C := RX4) (T := TX4) (N := 14) hx hb hts iRX4 hown hK hP 0 rfl rfl 4 (by decide) (hts _ q42) (fun _ h9 => h9) rfl dX4_fillNet_9 ?_
  refine lv_iload_n hx hb dX4_fillNet_12 rfl (lv_at hl 0 rfl) ?_
  refine va_aldA hx hb hK hP 2 3 rfl rfl (z_in 0 (by decide) (by decide)) dX4_fillNet_13 ?_
  rw [show va_rf ((fun k9 => if k9 < 8 then some (rn k9) else none) (0 : Int32).toNatClampNeg) = .ref (rn 0) from rfl]
  refine lv_lconst (v := 0) hx hb dX4_fillNet_14 rfl ?_
  refine zq_v (wc := [((rn 0), .inl (cy 1, 11, .inr (.inl (fun _ => 0))))]) (wr := [(h0, .inr (7, [.ref vC, .ref p1, .ref p2, .ref p3, .ref p4, .ref p5, .ref p6, .ref p7, .int e1, .long e2, .ref p8, .int x1, .int x2, .long x3])), (vC, .inr (3, [.ref sS, .ref sJ, .int 0, .int 0])), (p4, .inl (cy 3, 8, .inr (.inr (.inr (.inr (fun k9 => if k9 < 8 then some (rn k9) else none)))))), ((rn 1), .inl (cy 1, 11, .inr (.inl (fun _ => 0)))), ((rn 2), .inl (cy 1, 11, .inr (.inl (fun _ => 0)))), ((rn 3), .inl (cy 1, 11, .inr (.inl (fun _ => 0)))), ((rn 4), .inl (cy 1, 11, .inr (.inl (fun _ => 0)))), ((rn 5), .inl (cy 1, 11, .inr (.inl (fun _ => 0)))), ((rn 6), .inl (cy 1, 11, .inr (.inl (fun _ => 0)))), ((rn 7), .inl (cy 1, 11, .inr (.inl (fun _ => 0))))]) (va_runS (As := [.ref (rn 0), .long 0]) (rest := []) ⟨hx, hb, hml, hown, hts⟩ (k_fill l D cy (rn 0) (fun _ => 0) s.heap.size ) (va_cwS 2 hts (gzS (gz q94) q93 q95 q96) rfl rfl rfl vJ7_fill_d0a16.2 ⟨Nat.le_of_ble_eq_true rfl, Nat.le_of_ble_eq_true rfl⟩) (zpS hK hX hY hP hD hS hA [3] (by decide) rfl) rfl rfl hl.1 rfl (lv_room (Nat.le_of_ble_eq_true rfl)) dX4_fillNet_15 ⟨Nat.le_of_ble_eq_true rfl, Nat.le_of_ble_eq_true rfl⟩) hP hD hS hA [3] [0, 1, 2, 4, 5, 6, 7, 8, 9, 10] rfl rfl (by decide) (by decide) (fun u2 H locs hw hP hD hS => ?_)
  have hP : va_P D vwCl [(h0, .inr (7, [.ref vC, .ref p1, .ref p2, .ref p3, .ref p4, .ref p5, .ref p6, .ref p7, .int e1, .long e2, .ref p8, .int x1, .int x2, .long x3])), (vC, .inr (3, [.ref sS, .ref sJ, .int 0, .int 0])), (p4, .inl (cy 3, 8, .inr (.inr (.inr (.inr (fun k9 => if k9 < 8 then some (rn k9) else none)))))), ((rn 1), .inl (cy 1, 11, .inr (.inl (fun _ => 0)))), ((rn 2), .inl (cy 1, 11, .inr (.inl (fun _ => 0)))), ((rn 3), .inl (cy 1, 11, .inr (.inl (fun _ => 0)))), ((rn 4), .inl (cy 1, 11, .inr (.inl (fun _ => 0)))), ((rn 5), .inl (cy 1, 11, .inr (.inl (fun _ => 0)))), ((rn 6), .inl (cy 1, 11, .inr (.inl (fun _ => 0)))), ((rn 7), .inl (cy 1, 11, .inr (.inl (fun _ => 0)))), ((rn 0), .inl (cy 1, 11, .inr (.inl (fun _ => 0))))] H := hP
  have hD : va_D A [(h0, .inr (7, [.ref vC, .ref p1, .ref p2, .ref p3, .ref p4, .ref p5, .ref p6, .ref p7, .int e1, .long e2, .ref p8, .int x1, .int x2, .long x3])), (vC, .inr (3, [.ref sS, .ref sJ, .int 0, .int 0])), (p4, .inl (cy 3, 8, .inr (.inr (.inr (.inr (fun k9 => if k9 < 8 then some (rn k9) else none)))))), ((rn 1), .inl (cy 1, 11, .inr (.inl (fun _ => 0)))), ((rn 2), .inl (cy 1, 11, .inr (.inl (fun _ => 0)))), ((rn 3), .inl (cy 1, 11, .inr (.inl (fun _ => 0)))), ((rn 4), .inl (cy 1, 11, .inr (.inl (fun _ => 0)))), ((rn 5), .inl (cy 1, 11, .inr (.inl (fun _ => 0)))), ((rn 6), .inl (cy 1, 11, .inr (.inl (fun _ => 0)))), ((rn 7), .inl (cy 1, 11, .inr (.inl (fun _ => 0)))), ((rn 0), .inl (cy 1, 11, .inr (.inl (fun _ => 0))))] := hD
  refine lv_iinc (v := 1) (lv' := [(1, .int 1), (0, .ref h0)]) hx hb dX4_fillNet_18 hl (k := 0) rfl (by decide) (by decide) rfl (fun ls hl => ?_)
  refine lv_goto (tgt := 2) hx hb dX4_fillNet_21 (by decide) ?_
  refine lv_iload_n hx hb dX4_fillNet_2 rfl (lv_at hl 0 rfl) ?_
  refine lv_bipush (v := 8) hx hb dX4_fillNet_3 (by decide) ?_
  refine lv_icmp_ge (tgt := 24) hx hb dX4_fillNet_5 (by decide) (fun c_5_3 => absurd c_5_3 (by decide +kernel)) (fun _ => ?_)
  refine lv_aload_n hx hb dX4_fillNet_8 rfl (lv_at hl 1 rfl) ?_
  refine va_get (D := D) (ci := 7) (v := .ref p4) (C := RX4) (T := TX4) (N := 14) hx hb hts iRX4 hown hK hP 0 rfl rfl 4 (by decide) (hts _ q42) (fun _ h9 => h9) rfl dX4_fillNet_9 ?_
  refine lv_iload_n hx hb dX4_fillNet_12 rfl (lv_at hl 0 rfl) ?_
  refine va_aldA hx hb hK hP 2 3 rfl rfl (z_in 1 (by decide) (by decide)) dX4_fillNet_13 ?_
  rw [show va_rf ((fun k9 => if k9 < 8 then some (rn k9) else none) (1 : Int32).toNatClampNeg) = .ref (rn 1) from rfl]
  refine lv_lconst (v := 0) hx hb dX4_fillNet_14 rfl ?_
  refine zq_v (wc := [((rn 1), .inl (cy 1, 11, .inr (.inl (fun _ => 0))))]) (wr := [(h0, .inr (7, [.ref vC, .ref p1, .ref p2, .ref p3, .ref p4, .ref p5, .ref p6, .ref p7, .int e1, .long e2, .ref p8, .int x1, .int x2, .long x3])), (vC, .inr (3, [.ref sS, .ref sJ, .int 0, .int 0])), (p4, .inl (cy 3, 8, .inr (.inr (.inr (.inr (fun k9 => if k9 < 8 then some (rn k9) else none)))))), ((rn 2), .inl (cy 1, 11, .inr (.inl (fun _ => 0)))), ((rn 3), .inl (cy 1, 11, .inr (.inl (fun _ => 0)))), ((rn 4), .inl (cy 1, 11, .inr (.inl (fun _ => 0)))), ((rn 5), .inl (cy 1, 11, .inr (.inl (fun _ => 0)))), ((rn 6), .inl (cy 1, 11, .inr (.inl (fun _ => 0)))), ((rn 7), .inl (cy 1, 11, .inr (.inl (fun _ => 0)))), ((rn 0), .inl (cy 1, 11, .inr (.inl (fun _ => 0))))]) (va_runS (As := [.ref (rn 1), .long 0]) (rest := []) ⟨hx, hb, hml, hown, hts⟩ (k_fill l D cy (rn 1) (fun _ => 0) H.size ) (va_cwS 2 hts (gzS (gz q94) q93 q95 q96) rfl rfl rfl vJ7_fill_d0a16.2 ⟨Nat.le_of_ble_eq_true rfl, Nat.le_of_ble_eq_true rfl⟩) (zpS hK hX hY hP hD hS hA [3] (by decide) rfl) rfl rfl hl.1 rfl (lv_room (Nat.le_of_ble_eq_true rfl)) dX4_fillNet_15 ⟨Nat.le_of_ble_eq_true rfl, Nat.le_of_ble_eq_true rfl⟩) hP hD hS hA [3] [0, 1, 2, 4, 5, 6, 7, 8, 9, 10] rfl rfl (by decide) (by decide) (fun u5 H locs hw hP hD hS => ?_)
  have hP : va_P D vwCl [(h0, .inr (7, [.ref vC, .ref p1, .ref p2, .ref p3, .ref p4, .ref p5, .ref p6, .ref p7, .int e1, .long e2, .ref p8, .int x1, .int x2, .long x3])), (vC, .inr (3, [.ref sS, .ref sJ, .int 0, .int 0])), (p4, .inl (cy 3, 8, .inr (.inr (.inr (.inr (fun k9 => if k9 < 8 then some (rn k9) else none)))))), ((rn 2), .inl (cy 1, 11, .inr (.inl (fun _ => 0)))), ((rn 3), .inl (cy 1, 11, .inr (.inl (fun _ => 0)))), ((rn 4), .inl (cy 1, 11, .inr (.inl (fun _ => 0)))), ((rn 5), .inl (cy 1, 11, .inr (.inl (fun _ => 0)))), ((rn 6), .inl (cy 1, 11, .inr (.inl (fun _ => 0)))), ((rn 7), .inl (cy 1, 11, .inr (.inl (fun _ => 0)))), ((rn 0), .inl (cy 1, 11, .inr (.inl (fun _ => 0)))), ((rn 1), .inl (cy 1, 11, .inr (.inl (fun _ => 0))))] H := hP
  have hD : va_D A [(h0, .inr (7, [.ref vC, .ref p1, .ref p2, .ref p3, .ref p4, .ref p5, .ref p6, .ref p7, .int e1, .long e2, .ref p8, .int x1, .int x2, .long x3])), (vC, .inr (3, [.ref sS, .ref sJ, .int 0, .int 0])), (p4, .inl (cy 3, 8, .inr (.inr (.inr (.inr (fun k9 => if k9 < 8 then some (rn k9) else none)))))), ((rn 2), .inl (cy 1, 11, .inr (.inl (fun _ => 0)))), ((rn 3), .inl (cy 1, 11, .inr (.inl (fun _ => 0)))), ((rn 4), .inl (cy 1, 11, .inr (.inl (fun _ => 0)))), ((rn 5), .inl (cy 1, 11, .inr (.inl (fun _ => 0)))), ((rn 6), .inl (cy 1, 11, .inr (.inl (fun _ => 0)))), ((rn 7), .inl (cy 1, 11, .inr (.inl (fun _ => 0)))), ((rn 0), .inl (cy 1, 11, .inr (.inl (fun _ => 0)))), ((rn 1), .inl (cy 1, 11, .inr (.inl (fun _ => 0))))] := hD
  refine lv_iinc (v := 2) (lv' := [(1, .int 2), (0, .ref h0)]) hx hb dX4_fillNet_18 hl (k := 0) rfl (by decide) (by decide) rfl (fun ls hl => ?_)
  refine lv_goto (tgt := 2) hx hb dX4_fillNet_21 (by decide) ?_
  refine lv_iload_n hx hb dX4_fillNet_2 rfl (lv_at hl 0 rfl) ?_
  refine lv_bipush (v := 8) hx hb dX4_fillNet_3 (by decide) ?_
  refine lv_icmp_ge (tgt := 24) hx hb dX4_fillNet_5 (by decide) (fun c_5_6 => absurd c_5_6 (by decide +kernel)) (fun _ => ?_)
  refine lv_aload_n hx hb dX4_fillNet_8 rfl (lv_at hl 1 rfl) ?_
  refine va_get (D := D) (ci := 7) (v := .ref p4) (C := RX4) (T := TX4) (N := 14) hx hb hts iRX4 hown hK hP 0 rfl rfl 4 (by decide) (hts _ q42) (fun _ h9 => h9) rfl dX4_fillNet_9 ?_
  refine lv_iload_n hx hb dX4_fillNet_12 rfl (lv_at hl 0 rfl) ?_
  refine va_aldA hx hb hK hP 2 3 rfl rfl (z_in 2 (by decide) (by decide)) dX4_fillNet_13 ?_
  rw [show va_rf ((fun k9 => if k9 < 8 then some (rn k9) else none) (2 : Int32).toNatClampNeg) = .ref (rn 2) from rfl]
  refine lv_lconst (v := 0) hx hb dX4_fillNet_14 rfl ?_
  refine zq_v (wc := [((rn 2), .inl (cy 1, 11, .inr (.inl (fun _ => 0))))]) (wr := [(h0, .inr (7, [.ref vC, .ref p1, .ref p2, .ref p3, .ref p4, .ref p5, .ref p6, .ref p7, .int e1, .long e2, .ref p8, .int x1, .int x2, .long x3])), (vC, .inr (3, [.ref sS, .ref sJ, .int 0, .int 0])), (p4, .inl (cy 3, 8, .inr (.inr (.inr (.inr (fun k9 => if k9 < 8 then some (rn k9) else none)))))), ((rn 3), .inl (cy 1, 11, .inr (.inl (fun _ => 0)))), ((rn 4), .inl (cy 1, 11, .inr (.inl (fun _ => 0)))), ((rn 5), .inl (cy 1, 11, .inr (.inl (fun _ => 0)))), ((rn 6), .inl (cy 1, 11, .inr (.inl (fun _ => 0)))), ((rn 7), .inl (cy 1, 11, .inr (.inl (fun _ => 0)))), ((rn 0), .inl (cy 1, 11, .inr (.inl (fun _ => 0)))), ((rn 1), .inl (cy 1, 11, .inr (.inl (fun _ => 0))))]) (va_runS (As := [.ref (rn 2), .long 0]) (rest := []) ⟨hx, hb, hml, hown, hts⟩ (k_fill l D cy (rn 2) (fun _ => 0) H.size ) (va_cwS 2 hts (gzS (gz q94) q93 q95 q96) rfl rfl rfl vJ7_fill_d0a16.2 ⟨Nat.le_of_ble_eq_true rfl, Nat.le_of_ble_eq_true rfl⟩) (zpS hK hX hY hP hD hS hA [3] (by decide) rfl) rfl rfl hl.1 rfl (lv_room (Nat.le_of_ble_eq_true rfl)) dX4_fillNet_15 ⟨Nat.le_of_ble_eq_true rfl, Nat.le_of_ble_eq_true rfl⟩) hP hD hS hA [3] [0, 1, 2, 4, 5, 6, 7, 8, 9, 10] rfl rfl (by decide) (by decide) (fun u8 H locs hw hP hD hS => ?_)
  have hP : va_P D vwCl [(h0, .inr (7, [.ref vC, .ref p1, .ref p2, .ref p3, .ref p4, .ref p5, .ref p6, .ref p7, .int e1, .long e2, .ref p8, .int x1, .int x2, .long x3])), (vC, .inr (3, [.ref sS, .ref sJ, .int 0, .int 0])), (p4, .inl (cy 3, 8, .inr (.inr (.inr (.inr (fun k9 => if k9 < 8 then some (rn k9) else none)))))), ((rn 3), .inl (cy 1, 11, .inr (.inl (fun _ => 0)))), ((rn 4), .inl (cy 1, 11, .inr (.inl (fun _ => 0)))), ((rn 5), .inl (cy 1, 11, .inr (.inl (fun _ => 0)))), ((rn 6), .inl (cy 1, 11, .inr (.inl (fun _ => 0)))), ((rn 7), .inl (cy 1, 11, .inr (.inl (fun _ => 0)))), ((rn 0), .inl (cy 1, 11, .inr (.inl (fun _ => 0)))), ((rn 1), .inl (cy 1, 11, .inr (.inl (fun _ => 0)))), ((rn 2), .inl (cy 1, 11, .inr (.inl (fun _ => 0))))] H := hP
  have hD : va_D A [(h0, .inr (7, [.ref vC, .ref p1, .ref p2, .ref p3, .ref p4, .ref p5, .ref p6, .ref p7, .int e1, .long e2, .ref p8, .int x1, .int x2, .long x3])), (vC, .inr (3, [.ref sS, .ref sJ, .int 0, .int 0])), (p4, .inl (cy 3, 8, .inr (.inr (.inr (.inr (fun k9 => if k9 < 8 then some (rn k9) else none)))))), ((rn 3), .inl (cy 1, 11, .inr (.inl (fun _ => 0)))), ((rn 4), .inl (cy 1, 11, .inr (.inl (fun _ => 0)))), ((rn 5), .inl (cy 1, 11, .inr (.inl (fun _ => 0)))), ((rn 6), .inl (cy 1, 11, .inr (.inl (fun _ => 0)))), ((rn 7), .inl (cy 1, 11, .inr (.inl (fun _ => 0)))), ((rn 0), .inl (cy 1, 11, .inr (.inl (fun _ => 0)))), ((rn 1), .inl (cy 1, 11, .inr (.inl (fun _ => 0)))), ((rn 2), .inl (cy 1, 11, .inr (.inl (fun _ => 0))))] := hD
  refine lv_iinc (v := 3) (lv' := [(1, .int 3), (0, .ref h0)]) hx hb dX4_fillNet_18 hl (k := 0) rfl (by decide) (by decide) rfl (fun ls hl => ?_)
  refine lv_goto (tgt := 2) hx hb dX4_fillNet_21 (by decide) ?_
  refine lv_iload_n hx hb dX4_fillNet_2 rfl (lv_at hl 0 rfl) ?_
  refine lv_bipush (v := 8) hx hb dX4_fillNet_3 (by decide) ?_
  refine lv_icmp_ge (tgt := 24) hx hb dX4_fillNet_5 (by decide) (fun c_5_9 => absurd c_5_9 (by decide +kernel)) (fun _ => ?_)
  refine lv_aload_n hx hb dX4_fillNet_8 rfl (lv_at hl 1 rfl) ?_
  refine va_get (D := D) (ci := 7) (v := .ref p4) (C := RX4) (T := TX4) (N := 14) hx hb hts iRX4 hown hK hP 0 rfl rfl 4 (by decide) (hts _ q42) (fun _ h9 => h9) rfl dX4_fillNet_9 ?_
  refine lv_iload_n hx hb dX4_fillNet_12 rfl (lv_at hl 0 rfl) ?_
  refine va_aldA hx hb hK hP 2 3 rfl rfl (z_in 3 (by decide) (by decide)) dX4_fillNet_13 ?_
  rw [show va_rf ((fun k9 => if k9 < 8 then some (rn k9) else none) (3 : Int32).toNatClampNeg) = .ref (rn 3) from rfl]
  refine lv_lconst (v := 0) hx hb dX4_fillNet_14 rfl ?_
  refine zq_v (wc := [((rn 3), .inl (cy 1, 11, .inr (.inl (fun _ => 0))))]) (wr := [(h0, .inr (7, [.ref vC, .ref p1, .ref p2, .ref p3, .ref p4, .ref p5, .ref p6, .ref p7, .int e1, .long e2, .ref p8, .int x1, .int x2, .long x3])), (vC, .inr (3, [.ref sS, .ref sJ, .int 0, .int 0])), (p4, .inl (cy 3, 8, .inr (.inr (.inr (.inr (fun k9 => if k9 < 8 then some (rn k9) else none)))))), ((rn 4), .inl (cy 1, 11, .inr (.inl (fun _ => 0)))), ((rn 5), .inl (cy 1, 11, .inr (.inl (fun _ => 0)))), ((rn 6), .inl (cy 1, 11, .inr (.inl (fun _ => 0)))), ((rn 7), .inl (cy 1, 11, .inr (.inl (fun _ => 0)))), ((rn 0), .inl (cy 1, 11, .inr (.inl (fun _ => 0)))), ((rn 1), .inl (cy 1, 11, .inr (.inl (fun _ => 0)))), ((rn 2), .inl (cy 1, 11, .inr (.inl (fun _ => 0))))]) (va_runS (As := [.ref (rn 3), .long 0]) (rest := []) ⟨hx, hb, hml, hown, hts⟩ (k_fill l D cy (rn 3) (fun _ => 0) H.size ) (va_cwS 2 hts (gzS (gz q94) q93 q95 q96) rfl rfl rfl vJ7_fill_d0a16.2 ⟨Nat.le_of_ble_eq_true rfl, Nat.le_of_ble_eq_true rfl⟩) (zpS hK hX hY hP hD hS hA [3] (by decide) rfl) rfl rfl hl.1 rfl (lv_room (Nat.le_of_ble_eq_true rfl)) dX4_fillNet_15 ⟨Nat.le_of_ble_eq_true rfl, Nat.le_of_ble_eq_true rfl⟩) hP hD hS hA [3] [0, 1, 2, 4, 5, 6, 7, 8, 9, 10] rfl rfl (by decide) (by decide) (fun u11 H locs hw hP hD hS => ?_)
  have hP : va_P D vwCl [(h0, .inr (7, [.ref vC, .ref p1, .ref p2, .ref p3, .ref p4, .ref p5, .ref p6, .ref p7, .int e1, .long e2, .ref p8, .int x1, .int x2, .long x3])), (vC, .inr (3, [.ref sS, .ref sJ, .int 0, .int 0])), (p4, .inl (cy 3, 8, .inr (.inr (.inr (.inr (fun k9 => if k9 < 8 then some (rn k9) else none)))))), ((rn 4), .inl (cy 1, 11, .inr (.inl (fun _ => 0)))), ((rn 5), .inl (cy 1, 11, .inr (.inl (fun _ => 0)))), ((rn 6), .inl (cy 1, 11, .inr (.inl (fun _ => 0)))), ((rn 7), .inl (cy 1, 11, .inr (.inl (fun _ => 0)))), ((rn 0), .inl (cy 1, 11, .inr (.inl (fun _ => 0)))), ((rn 1), .inl (cy 1, 11, .inr (.inl (fun _ => 0)))), ((rn 2), .inl (cy 1, 11, .inr (.inl (fun _ => 0)))), ((rn 3), .inl (cy 1, 11, .inr (.inl (fun _ => 0))))] H := hP
  have hD : va_D A [(h0, .inr (7, [.ref vC, .ref p1, .ref p2, .ref p3, .ref p4, .ref p5, .ref p6, .ref p7, .int e1, .long e2, .ref p8, .int x1, .int x2, .long x3])), (vC, .inr (3, [.ref sS, .ref sJ, .int 0, .int 0])), (p4, .inl (cy 3, 8, .inr (.inr (.inr (.inr (fun k9 => if k9 < 8 then some (rn k9) else none)))))), ((rn 4), .inl (cy 1, 11, .inr (.inl (fun _ => 0)))), ((rn 5), .inl (cy 1, 11, .inr (.inl (fun _ => 0)))), ((rn 6), .inl (cy 1, 11, .inr (.inl (fun _ => 0)))), ((rn 7), .inl (cy 1, 11, .inr (.inl (fun _ => 0)))), ((rn 0), .inl (cy 1, 11, .inr (.inl (fun _ => 0)))), ((rn 1), .inl (cy 1, 11, .inr (.inl (fun _ => 0)))), ((rn 2), .inl (cy 1, 11, .inr (.inl (fun _ => 0)))), ((rn 3), .inl (cy 1, 11, .inr (.inl (fun _ => 0))))] := hD
  refine lv_iinc (v := 4) (lv' := [(1, .int 4), (0, .ref h0)]) hx hb dX4_fillNet_18 hl (k := 0) rfl (by decide) (by decide) rfl (fun ls hl => ?_)
  refine lv_goto (tgt := 2) hx hb dX4_fillNet_21 (by decide) ?_
  refine lv_iload_n hx hb dX4_fillNet_2 rfl (lv_at hl 0 rfl) ?_
  refine lv_bipush (v := 8) hx hb dX4_fillNet_3 (by decide) ?_
  refine lv_icmp_ge (tgt := 24) hx hb dX4_fillNet_5 (by decide) (fun c_5_12 => absurd c_5_12 (by decide +kernel)) (fun _ => ?_)
  refine lv_aload_n hx hb dX4_fillNet_8 rfl (lv_at hl 1 rfl) ?_
  refine va_get (D := D) (ci := 7) (v := .ref p4) (C := RX4) (T := TX4) (N := 14) hx hb hts iRX4 hown hK hP 0 rfl rfl 4 (by decide) (hts _ q42) (fun _ h9 => h9) rfl dX4_fillNet_9 ?_
  refine lv_iload_n hx hb dX4_fillNet_12 rfl (lv_at hl 0 rfl) ?_
  refine va_aldA hx hb hK hP 2 3 rfl rfl (z_in 4 (by decide) (by decide)) dX4_fillNet_13 ?_
  rw [show va_rf ((fun k9 => if k9 < 8 then some (rn k9) else none) (4 : Int32).toNatClampNeg) = .ref (rn 4) from rfl]
  refine lv_lconst (v := 0) hx hb dX4_fillNet_14 rfl ?_
  refine zq_v (wc := [((rn 4), .inl (cy 1, 11, .inr (.inl (fun _ => 0))))]) (wr := [(h0, .inr (7, [.ref vC, .ref p1, .ref p2, .ref p3, .ref p4, .ref p5, .ref p6, .ref p7, .int e1, .long e2, .ref p8, .int x1, .int x2, .long x3])), (vC, .inr (3, [.ref sS, .ref sJ, .int 0, .int 0])), (p4, .inl (cy 3, 8, .inr (.inr (.inr (.inr (fun k9 => if k9 < 8 then some (rn k9) else none)))))), ((rn 5), .inl (cy 1, 11, .inr (.inl (fun _ => 0)))), ((rn 6), .inl (cy 1, 11, .inr (.inl (fun _ => 0)))), ((rn 7), .inl (cy 1, 11, .inr (.inl (fun _ => 0)))), ((rn 0), .inl (cy 1, 11, .inr (.inl (fun _ => 0)))), ((rn 1), .inl (cy 1, 11, .inr (.inl (fun _ => 0)))), ((rn 2), .inl (cy 1, 11, .inr (.inl (fun _ => 0)))), ((rn 3), .inl (cy 1, 11, .inr (.inl (fun _ => 0))))]) (va_runS (As := [.ref (rn 4), .long 0]) (rest := []) ⟨hx, hb, hml, hown, hts⟩ (k_fill l D cy (rn 4) (fun _ => 0) H.size ) (va_cwS 2 hts (gzS (gz q94) q93 q95 q96) rfl rfl rfl vJ7_fill_d0a16.2 ⟨Nat.le_of_ble_eq_true rfl, Nat.le_of_ble_eq_true rfl⟩) (zpS hK hX hY hP hD hS hA [3] (by decide) rfl) rfl rfl hl.1 rfl (lv_room (Nat.le_of_ble_eq_true rfl)) dX4_fillNet_15 ⟨Nat.le_of_ble_eq_true rfl, Nat.le_of_ble_eq_true rfl⟩) hP hD hS hA [3] [0, 1, 2, 4, 5, 6, 7, 8, 9, 10] rfl rfl (by decide) (by decide) (fun u14 H locs hw hP hD hS => ?_)
  have hP : va_P D vwCl [(h0, .inr (7, [.ref vC, .ref p1, .ref p2, .ref p3, .ref p4, .ref p5, .ref p6, .ref p7, .int e1, .long e2, .ref p8, .int x1, .int x2, .long x3])), (vC, .inr (3, [.ref sS, .ref sJ, .int 0, .int 0])), (p4, .inl (cy 3, 8, .inr (.inr (.inr (.inr (fun k9 => if k9 < 8 then some (rn k9) else none)))))), ((rn 5), .inl (cy 1, 11, .inr (.inl (fun _ => 0)))), ((rn 6), .inl (cy 1, 11, .inr (.inl (fun _ => 0)))), ((rn 7), .inl (cy 1, 11, .inr (.inl (fun _ => 0)))), ((rn 0), .inl (cy 1, 11, .inr (.inl (fun _ => 0)))), ((rn 1), .inl (cy 1, 11, .inr (.inl (fun _ => 0)))), ((rn 2), .inl (cy 1, 11, .inr (.inl (fun _ => 0)))), ((rn 3), .inl (cy 1, 11, .inr (.inl (fun _ => 0)))), ((rn 4), .inl (cy 1, 11, .inr (.inl (fun _ => 0))))] H := hP
  have hD : va_D A [(h0, .inr (7, [.ref vC, .ref p1, .ref p2, .ref p3, .ref p4, .ref p5, .ref p6, .ref p7, .int e1, .long e2, .ref p8, .int x1, .int x2, .long x3])), (vC, .inr (3, [.ref sS, .ref sJ, .int 0, .int 0])), (p4, .inl (cy 3, 8, .inr (.inr (.inr (.inr (fun k9 => if k9 < 8 then some (rn k9) else none)))))), ((rn 5), .inl (cy 1, 11, .inr (.inl (fun _ => 0)))), ((rn 6), .inl (cy 1, 11, .inr (.inl (fun _ => 0)))), ((rn 7), .inl (cy 1, 11, .inr (.inl (fun _ => 0)))), ((rn 0), .inl (cy 1, 11, .inr (.inl (fun _ => 0)))), ((rn 1), .inl (cy 1, 11, .inr (.inl (fun _ => 0)))), ((rn 2), .inl (cy 1, 11, .inr (.inl (fun _ => 0)))), ((rn 3), .inl (cy 1, 11, .inr (.inl (fun _ => 0)))), ((rn 4), .inl (cy 1, 11, .inr (.inl (fun _ => 0))))] := hD
  refine lv_iinc (v := 5) (lv' := [(1, .int 5), (0, .ref h0)]) hx hb dX4_fillNet_18 hl (k := 0) rfl (by decide) (by decide) rfl (fun ls hl => ?_)
  refine lv_goto (tgt := 2) hx hb dX4_fillNet_21 (by decide) ?_
  refine lv_iload_n hx hb dX4_fillNet_2 rfl (lv_at hl 0 rfl) ?_
  refine lv_bipush (v := 8) hx hb dX4_fillNet_3 (by decide) ?_
  refine lv_icmp_ge (tgt := 24) hx hb dX4_fillNet_5 (by decide) (fun c_5_15 => absurd c_5_15 (by decide +kernel)) (fun _ => ?_)
  refine lv_aload_n hx hb dX4_fillNet_8 rfl (lv_at hl 1 rfl) ?_
  refine va_get (D := D) (ci := 7) (v := .ref p4) (C := RX4) (T := TX4) (N := 14) hx hb hts iRX4 hown hK hP 0 rfl rfl 4 (by decide) (hts _ q42) (fun _ h9 => h9) rfl dX4_fillNet_9 ?_
  refine lv_iload_n hx hb dX4_fillNet_12 rfl (lv_at hl 0 rfl) ?_
  refine va_aldA hx hb hK hP 2 3 rfl rfl (z_in 5 (by decide) (by decide)) dX4_fillNet_13 ?_
  rw [show va_rf ((fun k9 => if k9 < 8 then some (rn k9) else none) (5 : Int32).toNatClampNeg) = .ref (rn 5) from rfl]
  refine lv_lconst (v := 0) hx hb dX4_fillNet_14 rfl ?_
  refine zq_v (wc := [((rn 5), .inl (cy 1, 11, .inr (.inl (fun _ => 0))))]) (wr := [(h0, .inr (7, [.ref vC, .ref p1, .ref p2, .ref p3, .ref p4, .ref p5, .ref p6, .ref p7, .int e1, .long e2, .ref p8, .int x1, .int x2, .long x3])), (vC, .inr (3, [.ref sS, .ref sJ, .int 0, .int 0])), (p4, .inl (cy 3, 8, .inr (.inr (.inr (.inr (fun k9 => if k9 < 8 then some (rn k9) else none)))))), ((rn 6), .inl (cy 1, 11, .inr (.inl (fun _ => 0)))), ((rn 7), .inl (cy 1, 11, .inr (.inl (fun _ => 0)))), ((rn 0), .inl (cy 1, 11, .inr (.inl (fun _ => 0)))), ((rn 1), .inl (cy 1, 11, .inr (.inl (fun _ => 0)))), ((rn 2), .inl (cy 1, 11, .inr (.inl (fun _ => 0)))), ((rn 3), .inl (cy 1, 11, .inr (.inl (fun _ => 0)))), ((rn 4), .inl (cy 1, 11, .inr (.inl (fun _ => 0))))]) (va_runS (As := [.ref (rn 5), .long 0]) (rest := []) ⟨hx, hb, hml, hown, hts⟩ (k_fill l D cy (rn 5) (fun _ => 0) H.size ) (va_cwS 2 hts (gzS (gz q94) q93 q95 q96) rfl rfl rfl vJ7_fill_d0a16.2 ⟨Nat.le_of_ble_eq_true rfl, Nat.le_of_ble_eq_true rfl⟩) (zpS hK hX hY hP hD hS hA [3] (by decide) rfl) rfl rfl hl.1 rfl (lv_room (Nat.le_of_ble_eq_true rfl)) dX4_fillNet_15 ⟨Nat.le_of_ble_eq_true rfl, Nat.le_of_ble_eq_true rfl⟩) hP hD hS hA [3] [0, 1, 2, 4, 5, 6, 7, 8, 9, 10] rfl rfl (by decide) (by decide) (fun u17 H locs hw hP hD hS => ?_)
  have hP : va_P D vwCl [(h0, .inr (7, [.ref vC, .ref p1, .ref p2, .ref p3, .ref p4, .ref p5, .ref p6, .ref p7, .int e1, .long e2, .ref p8, .int x1, .int x2, .long x3])), (vC, .inr (3, [.ref sS, .ref sJ, .int 0, .int 0])), (p4, .inl (cy 3, 8, .inr (.inr (.inr (.inr (fun k9 => if k9 < 8 then some (rn k9) else none)))))), ((rn 6), .inl (cy 1, 11, .inr (.inl (fun _ => 0)))), ((rn 7), .inl (cy 1, 11, .inr (.inl (fun _ => 0)))), ((rn 0), .inl (cy 1, 11, .inr (.inl (fun _ => 0)))), ((rn 1), .inl (cy 1, 11, .inr (.inl (fun _ => 0)))), ((rn 2), .inl (cy 1, 11, .inr (.inl (fun _ => 0)))), ((rn 3), .inl (cy 1, 11, .inr (.inl (fun _ => 0)))), ((rn 4), .inl (cy 1, 11, .inr (.inl (fun _ => 0)))), ((rn 5), .inl (cy 1, 11, .inr (.inl (fun _ => 0))))] H := hP
  have hD : va_D A [(h0, .inr (7, [.ref vC, .ref p1, .ref p2, .ref p3, .ref p4, .ref p5, .ref p6, .ref p7, .int e1, .long e2, .ref p8, .int x1, .int x2, .long x3])), (vC, .inr (3, [.ref sS, .ref sJ, .int 0, .int 0])), (p4, .inl (cy 3, 8, .inr (.inr (.inr (.inr (fun k9 => if k9 < 8 then some (rn k9) else none)))))), ((rn 6), .inl (cy 1, 11, .inr (.inl (fun _ => 0)))), ((rn 7), .inl (cy 1, 11, .inr (.inl (fun _ => 0)))), ((rn 0), .inl (cy 1, 11, .inr (.inl (fun _ => 0)))), ((rn 1), .inl (cy 1, 11, .inr (.inl (fun _ => 0)))), ((rn 2), .inl (cy 1, 11, .inr (.inl (fun _ => 0)))), ((rn 3), .inl (cy 1, 11, .inr (.inl (fun _ => 0)))), ((rn 4), .inl (cy 1, 11, .inr (.inl (fun _ => 0)))), ((rn 5), .inl (cy 1, 11, .inr (.inl (fun _ => 0))))] := hD
  refine lv_iinc (v := 6) (lv' := [(1, .int 6), (0, .ref h0)]) hx hb dX4_fillNet_18 hl (k := 0) rfl (by decide) (by decide) rfl (fun ls hl => ?_)
  refine lv_goto (tgt := 2) hx hb dX4_fillNet_21 (by decide) ?_
  refine lv_iload_n hx hb dX4_fillNet_2 rfl (lv_at hl 0 rfl) ?_
  refine lv_bipush (v := 8) hx hb dX4_fillNet_3 (by decide) ?_
  refine lv_icmp_ge (tgt := 24) hx hb dX4_fillNet_5 (by decide) (fun c_5_18 => absurd c_5_18 (by decide +kernel)) (fun _ => ?_)
  refine lv_aload_n hx hb dX4_fillNet_8 rfl (lv_at hl 1 rfl) ?_
  refine va_get (D := D) (ci := 7) (v := .ref p4) (C := RX4) (T := TX4) (N := 14) hx hb hts iRX4 hown hK hP 0 rfl rfl 4 (by decide) (hts _ q42) (fun _ h9 => h9) rfl dX4_fillNet_9 ?_
  refine lv_iload_n hx hb dX4_fillNet_12 rfl (lv_at hl 0 rfl) ?_
  refine va_aldA hx hb hK hP 2 3 rfl rfl (z_in 6 (by decide) (by decide)) dX4_fillNet_13 ?_
  rw [show va_rf ((fun k9 => if k9 < 8 then some (rn k9) else none) (6 : Int32).toNatClampNeg) = .ref (rn 6) from rfl]
  refine lv_lconst (v := 0) hx hb dX4_fillNet_14 rfl ?_
  refine zq_v (wc := [((rn 6), .inl (cy 1, 11, .inr (.inl (fun _ => 0))))]) (wr := [(h0, .inr (7, [.ref vC, .ref p1, .ref p2, .ref p3, .ref p4, .ref p5, .ref p6, .ref p7, .int e1, .long e2, .ref p8, .int x1, .int x2, .long x3])), (vC, .inr (3, [.ref sS, .ref sJ, .int 0, .int 0])), (p4, .inl (cy 3, 8, .inr (.inr (.inr (.inr (fun k9 => if k9 < 8 then some (rn k9) else none)))))), ((rn 7), .inl (cy 1, 11, .inr (.inl (fun _ => 0)))), ((rn 0), .inl (cy 1, 11, .inr (.inl (fun _ => 0)))), ((rn 1), .inl (cy 1, 11, .inr (.inl (fun _ => 0)))), ((rn 2), .inl (cy 1, 11, .inr (.inl (fun _ => 0)))), ((rn 3), .inl (cy 1, 11, .inr (.inl (fun _ => 0)))), ((rn 4), .inl (cy 1, 11, .inr (.inl (fun _ => 0)))), ((rn 5), .inl (cy 1, 11, .inr (.inl (fun _ => 0))))]) (va_runS (As := [.ref (rn 6), .long 0]) (rest := []) ⟨hx, hb, hml, hown, hts⟩ (k_fill l D cy (rn 6) (fun _ => 0) H.size ) (va_cwS 2 hts (gzS (gz q94) q93 q95 q96) rfl rfl rfl vJ7_fill_d0a16.2 ⟨Nat.le_of_ble_eq_true rfl, Nat.le_of_ble_eq_true rfl⟩) (zpS hK hX hY hP hD hS hA [3] (by decide) rfl) rfl rfl hl.1 rfl (lv_room (Nat.le_of_ble_eq_true rfl)) dX4_fillNet_15 ⟨Nat.le_of_ble_eq_true rfl, Nat.le_of_ble_eq_true rfl⟩) hP hD hS hA [3] [0, 1, 2, 4, 5, 6, 7, 8, 9, 10] rfl rfl (by decide) (by decide) (fun u20 H locs hw hP hD hS => ?_)
  have hP : va_P D vwCl [(h0, .inr (7, [.ref vC, .ref p1, .ref p2, .ref p3, .ref p4, .ref p5, .ref p6, .ref p7, .int e1, .long e2, .ref p8, .int x1, .int x2, .long x3])), (vC, .inr (3, [.ref sS, .ref sJ, .int 0, .int 0])), (p4, .inl (cy 3, 8, .inr (.inr (.inr (.inr (fun k9 => if k9 < 8 then some (rn k9) else none)))))), ((rn 7), .inl (cy 1, 11, .inr (.inl (fun _ => 0)))), ((rn 0), .inl (cy 1, 11, .inr (.inl (fun _ => 0)))), ((rn 1), .inl (cy 1, 11, .inr (.inl (fun _ => 0)))), ((rn 2), .inl (cy 1, 11, .inr (.inl (fun _ => 0)))), ((rn 3), .inl (cy 1, 11, .inr (.inl (fun _ => 0)))), ((rn 4), .inl (cy 1, 11, .inr (.inl (fun _ => 0)))), ((rn 5), .inl (cy 1, 11, .inr (.inl (fun _ => 0)))), ((rn 6), .inl (cy 1, 11, .inr (.inl (fun _ => 0))))] H := hP
  have hD : va_D A [(h0, .inr (7, [.ref vC, .ref p1, .ref p2, .ref p3, .ref p4, .ref p5, .ref p6, .ref p7, .int e1, .long e2, .ref p8, .int x1, .int x2, .long x3])), (vC, .inr (3, [.ref sS, .ref sJ, .int 0, .int 0])), (p4, .inl (cy 3, 8, .inr (.inr (.inr (.inr (fun k9 => if k9 < 8 then some (rn k9) else none)))))), ((rn 7), .inl (cy 1, 11, .inr (.inl (fun _ => 0)))), ((rn 0), .inl (cy 1, 11, .inr (.inl (fun _ => 0)))), ((rn 1), .inl (cy 1, 11, .inr (.inl (fun _ => 0)))), ((rn 2), .inl (cy 1, 11, .inr (.inl (fun _ => 0)))), ((rn 3), .inl (cy 1, 11, .inr (.inl (fun _ => 0)))), ((rn 4), .inl (cy 1, 11, .inr (.inl (fun _ => 0)))), ((rn 5), .inl (cy 1, 11, .inr (.inl (fun _ => 0)))), ((rn 6), .inl (cy 1, 11, .inr (.inl (fun _ => 0))))] := hD
  refine lv_iinc (v := 7) (lv' := [(1, .int 7), (0, .ref h0)]) hx hb dX4_fillNet_18 hl (k := 0) rfl (by decide) (by decide) rfl (fun ls hl => ?_)
  refine lv_goto (tgt := 2) hx hb dX4_fillNet_21 (by decide) ?_
  refine lv_iload_n hx hb dX4_fillNet_2 rfl (lv_at hl 0 rfl) ?_
  refine lv_bipush (v := 8) hx hb dX4_fillNet_3 (by decide) ?_
  refine lv_icmp_ge (tgt := 24) hx hb dX4_fillNet_5 (by decide) (fun c_5_21 => absurd c_5_21 (by decide +kernel)) (fun _ => ?_)
  refine lv_aload_n hx hb dX4_fillNet_8 rfl (lv_at hl 1 rfl) ?_
  refine va_get (D := D) (ci := 7) (v := .ref p4) (C := RX4) (T := TX4) (N := 14) hx hb hts iRX4 hown hK hP 0 rfl rfl 4 (by decide) (hts _ q42) (fun _ h9 => h9) rfl dX4_fillNet_9 ?_
  refine lv_iload_n hx hb dX4_fillNet_12 rfl (lv_at hl 0 rfl) ?_
  refine va_aldA hx hb hK hP 2 3 rfl rfl (z_in 7 (by decide) (by decide)) dX4_fillNet_13 ?_
  rw [show va_rf ((fun k9 => if k9 < 8 then some (rn k9) else none) (7 : Int32).toNatClampNeg) = .ref (rn 7) from rfl]
  refine lv_lconst (v := 0) hx hb dX4_fillNet_14 rfl ?_
  refine zq_v (wc := [((rn 7), .inl (cy 1, 11, .inr (.inl (fun _ => 0))))]) (wr := [(h0, .inr (7, [.ref vC, .ref p1, .ref p2, .ref p3, .ref p4, .ref p5, .ref p6, .ref p7, .int e1, .long e2, .ref p8, .int x1, .int x2, .long x3])), (vC, .inr (3, [.ref sS, .ref sJ, .int 0, .int 0])), (p4, .inl (cy 3, 8, .inr (.inr (.inr (.inr (fun k9 => if k9 < 8 then some (rn k9) else none)))))), ((rn 0), .inl (cy 1, 11, .inr (.inl (fun _ => 0)))), ((rn 1), .inl (cy 1, 11, .inr (.inl (fun _ => 0)))), ((rn 2), .inl (cy 1, 11, .inr (.inl (fun _ => 0)))), ((rn 3), .inl (cy 1, 11, .inr (.inl (fun _ => 0)))), ((rn 4), .inl (cy 1, 11, .inr (.inl (fun _ => 0)))), ((rn 5), .inl (cy 1, 11, .inr (.inl (fun _ => 0)))), ((rn 6), .inl (cy 1, 11, .inr (.inl (fun _ => 0))))]) (va_runS (As := [.ref (rn 7), .long 0]) (rest := []) ⟨hx, hb, hml, hown, hts⟩ (k_fill l D cy (rn 7) (fun _ => 0) H.size ) (va_cwS 2 hts (gzS (gz q94) q93 q95 q96) rfl rfl rfl vJ7_fill_d0a16.2 ⟨Nat.le_of_ble_eq_true rfl, Nat.le_of_ble_eq_true rfl⟩) (zpS hK hX hY hP hD hS hA [3] (by decide) rfl) rfl rfl hl.1 rfl (lv_room (Nat.le_of_ble_eq_true rfl)) dX4_fillNet_15 ⟨Nat.le_of_ble_eq_true rfl, Nat.le_of_ble_eq_true rfl⟩) hP hD hS hA [3] [0, 1, 2, 4, 5, 6, 7, 8, 9, 10] rfl rfl (by decide) (by decide) (fun u23 H locs hw hP hD hS => ?_)
  have hP : va_P D vwCl [(h0, .inr (7, [.ref vC, .ref p1, .ref p2, .ref p3, .ref p4, .ref p5, .ref p6, .ref p7, .int e1, .long e2, .ref p8, .int x1, .int x2, .long x3])), (vC, .inr (3, [.ref sS, .ref sJ, .int 0, .int 0])), (p4, .inl (cy 3, 8, .inr (.inr (.inr (.inr (fun k9 => if k9 < 8 then some (rn k9) else none)))))), ((rn 0), .inl (cy 1, 11, .inr (.inl (fun _ => 0)))), ((rn 1), .inl (cy 1, 11, .inr (.inl (fun _ => 0)))), ((rn 2), .inl (cy 1, 11, .inr (.inl (fun _ => 0)))), ((rn 3), .inl (cy 1, 11, .inr (.inl (fun _ => 0)))), ((rn 4), .inl (cy 1, 11, .inr (.inl (fun _ => 0)))), ((rn 5), .inl (cy 1, 11, .inr (.inl (fun _ => 0)))), ((rn 6), .inl (cy 1, 11, .inr (.inl (fun _ => 0)))), ((rn 7), .inl (cy 1, 11, .inr (.inl (fun _ => 0))))] H := hP
  have hD : va_D A [(h0, .inr (7, [.ref vC, .ref p1, .ref p2, .ref p3, .ref p4, .ref p5, .ref p6, .ref p7, .int e1, .long e2, .ref p8, .int x1, .int x2, .long x3])), (vC, .inr (3, [.ref sS, .ref sJ, .int 0, .int 0])), (p4, .inl (cy 3, 8, .inr (.inr (.inr (.inr (fun k9 => if k9 < 8 then some (rn k9) else none)))))), ((rn 0), .inl (cy 1, 11, .inr (.inl (fun _ => 0)))), ((rn 1), .inl (cy 1, 11, .inr (.inl (fun _ => 0)))), ((rn 2), .inl (cy 1, 11, .inr (.inl (fun _ => 0)))), ((rn 3), .inl (cy 1, 11, .inr (.inl (fun _ => 0)))), ((rn 4), .inl (cy 1, 11, .inr (.inl (fun _ => 0)))), ((rn 5), .inl (cy 1, 11, .inr (.inl (fun _ => 0)))), ((rn 6), .inl (cy 1, 11, .inr (.inl (fun _ => 0)))), ((rn 7), .inl (cy 1, 11, .inr (.inl (fun _ => 0))))] := hD
  refine lv_iinc (v := 8) (lv' := [(1, .int 8), (0, .ref h0)]) hx hb dX4_fillNet_18 hl (k := 0) rfl (by decide) (by decide) rfl (fun ls hl => ?_)
  refine lv_goto (tgt := 2) hx hb dX4_fillNet_21 (by decide) ?_
  refine lv_iload_n hx hb dX4_fillNet_2 rfl (lv_at hl 0 rfl) ?_
  refine lv_bipush (v := 8) hx hb dX4_fillNet_3 (by decide) ?_
  refine lv_icmp_ge (tgt := 24) hx hb dX4_fillNet_5 (by decide) (fun _ => ?_) (fun c_5_24 => absurd (by decide +kernel) c_5_24)
  refine lv_iconst (v := 0) hx hb dX4_fillNet_24 (by decide) ?_
  refine lv_istore_n (lv' := [(1, .int 0), (0, .ref h0)]) hx hb dX4_fillNet_25 rfl hl (by decide) rfl (fun ls hl => ?_)
  refine lv_iload_n hx hb dX4_fillNet_26 rfl (lv_at hl 0 rfl) ?_
  refine lv_aload_n hx hb dX4_fillNet_27 rfl (lv_at hl 1 rfl) ?_
  refine va_get (D := D) (ci := 7) (v := .ref vC) (C := RX4) (T := TX4) (N := 14) hx hb hts iRX4 hown hK hP 0 rfl rfl 0 (by decide) (hts _ q35) (fun _ h9 => h9) rfl dX4_fillNet_28 ?_
  refine va_get (D := D) (ci := 3) (v := .int 0) (C := RX0) (T := TX0) (N := 4) hx hb hts iRX0 hown hK hP 1 rfl rfl 3 (by decide) (hts _ q75) (fun _ h9 => h9) rfl dX4_fillNet_31 ?_
  refine lv_icmp_ge (tgt := 65) hx hb dX4_fillNet_34 (by decide) (fun _ => ?_) (fun c_34_25 => absurd (by decide +kernel) c_34_25)
  have hP9 := hP.sub (ws' := [(h0, .inr (7, [.ref vC, .ref p1, .ref p2, .ref p3, .ref p4, .ref p5, .ref p6, .ref p7, .int e1, .long e2, .ref p8, .int x1, .int x2, .long x3])), (vC, .inr (3, [.ref sS, .ref sJ, .int 0, .int 0])), (p4, .inl (cy 3, 8, .inr (.inr (.inr (.inr (fun k9 => if k9 < 8 then some (rn k9) else none)))))), ((rn 0), .inl (cy 1, 11, .inr (.inl (fun _ => 0)))), ((rn 1), .inl (cy 1, 11, .inr (.inl (fun _ => 0)))), ((rn 2), .inl (cy 1, 11, .inr (.inl (fun _ => 0)))), ((rn 3), .inl (cy 1, 11, .inr (.inl (fun _ => 0)))), ((rn 4), .inl (cy 1, 11, .inr (.inl (fun _ => 0)))), ((rn 5), .inl (cy 1, 11, .inr (.inl (fun _ => 0)))), ((rn 6), .inl (cy 1, 11, .inr (.inl (fun _ => 0)))), ((rn 7), .inl (cy 1, 11, .inr (.inl (fun _ => 0))))]) [0, 1, 2, 3, 4, 5, 6, 7, 8, 9, 10] rfl
  have hD9 := hD.sub (ws' := [(h0, .inr (7, [.ref vC, .ref p1, .ref p2, .ref p3, .ref p4, .ref p5, .ref p6, .ref p7, .int e1, .long e2, .ref p8, .int x1, .int x2, .long x3])), (vC, .inr (3, [.ref sS, .ref sJ, .int 0, .int 0])), (p4, .inl (cy 3, 8, .inr (.inr (.inr (.inr (fun k9 => if k9 < 8 then some (rn k9) else none)))))), ((rn 0), .inl (cy 1, 11, .inr (.inl (fun _ => 0)))), ((rn 1), .inl (cy 1, 11, .inr (.inl (fun _ => 0)))), ((rn 2), .inl (cy 1, 11, .inr (.inl (fun _ => 0)))), ((rn 3), .inl (cy 1, 11, .inr (.inl (fun _ => 0)))), ((rn 4), .inl (cy 1, 11, .inr (.inl (fun _ => 0)))), ((rn 5), .inl (cy 1, 11, .inr (.inl (fun _ => 0)))), ((rn 6), .inl (cy 1, 11, .inr (.inl (fun _ => 0)))), ((rn 7), .inl (cy 1, 11, .inr (.inl (fun _ => 0))))]) [0, 1, 2, 3, 4, 5, 6, 7, 8, 9, 10] (by decide) rfl
  refine W.widen (k := 0) (n := 0) (Nat.le_of_ble_eq_true rfl) (Nat.le_of_ble_eq_true rfl) ?_
  rw [hQe]
  exact W.vret hx hb hr (fun t ht hW => ⟨⟨(), rfl, trivial, ⟨by rw [ht]; exact hP9, hD9⟩⟩, hS.F ht⟩) hS.2.2 dX4_fillNet_65
set_option maxHeartbeats 4000000 in
set_option maxRecDepth 100000 in
/-- eliminate without unknowns: the bottom is 1 -/
theorem k_eliminate (l : Launch) (D : va_G) (cy : Nat → ClassId) (h0 : Nat) (vC : Nat) (p1 : Nat) (p2 : Nat) (p3 : Nat) (p4 : Nat) (p5 : Nat) (p6 : Nat) (p7 : Nat) (p8 : Nat) (e1 : Int32) (e2 : Int64) (x2 : Int32) (x3 : Int64) (sz : Nat)  : Met l yX4_eliminate (wz yX4_eliminate cX4_eliminate 6 none) ({ frames := 2, cells := 0, slots := 0, locals := 37 } : Room) (va_Pc [.ref h0] (zPre vwCl D cy [(h0, .inr (7, [.ref vC, .ref p1, .ref p2, .ref p3, .ref p4, .ref p5, .ref p6, .ref p7, .int e1, .long e2, .ref p8, .int 0, .int x2, .long x3]))] sz)) (va_Qv (fun _ : Unit => True) (fun (u : Unit) t => zPost vwCl D (va_A [(h0, .inr (7, [.ref vC, .ref p1, .ref p2, .ref p3, .ref p4, .ref p5, .ref p6, .ref p7, .int e1, .long e2, .ref p8, .int 0, .int x2, .long x3]))] sz) [(h0, .inr (7, [.ref vC, .ref p1, .ref p2, .ref p3, .ref p4, .ref p5, .ref p6, .ref p7, .int e1, .long e2, .ref p8, .int 0, .int x2, .long 1]))] t) (va_A [(h0, .inr (7, [.ref vC, .ref p1, .ref p2, .ref p3, .ref p4, .ref p5, .ref p6, .ref p7, .int e1, .long e2, .ref p8, .int 0, .int x2, .long x3]))] sz)) 0 0 (va_A [(h0, .inr (7, [.ref vC, .ref p1, .ref p2, .ref p3, .ref p4, .ref p5, .ref p6, .ref p7, .int e1, .long e2, .ref p8, .int 0, .int x2, .long x3]))] sz) := by
  refine Met.ofW (cc := cX4_eliminate) (maxL := 6) (ret := none) (by decide) rfl ?_
  intro p e s m args below meth c s₁ B hml hv
  obtain ⟨rfl, hsz, hP, hK, hD0, hX, hY⟩ := hv
  have hx := B.exec
  have hb := B.bytes
  have hr := B.returns
  have hts0 := atoms_spec (ws := wz yX4_eliminate cX4_eliminate 6 none) B.pre
  have hts : ∀ w ∈ wAll, w.before _ s = true := fun w h => hts0 w (List.mem_cons_of_mem _ h)
  have hown : s.vm.findClass RX4 = some m.cls := findClass_of_methodNamed B.named
  have hlocks := B.notSynchronized
  subst hsz
  have hD := hD0.self (sz := s.heap.size)
  generalize hAe : va_A [(h0, .inr (7, [.ref vC, .ref p1, .ref p2, .ref p3, .ref p4, .ref p5, .ref p6, .ref p7, .int e1, .long e2, .ref p8, .int 0, .int x2, .long x3]))] s.heap.size = A at hD hY ⊢
  have hA : ∀ q : Nat, s.heap.size ≤ q → A q := fun q h => by rw [← hAe]; exact Or.inr h
  have hS : va_S A s.heap s.heap [] := va_S.rf
  have hP : va_P D vwCl [(h0, .inr (7, [.ref vC, .ref p1, .ref p2, .ref p3, .ref p4, .ref p5, .ref p6, .ref p7, .int e1, .long e2, .ref p8, .int 0, .int x2, .long x3]))] s.heap := hP
  have hl := lv_entry ([.ref h0]) (n := 6) (Nat.le_of_ble_eq_true rfl)
  rw [lg_entry_eq]
  generalize (lg_sl ([.ref h0]) ++ List.replicate (6 - (lg_sl ([.ref h0])).length) Slot.unset).toArray = ls at hl ⊢
  have hl : lv_has ls 6 [(0, .ref h0)] := hl
  refine z_anyQ (fun Q hQe => ?_)
  refine lv_aload_n hx hb dX4_eliminate_0 rfl (lv_at hl 0 rfl) ?_
  refine zq_i (wc := [(h0, .inr (7, [.ref vC, .ref p1, .ref p2, .ref p3, .ref p4, .ref p5, .ref p6, .ref p7, .int e1, .long e2, .ref p8, .int 0, .int x2, .long x3]))]) (wr := []) (va_runV (As := []) (rest := []) ⟨hx, hb, hml, hown, hts⟩ (k_unknowns l D cy h0 vC p1 p2 p3 p4 p5 p6 p7 p8 e1 e2 x2 x3 s.heap.size ) (cwV 0 hts (gzV (gz q98) q97 q99 q100 q87) rfl rfl rfl vX4_unknowns ⟨Nat.le_of_ble_eq_true rfl, Nat.le_of_ble_eq_true rfl⟩) (zpV (ci := 7) (T := TX4) (N := 14) (q0 := 0) hK hX hY hP hD hS hA [0] (by decide) rfl rfl rfl) rfl rfl hl.1 rfl (lv_room (Nat.le_of_ble_eq_true rfl)) dX4_eliminate_1 ⟨Nat.le_of_ble_eq_true rfl, Nat.le_of_ble_eq_true rfl⟩) hP hD hS hA [0] [] rfl rfl (by decide) (by decide) (fun x2 u1 H locs hw hP hD hS => ?_)
  obtain rfl : x2 = 0 := hw
  have hP : va_P D vwCl [(h0, .inr (7, [.ref vC, .ref p1, .ref p2, .ref p3, .ref p4, .ref p5, .ref p6, .ref p7, .int e1, .long e2, .ref p8, .int 0, .int x2, .long x3]))] H := hP
  have hD : va_D A [(h0, .inr (7, [.ref vC, .ref p1, .ref p2, .ref p3, .ref p4, .ref p5, .ref p6, .ref p7, .int e1, .long e2, .ref p8, .int 0, .int x2, .long x3]))] := hD
  refine lv_istore_n (lv' := [(1, .int 0), (0, .ref h0)]) hx hb dX4_eliminate_4 rfl hl (by decide) rfl (fun ls hl => ?_)
  refine lv_lconst (v := 1) hx hb dX4_eliminate_5 rfl ?_
  refine lv_lstore_n (lv' := [(2, .long 1), (1, .int 0), (0, .ref h0)]) hx hb dX4_eliminate_6 rfl hl (by decide) rfl (fun ls hl => ?_)
  refine lv_iconst (v := 0) hx hb dX4_eliminate_7 (by decide) ?_
  refine lv_istore (lv' := [(4, .int 0), (2, .long 1), (1, .int 0), (0, .ref h0)]) hx hb dX4_eliminate_8 hl (by decide) rfl (fun ls hl => ?_)
  refine lv_iload hx hb dX4_eliminate_10 (lv_at hl 0 rfl) ?_
  refine lv_iload_n hx hb dX4_eliminate_12 rfl (lv_at hl 2 rfl) ?_
  refine lv_icmp_ge (tgt := 69) hx hb dX4_eliminate_13 (by decide) (fun _ => ?_) (fun c_13_2 => absurd (by decide +kernel) c_13_2)
  refine lv_aload_n hx hb dX4_eliminate_69 rfl (lv_at hl 3 rfl) ?_
  refine lv_lload_n hx hb dX4_eliminate_70 rfl (lv_at hl 1 rfl) ?_
  refine lv_lconst (v := 1) hx hb dX4_eliminate_71 rfl ?_
  refine va_mmax_long hx hb (by rw [hml]; exact hl.1.symm) hown (hts _ q101) (hts _ q102) (hts _ q73) (hts _ q103) (Nat.le_of_ble_eq_true rfl) (Nat.le_of_ble_eq_true rfl) (Nat.le_of_ble_eq_true rfl) (Nat.le_of_ble_eq_true rfl) dX4_eliminate_72 ?_
  refine lv_topl (fun y4 ey4 => ?_)
  obtain rfl : y4 = 1 := ey4.trans (by decide +kernel)
  refine va_put (D := D) (ci := 7) (v := .long 1) (ty := .long) (C := RX4) (T := TX4) (N := 14) hx hb hts iRX4 tyX4 tyX4_ok nmX4 hown hK hP hD hS 0 rfl rfl 13 (by decide) (hts _ q53) (fun _ h9 => h9) rfl (tyX4_ok 13 (by decide)) rfl rfl (Nat.le_of_ble_eq_true rfl) dX4_eliminate_75 (fun H locs hP hD hS => ?_)
  have hP : va_P D vwCl [(h0, .inr (7, [.ref vC, .ref p1, .ref p2, .ref p3, .ref p4, .ref p5, .ref p6, .ref p7, .int e1, .long e2, .ref p8, .int 0, .int x2, .long 1]))] H := hP
  have hD : va_D A [(h0, .inr (7, [.ref vC, .ref p1, .ref p2, .ref p3, .ref p4, .ref p5, .ref p6, .ref p7, .int e1, .long e2, .ref p8, .int 0, .int x2, .long 1]))] := hD
  have hP9 := hP.sub (ws' := [(h0, .inr (7, [.ref vC, .ref p1, .ref p2, .ref p3, .ref p4, .ref p5, .ref p6, .ref p7, .int e1, .long e2, .ref p8, .int 0, .int x2, .long 1]))]) [0] rfl
  have hD9 := hD.sub (ws' := [(h0, .inr (7, [.ref vC, .ref p1, .ref p2, .ref p3, .ref p4, .ref p5, .ref p6, .ref p7, .int e1, .long e2, .ref p8, .int 0, .int x2, .long 1]))]) [0] (by decide) rfl
  refine W.widen (k := 0) (n := 0) (Nat.le_of_ble_eq_true rfl) (Nat.le_of_ble_eq_true rfl) ?_
  rw [hQe]
  exact W.vret hx hb hr (fun t ht hW => ⟨⟨(), rfl, trivial, ⟨by rw [ht]; exact hP9, hD9⟩⟩, hS.F ht⟩) hS.2.2 dX4_eliminate_78
set_option maxHeartbeats 4000000 in
set_option maxRecDepth 100000 in
/-- weigh, nothing hung: all places 0, bottom 1 -/
theorem k_weigh0 (l : Launch) (D : va_G) (cy : Nat → ClassId) (h0 : Nat) (vC : Nat) (p1 : Nat) (p2 : Nat) (p3 : Nat) (p4 : Nat) (p5 : Nat) (p6 : Nat) (p7 : Nat) (p8 : Nat) (e1 : Int32) (e2 : Int64) (x2 : Int32) (x3 : Int64) (sS : Nat) (sJ : Nat) (rn : Nat → Nat) (rt : Nat → Nat) (sz : Nat)  : Met l yX4_weigh (wz yX4_weigh cX4_weigh 4 none) ({ frames := 3, cells := 0, slots := 0, locals := 62 } : Room) (va_Pc [.ref h0, .int 0] (zPre vwCl D cy [(h0, .inr (7, [.ref vC, .ref p1, .ref p2, .ref p3, .ref p4, .ref p5, .ref p6, .ref p7, .int e1, .long e2, .ref p8, .int 0, .int x2, .long x3])), (vC, .inr (3, [.ref sS, .ref sJ, .int 0, .int 0])), (p2, .inl (cy 2, 9, .inl (fun _ => 0))), (p3, .inl (cy 0, 9, .inl (fun _ => 0))), (p4, .inl (cy 3, 8, .inr (.inr (.inr (.inr (fun k9 => if k9 < 8 then some (rn k9) else none)))))), ((rn 0), .inl (cy 1, 11, .inr (.inl (fun _ => 0)))), ((rn 1), .inl (cy 1, 11, .inr (.inl (fun _ => 0)))), ((rn 2), .inl (cy 1, 11, .inr (.inl (fun _ => 0)))), ((rn 3), .inl (cy 1, 11, .inr (.inl (fun _ => 0)))), ((rn 4), .inl (cy 1, 11, .inr (.inl (fun _ => 0)))), ((rn 5), .inl (cy 1, 11, .inr (.inl (fun _ => 0)))), ((rn 6), .inl (cy 1, 11, .inr (.inl (fun _ => 0)))), ((rn 7), .inl (cy 1, 11, .inr (.inl (fun _ => 0)))), (p5, .inl (cy 3, 9, .inr (.inr (.inr (.inr (fun k9 => if k9 < 9 then some (rt k9) else none)))))), ((rt 0), .inl (cy 1, 3, .inr (.inl (fun _ => 0)))), ((rt 1), .inl (cy 1, 3, .inr (.inl (fun _ => 0)))), ((rt 2), .inl (cy 1, 3, .inr (.inl (fun _ => 0)))), ((rt 3), .inl (cy 1, 3, .inr (.inl (fun _ => 0)))), ((rt 4), .inl (cy 1, 3, .inr (.inl (fun _ => 0)))), ((rt 5), .inl (cy 1, 3, .inr (.inl (fun _ => 0)))), ((rt 6), .inl (cy 1, 3, .inr (.inl (fun _ => 0)))), ((rt 7), .inl (cy 1, 3, .inr (.inl (fun _ => 0)))), ((rt 8), .inl (cy 1, 3, .inr (.inl (fun _ => 0))))] sz)) (va_Qv (fun _ : Unit => True) (fun (u : Unit) t => zPost vwCl D (va_A [(h0, .inr (7, [.ref vC, .ref p1, .ref p2, .ref p3, .ref p4, .ref p5, .ref p6, .ref p7, .int e1, .long e2, .ref p8, .int 0, .int x2, .long x3])), (vC, .inr (3, [.ref sS, .ref sJ, .int 0, .int 0])), (p2, .inl (cy 2, 9, .inl (fun _ => 0))), (p3, .inl (cy 0, 9, .inl (fun _ => 0))), (p4, .inl (cy 3, 8, .inr (.inr (.inr (.inr (fun k9 => if k9 < 8 then some (rn k9) else none)))))), ((rn 0), .inl (cy 1, 11, .inr (.inl (fun _ => 0)))), ((rn 1), .inl (cy 1, 11, .inr (.inl (fun _ => 0)))), ((rn 2), .inl (cy 1, 11, .inr (.inl (fun _ => 0)))), ((rn 3), .inl (cy 1, 11, .inr (.inl (fun _ => 0)))), ((rn 4), .inl (cy 1, 11, .inr (.inl (fun _ => 0)))), ((rn 5), .inl (cy 1, 11, .inr (.inl (fun _ => 0)))), ((rn 6), .inl (cy 1, 11, .inr (.inl (fun _ => 0)))), ((rn 7), .inl (cy 1, 11, .inr (.inl (fun _ => 0)))), (p5, .inl (cy 3, 9, .inr (.inr (.inr (.inr (fun k9 => if k9 < 9 then some (rt k9) else none)))))), ((rt 0), .inl (cy 1, 3, .inr (.inl (fun _ => 0)))), ((rt 1), .inl (cy 1, 3, .inr (.inl (fun _ => 0)))), ((rt 2), .inl (cy 1, 3, .inr (.inl (fun _ => 0)))), ((rt 3), .inl (cy 1, 3, .inr (.inl (fun _ => 0)))), ((rt 4), .inl (cy 1, 3, .inr (.inl (fun _ => 0)))), ((rt 5), .inl (cy 1, 3, .inr (.inl (fun _ => 0)))), ((rt 6), .inl (cy 1, 3, .inr (.inl (fun _ => 0)))), ((rt 7), .inl (cy 1, 3, .inr (.inl (fun _ => 0)))), ((rt 8), .inl (cy 1, 3, .inr (.inl (fun _ => 0))))] sz) [(h0, .inr (7, [.ref vC, .ref p1, .ref p2, .ref p3, .ref p4, .ref p5, .ref p6, .ref p7, .int e1, .long e2, .ref p8, .int 0, .int x2, .long 1])), (vC, .inr (3, [.ref sS, .ref sJ, .int 0, .int 0])), (p5, .inl (cy 3, 9, .inr (.inr (.inr (.inr (fun k9 => if k9 < 9 then some (rt k9) else none)))))), ((rt 0), .inl (cy 1, 3, .inr (.inl (fun _ => 0)))), ((rt 1), .inl (cy 1, 3, .inr (.inl (fun _ => 0)))), ((rt 2), .inl (cy 1, 3, .inr (.inl (fun _ => 0)))), ((rt 3), .inl (cy 1, 3, .inr (.inl (fun _ => 0)))), ((rt 4), .inl (cy 1, 3, .inr (.inl (fun _ => 0)))), ((rt 5), .inl (cy 1, 3, .inr (.inl (fun _ => 0)))), ((rt 6), .inl (cy 1, 3, .inr (.inl (fun _ => 0)))), ((rt 7), .inl (cy 1, 3, .inr (.inl (fun _ => 0)))), ((rt 8), .inl (cy 1, 3, .inr (.inl (fun _ => 0))))] t) (va_A [(h0, .inr (7, [.ref vC, .ref p1, .ref p2, .ref p3, .ref p4, .ref p5, .ref p6, .ref p7, .int e1, .long e2, .ref p8, .int 0, .int x2, .long x3])), (vC, .inr (3, [.ref sS, .ref sJ, .int 0, .int 0])), (p2, .inl (cy 2, 9, .inl (fun _ => 0))), (p3, .inl (cy 0, 9, .inl (fun _ => 0))), (p4, .inl (cy 3, 8, .inr (.inr (.inr (.inr (fun k9 => if k9 < 8 then some (rn k9) else none)))))), ((rn 0), .inl (cy 1, 11, .inr (.inl (fun _ => 0)))), ((rn 1), .inl (cy 1, 11, .inr (.inl (fun _ => 0)))), ((rn 2), .inl (cy 1, 11, .inr (.inl (fun _ => 0)))), ((rn 3), .inl (cy 1, 11, .inr (.inl (fun _ => 0)))), ((rn 4), .inl (cy 1, 11, .inr (.inl (fun _ => 0)))), ((rn 5), .inl (cy 1, 11, .inr (.inl (fun _ => 0)))), ((rn 6), .inl (cy 1, 11, .inr (.inl (fun _ => 0)))), ((rn 7), .inl (cy 1, 11, .inr (.inl (fun _ => 0)))), (p5, .inl (cy 3, 9, .inr (.inr (.inr (.inr (fun k9 => if k9 < 9 then some (rt k9) else none)))))), ((rt 0), .inl (cy 1, 3, .inr (.inl (fun _ => 0)))), ((rt 1), .inl (cy 1, 3, .inr (.inl (fun _ => 0)))), ((rt 2), .inl (cy 1, 3, .inr (.inl (fun _ => 0)))), ((rt 3), .inl (cy 1, 3, .inr (.inl (fun _ => 0)))), ((rt 4), .inl (cy 1, 3, .inr (.inl (fun _ => 0)))), ((rt 5), .inl (cy 1, 3, .inr (.inl (fun _ => 0)))), ((rt 6), .inl (cy 1, 3, .inr (.inl (fun _ => 0)))), ((rt 7), .inl (cy 1, 3, .inr (.inl (fun _ => 0)))), ((rt 8), .inl (cy 1, 3, .inr (.inl (fun _ => 0))))] sz)) 0 0 (va_A [(h0, .inr (7, [.ref vC, .ref p1, .ref p2, .ref p3, .ref p4, .ref p5, .ref p6, .ref p7, .int e1, .long e2, .ref p8, .int 0, .int x2, .long x3])), (vC, .inr (3, [.ref sS, .ref sJ, .int 0, .int 0])), (p2, .inl (cy 2, 9, .inl (fun _ => 0))), (p3, .inl (cy 0, 9, .inl (fun _ => 0))), (p4, .inl (cy 3, 8, .inr (.inr (.inr (.inr (fun k9 => if k9 < 8 then some (rn k9) else none)))))), ((rn 0), .inl (cy 1, 11, .inr (.inl (fun _ => 0)))), ((rn 1), .inl (cy 1, 11, .inr (.inl (fun _ => 0)))), ((rn 2), .inl (cy 1, 11, .inr (.inl (fun _ => 0)))), ((rn 3), .inl (cy 1, 11, .inr (.inl (fun _ => 0)))), ((rn 4), .inl (cy 1, 11, .inr (.inl (fun _ => 0)))), ((rn 5), .inl (cy 1, 11, .inr (.inl (fun _ => 0)))), ((rn 6), .inl (cy 1, 11, .inr (.inl (fun _ => 0)))), ((rn 7), .inl (cy 1, 11, .inr (.inl (fun _ => 0)))), (p5, .inl (cy 3, 9, .inr (.inr (.inr (.inr (fun k9 => if k9 < 9 then some (rt k9) else none)))))), ((rt 0), .inl (cy 1, 3, .inr (.inl (fun _ => 0)))), ((rt 1), .inl (cy 1, 3, .inr (.inl (fun _ => 0)))), ((rt 2), .inl (cy 1, 3, .inr (.inl (fun _ => 0)))), ((rt 3), .inl (cy 1, 3, .inr (.inl (fun _ => 0)))), ((rt 4), .inl (cy 1, 3, .inr (.inl (fun _ => 0)))), ((rt 5), .inl (cy 1, 3, .inr (.inl (fun _ => 0)))), ((rt 6), .inl (cy 1, 3, .inr (.inl (fun _ => 0)))), ((rt 7), .inl (cy 1, 3, .inr (.inl (fun _ => 0)))), ((rt 8), .inl (cy 1, 3, .inr (.inl (fun _ => 0))))] sz) := by
  refine Met.ofW (cc := cX4_weigh) (maxL := 4) (ret := none) (by decide) rfl ?_
  intro p e s m args below meth c s₁ B hml hv
  obtain ⟨rfl, hsz, hP, hK, hD0, hX, hY⟩ := hv
  have hx := B.exec
  have hb := B.bytes
  have hr := B.returns
  have hts0 := atoms_spec (ws := wz yX4_weigh cX4_weigh 4 none) B.pre
  have hts : ∀ w ∈ wAll, w.before _ s = true := fun w h => hts0 w (List.mem_cons_of_mem _ h)
  have hown : s.vm.findClass RX4 = some m.cls := findClass_of_methodNamed B.named
  have hlocks := B.notSynchronized
  subst hsz
  have hD := hD0.self (sz := s.heap.size)
  generalize hAe : va_A [(h0, .inr (7, [.ref vC, .ref p1, .ref p2, .ref p3, .ref p4, .ref p5, .ref p6, .ref p7, .int e1, .long e2, .ref p8, .int 0, .int x2, .long x3])), (vC, .inr (3, [.ref sS, .ref sJ, .int 0, .int 0])), (p2, .inl (cy 2, 9, .inl (fun _ => 0))), (p3, .inl (cy 0, 9, .inl (fun _ => 0))), (p4, .inl (cy 3, 8, .inr (.inr (.inr (.inr (fun k9 => if k9 < 8 then some (rn k9) else none)))))), ((rn 0), .inl (cy 1, 11, .inr (.inl (fun _ => 0)))), ((rn 1), .inl (cy 1, 11, .inr (.inl (fun _ => 0)))), ((rn 2), .inl (cy 1, 11, .inr (.inl (fun _ => 0)))), ((rn 3), .inl (cy 1, 11, .inr (.inl (fun _ => 0)))), ((rn 4), .inl (cy 1, 11, .inr (.inl (fun _ => 0)))), ((rn 5), .inl (cy 1, 11, .inr (.inl (fun _ => 0)))), ((rn 6), .inl (cy 1, 11, .inr (.inl (fun _ => 0)))), ((rn 7), .inl (cy 1, 11, .inr (.inl (fun _ => 0)))), (p5, .inl (cy 3, 9, .inr (.inr (.inr (.inr (fun k9 => if k9 < 9 then some (rt k9) else none)))))), ((rt 0), .inl (cy 1, 3, .inr (.inl (fun _ => 0)))), ((rt 1), .inl (cy 1, 3, .inr (.inl (fun _ => 0)))), ((rt 2), .inl (cy 1, 3, .inr (.inl (fun _ => 0)))), ((rt 3), .inl (cy 1, 3, .inr (.inl (fun _ => 0)))), ((rt 4), .inl (cy 1, 3, .inr (.inl (fun _ => 0)))), ((rt 5), .inl (cy 1, 3, .inr (.inl (fun _ => 0)))), ((rt 6), .inl (cy 1, 3, .inr (.inl (fun _ => 0)))), ((rt 7), .inl (cy 1, 3, .inr (.inl (fun _ => 0)))), ((rt 8), .inl (cy 1, 3, .inr (.inl (fun _ => 0))))] s.heap.size = A at hD hY ⊢
  have hA : ∀ q : Nat, s.heap.size ≤ q → A q := fun q h => by rw [← hAe]; exact Or.inr h
  have hS : va_S A s.heap s.heap [] := va_S.rf
  have hP : va_P D vwCl [(h0, .inr (7, [.ref vC, .ref p1, .ref p2, .ref p3, .ref p4, .ref p5, .ref p6, .ref p7, .int e1, .long e2, .ref p8, .int 0, .int x2, .long x3])), (vC, .inr (3, [.ref sS, .ref sJ, .int 0, .int 0])), (p2, .inl (cy 2, 9, .inl (fun _ => 0))), (p3, .inl (cy 0, 9, .inl (fun _ => 0))), (p4, .inl (cy 3, 8, .inr (.inr (.inr (.inr (fun k9 => if k9 < 8 then some (rn k9) else none)))))), ((rn 0), .inl (cy 1, 11, .inr (.inl (fun _ => 0)))), ((rn 1), .inl (cy 1, 11, .inr (.inl (fun _ => 0)))), ((rn 2), .inl (cy 1, 11, .inr (.inl (fun _ => 0)))), ((rn 3), .inl (cy 1, 11, .inr (.inl (fun _ => 0)))), ((rn 4), .inl (cy 1, 11, .inr (.inl (fun _ => 0)))), ((rn 5), .inl (cy 1, 11, .inr (.inl (fun _ => 0)))), ((rn 6), .inl (cy 1, 11, .inr (.inl (fun _ => 0)))), ((rn 7), .inl (cy 1, 11, .inr (.inl (fun _ => 0)))), (p5, .inl (cy 3, 9, .inr (.inr (.inr (.inr (fun k9 => if k9 < 9 then some (rt k9) else none)))))), ((rt 0), .inl (cy 1, 3, .inr (.inl (fun _ => 0)))), ((rt 1), .inl (cy 1, 3, .inr (.inl (fun _ => 0)))), ((rt 2), .inl (cy 1, 3, .inr (.inl (fun _ => 0)))), ((rt 3), .inl (cy 1, 3, .inr (.inl (fun _ => 0)))), ((rt 4), .inl (cy 1, 3, .inr (.inl (fun _ => 0)))), ((rt 5), .inl (cy 1, 3, .inr (.inl (fun _ => 0)))), ((rt 6), .inl (cy 1, 3, .inr (.inl (fun _ => 0)))), ((rt 7), .inl (cy 1, 3, .inr (.inl (fun _ => 0)))), ((rt 8), .inl (cy 1, 3, .inr (.inl (fun _ => 0))))] s.heap := hP
  have hl := lv_entry ([.ref h0, .int 0]) (n := 4) (Nat.le_of_ble_eq_true rfl)
  rw [lg_entry_eq]
  generalize (lg_sl ([.ref h0, .int 0]) ++ List.replicate (4 - (lg_sl ([.ref h0, .int 0])).length) Slot.unset).toArray = ls at hl ⊢
  have hl : lv_has ls 4 [(0, .ref h0), (1, .int 0)] := hl
  refine z_anyQ (fun Q hQe => ?_)
  refine lv_aload_n hx hb dX4_weigh_0 rfl (lv_at hl 0 rfl) ?_
  refine lv_iload_n hx hb dX4_weigh_1 rfl (lv_at hl 1 rfl) ?_
  refine zq_v (wc := [(h0, .inr (7, [.ref vC, .ref p1, .ref p2, .ref p3, .ref p4, .ref p5, .ref p6, .ref p7, .int e1, .long e2, .ref p8, .int 0, .int x2, .long x3])), (p2, .inl (cy 2, 9, .inl (fun _ => 0))), (p3, .inl (cy 0, 9, .inl (fun _ => 0)))]) (wr := [(vC, .inr (3, [.ref sS, .ref sJ, .int 0, .int 0])), (p4, .inl (cy 3, 8, .inr (.inr (.inr (.inr (fun k9 => if k9 < 8 then some (rn k9) else none)))))), ((rn 0), .inl (cy 1, 11, .inr (.inl (fun _ => 0)))), ((rn 1), .inl (cy 1, 11, .inr (.inl (fun _ => 0)))), ((rn 2), .inl (cy 1, 11, .inr (.inl (fun _ => 0)))), ((rn 3), .inl (cy 1, 11, .inr (.inl (fun _ => 0)))), ((rn 4), .inl (cy 1, 11, .inr (.inl (fun _ => 0)))), ((rn 5), .inl (cy 1, 11, .inr (.inl (fun _ => 0)))), ((rn 6), .inl (cy 1, 11, .inr (.inl (fun _ => 0)))), ((rn 7), .inl (cy 1, 11, .inr (.inl (fun _ => 0)))), (p5, .inl (cy 3, 9, .inr (.inr (.inr (.inr (fun k9 => if k9 < 9 then some (rt k9) else none)))))), ((rt 0), .inl (cy 1, 3, .inr (.inl (fun _ => 0)))), ((rt 1), .inl (cy 1, 3, .inr (.inl (fun _ => 0)))), ((rt 2), .inl (cy 1, 3, .inr (.inl (fun _ => 0)))), ((rt 3), .inl (cy 1, 3, .inr (.inl (fun _ => 0)))), ((rt 4), .inl (cy 1, 3, .inr (.inl (fun _ => 0)))), ((rt 5), .inl (cy 1, 3, .inr (.inl (fun _ => 0)))), ((rt 6), .inl (cy 1, 3, .inr (.inl (fun _ => 0)))), ((rt 7), .inl (cy 1, 3, .inr (.inl (fun _ => 0)))), ((rt 8), .inl (cy 1, 3, .inr (.inl (fun _ => 0))))]) (va_runV (As := [.int 0]) (rest := []) ⟨hx, hb, hml, hown, hts⟩ (k_giveRows0 l D cy h0 vC p1 p2 p3 p4 p5 p6 p7 p8 e1 e2 0 x2 x3 s.heap.size ) (cwV 1 hts (gzV (gz q105) q104 q106 q107 q87) rfl rfl rfl vX4_giveRows ⟨Nat.le_of_ble_eq_true rfl, Nat.le_of_ble_eq_true rfl⟩) (zpV (ci := 7) (T := TX4) (N := 14) (q0 := 0) hK hX hY hP hD hS hA [0, 2, 3] (by decide) rfl rfl rfl) rfl rfl hl.1 rfl (lv_room (Nat.le_of_ble_eq_true rfl)) dX4_weigh_2 ⟨Nat.le_of_ble_eq_true rfl, Nat.le_of_ble_eq_true rfl⟩) hP hD hS hA [0, 2, 3] [1, 4, 5, 6, 7, 8, 9, 10, 11, 12, 13, 14, 15, 16, 17, 18, 19, 20, 21, 22] rfl rfl (by decide) (by decide) (fun u1 H locs hw hP hD hS => ?_)
  have hP : va_P D vwCl [(vC, .inr (3, [.ref sS, .ref sJ, .int 0, .int 0])), (p4, .inl (cy 3, 8, .inr (.inr (.inr (.inr (fun k9 => if k9 < 8 then some (rn k9) else none)))))), ((rn 0), .inl (cy 1, 11, .inr (.inl (fun _ => 0)))), ((rn 1), .inl (cy 1, 11, .inr (.inl (fun _ => 0)))), ((rn 2), .inl (cy 1, 11, .inr (.inl (fun _ => 0)))), ((rn 3), .inl (cy 1, 11, .inr (.inl (fun _ => 0)))), ((rn 4), .inl (cy 1, 11, .inr (.inl (fun _ => 0)))), ((rn 5), .inl (cy 1, 11, .inr (.inl (fun _ => 0)))), ((rn 6), .inl (cy 1, 11, .inr (.inl (fun _ => 0)))), ((rn 7), .inl (cy 1, 11, .inr (.inl (fun _ => 0)))), (p5, .inl (cy 3, 9, .inr (.inr (.inr (.inr (fun k9 => if k9 < 9 then some (rt k9) else none)))))), ((rt 0), .inl (cy 1, 3, .inr (.inl (fun _ => 0)))), ((rt 1), .inl (cy 1, 3, .inr (.inl (fun _ => 0)))), ((rt 2), .inl (cy 1, 3, .inr (.inl (fun _ => 0)))), ((rt 3), .inl (cy 1, 3, .inr (.inl (fun _ => 0)))), ((rt 4), .inl (cy 1, 3, .inr (.inl (fun _ => 0)))), ((rt 5), .inl (cy 1, 3, .inr (.inl (fun _ => 0)))), ((rt 6), .inl (cy 1, 3, .inr (.inl (fun _ => 0)))), ((rt 7), .inl (cy 1, 3, .inr (.inl (fun _ => 0)))), ((rt 8), .inl (cy 1, 3, .inr (.inl (fun _ => 0)))), (h0, .inr (7, [.ref vC, .ref p1, .ref p2, .ref p3, .ref p4, .ref p5, .ref p6, .ref p7, .int e1, .long e2, .ref p8, .int 0, .int x2, .long x3])), (p2, .inl (cy 2, 9, .inl (fun _ => 0))), (p3, .inl (cy 0, 9, .inl (fun _ => (-1))))] H := hP
  have hD : va_D A [(vC, .inr (3, [.ref sS, .ref sJ, .int 0, .int 0])), (p4, .inl (cy 3, 8, .inr (.inr (.inr (.inr (fun k9 => if k9 < 8 then some (rn k9) else none)))))), ((rn 0), .inl (cy 1, 11, .inr (.inl (fun _ => 0)))), ((rn 1), .inl (cy 1, 11, .inr (.inl (fun _ => 0)))), ((rn 2), .inl (cy 1, 11, .inr (.inl (fun _ => 0)))), ((rn 3), .inl (cy 1, 11, .inr (.inl (fun _ => 0)))), ((rn 4), .inl (cy 1, 11, .inr (.inl (fun _ => 0)))), ((rn 5), .inl (cy 1, 11, .inr (.inl (fun _ => 0)))), ((rn 6), .inl (cy 1, 11, .inr (.inl (fun _ => 0)))), ((rn 7), .inl (cy 1, 11, .inr (.inl (fun _ => 0)))), (p5, .inl (cy 3, 9, .inr (.inr (.inr (.inr (fun k9 => if k9 < 9 then some (rt k9) else none)))))), ((rt 0), .inl (cy 1, 3, .inr (.inl (fun _ => 0)))), ((rt 1), .inl (cy 1, 3, .inr (.inl (fun _ => 0)))), ((rt 2), .inl (cy 1, 3, .inr (.inl (fun _ => 0)))), ((rt 3), .inl (cy 1, 3, .inr (.inl (fun _ => 0)))), ((rt 4), .inl (cy 1, 3, .inr (.inl (fun _ => 0)))), ((rt 5), .inl (cy 1, 3, .inr (.inl (fun _ => 0)))), ((rt 6), .inl (cy 1, 3, .inr (.inl (fun _ => 0)))), ((rt 7), .inl (cy 1, 3, .inr (.inl (fun _ => 0)))), ((rt 8), .inl (cy 1, 3, .inr (.inl (fun _ => 0)))), (h0, .inr (7, [.ref vC, .ref p1, .ref p2, .ref p3, .ref p4, .ref p5, .ref p6, .ref p7, .int e1, .long e2, .ref p8, .int 0, .int x2, .long x3])), (p2, .inl (cy 2, 9, .inl (fun _ => 0))), (p3, .inl (cy 0, 9, .inl (fun _ => (-1))))] := hD
  refine lv_aload_n hx hb dX4_weigh_5 rfl (lv_at hl 0 rfl) ?_
  refine zq_v (wc := [(h0, .inr (7, [.ref vC, .ref p1, .ref p2, .ref p3, .ref p4, .ref p5, .ref p6, .ref p7, .int e1, .long e2, .ref p8, .int 0, .int x2, .long x3])), (vC, .inr (3, [.ref sS, .ref sJ, .int 0, .int 0])), (p4, .inl (cy 3, 8, .inr (.inr (.inr (.inr (fun k9 => if k9 < 8 then some (rn k9) else none)))))), ((rn 0), .inl (cy 1, 11, .inr (.inl (fun _ => 0)))), ((rn 1), .inl (cy 1, 11, .inr (.inl (fun _ => 0)))), ((rn 2), .inl (cy 1, 11, .inr (.inl (fun _ => 0)))), ((rn 3), .inl (cy 1, 11, .inr (.inl (fun _ => 0)))), ((rn 4), .inl (cy 1, 11, .inr (.inl (fun _ => 0)))), ((rn 5), .inl (cy 1, 11, .inr (.inl (fun _ => 0)))), ((rn 6), .inl (cy 1, 11, .inr (.inl (fun _ => 0)))), ((rn 7), .inl (cy 1, 11, .inr (.inl (fun _ => 0))))]) (wr := [(p5, .inl (cy 3, 9, .inr (.inr (.inr (.inr (fun k9 => if k9 < 9 then some (rt k9) else none)))))), ((rt 0), .inl (cy 1, 3, .inr (.inl (fun _ => 0)))), ((rt 1), .inl (cy 1, 3, .inr (.inl (fun _ => 0)))), ((rt 2), .inl (cy 1, 3, .inr (.inl (fun _ => 0)))), ((rt 3), .inl (cy 1, 3, .inr (.inl (fun _ => 0)))), ((rt 4), .inl (cy 1, 3, .inr (.inl (fun _ => 0)))), ((rt 5), .inl (cy 1, 3, .inr (.inl (fun _ => 0)))), ((rt 6), .inl (cy 1, 3, .inr (.inl (fun _ => 0)))), ((rt 7), .inl (cy 1, 3, .inr (.inl (fun _ => 0)))), ((rt 8), .inl (cy 1, 3, .inr (.inl (fun _ => 0)))), (p2, .inl (cy 2, 9, .inl (fun _ => 0))), (p3, .inl (cy 0, 9, .inl (fun _ => (-1))))]) (va_runV (As := []) (rest := []) ⟨hx, hb, hml, hown, hts⟩ (k_fillNet l D cy h0 vC p1 p2 p3 p4 p5 p6 p7 p8 e1 e2 0 x2 x3 sS sJ rn H.size ) (cwV 0 hts (gzV (gz q109) q108 q110 q111 q87) rfl rfl rfl vX4_fillNet ⟨Nat.le_of_ble_eq_true rfl, Nat.le_of_ble_eq_true rfl⟩) (zpV (ci := 7) (T := TX4) (N := 14) (q0 := 0) hK hX hY hP hD hS hA [20, 0, 1, 2, 3, 4, 5, 6, 7, 8, 9] (by decide) rfl rfl rfl) rfl rfl hl.1 rfl (lv_room (Nat.le_of_ble_eq_true rfl)) dX4_weigh_6 ⟨Nat.le_of_ble_eq_true rfl, Nat.le_of_ble_eq_true rfl⟩) hP hD hS hA [20, 0, 1, 2, 3, 4, 5, 6, 7, 8, 9] [10, 11, 12, 13, 14, 15, 16, 17, 18, 19, 21, 22] rfl rfl (by decide) (by decide) (fun u3 H locs hw hP hD hS => ?_)
  have hP : va_P D vwCl [(p5, .inl (cy 3, 9, .inr (.inr (.inr (.inr (fun k9 => if k9 < 9 then some (rt k9) else none)))))), ((rt 0), .inl (cy 1, 3, .inr (.inl (fun _ => 0)))), ((rt 1), .inl (cy 1, 3, .inr (.inl (fun _ => 0)))), ((rt 2), .inl (cy 1, 3, .inr (.inl (fun _ => 0)))), ((rt 3), .inl (cy 1, 3, .inr (.inl (fun _ => 0)))), ((rt 4), .inl (cy 1, 3, .inr (.inl (fun _ => 0)))), ((rt 5), .inl (cy 1, 3, .inr (.inl (fun _ => 0)))), ((rt 6), .inl (cy 1, 3, .inr (.inl (fun _ => 0)))), ((rt 7), .inl (cy 1, 3, .inr (.inl (fun _ => 0)))), ((rt 8), .inl (cy 1, 3, .inr (.inl (fun _ => 0)))), (p2, .inl (cy 2, 9, .inl (fun _ => 0))), (p3, .inl (cy 0, 9, .inl (fun _ => (-1)))), (h0, .inr (7, [.ref vC, .ref p1, .ref p2, .ref p3, .ref p4, .ref p5, .ref p6, .ref p7, .int e1, .long e2, .ref p8, .int 0, .int x2, .long x3])), (vC, .inr (3, [.ref sS, .ref sJ, .int 0, .int 0])), (p4, .inl (cy 3, 8, .inr (.inr (.inr (.inr (fun k9 => if k9 < 8 then some (rn k9) else none)))))), ((rn 0), .inl (cy 1, 11, .inr (.inl (fun _ => 0)))), ((rn 1), .inl (cy 1, 11, .inr (.inl (fun _ => 0)))), ((rn 2), .inl (cy 1, 11, .inr (.inl (fun _ => 0)))), ((rn 3), .inl (cy 1, 11, .inr (.inl (fun _ => 0)))), ((rn 4), .inl (cy 1, 11, .inr (.inl (fun _ => 0)))), ((rn 5), .inl (cy 1, 11, .inr (.inl (fun _ => 0)))), ((rn 6), .inl (cy 1, 11, .inr (.inl (fun _ => 0)))), ((rn 7), .inl (cy 1, 11, .inr (.inl (fun _ => 0))))] H := hP
  have hD : va_D A [(p5, .inl (cy 3, 9, .inr (.inr (.inr (.inr (fun k9 => if k9 < 9 then some (rt k9) else none)))))), ((rt 0), .inl (cy 1, 3, .inr (.inl (fun _ => 0)))), ((rt 1), .inl (cy 1, 3, .inr (.inl (fun _ => 0)))), ((rt 2), .inl (cy 1, 3, .inr (.inl (fun _ => 0)))), ((rt 3), .inl (cy 1, 3, .inr (.inl (fun _ => 0)))), ((rt 4), .inl (cy 1, 3, .inr (.inl (fun _ => 0)))), ((rt 5), .inl (cy 1, 3, .inr (.inl (fun _ => 0)))), ((rt 6), .inl (cy 1, 3, .inr (.inl (fun _ => 0)))), ((rt 7), .inl (cy 1, 3, .inr (.inl (fun _ => 0)))), ((rt 8), .inl (cy 1, 3, .inr (.inl (fun _ => 0)))), (p2, .inl (cy 2, 9, .inl (fun _ => 0))), (p3, .inl (cy 0, 9, .inl (fun _ => (-1)))), (h0, .inr (7, [.ref vC, .ref p1, .ref p2, .ref p3, .ref p4, .ref p5, .ref p6, .ref p7, .int e1, .long e2, .ref p8, .int 0, .int x2, .long x3])), (vC, .inr (3, [.ref sS, .ref sJ, .int 0, .int 0])), (p4, .inl (cy 3, 8, .inr (.inr (.inr (.inr (fun k9 => if k9 < 8 then some (rn k9) else none)))))), ((rn 0), .inl (cy 1, 11, .inr (.inl (fun _ => 0)))), ((rn 1), .inl (cy 1, 11, .inr (.inl (fun _ => 0)))), ((rn 2), .inl (cy 1, 11, .inr (.inl (fun _ => 0)))), ((rn 3), .inl (cy 1, 11, .inr (.inl (fun _ => 0)))), ((rn 4), .inl (cy 1, 11, .inr (.inl (fun _ => 0)))), ((rn 5), .inl (cy 1, 11, .inr (.inl (fun _ => 0)))), ((rn 6), .inl (cy 1, 11, .inr (.inl (fun _ => 0)))), ((rn 7), .inl (cy 1, 11, .inr (.inl (fun _ => 0))))] := hD
  refine lv_aload_n hx hb dX4_weigh_9 rfl (lv_at hl 0 rfl) ?_
  refine zq_v (wc := [(h0, .inr (7, [.ref vC, .ref p1, .ref p2, .ref p3, .ref p4, .ref p5, .ref p6, .ref p7, .int e1, .long e2, .ref p8, .int 0, .int x2, .long x3]))]) (wr := [(p5, .inl (cy 3, 9, .inr (.inr (.inr (.inr (fun k9 => if k9 < 9 then some (rt k9) else none)))))), ((rt 0), .inl (cy 1, 3, .inr (.inl (fun _ => 0)))), ((rt 1), .inl (cy 1, 3, .inr (.inl (fun _ => 0)))), ((rt 2), .inl (cy 1, 3, .inr (.inl (fun _ => 0)))), ((rt 3), .inl (cy 1, 3, .inr (.inl (fun _ => 0)))), ((rt 4), .inl (cy 1, 3, .inr (.inl (fun _ => 0)))), ((rt 5), .inl (cy 1, 3, .inr (.inl (fun _ => 0)))), ((rt 6), .inl (cy 1, 3, .inr (.inl (fun _ => 0)))), ((rt 7), .inl (cy 1, 3, .inr (.inl (fun _ => 0)))), ((rt 8), .inl (cy 1, 3, .inr (.inl (fun _ => 0)))), (p2, .inl (cy 2, 9, .inl (fun _ => 0))), (p3, .inl (cy 0, 9, .inl (fun _ => (-1)))), (vC, .inr (3, [.ref sS, .ref sJ, .int 0, .int 0])), (p4, .inl (cy 3, 8, .inr (.inr (.inr (.inr (fun k9 => if k9 < 8 then some (rn k9) else none)))))), ((rn 0), .inl (cy 1, 11, .inr (.inl (fun _ => 0)))), ((rn 1), .inl (cy 1, 11, .inr (.inl (fun _ => 0)))), ((rn 2), .inl (cy 1, 11, .inr (.inl (fun _ => 0)))), ((rn 3), .inl (cy 1, 11, .inr (.inl (fun _ => 0)))), ((rn 4), .inl (cy 1, 11, .inr (.inl (fun _ => 0)))), ((rn 5), .inl (cy 1, 11, .inr (.inl (fun _ => 0)))), ((rn 6), .inl (cy 1, 11, .inr (.inl (fun _ => 0)))), ((rn 7), .inl (cy 1, 11, .inr (.inl (fun _ => 0))))]) (va_runV (As := []) (rest := []) ⟨hx, hb, hml, hown, hts⟩ (k_eliminate l D cy h0 vC p1 p2 p3 p4 p5 p6 p7 p8 e1 e2 x2 x3 H.size ) (cwV 0 hts (gzV (gz q113) q112 q114 q115 q87) rfl rfl rfl vX4_eliminate ⟨Nat.le_of_ble_eq_true rfl, Nat.le_of_ble_eq_true rfl⟩) (zpV (ci := 7) (T := TX4) (N := 14) (q0 := 0) hK hX hY hP hD hS hA [12] (by decide) rfl rfl rfl) rfl rfl hl.1 rfl (lv_room (Nat.le_of_ble_eq_true rfl)) dX4_weigh_10 ⟨Nat.le_of_ble_eq_true rfl, Nat.le_of_ble_eq_true rfl⟩) hP hD hS hA [12] [0, 1, 2, 3, 4, 5, 6, 7, 8, 9, 10, 11, 13, 14, 15, 16, 17, 18, 19, 20, 21, 22] rfl rfl (by decide) (by decide) (fun u5 H locs hw hP hD hS => ?_)
  have hP : va_P D vwCl [(p5, .inl (cy 3, 9, .inr (.inr (.inr (.inr (fun k9 => if k9 < 9 then some (rt k9) else none)))))), ((rt 0), .inl (cy 1, 3, .inr (.inl (fun _ => 0)))), ((rt 1), .inl (cy 1, 3, .inr (.inl (fun _ => 0)))), ((rt 2), .inl (cy 1, 3, .inr (.inl (fun _ => 0)))), ((rt 3), .inl (cy 1, 3, .inr (.inl (fun _ => 0)))), ((rt 4), .inl (cy 1, 3, .inr (.inl (fun _ => 0)))), ((rt 5), .inl (cy 1, 3, .inr (.inl (fun _ => 0)))), ((rt 6), .inl (cy 1, 3, .inr (.inl (fun _ => 0)))), ((rt 7), .inl (cy 1, 3, .inr (.inl (fun _ => 0)))), ((rt 8), .inl (cy 1, 3, .inr (.inl (fun _ => 0)))), (p2, .inl (cy 2, 9, .inl (fun _ => 0))), (p3, .inl (cy 0, 9, .inl (fun _ => (-1)))), (vC, .inr (3, [.ref sS, .ref sJ, .int 0, .int 0])), (p4, .inl (cy 3, 8, .inr (.inr (.inr (.inr (fun k9 => if k9 < 8 then some (rn k9) else none)))))), ((rn 0), .inl (cy 1, 11, .inr (.inl (fun _ => 0)))), ((rn 1), .inl (cy 1, 11, .inr (.inl (fun _ => 0)))), ((rn 2), .inl (cy 1, 11, .inr (.inl (fun _ => 0)))), ((rn 3), .inl (cy 1, 11, .inr (.inl (fun _ => 0)))), ((rn 4), .inl (cy 1, 11, .inr (.inl (fun _ => 0)))), ((rn 5), .inl (cy 1, 11, .inr (.inl (fun _ => 0)))), ((rn 6), .inl (cy 1, 11, .inr (.inl (fun _ => 0)))), ((rn 7), .inl (cy 1, 11, .inr (.inl (fun _ => 0)))), (h0, .inr (7, [.ref vC, .ref p1, .ref p2, .ref p3, .ref p4, .ref p5, .ref p6, .ref p7, .int e1, .long e2, .ref p8, .int 0, .int x2, .long 1]))] H := hP
  have hD : va_D A [(p5, .inl (cy 3, 9, .inr (.inr (.inr (.inr (fun k9 => if k9 < 9 then some (rt k9) else none)))))), ((rt 0), .inl (cy 1, 3, .inr (.inl (fun _ => 0)))), ((rt 1), .inl (cy 1, 3, .inr (.inl (fun _ => 0)))), ((rt 2), .inl (cy 1, 3, .inr (.inl (fun _ => 0)))), ((rt 3), .inl (cy 1, 3, .inr (.inl (fun _ => 0)))), ((rt 4), .inl (cy 1, 3, .inr (.inl (fun _ => 0)))), ((rt 5), .inl (cy 1, 3, .inr (.inl (fun _ => 0)))), ((rt 6), .inl (cy 1, 3, .inr (.inl (fun _ => 0)))), ((rt 7), .inl (cy 1, 3, .inr (.inl (fun _ => 0)))), ((rt 8), .inl (cy 1, 3, .inr (.inl (fun _ => 0)))), (p2, .inl (cy 2, 9, .inl (fun _ => 0))), (p3, .inl (cy 0, 9, .inl (fun _ => (-1)))), (vC, .inr (3, [.ref sS, .ref sJ, .int 0, .int 0])), (p4, .inl (cy 3, 8, .inr (.inr (.inr (.inr (fun k9 => if k9 < 8 then some (rn k9) else none)))))), ((rn 0), .inl (cy 1, 11, .inr (.inl (fun _ => 0)))), ((rn 1), .inl (cy 1, 11, .inr (.inl (fun _ => 0)))), ((rn 2), .inl (cy 1, 11, .inr (.inl (fun _ => 0)))), ((rn 3), .inl (cy 1, 11, .inr (.inl (fun _ => 0)))), ((rn 4), .inl (cy 1, 11, .inr (.inl (fun _ => 0)))), ((rn 5), .inl (cy 1, 11, .inr (.inl (fun _ => 0)))), ((rn 6), .inl (cy 1, 11, .inr (.inl (fun _ => 0)))), ((rn 7), .inl (cy 1, 11, .inr (.inl (fun _ => 0)))), (h0, .inr (7, [.ref vC, .ref p1, .ref p2, .ref p3, .ref p4, .ref p5, .ref p6, .ref p7, .int e1, .long e2, .ref p8, .int 0, .int x2, .long 1]))] := hD
  refine lv_iconst (v := 0) hx hb dX4_weigh_13 (by decide) ?_
  refine lv_istore_n (lv' := [(2, .int 0), (0, .ref h0), (1, .int 0)]) hx hb dX4_weigh_14 rfl hl (by decide) rfl (fun ls hl => ?_)
  refine lv_iload_n hx hb dX4_weigh_15 rfl (lv_at hl 0 rfl) ?_
  refine lv_bipush (v := 9) hx hb dX4_weigh_16 (by decide) ?_
  refine lv_icmp_ge (tgt := 78) hx hb dX4_weigh_18 (by decide) (fun c_18_6 => absurd c_18_6 (by decide +kernel)) (fun _ => ?_)
  refine lv_iconst (v := 0) hx hb dX4_weigh_21 (by decide) ?_
  refine lv_istore_n (lv' := [(3, .int 0), (2, .int 0), (0, .ref h0), (1, .int 0)]) hx hb dX4_weigh_22 rfl hl (by decide) rfl (fun ls hl => ?_)
  refine lv_iload_n hx hb dX4_weigh_23 rfl (lv_at hl 0 rfl) ?_
  refine lv_iconst (v := 3) hx hb dX4_weigh_24 (by decide) ?_
  refine lv_icmp_ge (tgt := 72) hx hb dX4_weigh_25 (by decide) (fun c_25_7 => absurd c_25_7 (by decide +kernel)) (fun _ => ?_)
  refine lv_aload_n hx hb dX4_weigh_28 rfl (lv_at hl 2 rfl) ?_
  refine va_get (D := D) (ci := 7) (v := .ref p5) (C := RX4) (T := TX4) (N := 14) hx hb hts iRX4 hown hK hP 22 rfl rfl 5 (by decide) (hts _ q43) (fun _ h9 => h9) rfl dX4_weigh_29 ?_
  refine lv_iload_n hx hb dX4_weigh_32 rfl (lv_at hl 1 rfl) ?_
  refine va_aldA hx hb hK hP 0 3 rfl rfl (z_in 0 (by decide) (by decide)) dX4_weigh_33 ?_
  rw [show va_rf ((fun k9 => if k9 < 9 then some (rt k9) else none) (0 : Int32).toNatClampNeg) = .ref (rt 0) from rfl]
  refine lv_iload_n hx hb dX4_weigh_34 rfl (lv_at hl 0 rfl) ?_
  refine lv_aload_n hx hb dX4_weigh_35 rfl (lv_at hl 2 rfl) ?_
  refine va_get (D := D) (ci := 7) (v := .ref p3) (C := RX4) (T := TX4) (N := 14) hx hb hts iRX4 hown hK hP 22 rfl rfl 3 (by decide) (hts _ q39) (fun _ h9 => h9) rfl dX4_weigh_36 ?_
  refine lv_iload_n hx hb dX4_weigh_39 rfl (lv_at hl 1 rfl) ?_
  refine va_iald hx hb hK hP 11 0 rfl rfl (z_in 0 (by decide) (by decide)) dX4_weigh_40 ?_
  refine lv_topi (fun y9 ey9 => ?_)
  obtain rfl : y9 = (-1) := ey9.trans rfl
  refine lv_iconst (v := (-1)) hx hb dX4_weigh_41 (by decide) ?_
  refine lv_icmp_ne (tgt := 49) hx hb dX4_weigh_42 (by decide) (fun c_42_9 => absurd (by decide +kernel) c_42_9) (fun _ => ?_)
  refine lv_lconst (v := 0) hx hb dX4_weigh_45 rfl ?_
  refine lv_goto (tgt := 65) hx hb dX4_weigh_46 (by decide) ?_
  refine va_last hx hb hK hP hD hS 1 1 rfl rfl (z_in 0 (by decide) (by decide)) dX4_weigh_65 (fun H locs hP hD hS => ?_)
  have hP : va_P D vwCl [(p5, .inl (cy 3, 9, .inr (.inr (.inr (.inr (fun k9 => if k9 < 9 then some (rt k9) else none)))))), ((rt 0), .inl (cy 1, 3, .inr (.inl (vp_updL (fun _ => 0) (0 : Int32).toNatClampNeg 0)))), ((rt 1), .inl (cy 1, 3, .inr (.inl (fun _ => 0)))), ((rt 2), .inl (cy 1, 3, .inr (.inl (fun _ => 0)))), ((rt 3), .inl (cy 1, 3, .inr (.inl (fun _ => 0)))), ((rt 4), .inl (cy 1, 3, .inr (.inl (fun _ => 0)))), ((rt 5), .inl (cy 1, 3, .inr (.inl (fun _ => 0)))), ((rt 6), .inl (cy 1, 3, .inr (.inl (fun _ => 0)))), ((rt 7), .inl (cy 1, 3, .inr (.inl (fun _ => 0)))), ((rt 8), .inl (cy 1, 3, .inr (.inl (fun _ => 0)))), (p2, .inl (cy 2, 9, .inl (fun _ => 0))), (p3, .inl (cy 0, 9, .inl (fun _ => (-1)))), (vC, .inr (3, [.ref sS, .ref sJ, .int 0, .int 0])), (p4, .inl (cy 3, 8, .inr (.inr (.inr (.inr (fun k9 => if k9 < 8 then some (rn k9) else none)))))), ((rn 0), .inl (cy 1, 11, .inr (.inl (fun _ => 0)))), ((rn 1), .inl (cy 1, 11, .inr (.inl (fun _ => 0)))), ((rn 2), .inl (cy 1, 11, .inr (.inl (fun _ => 0)))), ((rn 3), .inl (cy 1, 11, .inr (.inl (fun _ => 0)))), ((rn 4), .inl (cy 1, 11, .inr (.inl (fun _ => 0)))), ((rn 5), .inl (cy 1, 11, .inr (.inl (fun _ => 0)))), ((rn 6), .inl (cy 1, 11, .inr (.inl (fun _ => 0)))), ((rn 7), .inl (cy 1, 11, .inr (.inl (fun _ => 0)))), (h0, .inr (7, [.ref vC, .ref p1, .ref p2, .ref p3, .ref p4, .ref p5, .ref p6, .ref p7, .int e1, .long e2, .ref p8, .int 0, .int x2, .long 1]))] H := hP
  have hD : va_D A [(p5, .inl (cy 3, 9, .inr (.inr (.inr (.inr (fun k9 => if k9 < 9 then some (rt k9) else none)))))), ((rt 0), .inl (cy 1, 3, .inr (.inl (vp_updL (fun _ => 0) (0 : Int32).toNatClampNeg 0)))), ((rt 1), .inl (cy 1, 3, .inr (.inl (fun _ => 0)))), ((rt 2), .inl (cy 1, 3, .inr (.inl (fun _ => 0)))), ((rt 3), .inl (cy 1, 3, .inr (.inl (fun _ => 0)))), ((rt 4), .inl (cy 1, 3, .inr (.inl (fun _ => 0)))), ((rt 5), .inl (cy 1, 3, .inr (.inl (fun _ => 0)))), ((rt 6), .inl (cy 1, 3, .inr (.inl (fun _ => 0)))), ((rt 7), .inl (cy 1, 3, .inr (.inl (fun _ => 0)))), ((rt 8), .inl (cy 1, 3, .inr (.inl (fun _ => 0)))), (p2, .inl (cy 2, 9, .inl (fun _ => 0))), (p3, .inl (cy 0, 9, .inl (fun _ => (-1)))), (vC, .inr (3, [.ref sS, .ref sJ, .int 0, .int 0])), (p4, .inl (cy 3, 8, .inr (.inr (.inr (.inr (fun k9 => if k9 < 8 then some (rn k9) else none)))))), ((rn 0), .inl (cy 1, 11, .inr (.inl (fun _ => 0)))), ((rn 1), .inl (cy 1, 11, .inr (.inl (fun _ => 0)))), ((rn 2), .inl (cy 1, 11, .inr (.inl (fun _ => 0)))), ((rn 3), .inl (cy 1, 11, .inr (.inl (fun _ => 0)))), ((rn 4), .inl (cy 1, 11, .inr (.inl (fun _ => 0)))), ((rn 5), .inl (cy 1, 11, .inr (.inl (fun _ => 0)))), ((rn 6), .inl (cy 1, 11, .inr (.inl (fun _ => 0)))), ((rn 7), .inl (cy 1, 11, .inr (.inl (fun _ => 0)))), (h0, .inr (7, [.ref vC, .ref p1, .ref p2, .ref p3, .ref p4, .ref p5, .ref p6, .ref p7, .int e1, .long e2, .ref p8, .int 0, .int x2, .long 1]))] := hD
  refine lv_iinc (v := 1) (lv' := [(3, .int 1), (2, .int 0), (0, .ref h0), (1, .int 0)]) hx hb dX4_weigh_66 hl (k := 0) rfl (by decide) (by decide) rfl (fun ls hl => ?_)
  refine lv_goto (tgt := 23) hx hb dX4_weigh_69 (by decide) ?_
  refine lv_iload_n hx hb dX4_weigh_23 rfl (lv_at hl 0 rfl) ?_
  refine lv_iconst (v := 3) hx hb dX4_weigh_24 (by decide) ?_
  refine lv_icmp_ge (tgt := 72) hx hb dX4_weigh_25 (by decide) (fun c_25_10 => absurd c_25_10 (by decide +kernel)) (fun _ => ?_)
  refine lv_aload_n hx hb dX4_weigh_28 rfl (lv_at hl 2 rfl) ?_
  refine va_get (D := D) (ci := 7) (v := .ref p5) (C := RX4) (T := TX4) (N := 14) hx hb hts iRX4 hown hK hP 22 rfl rfl 5 (by decide) (hts _ q43) (fun _ h9 => h9) rfl dX4_weigh_29 ?_
  refine lv_iload_n hx hb dX4_weigh_32 rfl (lv_at hl 1 rfl) ?_
  refine va_aldA hx hb hK hP 0 3 rfl rfl (z_in 0 (by decide) (by decide)) dX4_weigh_33 ?_
  rw [show va_rf ((fun k9 => if k9 < 9 then some (rt k9) else none) (0 : Int32).toNatClampNeg) = .ref (rt 0) from rfl]
  refine lv_iload_n hx hb dX4_weigh_34 rfl (lv_at hl 0 rfl) ?_
  refine lv_aload_n hx hb dX4_weigh_35 rfl (lv_at hl 2 rfl) ?_
  refine va_get (D := D) (ci := 7) (v := .ref p3) (C := RX4) (T := TX4) (N := 14) hx hb hts iRX4 hown hK hP 22 rfl rfl 3 (by decide) (hts _ q39) (fun _ h9 => h9) rfl dX4_weigh_36 ?_
  refine lv_iload_n hx hb dX4_weigh_39 rfl (lv_at hl 1 rfl) ?_
  refine va_iald hx hb hK hP 11 0 rfl rfl (z_in 0 (by decide) (by decide)) dX4_weigh_40 ?_
  refine lv_topi (fun y12 ey12 => ?_)
  obtain rfl : y12 = (-1) := ey12.trans rfl
  refine lv_iconst (v := (-1)) hx hb dX4_weigh_41 (by decide) ?_
  refine lv_icmp_ne (tgt := 49) hx hb dX4_weigh_42 (by decide) (fun c_42_12 => absurd (by decide +kernel) c_42_12) (fun _ => ?_)
  refine lv_lconst (v := 0) hx hb dX4_weigh_45 rfl ?_
  refine lv_goto (tgt := 65) hx hb dX4_weigh_46 (by decide) ?_
  refine va_last hx hb hK hP hD hS 1 1 rfl rfl (z_in 1 (by decide) (by decide)) dX4_weigh_65 (fun H locs hP hD hS => ?_)
  have hP : va_P D vwCl [(p5, .inl (cy 3, 9, .inr (.inr (.inr (.inr (fun k9 => if k9 < 9 then some (rt k9) else none)))))), ((rt 0), .inl (cy 1, 3, .inr (.inl (vp_updL (vp_updL (fun _ => 0) (0 : Int32).toNatClampNeg 0) (1 : Int32).toNatClampNeg 0)))), ((rt 1), .inl (cy 1, 3, .inr (.inl (fun _ => 0)))), ((rt 2), .inl (cy 1, 3, .inr (.inl (fun _ => 0)))), ((rt 3), .inl (cy 1, 3, .inr (.inl (fun _ => 0)))), ((rt 4), .inl (cy 1, 3, .inr (.inl (fun _ => 0)))), ((rt 5), .inl (cy 1, 3, .inr (.inl (fun _ => 0)))), ((rt 6), .inl (cy 1, 3, .inr (.inl (fun _ => 0)))), ((rt 7), .inl (cy 1, 3, .inr (.inl (fun _ => 0)))), ((rt 8), .inl (cy 1, 3, .inr (.inl (fun _ => 0)))), (p2, .inl (cy 2, 9, .inl (fun _ => 0))), (p3, .inl (cy 0, 9, .inl (fun _ => (-1)))), (vC, .inr (3, [.ref sS, .ref sJ, .int 0, .int 0])), (p4, .inl (cy 3, 8, .inr (.inr (.inr (.inr (fun k9 => if k9 < 8 then some (rn k9) else none)))))), ((rn 0), .inl (cy 1, 11, .inr (.inl (fun _ => 0)))), ((rn 1), .inl (cy 1, 11, .inr (.inl (fun _ => 0)))), ((rn 2), .inl (cy 1, 11, .inr (.inl (fun _ => 0)))), ((rn 3), .inl (cy 1, 11, .inr (.inl (fun _ => 0)))), ((rn 4), .inl (cy 1, 11, .inr (.inl (fun _ => 0)))), ((rn 5), .inl (cy 1, 11, .inr (.inl (fun _ => 0)))), ((rn 6), .inl (cy 1, 11, .inr (.inl (fun _ => 0)))), ((rn 7), .inl (cy 1, 11, .inr (.inl (fun _ => 0)))), (h0, .inr (7, [.ref vC, .ref p1, .ref p2, .ref p3, .ref p4, .ref p5, .ref p6, .ref p7, .int e1, .long e2, .ref p8, .int 0, .int x2, .long 1]))] H := hP
  have hD : va_D A [(p5, .inl (cy 3, 9, .inr (.inr (.inr (.inr (fun k9 => if k9 < 9 then some (rt k9) else none)))))), ((rt 0), .inl (cy 1, 3, .inr (.inl (vp_updL (vp_updL (fun _ => 0) (0 : Int32).toNatClampNeg 0) (1 : Int32).toNatClampNeg 0)))), ((rt 1), .inl (cy 1, 3, .inr (.inl (fun _ => 0)))), ((rt 2), .inl (cy 1, 3, .inr (.inl (fun _ => 0)))), ((rt 3), .inl (cy 1, 3, .inr (.inl (fun _ => 0)))), ((rt 4), .inl (cy 1, 3, .inr (.inl (fun _ => 0)))), ((rt 5), .inl (cy 1, 3, .inr (.inl (fun _ => 0)))), ((rt 6), .inl (cy 1, 3, .inr (.inl (fun _ => 0)))), ((rt 7), .inl (cy 1, 3, .inr (.inl (fun _ => 0)))), ((rt 8), .inl (cy 1, 3, .inr (.inl (fun _ => 0)))), (p2, .inl (cy 2, 9, .inl (fun _ => 0))), (p3, .inl (cy 0, 9, .inl (fun _ => (-1)))), (vC, .inr (3, [.ref sS, .ref sJ, .int 0, .int 0])), (p4, .inl (cy 3, 8, .inr (.inr (.inr (.inr (fun k9 => if k9 < 8 then some (rn k9) else none)))))), ((rn 0), .inl (cy 1, 11, .inr (.inl (fun _ => 0)))), ((rn 1), .inl (cy 1, 11, .inr (.inl (fun _ => 0)))), ((rn 2), .inl (cy 1, 11, .inr (.inl (fun _ => 0)))), ((rn 3), .inl (cy 1, 11, .inr (.inl (fun _ => 0)))), ((rn 4), .inl (cy 1, 11, .inr (.inl (fun _ => 0)))), ((rn 5), .inl (cy 1, 11, .inr (.inl (fun _ => 0)))), ((rn 6), .inl (cy 1, 11, .inr (.inl (fun _ => 0)))), ((rn 7), .inl (cy 1, 11, .inr (.inl (fun _ => 0)))), (h0, .inr (7, [.ref vC, .ref p1, .ref p2, .ref p3, .ref p4, .ref p5, .ref p6, .ref p7, .int e1, .long e2, .ref p8, .int 0, .int x2, .long 1]))] := hD
  refine lv_iinc (v := 2) (lv' := [(3, .int 2), (2, .int 0), (0, .ref h0), (1, .int 0)]) hx hb dX4_weigh_66 hl (k := 0) rfl (by decide) (by decide) rfl (fun ls hl => ?_)
  refine lv_goto (tgt := 23) hx hb dX4_weigh_69 (by decide) ?_
  refine lv_iload_n hx hb dX4_weigh_23 rfl (lv_at hl 0 rfl) ?_
  refine lv_iconst (v := 3) hx hb dX4_weigh_24 (by decide) ?_
  refine lv_icmp_ge (tgt := 72) hx hb dX4_weigh_25 (by decide) (fun c_25_13 => absurd c_25_13 (by decide +kernel)) (fun _ => ?_)
  refine lv_aload_n hx hb dX4_weigh_28 rfl (lv_at hl 2 rfl) ?_
  refine va_get (D := D) (ci := 7) (v := .ref p5) (C := RX4) (T := TX4) (N := 14) hx hb hts iRX4 hown hK hP 22 rfl rfl 5 (by decide) (hts _ q43) (fun _ h9 => h9) rfl dX4_weigh_29 ?_
  refine lv_iload_n hx hb dX4_weigh_32 rfl (lv_at hl 1 rfl) ?_
  refine va_aldA hx hb hK hP 0 3 rfl rfl (z_in 0 (by decide) (by decide)) dX4_weigh_33 ?_
  rw [show va_rf ((fun k9 => if k9 < 9 then some (rt k9) else none) (0 : Int32).toNatClampNeg) = .ref (rt 0) from rfl]
  refine lv_iload_n hx hb dX4_weigh_34 rfl (lv_at hl 0 rfl) ?_
  refine lv_aload_n hx hb dX4_weigh_35 rfl (lv_at hl 2 rfl) ?_
  refine va_get (D := D) (ci := 7) (v := .ref p3) (C := RX4) (T := TX4) (N := 14) hx hb hts iRX4 hown hK hP 22 rfl rfl 3 (by decide) (hts _ q39) (fun _ h9 => h9) rfl dX4_weigh_36 ?_
  refine lv_iload_n hx hb dX4_weigh_39 rfl (lv_at hl 1 rfl) ?_
  refine va_iald hx hb hK hP 11 0 rfl rfl (z_in 0 (by decide) (by decide)) dX4_weigh_40 ?_
  refine lv_topi (fun y15 ey15 => ?_)
  obtain rfl : y15 = (-1) := ey15.trans rfl
  refine lv_iconst (v := (-1)) hx hb dX4_weigh_41 (by decide) ?_
  refine lv_icmp_ne (tgt := 49) hx hb dX4_weigh_42 (by decide) (fun c_42_15 => absurd (by decide +kernel) c_42_15) (fun _ => ?_)
  refine lv_lconst (v := 0) hx hb dX4_weigh_45 rfl ?_
  refine lv_goto (tgt := 65) hx hb dX4_weigh_46 (by decide) ?_
  refine va_last hx hb hK hP hD hS 1 1 rfl rfl (z_in 2 (by decide) (by decide)) dX4_weigh_65 (fun H locs hP hD hS => ?_)
  have hP : va_P D vwCl [(p5, .inl (cy 3, 9, .inr (.inr (.inr (.inr (fun k9 => if k9 < 9 then some (rt k9) else none)))))), ((rt 0), .inl (cy 1, 3, .inr (.inl (vp_updL (vp_updL (vp_updL (fun _ => 0) (0 : Int32).toNatClampNeg 0) (1 : Int32).toNatClampNeg 0) (2 : Int32).toNatClampNeg 0)))), ((rt 1), .inl (cy 1, 3, .inr (.inl (fun _ => 0)))), ((rt 2), .inl (cy 1, 3, .inr (.inl (fun _ => 0)))), ((rt 3), .inl (cy 1, 3, .inr (.inl (fun _ => 0)))), ((rt 4), .inl (cy 1, 3, .inr (.inl (fun _ => 0)))), ((rt 5), .inl (cy 1, 3, .inr (.inl (fun _ => 0)))), ((rt 6), .inl (cy 1, 3, .inr (.inl (fun _ => 0)))), ((rt 7), .inl (cy 1, 3, .inr (.inl (fun _ => 0)))), ((rt 8), .inl (cy 1, 3, .inr (.inl (fun _ => 0)))), (p2, .inl (cy 2, 9, .inl (fun _ => 0))), (p3, .inl (cy 0, 9, .inl (fun _ => (-1)))), (vC, .inr (3, [.ref sS, .ref sJ, .int 0, .int 0])), (p4, .inl (cy 3, 8, .inr (.inr (.inr (.inr (fun k9 => if k9 < 8 then some (rn k9) else none)))))), ((rn 0), .inl (cy 1, 11, .inr (.inl (fun _ => 0)))), ((rn 1), .inl (cy 1, 11, .inr (.inl (fun _ => 0)))), ((rn 2), .inl (cy 1, 11, .inr (.inl (fun _ => 0)))), ((rn 3), .inl (cy 1, 11, .inr (.inl (fun _ => 0)))), ((rn 4), .inl (cy 1, 11, .inr (.inl (fun _ => 0)))), ((rn 5), .inl (cy 1, 11, .inr (.inl (fun _ => 0)))), ((rn 6), .inl (cy 1, 11, .inr (.inl (fun _ => 0)))), ((rn 7), .inl (cy 1, 11, .inr (.inl (fun _ => 0)))), (h0, .inr (7, [.ref vC, .ref p1, .ref p2, .ref p3, .ref p4, .ref p5, .ref p6, .ref p7, .int e1, .long e2, .ref p8, .int 0, .int x2, .long 1]))] H := hP
  have hD : va_D A [(p5, .inl (cy 3, 9, .inr (.inr (.inr (.inr (fun k9 => if k9 < 9 then some (rt k9) else none)))))), ((rt 0), .inl (cy 1, 3, .inr (.inl (vp_updL (vp_updL (vp_updL (fun _ => 0) (0 : Int32).toNatClampNeg 0) (1 : Int32).toNatClampNeg 0) (2 : Int32).toNatClampNeg 0)))), ((rt 1), .inl (cy 1, 3, .inr (.inl (fun _ => 0)))), ((rt 2), .inl (cy 1, 3, .inr (.inl (fun _ => 0)))), ((rt 3), .inl (cy 1, 3, .inr (.inl (fun _ => 0)))), ((rt 4), .inl (cy 1, 3, .inr (.inl (fun _ => 0)))), ((rt 5), .inl (cy 1, 3, .inr (.inl (fun _ => 0)))), ((rt 6), .inl (cy 1, 3, .inr (.inl (fun _ => 0)))), ((rt 7), .inl (cy 1, 3, .inr (.inl (fun _ => 0)))), ((rt 8), .inl (cy 1, 3, .inr (.inl (fun _ => 0)))), (p2, .inl (cy 2, 9, .inl (fun _ => 0))), (p3, .inl (cy 0, 9, .inl (fun _ => (-1)))), (vC, .inr (3, [.ref sS, .ref sJ, .int 0, .int 0])), (p4, .inl (cy 3, 8, .inr (.inr (.inr (.inr (fun k9 => if k9 < 8 then some (rn k9) else none)))))), ((rn 0), .inl (cy 1, 11, .inr (.inl (fun _ => 0)))), ((rn 1), .inl (cy 1, 11, .inr (.inl (fun _ => 0)))), ((rn 2), .inl (cy 1, 11, .inr (.inl (fun _ => 0)))), ((rn 3), .inl (cy 1, 11, .inr (.inl (fun _ => 0)))), ((rn 4), .inl (cy 1, 11, .inr (.inl (fun _ => 0)))), ((rn 5), .inl (cy 1, 11, .inr (.inl (fun _ => 0)))), ((rn 6), .inl (cy 1, 11, .inr (.inl (fun _ => 0)))), ((rn 7), .inl (cy 1, 11, .inr (.inl (fun _ => 0)))), (h0, .inr (7, [.ref vC, .ref p1, .ref p2, .ref p3, .ref p4, .ref p5, .ref p6, .ref p7, .int e1, .long e2, .ref p8, .int 0, .int x2, .long 1]))] := hD
  refine lv_iinc (v := 3) (lv' := [(3, .int 3), (2, .int 0), (0, .ref h0), (1, .int 0)]) hx hb dX4_weigh_66 hl (k := 0) rfl (by decide) (by decide) rfl (fun ls hl => ?_)
  refine lv_goto (tgt := 23) hx hb dX4_weigh_69 (by decide) ?_
  refine lv_iload_n hx hb dX4_weigh_23 rfl (lv_at hl 0 rfl) ?_
  refine lv_iconst (v := 3) hx hb dX4_weigh_24 (by decide) ?_
  refine lv_icmp_ge (tgt := 72) hx hb dX4_weigh_25 (by decide) (fun _ => ?_) (fun c_25_16 => absurd (by decide +kernel) c_25_16)
  obtain ⟨hP, hD⟩ := zP_l (fun _ => 0) hP hD (q := 1) rfl (fun j hj => by rcases (show j = 0 ∨ j = 1 ∨ j = 2 by omega) with rfl | rfl | rfl <;> rfl)
  have hP : va_P D vwCl [(p5, .inl (cy 3, 9, .inr (.inr (.inr (.inr (fun k9 => if k9 < 9 then some (rt k9) else none)))))), ((rt 0), .inl (cy 1, 3, .inr (.inl (fun _ => 0)))), ((rt 1), .inl (cy 1, 3, .inr (.inl (fun _ => 0)))), ((rt 2), .inl (cy 1, 3, .inr (.inl (fun _ => 0)))), ((rt 3), .inl (cy 1, 3, .inr (.inl (fun _ => 0)))), ((rt 4), .inl (cy 1, 3, .inr (.inl (fun _ => 0)))), ((rt 5), .inl (cy 1, 3, .inr (.inl (fun _ => 0)))), ((rt 6), .inl (cy 1, 3, .inr (.inl (fun _ => 0)))), ((rt 7), .inl (cy 1, 3, .inr (.inl (fun _ => 0)))), ((rt 8), .inl (cy 1, 3, .inr (.inl (fun _ => 0)))), (p2, .inl (cy 2, 9, .inl (fun _ => 0))), (p3, .inl (cy 0, 9, .inl (fun _ => (-1)))), (vC, .inr (3, [.ref sS, .ref sJ, .int 0, .int 0])), (p4, .inl (cy 3, 8, .inr (.inr (.inr (.inr (fun k9 => if k9 < 8 then some (rn k9) else none)))))), ((rn 0), .inl (cy 1, 11, .inr (.inl (fun _ => 0)))), ((rn 1), .inl (cy 1, 11, .inr (.inl (fun _ => 0)))), ((rn 2), .inl (cy 1, 11, .inr (.inl (fun _ => 0)))), ((rn 3), .inl (cy 1, 11, .inr (.inl (fun _ => 0)))), ((rn 4), .inl (cy 1, 11, .inr (.inl (fun _ => 0)))), ((rn 5), .inl (cy 1, 11, .inr (.inl (fun _ => 0)))), ((rn 6), .inl (cy 1, 11, .inr (.inl (fun _ => 0)))), ((rn 7), .inl (cy 1, 11, .inr (.inl (fun _ => 0)))), (h0, .inr (7, [.ref vC, .ref p1, .ref p2, .ref p3, .ref p4, .ref p5, .ref p6, .ref p7, .int e1, .long e2, .ref p8, .int 0, .int x2, .long 1]))] H := hP
  have hD : va_D A [(p5, .inl (cy 3, 9, .inr (.inr (.inr (.inr (fun k9 => if k9 < 9 then some (rt k9) else none)))))), ((rt 0), .inl (cy 1, 3, .inr (.inl (fun _ => 0)))), ((rt 1), .inl (cy 1, 3, .inr (.inl (fun _ => 0)))), ((rt 2), .inl (cy 1, 3, .inr (.inl (fun _ => 0)))), ((rt 3), .inl (cy 1, 3, .inr (.inl (fun _ => 0)))), ((rt 4), .inl (cy 1, 3, .inr (.inl (fun _ => 0)))), ((rt 5), .inl (cy 1, 3, .inr (.inl (fun _ => 0)))), ((rt 6), .inl (cy 1, 3, .inr (.inl (fun _ => 0)))), ((rt 7), .inl (cy 1, 3, .inr (.inl (fun _ => 0)))), ((rt 8), .inl (cy 1, 3, .inr (.inl (fun _ => 0)))), (p2, .inl (cy 2, 9, .inl (fun _ => 0))), (p3, .inl (cy 0, 9, .inl (fun _ => (-1)))), (vC, .inr (3, [.ref sS, .ref sJ, .int 0, .int 0])), (p4, .inl (cy 3, 8, .inr (.inr (.inr (.inr (fun k9 => if k9 < 8 then some (rn k9) else none)))))), ((rn 0), .inl (cy 1, 11, .inr (.inl (fun _ => 0)))), ((rn 1), .inl (cy 1, 11, .inr (.inl (fun _ => 0)))), ((rn 2), .inl (cy 1, 11, .inr (.inl (fun _ => 0)))), ((rn 3), .inl (cy 1, 11, .inr (.inl (fun _ => 0)))), ((rn 4), .inl (cy 1, 11, .inr (.inl (fun _ => 0)))), ((rn 5), .inl (cy 1, 11, .inr (.inl (fun _ => 0)))), ((rn 6), .inl (cy 1, 11, .inr (.inl (fun _ => 0)))), ((rn 7), .inl (cy 1, 11, .inr (.inl (fun _ => 0)))), (h0, .inr (7, [.ref vC, .ref p1, .ref p2, .ref p3, .ref p4, .ref p5, .ref p6, .ref p7, .int e1, .long e2, .ref p8, .int 0, .int x2, .long 1]))] := hD
  refine lv_iinc (v := 1) (lv' := [(2, .int 1), (3, .int 3), (0, .ref h0), (1, .int 0)]) hx hb dX4_weigh_72 hl (k := 1) rfl (by decide) (by decide) rfl (fun ls hl => ?_)
  refine lv_goto (tgt := 15) hx hb dX4_weigh_75 (by decide) ?_
  refine lv_iload_n hx hb dX4_weigh_15 rfl (lv_at hl 0 rfl) ?_
  refine lv_bipush (v := 9) hx hb dX4_weigh_16 (by decide) ?_
  refine lv_icmp_ge (tgt := 78) hx hb dX4_weigh_18 (by decide) (fun c_18_17 => absurd c_18_17 (by decide +kernel)) (fun _ => ?_)
  refine lv_iconst (v := 0) hx hb dX4_weigh_21 (by decide) ?_
  refine lv_istore_n (lv' := [(3, .int 0), (2, .int 1), (0, .ref h0), (1, .int 0)]) hx hb dX4_weigh_22 rfl hl (by decide) rfl (fun ls hl => ?_)
  refine lv_iload_n hx hb dX4_weigh_23 rfl (lv_at hl 0 rfl) ?_
  refine lv_iconst (v := 3) hx hb dX4_weigh_24 (by decide) ?_
  refine lv_icmp_ge (tgt := 72) hx hb dX4_weigh_25 (by decide) (fun c_25_18 => absurd c_25_18 (by decide +kernel)) (fun _ => ?_)
  refine lv_aload_n hx hb dX4_weigh_28 rfl (lv_at hl 2 rfl) ?_
  refine va_get (D := D) (ci := 7) (v := .ref p5) (C := RX4) (T := TX4) (N := 14) hx hb hts iRX4 hown hK hP 22 rfl rfl 5 (by decide) (hts _ q43) (fun _ h9 => h9) rfl dX4_weigh_29 ?_
  refine lv_iload_n hx hb dX4_weigh_32 rfl (lv_at hl 1 rfl) ?_
  refine va_aldA hx hb hK hP 0 3 rfl rfl (z_in 1 (by decide) (by decide)) dX4_weigh_33 ?_
  rw [show va_rf ((fun k9 => if k9 < 9 then some (rt k9) else none) (1 : Int32).toNatClampNeg) = .ref (rt 1) from rfl]
  refine lv_iload_n hx hb dX4_weigh_34 rfl (lv_at hl 0 rfl) ?_
  refine lv_aload_n hx hb dX4_weigh_35 rfl (lv_at hl 2 rfl) ?_
  refine va_get (D := D) (ci := 7) (v := .ref p3) (C := RX4) (T := TX4) (N := 14) hx hb hts iRX4 hown hK hP 22 rfl rfl 3 (by decide) (hts _ q39) (fun _ h9 => h9) rfl dX4_weigh_36 ?_
  refine lv_iload_n hx hb dX4_weigh_39 rfl (lv_at hl 1 rfl) ?_
  refine va_iald hx hb hK hP 11 0 rfl rfl (z_in 1 (by decide) (by decide)) dX4_weigh_40 ?_
  refine lv_topi (fun y20 ey20 => ?_)
  obtain rfl : y20 = (-1) := ey20.trans rfl
  refine lv_iconst (v := (-1)) hx hb dX4_weigh_41 (by decide) ?_
  refine lv_icmp_ne (tgt := 49) hx hb dX4_weigh_42 (by decide) (fun c_42_20 => absurd (by decide +kernel) c_42_20) (fun _ => ?_)
  refine lv_lconst (v := 0) hx hb dX4_weigh_45 rfl ?_
  refine lv_goto (tgt := 65) hx hb dX4_weigh_46 (by decide) ?_
  refine va_last hx hb hK hP hD hS 2 1 rfl rfl (z_in 0 (by decide) (by decide)) dX4_weigh_65 (fun H locs hP hD hS => ?_)
  have hP : va_P D vwCl [(p5, .inl (cy 3, 9, .inr (.inr (.inr (.inr (fun k9 => if k9 < 9 then some (rt k9) else none)))))), ((rt 0), .inl (cy 1, 3, .inr (.inl (fun _ => 0)))), ((rt 1), .inl (cy 1, 3, .inr (.inl (vp_updL (fun _ => 0) (0 : Int32).toNatClampNeg 0)))), ((rt 2), .inl (cy 1, 3, .inr (.inl (fun _ => 0)))), ((rt 3), .inl (cy 1, 3, .inr (.inl (fun _ => 0)))), ((rt 4), .inl (cy 1, 3, .inr (.inl (fun _ => 0)))), ((rt 5), .inl (cy 1, 3, .inr (.inl (fun _ => 0)))), ((rt 6), .inl (cy 1, 3, .inr (.inl (fun _ => 0)))), ((rt 7), .inl (cy 1, 3, .inr (.inl (fun _ => 0)))), ((rt 8), .inl (cy 1, 3, .inr (.inl (fun _ => 0)))), (p2, .inl (cy 2, 9, .inl (fun _ => 0))), (p3, .inl (cy 0, 9, .inl (fun _ => (-1)))), (vC, .inr (3, [.ref sS, .ref sJ, .int 0, .int 0])), (p4, .inl (cy 3, 8, .inr (.inr (.inr (.inr (fun k9 => if k9 < 8 then some (rn k9) else none)))))), ((rn 0), .inl (cy 1, 11, .inr (.inl (fun _ => 0)))), ((rn 1), .inl (cy 1, 11, .inr (.inl (fun _ => 0)))), ((rn 2), .inl (cy 1, 11, .inr (.inl (fun _ => 0)))), ((rn 3), .inl (cy 1, 11, .inr (.inl (fun _ => 0)))), ((rn 4), .inl (cy 1, 11, .inr (.inl (fun _ => 0)))), ((rn 5), .inl (cy 1, 11, .inr (.inl (fun _ => 0)))), ((rn 6), .inl (cy 1, 11, .inr (.inl (fun _ => 0)))), ((rn 7), .inl (cy 1, 11, .inr (.inl (fun _ => 0)))), (h0, .inr (7, [.ref vC, .ref p1, .ref p2, .ref p3, .ref p4, .ref p5, .ref p6, .ref p7, .int e1, .long e2, .ref p8, .int 0, .int x2, .long 1]))] H := hP
  have hD : va_D A [(p5, .inl (cy 3, 9, .inr (.inr (.inr (.inr (fun k9 => if k9 < 9 then some (rt k9) else none)))))), ((rt 0), .inl (cy 1, 3, .inr (.inl (fun _ => 0)))), ((rt 1), .inl (cy 1, 3, .inr (.inl (vp_updL (fun _ => 0) (0 : Int32).toNatClampNeg 0)))), ((rt 2), .inl (cy 1, 3, .inr (.inl (fun _ => 0)))), ((rt 3), .inl (cy 1, 3, .inr (.inl (fun _ => 0)))), ((rt 4), .inl (cy 1, 3, .inr (.inl (fun _ => 0)))), ((rt 5), .inl (cy 1, 3, .inr (.inl (fun _ => 0)))), ((rt 6), .inl (cy 1, 3, .inr (.inl (fun _ => 0)))), ((rt 7), .inl (cy 1, 3, .inr (.inl (fun _ => 0)))), ((rt 8), .inl (cy 1, 3, .inr (.inl (fun _ => 0)))), (p2, .inl (cy 2, 9, .inl (fun _ => 0))), (p3, .inl (cy 0, 9, .inl (fun _ => (-1)))), (vC, .inr (3, [.ref sS, .ref sJ, .int 0, .int 0])), (p4, .inl (cy 3, 8, .inr (.inr (.inr (.inr (fun k9 => if k9 < 8 then some (rn k9) else none)))))), ((rn 0), .inl (cy 1, 11, .inr (.inl (fun _ => 0)))), ((rn 1), .inl (cy 1, 11, .inr (.inl (fun _ => 0)))), ((rn 2), .inl (cy 1, 11, .inr (.inl (fun _ => 0)))), ((rn 3), .inl (cy 1, 11, .inr (.inl (fun _ => 0)))), ((rn 4), .inl (cy 1, 11, .inr (.inl (fun _ => 0)))), ((rn 5), .inl (cy 1, 11, .inr (.inl (fun _ => 0)))), ((rn 6), .inl (cy 1, 11, .inr (.inl (fun _ => 0)))), ((rn 7), .inl (cy 1, 11, .inr (.inl (fun _ => 0)))), (h0, .inr (7, [.ref vC, .ref p1, .ref p2, .ref p3, .ref p4, .ref p5, .ref p6, .ref p7, .int e1, .long e2, .ref p8, .int 0, .int x2, .long 1]))] := hD
  refine lv_iinc (v := 1) (lv' := [(3, .int 1), (2, .int 1), (0, .ref h0), (1, .int 0)]) hx hb dX4_weigh_66 hl (k := 0) rfl (by decide) (by decide) rfl (fun ls hl => ?_)
  refine lv_goto (tgt := 23) hx hb dX4_weigh_69 (by decide) ?_
  refine lv_iload_n hx hb dX4_weigh_23 rfl (lv_at hl 0 rfl) ?_
  refine lv_iconst (v := 3) hx hb dX4_weigh_24 (by decide) ?_
  refine lv_icmp_ge (tgt := 72) hx hb dX4_weigh_25 (by decide) (fun c_25_21 => absurd c_25_21 (by decide +kernel)) (fun _ => ?_)
  refine lv_aload_n hx hb dX4_weigh_28 rfl (lv_at hl 2 rfl) ?_
  refine va_get (D := D) (ci := 7) (v := .ref p5) (C := RX4) (T := TX4) (N := 14) hx hb hts iRX4 hown hK hP 22 rfl rfl 5 (by decide) (hts _ q43) (fun _ h9 => h9) rfl dX4_weigh_29 ?_
  refine lv_iload_n hx hb dX4_weigh_32 rfl (lv_at hl 1 rfl) ?_
  refine va_aldA hx hb hK hP 0 3 rfl rfl (z_in 1 (by decide) (by decide)) dX4_weigh_33 ?_
  rw [show va_rf ((fun k9 => if k9 < 9 then some (rt k9) else none) (1 : Int32).toNatClampNeg) = .ref (rt 1) from rfl]
  refine lv_iload_n hx hb dX4_weigh_34 rfl (lv_at hl 0 rfl) ?_
  refine lv_aload_n hx hb dX4_weigh_35 rfl (lv_at hl 2 rfl) ?_
  refine va_get (D := D) (ci := 7) (v := .ref p3) (C := RX4) (T := TX4) (N := 14) hx hb hts iRX4 hown hK hP 22 rfl rfl 3 (by decide) (hts _ q39) (fun _ h9 => h9) rfl dX4_weigh_36 ?_
  refine lv_iload_n hx hb dX4_weigh_39 rfl (lv_at hl 1 rfl) ?_
  refine va_iald hx hb hK hP 11 0 rfl rfl (z_in 1 (by decide) (by decide)) dX4_weigh_40 ?_
  refine lv_topi (fun y23 ey23 => ?_)
  obtain rfl : y23 = (-1) := ey23.trans rfl
  refine lv_iconst (v := (-1)) hx hb dX4_weigh_41 (by decide) ?_
  refine lv_icmp_ne (tgt := 49) hx hb dX4_weigh_42 (by decide) (fun c_42_23 => absurd (by decide +kernel) c_42_23) (fun _ => ?_)
  refine lv_lconst (v := 0) hx hb dX4_weigh_45 rfl ?_
  refine lv_goto (tgt := 65) hx hb dX4_weigh_46 (by decide) ?_
  refine va_last hx hb hK hP hD hS 2 1 rfl rfl (z_in 1 (by decide) (by decide)) dX4_weigh_65 (fun H locs hP hD hS => ?_)
  have hP : va_P D vwCl [(p5, .inl (cy 3, 9, .inr (.inr (.inr (.inr (fun k9 => if k9 < 9 then some (rt k9) else none)))))), ((rt 0), .inl (cy 1, 3, .inr (.inl (fun _ => 0)))), ((rt 1), .inl (cy 1, 3, .inr (.inl (vp_updL (vp_updL (fun _ => 0) (0 : Int32).toNatClampNeg 0) (1 : Int32).toNatClampNeg 0)))), ((rt 2), .inl (cy 1, 3, .inr (.inl (fun _ => 0)))), ((rt 3), .inl (cy 1, 3, .inr (.inl (fun _ => 0)))), ((rt 4), .inl (cy 1, 3, .inr (.inl (fun _ => 0)))), ((rt 5), .inl (cy 1, 3, .inr (.inl (fun _ => 0)))), ((rt 6), .inl (cy 1, 3, .inr (.inl (fun _ => 0)))), ((rt 7), .inl (cy 1, 3, .inr (.inl (fun _ => 0)))), ((rt 8), .inl (cy 1, 3, .inr (.inl (fun _ => 0)))), (p2, .inl (cy 2, 9, .inl (fun _ => 0))), (p3, .inl (cy 0, 9, .inl (fun _ => (-1)))), (vC, .inr (3, [.ref sS, .ref sJ, .int 0, .int 0])), (p4, .inl (cy 3, 8, .inr (.inr (.inr (.inr (fun k9 => if k9 < 8 then some (rn k9) else none)))))), ((rn 0), .inl (cy 1, 11, .inr (.inl (fun _ => 0)))), ((rn 1), .inl (cy 1, 11, .inr (.inl (fun _ => 0)))), ((rn 2), .inl (cy 1, 11, .inr (.inl (fun _ => 0)))), ((rn 3), .inl (cy 1, 11, .inr (.inl (fun _ => 0)))), ((rn 4), .inl (cy 1, 11, .inr (.inl (fun _ => 0)))), ((rn 5), .inl (cy 1, 11, .inr (.inl (fun _ => 0)))), ((rn 6), .inl (cy 1, 11, .inr (.inl (fun _ => 0)))), ((rn 7), .inl (cy 1, 11, .inr (.inl (fun _ => 0)))), (h0, .inr (7, [.ref vC, .ref p1, .ref p2, .ref p3, .ref p4, .ref p5, .ref p6, .ref p7, .int e1, .long e2, .ref p8, .int 0, .int x2, .long 1]))] H := hP
  have hD : va_D A [(p5, .inl (cy 3, 9, .inr (.inr (.inr (.inr (fun k9 => if k9 < 9 then some (rt k9) else none)))))), ((rt 0), .inl (cy 1, 3, .inr (.inl (fun _ => 0)))), ((rt 1), .inl (cy 1, 3, .inr (.inl (vp_updL (vp_updL (fun _ => 0) (0 : Int32).toNatClampNeg 0) (1 : Int32).toNatClampNeg 0)))), ((rt 2), .inl (cy 1, 3, .inr (.inl (fun _ => 0)))), ((rt 3), .inl (cy 1, 3, .inr (.inl (fun _ => 0)))), ((rt 4), .inl (cy 1, 3, .inr (.inl (fun _ => 0)))), ((rt 5), .inl (cy 1, 3, .inr (.inl (fun _ => 0)))), ((rt 6), .inl (cy 1, 3, .inr (.inl (fun _ => 0)))), ((rt 7), .inl (cy 1, 3, .inr (.inl (fun _ => 0)))), ((rt 8), .inl (cy 1, 3, .inr (.inl (fun _ => 0)))), (p2, .inl (cy 2, 9, .inl (fun _ => 0))), (p3, .inl (cy 0, 9, .inl (fun _ => (-1)))), (vC, .inr (3, [.ref sS, .ref sJ, .int 0, .int 0])), (p4, .inl (cy 3, 8, .inr (.inr (.inr (.inr (fun k9 => if k9 < 8 then some (rn k9) else none)))))), ((rn 0), .inl (cy 1, 11, .inr (.inl (fun _ => 0)))), ((rn 1), .inl (cy 1, 11, .inr (.inl (fun _ => 0)))), ((rn 2), .inl (cy 1, 11, .inr (.inl (fun _ => 0)))), ((rn 3), .inl (cy 1, 11, .inr (.inl (fun _ => 0)))), ((rn 4), .inl (cy 1, 11, .inr (.inl (fun _ => 0)))), ((rn 5), .inl (cy 1, 11, .inr (.inl (fun _ => 0)))), ((rn 6), .inl (cy 1, 11, .inr (.inl (fun _ => 0)))), ((rn 7), .inl (cy 1, 11, .inr (.inl (fun _ => 0)))), (h0, .inr (7, [.ref vC, .ref p1, .ref p2, .ref p3, .ref p4, .ref p5, .ref p6, .ref p7, .int e1, .long e2, .ref p8, .int 0, .int x2, .long 1]))] := hD
  refine lv_iinc (v := 2) (lv' := [(3, .int 2), (2, .int 1), (0, .ref h0), (1, .int 0)]) hx hb dX4_weigh_66 hl (k := 0) rfl (by decide) (by decide) rfl (fun ls hl => ?_)
  refine lv_goto (tgt := 23) hx hb dX4_weigh_69 (by decide) ?_
  refine lv_iload_n hx hb dX4_weigh_23 rfl (lv_at hl 0 rfl) ?_
  refine lv_iconst (v := 3) hx hb dX4_weigh_24 (by decide) ?_
  refine lv_icmp_ge (tgt := 72) hx hb dX4_weigh_25 (by decide) (fun c_25_24 => absurd c_25_24 (by decide +kernel)) (fun _ => ?_)
  refine lv_aload_n hx hb dX4_weigh_28 rfl (lv_at hl 2 rfl) ?_
  refine va_get (D := D) (ci := 7) (v := .ref p5) (C := RX4) (T := TX4) (N := 14) hx hb hts iRX4 hown hK hP 22 rfl rfl 5 (by decide) (hts _ q43) (fun _ h9 => h9) rfl dX4_weigh_29 ?_
  refine lv_iload_n hx hb dX4_weigh_32 rfl (lv_at hl 1 rfl) ?_
  refine va_aldA hx hb hK hP 0 3 rfl rfl (z_in 1 (by decide) (by decide)) dX4_weigh_33 ?_
  rw [show va_rf ((fun k9 => if k9 < 9 then some (rt k9) else none) (1 : Int32).toNatClampNeg) = .ref (rt 1) from rfl]
  refine lv_iload_n hx hb dX4_weigh_34 rfl (lv_at hl 0 rfl) ?_
  refine lv_aload_n hx hb dX4_weigh_35 rfl (lv_at hl 2 rfl) ?_
  refine va_get (D := D) (ci := 7) (v := .ref p3) (C := RX4) (T := TX4) (N := 14) hx hb hts iRX4 hown hK hP 22 rfl rfl 3 (by decide) (hts _ q39) (fun _ h9 => h9) rfl dX4_weigh_36 ?_
  refine lv_iload_n hx hb dX4_weigh_39 rfl (lv_at hl 1 rfl) ?_
  refine va_iald hx hb hK hP 11 0 rfl rfl (z_in 1 (by decide) (by decide)) dX4_weigh_40 ?_
  refine lv_topi (fun y26 ey26 => ?_)
  obtain rfl : y26 = (-1) := ey26.trans rfl
  refine lv_iconst (v := (-1)) hx hb dX4_weigh_41 (by decide) ?_
  refine lv_icmp_ne (tgt := 49) hx hb dX4_weigh_42 (by decide) (fun c_42_26 => absurd (by decide +kernel) c_42_26) (fun _ => ?_)
  refine lv_lconst (v := 0) hx hb dX4_weigh_45 rfl ?_
  refine lv_goto (tgt := 65) hx hb dX4_weigh_46 (by decide) ?_
  refine va_last hx hb hK hP hD hS 2 1 rfl rfl (z_in 2 (by decide) (by decide)) dX4_weigh_65 (fun H locs hP hD hS => ?_)
  have hP : va_P D vwCl [(p5, .inl (cy 3, 9, .inr (.inr (.inr (.inr (fun k9 => if k9 < 9 then some (rt k9) else none)))))), ((rt 0), .inl (cy 1, 3, .inr (.inl (fun _ => 0)))), ((rt 1), .inl (cy 1, 3, .inr (.inl (vp_updL (vp_updL (vp_updL (fun _ => 0) (0 : Int32).toNatClampNeg 0) (1 : Int32).toNatClampNeg 0) (2 : Int32).toNatClampNeg 0)))), ((rt 2), .inl (cy 1, 3, .inr (.inl (fun _ => 0)))), ((rt 3), .inl (cy 1, 3, .inr (.inl (fun _ => 0)))), ((rt 4), .inl (cy 1, 3, .inr (.inl (fun _ => 0)))), ((rt 5), .inl (cy 1, 3, .inr (.inl (fun _ => 0)))), ((rt 6), .inl (cy 1, 3, .inr (.inl (fun _ => 0)))), ((rt 7), .inl (cy 1, 3, .inr (.inl (fun _ => 0)))), ((rt 8), .inl (cy 1, 3, .inr (.inl (fun _ => 0)))), (p2, .inl (cy 2, 9, .inl (fun _ => 0))), (p3, .inl (cy 0, 9, .inl (fun _ => (-1)))), (vC, .inr (3, [.ref sS, .ref sJ, .int 0, .int 0])), (p4, .inl (cy 3, 8, .inr (.inr (.inr (.inr (fun k9 => if k9 < 8 then some (rn k9) else none)))))), ((rn 0), .inl (cy 1, 11, .inr (.inl (fun _ => 0)))), ((rn 1), .inl (cy 1, 11, .inr (.inl (fun _ => 0)))), ((rn 2), .inl (cy 1, 11, .inr (.inl (fun _ => 0)))), ((rn 3), .inl (cy 1, 11, .inr (.inl (fun _ => 0)))), ((rn 4), .inl (cy 1, 11, .inr (.inl (fun _ => 0)))), ((rn 5), .inl (cy 1, 11, .inr (.inl (fun _ => 0)))), ((rn 6), .inl (cy 1, 11, .inr (.inl (fun _ => 0)))), ((rn 7), .inl (cy 1, 11, .inr (.inl (fun _ => 0)))), (h0, .inr (7, [.ref vC, .ref p1, .ref p2, .ref p3, .ref p4, .ref p5, .ref p6, .ref p7, .int e1, .long e2, .ref p8, .int 0, .int x2, .long 1]))] H := hP
  have hD : va_D A [(p5, .inl (cy 3, 9, .inr (.inr (.inr (.inr (fun k9 => if k9 < 9 then some (rt k9) else none)))))), ((rt 0), .inl (cy 1, 3, .inr (.inl (fun _ => 0)))), ((rt 1), .inl (cy 1, 3, .inr (.inl (vp_updL (vp_updL (vp_updL (fun _ => 0) (0 : Int32).toNatClampNeg 0) (1 : Int32).toNatClampNeg 0) (2 : Int32).toNatClampNeg 0)))), ((rt 2), .inl (cy 1, 3, .inr (.inl (fun _ => 0)))), ((rt 3), .inl (cy 1, 3, .inr (.inl (fun _ => 0)))), ((rt 4), .inl (cy 1, 3, .inr (.inl (fun _ => 0)))), ((rt 5), .inl (cy 1, 3, .inr (.inl (fun _ => 0)))), ((rt 6), .inl (cy 1, 3, .inr (.inl (fun _ => 0)))), ((rt 7), .inl (cy 1, 3, .inr (.inl (fun _ => 0)))), ((rt 8), .inl (cy 1, 3, .inr (.inl (fun _ => 0)))), (p2, .inl (cy 2, 9, .inl (fun _ => 0))), (p3, .inl (cy 0, 9, .inl (fun _ => (-1)))), (vC, .inr (3, [.ref sS, .ref sJ, .int 0, .int 0])), (p4, .inl (cy 3, 8, .inr (.inr (.inr (.inr (fun k9 => if k9 < 8 then some (rn k9) else none)))))), ((rn 0), .inl (cy 1, 11, .inr (.inl (fun _ => 0)))), ((rn 1), .inl (cy 1, 11, .inr (.inl (fun _ => 0)))), ((rn 2), .inl (cy 1, 11, .inr (.inl (fun _ => 0)))), ((rn 3), .inl (cy 1, 11, .inr (.inl (fun _ => 0)))), ((rn 4), .inl (cy 1, 11, .inr (.inl (fun _ => 0)))), ((rn 5), .inl (cy 1, 11, .inr (.inl (fun _ => 0)))), ((rn 6), .inl (cy 1, 11, .inr (.inl (fun _ => 0)))), ((rn 7), .inl (cy 1, 11, .inr (.inl (fun _ => 0)))), (h0, .inr (7, [.ref vC, .ref p1, .ref p2, .ref p3, .ref p4, .ref p5, .ref p6, .ref p7, .int e1, .long e2, .ref p8, .int 0, .int x2, .long 1]))] := hD
  refine lv_iinc (v := 3) (lv' := [(3, .int 3), (2, .int 1), (0, .ref h0), (1, .int 0)]) hx hb dX4_weigh_66 hl (k := 0) rfl (by decide) (by decide) rfl (fun ls hl => ?_)
  refine lv_goto (tgt := 23) hx hb dX4_weigh_69 (by decide) ?_
  refine lv_iload_n hx hb dX4_weigh_23 rfl (lv_at hl 0 rfl) ?_
  refine lv_iconst (v := 3) hx hb dX4_weigh_24 (by decide) ?_
  refine lv_icmp_ge (tgt := 72) hx hb dX4_weigh_25 (by decide) (fun _ => ?_) (fun c_25_27 => absurd (by decide +kernel) c_25_27)
  obtain ⟨hP, hD⟩ := zP_l (fun _ => 0) hP hD (q := 2) rfl (fun j hj => by rcases (show j = 0 ∨ j = 1 ∨ j = 2 by omega) with rfl | rfl | rfl <;> rfl)
  have hP : va_P D vwCl [(p5, .inl (cy 3, 9, .inr (.inr (.inr (.inr (fun k9 => if k9 < 9 then some (rt k9) else none)))))), ((rt 0), .inl (cy 1, 3, .inr (.inl (fun _ => 0)))), ((rt 1), .inl (cy 1, 3, .inr (.inl (fun _ => 0)))), ((rt 2), .inl (cy 1, 3, .inr (.inl (fun _ => 0)))), ((rt 3), .inl (cy 1, 3, .inr (.inl (fun _ => 0)))), ((rt 4), .inl (cy 1, 3, .inr (.inl (fun _ => 0)))), ((rt 5), .inl (cy 1, 3, .inr (.inl (fun _ => 0)))), ((rt 6), .inl (cy 1, 3, .inr (.inl (fun _ => 0)))), ((rt 7), .inl (cy 1, 3, .inr (.inl (fun _ => 0)))), ((rt 8), .inl (cy 1, 3, .inr (.inl (fun _ => 0)))), (p2, .inl (cy 2, 9, .inl (fun _ => 0))), (p3, .inl (cy 0, 9, .inl (fun _ => (-1)))), (vC, .inr (3, [.ref sS, .ref sJ, .int 0, .int 0])), (p4, .inl (cy 3, 8, .inr (.inr (.inr (.inr (fun k9 => if k9 < 8 then some (rn k9) else none)))))), ((rn 0), .inl (cy 1, 11, .inr (.inl (fun _ => 0)))), ((rn 1), .inl (cy 1, 11, .inr (.inl (fun _ => 0)))), ((rn 2), .inl (cy 1, 11, .inr (.inl (fun _ => 0)))), ((rn 3), .inl (cy 1, 11, .inr (.inl (fun _ => 0)))), ((rn 4), .inl (cy 1, 11, .inr (.inl (fun _ => 0)))), ((rn 5), .inl (cy 1, 11, .inr (.inl (fun _ => 0)))), ((rn 6), .inl (cy 1, 11, .inr (.inl (fun _ => 0)))), ((rn 7), .inl (cy 1, 11, .inr (.inl (fun _ => 0)))), (h0, .inr (7, [.ref vC, .ref p1, .ref p2, .ref p3, .ref p4, .ref p5, .ref p6, .ref p7, .int e1, .long e2, .ref p8, .int 0, .int x2, .long 1]))] H := hP
  have hD : va_D A [(p5, .inl (cy 3, 9, .inr (.inr (.inr (.inr (fun k9 => if k9 < 9 then some (rt k9) else none)))))), ((rt 0), .inl (cy 1, 3, .inr (.inl (fun _ => 0)))), ((rt 1), .inl (cy 1, 3, .inr (.inl (fun _ => 0)))), ((rt 2), .inl (cy 1, 3, .inr (.inl (fun _ => 0)))), ((rt 3), .inl (cy 1, 3, .inr (.inl (fun _ => 0)))), ((rt 4), .inl (cy 1, 3, .inr (.inl (fun _ => 0)))), ((rt 5), .inl (cy 1, 3, .inr (.inl (fun _ => 0)))), ((rt 6), .inl (cy 1, 3, .inr (.inl (fun _ => 0)))), ((rt 7), .inl (cy 1, 3, .inr (.inl (fun _ => 0)))), ((rt 8), .inl (cy 1, 3, .inr (.inl (fun _ => 0)))), (p2, .inl (cy 2, 9, .inl (fun _ => 0))), (p3, .inl (cy 0, 9, .inl (fun _ => (-1)))), (vC, .inr (3, [.ref sS, .ref sJ, .int 0, .int 0])), (p4, .inl (cy 3, 8, .inr (.inr (.inr (.inr (fun k9 => if k9 < 8 then some (rn k9) else none)))))), ((rn 0), .inl (cy 1, 11, .inr (.inl (fun _ => 0)))), ((rn 1), .inl (cy 1, 11, .inr (.inl (fun _ => 0)))), ((rn 2), .inl (cy 1, 11, .inr (.inl (fun _ => 0)))), ((rn 3), .inl (cy 1, 11, .inr (.inl (fun _ => 0)))), ((rn 4), .inl (cy 1, 11, .inr (.inl (fun _ => 0)))), ((rn 5), .inl (cy 1, 11, .inr (.inl (fun _ => 0)))), ((rn 6), .inl (cy 1, 11, .inr (.inl (fun _ => 0)))), ((rn 7), .inl (cy 1, 11, .inr (.inl (fun _ => 0)))), (h0, .inr (7, [.ref vC, .ref p1, .ref p2, .ref p3, .ref p4, .ref p5, .ref p6, .ref p7, .int e1, .long e2, .ref p8, .int 0, .int x2, .long 1]))] := hD
  refine lv_iinc (v := 2) (lv' := [(2, .int 2), (3, .int 3), (0, .ref h0), (1, .int 0)]) hx hb dX4_weigh_72 hl (k := 1) rfl (by decide) (by decide) rfl (fun ls hl => ?_)
  refine lv_goto (tgt := 15) hx hb dX4_weigh_75 (by decide) ?_
  refine lv_iload_n hx hb dX4_weigh_15 rfl (lv_at hl 0 rfl) ?_
  refine lv_bipush (v := 9) hx hb dX4_weigh_16 (by decide) ?_
  refine lv_icmp_ge (tgt := 78) hx hb dX4_weigh_18 (by decide) (fun c_18_28 => absurd c_18_28 (by decide +kernel)) (fun _ => ?_)
  refine lv_iconst (v := 0) hx hb dX4_weigh_21 (by decide) ?_
  refine lv_istore_n (lv' := [(3, .int 0), (2, .int 2), (0, .ref h0), (1, .int 0)]) hx hb dX4_weigh_22 rfl hl (by decide) rfl (fun ls hl => ?_)
  refine lv_iload_n hx hb dX4_weigh_23 rfl (lv_at hl 0 rfl) ?_
  refine lv_iconst (v := 3) hx hb dX4_weigh_24 (by decide) ?_
  refine lv_icmp_ge (tgt := 72) hx hb dX4_weigh_25 (by decide) (fun c_25_29 => absurd c_25_29 (by decide +kernel)) (fun _ => ?_)
  refine lv_aload_n hx hb dX4_weigh_28 rfl (lv_at hl 2 rfl) ?_
  refine va_get (D := D) (ci := 7) (v := .ref p5) (C := RX4) (T := TX4) (N := 14) hx hb hts iRX4 hown hK hP 22 rfl rfl 5 (by decide) (hts _ q43) (fun _ h9 => h9) rfl dX4_weigh_29 ?_
  refine lv_iload_n hx hb dX4_weigh_32 rfl (lv_at hl 1 rfl) ?_
  refine va_aldA hx hb hK hP 0 3 rfl rfl (z_in 2 (by decide) (by decide)) dX4_weigh_33 ?_
  rw [show va_rf ((fun k9 => if k9 < 9 then some (rt k9) else none) (2 : Int32).toNatClampNeg) = .ref (rt 2) from rfl]
  refine lv_iload_n hx hb dX4_weigh_34 rfl (lv_at hl 0 rfl) ?_
  refine lv_aload_n hx hb dX4_weigh_35 rfl (lv_at hl 2 rfl) ?_
  refine va_get (D := D) (ci := 7) (v := .ref p3) (C := RX4) (T := TX4) (N := 14) hx hb hts iRX4 hown hK hP 22 rfl rfl 3 (by decide) (hts _ q39) (fun _ h9 => h9) rfl dX4_weigh_36 ?_
  refine lv_iload_n hx hb dX4_weigh_39 rfl (lv_at hl 1 rfl) ?_
  refine va_iald hx hb hK hP 11 0 rfl rfl (z_in 2 (by decide) (by decide)) dX4_weigh_40 ?_
  refine lv_topi (fun y31 ey31 => ?_)
  obtain rfl : y31 = (-1) := ey31.trans rfl
  refine lv_iconst (v := (-1)) hx hb dX4_weigh_41 (by decide) ?_
  refine lv_icmp_ne (tgt := 49) hx hb dX4_weigh_42 (by decide) (fun c_42_31 => absurd (by decide +kernel) c_42_31) (fun _ => ?_)
  refine lv_lconst (v := 0) hx hb dX4_weigh_45 rfl ?_
  refine lv_goto (tgt := 65) hx hb dX4_weigh_46 (by decide) ?_
  refine va_last hx hb hK hP hD hS 3 1 rfl rfl (z_in 0 (by decide) (by decide)) dX4_weigh_65 (fun H locs hP hD hS => ?_)
  have hP : va_P D vwCl [(p5, .inl (cy 3, 9, .inr (.inr (.inr (.inr (fun k9 => if k9 < 9 then some (rt k9) else none)))))), ((rt 0), .inl (cy 1, 3, .inr (.inl (fun _ => 0)))), ((rt 1), .inl (cy 1, 3, .inr (.inl (fun _ => 0)))), ((rt 2), .inl (cy 1, 3, .inr (.inl (vp_updL (fun _ => 0) (0 : Int32).toNatClampNeg 0)))), ((rt 3), .inl (cy 1, 3, .inr (.inl (fun _ => 0)))), ((rt 4), .inl (cy 1, 3, .inr (.inl (fun _ => 0)))), ((rt 5), .inl (cy 1, 3, .inr (.inl (fun _ => 0)))), ((rt 6), .inl (cy 1, 3, .inr (.inl (fun _ => 0)))), ((rt 7), .inl (cy 1, 3, .inr (.inl (fun _ => 0)))), ((rt 8), .inl (cy 1, 3, .inr (.inl (fun _ => 0)))), (p2, .inl (cy 2, 9, .inl (fun _ => 0))), (p3, .inl (cy 0, 9, .inl (fun _ => (-1)))), (vC, .inr (3, [.ref sS, .ref sJ, .int 0, .int 0])), (p4, .inl (cy 3, 8, .inr (.inr (.inr (.inr (fun k9 => if k9 < 8 then some (rn k9) else none)))))), ((rn 0), .inl (cy 1, 11, .inr (.inl (fun _ => 0)))), ((rn 1), .inl (cy 1, 11, .inr (.inl (fun _ => 0)))), ((rn 2), .inl (cy 1, 11, .inr (.inl (fun _ => 0)))), ((rn 3), .inl (cy 1, 11, .inr (.inl (fun _ => 0)))), ((rn 4), .inl (cy 1, 11, .inr (.inl (fun _ => 0)))), ((rn 5), .inl (cy 1, 11, .inr (.inl (fun _ => 0)))), ((rn 6), .inl (cy 1, 11, .inr (.inl (fun _ => 0)))), ((rn 7), .inl (cy 1, 11, .inr (.inl (fun _ => 0)))), (h0, .inr (7, [.ref vC, .ref p1, .ref p2, .ref p3, .ref p4, .ref p5, .ref p6, .ref p7, .int e1, .long e2, .ref p8, .int 0, .int x2, .long 1]))] H := hP
  have hD : va_D A [(p5, .inl (cy 3, 9, .inr (.inr (.inr (.inr (fun k9 => if k9 < 9 then some (rt k9) else none)))))), ((rt 0), .inl (cy 1, 3, .inr (.inl (fun _ => 0)))), ((rt 1), .inl (cy 1, 3, .inr (.inl (fun _ => 0)))), ((rt 2), .inl (cy 1, 3, .inr (.inl (vp_updL (fun _ => 0) (0 : Int32).toNatClampNeg 0)))), ((rt 3), .inl (cy 1, 3, .inr (.inl (fun _ => 0)))), ((rt 4), .inl (cy 1, 3, .inr (.inl (fun _ => 0)))), ((rt 5), .inl (cy 1, 3, .inr (.inl (fun _ => 0)))), ((rt 6), .inl (cy 1, 3, .inr (.inl (fun _ => 0)))), ((rt 7), .inl (cy 1, 3, .inr (.inl (fun _ => 0)))), ((rt 8), .inl (cy 1, 3, .inr (.inl (fun _ => 0)))), (p2, .inl (cy 2, 9, .inl (fun _ => 0))), (p3, .inl (cy 0, 9, .inl (fun _ => (-1)))), (vC, .inr (3, [.ref sS, .ref sJ, .int 0, .int 0])), (p4, .inl (cy 3, 8, .inr (.inr (.inr (.inr (fun k9 => if k9 < 8 then some (rn k9) else none)))))), ((rn 0), .inl (cy 1, 11, .inr (.inl (fun _ => 0)))), ((rn 1), .inl (cy 1, 11, .inr (.inl (fun _ => 0)))), ((rn 2), .inl (cy 1, 11, .inr (.inl (fun _ => 0)))), ((rn 3), .inl (cy 1, 11, .inr (.inl (fun _ => 0)))), ((rn 4), .inl (cy 1, 11, .inr (.inl (fun _ => 0)))), ((rn 5), .inl (cy 1, 11, .inr (.inl (fun _ => 0)))), ((rn 6), .inl (cy 1, 11, .inr (.inl (fun _ => 0)))), ((rn 7), .inl (cy 1, 11, .inr (.inl (fun _ => 0)))), (h0, .inr (7, [.ref vC, .ref p1, .ref p2, .ref p3, .ref p4, .ref p5, .ref p6, .ref p7, .int e1, .long e2, .ref p8, .int 0, .int x2, .long 1]))] := hD
  refine lv_iinc (v := 1) (lv' := [(3, .int 1), (2, .int 2), (0, .ref h0), (1, .int 0)]) hx hb dX4_weigh_66 hl (k := 0) rfl (by decide) (by decide) rfl (fun ls hl => ?_)
  refine lv_goto (tgt := 23) hx hb dX4_weigh_69 (by decide) ?_
  refine lv_iload_n hx hb dX4_weigh_23 rfl (lv_at hl 0 rfl) ?_
  refine lv_iconst (v := 3) hx hb dX4_weigh_24 (by decide) ?_
  refine lv_icmp_ge (tgt := 72) hx hb dX4_weigh_25 (by decide) (fun c_25_32 => absurd c_25_32 (by decide +kernel)) (fun _ => ?_)
  refine lv_aload_n hx hb dX4_weigh_28 rfl (lv_at hl 2 rfl) ?_
  refine va_get (D := D) (ci := 7) (v := .ref p5) (C := RX4) (T := TX4) (N := 14) hx hb hts iRX4 hown hK hP 22 rfl rfl 5 (by decide) (hts _ q43) (fun _ h9 => h9) rfl dX4_weigh_29 ?_
  refine lv_iload_n hx hb dX4_weigh_32 rfl (lv_at hl 1 rfl) ?_
  refine va_aldA hx hb hK hP 0 3 rfl rfl (z_in 2 (by decide) (by decide)) dX4_weigh_33 ?_
  rw [show va_rf ((fun k9 => if k9 < 9 then some (rt k9) else none) (2 : Int32).toNatClampNeg) = .ref (rt 2) from rfl]
  refine lv_iload_n hx hb dX4_weigh_34 rfl (lv_at hl 0 rfl) ?_
  refine lv_aload_n hx hb dX4_weigh_35 rfl (lv_at hl 2 rfl) ?_
  refine va_get (D := D) (ci := 7) (v := .ref p3) (C := RX4) (T := TX4) (N := 14) hx hb hts iRX4 hown hK hP 22 rfl rfl 3 (by decide) (hts _ q39) (fun _ h9 => h9) rfl dX4_weigh_36 ?_
  refine lv_iload_n hx hb dX4_weigh_39 rfl (lv_at hl 1 rfl) ?_
  refine va_iald hx hb hK hP 11 0 rfl rfl (z_in 2 (by decide) (by decide)) dX4_weigh_40 ?_
  refine lv_topi (fun y34 ey34 => ?_)
  obtain rfl : y34 = (-1) := ey34.trans rfl
  refine lv_iconst (v := (-1)) hx hb dX4_weigh_41 (by decide) ?_
  refine lv_icmp_ne (tgt := 49) hx hb dX4_weigh_42 (by decide) (fun c_42_34 => absurd (by decide +kernel) c_42_34) (fun _ => ?_)
  refine lv_lconst (v := 0) hx hb dX4_weigh_45 rfl ?_
  refine lv_goto (tgt := 65) hx hb dX4_weigh_46 (by decide) ?_
  refine va_last hx hb hK hP hD hS 3 1 rfl rfl (z_in 1 (by decide) (by decide)) dX4_weigh_65 (fun H locs hP hD hS => ?_)
  have hP : va_P D vwCl [(p5, .inl (cy 3, 9, .inr (.inr (.inr (.inr (fun k9 => if k9 < 9 then some (rt k9) else none)))))), ((rt 0), .inl (cy 1, 3, .inr (.inl (fun _ => 0)))), ((rt 1), .inl (cy 1, 3, .inr (.inl (fun _ => 0)))), ((rt 2), .inl (cy 1, 3, .inr (.inl (vp_updL (vp_updL (fun _ => 0) (0 : Int32).toNatClampNeg 0) (1 : Int32).toNatClampNeg 0)))), ((rt 3), .inl (cy 1, 3, .inr (.inl (fun _ => 0)))), ((rt 4), .inl (cy 1, 3, .inr (.inl (fun _ => 0)))), ((rt 5), .inl (cy 1, 3, .inr (.inl (fun _ => 0)))), ((rt 6), .inl (cy 1, 3, .inr (.inl (fun _ => 0)))), ((rt 7), .inl (cy 1, 3, .inr (.inl (fun _ => 0)))), ((rt 8), .inl (cy 1, 3, .inr (.inl (fun _ => 0)))), (p2, .inl (cy 2, 9, .inl (fun _ => 0))), (p3, .inl (cy 0, 9, .inl (fun _ => (-1)))), (vC, .inr (3, [.ref sS, .ref sJ, .int 0, .int 0])), (p4, .inl (cy 3, 8, .inr (.inr (.inr (.inr (fun k9 => if k9 < 8 then some (rn k9) else none)))))), ((rn 0), .inl (cy 1, 11, .inr (.inl (fun _ => 0)))), ((rn 1), .inl (cy 1, 11, .inr (.inl (fun _ => 0)))), ((rn 2), .inl (cy 1, 11, .inr (.inl (fun _ => 0)))), ((rn 3), .inl (cy 1, 11, .inr (.inl (fun _ => 0)))), ((rn 4), .inl (cy 1, 11, .inr (.inl (fun _ => 0)))), ((rn 5), .inl (cy 1, 11, .inr (.inl (fun _ => 0)))), ((rn 6), .inl (cy 1, 11, .inr (.inl (fun _ => 0)))), ((rn 7), .inl (cy 1, 11, .inr (.inl (fun _ => 0)))), (h0, .inr (7, [.ref vC, .ref p1, .ref p2, .ref p3, .ref p4, .ref p5, .ref p6, .ref p7, .int e1, .long e2, .ref p8, .int 0, .int x2, .long 1]))] H := hP
  have hD : va_D A [(p5, .inl (cy 3, 9, .inr (.inr (.inr (.inr (fun k9 => if k9 < 9 then some (rt k9) else none)))))), ((rt 0), .inl (cy 1, 3, .inr (.inl (fun _ => 0)))), ((rt 1), .inl (cy 1, 3, .inr (.inl (fun _ => 0)))), ((rt 2), .inl (cy 1, 3, .inr (.inl (vp_updL (vp_updL (fun _ => 0) (0 : Int32).toNatClampNeg 0) (1 : Int32).toNatClampNeg 0)))), ((rt 3), .inl (cy 1, 3, .inr (.inl (fun _ => 0)))), ((rt 4), .inl (cy 1, 3, .inr (.inl (fun _ => 0)))), ((rt 5), .inl (cy 1, 3, .inr (.inl (fun _ => 0)))), ((rt 6), .inl (cy 1, 3, .inr (.inl (fun _ => 0)))), ((rt 7), .inl (cy 1, 3, .inr (.inl (fun _ => 0)))), ((rt 8), .inl (cy 1, 3, .inr (.inl (fun _ => 0)))), (p2, .inl (cy 2, 9, .inl (fun _ => 0))), (p3, .inl (cy 0, 9, .inl (fun _ => (-1)))), (vC, .inr (3, [.ref sS, .ref sJ, .int 0, .int 0])), (p4, .inl (cy 3, 8, .inr (.inr (.inr (.inr (fun k9 => if k9 < 8 then some (rn k9) else none)))))), ((rn 0), .inl (cy 1, 11, .inr (.inl (fun _ => 0)))), ((rn 1), .inl (cy 1, 11, .inr (.inl (fun _ => 0)))), ((rn 2), .inl (cy 1, 11, .inr (.inl (fun _ => 0)))), ((rn 3), .inl (cy 1, 11, .inr (.inl (fun _ => 0)))), ((rn 4), .inl (cy 1, 11, .inr (.inl (fun _ => 0)))), ((rn 5), .inl (cy 1, 11, .inr (.inl (fun _ => 0)))), ((rn 6), .inl (cy 1, 11, .inr (.inl (fun _ => 0)))), ((rn 7), .inl (cy 1, 11, .inr (.inl (fun _ => 0)))), (h0, .inr (7, [.ref vC, .ref p1, .ref p2, .ref p3, .ref p4, .ref p5, .ref p6, .ref p7, .int e1, .long e2, .ref p8, .int 0, .int x2, .long 1]))] := hD
  refine lv_iinc (v := 2) (lv' := [(3, .int 2), (2, .int 2), (0, .ref h0), (1, .int 0)]) hx hb dX4_weigh_66 hl (k := 0) rfl (by decide) (by decide) rfl (fun ls hl => ?_)
  refine lv_goto (tgt := 23) hx hb dX4_weigh_69 (by decide) ?_
  refine lv_iload_n hx hb dX4_weigh_23 rfl (lv_at hl 0 rfl) ?_
  refine lv_iconst (v := 3) hx hb dX4_weigh_24 (by decide) ?_
  refine lv_icmp_ge (tgt := 72) hx hb dX4_weigh_25 (by decide) (fun c_25_35 => absurd c_25_35 (by decide +kernel)) (fun _ => ?_)
  refine lv_aload_n hx hb dX4_weigh_28 rfl (lv_at hl 2 rfl) ?_
  refine va_get (D := D) (ci := 7) (v := .ref p5) (C := RX4) (T := TX4) (N := 14) hx hb hts iRX4 hown hK hP 22 rfl rfl 5 (by decide) (hts _ q43) (fun _ h9 => h9) rfl dX4_weigh_29 ?_
  refine lv_iload_n hx hb dX4_weigh_32 rfl (lv_at hl 1 rfl) ?_
  refine va_aldA hx hb hK hP 0 3 rfl rfl (z_in 2 (by decide) (by decide)) dX4_weigh_33 ?_
  rw [show va_rf ((fun k9 => if k9 < 9 then some (rt k9) else none) (2 : Int32).toNatClampNeg) = .ref (rt 2) from rfl]
  refine lv_iload_n hx hb dX4_weigh_34 rfl (lv_at hl 0 rfl) ?_
  refine lv_aload_n hx hb dX4_weigh_35 rfl (lv_at hl 2 rfl) ?_
  refine va_get (D := D) (ci := 7) (v := .ref p3) (C := RX4) (T := TX4) (N := 14) hx hb hts iRX4 hown hK hP 22 rfl rfl 3 (by decide) (hts _ q39) (fun _ h9 => h9) rfl dX4_weigh_36 ?_
  refine lv_iload_n hx hb dX4_weigh_39 rfl (lv_at hl 1 rfl) ?_
  refine va_iald hx hb hK hP 11 0 rfl rfl (z_in 2 (by decide) (by decide)) dX4_weigh_40 ?_
  refine lv_topi (fun y37 ey37 => ?_)
  obtain rfl : y37 = (-1) := ey37.trans rfl
  refine lv_iconst (v := (-1)) hx hb dX4_weigh_41 (by decide) ?_
  refine lv_icmp_ne (tgt := 49) hx hb dX4_weigh_42 (by decide) (fun c_42_37 => absurd (by decide +kernel) c_42_37) (fun _ => ?_)
  refine lv_lconst (v := 0) hx hb dX4_weigh_45 rfl ?_
  refine lv_goto (tgt := 65) hx hb dX4_weigh_46 (by decide) ?_
  refine va_last hx hb hK hP hD hS 3 1 rfl rfl (z_in 2 (by decide) (by decide)) dX4_weigh_65 (fun H locs hP hD hS => ?_)
  have hP : va_P D vwCl [(p5, .inl (cy 3, 9, .inr (.inr (.inr (.inr (fun k9 => if k9 < 9 then some (rt k9) else none)))))), ((rt 0), .inl (cy 1, 3, .inr (.inl (fun _ => 0)))), ((rt 1), .inl (cy 1, 3, .inr (.inl (fun _ => 0)))), ((rt 2), .inl (cy 1, 3, .inr (.inl (vp_updL (vp_updL (vp_updL (fun _ => 0) (0 : Int32).toNatClampNeg 0) (1 : Int32).toNatClampNeg 0) (2 : Int32).toNatClampNeg 0)))), ((rt 3), .inl (cy 1, 3, .inr (.inl (fun _ => 0)))), ((rt 4), .inl (cy 1, 3, .inr (.inl (fun _ => 0)))), ((rt 5), .inl (cy 1, 3, .inr (.inl (fun _ => 0)))), ((rt 6), .inl (cy 1, 3, .inr (.inl (fun _ => 0)))), ((rt 7), .inl (cy 1, 3, .inr (.inl (fun _ => 0)))), ((rt 8), .inl (cy 1, 3, .inr (.inl (fun _ => 0)))), (p2, .inl (cy 2, 9, .inl (fun _ => 0))), (p3, .inl (cy 0, 9, .inl (fun _ => (-1)))), (vC, .inr (3, [.ref sS, .ref sJ, .int 0, .int 0])), (p4, .inl (cy 3, 8, .inr (.inr (.inr (.inr (fun k9 => if k9 < 8 then some (rn k9) else none)))))), ((rn 0), .inl (cy 1, 11, .inr (.inl (fun _ => 0)))), ((rn 1), .inl (cy 1, 11, .inr (.inl (fun _ => 0)))), ((rn 2), .inl (cy 1, 11, .inr (.inl (fun _ => 0)))), ((rn 3), .inl (cy 1, 11, .inr (.inl (fun _ => 0)))), ((rn 4), .inl (cy 1, 11, .inr (.inl (fun _ => 0)))), ((rn 5), .inl (cy 1, 11, .inr (.inl (fun _ => 0)))), ((rn 6), .inl (cy 1, 11, .inr (.inl (fun _ => 0)))), ((rn 7), .inl (cy 1, 11, .inr (.inl (fun _ => 0)))), (h0, .inr (7, [.ref vC, .ref p1, .ref p2, .ref p3, .ref p4, .ref p5, .ref p6, .ref p7, .int e1, .long e2, .ref p8, .int 0, .int x2, .long 1]))] H := hP
  have hD : va_D A [(p5, .inl (cy 3, 9, .inr (.inr (.inr (.inr (fun k9 => if k9 < 9 then some (rt k9) else none)))))), ((rt 0), .inl (cy 1, 3, .inr (.inl (fun _ => 0)))), ((rt 1), .inl (cy 1, 3, .inr (.inl (fun _ => 0)))), ((rt 2), .inl (cy 1, 3, .inr (.inl (vp_updL (vp_updL (vp_updL (fun _ => 0) (0 : Int32).toNatClampNeg 0) (1 : Int32).toNatClampNeg 0) (2 : Int32).toNatClampNeg 0)))), ((rt 3), .inl (cy 1, 3, .inr (.inl (fun _ => 0)))), ((rt 4), .inl (cy 1, 3, .inr (.inl (fun _ => 0)))), ((rt 5), .inl (cy 1, 3, .inr (.inl (fun _ => 0)))), ((rt 6), .inl (cy 1, 3, .inr (.inl (fun _ => 0)))), ((rt 7), .inl (cy 1, 3, .inr (.inl (fun _ => 0)))), ((rt 8), .inl (cy 1, 3, .inr (.inl (fun _ => 0)))), (p2, .inl (cy 2, 9, .inl (fun _ => 0))), (p3, .inl (cy 0, 9, .inl (fun _ => (-1)))), (vC, .inr (3, [.ref sS, .ref sJ, .int 0, .int 0])), (p4, .inl (cy 3, 8, .inr (.inr (.inr (.inr (fun k9 => if k9 < 8 then some (rn k9) else none)))))), ((rn 0), .inl (cy 1, 11, .inr (.inl (fun _ => 0)))), ((rn 1), .inl (cy 1, 11, .inr (.inl (fun _ => 0)))), ((rn 2), .inl (cy 1, 11, .inr (.inl (fun _ => 0)))), ((rn 3), .inl (cy 1, 11, .inr (.inl (fun _ => 0)))), ((rn 4), .inl (cy 1, 11, .inr (.inl (fun _ => 0)))), ((rn 5), .inl (cy 1, 11, .inr (.inl (fun _ => 0)))), ((rn 6), .inl (cy 1, 11, .inr (.inl (fun _ => 0)))), ((rn 7), .inl (cy 1, 11, .inr (.inl (fun _ => 0)))), (h0, .inr (7, [.ref vC, .ref p1, .ref p2, .ref p3, .ref p4, .ref p5, .ref p6, .ref p7, .int e1, .long e2, .ref p8, .int 0, .int x2, .long 1]))] := hD
  refine lv_iinc (v := 3) (lv' := [(3, .int 3), (2, .int 2), (0, .ref h0), (1, .int 0)]) hx hb dX4_weigh_66 hl (k := 0) rfl (by decide) (by decide) rfl (fun ls hl => ?_)
  refine lv_goto (tgt := 23) hx hb dX4_weigh_69 (by decide) ?_
  refine lv_iload_n hx hb dX4_weigh_23 rfl (lv_at hl 0 rfl) ?_
  refine lv_iconst (v := 3) hx hb dX4_weigh_24 (by decide) ?_
  refine lv_icmp_ge (tgt := 72) hx hb dX4_weigh_25 (by decide) (fun _ => ?_) (fun c_25_38 => absurd (by decide +kernel) c_25_38)
  obtain ⟨hP, hD⟩ := zP_l (fun _ => 0) hP hD (q := 3) rfl (fun j hj => by rcases (show j = 0 ∨ j = 1 ∨ j = 2 by omega) with rfl | rfl | rfl <;> rfl)
  have hP : va_P D vwCl [(p5, .inl (cy 3, 9, .inr (.inr (.inr (.inr (fun k9 => if k9 < 9 then some (rt k9) else none)))))), ((rt 0), .inl (cy 1, 3, .inr (.inl (fun _ => 0)))), ((rt 1), .inl (cy 1, 3, .inr (.inl (fun _ => 0)))), ((rt 2), .inl (cy 1, 3, .inr (.inl (fun _ => 0)))), ((rt 3), .inl (cy 1, 3, .inr (.inl (fun _ => 0)))), ((rt 4), .inl (cy 1, 3, .inr (.inl (fun _ => 0)))), ((rt 5), .inl (cy 1, 3, .inr (.inl (fun _ => 0)))), ((rt 6), .inl (cy 1, 3, .inr (.inl (fun _ => 0)))), ((rt 7), .inl (cy 1, 3, .inr (.inl (fun _ => 0)))), ((rt 8), .inl (cy 1, 3, .inr (.inl (fun _ => 0)))), (p2, .inl (cy 2, 9, .inl (fun _ => 0))), (p3, .inl (cy 0, 9, .inl (fun _ => (-1)))), (vC, .inr (3, [.ref sS, .ref sJ, .int 0, .int 0])), (p4, .inl (cy 3, 8, .inr (.inr (.inr (.inr (fun k9 => if k9 < 8 then some (rn k9) else none)))))), ((rn 0), .inl (cy 1, 11, .inr (.inl (fun _ => 0)))), ((rn 1), .inl (cy 1, 11, .inr (.inl (fun _ => 0)))), ((rn 2), .inl (cy 1, 11, .inr (.inl (fun _ => 0)))), ((rn 3), .inl (cy 1, 11, .inr (.inl (fun _ => 0)))), ((rn 4), .inl (cy 1, 11, .inr (.inl (fun _ => 0)))), ((rn 5), .inl (cy 1, 11, .inr (.inl (fun _ => 0)))), ((rn 6), .inl (cy 1, 11, .inr (.inl (fun _ => 0)))), ((rn 7), .inl (cy 1, 11, .inr (.inl (fun _ => 0)))), (h0, .inr (7, [.ref vC, .ref p1, .ref p2, .ref p3, .ref p4, .ref p5, .ref p6, .ref p7, .int e1, .long e2, .ref p8, .int 0, .int x2, .long 1]))] H := hP
  have hD : va_D A [(p5, .inl (cy 3, 9, .inr (.inr (.inr (.inr (fun k9 => if k9 < 9 then some (rt k9) else none)))))), ((rt 0), .inl (cy 1, 3, .inr (.inl (fun _ => 0)))), ((rt 1), .inl (cy 1, 3, .inr (.inl (fun _ => 0)))), ((rt 2), .inl (cy 1, 3, .inr (.inl (fun _ => 0)))), ((rt 3), .inl (cy 1, 3, .inr (.inl (fun _ => 0)))), ((rt 4), .inl (cy 1, 3, .inr (.inl (fun _ => 0)))), ((rt 5), .inl (cy 1, 3, .inr (.inl (fun _ => 0)))), ((rt 6), .inl (cy 1, 3, .inr (.inl (fun _ => 0)))), ((rt 7), .inl (cy 1, 3, .inr (.inl (fun _ => 0)))), ((rt 8), .inl (cy 1, 3, .inr (.inl (fun _ => 0)))), (p2, .inl (cy 2, 9, .inl (fun _ => 0))), (p3, .inl (cy 0, 9, .inl (fun _ => (-1)))), (vC, .inr (3, [.ref sS, .ref sJ, .int 0, .int 0])), (p4, .inl (cy 3, 8, .inr (.inr (.inr (.inr (fun k9 => if k9 < 8 then some (rn k9) else none)))))), ((rn 0), .inl (cy 1, 11, .inr (.inl (fun _ => 0)))), ((rn 1), .inl (cy 1, 11, .inr (.inl (fun _ => 0)))), ((rn 2), .inl (cy 1, 11, .inr (.inl (fun _ => 0)))), ((rn 3), .inl (cy 1, 11, .inr (.inl (fun _ => 0)))), ((rn 4), .inl (cy 1, 11, .inr (.inl (fun _ => 0)))), ((rn 5), .inl (cy 1, 11, .inr (.inl (fun _ => 0)))), ((rn 6), .inl (cy 1, 11, .inr (.inl (fun _ => 0)))), ((rn 7), .inl (cy 1, 11, .inr (.inl (fun _ => 0)))), (h0, .inr (7, [.ref vC, .ref p1, .ref p2, .ref p3, .ref p4, .ref p5, .ref p6, .ref p7, .int e1, .long e2, .ref p8, .int 0, .int x2, .long 1]))] := hD
  refine lv_iinc (v := 3) (lv' := [(2, .int 3), (3, .int 3), (0, .ref h0), (1, .int 0)]) hx hb dX4_weigh_72 hl (k := 1) rfl (by decide) (by decide) rfl (fun ls hl => ?_)
  refine lv_goto (tgt := 15) hx hb dX4_weigh_75 (by decide) ?_
  refine lv_iload_n hx hb dX4_weigh_15 rfl (lv_at hl 0 rfl) ?_
  refine lv_bipush (v := 9) hx hb dX4_weigh_16 (by decide) ?_
  refine lv_icmp_ge (tgt := 78) hx hb dX4_weigh_18 (by decide) (fun c_18_39 => absurd c_18_39 (by decide +kernel)) (fun _ => ?_)
  refine lv_iconst (v := 0) hx hb dX4_weigh_21 (by decide) ?_
  refine lv_istore_n (lv' := [(3, .int 0), (2, .int 3), (0, .ref h0), (1, .int 0)]) hx hb dX4_weigh_22 rfl hl (by decide) rfl (fun ls hl => ?_)
  refine lv_iload_n hx hb dX4_weigh_23 rfl (lv_at hl 0 rfl) ?_
  refine lv_iconst (v := 3) hx hb dX4_weigh_24 (by decide) ?_
  refine lv_icmp_ge (tgt := 72) hx hb dX4_weigh_25 (by decide) (fun c_25_40 => absurd c_25_40 (by decide +kernel)) (fun _ => ?_)
  refine lv_aload_n hx hb dX4_weigh_28 rfl (lv_at hl 2 rfl) ?_
  refine va_get (D := D) (ci := 7) (v := .ref p5) (C := RX4) (T := TX4) (N := 14) hx hb hts iRX4 hown hK hP 22 rfl rfl 5 (by decide) (hts _ q43) (fun _ h9 => h9) rfl dX4_weigh_29 ?_
  refine lv_iload_n hx hb dX4_weigh_32 rfl (lv_at hl 1 rfl) ?_
  refine va_aldA hx hb hK hP 0 3 rfl rfl (z_in 3 (by decide) (by decide)) dX4_weigh_33 ?_
  rw [show va_rf ((fun k9 => if k9 < 9 then some (rt k9) else none) (3 : Int32).toNatClampNeg) = .ref (rt 3) from rfl]
  refine lv_iload_n hx hb dX4_weigh_34 rfl (lv_at hl 0 rfl) ?_
  refine lv_aload_n hx hb dX4_weigh_35 rfl (lv_at hl 2 rfl) ?_
  refine va_get (D := D) (ci := 7) (v := .ref p3) (C := RX4) (T := TX4) (N := 14) hx hb hts iRX4 hown hK hP 22 rfl rfl 3 (by decide) (hts _ q39) (fun _ h9 => h9) rfl dX4_weigh_36 ?_
  refine lv_iload_n hx hb dX4_weigh_39 rfl (lv_at hl 1 rfl) ?_
  refine va_iald hx hb hK hP 11 0 rfl rfl (z_in 3 (by decide) (by decide)) dX4_weigh_40 ?_
  refine lv_topi (fun y42 ey42 => ?_)
  obtain rfl : y42 = (-1) := ey42.trans rfl
  refine lv_iconst (v := (-1)) hx hb dX4_weigh_41 (by decide) ?_
  refine lv_icmp_ne (tgt := 49) hx hb dX4_weigh_42 (by decide) (fun c_42_42 => absurd (by decide +kernel) c_42_42) (fun _ => ?_)
  refine lv_lconst (v := 0) hx hb dX4_weigh_45 rfl ?_
  refine lv_goto (tgt := 65) hx hb dX4_weigh_46 (by decide) ?_
  refine va_last hx hb hK hP hD hS 4 1 rfl rfl (z_in 0 (by decide) (by decide)) dX4_weigh_65 (fun H locs hP hD hS => ?_)
  have hP : va_P D vwCl [(p5, .inl (cy 3, 9, .inr (.inr (.inr (.inr (fun k9 => if k9 < 9 then some (rt k9) else none)))))), ((rt 0), .inl (cy 1, 3, .inr (.inl (fun _ => 0)))), ((rt 1), .inl (cy 1, 3, .inr (.inl (fun _ => 0)))), ((rt 2), .inl (cy 1, 3, .inr (.inl (fun _ => 0)))), ((rt 3), .inl (cy 1, 3, .inr (.inl (vp_updL (fun _ => 0) (0 : Int32).toNatClampNeg 0)))), ((rt 4), .inl (cy 1, 3, .inr (.inl (fun _ => 0)))), ((rt 5), .inl (cy 1, 3, .inr (.inl (fun _ => 0)))), ((rt 6), .inl (cy 1, 3, .inr (.inl (fun _ => 0)))), ((rt 7), .inl (cy 1, 3, .inr (.inl (fun _ => 0)))), ((rt 8), .inl (cy 1, 3, .inr (.inl (fun _ => 0)))), (p2, .inl (cy 2, 9, .inl (fun _ => 0))), (p3, .inl (cy 0, 9, .inl (fun _ => (-1)))), (vC, .inr (3, [.ref sS, .ref sJ, .int 0, .int 0])), (p4, .inl (cy 3, 8, .inr (.inr (.inr (.inr (fun k9 => if k9 < 8 then some (rn k9) else none)))))), ((rn 0), .inl (cy 1, 11, .inr (.inl (fun _ => 0)))), ((rn 1), .inl (cy 1, 11, .inr (.inl (fun _ => 0)))), ((rn 2), .inl (cy 1, 11, .inr (.inl (fun _ => 0)))), ((rn 3), .inl (cy 1, 11, .inr (.inl (fun _ => 0)))), ((rn 4), .inl (cy 1, 11, .inr (.inl (fun _ => 0)))), ((rn 5), .inl (cy 1, 11, .inr (.inl (fun _ => 0)))), ((rn 6), .inl (cy 1, 11, .inr (.inl (fun _ => 0)))), ((rn 7), .inl (cy 1, 11, .inr (.inl (fun _ => 0)))), (h0, .inr (7, [.ref vC, .ref p1, .ref p2, .ref p3, .ref p4, .ref p5, .ref p6, .ref p7, .int e1, .long e2, .ref p8, .int 0, .int x2, .long 1]))] H := hP
  have hD : va_D A [(p5, .inl (cy 3, 9, .inr (.inr (.inr (.inr (fun k9 => if k9 < 9 then some (rt k9) else none)))))), ((rt 0), .inl (cy 1, 3, .inr (.inl (fun _ => 0)))), ((rt 1), .inl (cy 1, 3, .inr (.inl (fun _ => 0)))), ((rt 2), .inl (cy 1, 3, .inr (.inl (fun _ => 0)))), ((rt 3), .inl (cy 1, 3, .inr (.inl (vp_updL (fun _ => 0) (0 : Int32).toNatClampNeg 0)))), ((rt 4), .inl (cy 1, 3, .inr (.inl (fun _ => 0)))), ((rt 5), .inl (cy 1, 3, .inr (.inl (fun _ => 0)))), ((rt 6), .inl (cy 1, 3, .inr (.inl (fun _ => 0)))), ((rt 7), .inl (cy 1, 3, .inr (.inl (fun _ => 0)))), ((rt 8), .inl (cy 1, 3, .inr (.inl (fun _ => 0)))), (p2, .inl (cy 2, 9, .inl (fun _ => 0))), (p3, .inl (cy 0, 9, .inl (fun _ => (-1)))), (vC, .inr (3, [.ref sS, .ref sJ, .int 0, .int 0])), (p4, .inl (cy 3, 8, .inr (.inr (.inr (.inr (fun k9 => if k9 < 8 then some (rn k9) else none)))))), ((rn 0), .inl (cy 1, 11, .inr (.inl (fun _ => 0)))), ((rn 1), .inl (cy 1, 11, .inr (.inl (fun _ => 0)))), ((rn 2), .inl (cy 1, 11, .inr (.inl (fun _ => 0)))), ((rn 3), .inl (cy 1, 11, .inr (.inl (fun _ => 0)))), ((rn 4), .inl (cy 1, 11, .inr (.inl (fun _ => 0)))), ((rn 5), .inl (cy 1, 11, .inr (.inl (fun _ => 0)))), ((rn 6), .inl (cy 1, 11, .inr (.inl (fun _ => 0)))), ((rn 7), .inl (cy 1, 11, .inr (.inl (fun _ => 0)))), (h0, .inr (7, [.ref vC, .ref p1, .ref p2, .ref p3, .ref p4, .ref p5, .ref p6, .ref p7, .int e1, .long e2, .ref p8, .int 0, .int x2, .long 1]))] := hD
  refine lv_iinc (v := 1) (lv' := [(3, .int 1), (2, .int 3), (0, .ref h0), (1, .int 0)]) hx hb dX4_weigh_66 hl (k := 0) rfl (by decide) (by decide) rfl (fun ls hl => ?_)
  refine lv_goto (tgt := 23) hx hb dX4_weigh_69 (by decide) ?_
  refine lv_iload_n hx hb dX4_weigh_23 rfl (lv_at hl 0 rfl) ?_
  refine lv_iconst (v := 3) hx hb dX4_weigh_24 (by decide) ?_
  refine lv_icmp_ge (tgt := 72) hx hb dX4_weigh_25 (by decide) (fun c_25_43 => absurd c_25_43 (by decide +kernel)) (fun _ => ?_)
  refine lv_aload_n hx hb dX4_weigh_28 rfl (lv_at hl 2 rfl) ?_
  refine va_get (D := D) (ci := 7) (v := .ref p5) (C := RX4) (T := TX4) (N := 14) hx hb hts iRX4 hown hK hP 22 rfl rfl 5 (by decide) (hts _ q43) (fun _ h9 => h9) rfl dX4_weigh_29 ?_
  refine lv_iload_n hx hb dX4_weigh_32 rfl (lv_at hl 1 rfl) ?_
  refine va_aldA hx hb hK hP 0 3 rfl rfl (z_in 3 (by decide) (by decide)) dX4_weigh_33 ?_
  rw [show va_rf ((fun k9 => if k9 < 9 then some (rt k9) else none) (3 : Int32).toNatClampNeg) = .ref (rt 3) from rfl]
  refine lv_iload_n hx hb dX4_weigh_34 rfl (lv_at hl 0 rfl) ?_
  refine lv_aload_n hx hb dX4_weigh_35 rfl (lv_at hl 2 rfl) ?_
  refine va_get (D := D) (ci := 7) (v := .ref p3) (C := RX4) (T := TX4) (N := 14) hx hb hts iRX4 hown hK hP 22 rfl rfl 3 (by decide) (hts _ q39) (fun _ h9 => h9) rfl dX4_weigh_36 ?_
  refine lv_iload_n hx hb dX4_weigh_39 rfl (lv_at hl 1 rfl) ?_
  refine va_iald hx hb hK hP 11 0 rfl rfl (z_in 3 (by decide) (by decide)) dX4_weigh_40 ?_
  refine lv_topi (fun y45 ey45 => ?_)
  obtain rfl : y45 = (-1) := ey45.trans rfl
  refine lv_iconst (v := (-1)) hx hb dX4_weigh_41 (by decide) ?_
  refine lv_icmp_ne (tgt := 49) hx hb dX4_weigh_42 (by decide) (fun c_42_45 => absurd (by decide +kernel) c_42_45) (fun _ => ?_)
  refine lv_lconst (v := 0) hx hb dX4_weigh_45 rfl ?_
  refine lv_goto (tgt := 65) hx hb dX4_weigh_46 (by decide) ?_
  refine va_last hx hb hK hP hD hS 4 1 rfl rfl (z_in 1 (by decide) (by decide)) dX4_weigh_65 (fun H locs hP hD hS => ?_)
  have hP : va_P D vwCl [(p5, .inl (cy 3, 9, .inr (.inr (.inr (.inr (fun k9 => if k9 < 9 then some (rt k9) else none)))))), ((rt 0), .inl (cy 1, 3, .inr (.inl (fun _ => 0)))), ((rt 1), .inl (cy 1, 3, .inr (.inl (fun _ => 0)))), ((rt 2), .inl (cy 1, 3, .inr (.inl (fun _ => 0)))), ((rt 3), .inl (cy 1, 3, .inr (.inl (vp_updL (vp_updL (fun _ => 0) (0 : Int32).toNatClampNeg 0) (1 : Int32).toNatClampNeg 0)))), ((rt 4), .inl (cy 1, 3, .inr (.inl (fun _ => 0)))), ((rt 5), .inl (cy 1, 3, .inr (.inl (fun _ => 0)))), ((rt 6), .inl (cy 1, 3, .inr (.inl (fun _ => 0)))), ((rt 7), .inl (cy 1, 3, .inr (.inl (fun _ => 0)))), ((rt 8), .inl (cy 1, 3, .inr (.inl (fun _ => 0)))), (p2, .inl (cy 2, 9, .inl (fun _ => 0))), (p3, .inl (cy 0, 9, .inl (fun _ => (-1)))), (vC, .inr (3, [.ref sS, .ref sJ, .int 0, .int 0])), (p4, .inl (cy 3, 8, .inr (.inr (.inr (.inr (fun k9 => if k9 < 8 then some (rn k9) else none)))))), ((rn 0), .inl (cy 1, 11, .inr (.inl (fun _ => 0)))), ((rn 1), .inl (cy 1, 11, .inr (.inl (fun _ => 0)))), ((rn 2), .inl (cy 1, 11, .inr (.inl (fun _ => 0)))), ((rn 3), .inl (cy 1, 11, .inr (.inl (fun _ => 0)))), ((rn 4), .inl (cy 1, 11, .inr (.inl (fun _ => 0)))), ((rn 5), .inl (cy 1, 11, .inr (.inl (fun _ => 0)))), ((rn 6), .inl (cy 1, 11, .inr (.inl (fun _ => 0)))), ((rn 7), .inl (cy 1, 11, .inr (.inl (fun _ => 0)))), (h0, .inr (7, [.ref vC, .ref p1, .ref p2, .ref p3, .ref p4, .ref p5, .ref p6, .ref p7, .int e1, .long e2, .ref p8, .int 0, .int x2, .long 1]))] H := hP
  have hD : va_D A [(p5, .inl (cy 3, 9, .inr (.inr (.inr (.inr (fun k9 => if k9 < 9 then some (rt k9) else none)))))), ((rt 0), .inl (cy 1, 3, .inr (.inl (fun _ => 0)))), ((rt 1), .inl (cy 1, 3, .inr (.inl (fun _ => 0)))), ((rt 2), .inl (cy 1, 3, .inr (.inl (fun _ => 0)))), ((rt 3), .inl (cy 1, 3, .inr (.inl (vp_updL (vp_updL (fun _ => 0) (0 : Int32).toNatClampNeg 0) (1 : Int32).toNatClampNeg 0)))), ((rt 4), .inl (cy 1, 3, .inr (.inl (fun _ => 0)))), ((rt 5), .inl (cy 1, 3, .inr (.inl (fun _ => 0)))), ((rt 6), .inl (cy 1, 3, .inr (.inl (fun _ => 0)))), ((rt 7), .inl (cy 1, 3, .inr (.inl (fun _ => 0)))), ((rt 8), .inl (cy 1, 3, .inr (.inl (fun _ => 0)))), (p2, .inl (cy 2, 9, .inl (fun _ => 0))), (p3, .inl (cy 0, 9, .inl (fun _ => (-1)))), (vC, .inr (3, [.ref sS, .ref sJ, .int 0, .int 0])), (p4, .inl (cy 3, 8, .inr (.inr (.inr (.inr (fun k9 => if k9 < 8 then some (rn k9) else none)))))), ((rn 0), .inl (cy 1, 11, .inr (.inl (fun _ => 0)))), ((rn 1), .inl (cy 1, 11, .inr (.inl (fun _ => 0)))), ((rn 2), .inl (cy 1, 11, .inr (.inl (fun _ => 0)))), ((rn 3), .inl (cy 1, 11, .inr (.inl (fun _ => 0)))), ((rn 4), .inl (cy 1, 11, .inr (.inl (fun _ => 0)))), ((rn 5), .inl (cy 1, 11, .inr (.inl (fun _ => 0)))), ((rn 6), .inl (cy 1, 11, .inr (.inl (fun _ => 0)))), ((rn 7), .inl (cy 1, 11, .inr (.inl (fun _ => 0)))), (h0, .inr (7, [.ref vC, .ref p1, .ref p2, .ref p3, .ref p4, .ref p5, .ref p6, .ref p7, .int e1, .long e2, .ref p8, .int 0, .int x2, .long 1]))] := hD
  refine lv_iinc (v := 2) (lv' := [(3, .int 2), (2, .int 3), (0, .ref h0), (1, .int 0)]) hx hb dX4_weigh_66 hl (k := 0) rfl (by decide) (by decide) rfl (fun ls hl => ?_)
  refine lv_goto (tgt := 23) hx hb dX4_weigh_69 (by decide) ?_
  refine lv_iload_n hx hb dX4_weigh_23 rfl (lv_at hl 0 rfl) ?_
  refine lv_iconst (v := 3) hx hb dX4_weigh_24 (by decide) ?_
  refine lv_icmp_ge (tgt := 72) hx hb dX4_weigh_25 (by decide) (fun c_25_46 => absurd c_25_46 (by decide +kernel)) (fun _ => ?_)
  refine lv_aload_n hx hb dX4_weigh_28 rfl (lv_at hl 2 rfl) ?_
  refine va_get (D := D) (ci := 7) (v := .ref p5) (C := RX4) (T := TX4) (N := 14) hx hb hts iRX4 hown hK hP 22 rfl rfl 5 (by decide) (hts _ q43) (fun _ h9 => h9) rfl dX4_weigh_29 ?_
  refine lv_iload_n hx hb dX4_weigh_32 rfl (lv_at hl 1 rfl) ?_
  refine va_aldA hx hb hK hP 0 3 rfl rfl (z_in 3 (by decide) (by decide)) dX4_weigh_33 ?_
  rw [show va_rf ((fun k9 => if k9 < 9 then some (rt k9) else none) (3 : Int32).toNatClampNeg) = .ref (rt 3) from rfl]
  refine lv_iload_n hx hb dX4_weigh_34 rfl (lv_at hl 0 rfl) ?_
  refine lv_aload_n hx hb dX4_weigh_35 rfl (lv_at hl 2 rfl) ?_
  refine va_get (D := D) (ci := 7) (v := .ref p3) (C := RX4) (T := TX4) (N := 14) hx hb hts iRX4 hown hK hP 22 rfl rfl 3 (by decide) (hts _ q39) (fun _ h9 => h9) rfl dX4_weigh_36 ?_
  refine lv_iload_n hx hb dX4_weigh_39 rfl (lv_at hl 1 rfl) ?_
  refine va_iald hx hb hK hP 11 0 rfl rfl (z_in 3 (by decide) (by decide)) dX4_weigh_40 ?_
  refine lv_topi (fun y48 ey48 => ?_)
  obtain rfl : y48 = (-1) := ey48.trans rfl
  refine lv_iconst (v := (-1)) hx hb dX4_weigh_41 (by decide) ?_
  refine lv_icmp_ne (tgt := 49) hx hb dX4_weigh_42 (by decide) (fun c_42_48 => absurd (by decide +kernel) c_42_48) (fun _ => ?_)
  refine lv_lconst (v := 0) hx hb dX4_weigh_45 rfl ?_
  refine lv_goto (tgt := 65) hx hb dX4_weigh_46 (by decide) ?_
  refine va_last hx hb hK hP hD hS 4 1 rfl rfl (z_in 2 (by decide) (by decide)) dX4_weigh_65 (fun H locs hP hD hS => ?_)
  have hP : va_P D vwCl [(p5, .inl (cy 3, 9, .inr (.inr (.inr (.inr (fun k9 => if k9 < 9 then some (rt k9) else none)))))), ((rt 0), .inl (cy 1, 3, .inr (.inl (fun _ => 0)))), ((rt 1), .inl (cy 1, 3, .inr (.inl (fun _ => 0)))), ((rt 2), .inl (cy 1, 3, .inr (.inl (fun _ => 0)))), ((rt 3), .inl (cy 1, 3, .inr (.inl (vp_updL (vp_updL (vp_updL (fun _ => 0) (0 : Int32).toNatClampNeg 0) (1 : Int32).toNatClampNeg 0) (2 : Int32).toNatClampNeg 0)))), ((rt 4), .inl (cy 1, 3, .inr (.inl (fun _ => 0)))), ((rt 5), .inl (cy 1, 3, .inr (.inl (fun _ => 0)))), ((rt 6), .inl (cy 1, 3, .inr (.inl (fun _ => 0)))), ((rt 7), .inl (cy 1, 3, .inr (.inl (fun _ => 0)))), ((rt 8), .inl (cy 1, 3, .inr (.inl (fun _ => 0)))), (p2, .inl (cy 2, 9, .inl (fun _ => 0))), (p3, .inl (cy 0, 9, .inl (fun _ => (-1)))), (vC, .inr (3, [.ref sS, .ref sJ, .int 0, .int 0])), (p4, .inl (cy 3, 8, .inr (.inr (.inr (.inr (fun k9 => if k9 < 8 then some (rn k9) else none)))))), ((rn 0), .inl (cy 1, 11, .inr (.inl (fun _ => 0)))), ((rn 1), .inl (cy 1, 11, .inr (.inl (fun _ => 0)))), ((rn 2), .inl (cy 1, 11, .inr (.inl (fun _ => 0)))), ((rn 3), .inl (cy 1, 11, .inr (.inl (fun _ => 0)))), ((rn 4), .inl (cy 1, 11, .inr (.inl (fun _ => 0)))), ((rn 5), .inl (cy 1, 11, .inr (.inl (fun _ => 0)))), ((rn 6), .inl (cy 1, 11, .inr (.inl (fun _ => 0)))), ((rn 7), .inl (cy 1, 11, .inr (.inl (fun _ => 0)))), (h0, .inr (7, [.ref vC, .ref p1, .ref p2, .ref p3, .ref p4, .ref p5, .ref p6, .ref p7, .int e1, .long e2, .ref p8, .int 0, .int x2, .long 1]))] H := hP
  have hD : va_D A [(p5, .inl (cy 3, 9, .inr (.inr (.inr (.inr (fun k9 => if k9 < 9 then some (rt k9) else none)))))), ((rt 0), .inl (cy 1, 3, .inr (.inl (fun _ => 0)))), ((rt 1), .inl (cy 1, 3, .inr (.inl (fun _ => 0)))), ((rt 2), .inl (cy 1, 3, .inr (.inl (fun _ => 0)))), ((rt 3), .inl (cy 1, 3, .inr (.inl (vp_updL (vp_updL (vp_updL (fun _ => 0) (0 : Int32).toNatClampNeg 0) (1 : Int32).toNatClampNeg 0) (2 : Int32).toNatClampNeg 0)))), ((rt 4), .inl (cy 1, 3, .inr (.inl (fun _ => 0)))), ((rt 5), .inl (cy 1, 3, .inr (.inl (fun _ => 0)))), ((rt 6), .inl (cy 1, 3, .inr (.inl (fun _ => 0)))), ((rt 7), .inl (cy 1, 3, .inr (.inl (fun _ => 0)))), ((rt 8), .inl (cy 1, 3, .inr (.inl (fun _ => 0)))), (p2, .inl (cy 2, 9, .inl (fun _ => 0))), (p3, .inl (cy 0, 9, .inl (fun _ => (-1)))), (vC, .inr (3, [.ref sS, .ref sJ, .int 0, .int 0])), (p4, .inl (cy 3, 8, .inr (.inr (.inr (.inr (fun k9 => if k9 < 8 then some (rn k9) else none)))))), ((rn 0), .inl (cy 1, 11, .inr (.inl (fun _ => 0)))), ((rn 1), .inl (cy 1, 11, .inr (.inl (fun _ => 0)))), ((rn 2), .inl (cy 1, 11, .inr (.inl (fun _ => 0)))), ((rn 3), .inl (cy 1, 11, .inr (.inl (fun _ => 0)))), ((rn 4), .inl (cy 1, 11, .inr (.inl (fun _ => 0)))), ((rn 5), .inl (cy 1, 11, .inr (.inl (fun _ => 0)))), ((rn 6), .inl (cy 1, 11, .inr (.inl (fun _ => 0)))), ((rn 7), .inl (cy 1, 11, .inr (.inl (fun _ => 0)))), (h0, .inr (7, [.ref vC, .ref p1, .ref p2, .ref p3, .ref p4, .ref p5, .ref p6, .ref p7, .int e1, .long e2, .ref p8, .int 0, .int x2, .long 1]))] := hD
  refine lv_iinc (v := 3) (lv' := [(3, .int 3), (2, .int 3), (0, .ref h0), (1, .int 0)]) hx hb dX4_weigh_66 hl (k := 0) rfl (by decide) (by decide) rfl (fun ls hl => ?_)
  refine lv_goto (tgt := 23) hx hb dX4_weigh_69 (by decide) ?_
  refine lv_iload_n hx hb dX4_weigh_23 rfl (lv_at hl 0 rfl) ?_
  refine lv_iconst (v := 3) hx hb dX4_weigh_24 (by decide) ?_
  refine lv_icmp_ge (tgt := 72) hx hb dX4_weigh_25 (by decide) (fun _ => ?_) (fun c_25_49 => absurd (by decide +kernel) c_25_49)
  obtain ⟨hP, hD⟩ := zP_l (fun _ => 0) hP hD (q := 4) rfl (fun j hj => by rcases (show j = 0 ∨ j = 1 ∨ j = 2 by omega) with rfl | rfl | rfl <;> rfl)
  have hP : va_P D vwCl [(p5, .inl (cy 3, 9, .inr (.inr (.inr (.inr (fun k9 => if k9 < 9 then some (rt k9) else none)))))), ((rt 0), .inl (cy 1, 3, .inr (.inl (fun _ => 0)))), ((rt 1), .inl (cy 1, 3, .inr (.inl (fun _ => 0)))), ((rt 2), .inl (cy 1, 3, .inr (.inl (fun _ => 0)))), ((rt 3), .inl (cy 1, 3, .inr (.inl (fun _ => 0)))), ((rt 4), .inl (cy 1, 3, .inr (.inl (fun _ => 0)))), ((rt 5), .inl (cy 1, 3, .inr (.inl (fun _ => 0)))), ((rt 6), .inl (cy 1, 3, .inr (.inl (fun _ => 0)))), ((rt 7), .inl (cy 1, 3, .inr (.inl (fun _ => 0)))), ((rt 8), .inl (cy 1, 3, .inr (.inl (fun _ => 0)))), (p2, .inl (cy 2, 9, .inl (fun _ => 0))), (p3, .inl (cy 0, 9, .inl (fun _ => (-1)))), (vC, .inr (3, [.ref sS, .ref sJ, .int 0, .int 0])), (p4, .inl (cy 3, 8, .inr (.inr (.inr (.inr (fun k9 => if k9 < 8 then some (rn k9) else none)))))), ((rn 0), .inl (cy 1, 11, .inr (.inl (fun _ => 0)))), ((rn 1), .inl (cy 1, 11, .inr (.inl (fun _ => 0)))), ((rn 2), .inl (cy 1, 11, .inr (.inl (fun _ => 0)))), ((rn 3), .inl (cy 1, 11, .inr (.inl (fun _ => 0)))), ((rn 4), .inl (cy 1, 11, .inr (.inl (fun _ => 0)))), ((rn 5), .inl (cy 1, 11, .inr (.inl (fun _ => 0)))), ((rn 6), .inl (cy 1, 11, .inr (.inl (fun _ => 0)))), ((rn 7), .inl (cy 1, 11, .inr (.inl (fun _ => 0)))), (h0, .inr (7, [.ref vC, .ref p1, .ref p2, .ref p3, .ref p4, .ref p5, .ref p6, .ref p7, .int e1, .long e2, .ref p8, .int 0, .int x2, .long 1]))] H := hP
  have hD : va_D A [(p5, .inl (cy 3, 9, .inr (.inr (.inr (.inr (fun k9 => if k9 < 9 then some (rt k9) else none)))))), ((rt 0), .inl (cy 1, 3, .inr (.inl (fun _ => 0)))), ((rt 1), .inl (cy 1, 3, .inr (.inl (fun _ => 0)))), ((rt 2), .inl (cy 1, 3, .inr (.inl (fun _ => 0)))), ((rt 3), .inl (cy 1, 3, .inr (.inl (fun _ => 0)))), ((rt 4), .inl (cy 1, 3, .inr (.inl (fun _ => 0)))), ((rt 5), .inl (cy 1, 3, .inr (.inl (fun _ => 0)))), ((rt 6), .inl (cy 1, 3, .inr (.inl (fun _ => 0)))), ((rt 7), .inl (cy 1, 3, .inr (.inl (fun _ => 0)))), ((rt 8), .inl (cy 1, 3, .inr (.inl (fun _ => 0)))), (p2, .inl (cy 2, 9, .inl (fun _ => 0))), (p3, .inl (cy 0, 9, .inl (fun _ => (-1)))), (vC, .inr (3, [.ref sS, .ref sJ, .int 0, .int 0])), (p4, .inl (cy 3, 8, .inr (.inr (.inr (.inr (fun k9 => if k9 < 8 then some (rn k9) else none)))))), ((rn 0), .inl (cy 1, 11, .inr (.inl (fun _ => 0)))), ((rn 1), .inl (cy 1, 11, .inr (.inl (fun _ => 0)))), ((rn 2), .inl (cy 1, 11, .inr (.inl (fun _ => 0)))), ((rn 3), .inl (cy 1, 11, .inr (.inl (fun _ => 0)))), ((rn 4), .inl (cy 1, 11, .inr (.inl (fun _ => 0)))), ((rn 5), .inl (cy 1, 11, .inr (.inl (fun _ => 0)))), ((rn 6), .inl (cy 1, 11, .inr (.inl (fun _ => 0)))), ((rn 7), .inl (cy 1, 11, .inr (.inl (fun _ => 0)))), (h0, .inr (7, [.ref vC, .ref p1, .ref p2, .ref p3, .ref p4, .ref p5, .ref p6, .ref p7, .int e1, .long e2, .ref p8, .int 0, .int x2, .long 1]))] := hD
  refine lv_iinc (v := 4) (lv' := [(2, .int 4), (3, .int 3), (0, .ref h0), (1, .int 0)]) hx hb dX4_weigh_72 hl (k := 1) rfl (by decide) (by decide) rfl (fun ls hl => ?_)
  refine lv_goto (tgt := 15) hx hb dX4_weigh_75 (by decide) ?_
  refine lv_iload_n hx hb dX4_weigh_15 rfl (lv_at hl 0 rfl) ?_
  refine lv_bipush (v := 9) hx hb dX4_weigh_16 (by decide) ?_
  refine lv_icmp_ge (tgt := 78) hx hb dX4_weigh_18 (by decide) (fun c_18_50 => absurd c_18_50 (by decide +kernel)) (fun _ => ?_)
  refine lv_iconst (v := 0) hx hb dX4_weigh_21 (by decide) ?_
  refine lv_istore_n (lv' := [(3, .int 0), (2, .int 4), (0, .ref h0), (1, .int 0)]) hx hb dX4_weigh_22 rfl hl (by decide) rfl (fun ls hl => ?_)
  refine lv_iload_n hx hb dX4_weigh_23 rfl (lv_at hl 0 rfl) ?_
  refine lv_iconst (v := 3) hx hb dX4_weigh_24 (by decide) ?_
  refine lv_icmp_ge (tgt := 72) hx hb dX4_weigh_25 (by decide) (fun c_25_51 => absurd c_25_51 (by decide +kernel)) (fun _ => ?_)
  refine lv_aload_n hx hb dX4_weigh_28 rfl (lv_at hl 2 rfl) ?_
  refine va_get (D := D) (ci := 7) (v := .ref p5) (C := RX4) (T := TX4) (N := 14) hx hb hts iRX4 hown hK hP 22 rfl rfl 5 (by decide) (hts _ q43) (fun _ h9 => h9) rfl dX4_weigh_29 ?_
  refine lv_iload_n hx hb dX4_weigh_32 rfl (lv_at hl 1 rfl) ?_
  refine va_aldA hx hb hK hP 0 3 rfl rfl (z_in 4 (by decide) (by decide)) dX4_weigh_33 ?_
  rw [show va_rf ((fun k9 => if k9 < 9 then some (rt k9) else none) (4 : Int32).toNatClampNeg) = .ref (rt 4) from rfl]
  refine lv_iload_n hx hb dX4_weigh_34 rfl (lv_at hl 0 rfl) ?_
  refine lv_aload_n hx hb dX4_weigh_35 rfl (lv_at hl 2 rfl) ?_
  refine va_get (D := D) (ci := 7) (v := .ref p3) (C := RX4) (T := TX4) (N := 14) hx hb hts iRX4 hown hK hP 22 rfl rfl 3 (by decide) (hts _ q39) (fun _ h9 => h9) rfl dX4_weigh_36 ?_
  refine lv_iload_n hx hb dX4_weigh_39 rfl (lv_at hl 1 rfl) ?_
  refine va_iald hx hb hK hP 11 0 rfl rfl (z_in 4 (by decide) (by decide)) dX4_weigh_40 ?_
  refine lv_topi (fun y53 ey53 => ?_)
  obtain rfl : y53 = (-1) := ey53.trans rfl
  refine lv_iconst (v := (-1)) hx hb dX4_weigh_41 (by decide) ?_
  refine lv_icmp_ne (tgt := 49) hx hb dX4_weigh_42 (by decide) (fun c_42_53 => absurd (by decide +kernel) c_42_53) (fun _ => ?_)
  refine lv_lconst (v := 0) hx hb dX4_weigh_45 rfl ?_
  refine lv_goto (tgt := 65) hx hb dX4_weigh_46 (by decide) ?_
  refine va_last hx hb hK hP hD hS 5 1 rfl rfl (z_in 0 (by decide) (by decide)) dX4_weigh_65 (fun H locs hP hD hS => ?_)
  have hP : va_P D vwCl [(p5, .inl (cy 3, 9, .inr (.inr (.inr (.inr (fun k9 => if k9 < 9 then some (rt k9) else none)))))), ((rt 0), .inl (cy 1, 3, .inr (.inl (fun _ => 0)))), ((rt 1), .inl (cy 1, 3, .inr (.inl (fun _ => 0)))), ((rt 2), .inl (cy 1, 3, .inr (.inl (fun _ => 0)))), ((rt 3), .inl (cy 1, 3, .inr (.inl (fun _ => 0)))), ((rt 4), .inl (cy 1, 3, .inr (.inl (vp_updL (fun _ => 0) (0 : Int32).toNatClampNeg 0)))), ((rt 5), .inl (cy 1, 3, .inr (.inl (fun _ => 0)))), ((rt 6), .inl (cy 1, 3, .inr (.inl (fun _ => 0)))), ((rt 7), .inl (cy 1, 3, .inr (.inl (fun _ => 0)))), ((rt 8), .inl (cy 1, 3, .inr (.inl (fun _ => 0)))), (p2, .inl (cy 2, 9, .inl (fun _ => 0))), (p3, .inl (cy 0, 9, .inl (fun _ => (-1)))), (vC, .inr (3, [.ref sS, .ref sJ, .int 0, .int 0])), (p4, .inl (cy 3, 8, .inr (.inr (.inr (.inr (fun k9 => if k9 < 8 then some (rn k9) else none)))))), ((rn 0), .inl (cy 1, 11, .inr (.inl (fun _ => 0)))), ((rn 1), .inl (cy 1, 11, .inr (.inl (fun _ => 0)))), ((rn 2), .inl (cy 1, 11, .inr (.inl (fun _ => 0)))), ((rn 3), .inl (cy 1, 11, .inr (.inl (fun _ => 0)))), ((rn 4), .inl (cy 1, 11, .inr (.inl (fun _ => 0)))), ((rn 5), .inl (cy 1, 11, .inr (.inl (fun _ => 0)))), ((rn 6), .inl (cy 1, 11, .inr (.inl (fun _ => 0)))), ((rn 7), .inl (cy 1, 11, .inr (.inl (fun _ => 0)))), (h0, .inr (7, [.ref vC, .ref p1, .ref p2, .ref p3, .ref p4, .ref p5, .ref p6, .ref p7, .int e1, .long e2, .ref p8, .int 0, .int x2, .long 1]))] H := hP
  have hD : va_D A [(p5, .inl (cy 3, 9, .inr (.inr (.inr (.inr (fun k9 => if k9 < 9 then some (rt k9) else none)))))), ((rt 0), .inl (cy 1, 3, .inr (.inl (fun _ => 0)))), ((rt 1), .inl (cy 1, 3, .inr (.inl (fun _ => 0)))), ((rt 2), .inl (cy 1, 3, .inr (.inl (fun _ => 0)))), ((rt 3), .inl (cy 1, 3, .inr (.inl (fun _ => 0)))), ((rt 4), .inl (cy 1, 3, .inr (.inl (vp_updL (fun _ => 0) (0 : Int32).toNatClampNeg 0)))), ((rt 5), .inl (cy 1, 3, .inr (.inl (fun _ => 0)))), ((rt 6), .inl (cy 1, 3, .inr (.inl (fun _ => 0)))), ((rt 7), .inl (cy 1, 3, .inr (.inl (fun _ => 0)))), ((rt 8), .inl (cy 1, 3, .inr (.inl (fun _ => 0)))), (p2, .inl (cy 2, 9, .inl (fun _ => 0))), (p3, .inl (cy 0, 9, .inl (fun _ => (-1)))), (vC, .inr (3, [.ref sS, .ref sJ, .int 0, .int 0])), (p4, .inl (cy 3, 8, .inr (.inr (.inr (.inr (fun k9 => if k9 < 8 then some (rn k9) else none)))))), ((rn 0), .inl (cy 1, 11, .inr (.inl (fun _ => 0)))), ((rn 1), .inl (cy 1, 11, .inr (.inl (fun _ => 0)))), ((rn 2), .inl (cy 1, 11, .inr (.inl (fun _ => 0)))), ((rn 3), .inl (cy 1, 11, .inr (.inl (fun _ => 0)))), ((rn 4), .inl (cy 1, 11, .inr (.inl (fun _ => 0)))), ((rn 5), .inl (cy 1, 11, .inr (.inl (fun _ => 0)))), ((rn 6), .inl (cy 1, 11, .inr (.inl (fun _ => 0)))), ((rn 7), .inl (cy 1, 11, .inr (.inl (fun _ => 0)))), (h0, .inr (7, [.ref vC, .ref p1, .ref p2, .ref p3, .ref p4, .ref p5, .ref p6, .ref p7, .int e1, .long e2, .ref p8, .int 0, .int x2, .long 1]))] := hD
  refine lv_iinc (v := 1) (lv' := [(3, .int 1), (2, .int 4), (0, .ref h0), (1, .int 0)]) hx hb dX4_weigh_66 hl (k := 0) rfl (by decide) (by decide) rfl (fun ls hl => ?_)
  refine lv_goto (tgt := 23) hx hb dX4_weigh_69 (by decide) ?_
  refine lv_iload_n hx hb dX4_weigh_23 rfl (lv_at hl 0 rfl) ?_
  refine lv_iconst (v := 3) hx hb dX4_weigh_24 (by decide) ?_
  refine lv_icmp_ge (tgt := 72) hx hb dX4_weigh_25 (by decide) (fun c_25_54 => absurd c_25_54 (by decide +kernel)) (fun _ => ?_)
  refine lv_aload_n hx hb dX4_weigh_28 rfl (lv_at hl 2 rfl) ?_
  refine va_get (D := D) (ci := 7) (v := .ref p5) (C := RX4) (T := TX4) (N := 14) hx hb hts iRX4 hown hK hP 22 rfl rfl 5 (by decide) (hts _ q43) (fun _ h9 => h9) rfl dX4_weigh_29 ?_
  refine lv_iload_n hx hb dX4_weigh_32 rfl (lv_at hl 1 rfl) ?_
  refine va_aldA hx hb hK hP 0 3 rfl rfl (z_in 4 (by decide) (by decide)) dX4_weigh_33 ?_
  rw [show va_rf ((fun k9 => if k9 < 9 then some (rt k9) else none) (4 : Int32).toNatClampNeg) = .ref (rt 4) from rfl]
  refine lv_iload_n hx hb dX4_weigh_34 rfl (lv_at hl 0 rfl) ?_
  refine lv_aload_n hx hb dX4_weigh_35 rfl (lv_at hl 2 rfl) ?_
  refine va_get (D := D) (ci := 7) (v := .ref p3) (C := RX4) (T := TX4) (N := 14) hx hb hts iRX4 hown hK hP 22 rfl rfl 3 (by decide) (hts _ q39) (fun _ h9 => h9) rfl dX4_weigh_36 ?_
  refine lv_iload_n hx hb dX4_weigh_39 rfl (lv_at hl 1 rfl) ?_
  refine va_iald hx hb hK hP 11 0 rfl rfl (z_in 4 (by decide) (by decide)) dX4_weigh_40 ?_
  refine lv_topi (fun y56 ey56 => ?_)
  obtain rfl : y56 = (-1) := ey56.trans rfl
  refine lv_iconst (v := (-1)) hx hb dX4_weigh_41 (by decide) ?_
  refine lv_icmp_ne (tgt := 49) hx hb dX4_weigh_42 (by decide) (fun c_42_56 => absurd (by decide +kernel) c_42_56) (fun _ => ?_)
  refine lv_lconst (v := 0) hx hb dX4_weigh_45 rfl ?_
  refine lv_goto (tgt := 65) hx hb dX4_weigh_46 (by decide) ?_
  refine va_last hx hb hK hP hD hS 5 1 rfl rfl (z_in 1 (by decide) (by decide)) dX4_weigh_65 (fun H locs hP hD hS => ?_)
  have hP : va_P D vwCl [(p5, .inl (cy 3, 9, .inr (.inr (.inr (.inr (fun k9 => if k9 < 9 then some (rt k9) else none)))))), ((rt 0), .inl (cy 1, 3, .inr (.inl (fun _ => 0)))), ((rt 1), .inl (cy 1, 3, .inr (.inl (fun _ => 0)))), ((rt 2), .inl (cy 1, 3, .inr (.inl (fun _ => 0)))), ((rt 3), .inl (cy 1, 3, .inr (.inl (fun _ => 0)))), ((rt 4), .inl (cy 1, 3, .inr (.inl (vp_updL (vp_updL (fun _ => 0) (0 : Int32).toNatClampNeg 0) (1 : Int32).toNatClampNeg 0)))), ((rt 5), .inl (cy 1, 3, .inr (.inl (fun _ => 0)))), ((rt 6), .inl (cy 1, 3, .inr (.inl (fun _ => 0)))), ((rt 7), .inl (cy 1, 3, .inr (.inl (fun _ => 0)))), ((rt 8), .inl (cy 1, 3, .inr (.inl (fun _ => 0)))), (p2, .inl (cy 2, 9, .inl (fun _ => 0))), (p3, .inl (cy 0, 9, .inl (fun _ => (-1)))), (vC, .inr (3, [.ref sS, .ref sJ, .int 0, .int 0])), (p4, .inl (cy 3, 8, .inr (.inr (.inr (.inr (fun k9 => if k9 < 8 then some (rn k9) else none)))))), ((rn 0), .inl (cy 1, 11, .inr (.inl (fun _ => 0)))), ((rn 1), .inl (cy 1, 11, .inr (.inl (fun _ => 0)))), ((rn 2), .inl (cy 1, 11, .inr (.inl (fun _ => 0)))), ((rn 3), .inl (cy 1, 11, .inr (.inl (fun _ => 0)))), ((rn 4), .inl (cy 1, 11, .inr (.inl (fun _ => 0)))), ((rn 5), .inl (cy 1, 11, .inr (.inl (fun _ => 0)))), ((rn 6), .inl (cy 1, 11, .inr (.inl (fun _ => 0)))), ((rn 7), .inl (cy 1, 11, .inr (.inl (fun _ => 0)))), (h0, .inr (7, [.ref vC, .ref p1, .ref p2, .ref p3, .ref p4, .ref p5, .ref p6, .ref p7, .int e1, .long e2, .ref p8, .int 0, .int x2, .long 1]))] H := hP
  have hD : va_D A [(p5, .inl (cy 3, 9, .inr (.inr (.inr (.inr (fun k9 => if k9 < 9 then some (rt k9) else none)))))), ((rt 0), .inl (cy 1, 3, .inr (.inl (fun _ => 0)))), ((rt 1), .inl (cy 1, 3, .inr (.inl (fun _ => 0)))), ((rt 2), .inl (cy 1, 3, .inr (.inl (fun _ => 0)))), ((rt 3), .inl (cy 1, 3, .inr (.inl (fun _ => 0)))), ((rt 4), .inl (cy 1, 3, .inr (.inl (vp_updL (vp_updL (fun _ => 0) (0 : Int32).toNatClampNeg 0) (1 : Int32).toNatClampNeg 0)))), ((rt 5), .inl (cy 1, 3, .inr (.inl (fun _ => 0)))), ((rt 6), .inl (cy 1, 3, .inr (.inl (fun _ => 0)))), ((rt 7), .inl (cy 1, 3, .inr (.inl (fun _ => 0)))), ((rt 8), .inl (cy 1, 3, .inr (.inl (fun _ => 0)))), (p2, .inl (cy 2, 9, .inl (fun _ => 0))), (p3, .inl (cy 0, 9, .inl (fun _ => (-1)))), (vC, .inr (3, [.ref sS, .ref sJ, .int 0, .int 0])), (p4, .inl (cy 3, 8, .inr (.inr (.inr (.inr (fun k9 => if k9 < 8 then some (rn k9) else none)))))), ((rn 0), .inl (cy 1, 11, .inr (.inl (fun _ => 0)))), ((rn 1), .inl (cy 1, 11, .inr (.inl (fun _ => 0)))), ((rn 2), .inl (cy 1, 11, .inr (.inl (fun _ => 0)))), ((rn 3), .inl (cy 1, 11, .inr (.inl (fun _ => 0)))), ((rn 4), .inl (cy 1, 11, .inr (.inl (fun _ => 0)))), ((rn 5), .inl (cy 1, 11, .inr (.inl (fun _ => 0)))), ((rn 6), .inl (cy 1, 11, .inr (.inl (fun _ => 0)))), ((rn 7), .inl (cy 1, 11, .inr (.inl (fun _ => 0)))), (h0, .inr (7, [.ref vC, .ref p1, .ref p2, .ref p3, .ref p4, .ref p5, .ref p6, .ref p7, .int e1, .long e2, .ref p8, .int 0, .int x2, .long 1]))] := hD
  refine lv_iinc (v := 2) (lv' := [(3, .int 2), (2, .int 4), (0, .ref h0), (1, .int 0)]) hx hb dX4_weigh_66 hl (k := 0) rfl (by decide) (by decide) rfl (fun ls hl => ?_)
  refine lv_goto (tgt := 23) hx hb dX4_weigh_69 (by decide) ?_
  refine lv_iload_n hx hb dX4_weigh_23 rfl (lv_at hl 0 rfl) ?_
  refine lv_iconst (v := 3) hx hb dX4_weigh_24 (by decide) ?_
  refine lv_icmp_ge (tgt := 72) hx hb dX4_weigh_25 (by decide) (fun c_25_57 => absurd c_25_57 (by decide +kernel)) (fun _ => ?_)
  refine lv_aload_n hx hb dX4_weigh_28 rfl (lv_at hl 2 rfl) ?_
  refine va_get (D := D) (ci := 7) (v := .ref p5) (C := RX4) (T := TX4) (N := 14) hx hb hts iRX4 hown hK hP 22 rfl rfl 5 (by decide) (hts _ q43) (fun _ h9 => h9) rfl dX4_weigh_29 ?_
  refine lv_iload_n hx hb dX4_weigh_32 rfl (lv_at hl 1 rfl) ?_
  refine va_aldA hx hb hK hP 0 3 rfl rfl (z_in 4 (by decide) (by decide)) dX4_weigh_33 ?_
  rw [show va_rf ((fun k9 => if k9 < 9 then some (rt k9) else none) (4 : Int32).toNatClampNeg) = .ref (rt 4) from rfl]
  refine lv_iload_n hx hb dX4_weigh_34 rfl (lv_at hl 0 rfl) ?_
  refine lv_aload_n hx hb dX4_weigh_35 rfl (lv_at hl 2 rfl) ?_
  refine va_get (D := D) (ci := 7) (v := .ref p3) (C := RX4) (T := TX4) (N := 14) hx hb hts iRX4 hown hK hP 22 rfl rfl 3 (by decide) (hts _ q39) (fun _ h9 => h9) rfl dX4_weigh_36 ?_
  refine lv_iload_n hx hb dX4_weigh_39 rfl (lv_at hl 1 rfl) ?_
  refine va_iald hx hb hK hP 11 0 rfl rfl (z_in 4 (by decide) (by decide)) dX4_weigh_40 ?_
  refine lv_topi (fun y59 ey59 => ?_)
  obtain rfl : y59 = (-1) := ey59.trans rfl
  refine lv_iconst (v := (-1)) hx hb dX4_weigh_41 (by decide) ?_
  refine lv_icmp_ne (tgt := 49) hx hb dX4_weigh_42 (by decide) (fun c_42_59 => absurd (by decide +kernel) c_42_59) (fun _ => ?_)
  refine lv_lconst (v := 0) hx hb dX4_weigh_45 rfl ?_
  refine lv_goto (tgt := 65) hx hb dX4_weigh_46 (by decide) ?_
  refine va_last hx hb hK hP hD hS 5 1 rfl rfl (z_in 2 (by decide) (by decide)) dX4_weigh_65 (fun H locs hP hD hS => ?_)
  have hP : va_P D vwCl [(p5, .inl (cy 3, 9, .inr (.inr (.inr (.inr (fun k9 => if k9 < 9 then some (rt k9) else none)))))), ((rt 0), .inl (cy 1, 3, .inr (.inl (fun _ => 0)))), ((rt 1), .inl (cy 1, 3, .inr (.inl (fun _ => 0)))), ((rt 2), .inl (cy 1, 3, .inr (.inl (fun _ => 0)))), ((rt 3), .inl (cy 1, 3, .inr (.inl (fun _ => 0)))), ((rt 4), .inl (cy 1, 3, .inr (.inl (vp_updL (vp_updL (vp_updL (fun _ => 0) (0 : Int32).toNatClampNeg 0) (1 : Int32).toNatClampNeg 0) (2 : Int32).toNatClampNeg 0)))), ((rt 5), .inl (cy 1, 3, .inr (.inl (fun _ => 0)))), ((rt 6), .inl (cy 1, 3, .inr (.inl (fun _ => 0)))), ((rt 7), .inl (cy 1, 3, .inr (.inl (fun _ => 0)))), ((rt 8), .inl (cy 1, 3, .inr (.inl (fun _ => 0)))), (p2, .inl (cy 2, 9, .inl (fun _ => 0))), (p3, .inl (cy 0, 9, .inl (fun _ => (-1)))), (vC, .inr (3, [.ref sS, .ref sJ, .int 0, .int 0])), (p4, .inl (cy 3, 8, .inr (.inr (.inr (.inr (fun k9 => if k9 < 8 then some (rn k9) else none)))))), ((rn 0), .inl (cy 1, 11, .inr (.inl (fun _ => 0)))), ((rn 1), .inl (cy 1, 11, .inr (.inl (fun _ => 0)))), ((rn 2), .inl (cy 1, 11, .inr (.inl (fun _ => 0)))), ((rn 3), .inl (cy 1, 11, .inr (.inl (fun _ => 0)))), ((rn 4), .inl (cy 1, 11, .inr (.inl (fun _ => 0)))), ((rn 5), .inl (cy 1, 11, .inr (.inl (fun _ => 0)))), ((rn 6), .inl (cy 1, 11, .inr (.inl (fun _ => 0)))), ((rn 7), .inl (cy 1, 11, .inr (.inl (fun _ => 0)))), (h0, .inr (7, [.ref vC, .ref p1, .ref p2, .ref p3, .ref p4, .ref p5, .ref p6, .ref p7, .int e1, .long e2, .ref p8, .int 0, .int x2, .long 1]))] H := hP
  have hD : va_D A [(p5, .inl (cy 3, 9, .inr (.inr (.inr (.inr (fun k9 => if k9 < 9 then some (rt k9) else none)))))), ((rt 0), .inl (cy 1, 3, .inr (.inl (fun _ => 0)))), ((rt 1), .inl (cy 1, 3, .inr (.inl (fun _ => 0)))), ((rt 2), .inl (cy 1, 3, .inr (.inl (fun _ => 0)))), ((rt 3), .inl (cy 1, 3, .inr (.inl (fun _ => 0)))), ((rt 4), .inl (cy 1, 3, .inr (.inl (vp_updL (vp_updL (vp_updL (fun _ => 0) (0 : Int32).toNatClampNeg 0) (1 : Int32).toNatClampNeg 0) (2 : Int32).toNatClampNeg 0)))), ((rt 5), .inl (cy 1, 3, .inr (.inl (fun _ => 0)))), ((rt 6), .inl (cy 1, 3, .inr (.inl (fun _ => 0)))), ((rt 7), .inl (cy 1, 3, .inr (.inl (fun _ => 0)))), ((rt 8), .inl (cy 1, 3, .inr (.inl (fun _ => 0)))), (p2, .inl (cy 2, 9, .inl (fun _ => 0))), (p3, .inl (cy 0, 9, .inl (fun _ => (-1)))), (vC, .inr (3, [.ref sS, .ref sJ, .int 0, .int 0])), (p4, .inl (cy 3, 8, .inr (.inr (.inr (.inr (fun k9 => if k9 < 8 then some (rn k9) else none)))))), ((rn 0), .inl (cy 1, 11, .inr (.inl (fun _ => 0)))), ((rn 1), .inl (cy 1, 11, .inr (.inl (fun _ => 0)))), ((rn 2), .inl (cy 1, 11, .inr (.inl (fun _ => 0)))), ((rn 3), .inl (cy 1, 11, .inr (.inl (fun _ => 0)))), ((rn 4), .inl (cy 1, 11, .inr (.inl (fun _ => 0)))), ((rn 5), .inl (cy 1, 11, .inr (.inl (fun _ => 0)))), ((rn 6), .inl (cy 1, 11, .inr (.inl (fun _ => 0)))), ((rn 7), .inl (cy 1, 11, .inr (.inl (fun _ => 0)))), (h0, .inr (7, [.ref vC, .ref p1, .ref p2, .ref p3, .ref p4, .ref p5, .ref p6, .ref p7, .int e1, .long e2, .ref p8, .int 0, .int x2, .long 1]))] := hD
  refine lv_iinc (v := 3) (lv' := [(3, .int 3), (2, .int 4), (0, .ref h0), (1, .int 0)]) hx hb dX4_weigh_66 hl (k := 0) rfl (by decide) (by decide) rfl (fun ls hl => ?_)
  refine lv_goto (tgt := 23) hx hb dX4_weigh_69 (by decide) ?_
  refine lv_iload_n hx hb dX4_weigh_23 rfl (lv_at hl 0 rfl) ?_
  refine lv_iconst (v := 3) hx hb dX4_weigh_24 (by decide) ?_
  refine lv_icmp_ge (tgt := 72) hx hb dX4_weigh_25 (by decide) (fun _ => ?_) (fun c_25_60 => absurd (by decide +kernel) c_25_60)
  obtain ⟨hP, hD⟩ := zP_l (fun _ => 0) hP hD (q := 5) rfl (fun j hj => by rcases (show j = 0 ∨ j = 1 ∨ j = 2 by omega) with rfl | rfl | rfl <;> rfl)
  have hP : va_P D vwCl [(p5, .inl (cy 3, 9, .inr (.inr (.inr (.inr (fun k9 => if k9 < 9 then some (rt k9) else none)))))), ((rt 0), .inl (cy 1, 3, .inr (.inl (fun _ => 0)))), ((rt 1), .inl (cy 1, 3, .inr (.inl (fun _ => 0)))), ((rt 2), .inl (cy 1, 3, .inr (.inl (fun _ => 0)))), ((rt 3), .inl (cy 1, 3, .inr (.inl (fun _ => 0)))), ((rt 4), .inl (cy 1, 3, .inr (.inl (fun _ => 0)))), ((rt 5), .inl (cy 1, 3, .inr (.inl (fun _ => 0)))), ((rt 6), .inl (cy 1, 3, .inr (.inl (fun _ => 0)))), ((rt 7), .inl (cy 1, 3, .inr (.inl (fun _ => 0)))), ((rt 8), .inl (cy 1, 3, .inr (.inl (fun _ => 0)))), (p2, .inl (cy 2, 9, .inl (fun _ => 0))), (p3, .inl (cy 0, 9, .inl (fun _ => (-1)))), (vC, .inr (3, [.ref sS, .ref sJ, .int 0, .int 0])), (p4, .inl (cy 3, 8, .inr (.inr (.inr (.inr (fun k9 => if k9 < 8 then some (rn k9) else none)))))), ((rn 0), .inl (cy 1, 11, .inr (.inl (fun _ => 0)))), ((rn 1), .inl (cy 1, 11, .inr (.inl (fun _ => 0)))), ((rn 2), .inl (cy 1, 11, .inr (.inl (fun _ => 0)))), ((rn 3), .inl (cy 1, 11, .inr (.inl (fun _ => 0)))), ((rn 4), .inl (cy 1, 11, .inr (.inl (fun _ => 0)))), ((rn 5), .inl (cy 1, 11, .inr (.inl (fun _ => 0)))), ((rn 6), .inl (cy 1, 11, .inr (.inl (fun _ => 0)))), ((rn 7), .inl (cy 1, 11, .inr (.inl (fun _ => 0)))), (h0, .inr (7, [.ref vC, .ref p1, .ref p2, .ref p3, .ref p4, .ref p5, .ref p6, .ref p7, .int e1, .long e2, .ref p8, .int 0, .int x2, .long 1]))] H := hP
  have hD : va_D A [(p5, .inl (cy 3, 9, .inr (.inr (.inr (.inr (fun k9 => if k9 < 9 then some (rt k9) else none)))))), ((rt 0), .inl (cy 1, 3, .inr (.inl (fun _ => 0)))), ((rt 1), .inl (cy 1, 3, .inr (.inl (fun _ => 0)))), ((rt 2), .inl (cy 1, 3, .inr (.inl (fun _ => 0)))), ((rt 3), .inl (cy 1, 3, .inr (.inl (fun _ => 0)))), ((rt 4), .inl (cy 1, 3, .inr (.inl (fun _ => 0)))), ((rt 5), .inl (cy 1, 3, .inr (.inl (fun _ => 0)))), ((rt 6), .inl (cy 1, 3, .inr (.inl (fun _ => 0)))), ((rt 7), .inl (cy 1, 3, .inr (.inl (fun _ => 0)))), ((rt 8), .inl (cy 1, 3, .inr (.inl (fun _ => 0)))), (p2, .inl (cy 2, 9, .inl (fun _ => 0))), (p3, .inl (cy 0, 9, .inl (fun _ => (-1)))), (vC, .inr (3, [.ref sS, .ref sJ, .int 0, .int 0])), (p4, .inl (cy 3, 8, .inr (.inr (.inr (.inr (fun k9 => if k9 < 8 then some (rn k9) else none)))))), ((rn 0), .inl (cy 1, 11, .inr (.inl (fun _ => 0)))), ((rn 1), .inl (cy 1, 11, .inr (.inl (fun _ => 0)))), ((rn 2), .inl (cy 1, 11, .inr (.inl (fun _ => 0)))), ((rn 3), .inl (cy 1, 11, .inr (.inl (fun _ => 0)))), ((rn 4), .inl (cy 1, 11, .inr (.inl (fun _ => 0)))), ((rn 5), .inl (cy 1, 11, .inr (.inl (fun _ => 0)))), ((rn 6), .inl (cy 1, 11, .inr (.inl (fun _ => 0)))), ((rn 7), .inl (cy 1, 11, .inr (.inl (fun _ => 0)))), (h0, .inr (7, [.ref vC, .ref p1, .ref p2, .ref p3, .ref p4, .ref p5, .ref p6, .ref p7, .int e1, .long e2, .ref p8, .int 0, .int x2, .long 1]))] := hD
  refine lv_iinc (v := 5) (lv' := [(2, .int 5), (3, .int 3), (0, .ref h0), (1, .int 0)]) hx hb dX4_weigh_72 hl (k := 1) rfl (by decide) (by decide) rfl (fun ls hl => ?_)
  refine lv_goto (tgt := 15) hx hb dX4_weigh_75 (by decide) ?_
  refine lv_iload_n hx hb dX4_weigh_15 rfl (lv_at hl 0 rfl) ?_
  refine lv_bipush (v := 9) hx hb dX4_weigh_16 (by decide) ?_
  refine lv_icmp_ge (tgt := 78) hx hb dX4_weigh_18 (by decide) (fun c_18_61 => absurd c_18_61 (by decide +kernel)) (fun _ => ?_)
  refine lv_iconst (v := 0) hx hb dX4_weigh_21 (by decide) ?_
  refine lv_istore_n (lv' := [(3, .int 0), (2, .int 5), (0, .ref h0), (1, .int 0)]) hx hb dX4_weigh_22 rfl hl (by decide) rfl (fun ls hl => ?_)
  refine lv_iload_n hx hb dX4_weigh_23 rfl (lv_at hl 0 rfl) ?_
  refine lv_iconst (v := 3) hx hb dX4_weigh_24 (by decide) ?_
  refine lv_icmp_ge (tgt := 72) hx hb dX4_weigh_25 (by decide) (fun c_25_62 => absurd c_25_62 (by decide +kernel)) (fun _ => ?_)
  refine lv_aload_n hx hb dX4_weigh_28 rfl (lv_at hl 2 rfl) ?_
  refine va_get (D := D) (ci := 7) (v := .ref p5) (C := RX4) (T := TX4) (N := 14) hx hb hts iRX4 hown hK hP 22 rfl rfl 5 (by decide) (hts _ q43) (fun _ h9 => h9) rfl dX4_weigh_29 ?_
  refine lv_iload_n hx hb dX4_weigh_32 rfl (lv_at hl 1 rfl) ?_
  refine va_aldA hx hb hK hP 0 3 rfl rfl (z_in 5 (by decide) (by decide)) dX4_weigh_33 ?_
  rw [show va_rf ((fun k9 => if k9 < 9 then some (rt k9) else none) (5 : Int32).toNatClampNeg) = .ref (rt 5) from rfl]
  refine lv_iload_n hx hb dX4_weigh_34 rfl (lv_at hl 0 rfl) ?_
  refine lv_aload_n hx hb dX4_weigh_35 rfl (lv_at hl 2 rfl) ?_
  refine va_get (D := D) (ci := 7) (v := .ref p3) (C := RX4) (T := TX4) (N := 14) hx hb hts iRX4 hown hK hP 22 rfl rfl 3 (by decide) (hts _ q39) (fun _ h9 => h9) rfl dX4_weigh_36 ?_
  refine lv_iload_n hx hb dX4_weigh_39 rfl (lv_at hl 1 rfl) ?_
  refine va_iald hx hb hK hP 11 0 rfl rfl (z_in 5 (by decide) (by decide)) dX4_weigh_40 ?_
  refine lv_topi (fun y64 ey64 => ?_)
  obtain rfl : y64 = (-1) := ey64.trans rfl
  refine lv_iconst (v := (-1)) hx hb dX4_weigh_41 (by decide) ?_
  refine lv_icmp_ne (tgt := 49) hx hb dX4_weigh_42 (by decide) (fun c_42_64 => absurd (by decide +kernel) c_42_64) (fun _ => ?_)
  refine lv_lconst (v := 0) hx hb dX4_weigh_45 rfl ?_
  refine lv_goto (tgt := 65) hx hb dX4_weigh_46 (by decide) ?_
  refine va_last hx hb hK hP hD hS 6 1 rfl rfl (z_in 0 (by decide) (by decide)) dX4_weigh_65 (fun H locs hP hD hS => ?_)
  have hP : va_P D vwCl [(p5, .inl (cy 3, 9, .inr (.inr (.inr (.inr (fun k9 => if k9 < 9 then some (rt k9) else none)))))), ((rt 0), .inl (cy 1, 3, .inr (.inl (fun _ => 0)))), ((rt 1), .inl (cy 1, 3, .inr (.inl (fun _ => 0)))), ((rt 2), .inl (cy 1, 3, .inr (.inl (fun _ => 0)))), ((rt 3), .inl (cy 1, 3, .inr (.inl (fun _ => 0)))), ((rt 4), .inl (cy 1, 3, .inr (.inl (fun _ => 0)))), ((rt 5), .inl (cy 1, 3, .inr (.inl (vp_updL (fun _ => 0) (0 : Int32).toNatClampNeg 0)))), ((rt 6), .inl (cy 1, 3, .inr (.inl (fun _ => 0)))), ((rt 7), .inl (cy 1, 3, .inr (.inl (fun _ => 0)))), ((rt 8), .inl (cy 1, 3, .inr (.inl (fun _ => 0)))), (p2, .inl (cy 2, 9, .inl (fun _ => 0))), (p3, .inl (cy 0, 9, .inl (fun _ => (-1)))), (vC, .inr (3, [.ref sS, .ref sJ, .int 0, .int 0])), (p4, .inl (cy 3, 8, .inr (.inr (.inr (.inr (fun k9 => if k9 < 8 then some (rn k9) else none)))))), ((rn 0), .inl (cy 1, 11, .inr (.inl (fun _ => 0)))), ((rn 1), .inl (cy 1, 11, .inr (.inl (fun _ => 0)))), ((rn 2), .inl (cy 1, 11, .inr (.inl (fun _ => 0)))), ((rn 3), .inl (cy 1, 11, .inr (.inl (fun _ => 0)))), ((rn 4), .inl (cy 1, 11, .inr (.inl (fun _ => 0)))), ((rn 5), .inl (cy 1, 11, .inr (.inl (fun _ => 0)))), ((rn 6), .inl (cy 1, 11, .inr (.inl (fun _ => 0)))), ((rn 7), .inl (cy 1, 11, .inr (.inl (fun _ => 0)))), (h0, .inr (7, [.ref vC, .ref p1, .ref p2, .ref p3, .ref p4, .ref p5, .ref p6, .ref p7, .int e1, .long e2, .ref p8, .int 0, .int x2, .long 1]))] H := hP
  have hD : va_D A [(p5, .inl (cy 3, 9, .inr (.inr (.inr (.inr (fun k9 => if k9 < 9 then some (rt k9) else none)))))), ((rt 0), .inl (cy 1, 3, .inr (.inl (fun _ => 0)))), ((rt 1), .inl (cy 1, 3, .inr (.inl (fun _ => 0)))), ((rt 2), .inl (cy 1, 3, .inr (.inl (fun _ => 0)))), ((rt 3), .inl (cy 1, 3, .inr (.inl (fun _ => 0)))), ((rt 4), .inl (cy 1, 3, .inr (.inl (fun _ => 0)))), ((rt 5), .inl (cy 1, 3, .inr (.inl (vp_updL (fun _ => 0) (0 : Int32).toNatClampNeg 0)))), ((rt 6), .inl (cy 1, 3, .inr (.inl (fun _ => 0)))), ((rt 7), .inl (cy 1, 3, .inr (.inl (fun _ => 0)))), ((rt 8), .inl (cy 1, 3, .inr (.inl (fun _ => 0)))), (p2, .inl (cy 2, 9, .inl (fun _ => 0))), (p3, .inl (cy 0, 9, .inl (fun _ => (-1)))), (vC, .inr (3, [.ref sS, .ref sJ, .int 0, .int 0])), (p4, .inl (cy 3, 8, .inr (.inr (.inr (.inr (fun k9 => if k9 < 8 then some (rn k9) else none)))))), ((rn 0), .inl (cy 1, 11, .inr (.inl (fun _ => 0)))), ((rn 1), .inl (cy 1, 11, .inr (.inl (fun _ => 0)))), ((rn 2), .inl (cy 1, 11, .inr (.inl (fun _ => 0)))), ((rn 3), .inl (cy 1, 11, .inr (.inl (fun _ => 0)))), ((rn 4), .inl (cy 1, 11, .inr (.inl (fun _ => 0)))), ((rn 5), .inl (cy 1, 11, .inr (.inl (fun _ => 0)))), ((rn 6), .inl (cy 1, 11, .inr (.inl (fun _ => 0)))), ((rn 7), .inl (cy 1, 11, .inr (.inl (fun _ => 0)))), (h0, .inr (7, [.ref vC, .ref p1, .ref p2, .ref p3, .ref p4, .ref p5, .ref p6, .ref p7, .int e1, .long e2, .ref p8, .int 0, .int x2, .long 1]))] := hD
  refine lv_iinc (v := 1) (lv' := [(3, .int 1), (2, .int 5), (0, .ref h0), (1, .int 0)]) hx hb dX4_weigh_66 hl (k := 0) rfl (by decide) (by decide) rfl (fun ls hl => ?_)
  refine lv_goto (tgt := 23) hx hb dX4_weigh_69 (by decide) ?_
  refine lv_iload_n hx hb dX4_weigh_23 rfl (lv_at hl 0 rfl) ?_
  refine lv_iconst (v := 3) hx hb dX4_weigh_24 (by decide) ?_
  refine lv_icmp_ge (tgt := 72) hx hb dX4_weigh_25 (by decide) (fun c_25_65 => absurd c_25_65 (by decide +kernel)) (fun _ => ?_)
  refine lv_aload_n hx hb dX4_weigh_28 rfl (lv_at hl 2 rfl) ?_
  refine va_get (D := D) (ci := 7) (v := .ref p5) (C := RX4) (T := TX4) (N := 14) hx hb hts iRX4 hown hK hP 22 rfl rfl 5 (by decide) (hts _ q43) (fun _ h9 => h9) rfl dX4_weigh_29 ?_
  refine lv_iload_n hx hb dX4_weigh_32 rfl (lv_at hl 1 rfl) ?_
  refine va_aldA hx hb hK hP 0 3 rfl rfl (z_in 5 (by decide) (by decide)) dX4_weigh_33 ?_
  rw [show va_rf ((fun k9 => if k9 < 9 then some (rt k9) else none) (5 : Int32).toNatClampNeg) = .ref (rt 5) from rfl]
  refine lv_iload_n hx hb dX4_weigh_34 rfl (lv_at hl 0 rfl) ?_
  refine lv_aload_n hx hb dX4_weigh_35 rfl (lv_at hl 2 rfl) ?_
  refine va_get (D := D) (ci := 7) (v := .ref p3) (C := RX4) (T := TX4) (N := 14) hx hb hts iRX4 hown hK hP 22 rfl rfl 3 (by decide) (hts _ q39) (fun _ h9 => h9) rfl dX4_weigh_36 ?_
  refine lv_iload_n hx hb dX4_weigh_39 rfl (lv_at hl 1 rfl) ?_
  refine va_iald hx hb hK hP 11 0 rfl rfl (z_in 5 (by decide) (by decide)) dX4_weigh_40 ?_
  refine lv_topi (fun y67 ey67 => ?_)
  obtain rfl : y67 = (-1) := ey67.trans rfl
  refine lv_iconst (v := (-1)) hx hb dX4_weigh_41 (by decide) ?_
  refine lv_icmp_ne (tgt := 49) hx hb dX4_weigh_42 (by decide) (fun c_42_67 => absurd (by decide +kernel) c_42_67) (fun _ => ?_)
  refine lv_lconst (v := 0) hx hb dX4_weigh_45 rfl ?_
  refine lv_goto (tgt := 65) hx hb dX4_weigh_46 (by decide) ?_
  refine va_last hx hb hK hP hD hS 6 1 rfl rfl (z_in 1 (by decide) (by decide)) dX4_weigh_65 (fun H locs hP hD hS => ?_)
  have hP : va_P D vwCl [(p5, .inl (cy 3, 9, .inr (.inr (.inr (.inr (fun k9 => if k9 < 9 then some (rt k9) else none)))))), ((rt 0), .inl (cy 1, 3, .inr (.inl (fun _ => 0)))), ((rt 1), .inl (cy 1, 3, .inr (.inl (fun _ => 0)))), ((rt 2), .inl (cy 1, 3, .inr (.inl (fun _ => 0)))), ((rt 3), .inl (cy 1, 3, .inr (.inl (fun _ => 0)))), ((rt 4), .inl (cy 1, 3, .inr (.inl (fun _ => 0)))), ((rt 5), .inl (cy 1, 3, .inr (.inl (vp_updL (vp_updL (fun _ => 0) (0 : Int32).toNatClampNeg 0) (1 : Int32).toNatClampNeg 0)))), ((rt 6), .inl (cy 1, 3, .inr (.inl (fun _ => 0)))), ((rt 7), .inl (cy 1, 3, .inr (.inl (fun _ => 0)))), ((rt 8), .inl (cy 1, 3, .inr (.inl (fun _ => 0)))), (p2, .inl (cy 2, 9, .inl (fun _ => 0))), (p3, .inl (cy 0, 9, .inl (fun _ => (-1)))), (vC, .inr (3, [.ref sS, .ref sJ, .int 0, .int 0])), (p4, .inl (cy 3, 8, .inr (.inr (.inr (.inr (fun k9 => if k9 < 8 then some (rn k9) else none)))))), ((rn 0), .inl (cy 1, 11, .inr (.inl (fun _ => 0)))), ((rn 1), .inl (cy 1, 11, .inr (.inl (fun _ => 0)))), ((rn 2), .inl (cy 1, 11, .inr (.inl (fun _ => 0)))), ((rn 3), .inl (cy 1, 11, .inr (.inl (fun _ => 0)))), ((rn 4), .inl (cy 1, 11, .inr (.inl (fun _ => 0)))), ((rn 5), .inl (cy 1, 11, .inr (.inl (fun _ => 0)))), ((rn 6), .inl (cy 1, 11, .inr (.inl (fun _ => 0)))), ((rn 7), .inl (cy 1, 11, .inr (.inl (fun _ => 0)))), (h0, .inr (7, [.ref vC, .ref p1, .ref p2, .ref p3, .ref p4, .ref p5, .ref p6, .ref p7, .int e1, .long e2, .ref p8, .int 0, .int x2, .long 1]))] H := hP
  have hD : va_D A [(p5, .inl (cy 3, 9, .inr (.inr (.inr (.inr (fun k9 => if k9 < 9 then some (rt k9) else none)))))), ((rt 0), .inl (cy 1, 3, .inr (.inl (fun _ => 0)))), ((rt 1), .inl (cy 1, 3, .inr (.inl (fun _ => 0)))), ((rt 2), .inl (cy 1, 3, .inr (.inl (fun _ => 0)))), ((rt 3), .inl (cy 1, 3, .inr (.inl (fun _ => 0)))), ((rt 4), .inl (cy 1, 3, .inr (.inl (fun _ => 0)))), ((rt 5), .inl (cy 1, 3, .inr (.inl (vp_updL (vp_updL (fun _ => 0) (0 : Int32).toNatClampNeg 0) (1 : Int32).toNatClampNeg 0)))), ((rt 6), .inl (cy 1, 3, .inr (.inl (fun _ => 0)))), ((rt 7), .inl (cy 1, 3, .inr (.inl (fun _ => 0)))), ((rt 8), .inl (cy 1, 3, .inr (.inl (fun _ => 0)))), (p2, .inl (cy 2, 9, .inl (fun _ => 0))), (p3, .inl (cy 0, 9, .inl (fun _ => (-1)))), (vC, .inr (3, [.ref sS, .ref sJ, .int 0, .int 0])), (p4, .inl (cy 3, 8, .inr (.inr (.inr (.inr (fun k9 => if k9 < 8 then some (rn k9) else none)))))), ((rn 0), .inl (cy 1, 11, .inr (.inl (fun _ => 0)))), ((rn 1), .inl (cy 1, 11, .inr (.inl (fun _ => 0)))), ((rn 2), .inl (cy 1, 11, .inr (.inl (fun _ => 0)))), ((rn 3), .inl (cy 1, 11, .inr (.inl (fun _ => 0)))), ((rn 4), .inl (cy 1, 11, .inr (.inl (fun _ => 0)))), ((rn 5), .inl (cy 1, 11, .inr (.inl (fun _ => 0)))), ((rn 6), .inl (cy 1, 11, .inr (.inl (fun _ => 0)))), ((rn 7), .inl (cy 1, 11, .inr (.inl (fun _ => 0)))), (h0, .inr (7, [.ref vC, .ref p1, .ref p2, .ref p3, .ref p4, .ref p5, .ref p6, .ref p7, .int e1, .long e2, .ref p8, .int 0, .int x2, .long 1]))] := hD
  refine lv_iinc (v := 2) (lv' := [(3, .int 2), (2, .int 5), (0, .ref h0), (1, .int 0)]) hx hb dX4_weigh_66 hl (k := 0) rfl (by decide) (by decide) rfl (fun ls hl => ?_)
  refine lv_goto (tgt := 23) hx hb dX4_weigh_69 (by decide) ?_
  refine lv_iload_n hx hb dX4_weigh_23 rfl (lv_at hl 0 rfl) ?_
  refine lv_iconst (v := 3) hx hb dX4_weigh_24 (by decide) ?_
  refine lv_icmp_ge (tgt := 72) hx hb dX4_weigh_25 (by decide) (fun c_25_68 => absurd c_25_68 (by decide +kernel)) (fun _ => ?_)
  refine lv_aload_n hx hb dX4_weigh_28 rfl (lv_at hl 2 rfl) ?_
  refine va_get (D := D) (ci := 7) (v := .ref p5) (C := RX4) (T := TX4) (N := 14) hx hb hts iRX4 hown hK hP 22 rfl rfl 5 (by decide) (hts _ q43) (fun _ h9 => h9) rfl dX4_weigh_29 ?_
  refine lv_iload_n hx hb dX4_weigh_32 rfl (lv_at hl 1 rfl) ?_
  refine va_aldA hx hb hK hP 0 3 rfl rfl (z_in 5 (by decide) (by decide)) dX4_weigh_33 ?_
  rw [show va_rf ((fun k9 => if k9 < 9 then some (rt k9) else none) (5 : Int32).toNatClampNeg) = .ref (rt 5) from rfl]
  refine lv_iload_n hx hb dX4_weigh_34 rfl (lv_at hl 0 rfl) ?_
  refine lv_aload_n hx hb dX4_weigh_35 rfl (lv_at hl 2 rfl) ?_
  refine va_get (D := D) (ci := 7) (v := .ref p3) (C := RX4) (T := TX4) (N := 14) hx hb hts iRX4 hown hK hP 22 rfl rfl 3 (by decide) (hts _ q39) (fun _ h9 => h9) rfl dX4_weigh_36 ?_
  refine lv_iload_n hx hb dX4_weigh_39 rfl (lv_at hl 1 rfl) ?_
  refine va_iald hx hb hK hP 11 0 rfl rfl (z_in 5 (by decide) (by decide)) dX4_weigh_40 ?_
  refine lv_topi (fun y70 ey70 => ?_)
  obtain rfl : y70 = (-1) := ey70.trans rfl
  refine lv_iconst (v := (-1)) hx hb dX4_weigh_41 (by decide) ?_
  refine lv_icmp_ne (tgt := 49) hx hb dX4_weigh_42 (by decide) (fun c_42_70 => absurd (by decide +kernel) c_42_70) (fun _ => ?_)
  refine lv_lconst (v := 0) hx hb dX4_weigh_45 rfl ?_
  refine lv_goto (tgt := 65) hx hb dX4_weigh_46 (by decide) ?_
  refine va_last hx hb hK hP hD hS 6 1 rfl rfl (z_in 2 (by decide) (by decide)) dX4_weigh_65 (fun H locs hP hD hS => ?_)
  have hP : va_P D vwCl [(p5, .inl (cy 3, 9, .inr (.inr (.inr (.inr (fun k9 => if k9 < 9 then some (rt k9) else none)))))), ((rt 0), .inl (cy 1, 3, .inr (.inl (fun _ => 0)))), ((rt 1), .inl (cy 1, 3, .inr (.inl (fun _ => 0)))), ((rt 2), .inl (cy 1, 3, .inr (.inl (fun _ => 0)))), ((rt 3), .inl (cy 1, 3, .inr (.inl (fun _ => 0)))), ((rt 4), .inl (cy 1, 3, .inr (.inl (fun _ => 0)))), ((rt 5), .inl (cy 1, 3, .inr (.inl (vp_updL (vp_updL (vp_updL (fun _ => 0) (0 : Int32).toNatClampNeg 0) (1 : Int32).toNatClampNeg 0) (2 : Int32).toNatClampNeg 0)))), ((rt 6), .inl (cy 1, 3, .inr (.inl (fun _ => 0)))), ((rt 7), .inl (cy 1, 3, .inr (.inl (fun _ => 0)))), ((rt 8), .inl (cy 1, 3, .inr (.inl (fun _ => 0)))), (p2, .inl (cy 2, 9, .inl (fun _ => 0))), (p3, .inl (cy 0, 9, .inl (fun _ => (-1)))), (vC, .inr (3, [.ref sS, .ref sJ, .int 0, .int 0])), (p4, .inl (cy 3, 8, .inr (.inr (.inr (.inr (fun k9 => if k9 < 8 then some (rn k9) else none)))))), ((rn 0), .inl (cy 1, 11, .inr (.inl (fun _ => 0)))), ((rn 1), .inl (cy 1, 11, .inr (.inl (fun _ => 0)))), ((rn 2), .inl (cy 1, 11, .inr (.inl (fun _ => 0)))), ((rn 3), .inl (cy 1, 11, .inr (.inl (fun _ => 0)))), ((rn 4), .inl (cy 1, 11, .inr (.inl (fun _ => 0)))), ((rn 5), .inl (cy 1, 11, .inr (.inl (fun _ => 0)))), ((rn 6), .inl (cy 1, 11, .inr (.inl (fun _ => 0)))), ((rn 7), .inl (cy 1, 11, .inr (.inl (fun _ => 0)))), (h0, .inr (7, [.ref vC, .ref p1, .ref p2, .ref p3, .ref p4, .ref p5, .ref p6, .ref p7, .int e1, .long e2, .ref p8, .int 0, .int x2, .long 1]))] H := hP
  have hD : va_D A [(p5, .inl (cy 3, 9, .inr (.inr (.inr (.inr (fun k9 => if k9 < 9 then some (rt k9) else none)))))), ((rt 0), .inl (cy 1, 3, .inr (.inl (fun _ => 0)))), ((rt 1), .inl (cy 1, 3, .inr (.inl (fun _ => 0)))), ((rt 2), .inl (cy 1, 3, .inr (.inl (fun _ => 0)))), ((rt 3), .inl (cy 1, 3, .inr (.inl (fun _ => 0)))), ((rt 4), .inl (cy 1, 3, .inr (.inl (fun _ => 0)))), ((rt 5), .inl (cy 1, 3, .inr (.inl (vp_updL (vp_updL (vp_updL (fun _ => 0) (0 : Int32).toNatClampNeg 0) (1 : Int32).toNatClampNeg 0) (2 : Int32).toNatClampNeg 0)))), ((rt 6), .inl (cy 1, 3, .inr (.inl (fun _ => 0)))), ((rt 7), .inl (cy 1, 3, .inr (.inl (fun _ => 0)))), ((rt 8), .inl (cy 1, 3, .inr (.inl (fun _ => 0)))), (p2, .inl (cy 2, 9, .inl (fun _ => 0))), (p3, .inl (cy 0, 9, .inl (fun _ => (-1)))), (vC, .inr (3, [.ref sS, .ref sJ, .int 0, .int 0])), (p4, .inl (cy 3, 8, .inr (.inr (.inr (.inr (fun k9 => if k9 < 8 then some (rn k9) else none)))))), ((rn 0), .inl (cy 1, 11, .inr (.inl (fun _ => 0)))), ((rn 1), .inl (cy 1, 11, .inr (.inl (fun _ => 0)))), ((rn 2), .inl (cy 1, 11, .inr (.inl (fun _ => 0)))), ((rn 3), .inl (cy 1, 11, .inr (.inl (fun _ => 0)))), ((rn 4), .inl (cy 1, 11, .inr (.inl (fun _ => 0)))), ((rn 5), .inl (cy 1, 11, .inr (.inl (fun _ => 0)))), ((rn 6), .inl (cy 1, 11, .inr (.inl (fun _ => 0)))), ((rn 7), .inl (cy 1, 11, .inr (.inl (fun _ => 0)))), (h0, .inr (7, [.ref vC, .ref p1, .ref p2, .ref p3, .ref p4, .ref p5, .ref p6, .ref p7, .int e1, .long e2, .ref p8, .int 0, .int x2, .long 1]))] := hD
  refine lv_iinc (v := 3) (lv' := [(3, .int 3), (2, .int 5), (0, .ref h0), (1, .int 0)]) hx hb dX4_weigh_66 hl (k := 0) rfl (by decide) (by decide) rfl (fun ls hl => ?_)
  refine lv_goto (tgt := 23) hx hb dX4_weigh_69 (by decide) ?_
  refine lv_iload_n hx hb dX4_weigh_23 rfl (lv_at hl 0 rfl) ?_
  refine lv_iconst (v := 3) hx hb dX4_weigh_24 (by decide) ?_
  refine lv_icmp_ge (tgt := 72) hx hb dX4_weigh_25 (by decide) (fun _ => ?_) (fun c_25_71 => absurd (by decide +kernel) c_25_71)
  obtain ⟨hP, hD⟩ := zP_l (fun _ => 0) hP hD (q := 6) rfl (fun j hj => by rcases (show j = 0 ∨ j = 1 ∨ j = 2 by omega) with rfl | rfl | rfl <;> rfl)
  have hP : va_P D vwCl [(p5, .inl (cy 3, 9, .inr (.inr (.inr (.inr (fun k9 => if k9 < 9 then some (rt k9) else none)))))), ((rt 0), .inl (cy 1, 3, .inr (.inl (fun _ => 0)))), ((rt 1), .inl (cy 1, 3, .inr (.inl (fun _ => 0)))), ((rt 2), .inl (cy 1, 3, .inr (.inl (fun _ => 0)))), ((rt 3), .inl (cy 1, 3, .inr (.inl (fun _ => 0)))), ((rt 4), .inl (cy 1, 3, .inr (.inl (fun _ => 0)))), ((rt 5), .inl (cy 1, 3, .inr (.inl (fun _ => 0)))), ((rt 6), .inl (cy 1, 3, .inr (.inl (fun _ => 0)))), ((rt 7), .inl (cy 1, 3, .inr (.inl (fun _ => 0)))), ((rt 8), .inl (cy 1, 3, .inr (.inl (fun _ => 0)))), (p2, .inl (cy 2, 9, .inl (fun _ => 0))), (p3, .inl (cy 0, 9, .inl (fun _ => (-1)))), (vC, .inr (3, [.ref sS, .ref sJ, .int 0, .int 0])), (p4, .inl (cy 3, 8, .inr (.inr (.inr (.inr (fun k9 => if k9 < 8 then some (rn k9) else none)))))), ((rn 0), .inl (cy 1, 11, .inr (.inl (fun _ => 0)))), ((rn 1), .inl (cy 1, 11, .inr (.inl (fun _ => 0)))), ((rn 2), .inl (cy 1, 11, .inr (.inl (fun _ => 0)))), ((rn 3), .inl (cy 1, 11, .inr (.inl (fun _ => 0)))), ((rn 4), .inl (cy 1, 11, .inr (.inl (fun _ => 0)))), ((rn 5), .inl (cy 1, 11, .inr (.inl (fun _ => 0)))), ((rn 6), .inl (cy 1, 11, .inr (.inl (fun _ => 0)))), ((rn 7), .inl (cy 1, 11, .inr (.inl (fun _ => 0)))), (h0, .inr (7, [.ref vC, .ref p1, .ref p2, .ref p3, .ref p4, .ref p5, .ref p6, .ref p7, .int e1, .long e2, .ref p8, .int 0, .int x2, .long 1]))] H := hP
  have hD : va_D A [(p5, .inl (cy 3, 9, .inr (.inr (.inr (.inr (fun k9 => if k9 < 9 then some (rt k9) else none)))))), ((rt 0), .inl (cy 1, 3, .inr (.inl (fun _ => 0)))), ((rt 1), .inl (cy 1, 3, .inr (.inl (fun _ => 0)))), ((rt 2), .inl (cy 1, 3, .inr (.inl (fun _ => 0)))), ((rt 3), .inl (cy 1, 3, .inr (.inl (fun _ => 0)))), ((rt 4), .inl (cy 1, 3, .inr (.inl (fun _ => 0)))), ((rt 5), .inl (cy 1, 3, .inr (.inl (fun _ => 0)))), ((rt 6), .inl (cy 1, 3, .inr (.inl (fun _ => 0)))), ((rt 7), .inl (cy 1, 3, .inr (.inl (fun _ => 0)))), ((rt 8), .inl (cy 1, 3, .inr (.inl (fun _ => 0)))), (p2, .inl (cy 2, 9, .inl (fun _ => 0))), (p3, .inl (cy 0, 9, .inl (fun _ => (-1)))), (vC, .inr (3, [.ref sS, .ref sJ, .int 0, .int 0])), (p4, .inl (cy 3, 8, .inr (.inr (.inr (.inr (fun k9 => if k9 < 8 then some (rn k9) else none)))))), ((rn 0), .inl (cy 1, 11, .inr (.inl (fun _ => 0)))), ((rn 1), .inl (cy 1, 11, .inr (.inl (fun _ => 0)))), ((rn 2), .inl (cy 1, 11, .inr (.inl (fun _ => 0)))), ((rn 3), .inl (cy 1, 11, .inr (.inl (fun _ => 0)))), ((rn 4), .inl (cy 1, 11, .inr (.inl (fun _ => 0)))), ((rn 5), .inl (cy 1, 11, .inr (.inl (fun _ => 0)))), ((rn 6), .inl (cy 1, 11, .inr (.inl (fun _ => 0)))), ((rn 7), .inl (cy 1, 11, .inr (.inl (fun _ => 0)))), (h0, .inr (7, [.ref vC, .ref p1, .ref p2, .ref p3, .ref p4, .ref p5, .ref p6, .ref p7, .int e1, .long e2, .ref p8, .int 0, .int x2, .long 1]))] := hD
  refine lv_iinc (v := 6) (lv' := [(2, .int 6), (3, .int 3), (0, .ref h0), (1, .int 0)]) hx hb dX4_weigh_72 hl (k := 1) rfl (by decide) (by decide) rfl (fun ls hl => ?_)
  refine lv_goto (tgt := 15) hx hb dX4_weigh_75 (by decide) ?_
  refine lv_iload_n hx hb dX4_weigh_15 rfl (lv_at hl 0 rfl) ?_
  refine lv_bipush (v := 9) hx hb dX4_weigh_16 (by decide) ?_
  refine lv_icmp_ge (tgt := 78) hx hb dX4_weigh_18 (by decide) (fun c_18_72 => absurd c_18_72 (by decide +kernel)) (fun _ => ?_)
  refine lv_iconst (v := 0) hx hb dX4_weigh_21 (by decide) ?_
  refine lv_istore_n (lv' := [(3, .int 0), (2, .int 6), (0, .ref h0), (1, .int 0)]) hx hb dX4_weigh_22 rfl hl (by decide) rfl (fun ls hl => ?_)
  refine lv_iload_n hx hb dX4_weigh_23 rfl (lv_at hl 0 rfl) ?_
  refine lv_iconst (v := 3) hx hb dX4_weigh_24 (by decide) ?_
  refine lv_icmp_ge (tgt := 72) hx hb dX4_weigh_25 (by decide) (fun c_25_73 => absurd c_25_73 (by decide +kernel)) (fun _ => ?_)
  refine lv_aload_n hx hb dX4_weigh_28 rfl (lv_at hl 2 rfl) ?_
  refine va_get (D := D) (ci := 7) (v := .ref p5) (C := RX4) (T := TX4) (N := 14) hx hb hts iRX4 hown hK hP 22 rfl rfl 5 (by decide) (hts _ q43) (fun _ h9 => h9) rfl dX4_weigh_29 ?_
  refine lv_iload_n hx hb dX4_weigh_32 rfl (lv_at hl 1 rfl) ?_
  refine va_aldA hx hb hK hP 0 3 rfl rfl (z_in 6 (by decide) (by decide)) dX4_weigh_33 ?_
  rw [show va_rf ((fun k9 => if k9 < 9 then some (rt k9) else none) (6 : Int32).toNatClampNeg) = .ref (rt 6) from rfl]
  refine lv_iload_n hx hb dX4_weigh_34 rfl (lv_at hl 0 rfl) ?_
  refine lv_aload_n hx hb dX4_weigh_35 rfl (lv_at hl 2 rfl) ?_
  refine va_get (D := D) (ci := 7) (v := .ref p3) (C := RX4) (T := TX4) (N := 14) hx hb hts iRX4 hown hK hP 22 rfl rfl 3 (by decide) (hts _ q39) (fun _ h9 => h9) rfl dX4_weigh_36 ?_
  refine lv_iload_n hx hb dX4_weigh_39 rfl (lv_at hl 1 rfl) ?_
  refine va_iald hx hb hK hP 11 0 rfl rfl (z_in 6 (by decide) (by decide)) dX4_weigh_40 ?_
  refine lv_topi (fun y75 ey75 => ?_)
  obtain rfl : y75 = (-1) := ey75.trans rfl
  refine lv_iconst (v := (-1)) hx hb dX4_weigh_41 (by decide) ?_
  refine lv_icmp_ne (tgt := 49) hx hb dX4_weigh_42 (by decide) (fun c_42_75 => absurd (by decide +kernel) c_42_75) (fun _ => ?_)
  refine lv_lconst (v := 0) hx hb dX4_weigh_45 rfl ?_
  refine lv_goto (tgt := 65) hx hb dX4_weigh_46 (by decide) ?_
  refine va_last hx hb hK hP hD hS 7 1 rfl rfl (z_in 0 (by decide) (by decide)) dX4_weigh_65 (fun H locs hP hD hS => ?_)
  have hP : va_P D vwCl [(p5, .inl (cy 3, 9, .inr (.inr (.inr (.inr (fun k9 => if k9 < 9 then some (rt k9) else none)))))), ((rt 0), .inl (cy 1, 3, .inr (.inl (fun _ => 0)))), ((rt 1), .inl (cy 1, 3, .inr (.inl (fun _ => 0)))), ((rt 2), .inl (cy 1, 3, .inr (.inl (fun _ => 0)))), ((rt 3), .inl (cy 1, 3, .inr (.inl (fun _ => 0)))), ((rt 4), .inl (cy 1, 3, .inr (.inl (fun _ => 0)))), ((rt 5), .inl (cy 1, 3, .inr (.inl (fun _ => 0)))), ((rt 6), .inl (cy 1, 3, .inr (.inl (vp_updL (fun _ => 0) (0 : Int32).toNatClampNeg 0)))), ((rt 7), .inl (cy 1, 3, .inr (.inl (fun _ => 0)))), ((rt 8), .inl (cy 1, 3, .inr (.inl (fun _ => 0)))), (p2, .inl (cy 2, 9, .inl (fun _ => 0))), (p3, .inl (cy 0, 9, .inl (fun _ => (-1)))), (vC, .inr (3, [.ref sS, .ref sJ, .int 0, .int 0])), (p4, .inl (cy 3, 8, .inr (.inr (.inr (.inr (fun k9 => if k9 < 8 then some (rn k9) else none)))))), ((rn 0), .inl (cy 1, 11, .inr (.inl (fun _ => 0)))), ((rn 1), .inl (cy 1, 11, .inr (.inl (fun _ => 0)))), ((rn 2), .inl (cy 1, 11, .inr (.inl (fun _ => 0)))), ((rn 3), .inl (cy 1, 11, .inr (.inl (fun _ => 0)))), ((rn 4), .inl (cy 1, 11, .inr (.inl (fun _ => 0)))), ((rn 5), .inl (cy 1, 11, .inr (.inl (fun _ => 0)))), ((rn 6), .inl (cy 1, 11, .inr (.inl (fun _ => 0)))), ((rn 7), .inl (cy 1, 11, .inr (.inl (fun _ => 0)))), (h0, .inr (7, [.ref vC, .ref p1, .ref p2, .ref p3, .ref p4, .ref p5, .ref p6, .ref p7, .int e1, .long e2, .ref p8, .int 0, .int x2, .long 1]))] H := hP
  have hD : va_D A [(p5, .inl (cy 3, 9, .inr (.inr (.inr (.inr (fun k9 => if k9 < 9 then some (rt k9) else none)))))), ((rt 0), .inl (cy 1, 3, .inr (.inl (fun _ => 0)))), ((rt 1), .inl (cy 1, 3, .inr (.inl (fun _ => 0)))), ((rt 2), .inl (cy 1, 3, .inr (.inl (fun _ => 0)))), ((rt 3), .inl (cy 1, 3, .inr (.inl (fun _ => 0)))), ((rt 4), .inl (cy 1, 3, .inr (.inl (fun _ => 0)))), ((rt 5), .inl (cy 1, 3, .inr (.inl (fun _ => 0)))), ((rt 6), .inl (cy 1, 3, .inr (.inl (vp_updL (fun _ => 0) (0 : Int32).toNatClampNeg 0)))), ((rt 7), .inl (cy 1, 3, .inr (.inl (fun _ => 0)))), ((rt 8), .inl (cy 1, 3, .inr (.inl (fun _ => 0)))), (p2, .inl (cy 2, 9, .inl (fun _ => 0))), (p3, .inl (cy 0, 9, .inl (fun _ => (-1)))), (vC, .inr (3, [.ref sS, .ref sJ, .int 0, .int 0])), (p4, .inl (cy 3, 8, .inr (.inr (.inr (.inr (fun k9 => if k9 < 8 then some (rn k9) else none)))))), ((rn 0), .inl (cy 1, 11, .inr (.inl (fun _ => 0)))), ((rn 1), .inl (cy 1, 11, .inr (.inl (fun _ => 0)))), ((rn 2), .inl (cy 1, 11, .inr (.inl (fun _ => 0)))), ((rn 3), .inl (cy 1, 11, .inr (.inl (fun _ => 0)))), ((rn 4), .inl (cy 1, 11, .inr (.inl (fun _ => 0)))), ((rn 5), .inl (cy 1, 11, .inr (.inl (fun _ => 0)))), ((rn 6), .inl (cy 1, 11, .inr (.inl (fun _ => 0)))), ((rn 7), .inl (cy 1, 11, .inr (.inl (fun _ => 0)))), (h0, .inr (7, [.ref vC, .ref p1, .ref p2, .ref p3, .ref p4, .ref p5, .ref p6, .ref p7, .int e1, .long e2, .ref p8, .int 0, .int x2, .long 1]))] := hD
  refine lv_iinc (v := 1) (lv' := [(3, .int 1), (2, .int 6), (0, .ref h0), (1, .int 0)]) hx hb dX4_weigh_66 hl (k := 0) rfl (by decide) (by decide) rfl (fun ls hl => ?_)
  refine lv_goto (tgt := 23) hx hb dX4_weigh_69 (by decide) ?_
  refine lv_iload_n hx hb dX4_weigh_23 rfl (lv_at hl 0 rfl) ?_
  refine lv_iconst (v := 3) hx hb dX4_weigh_24 (by decide) ?_
  refine lv_icmp_ge (tgt := 72) hx hb dX4_weigh_25 (by decide) (fun c_25_76 => absurd c_25_76 (by decide +kernel)) (fun _ => ?_)
  refine lv_aload_n hx hb dX4_weigh_28 rfl (lv_at hl 2 rfl) ?_
  refine va_get (D := D) (ci := 7) (v := .ref p5) (C := RX4) (T := TX4) (N := 14) hx hb hts iRX4 hown hK hP 22 rfl rfl 5 (by decide) (hts _ q43) (fun _ h9 => h9) rfl dX4_weigh_29 ?_
  refine lv_iload_n hx hb dX4_weigh_32 rfl (lv_at hl 1 rfl) ?_
  refine va_aldA hx hb hK hP 0 3 rfl rfl (z_in 6 (by decide) (by decide)) dX4_weigh_33 ?_
  rw [show va_rf ((fun k9 => if k9 < 9 then some (rt k9) else none) (6 : Int32).toNatClampNeg) = .ref (rt 6) from rfl]
  refine lv_iload_n hx hb dX4_weigh_34 rfl (lv_at hl 0 rfl) ?_
  refine lv_aload_n hx hb dX4_weigh_35 rfl (lv_at hl 2 rfl) ?_
  refine va_get (D := D) (ci := 7) (v := .ref p3) (C := RX4) (T := TX4) (N := 14) hx hb hts iRX4 hown hK hP 22 rfl rfl 3 (by decide) (hts _ q39) (fun _ h9 => h9) rfl dX4_weigh_36 ?_
  refine lv_iload_n hx hb dX4_weigh_39 rfl (lv_at hl 1 rfl) ?_
  refine va_iald hx hb hK hP 11 0 rfl rfl (z_in 6 (by decide) (by decide)) dX4_weigh_40 ?_
  refine lv_topi (fun y78 ey78 => ?_)
  obtain rfl : y78 = (-1) := ey78.trans rfl
  refine lv_iconst (v := (-1)) hx hb dX4_weigh_41 (by decide) ?_
  refine lv_icmp_ne (tgt := 49) hx hb dX4_weigh_42 (by decide) (fun c_42_78 => absurd (by decide +kernel) c_42_78) (fun _ => ?_)
  refine lv_lconst (v := 0) hx hb dX4_weigh_45 rfl ?_
  refine lv_goto (tgt := 65) hx hb dX4_weigh_46 (by decide) ?_
  refine va_last hx hb hK hP hD hS 7 1 rfl rfl (z_in 1 (by decide) (by decide)) dX4_weigh_65 (fun H locs hP hD hS => ?_)
  have hP : va_P D vwCl [(p5, .inl (cy 3, 9, .inr (.inr (.inr (.inr (fun k9 => if k9 < 9 then some (rt k9) else none)))))), ((rt 0), .inl (cy 1, 3, .inr (.inl (fun _ => 0)))), ((rt 1), .inl (cy 1, 3, .inr (.inl (fun _ => 0)))), ((rt 2), .inl (cy 1, 3, .inr (.inl (fun _ => 0)))), ((rt 3), .inl (cy 1, 3, .inr (.inl (fun _ => 0)))), ((rt 4), .inl (cy 1, 3, .inr (.inl (fun _ => 0)))), ((rt 5), .inl (cy 1, 3, .inr (.inl (fun _ => 0)))), ((rt 6), .inl (cy 1, 3, .inr (.inl (vp_updL (vp_updL (fun _ => 0) (0 : Int32).toNatClampNeg 0) (1 : Int32).toNatClampNeg 0)))), ((rt 7), .inl (cy 1, 3, .inr (.inl (fun _ => 0)))), ((rt 8), .inl (cy 1, 3, .inr (.inl (fun _ => 0)))), (p2, .inl (cy 2, 9, .inl (fun _ => 0))), (p3, .inl (cy 0, 9, .inl (fun _ => (-1)))), (vC, .inr (3, [.ref sS, .ref sJ, .int 0, .int 0])), (p4, .inl (cy 3, 8, .inr (.inr (.inr (.inr (fun k9 => if k9 < 8 then some (rn k9) else none)))))), ((rn 0), .inl (cy 1, 11, .inr (.inl (fun _ => 0)))), ((rn 1), .inl (cy 1, 11, .inr (.inl (fun _ => 0)))), ((rn 2), .inl (cy 1, 11, .inr (.inl (fun _ => 0)))), ((rn 3), .inl (cy 1, 11, .inr (.inl (fun _ => 0)))), ((rn 4), .inl (cy 1, 11, .inr (.inl (fun _ => 0)))), ((rn 5), .inl (cy 1, 11, .inr (.inl (fun _ => 0)))), ((rn 6), .inl (cy 1, 11, .inr (.inl (fun _ => 0)))), ((rn 7), .inl (cy 1, 11, .inr (.inl (fun _ => 0)))), (h0, .inr (7, [.ref vC, .ref p1, .ref p2, .ref p3, .ref p4, .ref p5, .ref p6, .ref p7, .int e1, .long e2, .ref p8, .int 0, .int x2, .long 1]))] H := hP
  have hD : va_D A [(p5, .inl (cy 3, 9, .inr (.inr (.inr (.inr (fun k9 => if k9 < 9 then some (rt k9) else none)))))), ((rt 0), .inl (cy 1, 3, .inr (.inl (fun _ => 0)))), ((rt 1), .inl (cy 1, 3, .inr (.inl (fun _ => 0)))), ((rt 2), .inl (cy 1, 3, .inr (.inl (fun _ => 0)))), ((rt 3), .inl (cy 1, 3, .inr (.inl (fun _ => 0)))), ((rt 4), .inl (cy 1, 3, .inr (.inl (fun _ => 0)))), ((rt 5), .inl (cy 1, 3, .inr (.inl (fun _ => 0)))), ((rt 6), .inl (cy 1, 3, .inr (.inl (vp_updL (vp_updL (fun _ => 0) (0 : Int32).toNatClampNeg 0) (1 : Int32).toNatClampNeg 0)))), ((rt 7), .inl (cy 1, 3, .inr (.inl (fun _ => 0)))), ((rt 8), .inl (cy 1, 3, .inr (.inl (fun _ => 0)))), (p2, .inl (cy 2, 9, .inl (fun _ => 0))), (p3, .inl (cy 0, 9, .inl (fun _ => (-1)))), (vC, .inr (3, [.ref sS, .ref sJ, .int 0, .int 0])), (p4, .inl (cy 3, 8, .inr (.inr (.inr (.inr (fun k9 => if k9 < 8 then some (rn k9) else none)))))), ((rn 0), .inl (cy 1, 11, .inr (.inl (fun _ => 0)))), ((rn 1), .inl (cy 1, 11, .inr (.inl (fun _ => 0)))), ((rn 2), .inl (cy 1, 11, .inr (.inl (fun _ => 0)))), ((rn 3), .inl (cy 1, 11, .inr (.inl (fun _ => 0)))), ((rn 4), .inl (cy 1, 11, .inr (.inl (fun _ => 0)))), ((rn 5), .inl (cy 1, 11, .inr (.inl (fun _ => 0)))), ((rn 6), .inl (cy 1, 11, .inr (.inl (fun _ => 0)))), ((rn 7), .inl (cy 1, 11, .inr (.inl (fun _ => 0)))), (h0, .inr (7, [.ref vC, .ref p1, .ref p2, .ref p3, .ref p4, .ref p5, .ref p6, .ref p7, .int e1, .long e2, .ref p8, .int 0, .int x2, .long 1]))] := hD
  refine lv_iinc (v := 2) (lv' := [(3, .int 2), (2, .int 6), (0, .ref h0), (1, .int 0)]) hx hb dX4_weigh_66 hl (k := 0) rfl (by decide) (by decide) rfl (fun ls hl => ?_)
  refine lv_goto (tgt := 23) hx hb dX4_weigh_69 (by decide) ?_
  refine lv_iload_n hx hb dX4_weigh_23 rfl (lv_at hl 0 rfl) ?_
  refine lv_iconst (v := 3) hx hb dX4_weigh_24 (by decide) ?_
  refine lv_icmp_ge (tgt := 72) hx hb dX4_weigh_25 (by decide) (fun c_25_79 => absurd c_25_79 (by decide +kernel)) (fun _ => ?_)
  refine lv_aload_n hx hb dX4_weigh_28 rfl (lv_at hl 2 rfl) ?_
  refine va_get (D := D) (ci := 7) (v := .ref p5) (C := RX4) (T := TX4) (N := 14) hx hb hts iRX4 hown hK hP 22 rfl rfl 5 (by decide) (hts _ q43) (fun _ h9 => h9) rfl dX4_weigh_29 ?_
  refine lv_iload_n hx hb dX4_weigh_32 rfl (lv_at hl 1 rfl) ?_
  refine va_aldA hx hb hK hP 0 3 rfl rfl (z_in 6 (by decide) (by decide)) dX4_weigh_33 ?_
  rw [show va_rf ((fun k9 => if k9 < 9 then some (rt k9) else none) (6 : Int32).toNatClampNeg) = .ref (rt 6) from rfl]
  refine lv_iload_n hx hb dX4_weigh_34 rfl (lv_at hl 0 rfl) ?_
  refine lv_aload_n hx hb dX4_weigh_35 rfl (lv_at hl 2 rfl) ?_
  refine va_get (D := D) (ci := 7) (v := .ref p3) (C := RX4) (T := TX4) (N := 14) hx hb hts iRX4 hown hK hP 22 rfl rfl 3 (by decide) (hts _ q39) (fun _ h9 => h9) rfl dX4_weigh_36 ?_
  refine lv_iload_n hx hb dX4_weigh_39 rfl (lv_at hl 1 rfl) ?_
  refine va_iald hx hb hK hP 11 0 rfl rfl (z_in 6 (by decide) (by decide)) dX4_weigh_40 ?_
  refine lv_topi (fun y81 ey81 => ?_)
  obtain rfl : y81 = (-1) := ey81.trans rfl
  refine lv_iconst (v := (-1)) hx hb dX4_weigh_41 (by decide) ?_
  refine lv_icmp_ne (tgt := 49) hx hb dX4_weigh_42 (by decide) (fun c_42_81 => absurd (by decide +kernel) c_42_81) (fun _ => ?_)
  refine lv_lconst (v := 0) hx hb dX4_weigh_45 rfl ?_
  refine lv_goto (tgt := 65) hx hb dX4_weigh_46 (by decide) ?_
  refine va_last hx hb hK hP hD hS 7 1 rfl rfl (z_in 2 (by decide) (by decide)) dX4_weigh_65 (fun H locs hP hD hS => ?_)
  have hP : va_P D vwCl [(p5, .inl (cy 3, 9, .inr (.inr (.inr (.inr (fun k9 => if k9 < 9 then some (rt k9) else none)))))), ((rt 0), .inl (cy 1, 3, .inr (.inl (fun _ => 0)))), ((rt 1), .inl (cy 1, 3, .inr (.inl (fun _ => 0)))), ((rt 2), .inl (cy 1, 3, .inr (.inl (fun _ => 0)))), ((rt 3), .inl (cy 1, 3, .inr (.inl (fun _ => 0)))), ((rt 4), .inl (cy 1, 3, .inr (.inl (fun _ => 0)))), ((rt 5), .inl (cy 1, 3, .inr (.inl (fun _ => 0)))), ((rt 6), .inl (cy 1, 3, .inr (.inl (vp_updL (vp_updL (vp_updL (fun _ => 0) (0 : Int32).toNatClampNeg 0) (1 : Int32).toNatClampNeg 0) (2 : Int32).toNatClampNeg 0)))), ((rt 7), .inl (cy 1, 3, .inr (.inl (fun _ => 0)))), ((rt 8), .inl (cy 1, 3, .inr (.inl (fun _ => 0)))), (p2, .inl (cy 2, 9, .inl (fun _ => 0))), (p3, .inl (cy 0, 9, .inl (fun _ => (-1)))), (vC, .inr (3, [.ref sS, .ref sJ, .int 0, .int 0])), (p4, .inl (cy 3, 8, .inr (.inr (.inr (.inr (fun k9 => if k9 < 8 then some (rn k9) else none)))))), ((rn 0), .inl (cy 1, 11, .inr (.inl (fun _ => 0)))), ((rn 1), .inl (cy 1, 11, .inr (.inl (fun _ => 0)))), ((rn 2), .inl (cy 1, 11, .inr (.inl (fun _ => 0)))), ((rn 3), .inl (cy 1, 11, .inr (.inl (fun _ => 0)))), ((rn 4), .inl (cy 1, 11, .inr (.inl (fun _ => 0)))), ((rn 5), .inl (cy 1, 11, .inr (.inl (fun _ => 0)))), ((rn 6), .inl (cy 1, 11, .inr (.inl (fun _ => 0)))), ((rn 7), .inl (cy 1, 11, .inr (.inl (fun _ => 0)))), (h0, .inr (7, [.ref vC, .ref p1, .ref p2, .ref p3, .ref p4, .ref p5, .ref p6, .ref p7, .int e1, .long e2, .ref p8, .int 0, .int x2, .long 1]))] H := hP
  have hD : va_D A [(p5, .inl (cy 3, 9, .inr (.inr (.inr (.inr (fun k9 => if k9 < 9 then some (rt k9) else none)))))), ((rt 0), .inl (cy 1, 3, .inr (.inl (fun _ => 0)))), ((rt 1), .inl (cy 1, 3, .inr (.inl (fun _ => 0)))), ((rt 2), .inl (cy 1, 3, .inr (.inl (fun _ => 0)))), ((rt 3), .inl (cy 1, 3, .inr (.inl (fun _ => 0)))), ((rt 4), .inl (cy 1, 3, .inr (.inl (fun _ => 0)))), ((rt 5), .inl (cy 1, 3, .inr (.inl (fun _ => 0)))), ((rt 6), .inl (cy 1, 3, .inr (.inl (vp_updL (vp_updL (vp_updL (fun _ => 0) (0 : Int32).toNatClampNeg 0) (1 : Int32).toNatClampNeg 0) (2 : Int32).toNatClampNeg 0)))), ((rt 7), .inl (cy 1, 3, .inr (.inl (fun _ => 0)))), ((rt 8), .inl (cy 1, 3, .inr (.inl (fun _ => 0)))), (p2, .inl (cy 2, 9, .inl (fun _ => 0))), (p3, .inl (cy 0, 9, .inl (fun _ => (-1)))), (vC, .inr (3, [.ref sS, .ref sJ, .int 0, .int 0])), (p4, .inl (cy 3, 8, .inr (.inr (.inr (.inr (fun k9 => if k9 < 8 then some (rn k9) else none)))))), ((rn 0), .inl (cy 1, 11, .inr (.inl (fun _ => 0)))), ((rn 1), .inl (cy 1, 11, .inr (.inl (fun _ => 0)))), ((rn 2), .inl (cy 1, 11, .inr (.inl (fun _ => 0)))), ((rn 3), .inl (cy 1, 11, .inr (.inl (fun _ => 0)))), ((rn 4), .inl (cy 1, 11, .inr (.inl (fun _ => 0)))), ((rn 5), .inl (cy 1, 11, .inr (.inl (fun _ => 0)))), ((rn 6), .inl (cy 1, 11, .inr (.inl (fun _ => 0)))), ((rn 7), .inl (cy 1, 11, .inr (.inl (fun _ => 0)))), (h0, .inr (7, [.ref vC, .ref p1, .ref p2, .ref p3, .ref p4, .ref p5, .ref p6, .ref p7, .int e1, .long e2, .ref p8, .int 0, .int x2, .long 1]))] := hD
  refine lv_iinc (v := 3) (lv' := [(3, .int 3), (2, .int 6), (0, .ref h0), (1, .int 0)]) hx hb dX4_weigh_66 hl (k := 0) rfl (by decide) (by decide) rfl (fun ls hl => ?_)
  refine lv_goto (tgt := 23) hx hb dX4_weigh_69 (by decide) ?_
  refine lv_iload_n hx hb dX4_weigh_23 rfl (lv_at hl 0 rfl) ?_
  refine lv_iconst (v := 3) hx hb dX4_weigh_24 (by decide) ?_
  refine lv_icmp_ge (tgt := 72) hx hb dX4_weigh_25 (by decide) (fun _ => ?_) (fun c_25_82 => absurd (by decide +kernel) c_25_82)
  obtain ⟨hP, hD⟩ := zP_l (fun _ => 0) hP hD (q := 7) rfl (fun j hj => by rcases (show j = 0 ∨ j = 1 ∨ j = 2 by omega) with rfl | rfl | rfl <;> rfl)
  have hP : va_P D vwCl [(p5, .inl (cy 3, 9, .inr (.inr (.inr (.inr (fun k9 => if k9 < 9 then some (rt k9) else none)))))), ((rt 0), .inl (cy 1, 3, .inr (.inl (fun _ => 0)))), ((rt 1), .inl (cy 1, 3, .inr (.inl (fun _ => 0)))), ((rt 2), .inl (cy 1, 3, .inr (.inl (fun _ => 0)))), ((rt 3), .inl (cy 1, 3, .inr (.inl (fun _ => 0)))), ((rt 4), .inl (cy 1, 3, .inr (.inl (fun _ => 0)))), ((rt 5), .inl (cy 1, 3, .inr (.inl (fun _ => 0)))), ((rt 6), .inl (cy 1, 3, .inr (.inl (fun _ => 0)))), ((rt 7), .inl (cy 1, 3, .inr (.inl (fun _ => 0)))), ((rt 8), .inl (cy 1, 3, .inr (.inl (fun _ => 0)))), (p2, .inl (cy 2, 9, .inl (fun _ => 0))), (p3, .inl (cy 0, 9, .inl (fun _ => (-1)))), (vC, .inr (3, [.ref sS, .ref sJ, .int 0, .int 0])), (p4, .inl (cy 3, 8, .inr (.inr (.inr (.inr (fun k9 => if k9 < 8 then some (rn k9) else none)))))), ((rn 0), .inl (cy 1, 11, .inr (.inl (fun _ => 0)))), ((rn 1), .inl (cy 1, 11, .inr (.inl (fun _ => 0)))), ((rn 2), .inl (cy 1, 11, .inr (.inl (fun _ => 0)))), ((rn 3), .inl (cy 1, 11, .inr (.inl (fun _ => 0)))), ((rn 4), .inl (cy 1, 11, .inr (.inl (fun _ => 0)))), ((rn 5), .inl (cy 1, 11, .inr (.inl (fun _ => 0)))), ((rn 6), .inl (cy 1, 11, .inr (.inl (fun _ => 0)))), ((rn 7), .inl (cy 1, 11, .inr (.inl (fun _ => 0)))), (h0, .inr (7, [.ref vC, .ref p1, .ref p2, .ref p3, .ref p4, .ref p5, .ref p6, .ref p7, .int e1, .long e2, .ref p8, .int 0, .int x2, .long 1]))] H := hP
  have hD : va_D A [(p5, .inl (cy 3, 9, .inr (.inr (.inr (.inr (fun k9 => if k9 < 9 then some (rt k9) else none)))))), ((rt 0), .inl (cy 1, 3, .inr (.inl (fun _ => 0)))), ((rt 1), .inl (cy 1, 3, .inr (.inl (fun _ => 0)))), ((rt 2), .inl (cy 1, 3, .inr (.inl (fun _ => 0)))), ((rt 3), .inl (cy 1, 3, .inr (.inl (fun _ => 0)))), ((rt 4), .inl (cy 1, 3, .inr (.inl (fun _ => 0)))), ((rt 5), .inl (cy 1, 3, .inr (.inl (fun _ => 0)))), ((rt 6), .inl (cy 1, 3, .inr (.inl (fun _ => 0)))), ((rt 7), .inl (cy 1, 3, .inr (.inl (fun _ => 0)))), ((rt 8), .inl (cy 1, 3, .inr (.inl (fun _ => 0)))), (p2, .inl (cy 2, 9, .inl (fun _ => 0))), (p3, .inl (cy 0, 9, .inl (fun _ => (-1)))), (vC, .inr (3, [.ref sS, .ref sJ, .int 0, .int 0])), (p4, .inl (cy 3, 8, .inr (.inr (.inr (.inr (fun k9 => if k9 < 8 then some (rn k9) else none)))))), ((rn 0), .inl (cy 1, 11, .inr (.inl (fun _ => 0)))), ((rn 1), .inl (cy 1, 11, .inr (.inl (fun _ => 0)))), ((rn 2), .inl (cy 1, 11, .inr (.inl (fun _ => 0)))), ((rn 3), .inl (cy 1, 11, .inr (.inl (fun _ => 0)))), ((rn 4), .inl (cy 1, 11, .inr (.inl (fun _ => 0)))), ((rn 5), .inl (cy 1, 11, .inr (.inl (fun _ => 0)))), ((rn 6), .inl (cy 1, 11, .inr (.inl (fun _ => 0)))), ((rn 7), .inl (cy 1, 11, .inr (.inl (fun _ => 0)))), (h0, .inr (7, [.ref vC, .ref p1, .ref p2, .ref p3, .ref p4, .ref p5, .ref p6, .ref p7, .int e1, .long e2, .ref p8, .int 0, .int x2, .long 1]))] := hD
  refine lv_iinc (v := 7) (lv' := [(2, .int 7), (3, .int 3), (0, .ref h0), (1, .int 0)]) hx hb dX4_weigh_72 hl (k := 1) rfl (by decide) (by decide) rfl (fun ls hl => ?_)
  refine lv_goto (tgt := 15) hx hb dX4_weigh_75 (by decide) ?_
  refine lv_iload_n hx hb dX4_weigh_15 rfl (lv_at hl 0 rfl) ?_
  refine lv_bipush (v := 9) hx hb dX4_weigh_16 (by decide) ?_
  refine lv_icmp_ge (tgt := 78) hx hb dX4_weigh_18 (by decide) (fun c_18_83 => absurd c_18_83 (by decide +kernel)) (fun _ => ?_)
  refine lv_iconst (v := 0) hx hb dX4_weigh_21 (by decide) ?_
  refine lv_istore_n (lv' := [(3, .int 0), (2, .int 7), (0, .ref h0), (1, .int 0)]) hx hb dX4_weigh_22 rfl hl (by decide) rfl (fun ls hl => ?_)
  refine lv_iload_n hx hb dX4_weigh_23 rfl (lv_at hl 0 rfl) ?_
  refine lv_iconst (v := 3) hx hb dX4_weigh_24 (by decide) ?_
  refine lv_icmp_ge (tgt := 72) hx hb dX4_weigh_25 (by decide) (fun c_25_84 => absurd c_25_84 (by decide +kernel)) (fun _ => ?_)
  refine lv_aload_n hx hb dX4_weigh_28 rfl (lv_at hl 2 rfl) ?_
  refine va_get (D := D) (ci := 7) (v := .ref p5) (C := RX4) (T := TX4) (N := 14) hx hb hts iRX4 hown hK hP 22 rfl rfl 5 (by decide) (hts _ q43) (fun _ h9 => h9) rfl dX4_weigh_29 ?_
  refine lv_iload_n hx hb dX4_weigh_32 rfl (lv_at hl 1 rfl) ?_
  refine va_aldA hx hb hK hP 0 3 rfl rfl (z_in 7 (by decide) (by decide)) dX4_weigh_33 ?_
  rw [show va_rf ((fun k9 => if k9 < 9 then some (rt k9) else none) (7 : Int32).toNatClampNeg) = .ref (rt 7) from rfl]
  refine lv_iload_n hx hb dX4_weigh_34 rfl (lv_at hl 0 rfl) ?_
  refine lv_aload_n hx hb dX4_weigh_35 rfl (lv_at hl 2 rfl) ?_
  refine va_get (D := D) (ci := 7) (v := .ref p3) (C := RX4) (T := TX4) (N := 14) hx hb hts iRX4 hown hK hP 22 rfl rfl 3 (by decide) (hts _ q39) (fun _ h9 => h9) rfl dX4_weigh_36 ?_
  refine lv_iload_n hx hb dX4_weigh_39 rfl (lv_at hl 1 rfl) ?_
  refine va_iald hx hb hK hP 11 0 rfl rfl (z_in 7 (by decide) (by decide)) dX4_weigh_40 ?_
  refine lv_topi (fun y86 ey86 => ?_)
  obtain rfl : y86 = (-1) := ey86.trans rfl
  refine lv_iconst (v := (-1)) hx hb dX4_weigh_41 (by decide) ?_
  refine lv_icmp_ne (tgt := 49) hx hb dX4_weigh_42 (by decide) (fun c_42_86 => absurd (by decide +kernel) c_42_86) (fun _ => ?_)
  refine lv_lconst (v := 0) hx hb dX4_weigh_45 rfl ?_
  refine lv_goto (tgt := 65) hx hb dX4_weigh_46 (by decide) ?_
  refine va_last hx hb hK hP hD hS 8 1 rfl rfl (z_in 0 (by decide) (by decide)) dX4_weigh_65 (fun H locs hP hD hS => ?_)
  have hP : va_P D vwCl [(p5, .inl (cy 3, 9, .inr (.inr (.inr (.inr (fun k9 => if k9 < 9 then some (rt k9) else none)))))), ((rt 0), .inl (cy 1, 3, .inr (.inl (fun _ => 0)))), ((rt 1), .inl (cy 1, 3, .inr (.inl (fun _ => 0)))), ((rt 2), .inl (cy 1, 3, .inr (.inl (fun _ => 0)))), ((rt 3), .inl (cy 1, 3, .inr (.inl (fun _ => 0)))), ((rt 4), .inl (cy 1, 3, .inr (.inl (fun _ => 0)))), ((rt 5), .inl (cy 1, 3, .inr (.inl (fun _ => 0)))), ((rt 6), .inl (cy 1, 3, .inr (.inl (fun _ => 0)))), ((rt 7), .inl (cy 1, 3, .inr (.inl (vp_updL (fun _ => 0) (0 : Int32).toNatClampNeg 0)))), ((rt 8), .inl (cy 1, 3, .inr (.inl (fun _ => 0)))), (p2, .inl (cy 2, 9, .inl (fun _ => 0))), (p3, .inl (cy 0, 9, .inl (fun _ => (-1)))), (vC, .inr (3, [.ref sS, .ref sJ, .int 0, .int 0])), (p4, .inl (cy 3, 8, .inr (.inr (.inr (.inr (fun k9 => if k9 < 8 then some (rn k9) else none)))))), ((rn 0), .inl (cy 1, 11, .inr (.inl (fun _ => 0)))), ((rn 1), .inl (cy 1, 11, .inr (.inl (fun _ => 0)))), ((rn 2), .inl (cy 1, 11, .inr (.inl (fun _ => 0)))), ((rn 3), .inl (cy 1, 11, .inr (.inl (fun _ => 0)))), ((rn 4), .inl (cy 1, 11, .inr (.inl (fun _ => 0)))), ((rn 5), .inl (cy 1, 11, .inr (.inl (fun _ => 0)))), ((rn 6), .inl (cy 1, 11, .inr (.inl (fun _ => 0)))), ((rn 7), .inl (cy 1, 11, .inr (.inl (fun _ => 0)))), (h0, .inr (7, [.ref vC, .ref p1, .ref p2, .ref p3, .ref p4, .ref p5, .ref p6, .ref p7, .int e1, .long e2, .ref p8, .int 0, .int x2, .long 1]))] H := hP
  have hD : va_D A [(p5, .inl (cy 3, 9, .inr (.inr (.inr (.inr (fun k9 => if k9 < 9 then some (rt k9) else none)))))), ((rt 0), .inl (cy 1, 3, .inr (.inl (fun _ => 0)))), ((rt 1), .inl (cy 1, 3, .inr (.inl (fun _ => 0)))), ((rt 2), .inl (cy 1, 3, .inr (.inl (fun _ => 0)))), ((rt 3), .inl (cy 1, 3, .inr (.inl (fun _ => 0)))), ((rt 4), .inl (cy 1, 3, .inr (.inl (fun _ => 0)))), ((rt 5), .inl (cy 1, 3, .inr (.inl (fun _ => 0)))), ((rt 6), .inl (cy 1, 3, .inr (.inl (fun _ => 0)))), ((rt 7), .inl (cy 1, 3, .inr (.inl (vp_updL (fun _ => 0) (0 : Int32).toNatClampNeg 0)))), ((rt 8), .inl (cy 1, 3, .inr (.inl (fun _ => 0)))), (p2, .inl (cy 2, 9, .inl (fun _ => 0))), (p3, .inl (cy 0, 9, .inl (fun _ => (-1)))), (vC, .inr (3, [.ref sS, .ref sJ, .int 0, .int 0])), (p4, .inl (cy 3, 8, .inr (.inr (.inr (.inr (fun k9 => if k9 < 8 then some (rn k9) else none)))))), ((rn 0), .inl (cy 1, 11, .inr (.inl (fun _ => 0)))), ((rn 1), .inl (cy 1, 11, .inr (.inl (fun _ => 0)))), ((rn 2), .inl (cy 1, 11, .inr (.inl (fun _ => 0)))), ((rn 3), .inl (cy 1, 11, .inr (.inl (fun _ => 0)))), ((rn 4), .inl (cy 1, 11, .inr (.inl (fun _ => 0)))), ((rn 5), .inl (cy 1, 11, .inr (.inl (fun _ => 0)))), ((rn 6), .inl (cy 1, 11, .inr (.inl (fun _ => 0)))), ((rn 7), .inl (cy 1, 11, .inr (.inl (fun _ => 0)))), (h0, .inr (7, [.ref vC, .ref p1, .ref p2, .ref p3, .ref p4, .ref p5, .ref p6, .ref p7, .int e1, .long e2, .ref p8, .int 0, .int x2, .long 1]))] := hD
  refine lv_iinc (v := 1) (lv' := [(3, .int 1), (2, .int 7), (0, .ref h0), (1, .int 0)]) hx hb dX4_weigh_66 hl (k := 0) rfl (by decide) (by decide) rfl (fun ls hl => ?_)
  refine lv_goto (tgt := 23) hx hb dX4_weigh_69 (by decide) ?_
  refine lv_iload_n hx hb dX4_weigh_23 rfl (lv_at hl 0 rfl) ?_
  refine lv_iconst (v := 3) hx hb dX4_weigh_24 (by decide) ?_
  refine lv_icmp_ge (tgt := 72) hx hb dX4_weigh_25 (by decide) (fun c_25_87 => absurd c_25_87 (by decide +kernel)) (fun _ => ?_)
  refine lv_aload_n hx hb dX4_weigh_28 rfl (lv_at hl 2 rfl) ?_
  refine va_get (D := D) (ci := 7) (v := .ref p5) (C := RX4) (T := TX4) (N := 14) hx hb hts iRX4 hown hK hP 22 rfl rfl 5 (by decide) (hts _ q43) (fun _ h9 => h9) rfl dX4_weigh_29 ?_
  refine lv_iload_n hx hb dX4_weigh_32 rfl (lv_at hl 1 rfl) ?_
  refine va_aldA hx hb hK hP 0 3 rfl rfl (z_in 7 (by decide) (by decide)) dX4_weigh_33 ?_
  rw [show va_rf ((fun k9 => if k9 < 9 then some (rt k9) else none) (7 : Int32).toNatClampNeg) = .ref (rt 7) from rfl]
  refine lv_iload_n hx hb dX4_weigh_34 rfl (lv_at hl 0 rfl) ?_
  refine lv_aload_n hx hb dX4_weigh_35 rfl (lv_at hl 2 rfl) ?_
  refine va_get (D := D) (ci := 7) (v := .ref p3) (C := RX4) (T := TX4) (N := 14) hx hb hts iRX4 hown hK hP 22 rfl rfl 3 (by decide) (hts _ q39) (fun _ h9 => h9) rfl dX4_weigh_36 ?_
  refine lv_iload_n hx hb dX4_weigh_39 rfl (lv_at hl 1 rfl) ?_
  refine va_iald hx hb hK hP 11 0 rfl rfl (z_in 7 (by decide) (by decide)) dX4_weigh_40 ?_
  refine lv_topi (fun y89 ey89 => ?_)
  obtain rfl : y89 = (-1) := ey89.trans rfl
  refine lv_iconst (v := (-1)) hx hb dX4_weigh_41 (by decide) ?_
  refine lv_icmp_ne (tgt := 49) hx hb dX4_weigh_42 (by decide) (fun c_42_89 => absurd (by decide +kernel) c_42_89) (fun _ => ?_)
  refine lv_lconst (v := 0) hx hb dX4_weigh_45 rfl ?_
  refine lv_goto (tgt := 65) hx hb dX4_weigh_46 (by decide) ?_
  refine va_last hx hb hK hP hD hS 8 1 rfl rfl (z_in 1 (by decide) (by decide)) dX4_weigh_65 (fun H locs hP hD hS => ?_)
  have hP : va_P D vwCl [(p5, .inl (cy 3, 9, .inr (.inr (.inr (.inr (fun k9 => if k9 < 9 then some (rt k9) else none)))))), ((rt 0), .inl (cy 1, 3, .inr (.inl (fun _ => 0)))), ((rt 1), .inl (cy 1, 3, .inr (.inl (fun _ => 0)))), ((rt 2), .inl (cy 1, 3, .inr (.inl (fun _ => 0)))), ((rt 3), .inl (cy 1, 3, .inr (.inl (fun _ => 0)))), ((rt 4), .inl (cy 1, 3, .inr (.inl (fun _ => 0)))), ((rt 5), .inl (cy 1, 3, .inr (.inl (fun _ => 0)))), ((rt 6), .inl (cy 1, 3, .inr (.inl (fun _ => 0)))), ((rt 7), .inl (cy 1, 3, .inr (.inl (vp_updL (vp_updL (fun _ => 0) (0 : Int32).toNatClampNeg 0) (1 : Int32).toNatClampNeg 0)))), ((rt 8), .inl (cy 1, 3, .inr (.inl (fun _ => 0)))), (p2, .inl (cy 2, 9, .inl (fun _ => 0))), (p3, .inl (cy 0, 9, .inl (fun _ => (-1)))), (vC, .inr (3, [.ref sS, .ref sJ, .int 0, .int 0])), (p4, .inl (cy 3, 8, .inr (.inr (.inr (.inr (fun k9 => if k9 < 8 then some (rn k9) else none)))))), ((rn 0), .inl (cy 1, 11, .inr (.inl (fun _ => 0)))), ((rn 1), .inl (cy 1, 11, .inr (.inl (fun _ => 0)))), ((rn 2), .inl (cy 1, 11, .inr (.inl (fun _ => 0)))), ((rn 3), .inl (cy 1, 11, .inr (.inl (fun _ => 0)))), ((rn 4), .inl (cy 1, 11, .inr (.inl (fun _ => 0)))), ((rn 5), .inl (cy 1, 11, .inr (.inl (fun _ => 0)))), ((rn 6), .inl (cy 1, 11, .inr (.inl (fun _ => 0)))), ((rn 7), .inl (cy 1, 11, .inr (.inl (fun _ => 0)))), (h0, .inr (7, [.ref vC, .ref p1, .ref p2, .ref p3, .ref p4, .ref p5, .ref p6, .ref p7, .int e1, .long e2, .ref p8, .int 0, .int x2, .long 1]))] H := hP
  have hD : va_D A [(p5, .inl (cy 3, 9, .inr (.inr (.inr (.inr (fun k9 => if k9 < 9 then some (rt k9) else none)))))), ((rt 0), .inl (cy 1, 3, .inr (.inl (fun _ => 0)))), ((rt 1), .inl (cy 1, 3, .inr (.inl (fun _ => 0)))), ((rt 2), .inl (cy 1, 3, .inr (.inl (fun _ => 0)))), ((rt 3), .inl (cy 1, 3, .inr (.inl (fun _ => 0)))), ((rt 4), .inl (cy 1, 3, .inr (.inl (fun _ => 0)))), ((rt 5), .inl (cy 1, 3, .inr (.inl (fun _ => 0)))), ((rt 6), .inl (cy 1, 3, .inr (.inl (fun _ => 0)))), ((rt 7), .inl (cy 1, 3, .inr (.inl (vp_updL (vp_updL (fun _ => 0) (0 : Int32).toNatClampNeg 0) (1 : Int32).toNatClampNeg 0)))), ((rt 8), .inl (cy 1, 3, .inr (.inl (fun _ => 0)))), (p2, .inl (cy 2, 9, .inl (fun _ => 0))), (p3, .inl (cy 0, 9, .inl (fun _ => (-1)))), (vC, .inr (3, [.ref sS, .ref sJ, .int 0, .int 0])), (p4, .inl (cy 3, 8, .inr (.inr (.inr (.inr (fun k9 => if k9 < 8 then some (rn k9) else none)))))), ((rn 0), .inl (cy 1, 11, .inr (.inl (fun _ => 0)))), ((rn 1), .inl (cy 1, 11, .inr (.inl (fun _ => 0)))), ((rn 2), .inl (cy 1, 11, .inr (.inl (fun _ => 0)))), ((rn 3), .inl (cy 1, 11, .inr (.inl (fun _ => 0)))), ((rn 4), .inl (cy 1, 11, .inr (.inl (fun _ => 0)))), ((rn 5), .inl (cy 1, 11, .inr (.inl (fun _ => 0)))), ((rn 6), .inl (cy 1, 11, .inr (.inl (fun _ => 0)))), ((rn 7), .inl (cy 1, 11, .inr (.inl (fun _ => 0)))), (h0, .inr (7, [.ref vC, .ref p1, .ref p2, .ref p3, .ref p4, .ref p5, .ref p6, .ref p7, .int e1, .long e2, .ref p8, .int 0, .int x2, .long 1]))] := hD
  refine lv_iinc (v := 2) (lv' := [(3, .int 2), (2, .int 7), (0, .ref h0), (1, .int 0)]) hx hb dX4_weigh_66 hl (k := 0) rfl (by decide) (by decide) rfl (fun ls hl => ?_)
  refine lv_goto (tgt := 23) hx hb dX4_weigh_69 (by decide) ?_
  refine lv_iload_n hx hb dX4_weigh_23 rfl (lv_at hl 0 rfl) ?_
  refine lv_iconst (v := 3) hx hb dX4_weigh_24 (by decide) ?_
  refine lv_icmp_ge (tgt := 72) hx hb dX4_weigh_25 (by decide) (fun c_25_90 => absurd c_25_90 (by decide +kernel)) (fun _ => ?_)
  refine lv_aload_n hx hb dX4_weigh_28 rfl (lv_at hl 2 rfl) ?_
  refine va_get (D := D) (ci := 7) (v := .ref p5) (C := RX4) (T := TX4) (N := 14) hx hb hts iRX4 hown hK hP 22 rfl rfl 5 (by decide) (hts _ q43) (fun _ h9 => h9) rfl dX4_weigh_29 ?_
  refine lv_iload_n hx hb dX4_weigh_32 rfl (lv_at hl 1 rfl) ?_
  refine va_aldA hx hb hK hP 0 3 rfl rfl (z_in 7 (by decide) (by decide)) dX4_weigh_33 ?_
  rw [show va_rf ((fun k9 => if k9 < 9 then some (rt k9) else none) (7 : Int32).toNatClampNeg) = .ref (rt 7) from rfl]
  refine lv_iload_n hx hb dX4_weigh_34 rfl (lv_at hl 0 rfl) ?_
  refine lv_aload_n hx hb dX4_weigh_35 rfl (lv_at hl 2 rfl) ?_
  refine va_get (D := D) (ci := 7) (v := .ref p3) (C := RX4) (T := TX4) (N := 14) hx hb hts iRX4 hown hK hP 22 rfl rfl 3 (by decide) (hts _ q39) (fun _ h9 => h9) rfl dX4_weigh_36 ?_
  refine lv_iload_n hx hb dX4_weigh_39 rfl (lv_at hl 1 rfl) ?_
  refine va_iald hx hb hK hP 11 0 rfl rfl (z_in 7 (by decide) (by decide)) dX4_weigh_40 ?_
  refine lv_topi (fun y92 ey92 => ?_)
  obtain rfl : y92 = (-1) := ey92.trans rfl
  refine lv_iconst (v := (-1)) hx hb dX4_weigh_41 (by decide) ?_
  refine lv_icmp_ne (tgt := 49) hx hb dX4_weigh_42 (by decide) (fun c_42_92 => absurd (by decide +kernel) c_42_92) (fun _ => ?_)
  refine lv_lconst (v := 0) hx hb dX4_weigh_45 rfl ?_
  refine lv_goto (tgt := 65) hx hb dX4_weigh_46 (by decide) ?_
  refine va_last hx hb hK hP hD hS 8 1 rfl rfl (z_in 2 (by decide) (by decide)) dX4_weigh_65 (fun H locs hP hD hS => ?_)
  have hP : va_P D vwCl [(p5, .inl (cy 3, 9, .inr (.inr (.inr (.inr (fun k9 => if k9 < 9 then some (rt k9) else none)))))), ((rt 0), .inl (cy 1, 3, .inr (.inl (fun _ => 0)))), ((rt 1), .inl (cy 1, 3, .inr (.inl (fun _ => 0)))), ((rt 2), .inl (cy 1, 3, .inr (.inl (fun _ => 0)))), ((rt 3), .inl (cy 1, 3, .inr (.inl (fun _ => 0)))), ((rt 4), .inl (cy 1, 3, .inr (.inl (fun _ => 0)))), ((rt 5), .inl (cy 1, 3, .inr (.inl (fun _ => 0)))), ((rt 6), .inl (cy 1, 3, .inr (.inl (fun _ => 0)))), ((rt 7), .inl (cy 1, 3, .inr (.inl (vp_updL (vp_updL (vp_updL (fun _ => 0) (0 : Int32).toNatClampNeg 0) (1 : Int32).toNatClampNeg 0) (2 : Int32).toNatClampNeg 0)))), ((rt 8), .inl (cy 1, 3, .inr (.inl (fun _ => 0)))), (p2, .inl (cy 2, 9, .inl (fun _ => 0))), (p3, .inl (cy 0, 9, .inl (fun _ => (-1)))), (vC, .inr (3, [.ref sS, .ref sJ, .int 0, .int 0])), (p4, .inl (cy 3, 8, .inr (.inr (.inr (.inr (fun k9 => if k9 < 8 then some (rn k9) else none)))))), ((rn 0), .inl (cy 1, 11, .inr (.inl (fun _ => 0)))), ((rn 1), .inl (cy 1, 11, .inr (.inl (fun _ => 0)))), ((rn 2), .inl (cy 1, 11, .inr (.inl (fun _ => 0)))), ((rn 3), .inl (cy 1, 11, .inr (.inl (fun _ => 0)))), ((rn 4), .inl (cy 1, 11, .inr (.inl (fun _ => 0)))), ((rn 5), .inl (cy 1, 11, .inr (.inl (fun _ => 0)))), ((rn 6), .inl (cy 1, 11, .inr (.inl (fun _ => 0)))), ((rn 7), .inl (cy 1, 11, .inr (.inl (fun _ => 0)))), (h0, .inr (7, [.ref vC, .ref p1, .ref p2, .ref p3, .ref p4, .ref p5, .ref p6, .ref p7, .int e1, .long e2, .ref p8, .int 0, .int x2, .long 1]))] H := hP
  have hD : va_D A [(p5, .inl (cy 3, 9, .inr (.inr (.inr (.inr (fun k9 => if k9 < 9 then some (rt k9) else none)))))), ((rt 0), .inl (cy 1, 3, .inr (.inl (fun _ => 0)))), ((rt 1), .inl (cy 1, 3, .inr (.inl (fun _ => 0)))), ((rt 2), .inl (cy 1, 3, .inr (.inl (fun _ => 0)))), ((rt 3), .inl (cy 1, 3, .inr (.inl (fun _ => 0)))), ((rt 4), .inl (cy 1, 3, .inr (.inl (fun _ => 0)))), ((rt 5), .inl (cy 1, 3, .inr (.inl (fun _ => 0)))), ((rt 6), .inl (cy 1, 3, .inr (.inl (fun _ => 0)))), ((rt 7), .inl (cy 1, 3, .inr (.inl (vp_updL (vp_updL (vp_updL (fun _ => 0) (0 : Int32).toNatClampNeg 0) (1 : Int32).toNatClampNeg 0) (2 : Int32).toNatClampNeg 0)))), ((rt 8), .inl (cy 1, 3, .inr (.inl (fun _ => 0)))), (p2, .inl (cy 2, 9, .inl (fun _ => 0))), (p3, .inl (cy 0, 9, .inl (fun _ => (-1)))), (vC, .inr (3, [.ref sS, .ref sJ, .int 0, .int 0])), (p4, .inl (cy 3, 8, .inr (.inr (.inr (.inr (fun k9 => if k9 < 8 then some (rn k9) else none)))))), ((rn 0), .inl (cy 1, 11, .inr (.inl (fun _ => 0)))), ((rn 1), .inl (cy 1, 11, .inr (.inl (fun _ => 0)))), ((rn 2), .inl (cy 1, 11, .inr (.inl (fun _ => 0)))), ((rn 3), .inl (cy 1, 11, .inr (.inl (fun _ => 0)))), ((rn 4), .inl (cy 1, 11, .inr (.inl (fun _ => 0)))), ((rn 5), .inl (cy 1, 11, .inr (.inl (fun _ => 0)))), ((rn 6), .inl (cy 1, 11, .inr (.inl (fun _ => 0)))), ((rn 7), .inl (cy 1, 11, .inr (.inl (fun _ => 0)))), (h0, .inr (7, [.ref vC, .ref p1, .ref p2, .ref p3, .ref p4, .ref p5, .ref p6, .ref p7, .int e1, .long e2, .ref p8, .int 0, .int x2, .long 1]))] := hD
  refine lv_iinc (v := 3) (lv' := [(3, .int 3), (2, .int 7), (0, .ref h0), (1, .int 0)]) hx hb dX4_weigh_66 hl (k := 0) rfl (by decide) (by decide) rfl (fun ls hl => ?_)
  refine lv_goto (tgt := 23) hx hb dX4_weigh_69 (by decide) ?_
  refine lv_iload_n hx hb dX4_weigh_23 rfl (lv_at hl 0 rfl) ?_
  refine lv_iconst (v := 3) hx hb dX4_weigh_24 (by decide) ?_
  refine lv_icmp_ge (tgt := 72) hx hb dX4_weigh_25 (by decide) (fun _ => ?_) (fun c_25_93 => absurd (by decide +kernel) c_25_93)
  obtain ⟨hP, hD⟩ := zP_l (fun _ => 0) hP hD (q := 8) rfl (fun j hj => by rcases (show j = 0 ∨ j = 1 ∨ j = 2 by omega) with rfl | rfl | rfl <;> rfl)
  have hP : va_P D vwCl [(p5, .inl (cy 3, 9, .inr (.inr (.inr (.inr (fun k9 => if k9 < 9 then some (rt k9) else none)))))), ((rt 0), .inl (cy 1, 3, .inr (.inl (fun _ => 0)))), ((rt 1), .inl (cy 1, 3, .inr (.inl (fun _ => 0)))), ((rt 2), .inl (cy 1, 3, .inr (.inl (fun _ => 0)))), ((rt 3), .inl (cy 1, 3, .inr (.inl (fun _ => 0)))), ((rt 4), .inl (cy 1, 3, .inr (.inl (fun _ => 0)))), ((rt 5), .inl (cy 1, 3, .inr (.inl (fun _ => 0)))), ((rt 6), .inl (cy 1, 3, .inr (.inl (fun _ => 0)))), ((rt 7), .inl (cy 1, 3, .inr (.inl (fun _ => 0)))), ((rt 8), .inl (cy 1, 3, .inr (.inl (fun _ => 0)))), (p2, .inl (cy 2, 9, .inl (fun _ => 0))), (p3, .inl (cy 0, 9, .inl (fun _ => (-1)))), (vC, .inr (3, [.ref sS, .ref sJ, .int 0, .int 0])), (p4, .inl (cy 3, 8, .inr (.inr (.inr (.inr (fun k9 => if k9 < 8 then some (rn k9) else none)))))), ((rn 0), .inl (cy 1, 11, .inr (.inl (fun _ => 0)))), ((rn 1), .inl (cy 1, 11, .inr (.inl (fun _ => 0)))), ((rn 2), .inl (cy 1, 11, .inr (.inl (fun _ => 0)))), ((rn 3), .inl (cy 1, 11, .inr (.inl (fun _ => 0)))), ((rn 4), .inl (cy 1, 11, .inr (.inl (fun _ => 0)))), ((rn 5), .inl (cy 1, 11, .inr (.inl (fun _ => 0)))), ((rn 6), .inl (cy 1, 11, .inr (.inl (fun _ => 0)))), ((rn 7), .inl (cy 1, 11, .inr (.inl (fun _ => 0)))), (h0, .inr (7, [.ref vC, .ref p1, .ref p2, .ref p3, .ref p4, .ref p5, .ref p6, .ref p7, .int e1, .long e2, .ref p8, .int 0, .int x2, .long 1]))] H := hP
  have hD : va_D A [(p5, .inl (cy 3, 9, .inr (.inr (.inr (.inr (fun k9 => if k9 < 9 then some (rt k9) else none)))))), ((rt 0), .inl (cy 1, 3, .inr (.inl (fun _ => 0)))), ((rt 1), .inl (cy 1, 3, .inr (.inl (fun _ => 0)))), ((rt 2), .inl (cy 1, 3, .inr (.inl (fun _ => 0)))), ((rt 3), .inl (cy 1, 3, .inr (.inl (fun _ => 0)))), ((rt 4), .inl (cy 1, 3, .inr (.inl (fun _ => 0)))), ((rt 5), .inl (cy 1, 3, .inr (.inl (fun _ => 0)))), ((rt 6), .inl (cy 1, 3, .inr (.inl (fun _ => 0)))), ((rt 7), .inl (cy 1, 3, .inr (.inl (fun _ => 0)))), ((rt 8), .inl (cy 1, 3, .inr (.inl (fun _ => 0)))), (p2, .inl (cy 2, 9, .inl (fun _ => 0))), (p3, .inl (cy 0, 9, .inl (fun _ => (-1)))), (vC, .inr (3, [.ref sS, .ref sJ, .int 0, .int 0])), (p4, .inl (cy 3, 8, .inr (.inr (.inr (.inr (fun k9 => if k9 < 8 then some (rn k9) else none)))))), ((rn 0), .inl (cy 1, 11, .inr (.inl (fun _ => 0)))), ((rn 1), .inl (cy 1, 11, .inr (.inl (fun _ => 0)))), ((rn 2), .inl (cy 1, 11, .inr (.inl (fun _ => 0)))), ((rn 3), .inl (cy 1, 11, .inr (.inl (fun _ => 0)))), ((rn 4), .inl (cy 1, 11, .inr (.inl (fun _ => 0)))), ((rn 5), .inl (cy 1, 11, .inr (.inl (fun _ => 0)))), ((rn 6), .inl (cy 1, 11, .inr (.inl (fun _ => 0)))), ((rn 7), .inl (cy 1, 11, .inr (.inl (fun _ => 0)))), (h0, .inr (7, [.ref vC, .ref p1, .ref p2, .ref p3, .ref p4, .ref p5, .ref p6, .ref p7, .int e1, .long e2, .ref p8, .int 0, .int x2, .long 1]))] := hD
  refine lv_iinc (v := 8) (lv' := [(2, .int 8), (3, .int 3), (0, .ref h0), (1, .int 0)]) hx hb dX4_weigh_72 hl (k := 1) rfl (by decide) (by decide) rfl (fun ls hl => ?_)
  refine lv_goto (tgt := 15) hx hb dX4_weigh_75 (by decide) ?_
  refine lv_iload_n hx hb dX4_weigh_15 rfl (lv_at hl 0 rfl) ?_
  refine lv_bipush (v := 9) hx hb dX4_weigh_16 (by decide) ?_
  refine lv_icmp_ge (tgt := 78) hx hb dX4_weigh_18 (by decide) (fun c_18_94 => absurd c_18_94 (by decide +kernel)) (fun _ => ?_)
  refine lv_iconst (v := 0) hx hb dX4_weigh_21 (by decide) ?_
  refine lv_istore_n (lv' := [(3, .int 0), (2, .int 8), (0, .ref h0), (1, .int 0)]) hx hb dX4_weigh_22 rfl hl (by decide) rfl (fun ls hl => ?_)
  refine lv_iload_n hx hb dX4_weigh_23 rfl (lv_at hl 0 rfl) ?_
  refine lv_iconst (v := 3) hx hb dX4_weigh_24 (by decide) ?_
  refine lv_icmp_ge (tgt := 72) hx hb dX4_weigh_25 (by decide) (fun c_25_95 => absurd c_25_95 (by decide +kernel)) (fun _ => ?_)
  refine lv_aload_n hx hb dX4_weigh_28 rfl (lv_at hl 2 rfl) ?_
  refine va_get (D := D) (ci := 7) (v := .ref p5) (C := RX4) (T := TX4) (N := 14) hx hb hts iRX4 hown hK hP 22 rfl rfl 5 (by decide) (hts _ q43) (fun _ h9 => h9) rfl dX4_weigh_29 ?_
  refine lv_iload_n hx hb dX4_weigh_32 rfl (lv_at hl 1 rfl) ?_
  refine va_aldA hx hb hK hP 0 3 rfl rfl (z_in 8 (by decide) (by decide)) dX4_weigh_33 ?_
  rw [show va_rf ((fun k9 => if k9 < 9 then some (rt k9) else none) (8 : Int32).toNatClampNeg) = .ref (rt 8) from rfl]
  refine lv_iload_n hx hb dX4_weigh_34 rfl (lv_at hl 0 rfl) ?_
  refine lv_aload_n hx hb dX4_weigh_35 rfl (lv_at hl 2 rfl) ?_
  refine va_get (D := D) (ci := 7) (v := .ref p3) (C := RX4) (T := TX4) (N := 14) hx hb hts iRX4 hown hK hP 22 rfl rfl 3 (by decide) (hts _ q39) (fun _ h9 => h9) rfl dX4_weigh_36 ?_
  refine lv_iload_n hx hb dX4_weigh_39 rfl (lv_at hl 1 rfl) ?_
  refine va_iald hx hb hK hP 11 0 rfl rfl (z_in 8 (by decide) (by decide)) dX4_weigh_40 ?_
  refine lv_topi (fun y97 ey97 => ?_)
  obtain rfl : y97 = (-1) := ey97.trans rfl
  refine lv_iconst (v := (-1)) hx hb dX4_weigh_41 (by decide) ?_
  refine lv_icmp_ne (tgt := 49) hx hb dX4_weigh_42 (by decide) (fun c_42_97 => absurd (by decide +kernel) c_42_97) (fun _ => ?_)
  refine lv_lconst (v := 0) hx hb dX4_weigh_45 rfl ?_
  refine lv_goto (tgt := 65) hx hb dX4_weigh_46 (by decide) ?_
  refine va_last hx hb hK hP hD hS 9 1 rfl rfl (z_in 0 (by decide) (by decide)) dX4_weigh_65 (fun H locs hP hD hS => ?_)
  have hP : va_P D vwCl [(p5, .inl (cy 3, 9, .inr (.inr (.inr (.inr (fun k9 => if k9 < 9 then some (rt k9) else none)))))), ((rt 0), .inl (cy 1, 3, .inr (.inl (fun _ => 0)))), ((rt 1), .inl (cy 1, 3, .inr (.inl (fun _ => 0)))), ((rt 2), .inl (cy 1, 3, .inr (.inl (fun _ => 0)))), ((rt 3), .inl (cy 1, 3, .inr (.inl (fun _ => 0)))), ((rt 4), .inl (cy 1, 3, .inr (.inl (fun _ => 0)))), ((rt 5), .inl (cy 1, 3, .inr (.inl (fun _ => 0)))), ((rt 6), .inl (cy 1, 3, .inr (.inl (fun _ => 0)))), ((rt 7), .inl (cy 1, 3, .inr (.inl (fun _ => 0)))), ((rt 8), .inl (cy 1, 3, .inr (.inl (vp_updL (fun _ => 0) (0 : Int32).toNatClampNeg 0)))), (p2, .inl (cy 2, 9, .inl (fun _ => 0))), (p3, .inl (cy 0, 9, .inl (fun _ => (-1)))), (vC, .inr (3, [.ref sS, .ref sJ, .int 0, .int 0])), (p4, .inl (cy 3, 8, .inr (.inr (.inr (.inr (fun k9 => if k9 < 8 then some (rn k9) else none)))))), ((rn 0), .inl (cy 1, 11, .inr (.inl (fun _ => 0)))), ((rn 1), .inl (cy 1, 11, .inr (.inl (fun _ => 0)))), ((rn 2), .inl (cy 1, 11, .inr (.inl (fun _ => 0)))), ((rn 3), .inl (cy 1, 11, .inr (.inl (fun _ => 0)))), ((rn 4), .inl (cy 1, 11, .inr (.inl (fun _ => 0)))), ((rn 5), .inl (cy 1, 11, .inr (.inl (fun _ => 0)))), ((rn 6), .inl (cy 1, 11, .inr (.inl (fun _ => 0)))), ((rn 7), .inl (cy 1, 11, .inr (.inl (fun _ => 0)))), (h0, .inr (7, [.ref vC, .ref p1, .ref p2, .ref p3, .ref p4, .ref p5, .ref p6, .ref p7, .int e1, .long e2, .ref p8, .int 0, .int x2, .long 1]))] H := hP
  have hD : va_D A [(p5, .inl (cy 3, 9, .inr (.inr (.inr (.inr (fun k9 => if k9 < 9 then some (rt k9) else none)))))), ((rt 0), .inl (cy 1, 3, .inr (.inl (fun _ => 0)))), ((rt 1), .inl (cy 1, 3, .inr (.inl (fun _ => 0)))), ((rt 2), .inl (cy 1, 3, .inr (.inl (fun _ => 0)))), ((rt 3), .inl (cy 1, 3, .inr (.inl (fun _ => 0)))), ((rt 4), .inl (cy 1, 3, .inr (.inl (fun _ => 0)))), ((rt 5), .inl (cy 1, 3, .inr (.inl (fun _ => 0)))), ((rt 6), .inl (cy 1, 3, .inr (.inl (fun _ => 0)))), ((rt 7), .inl (cy 1, 3, .inr (.inl (fun _ => 0)))), ((rt 8), .inl (cy 1, 3, .inr (.inl (vp_updL (fun _ => 0) (0 : Int32).toNatClampNeg 0)))), (p2, .inl (cy 2, 9, .inl (fun _ => 0))), (p3, .inl (cy 0, 9, .inl (fun _ => (-1)))), (vC, .inr (3, [.ref sS, .ref sJ, .int 0, .int 0])), (p4, .inl (cy 3, 8, .inr (.inr (.inr (.inr (fun k9 => if k9 < 8 then some (rn k9) else none)))))), ((rn 0), .inl (cy 1, 11, .inr (.inl (fun _ => 0)))), ((rn 1), .inl (cy 1, 11, .inr (.inl (fun _ => 0)))), ((rn 2), .inl (cy 1, 11, .inr (.inl (fun _ => 0)))), ((rn 3), .inl (cy 1, 11, .inr (.inl (fun _ => 0)))), ((rn 4), .inl (cy 1, 11, .inr (.inl (fun _ => 0)))), ((rn 5), .inl (cy 1, 11, .inr (.inl (fun _ => 0)))), ((rn 6), .inl (cy 1, 11, .inr (.inl (fun _ => 0)))), ((rn 7), .inl (cy 1, 11, .inr (.inl (fun _ => 0)))), (h0, .inr (7, [.ref vC, .ref p1, .ref p2, .ref p3, .ref p4, .ref p5, .ref p6, .ref p7, .int e1, .long e2, .ref p8, .int 0, .int x2, .long 1]))] := hD
  refine lv_iinc (v := 1) (lv' := [(3, .int 1), (2, .int 8), (0, .ref h0), (1, .int 0)]) hx hb dX4_weigh_66 hl (k := 0) rfl (by decide) (by decide) rfl (fun ls hl => ?_)
  refine lv_goto (tgt := 23) hx hb dX4_weigh_69 (by decide) ?_
  refine lv_iload_n hx hb dX4_weigh_23 rfl (lv_at hl 0 rfl) ?_
  refine lv_iconst (v := 3) hx hb dX4_weigh_24 (by decide) ?_
  refine lv_icmp_ge (tgt := 72) hx hb dX4_weigh_25 (by decide) (fun c_25_98 => absurd c_25_98 (by decide +kernel)) (fun _ => ?_)
  refine lv_aload_n hx hb dX4_weigh_28 rfl (lv_at hl 2 rfl) ?_
  refine va_get (D := D) (ci := 7) (v := .ref p5) (C := RX4) (T := TX4) (N := 14) hx hb hts iRX4 hown hK hP 22 rfl rfl 5 (by decide) (hts _ q43) (fun _ h9 => h9) rfl dX4_weigh_29 ?_
  refine lv_iload_n hx hb dX4_weigh_32 rfl (lv_at hl 1 rfl) ?_
  refine va_aldA hx hb hK hP 0 3 rfl rfl (z_in 8 (by decide) (by decide)) dX4_weigh_33 ?_
  rw [show va_rf ((fun k9 => if k9 < 9 then some (rt k9) else none) (8 : Int32).toNatClampNeg) = .ref (rt 8) from rfl]
  refine lv_iload_n hx hb dX4_weigh_34 rfl (lv_at hl 0 rfl) ?_
  refine lv_aload_n hx hb dX4_weigh_35 rfl (lv_at hl 2 rfl) ?_
  refine va_get (D := D) (ci := 7) (v := .ref p3) (C := RX4) (T := TX4) (N := 14) hx hb hts iRX4 hown hK hP 22 rfl rfl 3 (by decide) (hts _ q39) (fun _ h9 => h9) rfl dX4_weigh_36 ?_
  refine lv_iload_n hx hb dX4_weigh_39 rfl (lv_at hl 1 rfl) ?_
  refine va_iald hx hb hK hP 11 0 rfl rfl (z_in 8 (by decide) (by decide)) dX4_weigh_40 ?_
  refine lv_topi (fun y100 ey100 => ?_)
  obtain rfl : y100 = (-1) := ey100.trans rfl
  refine lv_iconst (v := (-1)) hx hb dX4_weigh_41 (by decide) ?_
  refine lv_icmp_ne (tgt := 49) hx hb dX4_weigh_42 (by decide) (fun c_42_100 => absurd (by decide +kernel) c_42_100) (fun _ => ?_)
  refine lv_lconst (v := 0) hx hb dX4_weigh_45 rfl ?_
  refine lv_goto (tgt := 65) hx hb dX4_weigh_46 (by decide) ?_
  refine va_last hx hb hK hP hD hS 9 1 rfl rfl (z_in 1 (by decide) (by decide)) dX4_weigh_65 (fun H locs hP hD hS => ?_)
  have hP : va_P D vwCl [(p5, .inl (cy 3, 9, .inr (.inr (.inr (.inr (fun k9 => if k9 < 9 then some (rt k9) else none)))))), ((rt 0), .inl (cy 1, 3, .inr (.inl (fun _ => 0)))), ((rt 1), .inl (cy 1, 3, .inr (.inl (fun _ => 0)))), ((rt 2), .inl (cy 1, 3, .inr (.inl (fun _ => 0)))), ((rt 3), .inl (cy 1, 3, .inr (.inl (fun _ => 0)))), ((rt 4), .inl (cy 1, 3, .inr (.inl (fun _ => 0)))), ((rt 5), .inl (cy 1, 3, .inr (.inl (fun _ => 0)))), ((rt 6), .inl (cy 1, 3, .inr (.inl (fun _ => 0)))), ((rt 7), .inl (cy 1, 3, .inr (.inl (fun _ => 0)))), ((rt 8), .inl (cy 1, 3, .inr (.inl (vp_updL (vp_updL (fun _ => 0) (0 : Int32).toNatClampNeg 0) (1 : Int32).toNatClampNeg 0)))), (p2, .inl (cy 2, 9, .inl (fun _ => 0))), (p3, .inl (cy 0, 9, .inl (fun _ => (-1)))), (vC, .inr (3, [.ref sS, .ref sJ, .int 0, .int 0])), (p4, .inl (cy 3, 8, .inr (.inr (.inr (.inr (fun k9 => if k9 < 8 then some (rn k9) else none)))))), ((rn 0), .inl (cy 1, 11, .inr (.inl (fun _ => 0)))), ((rn 1), .inl (cy 1, 11, .inr (.inl (fun _ => 0)))), ((rn 2), .inl (cy 1, 11, .inr (.inl (fun _ => 0)))), ((rn 3), .inl (cy 1, 11, .inr (.inl (fun _ => 0)))), ((rn 4), .inl (cy 1, 11, .inr (.inl (fun _ => 0)))), ((rn 5), .inl (cy 1, 11, .inr (.inl (fun _ => 0)))), ((rn 6), .inl (cy 1, 11, .inr (.inl (fun _ => 0)))), ((rn 7), .inl (cy 1, 11, .inr (.inl (fun _ => 0)))), (h0, .inr (7, [.ref vC, .ref p1, .ref p2, .ref p3, .ref p4, .ref p5, .ref p6, .ref p7, .int e1, .long e2, .ref p8, .int 0, .int x2, .long 1]))] H := hP
  have hD : va_D A [(p5, .inl (cy 3, 9, .inr (.inr (.inr (.inr (fun k9 => if k9 < 9 then some (rt k9) else none)))))), ((rt 0), .inl (cy 1, 3, .inr (.inl (fun _ => 0)))), ((rt 1), .inl (cy 1, 3, .inr (.inl (fun _ => 0)))), ((rt 2), .inl (cy 1, 3, .inr (.inl (fun _ => 0)))), ((rt 3), .inl (cy 1, 3, .inr (.inl (fun _ => 0)))), ((rt 4), .inl (cy 1, 3, .inr (.inl (fun _ => 0)))), ((rt 5), .inl (cy 1, 3, .inr (.inl (fun _ => 0)))), ((rt 6), .inl (cy 1, 3, .inr (.inl (fun _ => 0)))), ((rt 7), .inl (cy 1, 3, .inr (.inl (fun _ => 0)))), ((rt 8), .inl (cy 1, 3, .inr (.inl (vp_updL (vp_updL (fun _ => 0) (0 : Int32).toNatClampNeg 0) (1 : Int32).toNatClampNeg 0)))), (p2, .inl (cy 2, 9, .inl (fun _ => 0))), (p3, .inl (cy 0, 9, .inl (fun _ => (-1)))), (vC, .inr (3, [.ref sS, .ref sJ, .int 0, .int 0])), (p4, .inl (cy 3, 8, .inr (.inr (.inr (.inr (fun k9 => if k9 < 8 then some (rn k9) else none)))))), ((rn 0), .inl (cy 1, 11, .inr (.inl (fun _ => 0)))), ((rn 1), .inl (cy 1, 11, .inr (.inl (fun _ => 0)))), ((rn 2), .inl (cy 1, 11, .inr (.inl (fun _ => 0)))), ((rn 3), .inl (cy 1, 11, .inr (.inl (fun _ => 0)))), ((rn 4), .inl (cy 1, 11, .inr (.inl (fun _ => 0)))), ((rn 5), .inl (cy 1, 11, .inr (.inl (fun _ => 0)))), ((rn 6), .inl (cy 1, 11, .inr (.inl (fun _ => 0)))), ((rn 7), .inl (cy 1, 11, .inr (.inl (fun _ => 0)))), (h0, .inr (7, [.ref vC, .ref p1, .ref p2, .ref p3, .ref p4, .ref p5, .ref p6, .ref p7, .int e1, .long e2, .ref p8, .int 0, .int x2, .long 1]))] := hD
  refine lv_iinc (v := 2) (lv' := [(3, .int 2), (2, .int 8), (0, .ref h0), (1, .int 0)]) hx hb dX4_weigh_66 hl (k := 0) rfl (by decide) (by decide) rfl (fun ls hl => ?_)
  refine lv_goto (tgt := 23) hx hb dX4_weigh_69 (by decide) ?_
  refine lv_iload_n hx hb dX4_weigh_23 rfl (lv_at hl 0 rfl) ?_
  refine lv_iconst (v := 3) hx hb dX4_weigh_24 (by decide) ?_
  refine lv_icmp_ge (tgt := 72) hx hb dX4_weigh_25 (by decide) (fun c_25_101 => absurd c_25_101 (by decide +kernel)) (fun _ => ?_)
  refine lv_aload_n hx hb dX4_weigh_28 rfl (lv_at hl 2 rfl) ?_
  refine va_get (D := D) (ci := 7) (v := .ref p5) (C := RX4) (T := TX4) (N := 14) hx hb hts iRX4 hown hK hP 22 rfl rfl 5 (by decide) (hts _ q43) (fun _ h9 => h9) rfl dX4_weigh_29 ?_
  refine lv_iload_n hx hb dX4_weigh_32 rfl (lv_at hl 1 rfl) ?_
  refine va_aldA hx hb hK hP 0 3 rfl rfl (z_in 8 (by decide) (by decide)) dX4_weigh_33 ?_
  rw [show va_rf ((fun k9 => if k9 < 9 then some (rt k9) else none) (8 : Int32).toNatClampNeg) = .ref (rt 8) from rfl]
  refine lv_iload_n hx hb dX4_weigh_34 rfl (lv_at hl 0 rfl) ?_
  refine lv_aload_n hx hb dX4_weigh_35 rfl (lv_at hl 2 rfl) ?_
  refine va_get (D := D) (ci := 7) (v := .ref p3) (C := RX4) (T := TX4) (N := 14) hx hb hts iRX4 hown hK hP 22 rfl rfl 3 (by decide) (hts _ q39) (fun _ h9 => h9) rfl dX4_weigh_36 ?_
  refine lv_iload_n hx hb dX4_weigh_39 rfl (lv_at hl 1 rfl) ?_
  refine va_iald hx hb hK hP 11 0 rfl rfl (z_in 8 (by decide) (by decide)) dX4_weigh_40 ?_
  refine lv_topi (fun y103 ey103 => ?_)
  obtain rfl : y103 = (-1) := ey103.trans rfl
  refine lv_iconst (v := (-1)) hx hb dX4_weigh_41 (by decide) ?_
  refine lv_icmp_ne (tgt := 49) hx hb dX4_weigh_42 (by decide) (fun c_42_103 => absurd (by decide +kernel) c_42_103) (fun _ => ?_)
  refine lv_lconst (v := 0) hx hb dX4_weigh_45 rfl ?_
  refine lv_goto (tgt := 65) hx hb dX4_weigh_46 (by decide) ?_
  refine va_last hx hb hK hP hD hS 9 1 rfl rfl (z_in 2 (by decide) (by decide)) dX4_weigh_65 (fun H locs hP hD hS => ?_)
  have hP : va_P D vwCl [(p5, .inl (cy 3, 9, .inr (.inr (.inr (.inr (fun k9 => if k9 < 9 then some (rt k9) else none)))))), ((rt 0), .inl (cy 1, 3, .inr (.inl (fun _ => 0)))), ((rt 1), .inl (cy 1, 3, .inr (.inl (fun _ => 0)))), ((rt 2), .inl (cy 1, 3, .inr (.inl (fun _ => 0)))), ((rt 3), .inl (cy 1, 3, .inr (.inl (fun _ => 0)))), ((rt 4), .inl (cy 1, 3, .inr (.inl (fun _ => 0)))), ((rt 5), .inl (cy 1, 3, .inr (.inl (fun _ => 0)))), ((rt 6), .inl (cy 1, 3, .inr (.inl (fun _ => 0)))), ((rt 7), .inl (cy 1, 3, .inr (.inl (fun _ => 0)))), ((rt 8), .inl (cy 1, 3, .inr (.inl (vp_updL (vp_updL (vp_updL (fun _ => 0) (0 : Int32).toNatClampNeg 0) (1 : Int32).toNatClampNeg 0) (2 : Int32).toNatClampNeg 0)))), (p2, .inl (cy 2, 9, .inl (fun _ => 0))), (p3, .inl (cy 0, 9, .inl (fun _ => (-1)))), (vC, .inr (3, [.ref sS, .ref sJ, .int 0, .int 0])), (p4, .inl (cy 3, 8, .inr (.inr (.inr (.inr (fun k9 => if k9 < 8 then some (rn k9) else none)))))), ((rn 0), .inl (cy 1, 11, .inr (.inl (fun _ => 0)))), ((rn 1), .inl (cy 1, 11, .inr (.inl (fun _ => 0)))), ((rn 2), .inl (cy 1, 11, .inr (.inl (fun _ => 0)))), ((rn 3), .inl (cy 1, 11, .inr (.inl (fun _ => 0)))), ((rn 4), .inl (cy 1, 11, .inr (.inl (fun _ => 0)))), ((rn 5), .inl (cy 1, 11, .inr (.inl (fun _ => 0)))), ((rn 6), .inl (cy 1, 11, .inr (.inl (fun _ => 0)))), ((rn 7), .inl (cy 1, 11, .inr (.inl (fun _ => 0)))), (h0, .inr (7, [.ref vC, .ref p1, .ref p2, .ref p3, .ref p4, .ref p5, .ref p6, .ref p7, .int e1, .long e2, .ref p8, .int 0, .int x2, .long 1]))] H := hP
  have hD : va_D A [(p5, .inl (cy 3, 9, .inr (.inr (.inr (.inr (fun k9 => if k9 < 9 then some (rt k9) else none)))))), ((rt 0), .inl (cy 1, 3, .inr (.inl (fun _ => 0)))), ((rt 1), .inl (cy 1, 3, .inr (.inl (fun _ => 0)))), ((rt 2), .inl (cy 1, 3, .inr (.inl (fun _ => 0)))), ((rt 3), .inl (cy 1, 3, .inr (.inl (fun _ => 0)))), ((rt 4), .inl (cy 1, 3, .inr (.inl (fun _ => 0)))), ((rt 5), .inl (cy 1, 3, .inr (.inl (fun _ => 0)))), ((rt 6), .inl (cy 1, 3, .inr (.inl (fun _ => 0)))), ((rt 7), .inl (cy 1, 3, .inr (.inl (fun _ => 0)))), ((rt 8), .inl (cy 1, 3, .inr (.inl (vp_updL (vp_updL (vp_updL (fun _ => 0) (0 : Int32).toNatClampNeg 0) (1 : Int32).toNatClampNeg 0) (2 : Int32).toNatClampNeg 0)))), (p2, .inl (cy 2, 9, .inl (fun _ => 0))), (p3, .inl (cy 0, 9, .inl (fun _ => (-1)))), (vC, .inr (3, [.ref sS, .ref sJ, .int 0, .int 0])), (p4, .inl (cy 3, 8, .inr (.inr (.inr (.inr (fun k9 => if k9 < 8 then some (rn k9) else none)))))), ((rn 0), .inl (cy 1, 11, .inr (.inl (fun _ => 0)))), ((rn 1), .inl (cy 1, 11, .inr (.inl (fun _ => 0)))), ((rn 2), .inl (cy 1, 11, .inr (.inl (fun _ => 0)))), ((rn 3), .inl (cy 1, 11, .inr (.inl (fun _ => 0)))), ((rn 4), .inl (cy 1, 11, .inr (.inl (fun _ => 0)))), ((rn 5), .inl (cy 1, 11, .inr (.inl (fun _ => 0)))), ((rn 6), .inl (cy 1, 11, .inr (.inl (fun _ => 0)))), ((rn 7), .inl (cy 1, 11, .inr (.inl (fun _ => 0)))), (h0, .inr (7, [.ref vC, .ref p1, .ref p2, .ref p3, .ref p4, .ref p5, .ref p6, .ref p7, .int e1, .long e2, .ref p8, .int 0, .int x2, .long 1]))] := hD
  refine lv_iinc (v := 3) (lv' := [(3, .int 3), (2, .int 8), (0, .ref h0), (1, .int 0)]) hx hb dX4_weigh_66 hl (k := 0) rfl (by decide) (by decide) rfl (fun ls hl => ?_)
  refine lv_goto (tgt := 23) hx hb dX4_weigh_69 (by decide) ?_
  refine lv_iload_n hx hb dX4_weigh_23 rfl (lv_at hl 0 rfl) ?_
  refine lv_iconst (v := 3) hx hb dX4_weigh_24 (by decide) ?_
  refine lv_icmp_ge (tgt := 72) hx hb dX4_weigh_25 (by decide) (fun _ => ?_) (fun c_25_104 => absurd (by decide +kernel) c_25_104)
  obtain ⟨hP, hD⟩ := zP_l (fun _ => 0) hP hD (q := 9) rfl (fun j hj => by rcases (show j = 0 ∨ j = 1 ∨ j = 2 by omega) with rfl | rfl | rfl <;> rfl)
  have hP : va_P D vwCl [(p5, .inl (cy 3, 9, .inr (.inr (.inr (.inr (fun k9 => if k9 < 9 then some (rt k9) else none)))))), ((rt 0), .inl (cy 1, 3, .inr (.inl (fun _ => 0)))), ((rt 1), .inl (cy 1, 3, .inr (.inl (fun _ => 0)))), ((rt 2), .inl (cy 1, 3, .inr (.inl (fun _ => 0)))), ((rt 3), .inl (cy 1, 3, .inr (.inl (fun _ => 0)))), ((rt 4), .inl (cy 1, 3, .inr (.inl (fun _ => 0)))), ((rt 5), .inl (cy 1, 3, .inr (.inl (fun _ => 0)))), ((rt 6), .inl (cy 1, 3, .inr (.inl (fun _ => 0)))), ((rt 7), .inl (cy 1, 3, .inr (.inl (fun _ => 0)))), ((rt 8), .inl (cy 1, 3, .inr (.inl (fun _ => 0)))), (p2, .inl (cy 2, 9, .inl (fun _ => 0))), (p3, .inl (cy 0, 9, .inl (fun _ => (-1)))), (vC, .inr (3, [.ref sS, .ref sJ, .int 0, .int 0])), (p4, .inl (cy 3, 8, .inr (.inr (.inr (.inr (fun k9 => if k9 < 8 then some (rn k9) else none)))))), ((rn 0), .inl (cy 1, 11, .inr (.inl (fun _ => 0)))), ((rn 1), .inl (cy 1, 11, .inr (.inl (fun _ => 0)))), ((rn 2), .inl (cy 1, 11, .inr (.inl (fun _ => 0)))), ((rn 3), .inl (cy 1, 11, .inr (.inl (fun _ => 0)))), ((rn 4), .inl (cy 1, 11, .inr (.inl (fun _ => 0)))), ((rn 5), .inl (cy 1, 11, .inr (.inl (fun _ => 0)))), ((rn 6), .inl (cy 1, 11, .inr (.inl (fun _ => 0)))), ((rn 7), .inl (cy 1, 11, .inr (.inl (fun _ => 0)))), (h0, .inr (7, [.ref vC, .ref p1, .ref p2, .ref p3, .ref p4, .ref p5, .ref p6, .ref p7, .int e1, .long e2, .ref p8, .int 0, .int x2, .long 1]))] H := hP
  have hD : va_D A [(p5, .inl (cy 3, 9, .inr (.inr (.inr (.inr (fun k9 => if k9 < 9 then some (rt k9) else none)))))), ((rt 0), .inl (cy 1, 3, .inr (.inl (fun _ => 0)))), ((rt 1), .inl (cy 1, 3, .inr (.inl (fun _ => 0)))), ((rt 2), .inl (cy 1, 3, .inr (.inl (fun _ => 0)))), ((rt 3), .inl (cy 1, 3, .inr (.inl (fun _ => 0)))), ((rt 4), .inl (cy 1, 3, .inr (.inl (fun _ => 0)))), ((rt 5), .inl (cy 1, 3, .inr (.inl (fun _ => 0)))), ((rt 6), .inl (cy 1, 3, .inr (.inl (fun _ => 0)))), ((rt 7), .inl (cy 1, 3, .inr (.inl (fun _ => 0)))), ((rt 8), .inl (cy 1, 3, .inr (.inl (fun _ => 0)))), (p2, .inl (cy 2, 9, .inl (fun _ => 0))), (p3, .inl (cy 0, 9, .inl (fun _ => (-1)))), (vC, .inr (3, [.ref sS, .ref sJ, .int 0, .int 0])), (p4, .inl (cy 3, 8, .inr (.inr (.inr (.inr (fun k9 => if k9 < 8 then some (rn k9) else none)))))), ((rn 0), .inl (cy 1, 11, .inr (.inl (fun _ => 0)))), ((rn 1), .inl (cy 1, 11, .inr (.inl (fun _ => 0)))), ((rn 2), .inl (cy 1, 11, .inr (.inl (fun _ => 0)))), ((rn 3), .inl (cy 1, 11, .inr (.inl (fun _ => 0)))), ((rn 4), .inl (cy 1, 11, .inr (.inl (fun _ => 0)))), ((rn 5), .inl (cy 1, 11, .inr (.inl (fun _ => 0)))), ((rn 6), .inl (cy 1, 11, .inr (.inl (fun _ => 0)))), ((rn 7), .inl (cy 1, 11, .inr (.inl (fun _ => 0)))), (h0, .inr (7, [.ref vC, .ref p1, .ref p2, .ref p3, .ref p4, .ref p5, .ref p6, .ref p7, .int e1, .long e2, .ref p8, .int 0, .int x2, .long 1]))] := hD
  refine lv_iinc (v := 9) (lv' := [(2, .int 9), (3, .int 3), (0, .ref h0), (1, .int 0)]) hx hb dX4_weigh_72 hl (k := 1) rfl (by decide) (by decide) rfl (fun ls hl => ?_)
  refine lv_goto (tgt := 15) hx hb dX4_weigh_75 (by decide) ?_
  refine lv_iload_n hx hb dX4_weigh_15 rfl (lv_at hl 0 rfl) ?_
  refine lv_bipush (v := 9) hx hb dX4_weigh_16 (by decide) ?_
  refine lv_icmp_ge (tgt := 78) hx hb dX4_weigh_18 (by decide) (fun _ => ?_) (fun c_18_105 => absurd (by decide +kernel) c_18_105)
  have hP9 := hP.sub (ws' := [(h0, .inr (7, [.ref vC, .ref p1, .ref p2, .ref p3, .ref p4, .ref p5, .ref p6, .ref p7, .int e1, .long e2, .ref p8, .int 0, .int x2, .long 1])), (vC, .inr (3, [.ref sS, .ref sJ, .int 0, .int 0])), (p5, .inl (cy 3, 9, .inr (.inr (.inr (.inr (fun k9 => if k9 < 9 then some (rt k9) else none)))))), ((rt 0), .inl (cy 1, 3, .inr (.inl (fun _ => 0)))), ((rt 1), .inl (cy 1, 3, .inr (.inl (fun _ => 0)))), ((rt 2), .inl (cy 1, 3, .inr (.inl (fun _ => 0)))), ((rt 3), .inl (cy 1, 3, .inr (.inl (fun _ => 0)))), ((rt 4), .inl (cy 1, 3, .inr (.inl (fun _ => 0)))), ((rt 5), .inl (cy 1, 3, .inr (.inl (fun _ => 0)))), ((rt 6), .inl (cy 1, 3, .inr (.inl (fun _ => 0)))), ((rt 7), .inl (cy 1, 3, .inr (.inl (fun _ => 0)))), ((rt 8), .inl (cy 1, 3, .inr (.inl (fun _ => 0))))]) [22, 12, 0, 1, 2, 3, 4, 5, 6, 7, 8, 9] rfl
  have hD9 := hD.sub (ws' := [(h0, .inr (7, [.ref vC, .ref p1, .ref p2, .ref p3, .ref p4, .ref p5, .ref p6, .ref p7, .int e1, .long e2, .ref p8, .int 0, .int x2, .long 1])), (vC, .inr (3, [.ref sS, .ref sJ, .int 0, .int 0])), (p5, .inl (cy 3, 9, .inr (.inr (.inr (.inr (fun k9 => if k9 < 9 then some (rt k9) else none)))))), ((rt 0), .inl (cy 1, 3, .inr (.inl (fun _ => 0)))), ((rt 1), .inl (cy 1, 3, .inr (.inl (fun _ => 0)))), ((rt 2), .inl (cy 1, 3, .inr (.inl (fun _ => 0)))), ((rt 3), .inl (cy 1, 3, .inr (.inl (fun _ => 0)))), ((rt 4), .inl (cy 1, 3, .inr (.inl (fun _ => 0)))), ((rt 5), .inl (cy 1, 3, .inr (.inl (fun _ => 0)))), ((rt 6), .inl (cy 1, 3, .inr (.inl (fun _ => 0)))), ((rt 7), .inl (cy 1, 3, .inr (.inl (fun _ => 0)))), ((rt 8), .inl (cy 1, 3, .inr (.inl (fun _ => 0))))]) [22, 12, 0, 1, 2, 3, 4, 5, 6, 7, 8, 9] (by decide) rfl
  refine W.widen (k := 0) (n := 0) (Nat.le_of_ble_eq_true rfl) (Nat.le_of_ble_eq_true rfl) ?_
  rw [hQe]
  exact W.vret hx hb hr (fun t ht hW => ⟨⟨(), rfl, trivial, ⟨by rw [ht]; exact hP9, hD9⟩⟩, hS.F ht⟩) hS.2.2 dX4_weigh_78
set_option maxHeartbeats 4000000 in
set_option maxRecDepth 100000 in
/-- weigh, nothing hung: all places 0, bottom 1 -/
theorem k_weigh1 (l : Launch) (D : va_G) (cy : Nat → ClassId) (h0 : Nat) (vC : Nat) (p1 : Nat) (p2 : Nat) (p3 : Nat) (p4 : Nat) (p5 : Nat) (p6 : Nat) (p7 : Nat) (p8 : Nat) (e1 : Int32) (e2 : Int64) (x2 : Int32) (x3 : Int64) (sS : Nat) (sJ : Nat) (rn : Nat → Nat) (rt : Nat → Nat) (sz : Nat)  : Met l yX4_weigh (wz yX4_weigh cX4_weigh 4 none) ({ frames := 3, cells := 0, slots := 0, locals := 62 } : Room) (va_Pc [.ref h0, .int 1] (zPre vwCl D cy [(h0, .inr (7, [.ref vC, .ref p1, .ref p2, .ref p3, .ref p4, .ref p5, .ref p6, .ref p7, .int e1, .long e2, .ref p8, .int 0, .int x2, .long x3])), (vC, .inr (3, [.ref sS, .ref sJ, .int 0, .int 0])), (p2, .inl (cy 2, 9, .inl (fun _ => 0))), (p3, .inl (cy 0, 9, .inl (fun _ => 0))), (p4, .inl (cy 3, 8, .inr (.inr (.inr (.inr (fun k9 => if k9 < 8 then some (rn k9) else none)))))), ((rn 0), .inl (cy 1, 11, .inr (.inl (fun _ => 0)))), ((rn 1), .inl (cy 1, 11, .inr (.inl (fun _ => 0)))), ((rn 2), .inl (cy 1, 11, .inr (.inl (fun _ => 0)))), ((rn 3), .inl (cy 1, 11, .inr (.inl (fun _ => 0)))), ((rn 4), .inl (cy 1, 11, .inr (.inl (fun _ => 0)))), ((rn 5), .inl (cy 1, 11, .inr (.inl (fun _ => 0)))), ((rn 6), .inl (cy 1, 11, .inr (.inl (fun _ => 0)))), ((rn 7), .inl (cy 1, 11, .inr (.inl (fun _ => 0)))), (p5, .inl (cy 3, 9, .inr (.inr (.inr (.inr (fun k9 => if k9 < 9 then some (rt k9) else none)))))), ((rt 0), .inl (cy 1, 3, .inr (.inl (fun _ => 0)))), ((rt 1), .inl (cy 1, 3, .inr (.inl (fun _ => 0)))), ((rt 2), .inl (cy 1, 3, .inr (.inl (fun _ => 0)))), ((rt 3), .inl (cy 1, 3, .inr (.inl (fun _ => 0)))), ((rt 4), .inl (cy 1, 3, .inr (.inl (fun _ => 0)))), ((rt 5), .inl (cy 1, 3, .inr (.inl (fun _ => 0)))), ((rt 6), .inl (cy 1, 3, .inr (.inl (fun _ => 0)))), ((rt 7), .inl (cy 1, 3, .inr (.inl (fun _ => 0)))), ((rt 8), .inl (cy 1, 3, .inr (.inl (fun _ => 0))))] sz)) (va_Qv (fun _ : Unit => True) (fun (u : Unit) t => zPost vwCl D (va_A [(h0, .inr (7, [.ref vC, .ref p1, .ref p2, .ref p3, .ref p4, .ref p5, .ref p6, .ref p7, .int e1, .long e2, .ref p8, .int 0, .int x2, .long x3])), (vC, .inr (3, [.ref sS, .ref sJ, .int 0, .int 0])), (p2, .inl (cy 2, 9, .inl (fun _ => 0))), (p3, .inl (cy 0, 9, .inl (fun _ => 0))), (p4, .inl (cy 3, 8, .inr (.inr (.inr (.inr (fun k9 => if k9 < 8 then some (rn k9) else none)))))), ((rn 0), .inl (cy 1, 11, .inr (.inl (fun _ => 0)))), ((rn 1), .inl (cy 1, 11, .inr (.inl (fun _ => 0)))), ((rn 2), .inl (cy 1, 11, .inr (.inl (fun _ => 0)))), ((rn 3), .inl (cy 1, 11, .inr (.inl (fun _ => 0)))), ((rn 4), .inl (cy 1, 11, .inr (.inl (fun _ => 0)))), ((rn 5), .inl (cy 1, 11, .inr (.inl (fun _ => 0)))), ((rn 6), .inl (cy 1, 11, .inr (.inl (fun _ => 0)))), ((rn 7), .inl (cy 1, 11, .inr (.inl (fun _ => 0)))), (p5, .inl (cy 3, 9, .inr (.inr (.inr (.inr (fun k9 => if k9 < 9 then some (rt k9) else none)))))), ((rt 0), .inl (cy 1, 3, .inr (.inl (fun _ => 0)))), ((rt 1), .inl (cy 1, 3, .inr (.inl (fun _ => 0)))), ((rt 2), .inl (cy 1, 3, .inr (.inl (fun _ => 0)))), ((rt 3), .inl (cy 1, 3, .inr (.inl (fun _ => 0)))), ((rt 4), .inl (cy 1, 3, .inr (.inl (fun _ => 0)))), ((rt 5), .inl (cy 1, 3, .inr (.inl (fun _ => 0)))), ((rt 6), .inl (cy 1, 3, .inr (.inl (fun _ => 0)))), ((rt 7), .inl (cy 1, 3, .inr (.inl (fun _ => 0)))), ((rt 8), .inl (cy 1, 3, .inr (.inl (fun _ => 0))))] sz) [(h0, .inr (7, [.ref vC, .ref p1, .ref p2, .ref p3, .ref p4, .ref p5, .ref p6, .ref p7, .int e1, .long e2, .ref p8, .int 0, .int x2, .long 1])), (vC, .inr (3, [.ref sS, .ref sJ, .int 0, .int 0])), (p5, .inl (cy 3, 9, .inr (.inr (.inr (.inr (fun k9 => if k9 < 9 then some (rt k9) else none)))))), ((rt 0), .inl (cy 1, 3, .inr (.inl (fun _ => 0)))), ((rt 1), .inl (cy 1, 3, .inr (.inl (fun _ => 0)))), ((rt 2), .inl (cy 1, 3, .inr (.inl (fun _ => 0)))), ((rt 3), .inl (cy 1, 3, .inr (.inl (fun _ => 0)))), ((rt 4), .inl (cy 1, 3, .inr (.inl (fun _ => 0)))), ((rt 5), .inl (cy 1, 3, .inr (.inl (fun _ => 0)))), ((rt 6), .inl (cy 1, 3, .inr (.inl (fun _ => 0)))), ((rt 7), .inl (cy 1, 3, .inr (.inl (fun _ => 0)))), ((rt 8), .inl (cy 1, 3, .inr (.inl (fun _ => 0))))] t) (va_A [(h0, .inr (7, [.ref vC, .ref p1, .ref p2, .ref p3, .ref p4, .ref p5, .ref p6, .ref p7, .int e1, .long e2, .ref p8, .int 0, .int x2, .long x3])), (vC, .inr (3, [.ref sS, .ref sJ, .int 0, .int 0])), (p2, .inl (cy 2, 9, .inl (fun _ => 0))), (p3, .inl (cy 0, 9, .inl (fun _ => 0))), (p4, .inl (cy 3, 8, .inr (.inr (.inr (.inr (fun k9 => if k9 < 8 then some (rn k9) else none)))))), ((rn 0), .inl (cy 1, 11, .inr (.inl (fun _ => 0)))), ((rn 1), .inl (cy 1, 11, .inr (.inl (fun _ => 0)))), ((rn 2), .inl (cy 1, 11, .inr (.inl (fun _ => 0)))), ((rn 3), .inl (cy 1, 11, .inr (.inl (fun _ => 0)))), ((rn 4), .inl (cy 1, 11, .inr (.inl (fun _ => 0)))), ((rn 5), .inl (cy 1, 11, .inr (.inl (fun _ => 0)))), ((rn 6), .inl (cy 1, 11, .inr (.inl (fun _ => 0)))), ((rn 7), .inl (cy 1, 11, .inr (.inl (fun _ => 0)))), (p5, .inl (cy 3, 9, .inr (.inr (.inr (.inr (fun k9 => if k9 < 9 then some (rt k9) else none)))))), ((rt 0), .inl (cy 1, 3, .inr (.inl (fun _ => 0)))), ((rt 1), .inl (cy 1, 3, .inr (.inl (fun _ => 0)))), ((rt 2), .inl (cy 1, 3, .inr (.inl (fun _ => 0)))), ((rt 3), .inl (cy 1, 3, .inr (.inl (fun _ => 0)))), ((rt 4), .inl (cy 1, 3, .inr (.inl (fun _ => 0)))), ((rt 5), .inl (cy 1, 3, .inr (.inl (fun _ => 0)))), ((rt 6), .inl (cy 1, 3, .inr (.inl (fun _ => 0)))), ((rt 7), .inl (cy 1, 3, .inr (.inl (fun _ => 0)))), ((rt 8), .inl (cy 1, 3, .inr (.inl (fun _ => 0))))] sz)) 0 0 (va_A [(h0, .inr (7, [.ref vC, .ref p1, .ref p2, .ref p3, .ref p4, .ref p5, .ref p6, .ref p7, .int e1, .long e2, .ref p8, .int 0, .int x2, .long x3])), (vC, .inr (3, [.ref sS, .ref sJ, .int 0, .int 0])), (p2, .inl (cy 2, 9, .inl (fun _ => 0))), (p3, .inl (cy 0, 9, .inl (fun _ => 0))), (p4, .inl (cy 3, 8, .inr (.inr (.inr (.inr (fun k9 => if k9 < 8 then some (rn k9) else none)))))), ((rn 0), .inl (cy 1, 11, .inr (.inl (fun _ => 0)))), ((rn 1), .inl (cy 1, 11, .inr (.inl (fun _ => 0)))), ((rn 2), .inl (cy 1, 11, .inr (.inl (fun _ => 0)))), ((rn 3), .inl (cy 1, 11, .inr (.inl (fun _ => 0)))), ((rn 4), .inl (cy 1, 11, .inr (.inl (fun _ => 0)))), ((rn 5), .inl (cy 1, 11, .inr (.inl (fun _ => 0)))), ((rn 6), .inl (cy 1, 11, .inr (.inl (fun _ => 0)))), ((rn 7), .inl (cy 1, 11, .inr (.inl (fun _ => 0)))), (p5, .inl (cy 3, 9, .inr (.inr (.inr (.inr (fun k9 => if k9 < 9 then some (rt k9) else none)))))), ((rt 0), .inl (cy 1, 3, .inr (.inl (fun _ => 0)))), ((rt 1), .inl (cy 1, 3, .inr (.inl (fun _ => 0)))), ((rt 2), .inl (cy 1, 3, .inr (.inl (fun _ => 0)))), ((rt 3), .inl (cy 1, 3, .inr (.inl (fun _ => 0)))), ((rt 4), .inl (cy 1, 3, .inr (.inl (fun _ => 0)))), ((rt 5), .inl (cy 1, 3, .inr (.inl (fun _ => 0)))), ((rt 6), .inl (cy 1, 3, .inr (.inl (fun _ => 0)))), ((rt 7), .inl (cy 1, 3, .inr (.inl (fun _ => 0)))), ((rt 8), .inl (cy 1, 3, .inr (.inl (fun _ => 0))))] sz) := by
  refine Met.ofW (cc := cX4_weigh) (maxL := 4) (ret := none) (by decide) rfl ?_
  intro p e s m args below meth c s₁ B hml hv
  obtain ⟨rfl, hsz, hP, hK, hD0, hX, hY⟩ := hv
  have hx := B.exec
  have hb := B.bytes
  have hr := B.returns
  have hts0 := atoms_spec (ws := wz yX4_weigh cX4_weigh 4 none) B.pre
  have hts : ∀ w ∈ wAll, w.before _ s = true := fun w h => hts0 w (List.mem_cons_of_mem _ h)
  have hown : s.vm.findClass RX4 = some m.cls := findClass_of_methodNamed B.named
  have hlocks := B.notSynchronized
  subst hsz
  have hD := hD0.self (sz := s.heap.size)
  generalize hAe : va_A [(h0, .inr (7, [.ref vC, .ref p1, .ref p2, .ref p3, .ref p4, .ref p5, .ref p6, .ref p7, .int e1, .long e2, .ref p8, .int 0, .int x2, .long x3])), (vC, .inr (3, [.ref sS, .ref sJ, .int 0, .int 0])), (p2, .inl (cy 2, 9, .inl (fun _ => 0))), (p3, .inl (cy 0, 9, .inl (fun _ => 0))), (p4, .inl (cy 3, 8, .inr (.inr (.inr (.inr (fun k9 => if k9 < 8 then some (rn k9) else none)))))), ((rn 0), .inl (cy 1, 11, .inr (.inl (fun _ => 0)))), ((rn 1), .inl (cy 1, 11, .inr (.inl (fun _ => 0)))), ((rn 2), .inl (cy 1, 11, .inr (.inl (fun _ => 0)))), ((rn 3), .inl (cy 1, 11, .inr (.inl (fun _ => 0)))), ((rn 4), .inl (cy 1, 11, .inr (.inl (fun _ => 0)))), ((rn 5), .inl (cy 1, 11, .inr (.inl (fun _ => 0)))), ((rn 6), .inl (cy 1, 11, .inr (.inl (fun _ => 0)))), ((rn 7), .inl (cy 1, 11, .inr (.inl (fun _ => 0)))), (p5, .inl (cy 3, 9, .inr (.inr (.inr (.inr (fun k9 => if k9 < 9 then some (rt k9) else none)))))), ((rt 0), .inl (cy 1, 3, .inr (.inl (fun _ => 0)))), ((rt 1), .inl (cy 1, 3, .inr (.inl (fun _ => 0)))), ((rt 2), .inl (cy 1, 3, .inr (.inl (fun _ => 0)))), ((rt 3), .inl (cy 1, 3, .inr (.inl (fun _ => 0)))), ((rt 4), .inl (cy 1, 3, .inr (.inl (fun _ => 0)))), ((rt 5), .inl (cy 1, 3, .inr (.inl (fun _ => 0)))), ((rt 6), .inl (cy 1, 3, .inr (.inl (fun _ => 0)))), ((rt 7), .inl (cy 1, 3, .inr (.inl (fun _ => 0)))), ((rt 8), .inl (cy 1, 3, .inr (.inl (fun _ => 0))))] s.heap.size = A at hD hY ⊢
  have hA : ∀ q : Nat, s.heap.size ≤ q → A q := fun q h => by rw [← hAe]; exact Or.inr h
  have hS : va_S A s.heap s.heap [] := va_S.rf
  have hP : va_P D vwCl [(h0, .inr (7, [.ref vC, .ref p1, .ref p2, .ref p3, .ref p4, .ref p5, .ref p6, .ref p7, .int e1, .long e2, .ref p8, .int 0, .int x2, .long x3])), (vC, .inr (3, [.ref sS, .ref sJ, .int 0, .int 0])), (p2, .inl (cy 2, 9, .inl (fun _ => 0))), (p3, .inl (cy 0, 9, .inl (fun _ => 0))), (p4, .inl (cy 3, 8, .inr (.inr (.inr (.inr (fun k9 => if k9 < 8 then some (rn k9) else none)))))), ((rn 0), .inl (cy 1, 11, .inr (.inl (fun _ => 0)))), ((rn 1), .inl (cy 1, 11, .inr (.inl (fun _ => 0)))), ((rn 2), .inl (cy 1, 11, .inr (.inl (fun _ => 0)))), ((rn 3), .inl (cy 1, 11, .inr (.inl (fun _ => 0)))), ((rn 4), .inl (cy 1, 11, .inr (.inl (fun _ => 0)))), ((rn 5), .inl (cy 1, 11, .inr (.inl (fun _ => 0)))), ((rn 6), .inl (cy 1, 11, .inr (.inl (fun _ => 0)))), ((rn 7), .inl (cy 1, 11, .inr (.inl (fun _ => 0)))), (p5, .inl (cy 3, 9, .inr (.inr (.inr (.inr (fun k9 => if k9 < 9 then some (rt k9) else none)))))), ((rt 0), .inl (cy 1, 3, .inr (.inl (fun _ => 0)))), ((rt 1), .inl (cy 1, 3, .inr (.inl (fun _ => 0)))), ((rt 2), .inl (cy 1, 3, .inr (.inl (fun _ => 0)))), ((rt 3), .inl (cy 1, 3, .inr (.inl (fun _ => 0)))), ((rt 4), .inl (cy 1, 3, .inr (.inl (fun _ => 0)))), ((rt 5), .inl (cy 1, 3, .inr (.inl (fun _ => 0)))), ((rt 6), .inl (cy 1, 3, .inr (.inl (fun _ => 0)))), ((rt 7), .inl (cy 1, 3, .inr (.inl (fun _ => 0)))), ((rt 8), .inl (cy 1, 3, .inr (.inl (fun _ => 0))))] s.heap := hP
  have hl := lv_entry ([.ref h0, .int 1]) (n := 4) (Nat.le_of_ble_eq_true rfl)
  rw [lg_entry_eq]
  generalize (lg_sl ([.ref h0, .int 1]) ++ List.replicate (4 - (lg_sl ([.ref h0, .int 1])).length) Slot.unset).toArray = ls at hl ⊢
  have hl : lv_has ls 4 [(0, .ref h0), (1, .int 1)] := hl
  refine z_anyQ (fun Q hQe => ?_)
  refine lv_aload_n hx hb dX4_weigh_0 rfl (lv_at hl 0 rfl) ?_
  refine lv_iload_n hx hb dX4_weigh_1 rfl (lv_at hl 1 rfl) ?_
  refine zq_v (wc := [(h0, .inr (7, [.ref vC, .ref p1, .ref p2, .ref p3, .ref p4, .ref p5, .ref p6, .ref p7, .int e1, .long e2, .ref p8, .int 0, .int x2, .long x3])), (p2, .inl (cy 2, 9, .inl (fun _ => 0))), (p3, .inl (cy 0, 9, .inl (fun _ => 0)))]) (wr := [(vC, .inr (3, [.ref sS, .ref sJ, .int 0, .int 0])), (p4, .inl (cy 3, 8, .inr (.inr (.inr (.inr (fun k9 => if k9 < 8 then some (rn k9) else none)))))), ((rn 0), .inl (cy 1, 11, .inr (.inl (fun _ => 0)))), ((rn 1), .inl (cy 1, 11, .inr (.inl (fun _ => 0)))), ((rn 2), .inl (cy 1, 11, .inr (.inl (fun _ => 0)))), ((rn 3), .inl (cy 1, 11, .inr (.inl (fun _ => 0)))), ((rn 4), .inl (cy 1, 11, .inr (.inl (fun _ => 0)))), ((rn 5), .inl (cy 1, 11, .inr (.inl (fun _ => 0)))), ((rn 6), .inl (cy 1, 11, .inr (.inl (fun _ => 0)))), ((rn 7), .inl (cy 1, 11, .inr (.inl (fun _ => 0)))), (p5, .inl (cy 3, 9, .inr (.inr (.inr (.inr (fun k9 => if k9 < 9 then some (rt k9) else none)))))), ((rt 0), .inl (cy 1, 3, .inr (.inl (fun _ => 0)))), ((rt 1), .inl (cy 1, 3, .inr (.inl (fun _ => 0)))), ((rt 2), .inl (cy 1, 3, .inr (.inl (fun _ => 0)))), ((rt 3), .inl (cy 1, 3, .inr (.inl (fun _ => 0)))), ((rt 4), .inl (cy 1, 3, .inr (.inl (fun _ => 0)))), ((rt 5), .inl (cy 1, 3, .inr (.inl (fun _ => 0)))), ((rt 6), .inl (cy 1, 3, .inr (.inl (fun _ => 0)))), ((rt 7), .inl (cy 1, 3, .inr (.inl (fun _ => 0)))), ((rt 8), .inl (cy 1, 3, .inr (.inl (fun _ => 0))))]) (va_runV (As := [.int 1]) (rest := []) ⟨hx, hb, hml, hown, hts⟩ (k_giveRows1 l D cy h0 vC p1 p2 p3 p4 p5 p6 p7 p8 e1 e2 0 x2 x3 s.heap.size ) (cwV 1 hts (gzV (gz q105) q104 q106 q107 q87) rfl rfl rfl vX4_giveRows ⟨Nat.le_of_ble_eq_true rfl, Nat.le_of_ble_eq_true rfl⟩) (zpV (ci := 7) (T := TX4) (N := 14) (q0 := 0) hK hX hY hP hD hS hA [0, 2, 3] (by decide) rfl rfl rfl) rfl rfl hl.1 rfl (lv_room (Nat.le_of_ble_eq_true rfl)) dX4_weigh_2 ⟨Nat.le_of_ble_eq_true rfl, Nat.le_of_ble_eq_true rfl⟩) hP hD hS hA [0, 2, 3] [1, 4, 5, 6, 7, 8, 9, 10, 11, 12, 13, 14, 15, 16, 17, 18, 19, 20, 21, 22] rfl rfl (by decide) (by decide) (fun u1 H locs hw hP hD hS => ?_)
  have hP : va_P D vwCl [(vC, .inr (3, [.ref sS, .ref sJ, .int 0, .int 0])), (p4, .inl (cy 3, 8, .inr (.inr (.inr (.inr (fun k9 => if k9 < 8 then some (rn k9) else none)))))), ((rn 0), .inl (cy 1, 11, .inr (.inl (fun _ => 0)))), ((rn 1), .inl (cy 1, 11, .inr (.inl (fun _ => 0)))), ((rn 2), .inl (cy 1, 11, .inr (.inl (fun _ => 0)))), ((rn 3), .inl (cy 1, 11, .inr (.inl (fun _ => 0)))), ((rn 4), .inl (cy 1, 11, .inr (.inl (fun _ => 0)))), ((rn 5), .inl (cy 1, 11, .inr (.inl (fun _ => 0)))), ((rn 6), .inl (cy 1, 11, .inr (.inl (fun _ => 0)))), ((rn 7), .inl (cy 1, 11, .inr (.inl (fun _ => 0)))), (p5, .inl (cy 3, 9, .inr (.inr (.inr (.inr (fun k9 => if k9 < 9 then some (rt k9) else none)))))), ((rt 0), .inl (cy 1, 3, .inr (.inl (fun _ => 0)))), ((rt 1), .inl (cy 1, 3, .inr (.inl (fun _ => 0)))), ((rt 2), .inl (cy 1, 3, .inr (.inl (fun _ => 0)))), ((rt 3), .inl (cy 1, 3, .inr (.inl (fun _ => 0)))), ((rt 4), .inl (cy 1, 3, .inr (.inl (fun _ => 0)))), ((rt 5), .inl (cy 1, 3, .inr (.inl (fun _ => 0)))), ((rt 6), .inl (cy 1, 3, .inr (.inl (fun _ => 0)))), ((rt 7), .inl (cy 1, 3, .inr (.inl (fun _ => 0)))), ((rt 8), .inl (cy 1, 3, .inr (.inl (fun _ => 0)))), (h0, .inr (7, [.ref vC, .ref p1, .ref p2, .ref p3, .ref p4, .ref p5, .ref p6, .ref p7, .int e1, .long e2, .ref p8, .int 0, .int x2, .long x3])), (p2, .inl (cy 2, 9, .inl (fun _ => 0))), (p3, .inl (cy 0, 9, .inl (fun _ => (-1))))] H := hP
  have hD : va_D A [(vC, .inr (3, [.ref sS, .ref sJ, .int 0, .int 0])), (p4, .inl (cy 3, 8, .inr (.inr (.inr (.inr (fun k9 => if k9 < 8 then some (rn k9) else none)))))), ((rn 0), .inl (cy 1, 11, .inr (.inl (fun _ => 0)))), ((rn 1), .inl (cy 1, 11, .inr (.inl (fun _ => 0)))), ((rn 2), .inl (cy 1, 11, .inr (.inl (fun _ => 0)))), ((rn 3), .inl (cy 1, 11, .inr (.inl (fun _ => 0)))), ((rn 4), .inl (cy 1, 11, .inr (.inl (fun _ => 0)))), ((rn 5), .inl (cy 1, 11, .inr (.inl (fun _ => 0)))), ((rn 6), .inl (cy 1, 11, .inr (.inl (fun _ => 0)))), ((rn 7), .inl (cy 1, 11, .inr (.inl (fun _ => 0)))), (p5, .inl (cy 3, 9, .inr (.inr (.inr (.inr (fun k9 => if k9 < 9 then some (rt k9) else none)))))), ((rt 0), .inl (cy 1, 3, .inr (.inl (fun _ => 0)))), ((rt 1), .inl (cy 1, 3, .inr (.inl (fun _ => 0)))), ((rt 2), .inl (cy 1, 3, .inr (.inl (fun _ => 0)))), ((rt 3), .inl (cy 1, 3, .inr (.inl (fun _ => 0)))), ((rt 4), .inl (cy 1, 3, .inr (.inl (fun _ => 0)))), ((rt 5), .inl (cy 1, 3, .inr (.inl (fun _ => 0)))), ((rt 6), .inl (cy 1, 3, .inr (.inl (fun _ => 0)))), ((rt 7), .inl (cy 1, 3, .inr (.inl (fun _ => 0)))), ((rt 8), .inl (cy 1, 3, .inr (.inl (fun _ => 0)))), (h0, .inr (7, [.ref vC, .ref p1, .ref p2, .ref p3, .ref p4, .ref p5, .ref p6, .ref p7, .int e1, .long e2, .ref p8, .int 0, .int x2, .long x3])), (p2, .inl (cy 2, 9, .inl (fun _ => 0))), (p3, .inl (cy 0, 9, .inl (fun _ => (-1))))] := hD
  refine lv_aload_n hx hb dX4_weigh_5 rfl (lv_at hl 0 rfl) ?_
  refine zq_v (wc := [(h0, .inr (7, [.ref vC, .ref p1, .ref p2, .ref p3, .ref p4, .ref p5, .ref p6, .ref p7, .int e1, .long e2, .ref p8, .int 0, .int x2, .long x3])), (vC, .inr (3, [.ref sS, .ref sJ, .int 0, .int 0])), (p4, .inl (cy 3, 8, .inr (.inr (.inr (.inr (fun k9 => if k9 < 8 then some (rn k9) else none)))))), ((rn 0), .inl (cy 1, 11, .inr (.inl (fun _ => 0)))), ((rn 1), .inl (cy 1, 11, .inr (.inl (fun _ => 0)))), ((rn 2), .inl (cy 1, 11, .inr (.inl (fun _ => 0)))), ((rn 3), .inl (cy 1, 11, .inr (.inl (fun _ => 0)))), ((rn 4), .inl (cy 1, 11, .inr (.inl (fun _ => 0)))), ((rn 5), .inl (cy 1, 11, .inr (.inl (fun _ => 0)))), ((rn 6), .inl (cy 1, 11, .inr (.inl (fun _ => 0)))), ((rn 7), .inl (cy 1, 11, .inr (.inl (fun _ => 0))))]) (wr := [(p5, .inl (cy 3, 9, .inr (.inr (.inr (.inr (fun k9 => if k9 < 9 then some (rt k9) else none)))))), ((rt 0), .inl (cy 1, 3, .inr (.inl (fun _ => 0)))), ((rt 1), .inl (cy 1, 3, .inr (.inl (fun _ => 0)))), ((rt 2), .inl (cy 1, 3, .inr (.inl (fun _ => 0)))), ((rt 3), .inl (cy 1, 3, .inr (.inl (fun _ => 0)))), ((rt 4), .inl (cy 1, 3, .inr (.inl (fun _ => 0)))), ((rt 5), .inl (cy 1, 3, .inr (.inl (fun _ => 0)))), ((rt 6), .inl (cy 1, 3, .inr (.inl (fun _ => 0)))), ((rt 7), .inl (cy 1, 3, .inr (.inl (fun _ => 0)))), ((rt 8), .inl (cy 1, 3, .inr (.inl (fun _ => 0)))), (p2, .inl (cy 2, 9, .inl (fun _ => 0))), (p3, .inl (cy 0, 9, .inl (fun _ => (-1))))]) (va_runV (As := []) (rest := []) ⟨hx, hb, hml, hown, hts⟩ (k_fillNet l D cy h0 vC p1 p2 p3 p4 p5 p6 p7 p8 e1 e2 0 x2 x3 sS sJ rn H.size ) (cwV 0 hts (gzV (gz q109) q108 q110 q111 q87) rfl rfl rfl vX4_fillNet ⟨Nat.le_of_ble_eq_true rfl, Nat.le_of_ble_eq_true rfl⟩) (zpV (ci := 7) (T := TX4) (N := 14) (q0 := 0) hK hX hY hP hD hS hA [20, 0, 1, 2, 3, 4, 5, 6, 7, 8, 9] (by decide) rfl rfl rfl) rfl rfl hl.1 rfl (lv_room (Nat.le_of_ble_eq_true rfl)) dX4_weigh_6 ⟨Nat.le_of_ble_eq_true rfl, Nat.le_of_ble_eq_true rfl⟩) hP hD hS hA [20, 0, 1, 2, 3, 4, 5, 6, 7, 8, 9] [10, 11, 12, 13, 14, 15, 16, 17, 18, 19, 21, 22] rfl rfl (by decide) (by decide) (fun u3 H locs hw hP hD hS => ?_)
  have hP : va_P D vwCl [(p5, .inl (cy 3, 9, .inr (.inr (.inr (.inr (fun k9 => if k9 < 9 then some (rt k9) else none)))))), ((rt 0), .inl (cy 1, 3, .inr (.inl (fun _ => 0)))), ((rt 1), .inl (cy 1, 3, .inr (.inl (fun _ => 0)))), ((rt 2), .inl (cy 1, 3, .inr (.inl (fun _ => 0)))), ((rt 3), .inl (cy 1, 3, .inr (.inl (fun _ => 0)))), ((rt 4), .inl (cy 1, 3, .inr (.inl (fun _ => 0)))), ((rt 5), .inl (cy 1, 3, .inr (.inl (fun _ => 0)))), ((rt 6), .inl (cy 1, 3, .inr (.inl (fun _ => 0)))), ((rt 7), .inl (cy 1, 3, .inr (.inl (fun _ => 0)))), ((rt 8), .inl (cy 1, 3, .inr (.inl (fun _ => 0)))), (p2, .inl (cy 2, 9, .inl (fun _ => 0))), (p3, .inl (cy 0, 9, .inl (fun _ => (-1)))), (h0, .inr (7, [.ref vC, .ref p1, .ref p2, .ref p3, .ref p4, .ref p5, .ref p6, .ref p7, .int e1, .long e2, .ref p8, .int 0, .int x2, .long x3])), (vC, .inr (3, [.ref sS, .ref sJ, .int 0, .int 0])), (p4, .inl (cy 3, 8, .inr (.inr (.inr (.inr (fun k9 => if k9 < 8 then some (rn k9) else none)))))), ((rn 0), .inl (cy 1, 11, .inr (.inl (fun _ => 0)))), ((rn 1), .inl (cy 1, 11, .inr (.inl (fun _ => 0)))), ((rn 2), .inl (cy 1, 11, .inr (.inl (fun _ => 0)))), ((rn 3), .inl (cy 1, 11, .inr (.inl (fun _ => 0)))), ((rn 4), .inl (cy 1, 11, .inr (.inl (fun _ => 0)))), ((rn 5), .inl (cy 1, 11, .inr (.inl (fun _ => 0)))), ((rn 6), .inl (cy 1, 11, .inr (.inl (fun _ => 0)))), ((rn 7), .inl (cy 1, 11, .inr (.inl (fun _ => 0))))] H := hP
  have hD : va_D A [(p5, .inl (cy 3, 9, .inr (.inr (.inr (.inr (fun k9 => if k9 < 9 then some (rt k9) else none)))))), ((rt 0), .inl (cy 1, 3, .inr (.inl (fun _ => 0)))), ((rt 1), .inl (cy 1, 3, .inr (.inl (fun _ => 0)))), ((rt 2), .inl (cy 1, 3, .inr (.inl (fun _ => 0)))), ((rt 3), .inl (cy 1, 3, .inr (.inl (fun _ => 0)))), ((rt 4), .inl (cy 1, 3, .inr (.inl (fun _ => 0)))), ((rt 5), .inl (cy 1, 3, .inr (.inl (fun _ => 0)))), ((rt 6), .inl (cy 1, 3, .inr (.inl (fun _ => 0)))), ((rt 7), .inl (cy 1, 3, .inr (.inl (fun _ => 0)))), ((rt 8), .inl (cy 1, 3, .inr (.inl (fun _ => 0)))), (p2, .inl (cy 2, 9, .inl (fun _ => 0))), (p3, .inl (cy 0, 9, .inl (fun _ => (-1)))), (h0, .inr (7, [.ref vC, .ref p1, .ref p2, .ref p3, .ref p4, .ref p5, .ref p6, .ref p7, .int e1, .long e2, .ref p8, .int 0, .int x2, .long x3])), (vC, .inr (3, [.ref sS, .ref sJ, .int 0, .int 0])), (p4, .inl (cy 3, 8, .inr (.inr (.inr (.inr (fun k9 => if k9 < 8 then some (rn k9) else none)))))), ((rn 0), .inl (cy 1, 11, .inr (.inl (fun _ => 0)))), ((rn 1), .inl (cy 1, 11, .inr (.inl (fun _ => 0)))), ((rn 2), .inl (cy 1, 11, .inr (.inl (fun _ => 0)))), ((rn 3), .inl (cy 1, 11, .inr (.inl (fun _ => 0)))), ((rn 4), .inl (cy 1, 11, .inr (.inl (fun _ => 0)))), ((rn 5), .inl (cy 1, 11, .inr (.inl (fun _ => 0)))), ((rn 6), .inl (cy 1, 11, .inr (.inl (fun _ => 0)))), ((rn 7), .inl (cy 1, 11, .inr (.inl (fun _ => 0))))] := hD
  refine lv_aload_n hx hb dX4_weigh_9 rfl (lv_at hl 0 rfl) ?_
  refine zq_v (wc := [(h0, .inr (7, [.ref vC, .ref p1, .ref p2, .ref p3, .ref p4, .ref p5, .ref p6, .ref p7, .int e1, .long e2, .ref p8, .int 0, .int x2, .long x3]))]) (wr := [(p5, .inl (cy 3, 9, .inr (.inr (.inr (.inr (fun k9 => if k9 < 9 then some (rt k9) else none)))))), ((rt 0), .inl (cy 1, 3, .inr (.inl (fun _ => 0)))), ((rt 1), .inl (cy 1, 3, .inr (.inl (fun _ => 0)))), ((rt 2), .inl (cy 1, 3, .inr (.inl (fun _ => 0)))), ((rt 3), .inl (cy 1, 3, .inr (.inl (fun _ => 0)))), ((rt 4), .inl (cy 1, 3, .inr (.inl (fun _ => 0)))), ((rt 5), .inl (cy 1, 3, .inr (.inl (fun _ => 0)))), ((rt 6), .inl (cy 1, 3, .inr (.inl (fun _ => 0)))), ((rt 7), .inl (cy 1, 3, .inr (.inl (fun _ => 0)))), ((rt 8), .inl (cy 1, 3, .inr (.inl (fun _ => 0)))), (p2, .inl (cy 2, 9, .inl (fun _ => 0))), (p3, .inl (cy 0, 9, .inl (fun _ => (-1)))), (vC, .inr (3, [.ref sS, .ref sJ, .int 0, .int 0])), (p4, .inl (cy 3, 8, .inr (.inr (.inr (.inr (fun k9 => if k9 < 8 then some (rn k9) else none)))))), ((rn 0), .inl (cy 1, 11, .inr (.inl (fun _ => 0)))), ((rn 1), .inl (cy 1, 11, .inr (.inl (fun _ => 0)))), ((rn 2), .inl (cy 1, 11, .inr (.inl (fun _ => 0)))), ((rn 3), .inl (cy 1, 11, .inr (.inl (fun _ => 0)))), ((rn 4), .inl (cy 1, 11, .inr (.inl (fun _ => 0)))), ((rn 5), .inl (cy 1, 11, .inr (.inl (fun _ => 0)))), ((rn 6), .inl (cy 1, 11, .inr (.inl (fun _ => 0)))), ((rn 7), .inl (cy 1, 11, .inr (.inl (fun _ => 0))))]) (va_runV (As := []) (rest := []) ⟨hx, hb, hml, hown, hts⟩ (k_eliminate l D cy h0 vC p1 p2 p3 p4 p5 p6 p7 p8 e1 e2 x2 x3 H.size ) (cwV 0 hts (gzV (gz q113) q112 q114 q115 q87) rfl rfl rfl vX4_eliminate ⟨Nat.le_of_ble_eq_true rfl, Nat.le_of_ble_eq_true rfl⟩) (zpV (ci := 7) (T := TX4) (N := 14) (q0 := 0) hK hX hY hP hD hS hA [12] (by decide) rfl rfl rfl) rfl rfl hl.1 rfl (lv_room (Nat.le_of_ble_eq_true rfl)) dX4_weigh_10 ⟨Nat.le_of_ble_eq_true rfl, Nat.le_of_ble_eq_true rfl⟩) hP hD hS hA [12] [0, 1, 2, 3, 4, 5, 6, 7, 8, 9, 10, 11, 13, 14, 15, 16, 17, 18, 19, 20, 21, 22] rfl rfl (by decide) (by decide) (fun u5 H locs hw hP hD hS => ?_)
  have hP : va_P D vwCl [(p5, .inl (cy 3, 9, .inr (.inr (.inr (.inr (fun k9 => if k9 < 9 then some (rt k9) else none)))))), ((rt 0), .inl (cy 1, 3, .inr (.inl (fun _ => 0)))), ((rt 1), .inl (cy 1, 3, .inr (.inl (fun _ => 0)))), ((rt 2), .inl (cy 1, 3, .inr (.inl (fun _ => 0)))), ((rt 3), .inl (cy 1, 3, .inr (.inl (fun _ => 0)))), ((rt 4), .inl (cy 1, 3, .inr (.inl (fun _ => 0)))), ((rt 5), .inl (cy 1, 3, .inr (.inl (fun _ => 0)))), ((rt 6), .inl (cy 1, 3, .inr (.inl (fun _ => 0)))), ((rt 7), .inl (cy 1, 3, .inr (.inl (fun _ => 0)))), ((rt 8), .inl (cy 1, 3, .inr (.inl (fun _ => 0)))), (p2, .inl (cy 2, 9, .inl (fun _ => 0))), (p3, .inl (cy 0, 9, .inl (fun _ => (-1)))), (vC, .inr (3, [.ref sS, .ref sJ, .int 0, .int 0])), (p4, .inl (cy 3, 8, .inr (.inr (.inr (.inr (fun k9 => if k9 < 8 then some (rn k9) else none)))))), ((rn 0), .inl (cy 1, 11, .inr (.inl (fun _ => 0)))), ((rn 1), .inl (cy 1, 11, .inr (.inl (fun _ => 0)))), ((rn 2), .inl (cy 1, 11, .inr (.inl (fun _ => 0)))), ((rn 3), .inl (cy 1, 11, .inr (.inl (fun _ => 0)))), ((rn 4), .inl (cy 1, 11, .inr (.inl (fun _ => 0)))), ((rn 5), .inl (cy 1, 11, .inr (.inl (fun _ => 0)))), ((rn 6), .inl (cy 1, 11, .inr (.inl (fun _ => 0)))), ((rn 7), .inl (cy 1, 11, .inr (.inl (fun _ => 0)))), (h0, .inr (7, [.ref vC, .ref p1, .ref p2, .ref p3, .ref p4, .ref p5, .ref p6, .ref p7, .int e1, .long e2, .ref p8, .int 0, .int x2, .long 1]))] H := hP
  have hD : va_D A [(p5, .inl (cy 3, 9, .inr (.inr (.inr (.inr (fun k9 => if k9 < 9 then some (rt k9) else none)))))), ((rt 0), .inl (cy 1, 3, .inr (.inl (fun _ => 0)))), ((rt 1), .inl (cy 1, 3, .inr (.inl (fun _ => 0)))), ((rt 2), .inl (cy 1, 3, .inr (.inl (fun _ => 0)))), ((rt 3), .inl (cy 1, 3, .inr (.inl (fun _ => 0)))), ((rt 4), .inl (cy 1, 3, .inr (.inl (fun _ => 0)))), ((rt 5), .inl (cy 1, 3, .inr (.inl (fun _ => 0)))), ((rt 6), .inl (cy 1, 3, .inr (.inl (fun _ => 0)))), ((rt 7), .inl (cy 1, 3, .inr (.inl (fun _ => 0)))), ((rt 8), .inl (cy 1, 3, .inr (.inl (fun _ => 0)))), (p2, .inl (cy 2, 9, .inl (fun _ => 0))), (p3, .inl (cy 0, 9, .inl (fun _ => (-1)))), (vC, .inr (3, [.ref sS, .ref sJ, .int 0, .int 0])), (p4, .inl (cy 3, 8, .inr (.inr (.inr (.inr (fun k9 => if k9 < 8 then some (rn k9) else none)))))), ((rn 0), .inl (cy 1, 11, .inr (.inl (fun _ => 0)))), ((rn 1), .inl (cy 1, 11, .inr (.inl (fun _ => 0)))), ((rn 2), .inl (cy 1, 11, .inr (.inl (fun _ => 0)))), ((rn 3), .inl (cy 1, 11, .inr (.inl (fun _ => 0)))), ((rn 4), .inl (cy 1, 11, .inr (.inl (fun _ => 0)))), ((rn 5), .inl (cy 1, 11, .inr (.inl (fun _ => 0)))), ((rn 6), .inl (cy 1, 11, .inr (.inl (fun _ => 0)))), ((rn 7), .inl (cy 1, 11, .inr (.inl (fun _ => 0)))), (h0, .inr (7, [.ref vC, .ref p1, .ref p2, .ref p3, .ref p4, .ref p5, .ref p6, .ref p7, .int e1, .long e2, .ref p8, .int 0, .int x2, .long 1]))] := hD
  refine lv_iconst (v := 0) hx hb dX4_weigh_13 (by decide) ?_
  refine lv_istore_n (lv' := [(2, .int 0), (0, .ref h0), (1, .int 1)]) hx hb dX4_weigh_14 rfl hl (by decide) rfl (fun ls hl => ?_)
  refine lv_iload_n hx hb dX4_weigh_15 rfl (lv_at hl 0 rfl) ?_
  refine lv_bipush (v := 9) hx hb dX4_weigh_16 (by decide) ?_
  refine lv_icmp_ge (tgt := 78) hx hb dX4_weigh_18 (by decide) (fun c_18_6 => absurd c_18_6 (by decide +kernel)) (fun _ => ?_)
  refine lv_iconst (v := 0) hx hb dX4_weigh_21 (by decide) ?_
  refine lv_istore_n (lv' := [(3, .int 0), (2, .int 0), (0, .ref h0), (1, .int 1)]) hx hb dX4_weigh_22 rfl hl (by decide) rfl (fun ls hl => ?_)
  refine lv_iload_n hx hb dX4_weigh_23 rfl (lv_at hl 0 rfl) ?_
  refine lv_iconst (v := 3) hx hb dX4_weigh_24 (by decide) ?_
  refine lv_icmp_ge (tgt := 72) hx hb dX4_weigh_25 (by decide) (fun c_25_7 => absurd c_25_7 (by decide +kernel)) (fun _ => ?_)
  refine lv_aload_n hx hb dX4_weigh_28 rfl (lv_at hl 2 rfl) ?_
  refine va_get (D := D) (ci := 7) (v := .ref p5) (C := RX4) (T := TX4) (N := 14) hx hb hts iRX4 hown hK hP 22 rfl rfl 5 (by decide) (hts _ q43) (fun _ h9 => h9) rfl dX4_weigh_29 ?_
  refine lv_iload_n hx hb dX4_weigh_32 rfl (lv_at hl 1 rfl) ?_
  refine va_aldA hx hb hK hP 0 3 rfl rfl (z_in 0 (by decide) (by decide)) dX4_weigh_33 ?_
  rw [show va_rf ((fun k9 => if k9 < 9 then some (rt k9) else none) (0 : Int32).toNatClampNeg) = .ref (rt 0) from rfl]
  refine lv_iload_n hx hb dX4_weigh_34 rfl (lv_at hl 0 rfl) ?_
  refine lv_aload_n hx hb dX4_weigh_35 rfl (lv_at hl 2 rfl) ?_
  refine va_get (D := D) (ci := 7) (v := .ref p3) (C := RX4) (T := TX4) (N := 14) hx hb hts iRX4 hown hK hP 22 rfl rfl 3 (by decide) (hts _ q39) (fun _ h9 => h9) rfl dX4_weigh_36 ?_
  refine lv_iload_n hx hb dX4_weigh_39 rfl (lv_at hl 1 rfl) ?_
  refine va_iald hx hb hK hP 11 0 rfl rfl (z_in 0 (by decide) (by decide)) dX4_weigh_40 ?_
  refine lv_topi (fun y9 ey9 => ?_)
  obtain rfl : y9 = (-1) := ey9.trans rfl
  refine lv_iconst (v := (-1)) hx hb dX4_weigh_41 (by decide) ?_
  refine lv_icmp_ne (tgt := 49) hx hb dX4_weigh_42 (by decide) (fun c_42_9 => absurd (by decide +kernel) c_42_9) (fun _ => ?_)
  refine lv_lconst (v := 0) hx hb dX4_weigh_45 rfl ?_
  refine lv_goto (tgt := 65) hx hb dX4_weigh_46 (by decide) ?_
  refine va_last hx hb hK hP hD hS 1 1 rfl rfl (z_in 0 (by decide) (by decide)) dX4_weigh_65 (fun H locs hP hD hS => ?_)
  have hP : va_P D vwCl [(p5, .inl (cy 3, 9, .inr (.inr (.inr (.inr (fun k9 => if k9 < 9 then some (rt k9) else none)))))), ((rt 0), .inl (cy 1, 3, .inr (.inl (vp_updL (fun _ => 0) (0 : Int32).toNatClampNeg 0)))), ((rt 1), .inl (cy 1, 3, .inr (.inl (fun _ => 0)))), ((rt 2), .inl (cy 1, 3, .inr (.inl (fun _ => 0)))), ((rt 3), .inl (cy 1, 3, .inr (.inl (fun _ => 0)))), ((rt 4), .inl (cy 1, 3, .inr (.inl (fun _ => 0)))), ((rt 5), .inl (cy 1, 3, .inr (.inl (fun _ => 0)))), ((rt 6), .inl (cy 1, 3, .inr (.inl (fun _ => 0)))), ((rt 7), .inl (cy 1, 3, .inr (.inl (fun _ => 0)))), ((rt 8), .inl (cy 1, 3, .inr (.inl (fun _ => 0)))), (p2, .inl (cy 2, 9, .inl (fun _ => 0))), (p3, .inl (cy 0, 9, .inl (fun _ => (-1)))), (vC, .inr (3, [.ref sS, .ref sJ, .int 0, .int 0])), (p4, .inl (cy 3, 8, .inr (.inr (.inr (.inr (fun k9 => if k9 < 8 then some (rn k9) else none)))))), ((rn 0), .inl (cy 1, 11, .inr (.inl (fun _ => 0)))), ((rn 1), .inl (cy 1, 11, .inr (.inl (fun _ => 0)))), ((rn 2), .inl (cy 1, 11, .inr (.inl (fun _ => 0)))), ((rn 3), .inl (cy 1, 11, .inr (.inl (fun _ => 0)))), ((rn 4), .inl (cy 1, 11, .inr (.inl (fun _ => 0)))), ((rn 5), .inl (cy 1, 11, .inr (.inl (fun _ => 0)))), ((rn 6), .inl (cy 1, 11, .inr (.inl (fun _ => 0)))), ((rn 7), .inl (cy 1, 11, .inr (.inl (fun _ => 0)))), (h0, .inr (7, [.ref vC, .ref p1, .ref p2, .ref p3, .ref p4, .ref p5, .ref p6, .ref p7, .int e1, .long e2, .ref p8, .int 0, .int x2, .long 1]))] H := hP
  have hD : va_D A [(p5, .inl (cy 3, 9, .inr (.inr (.inr (.inr (fun k9 => if k9 < 9 then some (rt k9) else none)))))), ((rt 0), .inl (cy 1, 3, .inr (.inl (vp_updL (fun _ => 0) (0 : Int32).toNatClampNeg 0)))), ((rt 1), .inl (cy 1, 3, .inr (.inl (fun _ => 0)))), ((rt 2), .inl (cy 1, 3, .inr (.inl (fun _ => 0)))), ((rt 3), .inl (cy 1, 3, .inr (.inl (fun _ => 0)))), ((rt 4), .inl (cy 1, 3, .inr (.inl (fun _ => 0)))), ((rt 5), .inl (cy 1, 3, .inr (.inl (fun _ => 0)))), ((rt 6), .inl (cy 1, 3, .inr (.inl (fun _ => 0)))), ((rt 7), .inl (cy 1, 3, .inr (.inl (fun _ => 0)))), ((rt 8), .inl (cy 1, 3, .inr (.inl (fun _ => 0)))), (p2, .inl (cy 2, 9, .inl (fun _ => 0))), (p3, .inl (cy 0, 9, .inl (fun _ => (-1)))), (vC, .inr (3, [.ref sS, .ref sJ, .int 0, .int 0])), (p4, .inl (cy 3, 8, .inr (.inr (.inr (.inr (fun k9 => if k9 < 8 then some (rn k9) else none)))))), ((rn 0), .inl (cy 1, 11, .inr (.inl (fun _ => 0)))), ((rn 1), .inl (cy 1, 11, .inr (.inl (fun _ => 0)))), ((rn 2), .inl (cy 1, 11, .inr (.inl (fun _ => 0)))), ((rn 3), .inl (cy 1, 11, .inr (.inl (fun _ => 0)))), ((rn 4), .inl (cy 1, 11, .inr (.inl (fun _ => 0)))), ((rn 5), .inl (cy 1, 11, .inr (.inl (fun _ => 0)))), ((rn 6), .inl (cy 1, 11, .inr (.inl (fun _ => 0)))), ((rn 7), .inl (cy 1, 11, .inr (.inl (fun _ => 0)))), (h0, .inr (7, [.ref vC, .ref p1, .ref p2, .ref p3, .ref p4, .ref p5, .ref p6, .ref p7, .int e1, .long e2, .ref p8, .int 0, .int x2, .long 1]))] := hD
  refine lv_iinc (v := 1) (lv' := [(3, .int 1), (2, .int 0), (0, .ref h0), (1, .int 1)]) hx hb dX4_weigh_66 hl (k := 0) rfl (by decide) (by decide) rfl (fun ls hl => ?_)
  refine lv_goto (tgt := 23) hx hb dX4_weigh_69 (by decide) ?_
  refine lv_iload_n hx hb dX4_weigh_23 rfl (lv_at hl 0 rfl) ?_
  refine lv_iconst (v := 3) hx hb dX4_weigh_24 (by decide) ?_
  refine lv_icmp_ge (tgt := 72) hx hb dX4_weigh_25 (by decide) (fun c_25_10 => absurd c_25_10 (by decide +kernel)) (fun _ => ?_)
  refine lv_aload_n hx hb dX4_weigh_28 rfl (lv_at hl 2 rfl) ?_
  refine va_get (D := D) (ci := 7) (v := .ref p5) (C := RX4) (T := TX4) (N := 14) hx hb hts iRX4 hown hK hP 22 rfl rfl 5 (by decide) (hts _ q43) (fun _ h9 => h9) rfl dX4_weigh_29 ?_
  refine lv_iload_n hx hb dX4_weigh_32 rfl (lv_at hl 1 rfl) ?_
  refine va_aldA hx hb hK hP 0 3 rfl rfl (z_in 0 (by decide) (by decide)) dX4_weigh_33 ?_
  rw [show va_rf ((fun k9 => if k9 < 9 then some (rt k9) else none) (0 : Int32).toNatClampNeg) = .ref (rt 0) from rfl]
  refine lv_iload_n hx hb dX4_weigh_34 rfl (lv_at hl 0 rfl) ?_
  refine lv_aload_n hx hb dX4_weigh_35 rfl (lv_at hl 2 rfl) ?_
  refine va_get (D := D) (ci := 7) (v := .ref p3) (C := RX4) (T := TX4) (N := 14) hx hb hts iRX4 hown hK hP 22 rfl rfl 3 (by decide) (hts _ q39) (fun _ h9 => h9) rfl dX4_weigh_36 ?_
  refine lv_iload_n hx hb dX4_weigh_39 rfl (lv_at hl 1 rfl) ?_
  refine va_iald hx hb hK hP 11 0 rfl rfl (z_in 0 (by decide) (by decide)) dX4_weigh_40 ?_
  refine lv_topi (fun y12 ey12 => ?_)
  obtain rfl : y12 = (-1) := ey12.trans rfl
  refine lv_iconst (v := (-1)) hx hb dX4_weigh_41 (by decide) ?_
  refine lv_icmp_ne (tgt := 49) hx hb dX4_weigh_42 (by decide) (fun c_42_12 => absurd (by decide +kernel) c_42_12) (fun _ => ?_)
  refine lv_lconst (v := 0) hx hb dX4_weigh_45 rfl ?_
  refine lv_goto (tgt := 65) hx hb dX4_weigh_46 (by decide) ?_
  refine va_last hx hb hK hP hD hS 1 1 rfl rfl (z_in 1 (by decide) (by decide)) dX4_weigh_65 (fun H locs hP hD hS => ?_)
  have hP : va_P D vwCl [(p5, .inl (cy 3, 9, .inr (.inr (.inr (.inr (fun k9 => if k9 < 9 then some (rt k9) else none)))))), ((rt 0), .inl (cy 1, 3, .inr (.inl (vp_updL (vp_updL (fun _ => 0) (0 : Int32).toNatClampNeg 0) (1 : Int32).toNatClampNeg 0)))), ((rt 1), .inl (cy 1, 3, .inr (.inl (fun _ => 0)))), ((rt 2), .inl (cy 1, 3, .inr (.inl (fun _ => 0)))), ((rt 3), .inl (cy 1, 3, .inr (.inl (fun _ => 0)))), ((rt 4), .inl (cy 1, 3, .inr (.inl (fun _ => 0)))), ((rt 5), .inl (cy 1, 3, .inr (.inl (fun _ => 0)))), ((rt 6), .inl (cy 1, 3, .inr (.inl (fun _ => 0)))), ((rt 7), .inl (cy 1, 3, .inr (.inl (fun _ => 0)))), ((rt 8), .inl (cy 1, 3, .inr (.inl (fun _ => 0)))), (p2, .inl (cy 2, 9, .inl (fun _ => 0))), (p3, .inl (cy 0, 9, .inl (fun _ => (-1)))), (vC, .inr (3, [.ref sS, .ref sJ, .int 0, .int 0])), (p4, .inl (cy 3, 8, .inr (.inr (.inr (.inr (fun k9 => if k9 < 8 then some (rn k9) else none)))))), ((rn 0), .inl (cy 1, 11, .inr (.inl (fun _ => 0)))), ((rn 1), .inl (cy 1, 11, .inr (.inl (fun _ => 0)))), ((rn 2), .inl (cy 1, 11, .inr (.inl (fun _ => 0)))), ((rn 3), .inl (cy 1, 11, .inr (.inl (fun _ => 0)))), ((rn 4), .inl (cy 1, 11, .inr (.inl (fun _ => 0)))), ((rn 5), .inl (cy 1, 11, .inr (.inl (fun _ => 0)))), ((rn 6), .inl (cy 1, 11, .inr (.inl (fun _ => 0)))), ((rn 7), .inl (cy 1, 11, .inr (.inl (fun _ => 0)))), (h0, .inr (7, [.ref vC, .ref p1, .ref p2, .ref p3, .ref p4, .ref p5, .ref p6, .ref p7, .int e1, .long e2, .ref p8, .int 0, .int x2, .long 1]))] H := hP
  have hD : va_D A [(p5, .inl (cy 3, 9, .inr (.inr (.inr (.inr (fun k9 => if k9 < 9 then some (rt k9) else none)))))), ((rt 0), .inl (cy 1, 3, .inr (.inl (vp_updL (vp_updL (fun _ => 0) (0 : Int32).toNatClampNeg 0) (1 : Int32).toNatClampNeg 0)))), ((rt 1), .inl (cy 1, 3, .inr (.inl (fun _ => 0)))), ((rt 2), .inl (cy 1, 3, .inr (.inl (fun _ => 0)))), ((rt 3), .inl (cy 1, 3, .inr (.inl (fun _ => 0)))), ((rt 4), .inl (cy 1, 3, .inr (.inl (fun _ => 0)))), ((rt 5), .inl (cy 1, 3, .inr (.inl (fun _ => 0)))), ((rt 6), .inl (cy 1, 3, .inr (.inl (fun _ => 0)))), ((rt 7), .inl (cy 1, 3, .inr (.inl (fun _ => 0)))), ((rt 8), .inl (cy 1, 3, .inr (.inl (fun _ => 0)))), (p2, .inl (cy 2, 9, .inl (fun _ => 0))), (p3, .inl (cy 0, 9, .inl (fun _ => (-1)))), (vC, .inr (3, [.ref sS, .ref sJ, .int 0, .int 0])), (p4, .inl (cy 3, 8, .inr (.inr (.inr (.inr (fun k9 => if k9 < 8 then some (rn k9) else none)))))), ((rn 0), .inl (cy 1, 11, .inr (.inl (fun _ => 0)))), ((rn 1), .inl (cy 1, 11, .inr (.inl (fun _ => 0)))), ((rn 2), .inl (cy 1, 11, .inr (.inl (fun _ => 0)))), ((rn 3), .inl (cy 1, 11, .inr (.inl (fun _ => 0)))), ((rn 4), .inl (cy 1, 11, .inr (.inl (fun _ => 0)))), ((rn 5), .inl (cy 1, 11, .inr (.inl (fun _ => 0)))), ((rn 6), .inl (cy 1, 11, .inr (.inl (fun _ => 0)))), ((rn 7), .inl (cy 1, 11, .inr (.inl (fun _ => 0)))), (h0, .inr (7, [.ref vC, .ref p1, .ref p2, .ref p3, .ref p4, .ref p5, .ref p6, .ref p7, .int e1, .long e2, .ref p8, .int 0, .int x2, .long 1]))] := hD
  refine lv_iinc (v := 2) (lv' := [(3, .int 2), (2, .int 0), (0, .ref h0), (1, .int 1)]) hx hb dX4_weigh_66 hl (k := 0) rfl (by decide) (by decide) rfl (fun ls hl => ?_)
  refine lv_goto (tgt := 23) hx hb dX4_weigh_69 (by decide) ?_
  refine lv_iload_n hx hb dX4_weigh_23 rfl (lv_at hl 0 rfl) ?_
  refine lv_iconst (v := 3) hx hb dX4_weigh_24 (by decide) ?_
  refine lv_icmp_ge (tgt := 72) hx hb dX4_weigh_25 (by decide) (fun c_25_13 => absurd c_25_13 (by decide +kernel)) (fun _ => ?_)
  refine lv_aload_n hx hb dX4_weigh_28 rfl (lv_at hl 2 rfl) ?_
  refine va_get (D := D) (ci := 7) (v := .ref p5) (C := RX4) (T := TX4) (N := 14) hx hb hts iRX4 hown hK hP 22 rfl rfl 5 (by decide) (hts _ q43) (fun _ h9 => h9) rfl dX4_weigh_29 ?_
  refine lv_iload_n hx hb dX4_weigh_32 rfl (lv_at hl 1 rfl) ?_
  refine va_aldA hx hb hK hP 0 3 rfl rfl (z_in 0 (by decide) (by decide)) dX4_weigh_33 ?_
  rw [show va_rf ((fun k9 => if k9 < 9 then some (rt k9) else none) (0 : Int32).toNatClampNeg) = .ref (rt 0) from rfl]
  refine lv_iload_n hx hb dX4_weigh_34 rfl (lv_at hl 0 rfl) ?_
  refine lv_aload_n hx hb dX4_weigh_35 rfl (lv_at hl 2 rfl) ?_
  refine va_get (D := D) (ci := 7) (v := .ref p3) (C := RX4) (T := TX4) (N := 14) hx hb hts iRX4 hown hK hP 22 rfl rfl 3 (by decide) (hts _ q39) (fun _ h9 => h9) rfl dX4_weigh_36 ?_
  refine lv_iload_n hx hb dX4_weigh_39 rfl (lv_at hl 1 rfl) ?_
  refine va_iald hx hb hK hP 11 0 rfl rfl (z_in 0 (by decide) (by decide)) dX4_weigh_40 ?_
  refine lv_topi (fun y15 ey15 => ?_)
  obtain rfl : y15 = (-1) := ey15.trans rfl
  refine lv_iconst (v := (-1)) hx hb dX4_weigh_41 (by decide) ?_
  refine lv_icmp_ne (tgt := 49) hx hb dX4_weigh_42 (by decide) (fun c_42_15 => absurd (by decide +kernel) c_42_15) (fun _ => ?_)
  refine lv_lconst (v := 0) hx hb dX4_weigh_45 rfl ?_
  refine lv_goto (tgt := 65) hx hb dX4_weigh_46 (by decide) ?_
  refine va_last hx hb hK hP hD hS 1 1 rfl rfl (z_in 2 (by decide) (by decide)) dX4_weigh_65 (fun H locs hP hD hS => ?_)
  have hP : va_P D vwCl [(p5, .inl (cy 3, 9, .inr (.inr (.inr (.inr (fun k9 => if k9 < 9 then some (rt k9) else none)))))), ((rt 0), .inl (cy 1, 3, .inr (.inl (vp_updL (vp_updL (vp_updL (fun _ => 0) (0 : Int32).toNatClampNeg 0) (1 : Int32).toNatClampNeg 0) (2 : Int32).toNatClampNeg 0)))), ((rt 1), .inl (cy 1, 3, .inr (.inl (fun _ => 0)))), ((rt 2), .inl (cy 1, 3, .inr (.inl (fun _ => 0)))), ((rt 3), .inl (cy 1, 3, .inr (.inl (fun _ => 0)))), ((rt 4), .inl (cy 1, 3, .inr (.inl (fun _ => 0)))), ((rt 5), .inl (cy 1, 3, .inr (.inl (fun _ => 0)))), ((rt 6), .inl (cy 1, 3, .inr (.inl (fun _ => 0)))), ((rt 7), .inl (cy 1, 3, .inr (.inl (fun _ => 0)))), ((rt 8), .inl (cy 1, 3, .inr (.inl (fun _ => 0)))), (p2, .inl (cy 2, 9, .inl (fun _ => 0))), (p3, .inl (cy 0, 9, .inl (fun _ => (-1)))), (vC, .inr (3, [.ref sS, .ref sJ, .int 0, .int 0])), (p4, .inl (cy 3, 8, .inr (.inr (.inr (.inr (fun k9 => if k9 < 8 then some (rn k9) else none)))))), ((rn 0), .inl (cy 1, 11, .inr (.inl (fun _ => 0)))), ((rn 1), .inl (cy 1, 11, .inr (.inl (fun _ => 0)))), ((rn 2), .inl (cy 1, 11, .inr (.inl (fun _ => 0)))), ((rn 3), .inl (cy 1, 11, .inr (.inl (fun _ => 0)))), ((rn 4), .inl (cy 1, 11, .inr (.inl (fun _ => 0)))), ((rn 5), .inl (cy 1, 11, .inr (.inl (fun _ => 0)))), ((rn 6), .inl (cy 1, 11, .inr (.inl (fun _ => 0)))), ((rn 7), .inl (cy 1, 11, .inr (.inl (fun _ => 0)))), (h0, .inr (7, [.ref vC, .ref p1, .ref p2, .ref p3, .ref p4, .ref p5, .ref p6, .ref p7, .int e1, .long e2, .ref p8, .int 0, .int x2, .long 1]))] H := hP
  have hD : va_D A [(p5, .inl (cy 3, 9, .inr (.inr (.inr (.inr (fun k9 => if k9 < 9 then some (rt k9) else none)))))), ((rt 0), .inl (cy 1, 3, .inr (.inl (vp_updL (vp_updL (vp_updL (fun _ => 0) (0 : Int32).toNatClampNeg 0) (1 : Int32).toNatClampNeg 0) (2 : Int32).toNatClampNeg 0)))), ((rt 1), .inl (cy 1, 3, .inr (.inl (fun _ => 0)))), ((rt 2), .inl (cy 1, 3, .inr (.inl (fun _ => 0)))), ((rt 3), .inl (cy 1, 3, .inr (.inl (fun _ => 0)))), ((rt 4), .inl (cy 1, 3, .inr (.inl (fun _ => 0)))), ((rt 5), .inl (cy 1, 3, .inr (.inl (fun _ => 0)))), ((rt 6), .inl (cy 1, 3, .inr (.inl (fun _ => 0)))), ((rt 7), .inl (cy 1, 3, .inr (.inl (fun _ => 0)))), ((rt 8), .inl (cy 1, 3, .inr (.inl (fun _ => 0)))), (p2, .inl (cy 2, 9, .inl (fun _ => 0))), (p3, .inl (cy 0, 9, .inl (fun _ => (-1)))), (vC, .inr (3, [.ref sS, .ref sJ, .int 0, .int 0])), (p4, .inl (cy 3, 8, .inr (.inr (.inr (.inr (fun k9 => if k9 < 8 then some (rn k9) else none)))))), ((rn 0), .inl (cy 1, 11, .inr (.inl (fun _ => 0)))), ((rn 1), .inl (cy 1, 11, .inr (.inl (fun _ => 0)))), ((rn 2), .inl (cy 1, 11, .inr (.inl (fun _ => 0)))), ((rn 3), .inl (cy 1, 11, .inr (.inl (fun _ => 0)))), ((rn 4), .inl (cy 1, 11, .inr (.inl (fun _ => 0)))), ((rn 5), .inl (cy 1, 11, .inr (.inl (fun _ => 0)))), ((rn 6), .inl (cy 1, 11, .inr (.inl (fun _ => 0)))), ((rn 7), .inl (cy 1, 11, .inr (.inl (fun _ => 0)))), (h0, .inr (7, [.ref vC, .ref p1, .ref p2, .ref p3, .ref p4, .ref p5, .ref p6, .ref p7, .int e1, .long e2, .ref p8, .int 0, .int x2, .long 1]))] := hD
  refine lv_iinc (v := 3) (lv' := [(3, .int 3), (2, .int 0), (0, .ref h0), (1, .int 1)]) hx hb dX4_weigh_66 hl (k := 0) rfl (by decide) (by decide) rfl (fun ls hl => ?_)
  refine lv_goto (tgt := 23) hx hb dX4_weigh_69 (by decide) ?_
  refine lv_iload_n hx hb dX4_weigh_23 rfl (lv_at hl 0 rfl) ?_
  refine lv_iconst (v := 3) hx hb dX4_weigh_24 (by decide) ?_
  refine lv_icmp_ge (tgt := 72) hx hb dX4_weigh_25 (by decide) (fun _ => ?_) (fun c_25_16 => absurd (by decide +kernel) c_25_16)
  obtain ⟨hP, hD⟩ := zP_l (fun _ => 0) hP hD (q := 1) rfl (fun j hj => by rcases (show j = 0 ∨ j = 1 ∨ j = 2 by omega) with rfl | rfl | rfl <;> rfl)
  have hP : va_P D vwCl [(p5, .inl (cy 3, 9, .inr (.inr (.inr (.inr (fun k9 => if k9 < 9 then some (rt k9) else none)))))), ((rt 0), .inl (cy 1, 3, .inr (.inl (fun _ => 0)))), ((rt 1), .inl (cy 1, 3, .inr (.inl (fun _ => 0)))), ((rt 2), .inl (cy 1, 3, .inr (.inl (fun _ => 0)))), ((rt 3), .inl (cy 1, 3, .inr (.inl (fun _ => 0)))), ((rt 4), .inl (cy 1, 3, .inr (.inl (fun _ => 0)))), ((rt 5), .inl (cy 1, 3, .inr (.inl (fun _ => 0)))), ((rt 6), .inl (cy 1, 3, .inr (.inl (fun _ => 0)))), ((rt 7), .inl (cy 1, 3, .inr (.inl (fun _ => 0)))), ((rt 8), .inl (cy 1, 3, .inr (.inl (fun _ => 0)))), (p2, .inl (cy 2, 9, .inl (fun _ => 0))), (p3, .inl (cy 0, 9, .inl (fun _ => (-1)))), (vC, .inr (3, [.ref sS, .ref sJ, .int 0, .int 0])), (p4, .inl (cy 3, 8, .inr (.inr (.inr (.inr (fun k9 => if k9 < 8 then some (rn k9) else none)))))), ((rn 0), .inl (cy 1, 11, .inr (.inl (fun _ => 0)))), ((rn 1), .inl (cy 1, 11, .inr (.inl (fun _ => 0)))), ((rn 2), .inl (cy 1, 11, .inr (.inl (fun _ => 0)))), ((rn 3), .inl (cy 1, 11, .inr (.inl (fun _ => 0)))), ((rn 4), .inl (cy 1, 11, .inr (.inl (fun _ => 0)))), ((rn 5), .inl (cy 1, 11, .inr (.inl (fun _ => 0)))), ((rn 6), .inl (cy 1, 11, .inr (.inl (fun _ => 0)))), ((rn 7), .inl (cy 1, 11, .inr (.inl (fun _ => 0)))), (h0, .inr (7, [.ref vC, .ref p1, .ref p2, .ref p3, .ref p4, .ref p5, .ref p6, .ref p7, .int e1, .long e2, .ref p8, .int 0, .int x2, .long 1]))] H := hP
  have hD : va_D A [(p5, .inl (cy 3, 9, .inr (.inr (.inr (.inr (fun k9 => if k9 < 9 then some (rt k9) else none)))))), ((rt 0), .inl (cy 1, 3, .inr (.inl (fun _ => 0)))), ((rt 1), .inl (cy 1, 3, .inr (.inl (fun _ => 0)))), ((rt 2), .inl (cy 1, 3, .inr (.inl (fun _ => 0)))), ((rt 3), .inl (cy 1, 3, .inr (.inl (fun _ => 0)))), ((rt 4), .inl (cy 1, 3, .inr (.inl (fun _ => 0)))), ((rt 5), .inl (cy 1, 3, .inr (.inl (fun _ => 0)))), ((rt 6), .inl (cy 1, 3, .inr (.inl (fun _ => 0)))), ((rt 7), .inl (cy 1, 3, .inr (.inl (fun _ => 0)))), ((rt 8), .inl (cy 1, 3, .inr (.inl (fun _ => 0)))), (p2, .inl (cy 2, 9, .inl (fun _ => 0))), (p3, .inl (cy 0, 9, .inl (fun _ => (-1)))), (vC, .inr (3, [.ref sS, .ref sJ, .int 0, .int 0])), (p4, .inl (cy 3, 8, .inr (.inr (.inr (.inr (fun k9 => if k9 < 8 then some (rn k9) else none)))))), ((rn 0), .inl (cy 1, 11, .inr (.inl (fun _ => 0)))), ((rn 1), .inl (cy 1, 11, .inr (.inl (fun _ => 0)))), ((rn 2), .inl (cy 1, 11, .inr (.inl (fun _ => 0)))), ((rn 3), .inl (cy 1, 11, .inr (.inl (fun _ => 0)))), ((rn 4), .inl (cy 1, 11, .inr (.inl (fun _ => 0)))), ((rn 5), .inl (cy 1, 11, .inr (.inl (fun _ => 0)))), ((rn 6), .inl (cy 1, 11, .inr (.inl (fun _ => 0)))), ((rn 7), .inl (cy 1, 11, .inr (.inl (fun _ => 0)))), (h0, .inr (7, [.ref vC, .ref p1, .ref p2, .ref p3, .ref p4, .ref p5, .ref p6, .ref p7, .int e1, .long e2, .ref p8, .int 0, .int x2, .long 1]))] := hD
  refine lv_iinc (v := 1) (lv' := [(2, .int 1), (3, .int 3), (0, .ref h0), (1, .int 1)]) hx hb dX4_weigh_72 hl (k := 1) rfl (by decide) (by decide) rfl (fun ls hl => ?_)
  refine lv_goto (tgt := 15) hx hb dX4_weigh_75 (by decide) ?_
  refine lv_iload_n hx hb dX4_weigh_15 rfl (lv_at hl 0 rfl) ?_
  refine lv_bipush (v := 9) hx hb dX4_weigh_16 (by decide) ?_
  refine lv_icmp_ge (tgt := 78) hx hb dX4_weigh_18 (by decide) (fun c_18_17 => absurd c_18_17 (by decide +kernel)) (fun _ => ?_)
  refine lv_iconst (v := 0) hx hb dX4_weigh_21 (by decide) ?_
  refine lv_istore_n (lv' := [(3, .int 0), (2, .int 1), (0, .ref h0), (1, .int 1)]) hx hb dX4_weigh_22 rfl hl (by decide) rfl (fun ls hl => ?_)
  refine lv_iload_n hx hb dX4_weigh_23 rfl (lv_at hl 0 rfl) ?_
  refine lv_iconst (v := 3) hx hb dX4_weigh_24 (by decide) ?_
  refine lv_icmp_ge (tgt := 72) hx hb dX4_weigh_25 (by decide) (fun c_25_18 => absurd c_25_18 (by decide +kernel)) (fun _ => ?_)
  refine lv_aload_n hx hb dX4_weigh_28 rfl (lv_at hl 2 rfl) ?_
  refine va_get (D := D) (ci := 7) (v := .ref p5) (C := RX4) (T := TX4) (N := 14) hx hb hts iRX4 hown hK hP 22 rfl rfl 5 (by decide) (hts _ q43) (fun _ h9 => h9) rfl dX4_weigh_29 ?_
  refine lv_iload_n hx hb dX4_weigh_32 rfl (lv_at hl 1 rfl) ?_
  refine va_aldA hx hb hK hP 0 3 rfl rfl (z_in 1 (by decide) (by decide)) dX4_weigh_33 ?_
  rw [show va_rf ((fun k9 => if k9 < 9 then some (rt k9) else none) (1 : Int32).toNatClampNeg) = .ref (rt 1) from rfl]
  refine lv_iload_n hx hb dX4_weigh_34 rfl (lv_at hl 0 rfl) ?_
  refine lv_aload_n hx hb dX4_weigh_35 rfl (lv_at hl 2 rfl) ?_
  refine va_get (D := D) (ci := 7) (v := .ref p3) (C := RX4) (T := TX4) (N := 14) hx hb hts iRX4 hown hK hP 22 rfl rfl 3 (by decide) (hts _ q39) (fun _ h9 => h9) rfl dX4_weigh_36 ?_
  refine lv_iload_n hx hb dX4_weigh_39 rfl (lv_at hl 1 rfl) ?_
  refine va_iald hx hb hK hP 11 0 rfl rfl (z_in 1 (by decide) (by decide)) dX4_weigh_40 ?_
  refine lv_topi (fun y20 ey20 => ?_)
  obtain rfl : y20 = (-1) := ey20.trans rfl
  refine lv_iconst (v := (-1)) hx hb dX4_weigh_41 (by decide) ?_
  refine lv_icmp_ne (tgt := 49) hx hb dX4_weigh_42 (by decide) (fun c_42_20 => absurd (by decide +kernel) c_42_20) (fun _ => ?_)
  refine lv_lconst (v := 0) hx hb dX4_weigh_45 rfl ?_
  refine lv_goto (tgt := 65) hx hb dX4_weigh_46 (by decide) ?_
  refine va_last hx hb hK hP hD hS 2 1 rfl rfl (z_in 0 (by decide) (by decide)) dX4_weigh_65 (fun H locs hP hD hS => ?_)
  have hP : va_P D vwCl [(p5, .inl (cy 3, 9, .inr (.inr (.inr (.inr (fun k9 => if k9 < 9 then some (rt k9) else none)))))), ((rt 0), .inl (cy 1, 3, .inr (.inl (fun _ => 0)))), ((rt 1), .inl (cy 1, 3, .inr (.inl (vp_updL (fun _ => 0) (0 : Int32).toNatClampNeg 0)))), ((rt 2), .inl (cy 1, 3, .inr (.inl (fun _ => 0)))), ((rt 3), .inl (cy 1, 3, .inr (.inl (fun _ => 0)))), ((rt 4), .inl (cy 1, 3, .inr (.inl (fun _ => 0)))), ((rt 5), .inl (cy 1, 3, .inr (.inl (fun _ => 0)))), ((rt 6), .inl (cy 1, 3, .inr (.inl (fun _ => 0)))), ((rt 7), .inl (cy 1, 3, .inr (.inl (fun _ => 0)))), ((rt 8), .inl (cy 1, 3, .inr (.inl (fun _ => 0)))), (p2, .inl (cy 2, 9, .inl (fun _ => 0))), (p3, .inl (cy 0, 9, .inl (fun _ => (-1)))), (vC, .inr (3, [.ref sS, .ref sJ, .int 0, .int 0])), (p4, .inl (cy 3, 8, .inr (.inr (.inr (.inr (fun k9 => if k9 < 8 then some (rn k9) else none)))))), ((rn 0), .inl (cy 1, 11, .inr (.inl (fun _ => 0)))), ((rn 1), .inl (cy 1, 11, .inr (.inl (fun _ => 0)))), ((rn 2), .inl (cy 1, 11, .inr (.inl (fun _ => 0)))), ((rn 3), .inl (cy 1, 11, .inr (.inl (fun _ => 0)))), ((rn 4), .inl (cy 1, 11, .inr (.inl (fun _ => 0)))), ((rn 5), .inl (cy 1, 11, .inr (.inl (fun _ => 0)))), ((rn 6), .inl (cy 1, 11, .inr (.inl (fun _ => 0)))), ((rn 7), .inl (cy 1, 11, .inr (.inl (fun _ => 0)))), (h0, .inr (7, [.ref vC, .ref p1, .ref p2, .ref p3, .ref p4, .ref p5, .ref p6, .ref p7, .int e1, .long e2, .ref p8, .int 0, .int x2, .long 1]))] H := hP
  have hD : va_D A [(p5, .inl (cy 3, 9, .inr (.inr (.inr (.inr (fun k9 => if k9 < 9 then some (rt k9) else none)))))), ((rt 0), .inl (cy 1, 3, .inr (.inl (fun _ => 0)))), ((rt 1), .inl (cy 1, 3, .inr (.inl (vp_updL (fun _ => 0) (0 : Int32).toNatClampNeg 0)))), ((rt 2), .inl (cy 1, 3, .inr (.inl (fun _ => 0)))), ((rt 3), .inl (cy 1, 3, .inr (.inl (fun _ => 0)))), ((rt 4), .inl (cy 1, 3, .inr (.inl (fun _ => 0)))), ((rt 5), .inl (cy 1, 3, .inr (.inl (fun _ => 0)))), ((rt 6), .inl (cy 1, 3, .inr (.inl (fun _ => 0)))), ((rt 7), .inl (cy 1, 3, .inr (.inl (fun _ => 0)))), ((rt 8), .inl (cy 1, 3, .inr (.inl (fun _ => 0)))), (p2, .inl (cy 2, 9, .inl (fun _ => 0))), (p3, .inl (cy 0, 9, .inl (fun _ => (-1)))), (vC, .inr (3, [.ref sS, .ref sJ, .int 0, .int 0])), (p4, .inl (cy 3, 8, .inr (.inr (.inr (.inr (fun k9 => if k9 < 8 then some (rn k9) else none)))))), ((rn 0), .inl (cy 1, 11, .inr (.inl (fun _ => 0)))), ((rn 1), .inl (cy 1, 11, .inr (.inl (fun _ => 0)))), ((rn 2), .inl (cy 1, 11, .inr (.inl (fun _ => 0)))), ((rn 3), .inl (cy 1, 11, .inr (.inl (fun _ => 0)))), ((rn 4), .inl (cy 1, 11, .inr (.inl (fun _ => 0)))), ((rn 5), .inl (cy 1, 11, .inr (.inl (fun _ => 0)))), ((rn 6), .inl (cy 1, 11, .inr (.inl (fun _ => 0)))), ((rn 7), .inl (cy 1, 11, .inr (.inl (fun _ => 0)))), (h0, .inr (7, [.ref vC, .ref p1, .ref p2, .ref p3, .ref p4, .ref p5, .ref p6, .ref p7, .int e1, .long e2, .ref p8, .int 0, .int x2, .long 1]))] := hD
  refine lv_iinc (v := 1) (lv' := [(3, .int 1), (2, .int 1), (0, .ref h0), (1, .int 1)]) hx hb dX4_weigh_66 hl (k := 0) rfl (by decide) (by decide) rfl (fun ls hl => ?_)
  refine lv_goto (tgt := 23) hx hb dX4_weigh_69 (by decide) ?_
  refine lv_iload_n hx hb dX4_weigh_23 rfl (lv_at hl 0 rfl) ?_
  refine lv_iconst (v := 3) hx hb dX4_weigh_24 (by decide) ?_
  refine lv_icmp_ge (tgt := 72) hx hb dX4_weigh_25 (by decide) (fun c_25_21 => absurd c_25_21 (by decide +kernel)) (fun _ => ?_)
  refine lv_aload_n hx hb dX4_weigh_28 rfl (lv_at hl 2 rfl) ?_
  refine va_get (D := D) (ci := 7) (v := .ref p5) (C := RX4) (T := TX4) (N := 14) hx hb hts iRX4 hown hK hP 22 rfl rfl 5 (by decide) (hts _ q43) (fun _ h9 => h9) rfl dX4_weigh_29 ?_
  refine lv_iload_n hx hb dX4_weigh_32 rfl (lv_at hl 1 rfl) ?_
  refine va_aldA hx hb hK hP 0 3 rfl rfl (z_in 1 (by decide) (by decide)) dX4_weigh_33 ?_
  rw [show va_rf ((fun k9 => if k9 < 9 then some (rt k9) else none) (1 : Int32).toNatClampNeg) = .ref (rt 1) from rfl]
  refine lv_iload_n hx hb dX4_weigh_34 rfl (lv_at hl 0 rfl) ?_
  refine lv_aload_n hx hb dX4_weigh_35 rfl (lv_at hl 2 rfl) ?_
  refine va_get (D := D) (ci := 7) (v := .ref p3) (C := RX4) (T := TX4) (N := 14) hx hb hts iRX4 hown hK hP 22 rfl rfl 3 (by decide) (hts _ q39) (fun _ h9 => h9) rfl dX4_weigh_36 ?_
  refine lv_iload_n hx hb dX4_weigh_39 rfl (lv_at hl 1 rfl) ?_
  refine va_iald hx hb hK hP 11 0 rfl rfl (z_in 1 (by decide) (by decide)) dX4_weigh_40 ?_
  refine lv_topi (fun y23 ey23 => ?_)
  obtain rfl : y23 = (-1) := ey23.trans rfl
  refine lv_iconst (v := (-1)) hx hb dX4_weigh_41 (by decide) ?_
  refine lv_icmp_ne (tgt := 49) hx hb dX4_weigh_42 (by decide) (fun c_42_23 => absurd (by decide +kernel) c_42_23) (fun _ => ?_)
  refine lv_lconst (v := 0) hx hb dX4_weigh_45 rfl ?_
  refine lv_goto (tgt := 65) hx hb dX4_weigh_46 (by decide) ?_
  refine va_last hx hb hK hP hD hS 2 1 rfl rfl (z_in 1 (by decide) (by decide)) dX4_weigh_65 (fun H locs hP hD hS => ?_)
  have hP : va_P D vwCl [(p5, .inl (cy 3, 9, .inr (.inr (.inr (.inr (fun k9 => if k9 < 9 then some (rt k9) else none)))))), ((rt 0), .inl (cy 1, 3, .inr (.inl (fun _ => 0)))), ((rt 1), .inl (cy 1, 3, .inr (.inl (vp_updL (vp_updL (fun _ => 0) (0 : Int32).toNatClampNeg 0) (1 : Int32).toNatClampNeg 0)))), ((rt 2), .inl (cy 1, 3, .inr (.inl (fun _ => 0)))), ((rt 3), .inl (cy 1, 3, .inr (.inl (fun _ => 0)))), ((rt 4), .inl (cy 1, 3, .inr (.inl (fun _ => 0)))), ((rt 5), .inl (cy 1, 3, .inr (.inl (fun _ => 0)))), ((rt 6), .inl (cy 1, 3, .inr (.inl (fun _ => 0)))), ((rt 7), .inl (cy 1, 3, .inr (.inl (fun _ => 0)))), ((rt 8), .inl (cy 1, 3, .inr (.inl (fun _ => 0)))), (p2, .inl (cy 2, 9, .inl (fun _ => 0))), (p3, .inl (cy 0, 9, .inl (fun _ => (-1)))), (vC, .inr (3, [.ref sS, .ref sJ, .int 0, .int 0])), (p4, .inl (cy 3, 8, .inr (.inr (.inr (.inr (fun k9 => if k9 < 8 then some (rn k9) else none)))))), ((rn 0), .inl (cy 1, 11, .inr (.inl (fun _ => 0)))), ((rn 1), .inl (cy 1, 11, .inr (.inl (fun _ => 0)))), ((rn 2), .inl (cy 1, 11, .inr (.inl (fun _ => 0)))), ((rn 3), .inl (cy 1, 11, .inr (.inl (fun _ => 0)))), ((rn 4), .inl (cy 1, 11, .inr (.inl (fun _ => 0)))), ((rn 5), .inl (cy 1, 11, .inr (.inl (fun _ => 0)))), ((rn 6), .inl (cy 1, 11, .inr (.inl (fun _ => 0)))), ((rn 7), .inl (cy 1, 11, .inr (.inl (fun _ => 0)))), (h0, .inr (7, [.ref vC, .ref p1, .ref p2, .ref p3, .ref p4, .ref p5, .ref p6, .ref p7, .int e1, .long e2, .ref p8, .int 0, .int x2, .long 1]))] H := hP
  have hD : va_D A [(p5, .inl (cy 3, 9, .inr (.inr (.inr (.inr (fun k9 => if k9 < 9 then some (rt k9) else none)))))), ((rt 0), .inl (cy 1, 3, .inr (.inl (fun _ => 0)))), ((rt 1), .inl (cy 1, 3, .inr (.inl (vp_updL (vp_updL (fun _ => 0) (0 : Int32).toNatClampNeg 0) (1 : Int32).toNatClampNeg 0)))), ((rt 2), .inl (cy 1, 3, .inr (.inl (fun _ => 0)))), ((rt 3), .inl (cy 1, 3, .inr (.inl (fun _ => 0)))), ((rt 4), .inl (cy 1, 3, .inr (.inl (fun _ => 0)))), ((rt 5), .inl (cy 1, 3, .inr (.inl (fun _ => 0)))), ((rt 6), .inl (cy 1, 3, .inr (.inl (fun _ => 0)))), ((rt 7), .inl (cy 1, 3, .inr (.inl (fun _ => 0)))), ((rt 8), .inl (cy 1, 3, .inr (.inl (fun _ => 0)))), (p2, .inl (cy 2, 9, .inl (fun _ => 0))), (p3, .inl (cy 0, 9, .inl (fun _ => (-1)))), (vC, .inr (3, [.ref sS, .ref sJ, .int 0, .int 0])), (p4, .inl (cy 3, 8, .inr (.inr (.inr (.inr (fun k9 => if k9 < 8 then some (rn k9) else none)))))), ((rn 0), .inl (cy 1, 11, .inr (.inl (fun _ => 0)))), ((rn 1), .inl (cy 1, 11, .inr (.inl (fun _ => 0)))), ((rn 2), .inl (cy 1, 11, .inr (.inl (fun _ => 0)))), ((rn 3), .inl (cy 1, 11, .inr (.inl (fun _ => 0)))), ((rn 4), .inl (cy 1, 11, .inr (.inl (fun _ => 0)))), ((rn 5), .inl (cy 1, 11, .inr (.inl (fun _ => 0)))), ((rn 6), .inl (cy 1, 11, .inr (.inl (fun _ => 0)))), ((rn 7), .inl (cy 1, 11, .inr (.inl (fun _ => 0)))), (h0, .inr (7, [.ref vC, .ref p1, .ref p2, .ref p3, .ref p4, .ref p5, .ref p6, .ref p7, .int e1, .long e2, .ref p8, .int 0, .int x2, .long 1]))] := hD
  refine lv_iinc (v := 2) (lv' := [(3, .int 2), (2, .int 1), (0, .ref h0), (1, .int 1)]) hx hb dX4_weigh_66 hl (k := 0) rfl (by decide) (by decide) rfl (fun ls hl => ?_)
  refine lv_goto (tgt := 23) hx hb dX4_weigh_69 (by decide) ?_
  refine lv_iload_n hx hb dX4_weigh_23 rfl (lv_at hl 0 rfl) ?_
  refine lv_iconst (v := 3) hx hb dX4_weigh_24 (by decide) ?_
  refine lv_icmp_ge (tgt := 72) hx hb dX4_weigh_25 (by decide) (fun c_25_24 => absurd c_25_24 (by decide +kernel)) (fun _ => ?_)
  refine lv_aload_n hx hb dX4_weigh_28 rfl (lv_at hl 2 rfl) ?_
  refine va_get (D := D) (ci := 7) (v := .ref p5) (C := RX4) (T := TX4) (N := 14) hx hb hts iRX4 hown hK hP 22 rfl rfl 5 (by decide) (hts _ q43) (fun _ h9 => h9) rfl dX4_weigh_29 ?_
  refine lv_iload_n hx hb dX4_weigh_32 rfl (lv_at hl 1 rfl) ?_
  refine va_aldA hx hb hK hP 0 3 rfl rfl (z_in 1 (by decide) (by decide)) dX4_weigh_33 ?_
  rw [show va_rf ((fun k9 => if k9 < 9 then some (rt k9) else none) (1 : Int32).toNatClampNeg) = .ref (rt 1) from rfl]
  refine lv_iload_n hx hb dX4_weigh_34 rfl (lv_at hl 0 rfl) ?_
  refine lv_aload_n hx hb dX4_weigh_35 rfl (lv_at hl 2 rfl) ?_
  refine va_get (D := D) (ci := 7) (v := .ref p3) (C := RX4) (T := TX4) (N := 14) hx hb hts iRX4 hown hK hP 22 rfl rfl 3 (by decide) (hts _ q39) (fun _ h9 => h9) rfl dX4_weigh_36 ?_
  refine lv_iload_n hx hb dX4_weigh_39 rfl (lv_at hl 1 rfl) ?_
  refine va_iald hx hb hK hP 11 0 rfl rfl (z_in 1 (by decide) (by decide)) dX4_weigh_40 ?_
  refine lv_topi (fun y26 ey26 => ?_)
  obtain rfl : y26 = (-1) := ey26.trans rfl
  refine lv_iconst (v := (-1)) hx hb dX4_weigh_41 (by decide) ?_
  refine lv_icmp_ne (tgt := 49) hx hb dX4_weigh_42 (by decide) (fun c_42_26 => absurd (by decide +kernel) c_42_26) (fun _ => ?_)
  refine lv_lconst (v := 0) hx hb dX4_weigh_45 rfl ?_
  refine lv_goto (tgt := 65) hx hb dX4_weigh_46 (by decide) ?_
  refine va_last hx hb hK hP hD hS 2 1 rfl rfl (z_in 2 (by decide) (by decide)) dX4_weigh_65 (fun H locs hP hD hS => ?_)
  have hP : va_P D vwCl [(p5, .inl (cy 3, 9, .inr (.inr (.inr (.inr (fun k9 => if k9 < 9 then some (rt k9) else none)))))), ((rt 0), .inl (cy 1, 3, .inr (.inl (fun _ => 0)))), ((rt 1), .inl (cy 1, 3, .inr (.inl (vp_updL (vp_updL (vp_updL (fun _ => 0) (0 : Int32).toNatClampNeg 0) (1 : Int32).toNatClampNeg 0) (2 : Int32).toNatClampNeg 0)))), ((rt 2), .inl (cy 1, 3, .inr (.inl (fun _ => 0)))), ((rt 3), .inl (cy 1, 3, .inr (.inl (fun _ => 0)))), ((rt 4), .inl (cy 1, 3, .inr (.inl (fun _ => 0)))), ((rt 5), .inl (cy 1, 3, .inr (.inl (fun _ => 0)))), ((rt 6), .inl (cy 1, 3, .inr (.inl (fun _ => 0)))), ((rt 7), .inl (cy 1, 3, .inr (.inl (fun _ => 0)))), ((rt 8), .inl (cy 1, 3, .inr (.inl (fun _ => 0)))), (p2, .inl (cy 2, 9, .inl (fun _ => 0))), (p3, .inl (cy 0, 9, .inl (fun _ => (-1)))), (vC, .inr (3, [.ref sS, .ref sJ, .int 0, .int 0])), (p4, .inl (cy 3, 8, .inr (.inr (.inr (.inr (fun k9 => if k9 < 8 then some (rn k9) else none)))))), ((rn 0), .inl (cy 1, 11, .inr (.inl (fun _ => 0)))), ((rn 1), .inl (cy 1, 11, .inr (.inl (fun _ => 0)))), ((rn 2), .inl (cy 1, 11, .inr (.inl (fun _ => 0)))), ((rn 3), .inl (cy 1, 11, .inr (.inl (fun _ => 0)))), ((rn 4), .inl (cy 1, 11, .inr (.inl (fun _ => 0)))), ((rn 5), .inl (cy 1, 11, .inr (.inl (fun _ => 0)))), ((rn 6), .inl (cy 1, 11, .inr (.inl (fun _ => 0)))), ((rn 7), .inl (cy 1, 11, .inr (.inl (fun _ => 0)))), (h0, .inr (7, [.ref vC, .ref p1, .ref p2, .ref p3, .ref p4, .ref p5, .ref p6, .ref p7, .int e1, .long e2, .ref p8, .int 0, .int x2, .long 1]))] H := hP
  have hD : va_D A [(p5, .inl (cy 3, 9, .inr (.inr (.inr (.inr (fun k9 => if k9 < 9 then some (rt k9) else none)))))), ((rt 0), .inl (cy 1, 3, .inr (.inl (fun _ => 0)))), ((rt 1), .inl (cy 1, 3, .inr (.inl (vp_updL (vp_updL (vp_updL (fun _ => 0) (0 : Int32).toNatClampNeg 0) (1 : Int32).toNatClampNeg 0) (2 : Int32).toNatClampNeg 0)))), ((rt 2), .inl (cy 1, 3, .inr (.inl (fun _ => 0)))), ((rt 3), .inl (cy 1, 3, .inr (.inl (fun _ => 0)))), ((rt 4), .inl (cy 1, 3, .inr (.inl (fun _ => 0)))), ((rt 5), .inl (cy 1, 3, .inr (.inl (fun _ => 0)))), ((rt 6), .inl (cy 1, 3, .inr (.inl (fun _ => 0)))), ((rt 7), .inl (cy 1, 3, .inr (.inl (fun _ => 0)))), ((rt 8), .inl (cy 1, 3, .inr (.inl (fun _ => 0)))), (p2, .inl (cy 2, 9, .inl (fun _ => 0))), (p3, .inl (cy 0, 9, .inl (fun _ => (-1)))), (vC, .inr (3, [.ref sS, .ref sJ, .int 0, .int 0])), (p4, .inl (cy 3, 8, .inr (.inr (.inr (.inr (fun k9 => if k9 < 8 then some (rn k9) else none)))))), ((rn 0), .inl (cy 1, 11, .inr (.inl (fun _ => 0)))), ((rn 1), .inl (cy 1, 11, .inr (.inl (fun _ => 0)))), ((rn 2), .inl (cy 1, 11, .inr (.inl (fun _ => 0)))), ((rn 3), .inl (cy 1, 11, .inr (.inl (fun _ => 0)))), ((rn 4), .inl (cy 1, 11, .inr (.inl (fun _ => 0)))), ((rn 5), .inl (cy 1, 11, .inr (.inl (fun _ => 0)))), ((rn 6), .inl (cy 1, 11, .inr (.inl (fun _ => 0)))), ((rn 7), .inl (cy 1, 11, .inr (.inl (fun _ => 0)))), (h0, .inr (7, [.ref vC, .ref p1, .ref p2, .ref p3, .ref p4, .ref p5, .ref p6, .ref p7, .int e1, .long e2, .ref p8, .int 0, .int x2, .long 1]))] := hD
  refine lv_iinc (v := 3) (lv' := [(3, .int 3), (2, .int 1), (0, .ref h0), (1, .int 1)]) hx hb dX4_weigh_66 hl (k := 0) rfl (by decide) (by decide) rfl (fun ls hl => ?_)
  refine lv_goto (tgt := 23) hx hb dX4_weigh_69 (by decide) ?_
  refine lv_iload_n hx hb dX4_weigh_23 rfl (lv_at hl 0 rfl) ?_
  refine lv_iconst (v := 3) hx hb dX4_weigh_24 (by decide) ?_
  refine lv_icmp_ge (tgt := 72) hx hb dX4_weigh_25 (by decide) (fun _ => ?_) (fun c_25_27 => absurd (by decide +kernel) c_25_27)
  obtain ⟨hP, hD⟩ := zP_l (fun _ => 0) hP hD (q := 2) rfl (fun j hj => by rcases (show j = 0 ∨ j = 1 ∨ j = 2 by omega) with rfl | rfl | rfl <;> rfl)
  have hP : va_P D vwCl [(p5, .inl (cy 3, 9, .inr (.inr (.inr (.inr (fun k9 => if k9 < 9 then some (rt k9) else none)))))), ((rt 0), .inl (cy 1, 3, .inr (.inl (fun _ => 0)))), ((rt 1), .inl (cy 1, 3, .inr (.inl (fun _ => 0)))), ((rt 2), .inl (cy 1, 3, .inr (.inl (fun _ => 0)))), ((rt 3), .inl (cy 1, 3, .inr (.inl (fun _ => 0)))), ((rt 4), .inl (cy 1, 3, .inr (.inl (fun _ => 0)))), ((rt 5), .inl (cy 1, 3, .inr (.inl (fun _ => 0)))), ((rt 6), .inl (cy 1, 3, .inr (.inl (fun _ => 0)))), ((rt 7), .inl (cy 1, 3, .inr (.inl (fun _ => 0)))), ((rt 8), .inl (cy 1, 3, .inr (.inl (fun _ => 0)))), (p2, .inl (cy 2, 9, .inl (fun _ => 0))), (p3, .inl (cy 0, 9, .inl (fun _ => (-1)))), (vC, .inr (3, [.ref sS, .ref sJ, .int 0, .int 0])), (p4, .inl (cy 3, 8, .inr (.inr (.inr (.inr (fun k9 => if k9 < 8 then some (rn k9) else none)))))), ((rn 0), .inl (cy 1, 11, .inr (.inl (fun _ => 0)))), ((rn 1), .inl (cy 1, 11, .inr (.inl (fun _ => 0)))), ((rn 2), .inl (cy 1, 11, .inr (.inl (fun _ => 0)))), ((rn 3), .inl (cy 1, 11, .inr (.inl (fun _ => 0)))), ((rn 4), .inl (cy 1, 11, .inr (.inl (fun _ => 0)))), ((rn 5), .inl (cy 1, 11, .inr (.inl (fun _ => 0)))), ((rn 6), .inl (cy 1, 11, .inr (.inl (fun _ => 0)))), ((rn 7), .inl (cy 1, 11, .inr (.inl (fun _ => 0)))), (h0, .inr (7, [.ref vC, .ref p1, .ref p2, .ref p3, .ref p4, .ref p5, .ref p6, .ref p7, .int e1, .long e2, .ref p8, .int 0, .int x2, .long 1]))] H := hP
  have hD : va_D A [(p5, .inl (cy 3, 9, .inr (.inr (.inr (.inr (fun k9 => if k9 < 9 then some (rt k9) else none)))))), ((rt 0), .inl (cy 1, 3, .inr (.inl (fun _ => 0)))), ((rt 1), .inl (cy 1, 3, .inr (.inl (fun _ => 0)))), ((rt 2), .inl (cy 1, 3, .inr (.inl (fun _ => 0)))), ((rt 3), .inl (cy 1, 3, .inr (.inl (fun _ => 0)))), ((rt 4), .inl (cy 1, 3, .inr (.inl (fun _ => 0)))), ((rt 5), .inl (cy 1, 3, .inr (.inl (fun _ => 0)))), ((rt 6), .inl (cy 1, 3, .inr (.inl (fun _ => 0)))), ((rt 7), .inl (cy 1, 3, .inr (.inl (fun _ => 0)))), ((rt 8), .inl (cy 1, 3, .inr (.inl (fun _ => 0)))), (p2, .inl (cy 2, 9, .inl (fun _ => 0))), (p3, .inl (cy 0, 9, .inl (fun _ => (-1)))), (vC, .inr (3, [.ref sS, .ref sJ, .int 0, .int 0])), (p4, .inl (cy 3, 8, .inr (.inr (.inr (.inr (fun k9 => if k9 < 8 then some (rn k9) else none)))))), ((rn 0), .inl (cy 1, 11, .inr (.inl (fun _ => 0)))), ((rn 1), .inl (cy 1, 11, .inr (.inl (fun _ => 0)))), ((rn 2), .inl (cy 1, 11, .inr (.inl (fun _ => 0)))), ((rn 3), .inl (cy 1, 11, .inr (.inl (fun _ => 0)))), ((rn 4), .inl (cy 1, 11, .inr (.inl (fun _ => 0)))), ((rn 5), .inl (cy 1, 11, .inr (.inl (fun _ => 0)))), ((rn 6), .inl (cy 1, 11, .inr (.inl (fun _ => 0)))), ((rn 7), .inl (cy 1, 11, .inr (.inl (fun _ => 0)))), (h0, .inr (7, [.ref vC, .ref p1, .ref p2, .ref p3, .ref p4, .ref p5, .ref p6, .ref p7, .int e1, .long e2, .ref p8, .int 0, .int x2, .long 1]))] := hD
  refine lv_iinc (v := 2) (lv' := [(2, .int 2), (3, .int 3), (0, .ref h0), (1, .int 1)]) hx hb dX4_weigh_72 hl (k := 1) rfl (by decide) (by decide) rfl (fun ls hl => ?_)
  refine lv_goto (tgt := 15) hx hb dX4_weigh_75 (by decide) ?_
  refine lv_iload_n hx hb dX4_weigh_15 rfl (lv_at hl 0 rfl) ?_
  refine lv_bipush (v := 9) hx hb dX4_weigh_16 (by decide) ?_
  refine lv_icmp_ge (tgt := 78) hx hb dX4_weigh_18 (by decide) (fun c_18_28 => absurd c_18_28 (by decide +kernel)) (fun _ => ?_)
  refine lv_iconst (v := 0) hx hb dX4_weigh_21 (by decide) ?_
  refine lv_istore_n (lv' := [(3, .int 0), (2, .int 2), (0, .ref h0), (1, .int 1)]) hx hb dX4_weigh_22 rfl hl (by decide) rfl (fun ls hl => ?_)
  refine lv_iload_n hx hb dX4_weigh_23 rfl (lv_at hl 0 rfl) ?_
  refine lv_iconst (v := 3) hx hb dX4_weigh_24 (by decide) ?_
  refine lv_icmp_ge (tgt := 72) hx hb dX4_weigh_25 (by decide) (fun c_25_29 => absurd c_25_29 (by decide +kernel)) (fun _ => ?_)
  refine lv_aload_n hx hb dX4_weigh_28 rfl (lv_at hl 2 rfl) ?_
  refine va_get (D := D) (ci := 7) (v := .ref p5) (C := RX4) (T := TX4) (N := 14) hx hb hts iRX4 hown hK hP 22 rfl rfl 5 (by decide) (hts _ q43) (fun _ h9 => h9) rfl dX4_weigh_29 ?_
  refine lv_iload_n hx hb dX4_weigh_32 rfl (lv_at hl 1 rfl) ?_
  refine va_aldA hx hb hK hP 0 3 rfl rfl (z_in 2 (by decide) (by decide)) dX4_weigh_33 ?_
  rw [show va_rf ((fun k9 => if k9 < 9 then some (rt k9) else none) (2 : Int32).toNatClampNeg) = .ref (rt 2) from rfl]
  refine lv_iload_n hx hb dX4_weigh_34 rfl (lv_at hl 0 rfl) ?_
  refine lv_aload_n hx hb dX4_weigh_35 rfl (lv_at hl 2 rfl) ?_
  refine va_get (D := D) (ci := 7) (v := .ref p3) (C := RX4) (T := TX4) (N := 14) hx hb hts iRX4 hown hK hP 22 rfl rfl 3 (by decide) (hts _ q39) (fun _ h9 => h9) rfl dX4_weigh_36 ?_
  refine lv_iload_n hx hb dX4_weigh_39 rfl (lv_at hl 1 rfl) ?_
  refine va_iald hx hb hK hP 11 0 rfl rfl (z_in 2 (by decide) (by decide)) dX4_weigh_40 ?_
  refine lv_topi (fun y31 ey31 => ?_)
  obtain rfl : y31 = (-1) := ey31.trans rfl
  refine lv_iconst (v := (-1)) hx hb dX4_weigh_41 (by decide) ?_
  refine lv_icmp_ne (tgt := 49) hx hb dX4_weigh_42 (by decide) (fun c_42_31 => absurd (by decide +kernel) c_42_31) (fun _ => ?_)
  refine lv_lconst (v := 0) hx hb dX4_weigh_45 rfl ?_
  refine lv_goto (tgt := 65) hx hb dX4_weigh_46 (by decide) ?_
  refine va_last hx hb hK hP hD hS 3 1 rfl rfl (z_in 0 (by decide) (by decide)) dX4_weigh_65 (fun H locs hP hD hS => ?_)
  have hP : va_P D vwCl [(p5, .inl (cy 3, 9, .inr (.inr (.inr (.inr (fun k9 => if k9 < 9 then some (rt k9) else none)))))), ((rt 0), .inl (cy 1, 3, .inr (.inl (fun _ => 0)))), ((rt 1), .inl (cy 1, 3, .inr (.inl (fun _ => 0)))), ((rt 2), .inl (cy 1, 3, .inr (.inl (vp_updL (fun _ => 0) (0 : Int32).toNatClampNeg 0)))), ((rt 3), .inl (cy 1, 3, .inr (.inl (fun _ => 0)))), ((rt 4), .inl (cy 1, 3, .inr (.inl (fun _ => 0)))), ((rt 5), .inl (cy 1, 3, .inr (.inl (fun _ => 0)))), ((rt 6), .inl (cy 1, 3, .inr (.inl (fun _ => 0)))), ((rt 7), .inl (cy 1, 3, .inr (.inl (fun _ => 0)))), ((rt 8), .inl (cy 1, 3, .inr (.inl (fun _ => 0)))), (p2, .inl (cy 2, 9, .inl (fun _ => 0))), (p3, .inl (cy 0, 9, .inl (fun _ => (-1)))), (vC, .inr (3, [.ref sS, .ref sJ, .int 0, .int 0])), (p4, .inl (cy 3, 8, .inr (.inr (.inr (.inr (fun k9 => if k9 < 8 then some (rn k9) else none)))))), ((rn 0), .inl (cy 1, 11, .inr (.inl (fun _ => 0)))), ((rn 1), .inl (cy 1, 11, .inr (.inl (fun _ => 0)))), ((rn 2), .inl (cy 1, 11, .inr (.inl (fun _ => 0)))), ((rn 3), .inl (cy 1, 11, .inr (.inl (fun _ => 0)))), ((rn 4), .inl (cy 1, 11, .inr (.inl (fun _ => 0)))), ((rn 5), .inl (cy 1, 11, .inr (.inl (fun _ => 0)))), ((rn 6), .inl (cy 1, 11, .inr (.inl (fun _ => 0)))), ((rn 7), .inl (cy 1, 11, .inr (.inl (fun _ => 0)))), (h0, .inr (7, [.ref vC, .ref p1, .ref p2, .ref p3, .ref p4, .ref p5, .ref p6, .ref p7, .int e1, .long e2, .ref p8, .int 0, .int x2, .long 1]))] H := hP
  have hD : va_D A [(p5, .inl (cy 3, 9, .inr (.inr (.inr (.inr (fun k9 => if k9 < 9 then some (rt k9) else none)))))), ((rt 0), .inl (cy 1, 3, .inr (.inl (fun _ => 0)))), ((rt 1), .inl (cy 1, 3, .inr (.inl (fun _ => 0)))), ((rt 2), .inl (cy 1, 3, .inr (.inl (vp_updL (fun _ => 0) (0 : Int32).toNatClampNeg 0)))), ((rt 3), .inl (cy 1, 3, .inr (.inl (fun _ => 0)))), ((rt 4), .inl (cy 1, 3, .inr (.inl (fun _ => 0)))), ((rt 5), .inl (cy 1, 3, .inr (.inl (fun _ => 0)))), ((rt 6), .inl (cy 1, 3, .inr (.inl (fun _ => 0)))), ((rt 7), .inl (cy 1, 3, .inr (.inl (fun _ => 0)))), ((rt 8), .inl (cy 1, 3, .inr (.inl (fun _ => 0)))), (p2, .inl (cy 2, 9, .inl (fun _ => 0))), (p3, .inl (cy 0, 9, .inl (fun _ => (-1)))), (vC, .inr (3, [.ref sS, .ref sJ, .int 0, .int 0])), (p4, .inl (cy 3, 8, .inr (.inr (.inr (.inr (fun k9 => if k9 < 8 then some (rn k9) else none)))))), ((rn 0), .inl (cy 1, 11, .inr (.inl (fun _ => 0)))), ((rn 1), .inl (cy 1, 11, .inr (.inl (fun _ => 0)))), ((rn 2), .inl (cy 1, 11, .inr (.inl (fun _ => 0)))), ((rn 3), .inl (cy 1, 11, .inr (.inl (fun _ => 0)))), ((rn 4), .inl (cy 1, 11, .inr (.inl (fun _ => 0)))), ((rn 5), .inl (cy 1, 11, .inr (.inl (fun _ => 0)))), ((rn 6), .inl (cy 1, 11, .inr (.inl (fun _ => 0)))), ((rn 7), .inl (cy 1, 11, .inr (.inl (fun _ => 0)))), (h0, .inr (7, [.ref vC, .ref p1, .ref p2, .ref p3, .ref p4, .ref p5, .ref p6, .ref p7, .int e1, .long e2, .ref p8, .int 0, .int x2, .long 1]))] := hD
  refine lv_iinc (v := 1) (lv' := [(3, .int 1), (2, .int 2), (0, .ref h0), (1, .int 1)]) hx hb dX4_weigh_66 hl (k := 0) rfl (by decide) (by decide) rfl (fun ls hl => ?_)
  refine lv_goto (tgt := 23) hx hb dX4_weigh_69 (by decide) ?_
  refine lv_iload_n hx hb dX4_weigh_23 rfl (lv_at hl 0 rfl) ?_
  refine lv_iconst (v := 3) hx hb dX4_weigh_24 (by decide) ?_
  refine lv_icmp_ge (tgt := 72) hx hb dX4_weigh_25 (by decide) (fun c_25_32 => absurd c_25_32 (by decide +kernel)) (fun _ => ?_)
  refine lv_aload_n hx hb dX4_weigh_28 rfl (lv_at hl 2 rfl) ?_
  refine va_get (D := D) (ci := 7) (v := .ref p5) (C := RX4) (T := TX4) (N := 14) hx hb hts iRX4 hown hK hP 22 rfl rfl 5 (by decide) (hts _ q43) (fun _ h9 => h9) rfl dX4_weigh_29 ?_
  refine lv_iload_n hx hb dX4_weigh_32 rfl (lv_at hl 1 rfl) ?_
  refine va_aldA hx hb hK hP 0 3 rfl rfl (z_in 2 (by decide) (by decide)) dX4_weigh_33 ?_
  rw [show va_rf ((fun k9 => if k9 < 9 then some (rt k9) else none) (2 : Int32).toNatClampNeg) = .ref (rt 2) from rfl]
  refine lv_iload_n hx hb dX4_weigh_34 rfl (lv_at hl 0 rfl) ?_
  refine lv_aload_n hx hb dX4_weigh_35 rfl (lv_at hl 2 rfl) ?_
  refine va_get (D := D) (ci := 7) (v := .ref p3) (C := RX4) (T := TX4) (N := 14) hx hb hts iRX4 hown hK hP 22 rfl rfl 3 (by decide) (hts _ q39) (fun _ h9 => h9) rfl dX4_weigh_36 ?_
  refine lv_iload_n hx hb dX4_weigh_39 rfl (lv_at hl 1 rfl) ?_
  refine va_iald hx hb hK hP 11 0 rfl rfl (z_in 2 (by decide) (by decide)) dX4_weigh_40 ?_
  refine lv_topi (fun y34 ey34 => ?_)
  obtain rfl : y34 = (-1) := ey34.trans rfl
  refine lv_iconst (v := (-1)) hx hb dX4_weigh_41 (by decide) ?_
  refine lv_icmp_ne (tgt := 49) hx hb dX4_weigh_42 (by decide) (fun c_42_34 => absurd (by decide +kernel) c_42_34) (fun _ => ?_)
  refine lv_lconst (v := 0) hx hb dX4_weigh_45 rfl ?_
  refine lv_goto (tgt := 65) hx hb dX4_weigh_46 (by decide) ?_
  refine va_last hx hb hK hP hD hS 3 1 rfl rfl (z_in 1 (by decide) (by decide)) dX4_weigh_65 (fun H locs hP hD hS => ?_)
  have hP : va_P D vwCl [(p5, .inl (cy 3, 9, .inr (.inr (.inr (.inr (fun k9 => if k9 < 9 then some (rt k9) else none)))))), ((rt 0), .inl (cy 1, 3, .inr (.inl (fun _ => 0)))), ((rt 1), .inl (cy 1, 3, .inr (.inl (fun _ => 0)))), ((rt 2), .inl (cy 1, 3, .inr (.inl (vp_updL (vp_updL (fun _ => 0) (0 : Int32).toNatClampNeg 0) (1 : Int32).toNatClampNeg 0)))), ((rt 3), .inl (cy 1, 3, .inr (.inl (fun _ => 0)))), ((rt 4), .inl (cy 1, 3, .inr (.inl (fun _ => 0)))), ((rt 5), .inl (cy 1, 3, .inr (.inl (fun _ => 0)))), ((rt 6), .inl (cy 1, 3, .inr (.inl (fun _ => 0)))), ((rt 7), .inl (cy 1, 3, .inr (.inl (fun _ => 0)))), ((rt 8), .inl (cy 1, 3, .inr (.inl (fun _ => 0)))), (p2, .inl (cy 2, 9, .inl (fun _ => 0))), (p3, .inl (cy 0, 9, .inl (fun _ => (-1)))), (vC, .inr (3, [.ref sS, .ref sJ, .int 0, .int 0])), (p4, .inl (cy 3, 8, .inr (.inr (.inr (.inr (fun k9 => if k9 < 8 then some (rn k9) else none)))))), ((rn 0), .inl (cy 1, 11, .inr (.inl (fun _ => 0)))), ((rn 1), .inl (cy 1, 11, .inr (.inl (fun _ => 0)))), ((rn 2), .inl (cy 1, 11, .inr (.inl (fun _ => 0)))), ((rn 3), .inl (cy 1, 11, .inr (.inl (fun _ => 0)))), ((rn 4), .inl (cy 1, 11, .inr (.inl (fun _ => 0)))), ((rn 5), .inl (cy 1, 11, .inr (.inl (fun _ => 0)))), ((rn 6), .inl (cy 1, 11, .inr (.inl (fun _ => 0)))), ((rn 7), .inl (cy 1, 11, .inr (.inl (fun _ => 0)))), (h0, .inr (7, [.ref vC, .ref p1, .ref p2, .ref p3, .ref p4, .ref p5, .ref p6, .ref p7, .int e1, .long e2, .ref p8, .int 0, .int x2, .long 1]))] H := hP
  have hD : va_D A [(p5, .inl (cy 3, 9, .inr (.inr (.inr (.inr (fun k9 => if k9 < 9 then some (rt k9) else none)))))), ((rt 0), .inl (cy 1, 3, .inr (.inl (fun _ => 0)))), ((rt 1), .inl (cy 1, 3, .inr (.inl (fun _ => 0)))), ((rt 2), .inl (cy 1, 3, .inr (.inl (vp_updL (vp_updL (fun _ => 0) (0 : Int32).toNatClampNeg 0) (1 : Int32).toNatClampNeg 0)))), ((rt 3), .inl (cy 1, 3, .inr (.inl (fun _ => 0)))), ((rt 4), .inl (cy 1, 3, .inr (.inl (fun _ => 0)))), ((rt 5), .inl (cy 1, 3, .inr (.inl (fun _ => 0)))), ((rt 6), .inl (cy 1, 3, .inr (.inl (fun _ => 0)))), ((rt 7), .inl (cy 1, 3, .inr (.inl (fun _ => 0)))), ((rt 8), .inl (cy 1, 3, .inr (.inl (fun _ => 0)))), (p2, .inl (cy 2, 9, .inl (fun _ => 0))), (p3, .inl (cy 0, 9, .inl (fun _ => (-1)))), (vC, .inr (3, [.ref sS, .ref sJ, .int 0, .int 0])), (p4, .inl (cy 3, 8, .inr (.inr (.inr (.inr (fun k9 => if k9 < 8 then some (rn k9) else none)))))), ((rn 0), .inl (cy 1, 11, .inr (.inl (fun _ => 0)))), ((rn 1), .inl (cy 1, 11, .inr (.inl (fun _ => 0)))), ((rn 2), .inl (cy 1, 11, .inr (.inl (fun _ => 0)))), ((rn 3), .inl (cy 1, 11, .inr (.inl (fun _ => 0)))), ((rn 4), .inl (cy 1, 11, .inr (.inl (fun _ => 0)))), ((rn 5), .inl (cy 1, 11, .inr (.inl (fun _ => 0)))), ((rn 6), .inl (cy 1, 11, .inr (.inl (fun _ => 0)))), ((rn 7), .inl (cy 1, 11, .inr (.inl (fun _ => 0)))), (h0, .inr (7, [.ref vC, .ref p1, .ref p2, .ref p3, .ref p4, .ref p5, .ref p6, .ref p7, .int e1, .long e2, .ref p8, .int 0, .int x2, .long 1]))] := hD
  refine lv_iinc (v := 2) (lv' := [(3, .int 2), (2, .int 2), (0, .ref h0), (1, .int 1)]) hx hb dX4_weigh_66 hl (k := 0) rfl (by decide) (by decide) rfl (fun ls hl => ?_)
  refine lv_goto (tgt := 23) hx hb dX4_weigh_69 (by decide) ?_
  refine lv_iload_n hx hb dX4_weigh_23 rfl (lv_at hl 0 rfl) ?_
  refine lv_iconst (v := 3) hx hb dX4_weigh_24 (by decide) ?_
  refine lv_icmp_ge (tgt := 72) hx hb dX4_weigh_25 (by decide) (fun c_25_35 => absurd c_25_35 (by decide +kernel)) (fun _ => ?_)
  refine lv_aload_n hx hb dX4_weigh_28 rfl (lv_at hl 2 rfl) ?_
  refine va_get (D := D) (ci := 7) (v := .ref p5) (C := RX4) (T := TX4) (N := 14) hx hb hts iRX4 hown hK hP 22 rfl rfl 5 (by decide) (hts _ q43) (fun _ h9 => h9) rfl dX4_weigh_29 ?_
  refine lv_iload_n hx hb dX4_weigh_32 rfl (lv_at hl 1 rfl) ?_
  refine va_aldA hx hb hK hP 0 3 rfl rfl (z_in 2 (by decide) (by decide)) dX4_weigh_33 ?_
  rw [show va_rf ((fun k9 => if k9 < 9 then some (rt k9) else none) (2 : Int32).toNatClampNeg) = .ref (rt 2) from rfl]
  refine lv_iload_n hx hb dX4_weigh_34 rfl (lv_at hl 0 rfl) ?_
  refine lv_aload_n hx hb dX4_weigh_35 rfl (lv_at hl 2 rfl) ?_
  refine va_get (D := D) (ci := 7) (v := .ref p3) (C := RX4) (T := TX4) (N := 14) hx hb hts iRX4 hown hK hP 22 rfl rfl 3 (by decide) (hts _ q39) (fun _ h9 => h9) rfl dX4_weigh_36 ?_
  refine lv_iload_n hx hb dX4_weigh_39 rfl (lv_at hl 1 rfl) ?_
  refine va_iald hx hb hK hP 11 0 rfl rfl (z_in 2 (by decide) (by decide)) dX4_weigh_40 ?_
  refine lv_topi (fun y37 ey37 => ?_)
  obtain rfl : y37 = (-1) := ey37.trans rfl
  refine lv_iconst (v := (-1)) hx hb dX4_weigh_41 (by decide) ?_
  refine lv_icmp_ne (tgt := 49) hx hb dX4_weigh_42 (by decide) (fun c_42_37 => absurd (by decide +kernel) c_42_37) (fun _ => ?_)
  refine lv_lconst (v := 0) hx hb dX4_weigh_45 rfl ?_
  refine lv_goto (tgt := 65) hx hb dX4_weigh_46 (by decide) ?_
  refine va_last hx hb hK hP hD hS 3 1 rfl rfl (z_in 2 (by decide) (by decide)) dX4_weigh_65 (fun H locs hP hD hS => ?_)
  have hP : va_P D vwCl [(p5, .inl (cy 3, 9, .inr (.inr (.inr (.inr (fun k9 => if k9 < 9 then some (rt k9) else none)))))), ((rt 0), .inl (cy 1, 3, .inr (.inl (fun _ => 0)))), ((rt 1), .inl (cy 1, 3, .inr (.inl (fun _ => 0)))), ((rt 2), .inl (cy 1, 3, .inr (.inl (vp_updL (vp_updL (vp_updL (fun _ => 0) (0 : Int32).toNatClampNeg 0) (1 : Int32).toNatClampNeg 0) (2 : Int32).toNatClampNeg 0)))), ((rt 3), .inl (cy 1, 3, .inr (.inl (fun _ => 0)))), ((rt 4), .inl (cy 1, 3, .inr (.inl (fun _ => 0)))), ((rt 5), .inl (cy 1, 3, .inr (.inl (fun _ => 0)))), ((rt 6), .inl (cy 1, 3, .inr (.inl (fun _ => 0)))), ((rt 7), .inl (cy 1, 3, .inr (.inl (fun _ => 0)))), ((rt 8), .inl (cy 1, 3, .inr (.inl (fun _ => 0)))), (p2, .inl (cy 2, 9, .inl (fun _ => 0))), (p3, .inl (cy 0, 9, .inl (fun _ => (-1)))), (vC, .inr (3, [.ref sS, .ref sJ, .int 0, .int 0])), (p4, .inl (cy 3, 8, .inr (.inr (.inr (.inr (fun k9 => if k9 < 8 then some (rn k9) else none)))))), ((rn 0), .inl (cy 1, 11, .inr (.inl (fun _ => 0)))), ((rn 1), .inl (cy 1, 11, .inr (.inl (fun _ => 0)))), ((rn 2), .inl (cy 1, 11, .inr (.inl (fun _ => 0)))), ((rn 3), .inl (cy 1, 11, .inr (.inl (fun _ => 0)))), ((rn 4), .inl (cy 1, 11, .inr (.inl (fun _ => 0)))), ((rn 5), .inl (cy 1, 11, .inr (.inl (fun _ => 0)))), ((rn 6), .inl (cy 1, 11, .inr (.inl (fun _ => 0)))), ((rn 7), .inl (cy 1, 11, .inr (.inl (fun _ => 0)))), (h0, .inr (7, [.ref vC, .ref p1, .ref p2, .ref p3, .ref p4, .ref p5, .ref p6, .ref p7, .int e1, .long e2, .ref p8, .int 0, .int x2, .long 1]))] H := hP
  have hD : va_D A [(p5, .inl (cy 3, 9, .inr (.inr (.inr (.inr (fun k9 => if k9 < 9 then some (rt k9) else none)))))), ((rt 0), .inl (cy 1, 3, .inr (.inl (fun _ => 0)))), ((rt 1), .inl (cy 1, 3, .inr (.inl (fun _ => 0)))), ((rt 2), .inl (cy 1, 3, .inr (.inl (vp_updL (vp_updL (vp_updL (fun _ => 0) (0 : Int32).toNatClampNeg 0) (1 : Int32).toNatClampNeg 0) (2 : Int32).toNatClampNeg 0)))), ((rt 3), .inl (cy 1, 3, .inr (.inl (fun _ => 0)))), ((rt 4), .inl (cy 1, 3, .inr (.inl (fun _ => 0)))), ((rt 5), .inl (cy 1, 3, .inr (.inl (fun _ => 0)))), ((rt 6), .inl (cy 1, 3, .inr (.inl (fun _ => 0)))), ((rt 7), .inl (cy 1, 3, .inr (.inl (fun _ => 0)))), ((rt 8), .inl (cy 1, 3, .inr (.inl (fun _ => 0)))), (p2, .inl (cy 2, 9, .inl (fun _ => 0))), (p3, .inl (cy 0, 9, .inl (fun _ => (-1)))), (vC, .inr (3, [.ref sS, .ref sJ, .int 0, .int 0])), (p4, .inl (cy 3, 8, .inr (.inr (.inr (.inr (fun k9 => if k9 < 8 then some (rn k9) else none)))))), ((rn 0), .inl (cy 1, 11, .inr (.inl (fun _ => 0)))), ((rn 1), .inl (cy 1, 11, .inr (.inl (fun _ => 0)))), ((rn 2), .inl (cy 1, 11, .inr (.inl (fun _ => 0)))), ((rn 3), .inl (cy 1, 11, .inr (.inl (fun _ => 0)))), ((rn 4), .inl (cy 1, 11, .inr (.inl (fun _ => 0)))), ((rn 5), .inl (cy 1, 11, .inr (.inl (fun _ => 0)))), ((rn 6), .inl (cy 1, 11, .inr (.inl (fun _ => 0)))), ((rn 7), .inl (cy 1, 11, .inr (.inl (fun _ => 0)))), (h0, .inr (7, [.ref vC, .ref p1, .ref p2, .ref p3, .ref p4, .ref p5, .ref p6, .ref p7, .int e1, .long e2, .ref p8, .int 0, .int x2, .long 1]))] := hD
  refine lv_iinc (v := 3) (lv' := [(3, .int 3), (2, .int 2), (0, .ref h0), (1, .int 1)]) hx hb dX4_weigh_66 hl (k := 0) rfl (by decide) (by decide) rfl (fun ls hl => ?_)
  refine lv_goto (tgt := 23) hx hb dX4_weigh_69 (by decide) ?_
  refine lv_iload_n hx hb dX4_weigh_23 rfl (lv_at hl 0 rfl) ?_
  refine lv_iconst (v := 3) hx hb dX4_weigh_24 (by decide) ?_
  refine lv_icmp_ge (tgt := 72) hx hb dX4_weigh_25 (by decide) (fun _ => ?_) (fun c_25_38 => absurd (by decide +kernel) c_25_38)
  obtain ⟨hP, hD⟩ := zP_l (fun _ => 0) hP hD (q := 3) rfl (fun j hj => by rcases (show j = 0 ∨ j = 1 ∨ j = 2 by omega) with rfl | rfl | rfl <;> rfl)
  have hP : va_P D vwCl [(p5, .inl (cy 3, 9, .inr (.inr (.inr (.inr (fun k9 => if k9 < 9 then some (rt k9) else none)))))), ((rt 0), .inl (cy 1, 3, .inr (.inl (fun _ => 0)))), ((rt 1), .inl (cy 1, 3, .inr (.inl (fun _ => 0)))), ((rt 2), .inl (cy 1, 3, .inr (.inl (fun _ => 0)))), ((rt 3), .inl (cy 1, 3, .inr (.inl (fun _ => 0)))), ((rt 4), .inl (cy 1, 3, .inr (.inl (fun _ => 0)))), ((rt 5), .inl (cy 1, 3, .inr (.inl (fun _ => 0)))), ((rt 6), .inl (cy 1, 3, .inr (.inl (fun _ => 0)))), ((rt 7), .inl (cy 1, 3, .inr (.inl (fun _ => 0)))), ((rt 8), .inl (cy 1, 3, .inr (.inl (fun _ => 0)))), (p2, .inl (cy 2, 9, .inl (fun _ => 0))), (p3, .inl (cy 0, 9, .inl (fun _ => (-1)))), (vC, .inr (3, [.ref sS, .ref sJ, .int 0, .int 0])), (p4, .inl (cy 3, 8, .inr (.inr (.inr (.inr (fun k9 => if k9 < 8 then some (rn k9) else none)))))), ((rn 0), .inl (cy 1, 11, .inr (.inl (fun _ => 0)))), ((rn 1), .inl (cy 1, 11, .inr (.inl (fun _ => 0)))), ((rn 2), .inl (cy 1, 11, .inr (.inl (fun _ => 0)))), ((rn 3), .inl (cy 1, 11, .inr (.inl (fun _ => 0)))), ((rn 4), .inl (cy 1, 11, .inr (.inl (fun _ => 0)))), ((rn 5), .inl (cy 1, 11, .inr (.inl (fun _ => 0)))), ((rn 6), .inl (cy 1, 11, .inr (.inl (fun _ => 0)))), ((rn 7), .inl (cy 1, 11, .inr (.inl (fun _ => 0)))), (h0, .inr (7, [.ref vC, .ref p1, .ref p2, .ref p3, .ref p4, .ref p5, .ref p6, .ref p7, .int e1, .long e2, .ref p8, .int 0, .int x2, .long 1]))] H := hP
  have hD : va_D A [(p5, .inl (cy 3, 9, .inr (.inr (.inr (.inr (fun k9 => if k9 < 9 then some (rt k9) else none)))))), ((rt 0), .inl (cy 1, 3, .inr (.inl (fun _ => 0)))), ((rt 1), .inl (cy 1, 3, .inr (.inl (fun _ => 0)))), ((rt 2), .inl (cy 1, 3, .inr (.inl (fun _ => 0)))), ((rt 3), .inl (cy 1, 3, .inr (.inl (fun _ => 0)))), ((rt 4), .inl (cy 1, 3, .inr (.inl (fun _ => 0)))), ((rt 5), .inl (cy 1, 3, .inr (.inl (fun _ => 0)))), ((rt 6), .inl (cy 1, 3, .inr (.inl (fun _ => 0)))), ((rt 7), .inl (cy 1, 3, .inr (.inl (fun _ => 0)))), ((rt 8), .inl (cy 1, 3, .inr (.inl (fun _ => 0)))), (p2, .inl (cy 2, 9, .inl (fun _ => 0))), (p3, .inl (cy 0, 9, .inl (fun _ => (-1)))), (vC, .inr (3, [.ref sS, .ref sJ, .int 0, .int 0])), (p4, .inl (cy 3, 8, .inr (.inr (.inr (.inr (fun k9 => if k9 < 8 then some (rn k9) else none)))))), ((rn 0), .inl (cy 1, 11, .inr (.inl (fun _ => 0)))), ((rn 1), .inl (cy 1, 11, .inr (.inl (fun _ => 0)))), ((rn 2), .inl (cy 1, 11, .inr (.inl (fun _ => 0)))), ((rn 3), .inl (cy 1, 11, .inr (.inl (fun _ => 0)))), ((rn 4), .inl (cy 1, 11, .inr (.inl (fun _ => 0)))), ((rn 5), .inl (cy 1, 11, .inr (.inl (fun _ => 0)))), ((rn 6), .inl (cy 1, 11, .inr (.inl (fun _ => 0)))), ((rn 7), .inl (cy 1, 11, .inr (.inl (fun _ => 0)))), (h0, .inr (7, [.ref vC, .ref p1, .ref p2, .ref p3, .ref p4, .ref p5, .ref p6, .ref p7, .int e1, .long e2, .ref p8, .int 0, .int x2, .long 1]))] := hD
  refine lv_iinc (v := 3) (lv' := [(2, .int 3), (3, .int 3), (0, .ref h0), (1, .int 1)]) hx hb dX4_weigh_72 hl (k := 1) rfl (by decide) (by decide) rfl (fun ls hl => ?_)
  refine lv_goto (tgt := 15) hx hb dX4_weigh_75 (by decide) ?_
  refine lv_iload_n hx hb dX4_weigh_15 rfl (lv_at hl 0 rfl) ?_
  refine lv_bipush (v := 9) hx hb dX4_weigh_16 (by decide) ?_
  refine lv_icmp_ge (tgt := 78) hx hb dX4_weigh_18 (by decide) (fun c_18_39 => absurd c_18_39 (by decide +kernel)) (fun _ => ?_)
  refine lv_iconst (v := 0) hx hb dX4_weigh_21 (by decide) ?_
  refine lv_istore_n (lv' := [(3, .int 0), (2, .int 3), (0, .ref h0), (1, .int 1)]) hx hb dX4_weigh_22 rfl hl (by decide) rfl (fun ls hl => ?_)
  refine lv_iload_n hx hb dX4_weigh_23 rfl (lv_at hl 0 rfl) ?_
  refine lv_iconst (v := 3) hx hb dX4_weigh_24 (by decide) ?_
  refine lv_icmp_ge (tgt := 72) hx hb dX4_weigh_25 (by decide) (fun c_25_40 => absurd c_25_40 (by decide +kernel)) (fun _ => ?_)
  refine lv_aload_n hx hb dX4_weigh_28 rfl (lv_at hl 2 rfl) ?_
  refine va_get (D := D) (ci := 7) (v := .ref p5) (C := RX4) (T := TX4) (N := 14) hx hb hts iRX4 hown hK hP 22 rfl rfl 5 (by decide) (hts _ q43) (fun _ h9 => h9) rfl dX4_weigh_29 ?_
  refine lv_iload_n hx hb dX4_weigh_32 rfl (lv_at hl 1 rfl) ?_
  refine va_aldA hx hb hK hP 0 3 rfl rfl (z_in 3 (by decide) (by decide)) dX4_weigh_33 ?_
  rw [show va_rf ((fun k9 => if k9 < 9 then some (rt k9) else none) (3 : Int32).toNatClampNeg) = .ref (rt 3) from rfl]
  refine lv_iload_n hx hb dX4_weigh_34 rfl (lv_at hl 0 rfl) ?_
  refine lv_aload_n hx hb dX4_weigh_35 rfl (lv_at hl 2 rfl) ?_
  refine va_get (D := D) (ci := 7) (v := .ref p3) (C := RX4) (T := TX4) (N := 14) hx hb hts iRX4 hown hK hP 22 rfl rfl 3 (by decide) (hts _ q39) (fun _ h9 => h9) rfl dX4_weigh_36 ?_
  refine lv_iload_n hx hb dX4_weigh_39 rfl (lv_at hl 1 rfl) ?_
  refine va_iald hx hb hK hP 11 0 rfl rfl (z_in 3 (by decide) (by decide)) dX4_weigh_40 ?_
  refine lv_topi (fun y42 ey42 => ?_)
  obtain rfl : y42 = (-1) := ey42.trans rfl
  refine lv_iconst (v := (-1)) hx hb dX4_weigh_41 (by decide) ?_
  refine lv_icmp_ne (tgt := 49) hx hb dX4_weigh_42 (by decide) (fun c_42_42 => absurd (by decide +kernel) c_42_42) (fun _ => ?_)
  refine lv_lconst (v := 0) hx hb dX4_weigh_45 rfl ?_
  refine lv_goto (tgt := 65) hx hb dX4_weigh_46 (by decide) ?_
  refine va_last hx hb hK hP hD hS 4 1 rfl rfl (z_in 0 (by decide) (by decide)) dX4_weigh_65 (fun H locs hP hD hS => ?_)
  have hP : va_P D vwCl [(p5, .inl (cy 3, 9, .inr (.inr (.inr (.inr (fun k9 => if k9 < 9 then some (rt k9) else none)))))), ((rt 0), .inl (cy 1, 3, .inr (.inl (fun _ => 0)))), ((rt 1), .inl (cy 1, 3, .inr (.inl (fun _ => 0)))), ((rt 2), .inl (cy 1, 3, .inr (.inl (fun _ => 0)))), ((rt 3), .inl (cy 1, 3, .inr (.inl (vp_updL (fun _ => 0) (0 : Int32).toNatClampNeg 0)))), ((rt 4), .inl (cy 1, 3, .inr (.inl (fun _ => 0)))), ((rt 5), .inl (cy 1, 3, .inr (.inl (fun _ => 0)))), ((rt 6), .inl (cy 1, 3, .inr (.inl (fun _ => 0)))), ((rt 7), .inl (cy 1, 3, .inr (.inl (fun _ => 0)))), ((rt 8), .inl (cy 1, 3, .inr (.inl (fun _ => 0)))), (p2, .inl (cy 2, 9, .inl (fun _ => 0))), (p3, .inl (cy 0, 9, .inl (fun _ => (-1)))), (vC, .inr (3, [.ref sS, .ref sJ, .int 0, .int 0])), (p4, .inl (cy 3, 8, .inr (.inr (.inr (.inr (fun k9 => if k9 < 8 then some (rn k9) else none)))))), ((rn 0), .inl (cy 1, 11, .inr (.inl (fun _ => 0)))), ((rn 1), .inl (cy 1, 11, .inr (.inl (fun _ => 0)))), ((rn 2), .inl (cy 1, 11, .inr (.inl (fun _ => 0)))), ((rn 3), .inl (cy 1, 11, .inr (.inl (fun _ => 0)))), ((rn 4), .inl (cy 1, 11, .inr (.inl (fun _ => 0)))), ((rn 5), .inl (cy 1, 11, .inr (.inl (fun _ => 0)))), ((rn 6), .inl (cy 1, 11, .inr (.inl (fun _ => 0)))), ((rn 7), .inl (cy 1, 11, .inr (.inl (fun _ => 0)))), (h0, .inr (7, [.ref vC, .ref p1, .ref p2, .ref p3, .ref p4, .ref p5, .ref p6, .ref p7, .int e1, .long e2, .ref p8, .int 0, .int x2, .long 1]))] H := hP
  have hD : va_D A [(p5, .inl (cy 3, 9, .inr (.inr (.inr (.inr (fun k9 => if k9 < 9 then some (rt k9) else none)))))), ((rt 0), .inl (cy 1, 3, .inr (.inl (fun _ => 0)))), ((rt 1), .inl (cy 1, 3, .inr (.inl (fun _ => 0)))), ((rt 2), .inl (cy 1, 3, .inr (.inl (fun _ => 0)))), ((rt 3), .inl (cy 1, 3, .inr (.inl (vp_updL (fun _ => 0) (0 : Int32).toNatClampNeg 0)))), ((rt 4), .inl (cy 1, 3, .inr (.inl (fun _ => 0)))), ((rt 5), .inl (cy 1, 3, .inr (.inl (fun _ => 0)))), ((rt 6), .inl (cy 1, 3, .inr (.inl (fun _ => 0)))), ((rt 7), .inl (cy 1, 3, .inr (.inl (fun _ => 0)))), ((rt 8), .inl (cy 1, 3, .inr (.inl (fun _ => 0)))), (p2, .inl (cy 2, 9, .inl (fun _ => 0))), (p3, .inl (cy 0, 9, .inl (fun _ => (-1)))), (vC, .inr (3, [.ref sS, .ref sJ, .int 0, .int 0])), (p4, .inl (cy 3, 8, .inr (.inr (.inr (.inr (fun k9 => if k9 < 8 then some (rn k9) else none)))))), ((rn 0), .inl (cy 1, 11, .inr (.inl (fun _ => 0)))), ((rn 1), .inl (cy 1, 11, .inr (.inl (fun _ => 0)))), ((rn 2), .inl (cy 1, 11, .inr (.inl (fun _ => 0)))), ((rn 3), .inl (cy 1, 11, .inr (.inl (fun _ => 0)))), ((rn 4), .inl (cy 1, 11, .inr (.inl (fun _ => 0)))), ((rn 5), .inl (cy 1, 11, .inr (.inl (fun _ => 0)))), ((rn 6), .inl (cy 1, 11, .inr (.inl (fun _ => 0)))), ((rn 7), .inl (cy 1, 11, .inr (.inl (fun _ => 0)))), (h0, .inr (7, [.ref vC, .ref p1, .ref p2, .ref p3, .ref p4, .ref p5, .ref p6, .ref p7, .int e1, .long e2, .ref p8, .int 0, .int x2, .long 1]))] := hD
  refine lv_iinc (v := 1) (lv' := [(3, .int 1), (2, .int 3), (0, .ref h0), (1, .int 1)]) hx hb dX4_weigh_66 hl (k := 0) rfl (by decide) (by decide) rfl (fun ls hl => ?_)
  refine lv_goto (tgt := 23) hx hb dX4_weigh_69 (by decide) ?_
  refine lv_iload_n hx hb dX4_weigh_23 rfl (lv_at hl 0 rfl) ?_
  refine lv_iconst (v := 3) hx hb dX4_weigh_24 (by decide) ?_
  refine lv_icmp_ge (tgt := 72) hx hb dX4_weigh_25 (by decide) (fun c_25_43 => absurd c_25_43 (by decide +kernel)) (fun _ => ?_)
  refine lv_aload_n hx hb dX4_weigh_28 rfl (lv_at hl 2 rfl) ?_
  refine va_get (D := D) (ci := 7) (v := .ref p5) (C := RX4) (T := TX4) (N := 14) hx hb hts iRX4 hown hK hP 22 rfl rfl 5 (by decide) (hts _ q43) (fun _ h9 => h9) rfl dX4_weigh_29 ?_
  refine lv_iload_n hx hb dX4_weigh_32 rfl (lv_at hl 1 rfl) ?_
  refine va_aldA hx hb hK hP 0 3 rfl rfl (z_in 3 (by decide) (by decide)) dX4_weigh_33 ?_
  rw [show va_rf ((fun k9 => if k9 < 9 then some (rt k9) else none) (3 : Int32).toNatClampNeg) = .ref (rt 3) from rfl]
  refine lv_iload_n hx hb dX4_weigh_34 rfl (lv_at hl 0 rfl) ?_
  refine lv_aload_n hx hb dX4_weigh_35 rfl (lv_at hl 2 rfl) ?_
  refine va_get (D := D) (ci := 7) (v := .ref p3) (C := RX4) (T := TX4) (N := 14) hx hb hts iRX4 hown hK hP 22 rfl rfl 3 (by decide) (hts _ q39) (fun _ h9 => h9) rfl dX4_weigh_36 ?_
  refine lv_iload_n hx hb dX4_weigh_39 rfl (lv_at hl 1 rfl) ?_
  refine va_iald hx hb hK hP 11 0 rfl rfl (z_in 3 (by decide) (by decide)) dX4_weigh_40 ?_
  refine lv_topi (fun y45 ey45 => ?_)
  obtain rfl : y45 = (-1) := ey45.trans rfl
  refine lv_iconst (v := (-1)) hx hb dX4_weigh_41 (by decide) ?_
  refine lv_icmp_ne (tgt := 49) hx hb dX4_weigh_42 (by decide) (fun c_42_45 => absurd (by decide +kernel) c_42_45) (fun _ => ?_)
  refine lv_lconst (v := 0) hx hb dX4_weigh_45 rfl ?_
  refine lv_goto (tgt := 65) hx hb dX4_weigh_46 (by decide) ?_
  refine va_last hx hb hK hP hD hS 4 1 rfl rfl (z_in 1 (by decide) (by decide)) dX4_weigh_65 (fun H locs hP hD hS => ?_)
  have hP : va_P D vwCl [(p5, .inl (cy 3, 9, .inr (.inr (.inr (.inr (fun k9 => if k9 < 9 then some (rt k9) else none)))))), ((rt 0), .inl (cy 1, 3, .inr (.inl (fun _ => 0)))), ((rt 1), .inl (cy 1, 3, .inr (.inl (fun _ => 0)))), ((rt 2), .inl (cy 1, 3, .inr (.inl (fun _ => 0)))), ((rt 3), .inl (cy 1, 3, .inr (.inl (vp_updL (vp_updL (fun _ => 0) (0 : Int32).toNatClampNeg 0) (1 : Int32).toNatClampNeg 0)))), ((rt 4), .inl (cy 1, 3, .inr (.inl (fun _ => 0)))), ((rt 5), .inl (cy 1, 3, .inr (.inl (fun _ => 0)))), ((rt 6), .inl (cy 1, 3, .inr (.inl (fun _ => 0)))), ((rt 7), .inl (cy 1, 3, .inr (.inl (fun _ => 0)))), ((rt 8), .inl (cy 1, 3, .inr (.inl (fun _ => 0)))), (p2, .inl (cy 2, 9, .inl (fun _ => 0))), (p3, .inl (cy 0, 9, .inl (fun _ => (-1)))), (vC, .inr (3, [.ref sS, .ref sJ, .int 0, .int 0])), (p4, .inl (cy 3, 8, .inr (.inr (.inr (.inr (fun k9 => if k9 < 8 then some (rn k9) else none)))))), ((rn 0), .inl (cy 1, 11, .inr (.inl (fun _ => 0)))), ((rn 1), .inl (cy 1, 11, .inr (.inl (fun _ => 0)))), ((rn 2), .inl (cy 1, 11, .inr (.inl (fun _ => 0)))), ((rn 3), .inl (cy 1, 11, .inr (.inl (fun _ => 0)))), ((rn 4), .inl (cy 1, 11, .inr (.inl (fun _ => 0)))), ((rn 5), .inl (cy 1, 11, .inr (.inl (fun _ => 0)))), ((rn 6), .inl (cy 1, 11, .inr (.inl (fun _ => 0)))), ((rn 7), .inl (cy 1, 11, .inr (.inl (fun _ => 0)))), (h0, .inr (7, [.ref vC, .ref p1, .ref p2, .ref p3, .ref p4, .ref p5, .ref p6, .ref p7, .int e1, .long e2, .ref p8, .int 0, .int x2, .long 1]))] H := hP
  have hD : va_D A [(p5, .inl (cy 3, 9, .inr (.inr (.inr (.inr (fun k9 => if k9 < 9 then some (rt k9) else none)))))), ((rt 0), .inl (cy 1, 3, .inr (.inl (fun _ => 0)))), ((rt 1), .inl (cy 1, 3, .inr (.inl (fun _ => 0)))), ((rt 2), .inl (cy 1, 3, .inr (.inl (fun _ => 0)))), ((rt 3), .inl (cy 1, 3, .inr (.inl (vp_updL (vp_updL (fun _ => 0) (0 : Int32).toNatClampNeg 0) (1 : Int32).toNatClampNeg 0)))), ((rt 4), .inl (cy 1, 3, .inr (.inl (fun _ => 0)))), ((rt 5), .inl (cy 1, 3, .inr (.inl (fun _ => 0)))), ((rt 6), .inl (cy 1, 3, .inr (.inl (fun _ => 0)))), ((rt 7), .inl (cy 1, 3, .inr (.inl (fun _ => 0)))), ((rt 8), .inl (cy 1, 3, .inr (.inl (fun _ => 0)))), (p2, .inl (cy 2, 9, .inl (fun _ => 0))), (p3, .inl (cy 0, 9, .inl (fun _ => (-1)))), (vC, .inr (3, [.ref sS, .ref sJ, .int 0, .int 0])), (p4, .inl (cy 3, 8, .inr (.inr (.inr (.inr (fun k9 => if k9 < 8 then some (rn k9) else none)))))), ((rn 0), .inl (cy 1, 11, .inr (.inl (fun _ => 0)))), ((rn 1), .inl (cy 1, 11, .inr (.inl (fun _ => 0)))), ((rn 2), .inl (cy 1, 11, .inr (.inl (fun _ => 0)))), ((rn 3), .inl (cy 1, 11, .inr (.inl (fun _ => 0)))), ((rn 4), .inl (cy 1, 11, .inr (.inl (fun _ => 0)))), ((rn 5), .inl (cy 1, 11, .inr (.inl (fun _ => 0)))), ((rn 6), .inl (cy 1, 11, .inr (.inl (fun _ => 0)))), ((rn 7), .inl (cy 1, 11, .inr (.inl (fun _ => 0)))), (h0, .inr (7, [.ref vC, .ref p1, .ref p2, .ref p3, .ref p4, .ref p5, .ref p6, .ref p7, .int e1, .long e2, .ref p8, .int 0, .int x2, .long 1]))] := hD
  refine lv_iinc (v := 2) (lv' := [(3, .int 2), (2, .int 3), (0, .ref h0), (1, .int 1)]) hx hb dX4_weigh_66 hl (k := 0) rfl (by decide) (by decide) rfl (fun ls hl => ?_)
  refine lv_goto (tgt := 23) hx hb dX4_weigh_69 (by decide) ?_
  refine lv_iload_n hx hb dX4_weigh_23 rfl (lv_at hl 0 rfl) ?_
  refine lv_iconst (v := 3) hx hb dX4_weigh_24 (by decide) ?_
  refine lv_icmp_ge (tgt := 72) hx hb dX4_weigh_25 (by decide) (fun c_25_46 => absurd c_25_46 (by decide +kernel)) (fun _ => ?_)
  refine lv_aload_n hx hb dX4_weigh_28 rfl (lv_at hl 2 rfl) ?_
  refine va_get (D := D) (ci := 7) (v := .ref p5) (C := RX4) (T := TX4) (N := 14) hx hb hts iRX4 hown hK hP 22 rfl rfl 5 (by decide) (hts _ q43) (fun _ h9 => h9) rfl dX4_weigh_29 ?_
  refine lv_iload_n hx hb dX4_weigh_32 rfl (lv_at hl 1 rfl) ?_
  refine va_aldA hx hb hK hP 0 3 rfl rfl (z_in 3 (by decide) (by decide)) dX4_weigh_33 ?_
  rw [show va_rf ((fun k9 => if k9 < 9 then some (rt k9) else none) (3 : Int32).toNatClampNeg) = .ref (rt 3) from rfl]
  refine lv_iload_n hx hb dX4_weigh_34 rfl (lv_at hl 0 rfl) ?_
  refine lv_aload_n hx hb dX4_weigh_35 rfl (lv_at hl 2 rfl) ?_
  refine va_get (D := D) (ci := 7) (v := .ref p3) (C := RX4) (T := TX4) (N := 14) hx hb hts iRX4 hown hK hP 22 rfl rfl 3 (by decide) (hts _ q39) (fun _ h9 => h9) rfl dX4_weigh_36 ?_
  refine lv_iload_n hx hb dX4_weigh_39 rfl (lv_at hl 1 rfl) ?_
  refine va_iald hx hb hK hP 11 0 rfl rfl (z_in 3 (by decide) (by decide)) dX4_weigh_40 ?_
  refine lv_topi (fun y48 ey48 => ?_)
  obtain rfl : y48 = (-1) := ey48.trans rfl
  refine lv_iconst (v := (-1)) hx hb dX4_weigh_41 (by decide) ?_
  refine lv_icmp_ne (tgt := 49) hx hb dX4_weigh_42 (by decide) (fun c_42_48 => absurd (by decide +kernel) c_42_48) (fun _ => ?_)
  refine lv_lconst (v := 0) hx hb dX4_weigh_45 rfl ?_
  refine lv_goto (tgt := 65) hx hb dX4_weigh_46 (by decide) ?_
  refine va_last hx hb hK hP hD hS 4 1 rfl rfl (z_in 2 (by decide) (by decide)) dX4_weigh_65 (fun H locs hP hD hS => ?_)
  have hP : va_P D vwCl [(p5, .inl (cy 3, 9, .inr (.inr (.inr (.inr (fun k9 => if k9 < 9 then some (rt k9) else none)))))), ((rt 0), .inl (cy 1, 3, .inr (.inl (fun _ => 0)))), ((rt 1), .inl (cy 1, 3, .inr (.inl (fun _ => 0)))), ((rt 2), .inl (cy 1, 3, .inr (.inl (fun _ => 0)))), ((rt 3), .inl (cy 1, 3, .inr (.inl (vp_updL (vp_updL (vp_updL (fun _ => 0) (0 : Int32).toNatClampNeg 0) (1 : Int32).toNatClampNeg 0) (2 : Int32).toNatClampNeg 0)))), ((rt 4), .inl (cy 1, 3, .inr (.inl (fun _ => 0)))), ((rt 5), .inl (cy 1, 3, .inr (.inl (fun _ => 0)))), ((rt 6), .inl (cy 1, 3, .inr (.inl (fun _ => 0)))), ((rt 7), .inl (cy 1, 3, .inr (.inl (fun _ => 0)))), ((rt 8), .inl (cy 1, 3, .inr (.inl (fun _ => 0)))), (p2, .inl (cy 2, 9, .inl (fun _ => 0))), (p3, .inl (cy 0, 9, .inl (fun _ => (-1)))), (vC, .inr (3, [.ref sS, .ref sJ, .int 0, .int 0])), (p4, .inl (cy 3, 8, .inr (.inr (.inr (.inr (fun k9 => if k9 < 8 then some (rn k9) else none)))))), ((rn 0), .inl (cy 1, 11, .inr (.inl (fun _ => 0)))), ((rn 1), .inl (cy 1, 11, .inr (.inl (fun _ => 0)))), ((rn 2), .inl (cy 1, 11, .inr (.inl (fun _ => 0)))), ((rn 3), .inl (cy 1, 11, .inr (.inl (fun _ => 0)))), ((rn 4), .inl (cy 1, 11, .inr (.inl (fun _ => 0)))), ((rn 5), .inl (cy 1, 11, .inr (.inl (fun _ => 0)))), ((rn 6), .inl (cy 1, 11, .inr (.inl (fun _ => 0)))), ((rn 7), .inl (cy 1, 11, .inr (.inl (fun _ => 0)))), (h0, .inr (7, [.ref vC, .ref p1, .ref p2, .ref p3, .ref p4, .ref p5, .ref p6, .ref p7, .int e1, .long e2, .ref p8, .int 0, .int x2, .long 1]))] H := hP
  have hD : va_D A [(p5, .inl (cy 3, 9, .inr (.inr (.inr (.inr (fun k9 => if k9 < 9 then some (rt k9) else none)))))), ((rt 0), .inl (cy 1, 3, .inr (.inl (fun _ => 0)))), ((rt 1), .inl (cy 1, 3, .inr (.inl (fun _ => 0)))), ((rt 2), .inl (cy 1, 3, .inr (.inl (fun _ => 0)))), ((rt 3), .inl (cy 1, 3, .inr (.inl (vp_updL (vp_updL (vp_updL (fun _ => 0) (0 : Int32).toNatClampNeg 0) (1 : Int32).toNatClampNeg 0) (2 : Int32).toNatClampNeg 0)))), ((rt 4), .inl (cy 1, 3, .inr (.inl (fun _ => 0)))), ((rt 5), .inl (cy 1, 3, .inr (.inl (fun _ => 0)))), ((rt 6), .inl (cy 1, 3, .inr (.inl (fun _ => 0)))), ((rt 7), .inl (cy 1, 3, .inr (.inl (fun _ => 0)))), ((rt 8), .inl (cy 1, 3, .inr (.inl (fun _ => 0)))), (p2, .inl (cy 2, 9, .inl (fun _ => 0))), (p3, .inl (cy 0, 9, .inl (fun _ => (-1)))), (vC, .inr (3, [.ref sS, .ref sJ, .int 0, .int 0])), (p4, .inl (cy 3, 8, .inr (.inr (.inr (.inr (fun k9 => if k9 < 8 then some (rn k9) else none)))))), ((rn 0), .inl (cy 1, 11, .inr (.inl (fun _ => 0)))), ((rn 1), .inl (cy 1, 11, .inr (.inl (fun _ => 0)))), ((rn 2), .inl (cy 1, 11, .inr (.inl (fun _ => 0)))), ((rn 3), .inl (cy 1, 11, .inr (.inl (fun _ => 0)))), ((rn 4), .inl (cy 1, 11, .inr (.inl (fun _ => 0)))), ((rn 5), .inl (cy 1, 11, .inr (.inl (fun _ => 0)))), ((rn 6), .inl (cy 1, 11, .inr (.inl (fun _ => 0)))), ((rn 7), .inl (cy 1, 11, .inr (.inl (fun _ => 0)))), (h0, .inr (7, [.ref vC, .ref p1, .ref p2, .ref p3, .ref p4, .ref p5, .ref p6, .ref p7, .int e1, .long e2, .ref p8, .int 0, .int x2, .long 1]))] := hD
  refine lv_iinc (v := 3) (lv' := [(3, .int 3), (2, .int 3), (0, .ref h0), (1, .int 1)]) hx hb dX4_weigh_66 hl (k := 0) rfl (by decide) (by decide) rfl (fun ls hl => ?_)
  refine lv_goto (tgt := 23) hx hb dX4_weigh_69 (by decide) ?_
  refine lv_iload_n hx hb dX4_weigh_23 rfl (lv_at hl 0 rfl) ?_
  refine lv_iconst (v := 3) hx hb dX4_weigh_24 (by decide) ?_
  refine lv_icmp_ge (tgt := 72) hx hb dX4_weigh_25 (by decide) (fun _ => ?_) (fun c_25_49 => absurd (by decide +kernel) c_25_49)
  obtain ⟨hP, hD⟩ := zP_l (fun _ => 0) hP hD (q := 4) rfl (fun j hj => by rcases (show j = 0 ∨ j = 1 ∨ j = 2 by omega) with rfl | rfl | rfl <;> rfl)
  have hP : va_P D vwCl [(p5, .inl (cy 3, 9, .inr (.inr (.inr (.inr (fun k9 => if k9 < 9 then some (rt k9) else none)))))), ((rt 0), .inl (cy 1, 3, .inr (.inl (fun _ => 0)))), ((rt 1), .inl (cy 1, 3, .inr (.inl (fun _ => 0)))), ((rt 2), .inl (cy 1, 3, .inr (.inl (fun _ => 0)))), ((rt 3), .inl (cy 1, 3, .inr (.inl (fun _ => 0)))), ((rt 4), .inl (cy 1, 3, .inr (.inl (fun _ => 0)))), ((rt 5), .inl (cy 1, 3, .inr (.inl (fun _ => 0)))), ((rt 6), .inl (cy 1, 3, .inr (.inl (fun _ => 0)))), ((rt 7), .inl (cy 1, 3, .inr (.inl (fun _ => 0)))), ((rt 8), .inl (cy 1, 3, .inr (.inl (fun _ => 0)))), (p2, .inl (cy 2, 9, .inl (fun _ => 0))), (p3, .inl (cy 0, 9, .inl (fun _ => (-1)))), (vC, .inr (3, [.ref sS, .ref sJ, .int 0, .int 0])), (p4, .inl (cy 3, 8, .inr (.inr (.inr (.inr (fun k9 => if k9 < 8 then some (rn k9) else none)))))), ((rn 0), .inl (cy 1, 11, .inr (.inl (fun _ => 0)))), ((rn 1), .inl (cy 1, 11, .inr (.inl (fun _ => 0)))), ((rn 2), .inl (cy 1, 11, .inr (.inl (fun _ => 0)))), ((rn 3), .inl (cy 1, 11, .inr (.inl (fun _ => 0)))), ((rn 4), .inl (cy 1, 11, .inr (.inl (fun _ => 0)))), ((rn 5), .inl (cy 1, 11, .inr (.inl (fun _ => 0)))), ((rn 6), .inl (cy 1, 11, .inr (.inl (fun _ => 0)))), ((rn 7), .inl (cy 1, 11, .inr (.inl (fun _ => 0)))), (h0, .inr (7, [.ref vC, .ref p1, .ref p2, .ref p3, .ref p4, .ref p5, .ref p6, .ref p7, .int e1, .long e2, .ref p8, .int 0, .int x2, .long 1]))] H := hP
  have hD : va_D A [(p5, .inl (cy 3, 9, .inr (.inr (.inr (.inr (fun k9 => if k9 < 9 then some (rt k9) else none)))))), ((rt 0), .inl (cy 1, 3, .inr (.inl (fun _ => 0)))), ((rt 1), .inl (cy 1, 3, .inr (.inl (fun _ => 0)))), ((rt 2), .inl (cy 1, 3, .inr (.inl (fun _ => 0)))), ((rt 3), .inl (cy 1, 3, .inr (.inl (fun _ => 0)))), ((rt 4), .inl (cy 1, 3, .inr (.inl (fun _ => 0)))), ((rt 5), .inl (cy 1, 3, .inr (.inl (fun _ => 0)))), ((rt 6), .inl (cy 1, 3, .inr (.inl (fun _ => 0)))), ((rt 7), .inl (cy 1, 3, .inr (.inl (fun _ => 0)))), ((rt 8), .inl (cy 1, 3, .inr (.inl (fun _ => 0)))), (p2, .inl (cy 2, 9, .inl (fun _ => 0))), (p3, .inl (cy 0, 9, .inl (fun _ => (-1)))), (vC, .inr (3, [.ref sS, .ref sJ, .int 0, .int 0])), (p4, .inl (cy 3, 8, .inr (.inr (.inr (.inr (fun k9 => if k9 < 8 then some (rn k9) else none)))))), ((rn 0), .inl (cy 1, 11, .inr (.inl (fun _ => 0)))), ((rn 1), .inl (cy 1, 11, .inr (.inl (fun _ => 0)))), ((rn 2), .inl (cy 1, 11, .inr (.inl (fun _ => 0)))), ((rn 3), .inl (cy 1, 11, .inr (.inl (fun _ => 0)))), ((rn 4), .inl (cy 1, 11, .inr (.inl (fun _ => 0)))), ((rn 5), .inl (cy 1, 11, .inr (.inl (fun _ => 0)))), ((rn 6), .inl (cy 1, 11, .inr (.inl (fun _ => 0)))), ((rn 7), .inl (cy 1, 11, .inr (.inl (fun _ => 0)))), (h0, .inr (7, [.ref vC, .ref p1, .ref p2, .ref p3, .ref p4, .ref p5, .ref p6, .ref p7, .int e1, .long e2, .ref p8, .int 0, .int x2, .long 1]))] := hD
  refine lv_iinc (v := 4) (lv' := [(2, .int 4), (3, .int 3), (0, .ref h0), (1, .int 1)]) hx hb dX4_weigh_72 hl (k := 1) rfl (by decide) (by decide) rfl (fun ls hl => ?_)
  refine lv_goto (tgt := 15) hx hb dX4_weigh_75 (by decide) ?_
  refine lv_iload_n hx hb dX4_weigh_15 rfl (lv_at hl 0 rfl) ?_
  refine lv_bipush (v := 9) hx hb dX4_weigh_16 (by decide) ?_
  refine lv_icmp_ge (tgt := 78) hx hb dX4_weigh_18 (by decide) (fun c_18_50 => absurd c_18_50 (by decide +kernel)) (fun _ => ?_)
  refine lv_iconst (v := 0) hx hb dX4_weigh_21 (by decide) ?_
  refine lv_istore_n (lv' := [(3, .int 0), (2, .int 4), (0, .ref h0), (1, .int 1)]) hx hb dX4_weigh_22 rfl hl (by decide) rfl (fun ls hl => ?_)
  refine lv_iload_n hx hb dX4_weigh_23 rfl (lv_at hl 0 rfl) ?_
  refine lv_iconst (v := 3) hx hb dX4_weigh_24 (by decide) ?_
  refine lv_icmp_ge (tgt := 72) hx hb dX4_weigh_25 (by decide) (fun c_25_51 => absurd c_25_51 (by decide +kernel)) (fun _ => ?_)
  refine lv_aload_n hx hb dX4_weigh_28 rfl (lv_at hl 2 rfl) ?_
  refine va_get (D := D) (ci := 7) (v := .ref p5) (C := RX4) (T := TX4) (N := 14) hx hb hts iRX4 hown hK hP 22 rfl rfl 5 (by decide) (hts _ q43) (fun _ h9 => h9) rfl dX4_weigh_29 ?_
  refine lv_iload_n hx hb dX4_weigh_32 rfl (lv_at hl 1 rfl) ?_
  refine va_aldA hx hb hK hP 0 3 rfl rfl (z_in 4 (by decide) (by decide)) dX4_weigh_33 ?_
  rw [show va_rf ((fun k9 => if k9 < 9 then some (rt k9) else none) (4 : Int32).toNatClampNeg) = .ref (rt 4) from rfl]
  refine lv_iload_n hx hb dX4_weigh_34 rfl (lv_at hl 0 rfl) ?_
  refine lv_aload_n hx hb dX4_weigh_35 rfl (lv_at hl 2 rfl) ?_
  refine va_get (D := D) (ci := 7) (v := .ref p3) (C := RX4) (T := TX4) (N := 14) hx hb hts iRX4 hown hK hP 22 rfl rfl 3 (by decide) (hts _ q39) (fun _ h9 => h9) rfl dX4_weigh_36 ?_
  refine lv_iload_n hx hb dX4_weigh_39 rfl (lv_at hl 1 rfl) ?_
  refine va_iald hx hb hK hP 11 0 rfl rfl (z_in 4 (by decide) (by decide)) dX4_weigh_40 ?_
  refine lv_topi (fun y53 ey53 => ?_)
  obtain rfl : y53 = (-1) := ey53.trans rfl
  refine lv_iconst (v := (-1)) hx hb dX4_weigh_41 (by decide) ?_
  refine lv_icmp_ne (tgt := 49) hx hb dX4_weigh_42 (by decide) (fun c_42_53 => absurd (by decide +kernel) c_42_53) (fun _ => ?_)
  refine lv_lconst (v := 0) hx hb dX4_weigh_45 rfl ?_
  refine lv_goto (tgt := 65) hx hb dX4_weigh_46 (by decide) ?_
  refine va_last hx hb hK hP hD hS 5 1 rfl rfl (z_in 0 (by decide) (by decide)) dX4_weigh_65 (fun H locs hP hD hS => ?_)
  have hP : va_P D vwCl [(p5, .inl (cy 3, 9, .inr (.inr (.inr (.inr (fun k9 => if k9 < 9 then some (rt k9) else none)))))), ((rt 0), .inl (cy 1, 3, .inr (.inl (fun _ => 0)))), ((rt 1), .inl (cy 1, 3, .inr (.inl (fun _ => 0)))), ((rt 2), .inl (cy 1, 3, .inr (.inl (fun _ => 0)))), ((rt 3), .inl (cy 1, 3, .inr (.inl (fun _ => 0)))), ((rt 4), .inl (cy 1, 3, .inr (.inl (vp_updL (fun _ => 0) (0 : Int32).toNatClampNeg 0)))), ((rt 5), .inl (cy 1, 3, .inr (.inl (fun _ => 0)))), ((rt 6), .inl (cy 1, 3, .inr (.inl (fun _ => 0)))), ((rt 7), .inl (cy 1, 3, .inr (.inl (fun _ => 0)))), ((rt 8), .inl (cy 1, 3, .inr (.inl (fun _ => 0)))), (p2, .inl (cy 2, 9, .inl (fun _ => 0))), (p3, .inl (cy 0, 9, .inl (fun _ => (-1)))), (vC, .inr (3, [.ref sS, .ref sJ, .int 0, .int 0])), (p4, .inl (cy 3, 8, .inr (.inr (.inr (.inr (fun k9 => if k9 < 8 then some (rn k9) else none)))))), ((rn 0), .inl (cy 1, 11, .inr (.inl (fun _ => 0)))), ((rn 1), .inl (cy 1, 11, .inr (.inl (fun _ => 0)))), ((rn 2), .inl (cy 1, 11, .inr (.inl (fun _ => 0)))), ((rn 3), .inl (cy 1, 11, .inr (.inl (fun _ => 0)))), ((rn 4), .inl (cy 1, 11, .inr (.inl (fun _ => 0)))), ((rn 5), .inl (cy 1, 11, .inr (.inl (fun _ => 0)))), ((rn 6), .inl (cy 1, 11, .inr (.inl (fun _ => 0)))), ((rn 7), .inl (cy 1, 11, .inr (.inl (fun _ => 0)))), (h0, .inr (7, [.ref vC, .ref p1, .ref p2, .ref p3, .ref p4, .ref p5, .ref p6, .ref p7, .int e1, .long e2, .ref p8, .int 0, .int x2, .long 1]))] H := hP
  have hD : va_D A [(p5, .inl (cy 3, 9, .inr (.inr (.inr (.inr (fun k9 => if k9 < 9 then some (rt k9) else none)))))), ((rt 0), .inl (cy 1, 3, .inr (.inl (fun _ => 0)))), ((rt 1), .inl (cy 1, 3, .inr (.inl (fun _ => 0)))), ((rt 2), .inl (cy 1, 3, .inr (.inl (fun _ => 0)))), ((rt 3), .inl (cy 1, 3, .inr (.inl (fun _ => 0)))), ((rt 4), .inl (cy 1, 3, .inr (.inl (vp_updL (fun _ => 0) (0 : Int32).toNatClampNeg 0)))), ((rt 5), .inl (cy 1, 3, .inr (.inl (fun _ => 0)))), ((rt 6), .inl (cy 1, 3, .inr (.inl (fun _ => 0)))), ((rt 7), .inl (cy 1, 3, .inr (.inl (fun _ => 0)))), ((rt 8), .inl (cy 1, 3, .inr (.inl (fun _ => 0)))), (p2, .inl (cy 2, 9, .inl (fun _ => 0))), (p3, .inl (cy 0, 9, .inl (fun _ => (-1)))), (vC, .inr (3, [.ref sS, .ref sJ, .int 0, .int 0])), (p4, .inl (cy 3, 8, .inr (.inr (.inr (.inr (fun k9 => if k9 < 8 then some (rn k9) else none)))))), ((rn 0), .inl (cy 1, 11, .inr (.inl (fun _ => 0)))), ((rn 1), .inl (cy 1, 11, .inr (.inl (fun _ => 0)))), ((rn 2), .inl (cy 1, 11, .inr (.inl (fun _ => 0)))), ((rn 3), .inl (cy 1, 11, .inr (.inl (fun _ => 0)))), ((rn 4), .inl (cy 1, 11, .inr (.inl (fun _ => 0)))), ((rn 5), .inl (cy 1, 11, .inr (.inl (fun _ => 0)))), ((rn 6), .inl (cy 1, 11, .inr (.inl (fun _ => 0)))), ((rn 7), .inl (cy 1, 11, .inr (.inl (fun _ => 0)))), (h0, .inr (7, [.ref vC, .ref p1, .ref p2, .ref p3, .ref p4, .ref p5, .ref p6, .ref p7, .int e1, .long e2, .ref p8, .int 0, .int x2, .long 1]))] := hD
  refine lv_iinc (v := 1) (lv' := [(3, .int 1), (2, .int 4), (0, .ref h0), (1, .int 1)]) hx hb dX4_weigh_66 hl (k := 0) rfl (by decide) (by decide) rfl (fun ls hl => ?_)
  refine lv_goto (tgt := 23) hx hb dX4_weigh_69 (by decide) ?_
  refine lv_iload_n hx hb dX4_weigh_23 rfl (lv_at hl 0 rfl) ?_
  refine lv_iconst (v := 3) hx hb dX4_weigh_24 (by decide) ?_
  refine lv_icmp_ge (tgt := 72) hx hb dX4_weigh_25 (by decide) (fun c_25_54 => absurd c_25_54 (by decide +kernel)) (fun _ => ?_)
  refine lv_aload_n hx hb dX4_weigh_28 rfl (lv_at hl 2 rfl) ?_
  refine va_get (D := D) (ci := 7) (v := .ref p5) (C := RX4) (T := TX4) (N := 14) hx hb hts iRX4 hown hK hP 22 rfl rfl 5 (by decide) (hts _ q43) (fun _ h9 => h9) rfl dX4_weigh_29 ?_
  refine lv_iload_n hx hb dX4_weigh_32 rfl (lv_at hl 1 rfl) ?_
  refine va_aldA hx hb hK hP 0 3 rfl rfl (z_in 4 (by decide) (by decide)) dX4_weigh_33 ?_
  rw [show va_rf ((fun k9 => if k9 < 9 then some (rt k9) else none) (4 : Int32).toNatClampNeg) = .ref (rt 4) from rfl]
  refine lv_iload_n hx hb dX4_weigh_34 rfl (lv_at hl 0 rfl) ?_
  refine lv_aload_n hx hb dX4_weigh_35 rfl (lv_at hl 2 rfl) ?_
  refine va_get (D := D) (ci := 7) (v := .ref p3) (C := RX4) (T := TX4) (N := 14) hx hb hts iRX4 hown hK hP 22 rfl rfl 3 (by decide) (hts _ q39) (fun _ h9 => h9) rfl dX4_weigh_36 ?_
  refine lv_iload_n hx hb dX4_weigh_39 rfl (lv_at hl 1 rfl) ?_
  refine va_iald hx hb hK hP 11 0 rfl rfl (z_in 4 (by decide) (by decide)) dX4_weigh_40 ?_
  refine lv_topi (fun y56 ey56 => ?_)
  obtain rfl : y56 = (-1) := ey56.trans rfl
  refine lv_iconst (v := (-1)) hx hb dX4_weigh_41 (by decide) ?_
  refine lv_icmp_ne (tgt := 49) hx hb dX4_weigh_42 (by decide) (fun c_42_56 => absurd (by decide +kernel) c_42_56) (fun _ => ?_)
  refine lv_lconst (v := 0) hx hb dX4_weigh_45 rfl ?_
  refine lv_goto (tgt := 65) hx hb dX4_weigh_46 (by decide) ?_
  refine va_last hx hb hK hP hD hS 5 1 rfl rfl (z_in 1 (by decide) (by decide)) dX4_weigh_65 (fun H locs hP hD hS => ?_)
  have hP : va_P D vwCl [(p5, .inl (cy 3, 9, .inr (.inr (.inr (.inr (fun k9 => if k9 < 9 then some (rt k9) else none)))))), ((rt 0), .inl (cy 1, 3, .inr (.inl (fun _ => 0)))), ((rt 1), .inl (cy 1, 3, .inr (.inl (fun _ => 0)))), ((rt 2), .inl (cy 1, 3, .inr (.inl (fun _ => 0)))), ((rt 3), .inl (cy 1, 3, .inr (.inl (fun _ => 0)))), ((rt 4), .inl (cy 1, 3, .inr (.inl (vp_updL (vp_updL (fun _ => 0) (0 : Int32).toNatClampNeg 0) (1 : Int32).toNatClampNeg 0)))), ((rt 5), .inl (cy 1, 3, .inr (.inl (fun _ => 0)))), ((rt 6), .inl (cy 1, 3, .inr (.inl (fun _ => 0)))), ((rt 7), .inl (cy 1, 3, .inr (.inl (fun _ => 0)))), ((rt 8), .inl (cy 1, 3, .inr (.inl (fun _ => 0)))), (p2, .inl (cy 2, 9, .inl (fun _ => 0))), (p3, .inl (cy 0, 9, .inl (fun _ => (-1)))), (vC, .inr (3, [.ref sS, .ref sJ, .int 0, .int 0])), (p4, .inl (cy 3, 8, .inr (.inr (.inr (.inr (fun k9 => if k9 < 8 then some (rn k9) else none)))))), ((rn 0), .inl (cy 1, 11, .inr (.inl (fun _ => 0)))), ((rn 1), .inl (cy 1, 11, .inr (.inl (fun _ => 0)))), ((rn 2), .inl (cy 1, 11, .inr (.inl (fun _ => 0)))), ((rn 3), .inl (cy 1, 11, .inr (.inl (fun _ => 0)))), ((rn 4), .inl (cy 1, 11, .inr (.inl (fun _ => 0)))), ((rn 5), .inl (cy 1, 11, .inr (.inl (fun _ => 0)))), ((rn 6), .inl (cy 1, 11, .inr (.inl (fun _ => 0)))), ((rn 7), .inl (cy 1, 11, .inr (.inl (fun _ => 0)))), (h0, .inr (7, [.ref vC, .ref p1, .ref p2, .ref p3, .ref p4, .ref p5, .ref p6, .ref p7, .int e1, .long e2, .ref p8, .int 0, .int x2, .long 1]))] H := hP
  have hD : va_D A [(p5, .inl (cy 3, 9, .inr (.inr (.inr (.inr (fun k9 => if k9 < 9 then some (rt k9) else none)))))), ((rt 0), .inl (cy 1, 3, .inr (.inl (fun _ => 0)))), ((rt 1), .inl (cy 1, 3, .inr (.inl (fun _ => 0)))), ((rt 2), .inl (cy 1, 3, .inr (.inl (fun _ => 0)))), ((rt 3), .inl (cy 1, 3, .inr (.inl (fun _ => 0)))), ((rt 4), .inl (cy 1, 3, .inr (.inl (vp_updL (vp_updL (fun _ => 0) (0 : Int32).toNatClampNeg 0) (1 : Int32).toNatClampNeg 0)))), ((rt 5), .inl (cy 1, 3, .inr (.inl (fun _ => 0)))), ((rt 6), .inl (cy 1, 3, .inr (.inl (fun _ => 0)))), ((rt 7), .inl (cy 1, 3, .inr (.inl (fun _ => 0)))), ((rt 8), .inl (cy 1, 3, .inr (.inl (fun _ => 0)))), (p2, .inl (cy 2, 9, .inl (fun _ => 0))), (p3, .inl (cy 0, 9, .inl (fun _ => (-1)))), (vC, .inr (3, [.ref sS, .ref sJ, .int 0, .int 0])), (p4, .inl (cy 3, 8, .inr (.inr (.inr (.inr (fun k9 => if k9 < 8 then some (rn k9) else none)))))), ((rn 0), .inl (cy 1, 11, .inr (.inl (fun _ => 0)))), ((rn 1), .inl (cy 1, 11, .inr (.inl (fun _ => 0)))), ((rn 2), .inl (cy 1, 11, .inr (.inl (fun _ => 0)))), ((rn 3), .inl (cy 1, 11, .inr (.inl (fun _ => 0)))), ((rn 4), .inl (cy 1, 11, .inr (.inl (fun _ => 0)))), ((rn 5), .inl (cy 1, 11, .inr (.inl (fun _ => 0)))), ((rn 6), .inl (cy 1, 11, .inr (.inl (fun _ => 0)))), ((rn 7), .inl (cy 1, 11, .inr (.inl (fun _ => 0)))), (h0, .inr (7, [.ref vC, .ref p1, .ref p2, .ref p3, .ref p4, .ref p5, .ref p6, .ref p7, .int e1, .long e2, .ref p8, .int 0, .int x2, .long 1]))] := hD
  refine lv_iinc (v := 2) (lv' := [(3, .int 2), (2, .int 4), (0, .ref h0), (1, .int 1)]) hx hb dX4_weigh_66 hl (k := 0) rfl (by decide) (by decide) rfl (fun ls hl => ?_)
  refine lv_goto (tgt := 23) hx hb dX4_weigh_69 (by decide) ?_
  refine lv_iload_n hx hb dX4_weigh_23 rfl (lv_at hl 0 rfl) ?_
  refine lv_iconst (v := 3) hx hb dX4_weigh_24 (by decide) ?_
  refine lv_icmp_ge (tgt := 72) hx hb dX4_weigh_25 (by decide) (fun c_25_57 => absurd c_25_57 (by decide +kernel)) (fun _ => ?_)
  refine lv_aload_n hx hb dX4_weigh_28 rfl (lv_at hl 2 rfl) ?_
  refine va_get (D := D) (ci := 7) (v := .ref p5) (C := RX4) (T := TX4) (N := 14) hx hb hts iRX4 hown hK hP 22 rfl rfl 5 (by decide) (hts _ q43) (fun _ h9 => h9) rfl dX4_weigh_29 ?_
  refine lv_iload_n hx hb dX4_weigh_32 rfl (lv_at hl 1 rfl) ?_
  refine va_aldA hx hb hK hP 0 3 rfl rfl (z_in 4 (by decide) (by decide)) dX4_weigh_33 ?_
  rw [show va_rf ((fun k9 => if k9 < 9 then some (rt k9) else none) (4 : Int32).toNatClampNeg) = .ref (rt 4) from rfl]
  refine lv_iload_n hx hb dX4_weigh_34 rfl (lv_at hl 0 rfl) ?_
  refine lv_aload_n hx hb dX4_weigh_35 rfl (lv_at hl 2 rfl) ?_
  refine va_get (D := D) (ci := 7) (v := .ref p3) (C := RX4) (T := TX4) (N := 14) hx hb hts iRX4 hown hK hP 22 rfl rfl 3 (by decide) (hts _ q39) (fun _ h9 => h9) rfl dX4_weigh_36 ?_
  refine lv_iload_n hx hb dX4_weigh_39 rfl (lv_at hl 1 rfl) ?_
  refine va_iald hx hb hK hP 11 0 rfl rfl (z_in 4 (by decide) (by decide)) dX4_weigh_40 ?_
  refine lv_topi (fun y59 ey59 => ?_)
  obtain rfl : y59 = (-1) := ey59.trans rfl
  refine lv_iconst (v := (-1)) hx hb dX4_weigh_41 (by decide) ?_
  refine lv_icmp_ne (tgt := 49) hx hb dX4_weigh_42 (by decide) (fun c_42_59 => absurd (by decide +kernel) c_42_59) (fun _ => ?_)
  refine lv_lconst (v := 0) hx hb dX4_weigh_45 rfl ?_
  refine lv_goto (tgt := 65) hx hb dX4_weigh_46 (by decide) ?_
  refine va_last hx hb hK hP hD hS 5 1 rfl rfl (z_in 2 (by decide) (by decide)) dX4_weigh_65 (fun H locs hP hD hS => ?_)
  have hP : va_P D vwCl [(p5, .inl (cy 3, 9, .inr (.inr (.inr (.inr (fun k9 => if k9 < 9 then some (rt k9) else none)))))), ((rt 0), .inl (cy 1, 3, .inr (.inl (fun _ => 0)))), ((rt 1), .inl (cy 1, 3, .inr (.inl (fun _ => 0)))), ((rt 2), .inl (cy 1, 3, .inr (.inl (fun _ => 0)))), ((rt 3), .inl (cy 1, 3, .inr (.inl (fun _ => 0)))), ((rt 4), .inl (cy 1, 3, .inr (.inl (vp_updL (vp_updL (vp_updL (fun _ => 0) (0 : Int32).toNatClampNeg 0) (1 : Int32).toNatClampNeg 0) (2 : Int32).toNatClampNeg 0)))), ((rt 5), .inl (cy 1, 3, .inr (.inl (fun _ => 0)))), ((rt 6), .inl (cy 1, 3, .inr (.inl (fun _ => 0)))), ((rt 7), .inl (cy 1, 3, .inr (.inl (fun _ => 0)))), ((rt 8), .inl (cy 1, 3, .inr (.inl (fun _ => 0)))), (p2, .inl (cy 2, 9, .inl (fun _ => 0))), (p3, .inl (cy 0, 9, .inl (fun _ => (-1)))), (vC, .inr (3, [.ref sS, .ref sJ, .int 0, .int 0])), (p4, .inl (cy 3, 8, .inr (.inr (.inr (.inr (fun k9 => if k9 < 8 then some (rn k9) else none)))))), ((rn 0), .inl (cy 1, 11, .inr (.inl (fun _ => 0)))), ((rn 1), .inl (cy 1, 11, .inr (.inl (fun _ => 0)))), ((rn 2), .inl (cy 1, 11, .inr (.inl (fun _ => 0)))), ((rn 3), .inl (cy 1, 11, .inr (.inl (fun _ => 0)))), ((rn 4), .inl (cy 1, 11, .inr (.inl (fun _ => 0)))), ((rn 5), .inl (cy 1, 11, .inr (.inl (fun _ => 0)))), ((rn 6), .inl (cy 1, 11, .inr (.inl (fun _ => 0)))), ((rn 7), .inl (cy 1, 11, .inr (.inl (fun _ => 0)))), (h0, .inr (7, [.ref vC, .ref p1, .ref p2, .ref p3, .ref p4, .ref p5, .ref p6, .ref p7, .int e1, .long e2, .ref p8, .int 0, .int x2, .long 1]))] H := hP
  have hD : va_D A [(p5, .inl (cy 3, 9, .inr (.inr (.inr (.inr (fun k9 => if k9 < 9 then some (rt k9) else none)))))), ((rt 0), .inl (cy 1, 3, .inr (.inl (fun _ => 0)))), ((rt 1), .inl (cy 1, 3, .inr (.inl (fun _ => 0)))), ((rt 2), .inl (cy 1, 3, .inr (.inl (fun _ => 0)))), ((rt 3), .inl (cy 1, 3, .inr (.inl (fun _ => 0)))), ((rt 4), .inl (cy 1, 3, .inr (.inl (vp_updL (vp_updL (vp_updL (fun _ => 0) (0 : Int32).toNatClampNeg 0) (1 : Int32).toNatClampNeg 0) (2 : Int32).toNatClampNeg 0)))), ((rt 5), .inl (cy 1, 3, .inr (.inl (fun _ => 0)))), ((rt 6), .inl (cy 1, 3, .inr (.inl (fun _ => 0)))), ((rt 7), .inl (cy 1, 3, .inr (.inl (fun _ => 0)))), ((rt 8), .inl (cy 1, 3, .inr (.inl (fun _ => 0)))), (p2, .inl (cy 2, 9, .inl (fun _ => 0))), (p3, .inl (cy 0, 9, .inl (fun _ => (-1)))), (vC, .inr (3, [.ref sS, .ref sJ, .int 0, .int 0])), (p4, .inl (cy 3, 8, .inr (.inr (.inr (.inr (fun k9 => if k9 < 8 then some (rn k9) else none)))))), ((rn 0), .inl (cy 1, 11, .inr (.inl (fun _ => 0)))), ((rn 1), .inl (cy 1, 11, .inr (.inl (fun _ => 0)))), ((rn 2), .inl (cy 1, 11, .inr (.inl (fun _ => 0)))), ((rn 3), .inl (cy 1, 11, .inr (.inl (fun _ => 0)))), ((rn 4), .inl (cy 1, 11, .inr (.inl (fun _ => 0)))), ((rn 5), .inl (cy 1, 11, .inr (.inl (fun _ => 0)))), ((rn 6), .inl (cy 1, 11, .inr (.inl (fun _ => 0)))), ((rn 7), .inl (cy 1, 11, .inr (.inl (fun _ => 0)))), (h0, .inr (7, [.ref vC, .ref p1, .ref p2, .ref p3, .ref p4, .ref p5, .ref p6, .ref p7, .int e1, .long e2, .ref p8, .int 0, .int x2, .long 1]))] := hD
  refine lv_iinc (v := 3) (lv' := [(3, .int 3), (2, .int 4), (0, .ref h0), (1, .int 1)]) hx hb dX4_weigh_66 hl (k := 0) rfl (by decide) (by decide) rfl (fun ls hl => ?_)
  refine lv_goto (tgt := 23) hx hb dX4_weigh_69 (by decide) ?_
  refine lv_iload_n hx hb dX4_weigh_23 rfl (lv_at hl 0 rfl) ?_
  refine lv_iconst (v := 3) hx hb dX4_weigh_24 (by decide) ?_
  refine lv_icmp_ge (tgt := 72) hx hb dX4_weigh_25 (by decide) (fun _ => ?_) (fun c_25_60 => absurd (by decide +kernel) c_25_60)
  obtain ⟨hP, hD⟩ := zP_l (fun _ => 0) hP hD (q := 5) rfl (fun j hj => by rcases (show j = 0 ∨ j = 1 ∨ j = 2 by omega) with rfl | rfl | rfl <;> rfl)
  have hP : va_P D vwCl [(p5, .inl (cy 3, 9, .inr (.inr (.inr (.inr (fun k9 => if k9 < 9 then some (rt k9) else none)))))), ((rt 0), .inl (cy 1, 3, .inr (.inl (fun _ => 0)))), ((rt 1), .inl (cy 1, 3, .inr (.inl (fun _ => 0)))), ((rt 2), .inl (cy 1, 3, .inr (.inl (fun _ => 0)))), ((rt 3), .inl (cy 1, 3, .inr (.inl (fun _ => 0)))), ((rt 4), .inl (cy 1, 3, .inr (.inl (fun _ => 0)))), ((rt 5), .inl (cy 1, 3, .inr (.inl (fun _ => 0)))), ((rt 6), .inl (cy 1, 3, .inr (.inl (fun _ => 0)))), ((rt 7), .inl (cy 1, 3, .inr (.inl (fun _ => 0)))), ((rt 8), .inl (cy 1, 3, .inr (.inl (fun _ => 0)))), (p2, .inl (cy 2, 9, .inl (fun _ => 0))), (p3, .inl (cy 0, 9, .inl (fun _ => (-1)))), (vC, .inr (3, [.ref sS, .ref sJ, .int 0, .int 0])), (p4, .inl (cy 3, 8, .inr (.inr (.inr (.inr (fun k9 => if k9 < 8 then some (rn k9) else none)))))), ((rn 0), .inl (cy 1, 11, .inr (.inl (fun _ => 0)))), ((rn 1), .inl (cy 1, 11, .inr (.inl (fun _ => 0)))), ((rn 2), .inl (cy 1, 11, .inr (.inl (fun _ => 0)))), ((rn 3), .inl (cy 1, 11, .inr (.inl (fun _ => 0)))), ((rn 4), .inl (cy 1, 11, .inr (.inl (fun _ => 0)))), ((rn 5), .inl (cy 1, 11, .inr (.inl (fun _ => 0)))), ((rn 6), .inl (cy 1, 11, .inr (.inl (fun _ => 0)))), ((rn 7), .inl (cy 1, 11, .inr (.inl (fun _ => 0)))), (h0, .inr (7, [.ref vC, .ref p1, .ref p2, .ref p3, .ref p4, .ref p5, .ref p6, .ref p7, .int e1, .long e2, .ref p8, .int 0, .int x2, .long 1]))] H := hP
  have hD : va_D A [(p5, .inl (cy 3, 9, .inr (.inr (.inr (.inr (fun k9 => if k9 < 9 then some (rt k9) else none)))))), ((rt 0), .inl (cy 1, 3, .inr (.inl (fun _ => 0)))), ((rt 1), .inl (cy 1, 3, .inr (.inl (fun _ => 0)))), ((rt 2), .inl (cy 1, 3, .inr (.inl (fun _ => 0)))), ((rt 3), .inl (cy 1, 3, .inr (.inl (fun _ => 0)))), ((rt 4), .inl (cy 1, 3, .inr (.inl (fun _ => 0)))), ((rt 5), .inl (cy 1, 3, .inr (.inl (fun _ => 0)))), ((rt 6), .inl (cy 1, 3, .inr (.inl (fun _ => 0)))), ((rt 7), .inl (cy 1, 3, .inr (.inl (fun _ => 0)))), ((rt 8), .inl (cy 1, 3, .inr (.inl (fun _ => 0)))), (p2, .inl (cy 2, 9, .inl (fun _ => 0))), (p3, .inl (cy 0, 9, .inl (fun _ => (-1)))), (vC, .inr (3, [.ref sS, .ref sJ, .int 0, .int 0])), (p4, .inl (cy 3, 8, .inr (.inr (.inr (.inr (fun k9 => if k9 < 8 then some (rn k9) else none)))))), ((rn 0), .inl (cy 1, 11, .inr (.inl (fun _ => 0)))), ((rn 1), .inl (cy 1, 11, .inr (.inl (fun _ => 0)))), ((rn 2), .inl (cy 1, 11, .inr (.inl (fun _ => 0)))), ((rn 3), .inl (cy 1, 11, .inr (.inl (fun _ => 0)))), ((rn 4), .inl (cy 1, 11, .inr (.inl (fun _ => 0)))), ((rn 5), .inl (cy 1, 11, .inr (.inl (fun _ => 0)))), ((rn 6), .inl (cy 1, 11, .inr (.inl (fun _ => 0)))), ((rn 7), .inl (cy 1, 11, .inr (.inl (fun _ => 0)))), (h0, .inr (7, [.ref vC, .ref p1, .ref p2, .ref p3, .ref p4, .ref p5, .ref p6, .ref p7, .int e1, .long e2, .ref p8, .int 0, .int x2, .long 1]))] := hD
  refine lv_iinc (v := 5) (lv' := [(2, .int 5), (3, .int 3), (0, .ref h0), (1, .int 1)]) hx hb dX4_weigh_72 hl (k := 1) rfl (by decide) (by decide) rfl (fun ls hl => ?_)
  refine lv_goto (tgt := 15) hx hb dX4_weigh_75 (by decide) ?_
  refine lv_iload_n hx hb dX4_weigh_15 rfl (lv_at hl 0 rfl) ?_
  refine lv_bipush (v := 9) hx hb dX4_weigh_16 (by decide) ?_
  refine lv_icmp_ge (tgt := 78) hx hb dX4_weigh_18 (by decide) (fun c_18_61 => absurd c_18_61 (by decide +kernel)) (fun _ => ?_)
  refine lv_iconst (v := 0) hx hb dX4_weigh_21 (by decide) ?_
  refine lv_istore_n (lv' := [(3, .int 0), (2, .int 5), (0, .ref h0), (1, .int 1)]) hx hb dX4_weigh_22 rfl hl (by decide) rfl (fun ls hl => ?_)
  refine lv_iload_n hx hb dX4_weigh_23 rfl (lv_at hl 0 rfl) ?_
  refine lv_iconst (v := 3) hx hb dX4_weigh_24 (by decide) ?_
  refine lv_icmp_ge (tgt := 72) hx hb dX4_weigh_25 (by decide) (fun c_25_62 => absurd c_25_62 (by decide +kernel)) (fun _ => ?_)
  refine lv_aload_n hx hb dX4_weigh_28 rfl (lv_at hl 2 rfl) ?_
  refine va_get (D := D) (ci := 7) (v := .ref p5) (C := RX4) (T := TX4) (N := 14) hx hb hts iRX4 hown hK hP 22 rfl rfl 5 (by decide) (hts _ q43) (fun _ h9 => h9) rfl dX4_weigh_29 ?_
  refine lv_iload_n hx hb dX4_weigh_32 rfl (lv_at hl 1 rfl) ?_
  refine va_aldA hx hb hK hP 0 3 rfl rfl (z_in 5 (by decide) (by decide)) dX4_weigh_33 ?_
  rw [show va_rf ((fun k9 => if k9 < 9 then some (rt k9) else none) (5 : Int32).toNatClampNeg) = .ref (rt 5) from rfl]
  refine lv_iload_n hx hb dX4_weigh_34 rfl (lv_at hl 0 rfl) ?_
  refine lv_aload_n hx hb dX4_weigh_35 rfl (lv_at hl 2 rfl) ?_
  refine va_get (D := D) (ci := 7) (v := .ref p3) (C := RX4) (T := TX4) (N := 14) hx hb hts iRX4 hown hK hP 22 rfl rfl 3 (by decide) (hts _ q39) (fun _ h9 => h9) rfl dX4_weigh_36 ?_
  refine lv_iload_n hx hb dX4_weigh_39 rfl (lv_at hl 1 rfl) ?_
  refine va_iald hx hb hK hP 11 0 rfl rfl (z_in 5 (by decide) (by decide)) dX4_weigh_40 ?_
  refine lv_topi (fun y64 ey64 => ?_)
  obtain rfl : y64 = (-1) := ey64.trans rfl
  refine lv_iconst (v := (-1)) hx hb dX4_weigh_41 (by decide) ?_
  refine lv_icmp_ne (tgt := 49) hx hb dX4_weigh_42 (by decide) (fun c_42_64 => absurd (by decide +kernel) c_42_64) (fun _ => ?_)
  refine lv_lconst (v := 0) hx hb dX4_weigh_45 rfl ?_
  refine lv_goto (tgt := 65) hx hb dX4_weigh_46 (by decide) ?_
  refine va_last hx hb hK hP hD hS 6 1 rfl rfl (z_in 0 (by decide) (by decide)) dX4_weigh_65 (fun H locs hP hD hS => ?_)
  have hP : va_P D vwCl [(p5, .inl (cy 3, 9, .inr (.inr (.inr (.inr (fun k9 => if k9 < 9 then some (rt k9) else none)))))), ((rt 0), .inl (cy 1, 3, .inr (.inl (fun _ => 0)))), ((rt 1), .inl (cy 1, 3, .inr (.inl (fun _ => 0)))), ((rt 2), .inl (cy 1, 3, .inr (.inl (fun _ => 0)))), ((rt 3), .inl (cy 1, 3, .inr (.inl (fun _ => 0)))), ((rt 4), .inl (cy 1, 3, .inr (.inl (fun _ => 0)))), ((rt 5), .inl (cy 1, 3, .inr (.inl (vp_updL (fun _ => 0) (0 : Int32).toNatClampNeg 0)))), ((rt 6), .inl (cy 1, 3, .inr (.inl (fun _ => 0)))), ((rt 7), .inl (cy 1, 3, .inr (.inl (fun _ => 0)))), ((rt 8), .inl (cy 1, 3, .inr (.inl (fun _ => 0)))), (p2, .inl (cy 2, 9, .inl (fun _ => 0))), (p3, .inl (cy 0, 9, .inl (fun _ => (-1)))), (vC, .inr (3, [.ref sS, .ref sJ, .int 0, .int 0])), (p4, .inl (cy 3, 8, .inr (.inr (.inr (.inr (fun k9 => if k9 < 8 then some (rn k9) else none)))))), ((rn 0), .inl (cy 1, 11, .inr (.inl (fun _ => 0)))), ((rn 1), .inl (cy 1, 11, .inr (.inl (fun _ => 0)))), ((rn 2), .inl (cy 1, 11, .inr (.inl (fun _ => 0)))), ((rn 3), .inl (cy 1, 11, .inr (.inl (fun _ => 0)))), ((rn 4), .inl (cy 1, 11, .inr (.inl (fun _ => 0)))), ((rn 5), .inl (cy 1, 11, .inr (.inl (fun _ => 0)))), ((rn 6), .inl (cy 1, 11, .inr (.inl (fun _ => 0)))), ((rn 7), .inl (cy 1, 11, .inr (.inl (fun _ => 0)))), (h0, .inr (7, [.ref vC, .ref p1, .ref p2, .ref p3, .ref p4, .ref p5, .ref p6, .ref p7, .int e1, .long e2, .ref p8, .int 0, .int x2, .long 1]))] H := hP
  have hD : va_D A [(p5, .inl (cy 3, 9, .inr (.inr (.inr (.inr (fun k9 => if k9 < 9 then some (rt k9) else none)))))), ((rt 0), .inl (cy 1, 3, .inr (.inl (fun _ => 0)))), ((rt 1), .inl (cy 1, 3, .inr (.inl (fun _ => 0)))), ((rt 2), .inl (cy 1, 3, .inr (.inl (fun _ => 0)))), ((rt 3), .inl (cy 1, 3, .inr (.inl (fun _ => 0)))), ((rt 4), .inl (cy 1, 3, .inr (.inl (fun _ => 0)))), ((rt 5), .inl (cy 1, 3, .inr (.inl (vp_updL (fun _ => 0) (0 : Int32).toNatClampNeg 0)))), ((rt 6), .inl (cy 1, 3, .inr (.inl (fun _ => 0)))), ((rt 7), .inl (cy 1, 3, .inr (.inl (fun _ => 0)))), ((rt 8), .inl (cy 1, 3, .inr (.inl (fun _ => 0)))), (p2, .inl (cy 2, 9, .inl (fun _ => 0))), (p3, .inl (cy 0, 9, .inl (fun _ => (-1)))), (vC, .inr (3, [.ref sS, .ref sJ, .int 0, .int 0])), (p4, .inl (cy 3, 8, .inr (.inr (.inr (.inr (fun k9 => if k9 < 8 then some (rn k9) else none)))))), ((rn 0), .inl (cy 1, 11, .inr (.inl (fun _ => 0)))), ((rn 1), .inl (cy 1, 11, .inr (.inl (fun _ => 0)))), ((rn 2), .inl (cy 1, 11, .inr (.inl (fun _ => 0)))), ((rn 3), .inl (cy 1, 11, .inr (.inl (fun _ => 0)))), ((rn 4), .inl (cy 1, 11, .inr (.inl (fun _ => 0)))), ((rn 5), .inl (cy 1, 11, .inr (.inl (fun _ => 0)))), ((rn 6), .inl (cy 1, 11, .inr (.inl (fun _ => 0)))), ((rn 7), .inl (cy 1, 11, .inr (.inl (fun _ => 0)))), (h0, .inr (7, [.ref vC, .ref p1, .ref p2, .ref p3, .ref p4, .ref p5, .ref p6, .ref p7, .int e1, .long e2, .ref p8, .int 0, .int x2, .long 1]))] := hD
  refine lv_iinc (v := 1) (lv' := [(3, .int 1), (2, .int 5), (0, .ref h0), (1, .int 1)]) hx hb dX4_weigh_66 hl (k := 0) rfl (by decide) (by decide) rfl (fun ls hl => ?_)
  refine lv_goto (tgt := 23) hx hb dX4_weigh_69 (by decide) ?_
  refine lv_iload_n hx hb dX4_weigh_23 rfl (lv_at hl 0 rfl) ?_
  refine lv_iconst (v := 3) hx hb dX4_weigh_24 (by decide) ?_
  refine lv_icmp_ge (tgt := 72) hx hb dX4_weigh_25 (by decide) (fun c_25_65 => absurd c_25_65 (by decide +kernel)) (fun _ => ?_)
  refine lv_aload_n hx hb dX4_weigh_28 rfl (lv_at hl 2 rfl) ?_
  refine va_get (D := D) (ci := 7) (v := .ref p5) (C := RX4) (T := TX4) (N := 14) hx hb hts iRX4 hown hK hP 22 rfl rfl 5 (by decide) (hts _ q43) (fun _ h9 => h9) rfl dX4_weigh_29 ?_
  refine lv_iload_n hx hb dX4_weigh_32 rfl (lv_at hl 1 rfl) ?_
  refine va_aldA hx hb hK hP 0 3 rfl rfl (z_in 5 (by decide) (by decide)) dX4_weigh_33 ?_
  rw [show va_rf ((fun k9 => if k9 < 9 then some (rt k9) else none) (5 : Int32).toNatClampNeg) = .ref (rt 5) from rfl]
  refine lv_iload_n hx hb dX4_weigh_34 rfl (lv_at hl 0 rfl) ?_
  refine lv_aload_n hx hb dX4_weigh_35 rfl (lv_at hl 2 rfl) ?_
  refine va_get (D := D) (ci := 7) (v := .ref p3) (C := RX4) (T := TX4) (N := 14) hx hb hts iRX4 hown hK hP 22 rfl rfl 3 (by decide) (hts _ q39) (fun _ h9 => h9) rfl dX4_weigh_36 ?_
  refine lv_iload_n hx hb dX4_weigh_39 rfl (lv_at hl 1 rfl) ?_
  refine va_iald hx hb hK hP 11 0 rfl rfl (z_in 5 (by decide) (by decide)) dX4_weigh_40 ?_
  refine lv_topi (fun y67 ey67 => ?_)
  obtain rfl : y67 = (-1) := ey67.trans rfl
  refine lv_iconst (v := (-1)) hx hb dX4_weigh_41 (by decide) ?_
  refine lv_icmp_ne (tgt := 49) hx hb dX4_weigh_42 (by decide) (fun c_42_67 => absurd (by decide +kernel) c_42_67) (fun _ => ?_)
  refine lv_lconst (v := 0) hx hb dX4_weigh_45 rfl ?_
  refine lv_goto (tgt := 65) hx hb dX4_weigh_46 (by decide) ?_
  refine va_last hx hb hK hP hD hS 6 1 rfl rfl (z_in 1 (by decide) (by decide)) dX4_weigh_65 (fun H locs hP hD hS => ?_)
  have hP : va_P D vwCl [(p5, .inl (cy 3, 9, .inr (.inr (.inr (.inr (fun k9 => if k9 < 9 then some (rt k9) else none)))))), ((rt 0), .inl (cy 1, 3, .inr (.inl (fun _ => 0)))), ((rt 1), .inl (cy 1, 3, .inr (.inl (fun _ => 0)))), ((rt 2), .inl (cy 1, 3, .inr (.inl (fun _ => 0)))), ((rt 3), .inl (cy 1, 3, .inr (.inl (fun _ => 0)))), ((rt 4), .inl (cy 1, 3, .inr (.inl (fun _ => 0)))), ((rt 5), .inl (cy 1, 3, .inr (.inl (vp_updL (vp_updL (fun _ => 0) (0 : Int32).toNatClampNeg 0) (1 : Int32).toNatClampNeg 0)))), ((rt 6), .inl (cy 1, 3, .inr (.inl (fun _ => 0)))), ((rt 7), .inl (cy 1, 3, .inr (.inl (fun _ => 0)))), ((rt 8), .inl (cy 1, 3, .inr (.inl (fun _ => 0)))), (p2, .inl (cy 2, 9, .inl (fun _ => 0))), (p3, .inl (cy 0, 9, .inl (fun _ => (-1)))), (vC, .inr (3, [.ref sS, .ref sJ, .int 0, .int 0])), (p4, .inl (cy 3, 8, .inr (.inr (.inr (.inr (fun k9 => if k9 < 8 then some (rn k9) else none)))))), ((rn 0), .inl (cy 1, 11, .inr (.inl (fun _ => 0)))), ((rn 1), .inl (cy 1, 11, .inr (.inl (fun _ => 0)))), ((rn 2), .inl (cy 1, 11, .inr (.inl (fun _ => 0)))), ((rn 3), .inl (cy 1, 11, .inr (.inl (fun _ => 0)))), ((rn 4), .inl (cy 1, 11, .inr (.inl (fun _ => 0)))), ((rn 5), .inl (cy 1, 11, .inr (.inl (fun _ => 0)))), ((rn 6), .inl (cy 1, 11, .inr (.inl (fun _ => 0)))), ((rn 7), .inl (cy 1, 11, .inr (.inl (fun _ => 0)))), (h0, .inr (7, [.ref vC, .ref p1, .ref p2, .ref p3, .ref p4, .ref p5, .ref p6, .ref p7, .int e1, .long e2, .ref p8, .int 0, .int x2, .long 1]))] H := hP
  have hD : va_D A [(p5, .inl (cy 3, 9, .inr (.inr (.inr (.inr (fun k9 => if k9 < 9 then some (rt k9) else none)))))), ((rt 0), .inl (cy 1, 3, .inr (.inl (fun _ => 0)))), ((rt 1), .inl (cy 1, 3, .inr (.inl (fun _ => 0)))), ((rt 2), .inl (cy 1, 3, .inr (.inl (fun _ => 0)))), ((rt 3), .inl (cy 1, 3, .inr (.inl (fun _ => 0)))), ((rt 4), .inl (cy 1, 3, .inr (.inl (fun _ => 0)))), ((rt 5), .inl (cy 1, 3, .inr (.inl (vp_updL (vp_updL (fun _ => 0) (0 : Int32).toNatClampNeg 0) (1 : Int32).toNatClampNeg 0)))), ((rt 6), .inl (cy 1, 3, .inr (.inl (fun _ => 0)))), ((rt 7), .inl (cy 1, 3, .inr (.inl (fun _ => 0)))), ((rt 8), .inl (cy 1, 3, .inr (.inl (fun _ => 0)))), (p2, .inl (cy 2, 9, .inl (fun _ => 0))), (p3, .inl (cy 0, 9, .inl (fun _ => (-1)))), (vC, .inr (3, [.ref sS, .ref sJ, .int 0, .int 0])), (p4, .inl (cy 3, 8, .inr (.inr (.inr (.inr (fun k9 => if k9 < 8 then some (rn k9) else none)))))), ((rn 0), .inl (cy 1, 11, .inr (.inl (fun _ => 0)))), ((rn 1), .inl (cy 1, 11, .inr (.inl (fun _ => 0)))), ((rn 2), .inl (cy 1, 11, .inr (.inl (fun _ => 0)))), ((rn 3), .inl (cy 1, 11, .inr (.inl (fun _ => 0)))), ((rn 4), .inl (cy 1, 11, .inr (.inl (fun _ => 0)))), ((rn 5), .inl (cy 1, 11, .inr (.inl (fun _ => 0)))), ((rn 6), .inl (cy 1, 11, .inr (.inl (fun _ => 0)))), ((rn 7), .inl (cy 1, 11, .inr (.inl (fun _ => 0)))), (h0, .inr (7, [.ref vC, .ref p1, .ref p2, .ref p3, .ref p4, .ref p5, .ref p6, .ref p7, .int e1, .long e2, .ref p8, .int 0, .int x2, .long 1]))] := hD
  refine lv_iinc (v := 2) (lv' := [(3, .int 2), (2, .int 5), (0, .ref h0), (1, .int 1)]) hx hb dX4_weigh_66 hl (k := 0) rfl (by decide) (by decide) rfl (fun ls hl => ?_)
  refine lv_goto (tgt := 23) hx hb dX4_weigh_69 (by decide) ?_
  refine lv_iload_n hx hb dX4_weigh_23 rfl (lv_at hl 0 rfl) ?_
  refine lv_iconst (v := 3) hx hb dX4_weigh_24 (by decide) ?_
  refine lv_icmp_ge (tgt := 72) hx hb dX4_weigh_25 (by decide) (fun c_25_68 => absurd c_25_68 (by decide +kernel)) (fun _ => ?_)
  refine lv_aload_n hx hb dX4_weigh_28 rfl (lv_at hl 2 rfl) ?_
  refine va_get (D := D) (ci := 7) (v := .ref p5) (C := RX4) (T := TX4) (N := 14) hx hb hts iRX4 hown hK hP 22 rfl rfl 5 (by decide) (hts _ q43) (fun _ h9 => h9) rfl dX4_weigh_29 ?_
  refine lv_iload_n hx hb dX4_weigh_32 rfl (lv_at hl 1 rfl) ?_
  refine va_aldA hx hb hK hP 0 3 rfl rfl (z_in 5 (by decide) (by decide)) dX4_weigh_33 ?_
  rw [show va_rf ((fun k9 => if k9 < 9 then some (rt k9) else none) (5 : Int32).toNatClampNeg) = .ref (rt 5) from rfl]
  refine lv_iload_n hx hb dX4_weigh_34 rfl (lv_at hl 0 rfl) ?_
  refine lv_aload_n hx hb dX4_weigh_35 rfl (lv_at hl 2 rfl) ?_
  refine va_get (D := D) (ci := 7) (v := .ref p3) (C := RX4) (T := TX4) (N := 14) hx hb hts iRX4 hown hK hP 22 rfl rfl 3 (by decide) (hts _ q39) (fun _ h9 => h9) rfl dX4_weigh_36 ?_
  refine lv_iload_n hx hb dX4_weigh_39 rfl (lv_at hl 1 rfl) ?_
  refine va_iald hx hb hK hP 11 0 rfl rfl (z_in 5 (by decide) (by decide)) dX4_weigh_40 ?_
  refine lv_topi (fun y70 ey70 => ?_)
  obtain rfl : y70 = (-1) := ey70.trans rfl
  refine lv_iconst (v := (-1)) hx hb dX4_weigh_41 (by decide) ?_
  refine lv_icmp_ne (tgt := 49) hx hb dX4_weigh_42 (by decide) (fun c_42_70 => absurd (by decide +kernel) c_42_70) (fun _ => ?_)
  refine lv_lconst (v := 0) hx hb dX4_weigh_45 rfl ?_
  refine lv_goto (tgt := 65) hx hb dX4_weigh_46 (by decide) ?_
  refine va_last hx hb hK hP hD hS 6 1 rfl rfl (z_in 2 (by decide) (by decide)) dX4_weigh_65 (fun H locs hP hD hS => ?_)
  have hP : va_P D vwCl [(p5, .inl (cy 3, 9, .inr (.inr (.inr (.inr (fun k9 => if k9 < 9 then some (rt k9) else none)))))), ((rt 0), .inl (cy 1, 3, .inr (.inl (fun _ => 0)))), ((rt 1), .inl (cy 1, 3, .inr (.inl (fun _ => 0)))), ((rt 2), .inl (cy 1, 3, .inr (.inl (fun _ => 0)))), ((rt 3), .inl (cy 1, 3, .inr (.inl (fun _ => 0)))), ((rt 4), .inl (cy 1, 3, .inr (.inl (fun _ => 0)))), ((rt 5), .inl (cy 1, 3, .inr (.inl (vp_updL (vp_updL (vp_updL (fun _ => 0) (0 : Int32).toNatClampNeg 0) (1 : Int32).toNatClampNeg 0) (2 : Int32).toNatClampNeg 0)))), ((rt 6), .inl (cy 1, 3, .inr (.inl (fun _ => 0)))), ((rt 7), .inl (cy 1, 3, .inr (.inl (fun _ => 0)))), ((rt 8), .inl (cy 1, 3, .inr (.inl (fun _ => 0)))), (p2, .inl (cy 2, 9, .inl (fun _ => 0))), (p3, .inl (cy 0, 9, .inl (fun _ => (-1)))), (vC, .inr (3, [.ref sS, .ref sJ, .int 0, .int 0])), (p4, .inl (cy 3, 8, .inr (.inr (.inr (.inr (fun k9 => if k9 < 8 then some (rn k9) else none)))))), ((rn 0), .inl (cy 1, 11, .inr (.inl (fun _ => 0)))), ((rn 1), .inl (cy 1, 11, .inr (.inl (fun _ => 0)))), ((rn 2), .inl (cy 1, 11, .inr (.inl (fun _ => 0)))), ((rn 3), .inl (cy 1, 11, .inr (.inl (fun _ => 0)))), ((rn 4), .inl (cy 1, 11, .inr (.inl (fun _ => 0)))), ((rn 5), .inl (cy 1, 11, .inr (.inl (fun _ => 0)))), ((rn 6), .inl (cy 1, 11, .inr (.inl (fun _ => 0)))), ((rn 7), .inl (cy 1, 11, .inr (.inl (fun _ => 0)))), (h0, .inr (7, [.ref vC, .ref p1, .ref p2, .ref p3, .ref p4, .ref p5, .ref p6, .ref p7, .int e1, .long e2, .ref p8, .int 0, .int x2, .long 1]))] H := hP
  have hD : va_D A [(p5, .inl (cy 3, 9, .inr (.inr (.inr (.inr (fun k9 => if k9 < 9 then some (rt k9) else none)))))), ((rt 0), .inl (cy 1, 3, .inr (.inl (fun _ => 0)))), ((rt 1), .inl (cy 1, 3, .inr (.inl (fun _ => 0)))), ((rt 2), .inl (cy 1, 3, .inr (.inl (fun _ => 0)))), ((rt 3), .inl (cy 1, 3, .inr (.inl (fun _ => 0)))), ((rt 4), .inl (cy 1, 3, .inr (.inl (fun _ => 0)))), ((rt 5), .inl (cy 1, 3, .inr (.inl (vp_updL (vp_updL (vp_updL (fun _ => 0) (0 : Int32).toNatClampNeg 0) (1 : Int32).toNatClampNeg 0) (2 : Int32).toNatClampNeg 0)))), ((rt 6), .inl (cy 1, 3, .inr (.inl (fun _ => 0)))), ((rt 7), .inl (cy 1, 3, .inr (.inl (fun _ => 0)))), ((rt 8), .inl (cy 1, 3, .inr (.inl (fun _ => 0)))), (p2, .inl (cy 2, 9, .inl (fun _ => 0))), (p3, .inl (cy 0, 9, .inl (fun _ => (-1)))), (vC, .inr (3, [.ref sS, .ref sJ, .int 0, .int 0])), (p4, .inl (cy 3, 8, .inr (.inr (.inr (.inr (fun k9 => if k9 < 8 then some (rn k9) else none)))))), ((rn 0), .inl (cy 1, 11, .inr (.inl (fun _ => 0)))), ((rn 1), .inl (cy 1, 11, .inr (.inl (fun _ => 0)))), ((rn 2), .inl (cy 1, 11, .inr (.inl (fun _ => 0)))), ((rn 3), .inl (cy 1, 11, .inr (.inl (fun _ => 0)))), ((rn 4), .inl (cy 1, 11, .inr (.inl (fun _ => 0)))), ((rn 5), .inl (cy 1, 11, .inr (.inl (fun _ => 0)))), ((rn 6), .inl (cy 1, 11, .inr (.inl (fun _ => 0)))), ((rn 7), .inl (cy 1, 11, .inr (.inl (fun _ => 0)))), (h0, .inr (7, [.ref vC, .ref p1, .ref p2, .ref p3, .ref p4, .ref p5, .ref p6, .ref p7, .int e1, .long e2, .ref p8, .int 0, .int x2, .long 1]))] := hD
  refine lv_iinc (v := 3) (lv' := [(3, .int 3), (2, .int 5), (0, .ref h0), (1, .int 1)]) hx hb dX4_weigh_66 hl (k := 0) rfl (by decide) (by decide) rfl (fun ls hl => ?_)
  refine lv_goto (tgt := 23) hx hb dX4_weigh_69 (by decide) ?_
  refine lv_iload_n hx hb dX4_weigh_23 rfl (lv_at hl 0 rfl) ?_
  refine lv_iconst (v := 3) hx hb dX4_weigh_24 (by decide) ?_
  refine lv_icmp_ge (tgt := 72) hx hb dX4_weigh_25 (by decide) (fun _ => ?_) (fun c_25_71 => absurd (by decide +kernel) c_25_71)
  obtain ⟨hP, hD⟩ := zP_l (fun _ => 0) hP hD (q := 6) rfl (fun j hj => by rcases (show j = 0 ∨ j = 1 ∨ j = 2 by omega) with rfl | rfl | rfl <;> rfl)
  have hP : va_P D vwCl [(p5, .inl (cy 3, 9, .inr (.inr (.inr (.inr (fun k9 => if k9 < 9 then some (rt k9) else none)))))), ((rt 0), .inl (cy 1, 3, .inr (.inl (fun _ => 0)))), ((rt 1), .inl (cy 1, 3, .inr (.inl (fun _ => 0)))), ((rt 2), .inl (cy 1, 3, .inr (.inl (fun _ => 0)))), ((rt 3), .inl (cy 1, 3, .inr (.inl (fun _ => 0)))), ((rt 4), .inl (cy 1, 3, .inr (.inl (fun _ => 0)))), ((rt 5), .inl (cy 1, 3, .inr (.inl (fun _ => 0)))), ((rt 6), .inl (cy 1, 3, .inr (.inl (fun _ => 0)))), ((rt 7), .inl (cy 1, 3, .inr (.inl (fun _ => 0)))), ((rt 8), .inl (cy 1, 3, .inr (.inl (fun _ => 0)))), (p2, .inl (cy 2, 9, .inl (fun _ => 0))), (p3, .inl (cy 0, 9, .inl (fun _ => (-1)))), (vC, .inr (3, [.ref sS, .ref sJ, .int 0, .int 0])), (p4, .inl (cy 3, 8, .inr (.inr (.inr (.inr (fun k9 => if k9 < 8 then some (rn k9) else none)))))), ((rn 0), .inl (cy 1, 11, .inr (.inl (fun _ => 0)))), ((rn 1), .inl (cy 1, 11, .inr (.inl (fun _ => 0)))), ((rn 2), .inl (cy 1, 11, .inr (.inl (fun _ => 0)))), ((rn 3), .inl (cy 1, 11, .inr (.inl (fun _ => 0)))), ((rn 4), .inl (cy 1, 11, .inr (.inl (fun _ => 0)))), ((rn 5), .inl (cy 1, 11, .inr (.inl (fun _ => 0)))), ((rn 6), .inl (cy 1, 11, .inr (.inl (fun _ => 0)))), ((rn 7), .inl (cy 1, 11, .inr (.inl (fun _ => 0)))), (h0, .inr (7, [.ref vC, .ref p1, .ref p2, .ref p3, .ref p4, .ref p5, .ref p6, .ref p7, .int e1, .long e2, .ref p8, .int 0, .int x2, .long 1]))] H := hP
  have hD : va_D A [(p5, .inl (cy 3, 9, .inr (.inr (.inr (.inr (fun k9 => if k9 < 9 then some (rt k9) else none)))))), ((rt 0), .inl (cy 1, 3, .inr (.inl (fun _ => 0)))), ((rt 1), .inl (cy 1, 3, .inr (.inl (fun _ => 0)))), ((rt 2), .inl (cy 1, 3, .inr (.inl (fun _ => 0)))), ((rt 3), .inl (cy 1, 3, .inr (.inl (fun _ => 0)))), ((rt 4), .inl (cy 1, 3, .inr (.inl (fun _ => 0)))), ((rt 5), .inl (cy 1, 3, .inr (.inl (fun _ => 0)))), ((rt 6), .inl (cy 1, 3, .inr (.inl (fun _ => 0)))), ((rt 7), .inl (cy 1, 3, .inr (.inl (fun _ => 0)))), ((rt 8), .inl (cy 1, 3, .inr (.inl (fun _ => 0)))), (p2, .inl (cy 2, 9, .inl (fun _ => 0))), (p3, .inl (cy 0, 9, .inl (fun _ => (-1)))), (vC, .inr (3, [.ref sS, .ref sJ, .int 0, .int 0])), (p4, .inl (cy 3, 8, .inr (.inr (.inr (.inr (fun k9 => if k9 < 8 then some (rn k9) else none)))))), ((rn 0), .inl (cy 1, 11, .inr (.inl (fun _ => 0)))), ((rn 1), .inl (cy 1, 11, .inr (.inl (fun _ => 0)))), ((rn 2), .inl (cy 1, 11, .inr (.inl (fun _ => 0)))), ((rn 3), .inl (cy 1, 11, .inr (.inl (fun _ => 0)))), ((rn 4), .inl (cy 1, 11, .inr (.inl (fun _ => 0)))), ((rn 5), .inl (cy 1, 11, .inr (.inl (fun _ => 0)))), ((rn 6), .inl (cy 1, 11, .inr (.inl (fun _ => 0)))), ((rn 7), .inl (cy 1, 11, .inr (.inl (fun _ => 0)))), (h0, .inr (7, [.ref vC, .ref p1, .ref p2, .ref p3, .ref p4, .ref p5, .ref p6, .ref p7, .int e1, .long e2, .ref p8, .int 0, .int x2, .long 1]))] := hD
  refine lv_iinc (v := 6) (lv' := [(2, .int 6), (3, .int 3), (0, .ref h0), (1, .int 1)]) hx hb dX4_weigh_72 hl (k := 1) rfl (by decide) (by decide) rfl (fun ls hl => ?_)
  refine lv_goto (tgt := 15) hx hb dX4_weigh_75 (by decide) ?_
  refine lv_iload_n hx hb dX4_weigh_15 rfl (lv_at hl 0 rfl) ?_
  refine lv_bipush (v := 9) hx hb dX4_weigh_16 (by decide) ?_
  refine lv_icmp_ge (tgt := 78) hx hb dX4_weigh_18 (by decide) (fun c_18_72 => absurd c_18_72 (by decide +kernel)) (fun _ => ?_)
  refine lv_iconst (v := 0) hx hb dX4_weigh_21 (by decide) ?_
  refine lv_istore_n (lv' := [(3, .int 0), (2, .int 6), (0, .ref h0), (1, .int 1)]) hx hb dX4_weigh_22 rfl hl (by decide) rfl (fun ls hl => ?_)
  refine lv_iload_n hx hb dX4_weigh_23 rfl (lv_at hl 0 rfl) ?_
  refine lv_iconst (v := 3) hx hb dX4_weigh_24 (by decide) ?_
  refine lv_icmp_ge (tgt := 72) hx hb dX4_weigh_25 (by decide) (fun c_25_73 => absurd c_25_73 (by decide +kernel)) (fun _ => ?_)
  refine lv_aload_n hx hb dX4_weigh_28 rfl (lv_at hl 2 rfl) ?_
  refine va_get (D := D) (ci := 7) (v := .ref p5) (C := RX4) (T := TX4) (N := 14) hx hb hts iRX4 hown hK hP 22 rfl rfl 5 (by decide) (hts _ q43) (fun _ h9 => h9) rfl dX4_weigh_29 ?_
  refine lv_iload_n hx hb dX4_weigh_32 rfl (lv_at hl 1 rfl) ?_
  refine va_aldA hx hb hK hP 0 3 rfl rfl (z_in 6 (by decide) (by decide)) dX4_weigh_33 ?_
  rw [show va_rf ((fun k9 => if k9 < 9 then some (rt k9) else none) (6 : Int32).toNatClampNeg) = .ref (rt 6) from rfl]
  refine lv_iload_n hx hb dX4_weigh_34 rfl (lv_at hl 0 rfl) ?_
  refine lv_aload_n hx hb dX4_weigh_35 rfl (lv_at hl 2 rfl) ?_
  refine va_get (D := D) (ci := 7) (v := .ref p3) (C := RX4) (T := TX4) (N := 14) hx hb hts iRX4 hown hK hP 22 rfl rfl 3 (by decide) (hts _ q39) (fun _ h9 => h9) rfl dX4_weigh_36 ?_
  refine lv_iload_n hx hb dX4_weigh_39 rfl (lv_at hl 1 rfl) ?_
  refine va_iald hx hb hK hP 11 0 rfl rfl (z_in 6 (by decide) (by decide)) dX4_weigh_40 ?_
  refine lv_topi (fun y75 ey75 => ?_)
  obtain rfl : y75 = (-1) := ey75.trans rfl
  refine lv_iconst (v := (-1)) hx hb dX4_weigh_41 (by decide) ?_
  refine lv_icmp_ne (tgt := 49) hx hb dX4_weigh_42 (by decide) (fun c_42_75 => absurd (by decide +kernel) c_42_75) (fun _ => ?_)
  refine lv_lconst (v := 0) hx hb dX4_weigh_45 rfl ?_
  refine lv_goto (tgt := 65) hx hb dX4_weigh_46 (by decide) ?_
  refine va_last hx hb hK hP hD hS 7 1 rfl rfl (z_in 0 (by decide) (by decide)) dX4_weigh_65 (fun H locs hP hD hS => ?_)
  have hP : va_P D vwCl [(p5, .inl (cy 3, 9, .inr (.inr (.inr (.inr (fun k9 => if k9 < 9 then some (rt k9) else none)))))), ((rt 0), .inl (cy 1, 3, .inr (.inl (fun _ => 0)))), ((rt 1), .inl (cy 1, 3, .inr (.inl (fun _ => 0)))), ((rt 2), .inl (cy 1, 3, .inr (.inl (fun _ => 0)))), ((rt 3), .inl (cy 1, 3, .inr (.inl (fun _ => 0)))), ((rt 4), .inl (cy 1, 3, .inr (.inl (fun _ => 0)))), ((rt 5), .inl (cy 1, 3, .inr (.inl (fun _ => 0)))), ((rt 6), .inl (cy 1, 3, .inr (.inl (vp_updL (fun _ => 0) (0 : Int32).toNatClampNeg 0)))), ((rt 7), .inl (cy 1, 3, .inr (.inl (fun _ => 0)))), ((rt 8), .inl (cy 1, 3, .inr (.inl (fun _ => 0)))), (p2, .inl (cy 2, 9, .inl (fun _ => 0))), (p3, .inl (cy 0, 9, .inl (fun _ => (-1)))), (vC, .inr (3, [.ref sS, .ref sJ, .int 0, .int 0])), (p4, .inl (cy 3, 8, .inr (.inr (.inr (.inr (fun k9 => if k9 < 8 then some (rn k9) else none)))))), ((rn 0), .inl (cy 1, 11, .inr (.inl (fun _ => 0)))), ((rn 1), .inl (cy 1, 11, .inr (.inl (fun _ => 0)))), ((rn 2), .inl (cy 1, 11, .inr (.inl (fun _ => 0)))), ((rn 3), .inl (cy 1, 11, .inr (.inl (fun _ => 0)))), ((rn 4), .inl (cy 1, 11, .inr (.inl (fun _ => 0)))), ((rn 5), .inl (cy 1, 11, .inr (.inl (fun _ => 0)))), ((rn 6), .inl (cy 1, 11, .inr (.inl (fun _ => 0)))), ((rn 7), .inl (cy 1, 11, .inr (.inl (fun _ => 0)))), (h0, .inr (7, [.ref vC, .ref p1, .ref p2, .ref p3, .ref p4, .ref p5, .ref p6, .ref p7, .int e1, .long e2, .ref p8, .int 0, .int x2, .long 1]))] H := hP
  have hD : va_D A [(p5, .inl (cy 3, 9, .inr (.inr (.inr (.inr (fun k9 => if k9 < 9 then some (rt k9) else none)))))), ((rt 0), .inl (cy 1, 3, .inr (.inl (fun _ => 0)))), ((rt 1), .inl (cy 1, 3, .inr (.inl (fun _ => 0)))), ((rt 2), .inl (cy 1, 3, .inr (.inl (fun _ => 0)))), ((rt 3), .inl (cy 1, 3, .inr (.inl (fun _ => 0)))), ((rt 4), .inl (cy 1, 3, .inr (.inl (fun _ => 0)))), ((rt 5), .inl (cy 1, 3, .inr (.inl (fun _ => 0)))), ((rt 6), .inl (cy 1, 3, .inr (.inl (vp_updL (fun _ => 0) (0 : Int32).toNatClampNeg 0)))), ((rt 7), .inl (cy 1, 3, .inr (.inl (fun _ => 0)))), ((rt 8), .inl (cy 1, 3, .inr (.inl (fun _ => 0)))), (p2, .inl (cy 2, 9, .inl (fun _ => 0))), (p3, .inl (cy 0, 9, .inl (fun _ => (-1)))), (vC, .inr (3, [.ref sS, .ref sJ, .int 0, .int 0])), (p4, .inl (cy 3, 8, .inr (.inr (.inr (.inr (fun k9 => if k9 < 8 then some (rn k9) else none)))))), ((rn 0), .inl (cy 1, 11, .inr (.inl (fun _ => 0)))), ((rn 1), .inl (cy 1, 11, .inr (.inl (fun _ => 0)))), ((rn 2), .inl (cy 1, 11, .inr (.inl (fun _ => 0)))), ((rn 3), .inl (cy 1, 11, .inr (.inl (fun _ => 0)))), ((rn 4), .inl (cy 1, 11, .inr (.inl (fun _ => 0)))), ((rn 5), .inl (cy 1, 11, .inr (.inl (fun _ => 0)))), ((rn 6), .inl (cy 1, 11, .inr (.inl (fun _ => 0)))), ((rn 7), .inl (cy 1, 11, .inr (.inl (fun _ => 0)))), (h0, .inr (7, [.ref vC, .ref p1, .ref p2, .ref p3, .ref p4, .ref p5, .ref p6, .ref p7, .int e1, .long e2, .ref p8, .int 0, .int x2, .long 1]))] := hD
  refine lv_iinc (v := 1) (lv' := [(3, .int 1), (2, .int 6), (0, .ref h0), (1, .int 1)]) hx hb dX4_weigh_66 hl (k := 0) rfl (by decide) (by decide) rfl (fun ls hl => ?_)
  refine lv_goto (tgt := 23) hx hb dX4_weigh_69 (by decide) ?_
  refine lv_iload_n hx hb dX4_weigh_23 rfl (lv_at hl 0 rfl) ?_
  refine lv_iconst (v := 3) hx hb dX4_weigh_24 (by decide) ?_
  refine lv_icmp_ge (tgt := 72) hx hb dX4_weigh_25 (by decide) (fun c_25_76 => absurd c_25_76 (by decide +kernel)) (fun _ => ?_)
  refine lv_aload_n hx hb dX4_weigh_28 rfl (lv_at hl 2 rfl) ?_
  refine va_get (D := D) (ci := 7) (v := .ref p5) (C := RX4) (T := TX4) (N := 14) hx hb hts iRX4 hown hK hP 22 rfl rfl 5 (by decide) (hts _ q43) (fun _ h9 => h9) rfl dX4_weigh_29 ?_
  refine lv_iload_n hx hb dX4_weigh_32 rfl (lv_at hl 1 rfl) ?_
  refine va_aldA hx hb hK hP 0 3 rfl rfl (z_in 6 (by decide) (by decide)) dX4_weigh_33 ?_
  rw [show va_rf ((fun k9 => if k9 < 9 then some (rt k9) else none) (6 : Int32).toNatClampNeg) = .ref (rt 6) from rfl]
  refine lv_iload_n hx hb dX4_weigh_34 rfl (lv_at hl 0 rfl) ?_
  refine lv_aload_n hx hb dX4_weigh_35 rfl (lv_at hl 2 rfl) ?_
  refine va_get (D := D) (ci := 7) (v := .ref p3) (C := RX4) (T := TX4) (N := 14) hx hb hts iRX4 hown hK hP 22 rfl rfl 3 (by decide) (hts _ q39) (fun _ h9 => h9) rfl dX4_weigh_36 ?_
  refine lv_iload_n hx hb dX4_weigh_39 rfl (lv_at hl 1 rfl) ?_
  refine va_iald hx hb hK hP 11 0 rfl rfl (z_in 6 (by decide) (by decide)) dX4_weigh_40 ?_
  refine lv_topi (fun y78 ey78 => ?_)
  obtain rfl : y78 = (-1) := ey78.trans rfl
  refine lv_iconst (v := (-1)) hx hb dX4_weigh_41 (by decide) ?_
  refine lv_icmp_ne (tgt := 49) hx hb dX4_weigh_42 (by decide) (fun c_42_78 => absurd (by decide +kernel) c_42_78) (fun _ => ?_)
  refine lv_lconst (v := 0) hx hb dX4_weigh_45 rfl ?_
  refine lv_goto (tgt := 65) hx hb dX4_weigh_46 (by decide) ?_
  refine va_last hx hb hK hP hD hS 7 1 rfl rfl (z_in 1 (by decide) (by decide)) dX4_weigh_65 (fun H locs hP hD hS => ?_)
  have hP : va_P D vwCl [(p5, .inl (cy 3, 9, .inr (.inr (.inr (.inr (fun k9 => if k9 < 9 then some (rt k9) else none)))))), ((rt 0), .inl (cy 1, 3, .inr (.inl (fun _ => 0)))), ((rt 1), .inl (cy 1, 3, .inr (.inl (fun _ => 0)))), ((rt 2), .inl (cy 1, 3, .inr (.inl (fun _ => 0)))), ((rt 3), .inl (cy 1, 3, .inr (.inl (fun _ => 0)))), ((rt 4), .inl (cy 1, 3, .inr (.inl (fun _ => 0)))), ((rt 5), .inl (cy 1, 3, .inr (.inl (fun _ => 0)))), ((rt 6), .inl (cy 1, 3, .inr (.inl (vp_updL (vp_updL (fun _ => 0) (0 : Int32).toNatClampNeg 0) (1 : Int32).toNatClampNeg 0)))), ((rt 7), .inl (cy 1, 3, .inr (.inl (fun _ => 0)))), ((rt 8), .inl (cy 1, 3, .inr (.inl (fun _ => 0)))), (p2, .inl (cy 2, 9, .inl (fun _ => 0))), (p3, .inl (cy 0, 9, .inl (fun _ => (-1)))), (vC, .inr (3, [.ref sS, .ref sJ, .int 0, .int 0])), (p4, .inl (cy 3, 8, .inr (.inr (.inr (.inr (fun k9 => if k9 < 8 then some (rn k9) else none)))))), ((rn 0), .inl (cy 1, 11, .inr (.inl (fun _ => 0)))), ((rn 1), .inl (cy 1, 11, .inr (.inl (fun _ => 0)))), ((rn 2), .inl (cy 1, 11, .inr (.inl (fun _ => 0)))), ((rn 3), .inl (cy 1, 11, .inr (.inl (fun _ => 0)))), ((rn 4), .inl (cy 1, 11, .inr (.inl (fun _ => 0)))), ((rn 5), .inl (cy 1, 11, .inr (.inl (fun _ => 0)))), ((rn 6), .inl (cy 1, 11, .inr (.inl (fun _ => 0)))), ((rn 7), .inl (cy 1, 11, .inr (.inl (fun _ => 0)))), (h0, .inr (7, [.ref vC, .ref p1, .ref p2, .ref p3, .ref p4, .ref p5, .ref p6, .ref p7, .int e1, .long e2, .ref p8, .int 0, .int x2, .long 1]))] H := hP
  have hD : va_D A [(p5, .inl (cy 3, 9, .inr (.inr (.inr (.inr (fun k9 => if k9 < 9 then some (rt k9) else none)))))), ((rt 0), .inl (cy 1, 3, .inr (.inl (fun _ => 0)))), ((rt 1), .inl (cy 1, 3, .inr (.inl (fun _ => 0)))), ((rt 2), .inl (cy 1, 3, .inr (.inl (fun _ => 0)))), ((rt 3), .inl (cy 1, 3, .inr (.inl (fun _ => 0)))), ((rt 4), .inl (cy 1, 3, .inr (.inl (fun _ => 0)))), ((rt 5), .inl (cy 1, 3, .inr (.inl (fun _ => 0)))), ((rt 6), .inl (cy 1, 3, .inr (.inl (vp_updL (vp_updL (fun _ => 0) (0 : Int32).toNatClampNeg 0) (1 : Int32).toNatClampNeg 0)))), ((rt 7), .inl (cy 1, 3, .inr (.inl (fun _ => 0)))), ((rt 8), .inl (cy 1, 3, .inr (.inl (fun _ => 0)))), (p2, .inl (cy 2, 9, .inl (fun _ => 0))), (p3, .inl (cy 0, 9, .inl (fun _ => (-1)))), (vC, .inr (3, [.ref sS, .ref sJ, .int 0, .int 0])), (p4, .inl (cy 3, 8, .inr (.inr (.inr (.inr (fun k9 => if k9 < 8 then some (rn k9) else none)))))), ((rn 0), .inl (cy 1, 11, .inr (.inl (fun _ => 0)))), ((rn 1), .inl (cy 1, 11, .inr (.inl (fun _ => 0)))), ((rn 2), .inl (cy 1, 11, .inr (.inl (fun _ => 0)))), ((rn 3), .inl (cy 1, 11, .inr (.inl (fun _ => 0)))), ((rn 4), .inl (cy 1, 11, .inr (.inl (fun _ => 0)))), ((rn 5), .inl (cy 1, 11, .inr (.inl (fun _ => 0)))), ((rn 6), .inl (cy 1, 11, .inr (.inl (fun _ => 0)))), ((rn 7), .inl (cy 1, 11, .inr (.inl (fun _ => 0)))), (h0, .inr (7, [.ref vC, .ref p1, .ref p2, .ref p3, .ref p4, .ref p5, .ref p6, .ref p7, .int e1, .long e2, .ref p8, .int 0, .int x2, .long 1]))] := hD
  refine lv_iinc (v := 2) (lv' := [(3, .int 2), (2, .int 6), (0, .ref h0), (1, .int 1)]) hx hb dX4_weigh_66 hl (k := 0) rfl (by decide) (by decide) rfl (fun ls hl => ?_)
  refine lv_goto (tgt := 23) hx hb dX4_weigh_69 (by decide) ?_
  refine lv_iload_n hx hb dX4_weigh_23 rfl (lv_at hl 0 rfl) ?_
  refine lv_iconst (v := 3) hx hb dX4_weigh_24 (by decide) ?_
  refine lv_icmp_ge (tgt := 72) hx hb dX4_weigh_25 (by decide) (fun c_25_79 => absurd c_25_79 (by decide +kernel)) (fun _ => ?_)
  refine lv_aload_n hx hb dX4_weigh_28 rfl (lv_at hl 2 rfl) ?_
  refine va_get (D := D) (ci := 7) (v := .ref p5) (C := RX4) (T := TX4) (N := 14) hx hb hts iRX4 hown hK hP 22 rfl rfl 5 (by decide) (hts _ q43) (fun _ h9 => h9) rfl dX4_weigh_29 ?_
  refine lv_iload_n hx hb dX4_weigh_32 rfl (lv_at hl 1 rfl) ?_
  refine va_aldA hx hb hK hP 0 3 rfl rfl (z_in 6 (by decide) (by decide)) dX4_weigh_33 ?_
  rw [show va_rf ((fun k9 => if k9 < 9 then some (rt k9) else none) (6 : Int32).toNatClampNeg) = .ref (rt 6) from rfl]
  refine lv_iload_n hx hb dX4_weigh_34 rfl (lv_at hl 0 rfl) ?_
  refine lv_aload_n hx hb dX4_weigh_35 rfl (lv_at hl 2 rfl) ?_
  refine va_get (D := D) (ci := 7) (v := .ref p3) (C := RX4) (T := TX4) (N := 14) hx hb hts iRX4 hown hK hP 22 rfl rfl 3 (by decide) (hts _ q39) (fun _ h9 => h9) rfl dX4_weigh_36 ?_
  refine lv_iload_n hx hb dX4_weigh_39 rfl (lv_at hl 1 rfl) ?_
  refine va_iald hx hb hK hP 11 0 rfl rfl (z_in 6 (by decide) (by decide)) dX4_weigh_40 ?_
  refine lv_topi (fun y81 ey81 => ?_)
  obtain rfl : y81 = (-1) := ey81.trans rfl
  refine lv_iconst (v := (-1)) hx hb dX4_weigh_41 (by decide) ?_
  refine lv_icmp_ne (tgt := 49) hx hb dX4_weigh_42 (by decide) (fun c_42_81 => absurd (by decide +kernel) c_42_81) (fun _ => ?_)
  refine lv_lconst (v := 0) hx hb dX4_weigh_45 rfl ?_
  refine lv_goto (tgt := 65) hx hb dX4_weigh_46 (by decide) ?_
  refine va_last hx hb hK hP hD hS 7 1 rfl rfl (z_in 2 (by decide) (by decide)) dX4_weigh_65 (fun H locs hP hD hS => ?_)
  have hP : va_P D vwCl [(p5, .inl (cy 3, 9, .inr (.inr (.inr (.inr (fun k9 => if k9 < 9 then some (rt k9) else none)))))), ((rt 0), .inl (cy 1, 3, .inr (.inl (fun _ => 0)))), ((rt 1), .inl (cy 1, 3, .inr (.inl (fun _ => 0)))), ((rt 2), .inl (cy 1, 3, .inr (.inl (fun _ => 0)))), ((rt 3), .inl (cy 1, 3, .inr (.inl (fun _ => 0)))), ((rt 4), .inl (cy 1, 3, .inr (.inl (fun _ => 0)))), ((rt 5), .inl (cy 1, 3, .inr (.inl (fun _ => 0)))), ((rt 6), .inl (cy 1, 3, .inr (.inl (vp_updL (vp_updL (vp_updL (fun _ => 0) (0 : Int32).toNatClampNeg 0) (1 : Int32).toNatClampNeg 0) (2 : Int32).toNatClampNeg 0)))), ((rt 7), .inl (cy 1, 3, .inr (.inl (fun _ => 0)))), ((rt 8), .inl (cy 1, 3, .inr (.inl (fun _ => 0)))), (p2, .inl (cy 2, 9, .inl (fun _ => 0))), (p3, .inl (cy 0, 9, .inl (fun _ => (-1)))), (vC, .inr (3, [.ref sS, .ref sJ, .int 0, .int 0])), (p4, .inl (cy 3, 8, .inr (.inr (.inr (.inr (fun k9 => if k9 < 8 then some (rn k9) else none)))))), ((rn 0), .inl (cy 1, 11, .inr (.inl (fun _ => 0)))), ((rn 1), .inl (cy 1, 11, .inr (.inl (fun _ => 0)))), ((rn 2), .inl (cy 1, 11, .inr (.inl (fun _ => 0)))), ((rn 3), .inl (cy 1, 11, .inr (.inl (fun _ => 0)))), ((rn 4), .inl (cy 1, 11, .inr (.inl (fun _ => 0)))), ((rn 5), .inl (cy 1, 11, .inr (.inl (fun _ => 0)))), ((rn 6), .inl (cy 1, 11, .inr (.inl (fun _ => 0)))), ((rn 7), .inl (cy 1, 11, .inr (.inl (fun _ => 0)))), (h0, .inr (7, [.ref vC, .ref p1, .ref p2, .ref p3, .ref p4, .ref p5, .ref p6, .ref p7, .int e1, .long e2, .ref p8, .int 0, .int x2, .long 1]))] H := hP
  have hD : va_D A [(p5, .inl (cy 3, 9, .inr (.inr (.inr (.inr (fun k9 => if k9 < 9 then some (rt k9) else none)))))), ((rt 0), .inl (cy 1, 3, .inr (.inl (fun _ => 0)))), ((rt 1), .inl (cy 1, 3, .inr (.inl (fun _ => 0)))), ((rt 2), .inl (cy 1, 3, .inr (.inl (fun _ => 0)))), ((rt 3), .inl (cy 1, 3, .inr (.inl (fun _ => 0)))), ((rt 4), .inl (cy 1, 3, .inr (.inl (fun _ => 0)))), ((rt 5), .inl (cy 1, 3, .inr (.inl (fun _ => 0)))), ((rt 6), .inl (cy 1, 3, .inr (.inl (vp_updL (vp_updL (vp_updL (fun _ => 0) (0 : Int32).toNatClampNeg 0) (1 : Int32).toNatClampNeg 0) (2 : Int32).toNatClampNeg 0)))), ((rt 7), .inl (cy 1, 3, .inr (.inl (fun _ => 0)))), ((rt 8), .inl (cy 1, 3, .inr (.inl (fun _ => 0)))), (p2, .inl (cy 2, 9, .inl (fun _ => 0))), (p3, .inl (cy 0, 9, .inl (fun _ => (-1)))), (vC, .inr (3, [.ref sS, .ref sJ, .int 0, .int 0])), (p4, .inl (cy 3, 8, .inr (.inr (.inr (.inr (fun k9 => if k9 < 8 then some (rn k9) else none)))))), ((rn 0), .inl (cy 1, 11, .inr (.inl (fun _ => 0)))), ((rn 1), .inl (cy 1, 11, .inr (.inl (fun _ => 0)))), ((rn 2), .inl (cy 1, 11, .inr (.inl (fun _ => 0)))), ((rn 3), .inl (cy 1, 11, .inr (.inl (fun _ => 0)))), ((rn 4), .inl (cy 1, 11, .inr (.inl (fun _ => 0)))), ((rn 5), .inl (cy 1, 11, .inr (.inl (fun _ => 0)))), ((rn 6), .inl (cy 1, 11, .inr (.inl (fun _ => 0)))), ((rn 7), .inl (cy 1, 11, .inr (.inl (fun _ => 0)))), (h0, .inr (7, [.ref vC, .ref p1, .ref p2, .ref p3, .ref p4, .ref p5, .ref p6, .ref p7, .int e1, .long e2, .ref p8, .int 0, .int x2, .long 1]))] := hD
  refine lv_iinc (v := 3) (lv' := [(3, .int 3), (2, .int 6), (0, .ref h0), (1, .int 1)]) hx hb dX4_weigh_66 hl (k := 0) rfl (by decide) (by decide) rfl (fun ls hl => ?_)
  refine lv_goto (tgt := 23) hx hb dX4_weigh_69 (by decide) ?_
  refine lv_iload_n hx hb dX4_weigh_23 rfl (lv_at hl 0 rfl) ?_
  refine lv_iconst (v := 3) hx hb dX4_weigh_24 (by decide) ?_
  refine lv_icmp_ge (tgt := 72) hx hb dX4_weigh_25 (by decide) (fun _ => ?_) (fun c_25_82 => absurd (by decide +kernel) c_25_82)
  obtain ⟨hP, hD⟩ := zP_l (fun _ => 0) hP hD (q := 7) rfl (fun j hj => by rcases (show j = 0 ∨ j = 1 ∨ j = 2 by omega) with rfl | rfl | rfl <;> rfl)
  have hP : va_P D vwCl [(p5, .inl (cy 3, 9, .inr (.inr (.inr (.inr (fun k9 => if k9 < 9 then some (rt k9) else none)))))), ((rt 0), .inl (cy 1, 3, .inr (.inl (fun _ => 0)))), ((rt 1), .inl (cy 1, 3, .inr (.inl (fun _ => 0)))), ((rt 2), .inl (cy 1, 3, .inr (.inl (fun _ => 0)))), ((rt 3), .inl (cy 1, 3, .inr (.inl (fun _ => 0)))), ((rt 4), .inl (cy 1, 3, .inr (.inl (fun _ => 0)))), ((rt 5), .inl (cy 1, 3, .inr (.inl (fun _ => 0)))), ((rt 6), .inl (cy 1, 3, .inr (.inl (fun _ => 0)))), ((rt 7), .inl (cy 1, 3, .inr (.inl (fun _ => 0)))), ((rt 8), .inl (cy 1, 3, .inr (.inl (fun _ => 0)))), (p2, .inl (cy 2, 9, .inl (fun _ => 0))), (p3, .inl (cy 0, 9, .inl (fun _ => (-1)))), (vC, .inr (3, [.ref sS, .ref sJ, .int 0, .int 0])), (p4, .inl (cy 3, 8, .inr (.inr (.inr (.inr (fun k9 => if k9 < 8 then some (rn k9) else none)))))), ((rn 0), .inl (cy 1, 11, .inr (.inl (fun _ => 0)))), ((rn 1), .inl (cy 1, 11, .inr (.inl (fun _ => 0)))), ((rn 2), .inl (cy 1, 11, .inr (.inl (fun _ => 0)))), ((rn 3), .inl (cy 1, 11, .inr (.inl (fun _ => 0)))), ((rn 4), .inl (cy 1, 11, .inr (.inl (fun _ => 0)))), ((rn 5), .inl (cy 1, 11, .inr (.inl (fun _ => 0)))), ((rn 6), .inl (cy 1, 11, .inr (.inl (fun _ => 0)))), ((rn 7), .inl (cy 1, 11, .inr (.inl (fun _ => 0)))), (h0, .inr (7, [.ref vC, .ref p1, .ref p2, .ref p3, .ref p4, .ref p5, .ref p6, .ref p7, .int e1, .long e2, .ref p8, .int 0, .int x2, .long 1]))] H := hP
  have hD : va_D A [(p5, .inl (cy 3, 9, .inr (.inr (.inr (.inr (fun k9 => if k9 < 9 then some (rt k9) else none)))))), ((rt 0), .inl (cy 1, 3, .inr (.inl (fun _ => 0)))), ((rt 1), .inl (cy 1, 3, .inr (.inl (fun _ => 0)))), ((rt 2), .inl (cy 1, 3, .inr (.inl (fun _ => 0)))), ((rt 3), .inl (cy 1, 3, .inr (.inl (fun _ => 0)))), ((rt 4), .inl (cy 1, 3, .inr (.inl (fun _ => 0)))), ((rt 5), .inl (cy 1, 3, .inr (.inl (fun _ => 0)))), ((rt 6), .inl (cy 1, 3, .inr (.inl (fun _ => 0)))), ((rt 7), .inl (cy 1, 3, .inr (.inl (fun _ => 0)))), ((rt 8), .inl (cy 1, 3, .inr (.inl (fun _ => 0)))), (p2, .inl (cy 2, 9, .inl (fun _ => 0))), (p3, .inl (cy 0, 9, .inl (fun _ => (-1)))), (vC, .inr (3, [.ref sS, .ref sJ, .int 0, .int 0])), (p4, .inl (cy 3, 8, .inr (.inr (.inr (.inr (fun k9 => if k9 < 8 then some (rn k9) else none)))))), ((rn 0), .inl (cy 1, 11, .inr (.inl (fun _ => 0)))), ((rn 1), .inl (cy 1, 11, .inr (.inl (fun _ => 0)))), ((rn 2), .inl (cy 1, 11, .inr (.inl (fun _ => 0)))), ((rn 3), .inl (cy 1, 11, .inr (.inl (fun _ => 0)))), ((rn 4), .inl (cy 1, 11, .inr (.inl (fun _ => 0)))), ((rn 5), .inl (cy 1, 11, .inr (.inl (fun _ => 0)))), ((rn 6), .inl (cy 1, 11, .inr (.inl (fun _ => 0)))), ((rn 7), .inl (cy 1, 11, .inr (.inl (fun _ => 0)))), (h0, .inr (7, [.ref vC, .ref p1, .ref p2, .ref p3, .ref p4, .ref p5, .ref p6, .ref p7, .int e1, .long e2, .ref p8, .int 0, .int x2, .long 1]))] := hD
  refine lv_iinc (v := 7) (lv' := [(2, .int 7), (3, .int 3), (0, .ref h0), (1, .int 1)]) hx hb dX4_weigh_72 hl (k := 1) rfl (by decide) (by decide) rfl (fun ls hl => ?_)
  refine lv_goto (tgt := 15) hx hb dX4_weigh_75 (by decide) ?_
  refine lv_iload_n hx hb dX4_weigh_15 rfl (lv_at hl 0 rfl) ?_
  refine lv_bipush (v := 9) hx hb dX4_weigh_16 (by decide) ?_
  refine lv_icmp_ge (tgt := 78) hx hb dX4_weigh_18 (by decide) (fun c_18_83 => absurd c_18_83 (by decide +kernel)) (fun _ => ?_)
  refine lv_iconst (v := 0) hx hb dX4_weigh_21 (by decide) ?_
  refine lv_istore_n (lv' := [(3, .int 0), (2, .int 7), (0, .ref h0), (1, .int 1)]) hx hb dX4_weigh_22 rfl hl (by decide) rfl (fun ls hl => ?_)
  refine lv_iload_n hx hb dX4_weigh_23 rfl (lv_at hl 0 rfl) ?_
  refine lv_iconst (v := 3) hx hb dX4_weigh_24 (by decide) ?_
  refine lv_icmp_ge (tgt := 72) hx hb dX4_weigh_25 (by decide) (fun c_25_84 => absurd c_25_84 (by decide +kernel)) (fun _ => ?_)
  refine lv_aload_n hx hb dX4_weigh_28 rfl (lv_at hl 2 rfl) ?_
  refine va_get (D := D) (ci := 7) (v := .ref p5) (C := RX4) (T := TX4) (N := 14) hx hb hts iRX4 hown hK hP 22 rfl rfl 5 (by decide) (hts _ q43) (fun _ h9 => h9) rfl dX4_weigh_29 ?_
  refine lv_iload_n hx hb dX4_weigh_32 rfl (lv_at hl 1 rfl) ?_
  refine va_aldA hx hb hK hP 0 3 rfl rfl (z_in 7 (by decide) (by decide)) dX4_weigh_33 ?_
  rw [show va_rf ((fun k9 => if k9 < 9 then some (rt k9) else none) (7 : Int32).toNatClampNeg) = .ref (rt 7) from rfl]
  refine lv_iload_n hx hb dX4_weigh_34 rfl (lv_at hl 0 rfl) ?_
  refine lv_aload_n hx hb dX4_weigh_35 rfl (lv_at hl 2 rfl) ?_
  refine va_get (D := D) (ci := 7) (v := .ref p3) (C := RX4) (T := TX4) (N := 14) hx hb hts iRX4 hown hK hP 22 rfl rfl 3 (by decide) (hts _ q39) (fun _ h9 => h9) rfl dX4_weigh_36 ?_
  refine lv_iload_n hx hb dX4_weigh_39 rfl (lv_at hl 1 rfl) ?_
  refine va_iald hx hb hK hP 11 0 rfl rfl (z_in 7 (by decide) (by decide)) dX4_weigh_40 ?_
  refine lv_topi (fun y86 ey86 => ?_)
  obtain rfl : y86 = (-1) := ey86.trans rfl
  refine lv_iconst (v := (-1)) hx hb dX4_weigh_41 (by decide) ?_
  refine lv_icmp_ne (tgt := 49) hx hb dX4_weigh_42 (by decide) (fun c_42_86 => absurd (by decide +kernel) c_42_86) (fun _ => ?_)
  refine lv_lconst (v := 0) hx hb dX4_weigh_45 rfl ?_
  refine lv_goto (tgt := 65) hx hb dX4_weigh_46 (by decide) ?_
  refine va_last hx hb hK hP hD hS 8 1 rfl rfl (z_in 0 (by decide) (by decide)) dX4_weigh_65 (fun H locs hP hD hS => ?_)
  have hP : va_P D vwCl [(p5, .inl (cy 3, 9, .inr (.inr (.inr (.inr (fun k9 => if k9 < 9 then some (rt k9) else none)))))), ((rt 0), .inl (cy 1, 3, .inr (.inl (fun _ => 0)))), ((rt 1), .inl (cy 1, 3, .inr (.inl (fun _ => 0)))), ((rt 2), .inl (cy 1, 3, .inr (.inl (fun _ => 0)))), ((rt 3), .inl (cy 1, 3, .inr (.inl (fun _ => 0)))), ((rt 4), .inl (cy 1, 3, .inr (.inl (fun _ => 0)))), ((rt 5), .inl (cy 1, 3, .inr (.inl (fun _ => 0)))), ((rt 6), .inl (cy 1, 3, .inr (.inl (fun _ => 0)))), ((rt 7), .inl (cy 1, 3, .inr (.inl (vp_updL (fun _ => 0) (0 : Int32).toNatClampNeg 0)))), ((rt 8), .inl (cy 1, 3, .inr (.inl (fun _ => 0)))), (p2, .inl (cy 2, 9, .inl (fun _ => 0))), (p3, .inl (cy 0, 9, .inl (fun _ => (-1)))), (vC, .inr (3, [.ref sS, .ref sJ, .int 0, .int 0])), (p4, .inl (cy 3, 8, .inr (.inr (.inr (.inr (fun k9 => if k9 < 8 then some (rn k9) else none)))))), ((rn 0), .inl (cy 1, 11, .inr (.inl (fun _ => 0)))), ((rn 1), .inl (cy 1, 11, .inr (.inl (fun _ => 0)))), ((rn 2), .inl (cy 1, 11, .inr (.inl (fun _ => 0)))), ((rn 3), .inl (cy 1, 11, .inr (.inl (fun _ => 0)))), ((rn 4), .inl (cy 1, 11, .inr (.inl (fun _ => 0)))), ((rn 5), .inl (cy 1, 11, .inr (.inl (fun _ => 0)))), ((rn 6), .inl (cy 1, 11, .inr (.inl (fun _ => 0)))), ((rn 7), .inl (cy 1, 11, .inr (.inl (fun _ => 0)))), (h0, .inr (7, [.ref vC, .ref p1, .ref p2, .ref p3, .ref p4, .ref p5, .ref p6, .ref p7, .int e1, .long e2, .ref p8, .int 0, .int x2, .long 1]))] H := hP
  have hD : va_D A [(p5, .inl (cy 3, 9, .inr (.inr (.inr (.inr (fun k9 => if k9 < 9 then some (rt k9) else none)))))), ((rt 0), .inl (cy 1, 3, .inr (.inl (fun _ => 0)))), ((rt 1), .inl (cy 1, 3, .inr (.inl (fun _ => 0)))), ((rt 2), .inl (cy 1, 3, .inr (.inl (fun _ => 0)))), ((rt 3), .inl (cy 1, 3, .inr (.inl (fun _ => 0)))), ((rt 4), .inl (cy 1, 3, .inr (.inl (fun _ => 0)))), ((rt 5), .inl (cy 1, 3, .inr (.inl (fun _ => 0)))), ((rt 6), .inl (cy 1, 3, .inr (.inl (fun _ => 0)))), ((rt 7), .inl (cy 1, 3, .inr (.inl (vp_updL (fun _ => 0) (0 : Int32).toNatClampNeg 0)))), ((rt 8), .inl (cy 1, 3, .inr (.inl (fun _ => 0)))), (p2, .inl (cy 2, 9, .inl (fun _ => 0))), (p3, .inl (cy 0, 9, .inl (fun _ => (-1)))), (vC, .inr (3, [.ref sS, .ref sJ, .int 0, .int 0])), (p4, .inl (cy 3, 8, .inr (.inr (.inr (.inr (fun k9 => if k9 < 8 then some (rn k9) else none)))))), ((rn 0), .inl (cy 1, 11, .inr (.inl (fun _ => 0)))), ((rn 1), .inl (cy 1, 11, .inr (.inl (fun _ => 0)))), ((rn 2), .inl (cy 1, 11, .inr (.inl (fun _ => 0)))), ((rn 3), .inl (cy 1, 11, .inr (.inl (fun _ => 0)))), ((rn 4), .inl (cy 1, 11, .inr (.inl (fun _ => 0)))), ((rn 5), .inl (cy 1, 11, .inr (.inl (fun _ => 0)))), ((rn 6), .inl (cy 1, 11, .inr (.inl (fun _ => 0)))), ((rn 7), .inl (cy 1, 11, .inr (.inl (fun _ => 0)))), (h0, .inr (7, [.ref vC, .ref p1, .ref p2, .ref p3, .ref p4, .ref p5, .ref p6, .ref p7, .int e1, .long e2, .ref p8, .int 0, .int x2, .long 1]))] := hD
  refine lv_iinc (v := 1) (lv' := [(3, .int 1), (2, .int 7), (0, .ref h0), (1, .int 1)]) hx hb dX4_weigh_66 hl (k := 0) rfl (by decide) (by decide) rfl (fun ls hl => ?_)
  refine lv_goto (tgt := 23) hx hb dX4_weigh_69 (by decide) ?_
  refine lv_iload_n hx hb dX4_weigh_23 rfl (lv_at hl 0 rfl) ?_
  refine lv_iconst (v := 3) hx hb dX4_weigh_24 (by decide) ?_
  refine lv_icmp_ge (tgt := 72) hx hb dX4_weigh_25 (by decide) (fun c_25_87 => absurd c_25_87 (by decide +kernel)) (fun _ => ?_)
  refine lv_aload_n hx hb dX4_weigh_28 rfl (lv_at hl 2 rfl) ?_
  refine va_get (D := D) (ci := 7) (v := .ref p5) (C := RX4) (T := TX4) (N := 14) hx hb hts iRX4 hown hK hP 22 rfl rfl 5 (by decide) (hts _ q43) (fun _ h9 => h9) rfl dX4_weigh_29 ?_
  refine lv_iload_n hx hb dX4_weigh_32 rfl (lv_at hl 1 rfl) ?_
  refine va_aldA hx hb hK hP 0 3 rfl rfl (z_in 7 (by decide) (by decide)) dX4_weigh_33 ?_
  rw [show va_rf ((fun k9 => if k9 < 9 then some (rt k9) else none) (7 : Int32).toNatClampNeg) = .ref (rt 7) from rfl]
  refine lv_iload_n hx hb dX4_weigh_34 rfl (lv_at hl 0 rfl) ?_
  refine lv_aload_n hx hb dX4_weigh_35 rfl (lv_at hl 2 rfl) ?_
  refine va_get (D := D) (ci := 7) (v := .ref p3) (C := RX4) (T := TX4) (N := 14) hx hb hts iRX4 hown hK hP 22 rfl rfl 3 (by decide) (hts _ q39) (fun _ h9 => h9) rfl dX4_weigh_36 ?_
  refine lv_iload_n hx hb dX4_weigh_39 rfl (lv_at hl 1 rfl) ?_
  refine va_iald hx hb hK hP 11 0 rfl rfl (z_in 7 (by decide) (by decide)) dX4_weigh_40 ?_
  refine lv_topi (fun y89 ey89 => ?_)
  obtain rfl : y89 = (-1) := ey89.trans rfl
  refine lv_iconst (v := (-1)) hx hb dX4_weigh_41 (by decide) ?_
  refine lv_icmp_ne (tgt := 49) hx hb dX4_weigh_42 (by decide) (fun c_42_89 => absurd (by decide +kernel) c_42_89) (fun _ => ?_)
  refine lv_lconst (v := 0) hx hb dX4_weigh_45 rfl ?_
  refine lv_goto (tgt := 65) hx hb dX4_weigh_46 (by decide) ?_
  refine va_last hx hb hK hP hD hS 8 1 rfl rfl (z_in 1 (by decide) (by decide)) dX4_weigh_65 (fun H locs hP hD hS => ?_)
  have hP : va_P D vwCl [(p5, .inl (cy 3, 9, .inr (.inr (.inr (.inr (fun k9 => if k9 < 9 then some (rt k9) else none)))))), ((rt 0), .inl (cy 1, 3, .inr (.inl (fun _ => 0)))), ((rt 1), .inl (cy 1, 3, .inr (.inl (fun _ => 0)))), ((rt 2), .inl (cy 1, 3, .inr (.inl (fun _ => 0)))), ((rt 3), .inl (cy 1, 3, .inr (.inl (fun _ => 0)))), ((rt 4), .inl (cy 1, 3, .inr (.inl (fun _ => 0)))), ((rt 5), .inl (cy 1, 3, .inr (.inl (fun _ => 0)))), ((rt 6), .inl (cy 1, 3, .inr (.inl (fun _ => 0)))), ((rt 7), .inl (cy 1, 3, .inr (.inl (vp_updL (vp_updL (fun _ => 0) (0 : Int32).toNatClampNeg 0) (1 : Int32).toNatClampNeg 0)))), ((rt 8), .inl (cy 1, 3, .inr (.inl (fun _ => 0)))), (p2, .inl (cy 2, 9, .inl (fun _ => 0))), (p3, .inl (cy 0, 9, .inl (fun _ => (-1)))), (vC, .inr (3, [.ref sS, .ref sJ, .int 0, .int 0])), (p4, .inl (cy 3, 8, .inr (.inr (.inr (.inr (fun k9 => if k9 < 8 then some (rn k9) else none)))))), ((rn 0), .inl (cy 1, 11, .inr (.inl (fun _ => 0)))), ((rn 1), .inl (cy 1, 11, .inr (.inl (fun _ => 0)))), ((rn 2), .inl (cy 1, 11, .inr (.inl (fun _ => 0)))), ((rn 3), .inl (cy 1, 11, .inr (.inl (fun _ => 0)))), ((rn 4), .inl (cy 1, 11, .inr (.inl (fun _ => 0)))), ((rn 5), .inl (cy 1, 11, .inr (.inl (fun _ => 0)))), ((rn 6), .inl (cy 1, 11, .inr (.inl (fun _ => 0)))), ((rn 7), .inl (cy 1, 11, .inr (.inl (fun _ => 0)))), (h0, .inr (7, [.ref vC, .ref p1, .ref p2, .ref p3, .ref p4, .ref p5, .ref p6, .ref p7, .int e1, .long e2, .ref p8, .int 0, .int x2, .long 1]))] H := hP
  have hD : va_D A [(p5, .inl (cy 3, 9, .inr (.inr (.inr (.inr (fun k9 => if k9 < 9 then some (rt k9) else none)))))), ((rt 0), .inl (cy 1, 3, .inr (.inl (fun _ => 0)))), ((rt 1), .inl (cy 1, 3, .inr (.inl (fun _ => 0)))), ((rt 2), .inl (cy 1, 3, .inr (.inl (fun _ => 0)))), ((rt 3), .inl (cy 1, 3, .inr (.inl (fun _ => 0)))), ((rt 4), .inl (cy 1, 3, .inr (.inl (fun _ => 0)))), ((rt 5), .inl (cy 1, 3, .inr (.inl (fun _ => 0)))), ((rt 6), .inl (cy 1, 3, .inr (.inl (fun _ => 0)))), ((rt 7), .inl (cy 1, 3, .inr (.inl (vp_updL (vp_updL (fun _ => 0) (0 : Int32).toNatClampNeg 0) (1 : Int32).toNatClampNeg 0)))), ((rt 8), .inl (cy 1, 3, .inr (.inl (fun _ => 0)))), (p2, .inl (cy 2, 9, .inl (fun _ => 0))), (p3, .inl (cy 0, 9, .inl (fun _ => (-1)))), (vC, .inr (3, [.ref sS, .ref sJ, .int 0, .int 0])), (p4, .inl (cy 3, 8, .inr (.inr (.inr (.inr (fun k9 => if k9 < 8 then some (rn k9) else none)))))), ((rn 0), .inl (cy 1, 11, .inr (.inl (fun _ => 0)))), ((rn 1), .inl (cy 1, 11, .inr (.inl (fun _ => 0)))), ((rn 2), .inl (cy 1, 11, .inr (.inl (fun _ => 0)))), ((rn 3), .inl (cy 1, 11, .inr (.inl (fun _ => 0)))), ((rn 4), .inl (cy 1, 11, .inr (.inl (fun _ => 0)))), ((rn 5), .inl (cy 1, 11, .inr (.inl (fun _ => 0)))), ((rn 6), .inl (cy 1, 11, .inr (.inl (fun _ => 0)))), ((rn 7), .inl (cy 1, 11, .inr (.inl (fun _ => 0)))), (h0, .inr (7, [.ref vC, .ref p1, .ref p2, .ref p3, .ref p4, .ref p5, .ref p6, .ref p7, .int e1, .long e2, .ref p8, .int 0, .int x2, .long 1]))] := hD
  refine lv_iinc (v := 2) (lv' := [(3, .int 2), (2, .int 7), (0, .ref h0), (1, .int 1)]) hx hb dX4_weigh_66 hl (k := 0) rfl (by decide) (by decide) rfl (fun ls hl => ?_)
  refine lv_goto (tgt := 23) hx hb dX4_weigh_69 (by decide) ?_
  refine lv_iload_n hx hb dX4_weigh_23 rfl (lv_at hl 0 rfl) ?_
  refine lv_iconst (v := 3) hx hb dX4_weigh_24 (by decide) ?_
  refine lv_icmp_ge (tgt := 72) hx hb dX4_weigh_25 (by decide) (fun c_25_90 => absurd c_25_90 (by decide +kernel)) (fun _ => ?_)
  refine lv_aload_n hx hb dX4_weigh_28 rfl (lv_at hl 2 rfl) ?_
  refine va_get (D := D) (ci := 7) (v := .ref p5) (C := RX4) (T := TX4) (N := 14) hx hb hts iRX4 hown hK hP 22 rfl rfl 5 (by decide) (hts _ q43) (fun _ h9 => h9) rfl dX4_weigh_29 ?_
  refine lv_iload_n hx hb dX4_weigh_32 rfl (lv_at hl 1 rfl) ?_
  refine va_aldA hx hb hK hP 0 3 rfl rfl (z_in 7 (by decide) (by decide)) dX4_weigh_33 ?_
  rw [show va_rf ((fun k9 => if k9 < 9 then some (rt k9) else none) (7 : Int32).toNatClampNeg) = .ref (rt 7) from rfl]
  refine lv_iload_n hx hb dX4_weigh_34 rfl (lv_at hl 0 rfl) ?_
  refine lv_aload_n hx hb dX4_weigh_35 rfl (lv_at hl 2 rfl) ?_
  refine va_get (D := D) (ci := 7) (v := .ref p3) (C := RX4) (T := TX4) (N := 14) hx hb hts iRX4 hown hK hP 22 rfl rfl 3 (by decide) (hts _ q39) (fun _ h9 => h9) rfl dX4_weigh_36 ?_
  refine lv_iload_n hx hb dX4_weigh_39 rfl (lv_at hl 1 rfl) ?_
  refine va_iald hx hb hK hP 11 0 rfl rfl (z_in 7 (by decide) (by decide)) dX4_weigh_40 ?_
  refine lv_topi (fun y92 ey92 => ?_)
  obtain rfl : y92 = (-1) := ey92.trans rfl
  refine lv_iconst (v := (-1)) hx hb dX4_weigh_41 (by decide) ?_
  refine lv_icmp_ne (tgt := 49) hx hb dX4_weigh_42 (by decide) (fun c_42_92 => absurd (by decide +kernel) c_42_92) (fun _ => ?_)
  refine lv_lconst (v := 0) hx hb dX4_weigh_45 rfl ?_
  refine lv_goto (tgt := 65) hx hb dX4_weigh_46 (by decide) ?_
  refine va_last hx hb hK hP hD hS 8 1 rfl rfl (z_in 2 (by decide) (by decide)) dX4_weigh_65 (fun H locs hP hD hS => ?_)
  have hP : va_P D vwCl [(p5, .inl (cy 3, 9, .inr (.inr (.inr (.inr (fun k9 => if k9 < 9 then some (rt k9) else none)))))), ((rt 0), .inl (cy 1, 3, .inr (.inl (fun _ => 0)))), ((rt 1), .inl (cy 1, 3, .inr (.inl (fun _ => 0)))), ((rt 2), .inl (cy 1, 3, .inr (.inl (fun _ => 0)))), ((rt 3), .inl (cy 1, 3, .inr (.inl (fun _ => 0)))), ((rt 4), .inl (cy 1, 3, .inr (.inl (fun _ => 0)))), ((rt 5), .inl (cy 1, 3, .inr (.inl (fun _ => 0)))), ((rt 6), .inl (cy 1, 3, .inr (.inl (fun _ => 0)))), ((rt 7), .inl (cy 1, 3, .inr (.inl (vp_updL (vp_updL (vp_updL (fun _ => 0) (0 : Int32).toNatClampNeg 0) (1 : Int32).toNatClampNeg 0) (2 : Int32).toNatClampNeg 0)))), ((rt 8), .inl (cy 1, 3, .inr (.inl (fun _ => 0)))), (p2, .inl (cy 2, 9, .inl (fun _ => 0))), (p3, .inl (cy 0, 9, .inl (fun _ => (-1)))), (vC, .inr (3, [.ref sS, .ref sJ, .int 0, .int 0])), (p4, .inl (cy 3, 8, .inr (.inr (.inr (.inr (fun k9 => if k9 < 8 then some (rn k9) else none)))))), ((rn 0), .inl (cy 1, 11, .inr (.inl (fun _ => 0)))), ((rn 1), .inl (cy 1, 11, .inr (.inl (fun _ => 0)))), ((rn 2), .inl (cy 1, 11, .inr (.inl (fun _ => 0)))), ((rn 3), .inl (cy 1, 11, .inr (.inl (fun _ => 0)))), ((rn 4), .inl (cy 1, 11, .inr (.inl (fun _ => 0)))), ((rn 5), .inl (cy 1, 11, .inr (.inl (fun _ => 0)))), ((rn 6), .inl (cy 1, 11, .inr (.inl (fun _ => 0)))), ((rn 7), .inl (cy 1, 11, .inr (.inl (fun _ => 0)))), (h0, .inr (7, [.ref vC, .ref p1, .ref p2, .ref p3, .ref p4, .ref p5, .ref p6, .ref p7, .int e1, .long e2, .ref p8, .int 0, .int x2, .long 1]))] H := hP
  have hD : va_D A [(p5, .inl (cy 3, 9, .inr (.inr (.inr (.inr (fun k9 => if k9 < 9 then some (rt k9) else none)))))), ((rt 0), .inl (cy 1, 3, .inr (.inl (fun _ => 0)))), ((rt 1), .inl (cy 1, 3, .inr (.inl (fun _ => 0)))), ((rt 2), .inl (cy 1, 3, .inr (.inl (fun _ => 0)))), ((rt 3), .inl (cy 1, 3, .inr (.inl (fun _ => 0)))), ((rt 4), .inl (cy 1, 3, .inr (.inl (fun _ => 0)))), ((rt 5), .inl (cy 1, 3, .inr (.inl (fun _ => 0)))), ((rt 6), .inl (cy 1, 3, .inr (.inl (fun _ => 0)))), ((rt 7), .inl (cy 1, 3, .inr (.inl (vp_updL (vp_updL (vp_updL (fun _ => 0) (0 : Int32).toNatClampNeg 0) (1 : Int32).toNatClampNeg 0) (2 : Int32).toNatClampNeg 0)))), ((rt 8), .inl (cy 1, 3, .inr (.inl (fun _ => 0)))), (p2, .inl (cy 2, 9, .inl (fun _ => 0))), (p3, .inl (cy 0, 9, .inl (fun _ => (-1)))), (vC, .inr (3, [.ref sS, .ref sJ, .int 0, .int 0])), (p4, .inl (cy 3, 8, .inr (.inr (.inr (.inr (fun k9 => if k9 < 8 then some (rn k9) else none)))))), ((rn 0), .inl (cy 1, 11, .inr (.inl (fun _ => 0)))), ((rn 1), .inl (cy 1, 11, .inr (.inl (fun _ => 0)))), ((rn 2), .inl (cy 1, 11, .inr (.inl (fun _ => 0)))), ((rn 3), .inl (cy 1, 11, .inr (.inl (fun _ => 0)))), ((rn 4), .inl (cy 1, 11, .inr (.inl (fun _ => 0)))), ((rn 5), .inl (cy 1, 11, .inr (.inl (fun _ => 0)))), ((rn 6), .inl (cy 1, 11, .inr (.inl (fun _ => 0)))), ((rn 7), .inl (cy 1, 11, .inr (.inl (fun _ => 0)))), (h0, .inr (7, [.ref vC, .ref p1, .ref p2, .ref p3, .ref p4, .ref p5, .ref p6, .ref p7, .int e1, .long e2, .ref p8, .int 0, .int x2, .long 1]))] := hD
  refine lv_iinc (v := 3) (lv' := [(3, .int 3), (2, .int 7), (0, .ref h0), (1, .int 1)]) hx hb dX4_weigh_66 hl (k := 0) rfl (by decide) (by decide) rfl (fun ls hl => ?_)
  refine lv_goto (tgt := 23) hx hb dX4_weigh_69 (by decide) ?_
  refine lv_iload_n hx hb dX4_weigh_23 rfl (lv_at hl 0 rfl) ?_
  refine lv_iconst (v := 3) hx hb dX4_weigh_24 (by decide) ?_
  refine lv_icmp_ge (tgt := 72) hx hb dX4_weigh_25 (by decide) (fun _ => ?_) (fun c_25_93 => absurd (by decide +kernel) c_25_93)
  obtain ⟨hP, hD⟩ := zP_l (fun _ => 0) hP hD (q := 8) rfl (fun j hj => by rcases (show j = 0 ∨ j = 1 ∨ j = 2 by omega) with rfl | rfl | rfl <;> rfl)
  have hP : va_P D vwCl [(p5, .inl (cy 3, 9, .inr (.inr (.inr (.inr (fun k9 => if k9 < 9 then some (rt k9) else none)))))), ((rt 0), .inl (cy 1, 3, .inr (.inl (fun _ => 0)))), ((rt 1), .inl (cy 1, 3, .inr (.inl (fun _ => 0)))), ((rt 2), .inl (cy 1, 3, .inr (.inl (fun _ => 0)))), ((rt 3), .inl (cy 1, 3, .inr (.inl (fun _ => 0)))), ((rt 4), .inl (cy 1, 3, .inr (.inl (fun _ => 0)))), ((rt 5), .inl (cy 1, 3, .inr (.inl (fun _ => 0)))), ((rt 6), .inl (cy 1, 3, .inr (.inl (fun _ => 0)))), ((rt 7), .inl (cy 1, 3, .inr (.inl (fun _ => 0)))), ((rt 8), .inl (cy 1, 3, .inr (.inl (fun _ => 0)))), (p2, .inl (cy 2, 9, .inl (fun _ => 0))), (p3, .inl (cy 0, 9, .inl (fun _ => (-1)))), (vC, .inr (3, [.ref sS, .ref sJ, .int 0, .int 0])), (p4, .inl (cy 3, 8, .inr (.inr (.inr (.inr (fun k9 => if k9 < 8 then some (rn k9) else none)))))), ((rn 0), .inl (cy 1, 11, .inr (.inl (fun _ => 0)))), ((rn 1), .inl (cy 1, 11, .inr (.inl (fun _ => 0)))), ((rn 2), .inl (cy 1, 11, .inr (.inl (fun _ => 0)))), ((rn 3), .inl (cy 1, 11, .inr (.inl (fun _ => 0)))), ((rn 4), .inl (cy 1, 11, .inr (.inl (fun _ => 0)))), ((rn 5), .inl (cy 1, 11, .inr (.inl (fun _ => 0)))), ((rn 6), .inl (cy 1, 11, .inr (.inl (fun _ => 0)))), ((rn 7), .inl (cy 1, 11, .inr (.inl (fun _ => 0)))), (h0, .inr (7, [.ref vC, .ref p1, .ref p2, .ref p3, .ref p4, .ref p5, .ref p6, .ref p7, .int e1, .long e2, .ref p8, .int 0, .int x2, .long 1]))] H := hP
  have hD : va_D A [(p5, .inl (cy 3, 9, .inr (.inr (.inr (.inr (fun k9 => if k9 < 9 then some (rt k9) else none)))))), ((rt 0), .inl (cy 1, 3, .inr (.inl (fun _ => 0)))), ((rt 1), .inl (cy 1, 3, .inr (.inl (fun _ => 0)))), ((rt 2), .inl (cy 1, 3, .inr (.inl (fun _ => 0)))), ((rt 3), .inl (cy 1, 3, .inr (.inl (fun _ => 0)))), ((rt 4), .inl (cy 1, 3, .inr (.inl (fun _ => 0)))), ((rt 5), .inl (cy 1, 3, .inr (.inl (fun _ => 0)))), ((rt 6), .inl (cy 1, 3, .inr (.inl (fun _ => 0)))), ((rt 7), .inl (cy 1, 3, .inr (.inl (fun _ => 0)))), ((rt 8), .inl (cy 1, 3, .inr (.inl (fun _ => 0)))), (p2, .inl (cy 2, 9, .inl (fun _ => 0))), (p3, .inl (cy 0, 9, .inl (fun _ => (-1)))), (vC, .inr (3, [.ref sS, .ref sJ, .int 0, .int 0])), (p4, .inl (cy 3, 8, .inr (.inr (.inr (.inr (fun k9 => if k9 < 8 then some (rn k9) else none)))))), ((rn 0), .inl (cy 1, 11, .inr (.inl (fun _ => 0)))), ((rn 1), .inl (cy 1, 11, .inr (.inl (fun _ => 0)))), ((rn 2), .inl (cy 1, 11, .inr (.inl (fun _ => 0)))), ((rn 3), .inl (cy 1, 11, .inr (.inl (fun _ => 0)))), ((rn 4), .inl (cy 1, 11, .inr (.inl (fun _ => 0)))), ((rn 5), .inl (cy 1, 11, .inr (.inl (fun _ => 0)))), ((rn 6), .inl (cy 1, 11, .inr (.inl (fun _ => 0)))), ((rn 7), .inl (cy 1, 11, .inr (.inl (fun _ => 0)))), (h0, .inr (7, [.ref vC, .ref p1, .ref p2, .ref p3, .ref p4, .ref p5, .ref p6, .ref p7, .int e1, .long e2, .ref p8, .int 0, .int x2, .long 1]))] := hD
  refine lv_iinc (v := 8) (lv' := [(2, .int 8), (3, .int 3), (0, .ref h0), (1, .int 1)]) hx hb dX4_weigh_72 hl (k := 1) rfl (by decide) (by decide) rfl (fun ls hl => ?_)
  refine lv_goto (tgt := 15) hx hb dX4_weigh_75 (by decide) ?_
  refine lv_iload_n hx hb dX4_weigh_15 rfl (lv_at hl 0 rfl) ?_
  refine lv_bipush (v := 9) hx hb dX4_weigh_16 (by decide) ?_
  refine lv_icmp_ge (tgt := 78) hx hb dX4_weigh_18 (by decide) (fun c_18_94 => absurd c_18_94 (by decide +kernel)) (fun _ => ?_)
  refine lv_iconst (v := 0) hx hb dX4_weigh_21 (by decide) ?_
  refine lv_istore_n (lv' := [(3, .int 0), (2, .int 8), (0, .ref h0), (1, .int 1)]) hx hb dX4_weigh_22 rfl hl (by decide) rfl (fun ls hl => ?_)
  refine lv_iload_n hx hb dX4_weigh_23 rfl (lv_at hl 0 rfl) ?_
  refine lv_iconst (v := 3) hx hb dX4_weigh_24 (by decide) ?_
  refine lv_icmp_ge (tgt := 72) hx hb dX4_weigh_25 (by decide) (fun c_25_95 => absurd c_25_95 (by decide +kernel)) (fun _ => ?_)
  refine lv_aload_n hx hb dX4_weigh_28 rfl (lv_at hl 2 rfl) ?_
  refine va_get (D := D) (ci := 7) (v := .ref p5) (C := RX4) (T := TX4) (N := 14) hx hb hts iRX4 hown hK hP 22 rfl rfl 5 (by decide) (hts _ q43) (fun _ h9 => h9) rfl dX4_weigh_29 ?_
  refine lv_iload_n hx hb dX4_weigh_32 rfl (lv_at hl 1 rfl) ?_
  refine va_aldA hx hb hK hP 0 3 rfl rfl (z_in 8 (by decide) (by decide)) dX4_weigh_33 ?_
  rw [show va_rf ((fun k9 => if k9 < 9 then some (rt k9) else none) (8 : Int32).toNatClampNeg) = .ref (rt 8) from rfl]
  refine lv_iload_n hx hb dX4_weigh_34 rfl (lv_at hl 0 rfl) ?_
  refine lv_aload_n hx hb dX4_weigh_35 rfl (lv_at hl 2 rfl) ?_
  refine va_get (D := D) (ci := 7) (v := .ref p3) (C := RX4) (T := TX4) (N := 14) hx hb hts iRX4 hown hK hP 22 rfl rfl 3 (by decide) (hts _ q39) (fun _ h9 => h9) rfl dX4_weigh_36 ?_
  refine lv_iload_n hx hb dX4_weigh_39 rfl (lv_at hl 1 rfl) ?_
  refine va_iald hx hb hK hP 11 0 rfl rfl (z_in 8 (by decide) (by decide)) dX4_weigh_40 ?_
  refine lv_topi (fun y97 ey97 => ?_)
  obtain rfl : y97 = (-1) := ey97.trans rfl
  refine lv_iconst (v := (-1)) hx hb dX4_weigh_41 (by decide) ?_
  refine lv_icmp_ne (tgt := 49) hx hb dX4_weigh_42 (by decide) (fun c_42_97 => absurd (by decide +kernel) c_42_97) (fun _ => ?_)
  refine lv_lconst (v := 0) hx hb dX4_weigh_45 rfl ?_
  refine lv_goto (tgt := 65) hx hb dX4_weigh_46 (by decide) ?_
  refine va_last hx hb hK hP hD hS 9 1 rfl rfl (z_in 0 (by decide) (by decide)) dX4_weigh_65 (fun H locs hP hD hS => ?_)
  have hP : va_P D vwCl [(p5, .inl (cy 3, 9, .inr (.inr (.inr (.inr (fun k9 => if k9 < 9 then some (rt k9) else none)))))), ((rt 0), .inl (cy 1, 3, .inr (.inl (fun _ => 0)))), ((rt 1), .inl (cy 1, 3, .inr (.inl (fun _ => 0)))), ((rt 2), .inl (cy 1, 3, .inr (.inl (fun _ => 0)))), ((rt 3), .inl (cy 1, 3, .inr (.inl (fun _ => 0)))), ((rt 4), .inl (cy 1, 3, .inr (.inl (fun _ => 0)))), ((rt 5), .inl (cy 1, 3, .inr (.inl (fun _ => 0)))), ((rt 6), .inl (cy 1, 3, .inr (.inl (fun _ => 0)))), ((rt 7), .inl (cy 1, 3, .inr (.inl (fun _ => 0)))), ((rt 8), .inl (cy 1, 3, .inr (.inl (vp_updL (fun _ => 0) (0 : Int32).toNatClampNeg 0)))), (p2, .inl (cy 2, 9, .inl (fun _ => 0))), (p3, .inl (cy 0, 9, .inl (fun _ => (-1)))), (vC, .inr (3, [.ref sS, .ref sJ, .int 0, .int 0])), (p4, .inl (cy 3, 8, .inr (.inr (.inr (.inr (fun k9 => if k9 < 8 then some (rn k9) else none)))))), ((rn 0), .inl (cy 1, 11, .inr (.inl (fun _ => 0)))), ((rn 1), .inl (cy 1, 11, .inr (.inl (fun _ => 0)))), ((rn 2), .inl (cy 1, 11, .inr (.inl (fun _ => 0)))), ((rn 3), .inl (cy 1, 11, .inr (.inl (fun _ => 0)))), ((rn 4), .inl (cy 1, 11, .inr (.inl (fun _ => 0)))), ((rn 5), .inl (cy 1, 11, .inr (.inl (fun _ => 0)))), ((rn 6), .inl (cy 1, 11, .inr (.inl (fun _ => 0)))), ((rn 7), .inl (cy 1, 11, .inr (.inl (fun _ => 0)))), (h0, .inr (7, [.ref vC, .ref p1, .ref p2, .ref p3, .ref p4, .ref p5, .ref p6, .ref p7, .int e1, .long e2, .ref p8, .int 0, .int x2, .long 1]))] H := hP
  have hD : va_D A [(p5, .inl (cy 3, 9, .inr (.inr (.inr (.inr (fun k9 => if k9 < 9 then some (rt k9) else none)))))), ((rt 0), .inl (cy 1, 3, .inr (.inl (fun _ => 0)))), ((rt 1), .inl (cy 1, 3, .inr (.inl (fun _ => 0)))), ((rt 2), .inl (cy 1, 3, .inr (.inl (fun _ => 0)))), ((rt 3), .inl (cy 1, 3, .inr (.inl (fun _ => 0)))), ((rt 4), .inl (cy 1, 3, .inr (.inl (fun _ => 0)))), ((rt 5), .inl (cy 1, 3, .inr (.inl (fun _ => 0)))), ((rt 6), .inl (cy 1, 3, .inr (.inl (fun _ => 0)))), ((rt 7), .inl (cy 1, 3, .inr (.inl (fun _ => 0)))), ((rt 8), .inl (cy 1, 3, .inr (.inl (vp_updL (fun _ => 0) (0 : Int32).toNatClampNeg 0)))), (p2, .inl (cy 2, 9, .inl (fun _ => 0))), (p3, .inl (cy 0, 9, .inl (fun _ => (-1)))), (vC, .inr (3, [.ref sS, .ref sJ, .int 0, .int 0])), (p4, .inl (cy 3, 8, .inr (.inr (.inr (.inr (fun k9 => if k9 < 8 then some (rn k9) else none)))))), ((rn 0), .inl (cy 1, 11, .inr (.inl (fun _ => 0)))), ((rn 1), .inl (cy 1, 11, .inr (.inl (fun _ => 0)))), ((rn 2), .inl (cy 1, 11, .inr (.inl (fun _ => 0)))), ((rn 3), .inl (cy 1, 11, .inr (.inl (fun _ => 0)))), ((rn 4), .inl (cy 1, 11, .inr (.inl (fun _ => 0)))), ((rn 5), .inl (cy 1, 11, .inr (.inl (fun _ => 0)))), ((rn 6), .inl (cy 1, 11, .inr (.inl (fun _ => 0)))), ((rn 7), .inl (cy 1, 11, .inr (.inl (fun _ => 0)))), (h0, .inr (7, [.ref vC, .ref p1, .ref p2, .ref p3, .ref p4, .ref p5, .ref p6, .ref p7, .int e1, .long e2, .ref p8, .int 0, .int x2, .long 1]))] := hD
  refine lv_iinc (v := 1) (lv' := [(3, .int 1), (2, .int 8), (0, .ref h0), (1, .int 1)]) hx hb dX4_weigh_66 hl (k := 0) rfl (by decide) (by decide) rfl (fun ls hl => ?_)
  refine lv_goto (tgt := 23) hx hb dX4_weigh_69 (by decide) ?_
  refine lv_iload_n hx hb dX4_weigh_23 rfl (lv_at hl 0 rfl) ?_
  refine lv_iconst (v := 3) hx hb dX4_weigh_24 (by decide) ?_
  refine lv_icmp_ge (tgt := 72) hx hb dX4_weigh_25 (by decide) (fun c_25_98 => absurd c_25_98 (by decide +kernel)) (fun _ => ?_)
  refine lv_aload_n hx hb dX4_weigh_28 rfl (lv_at hl 2 rfl) ?_
  refine va_get (D := D) (ci := 7) (v := .ref p5) (C := RX4) (T := TX4) (N := 14) hx hb hts iRX4 hown hK hP 22 rfl rfl 5 (by decide) (hts _ q43) (fun _ h9 => h9) rfl dX4_weigh_29 ?_
  refine lv_iload_n hx hb dX4_weigh_32 rfl (lv_at hl 1 rfl) ?_
  refine va_aldA hx hb hK hP 0 3 rfl rfl (z_in 8 (by decide) (by decide)) dX4_weigh_33 ?_
  rw [show va_rf ((fun k9 => if k9 < 9 then some (rt k9) else none) (8 : Int32).toNatClampNeg) = .ref (rt 8) from rfl]
  refine lv_iload_n hx hb dX4_weigh_34 rfl (lv_at hl 0 rfl) ?_
  refine lv_aload_n hx hb dX4_weigh_35 rfl (lv_at hl 2 rfl) ?_
  refine va_get (D := D) (ci := 7) (v := .ref p3) (C := RX4) (T := TX4) (N := 14) hx hb hts iRX4 hown hK hP 22 rfl rfl 3 (by decide) (hts _ q39) (fun _ h9 => h9) rfl dX4_weigh_36 ?_
  refine lv_iload_n hx hb dX4_weigh_39 rfl (lv_at hl 1 rfl) ?_
  refine va_iald hx hb hK hP 11 0 rfl rfl (z_in 8 (by decide) (by decide)) dX4_weigh_40 ?_
  refine lv_topi (fun y100 ey100 => ?_)
  obtain rfl : y100 = (-1) := ey100.trans rfl
  refine lv_iconst (v := (-1)) hx hb dX4_weigh_41 (by decide) ?_
  refine lv_icmp_ne (tgt := 49) hx hb dX4_weigh_42 (by decide) (fun c_42_100 => absurd (by decide +kernel) c_42_100) (fun _ => ?_)
  refine lv_lconst (v := 0) hx hb dX4_weigh_45 rfl ?_
  refine lv_goto (tgt := 65) hx hb dX4_weigh_46 (by decide) ?_
  refine va_last hx hb hK hP hD hS 9 1 rfl rfl (z_in 1 (by decide) (by decide)) dX4_weigh_65 (fun H locs hP hD hS => ?_)
  have hP : va_P D vwCl [(p5, .inl (cy 3, 9, .inr (.inr (.inr (.inr (fun k9 => if k9 < 9 then some (rt k9) else none)))))), ((rt 0), .inl (cy 1, 3, .inr (.inl (fun _ => 0)))), ((rt 1), .inl (cy 1, 3, .inr (.inl (fun _ => 0)))), ((rt 2), .inl (cy 1, 3, .inr (.inl (fun _ => 0)))), ((rt 3), .inl (cy 1, 3, .inr (.inl (fun _ => 0)))), ((rt 4), .inl (cy 1, 3, .inr (.inl (fun _ => 0)))), ((rt 5), .inl (cy 1, 3, .inr (.inl (fun _ => 0)))), ((rt 6), .inl (cy 1, 3, .inr (.inl (fun _ => 0)))), ((rt 7), .inl (cy 1, 3, .inr (.inl (fun _ => 0)))), ((rt 8), .inl (cy 1, 3, .inr (.inl (vp_updL (vp_updL (fun _ => 0) (0 : Int32).toNatClampNeg 0) (1 : Int32).toNatClampNeg 0)))), (p2, .inl (cy 2, 9, .inl (fun _ => 0))), (p3, .inl (cy 0, 9, .inl (fun _ => (-1)))), (vC, .inr (3, [.ref sS, .ref sJ, .int 0, .int 0])), (p4, .inl (cy 3, 8, .inr (.inr (.inr (.inr (fun k9 => if k9 < 8 then some (rn k9) else none)))))), ((rn 0), .inl (cy 1, 11, .inr (.inl (fun _ => 0)))), ((rn 1), .inl (cy 1, 11, .inr (.inl (fun _ => 0)))), ((rn 2), .inl (cy 1, 11, .inr (.inl (fun _ => 0)))), ((rn 3), .inl (cy 1, 11, .inr (.inl (fun _ => 0)))), ((rn 4), .inl (cy 1, 11, .inr (.inl (fun _ => 0)))), ((rn 5), .inl (cy 1, 11, .inr (.inl (fun _ => 0)))), ((rn 6), .inl (cy 1, 11, .inr (.inl (fun _ => 0)))), ((rn 7), .inl (cy 1, 11, .inr (.inl (fun _ => 0)))), (h0, .inr (7, [.ref vC, .ref p1, .ref p2, .ref p3, .ref p4, .ref p5, .ref p6, .ref p7, .int e1, .long e2, .ref p8, .int 0, .int x2, .long 1]))] H := hP
  have hD : va_D A [(p5, .inl (cy 3, 9, .inr (.inr (.inr (.inr (fun k9 => if k9 < 9 then some (rt k9) else none)))))), ((rt 0), .inl (cy 1, 3, .inr (.inl (fun _ => 0)))), ((rt 1), .inl (cy 1, 3, .inr (.inl (fun _ => 0)))), ((rt 2), .inl (cy 1, 3, .inr (.inl (fun _ => 0)))), ((rt 3), .inl (cy 1, 3, .inr (.inl (fun _ => 0)))), ((rt 4), .inl (cy 1, 3, .inr (.inl (fun _ => 0)))), ((rt 5), .inl (cy 1, 3, .inr (.inl (fun _ => 0)))), ((rt 6), .inl (cy 1, 3, .inr (.inl (fun _ => 0)))), ((rt 7), .inl (cy 1, 3, .inr (.inl (fun _ => 0)))), ((rt 8), .inl (cy 1, 3, .inr (.inl (vp_updL (vp_updL (fun _ => 0) (0 : Int32).toNatClampNeg 0) (1 : Int32).toNatClampNeg 0)))), (p2, .inl (cy 2, 9, .inl (fun _ => 0))), (p3, .inl (cy 0, 9, .inl (fun _ => (-1)))), (vC, .inr (3, [.ref sS, .ref sJ, .int 0, .int 0])), (p4, .inl (cy 3, 8, .inr (.inr (.inr (.inr (fun k9 => if k9 < 8 then some (rn k9) else none)))))), ((rn 0), .inl (cy 1, 11, .inr (.inl (fun _ => 0)))), ((rn 1), .inl (cy 1, 11, .inr (.inl (fun _ => 0)))), ((rn 2), .inl (cy 1, 11, .inr (.inl (fun _ => 0)))), ((rn 3), .inl (cy 1, 11, .inr (.inl (fun _ => 0)))), ((rn 4), .inl (cy 1, 11, .inr (.inl (fun _ => 0)))), ((rn 5), .inl (cy 1, 11, .inr (.inl (fun _ => 0)))), ((rn 6), .inl (cy 1, 11, .inr (.inl (fun _ => 0)))), ((rn 7), .inl (cy 1, 11, .inr (.inl (fun _ => 0)))), (h0, .inr (7, [.ref vC, .ref p1, .ref p2, .ref p3, .ref p4, .ref p5, .ref p6, .ref p7, .int e1, .long e2, .ref p8, .int 0, .int x2, .long 1]))] := hD
  refine lv_iinc (v := 2) (lv' := [(3, .int 2), (2, .int 8), (0, .ref h0), (1, .int 1)]) hx hb dX4_weigh_66 hl (k := 0) rfl (by decide) (by decide) rfl (fun ls hl => ?_)
  refine lv_goto (tgt := 23) hx hb dX4_weigh_69 (by decide) ?_
  refine lv_iload_n hx hb dX4_weigh_23 rfl (lv_at hl 0 rfl) ?_
  refine lv_iconst (v := 3) hx hb dX4_weigh_24 (by decide) ?_
  refine lv_icmp_ge (tgt := 72) hx hb dX4_weigh_25 (by decide) (fun c_25_101 => absurd c_25_101 (by decide +kernel)) (fun _ => ?_)
  refine lv_aload_n hx hb dX4_weigh_28 rfl (lv_at hl 2 rfl) ?_
  refine va_get (D := D) (ci := 7) (v := .ref p5) (C := RX4) (T := TX4) (N := 14) hx hb hts iRX4 hown hK hP 22 rfl rfl 5 (by decide) (hts _ q43) (fun _ h9 => h9) rfl dX4_weigh_29 ?_
  refine lv_iload_n hx hb dX4_weigh_32 rfl (lv_at hl 1 rfl) ?_
  refine va_aldA hx hb hK hP 0 3 rfl rfl (z_in 8 (by decide) (by decide)) dX4_weigh_33 ?_
  rw [show va_rf ((fun k9 => if k9 < 9 then some (rt k9) else none) (8 : Int32).toNatClampNeg) = .ref (rt 8) from rfl]
  refine lv_iload_n hx hb dX4_weigh_34 rfl (lv_at hl 0 rfl) ?_
  refine lv_aload_n hx hb dX4_weigh_35 rfl (lv_at hl 2 rfl) ?_
  refine va_get (D := D) (ci := 7) (v := .ref p3) (C := RX4) (T := TX4) (N := 14) hx hb hts iRX4 hown hK hP 22 rfl rfl 3 (by decide) (hts _ q39) (fun _ h9 => h9) rfl dX4_weigh_36 ?_
  refine lv_iload_n hx hb dX4_weigh_39 rfl (lv_at hl 1 rfl) ?_
  refine va_iald hx hb hK hP 11 0 rfl rfl (z_in 8 (by decide) (by decide)) dX4_weigh_40 ?_
  refine lv_topi (fun y103 ey103 => ?_)
  obtain rfl : y103 = (-1) := ey103.trans rfl
  refine lv_iconst (v := (-1)) hx hb dX4_weigh_41 (by decide) ?_
  refine lv_icmp_ne (tgt := 49) hx hb dX4_weigh_42 (by decide) (fun c_42_103 => absurd (by decide +kernel) c_42_103) (fun _ => ?_)
  refine lv_lconst (v := 0) hx hb dX4_weigh_45 rfl ?_
  refine lv_goto (tgt := 65) hx hb dX4_weigh_46 (by decide) ?_
  refine va_last hx hb hK hP hD hS 9 1 rfl rfl (z_in 2 (by decide) (by decide)) dX4_weigh_65 (fun H locs hP hD hS => ?_)
  have hP : va_P D vwCl [(p5, .inl (cy 3, 9, .inr (.inr (.inr (.inr (fun k9 => if k9 < 9 then some (rt k9) else none)))))), ((rt 0), .inl (cy 1, 3, .inr (.inl (fun _ => 0)))), ((rt 1), .inl (cy 1, 3, .inr (.inl (fun _ => 0)))), ((rt 2), .inl (cy 1, 3, .inr (.inl (fun _ => 0)))), ((rt 3), .inl (cy 1, 3, .inr (.inl (fun _ => 0)))), ((rt 4), .inl (cy 1, 3, .inr (.inl (fun _ => 0)))), ((rt 5), .inl (cy 1, 3, .inr (.inl (fun _ => 0)))), ((rt 6), .inl (cy 1, 3, .inr (.inl (fun _ => 0)))), ((rt 7), .inl (cy 1, 3, .inr (.inl (fun _ => 0)))), ((rt 8), .inl (cy 1, 3, .inr (.inl (vp_updL (vp_updL (vp_updL (fun _ => 0) (0 : Int32).toNatClampNeg 0) (1 : Int32).toNatClampNeg 0) (2 : Int32).toNatClampNeg 0)))), (p2, .inl (cy 2, 9, .inl (fun _ => 0))), (p3, .inl (cy 0, 9, .inl (fun _ => (-1)))), (vC, .inr (3, [.ref sS, .ref sJ, .int 0, .int 0])), (p4, .inl (cy 3, 8, .inr (.inr (.inr (.inr (fun k9 => if k9 < 8 then some (rn k9) else none)))))), ((rn 0), .inl (cy 1, 11, .inr (.inl (fun _ => 0)))), ((rn 1), .inl (cy 1, 11, .inr (.inl (fun _ => 0)))), ((rn 2), .inl (cy 1, 11, .inr (.inl (fun _ => 0)))), ((rn 3), .inl (cy 1, 11, .inr (.inl (fun _ => 0)))), ((rn 4), .inl (cy 1, 11, .inr (.inl (fun _ => 0)))), ((rn 5), .inl (cy 1, 11, .inr (.inl (fun _ => 0)))), ((rn 6), .inl (cy 1, 11, .inr (.inl (fun _ => 0)))), ((rn 7), .inl (cy 1, 11, .inr (.inl (fun _ => 0)))), (h0, .inr (7, [.ref vC, .ref p1, .ref p2, .ref p3, .ref p4, .ref p5, .ref p6, .ref p7, .int e1, .long e2, .ref p8, .int 0, .int x2, .long 1]))] H := hP
  have hD : va_D A [(p5, .inl (cy 3, 9, .inr (.inr (.inr (.inr (fun k9 => if k9 < 9 then some (rt k9) else none)))))), ((rt 0), .inl (cy 1, 3, .inr (.inl (fun _ => 0)))), ((rt 1), .inl (cy 1, 3, .inr (.inl (fun _ => 0)))), ((rt 2), .inl (cy 1, 3, .inr (.inl (fun _ => 0)))), ((rt 3), .inl (cy 1, 3, .inr (.inl (fun _ => 0)))), ((rt 4), .inl (cy 1, 3, .inr (.inl (fun _ => 0)))), ((rt 5), .inl (cy 1, 3, .inr (.inl (fun _ => 0)))), ((rt 6), .inl (cy 1, 3, .inr (.inl (fun _ => 0)))), ((rt 7), .inl (cy 1, 3, .inr (.inl (fun _ => 0)))), ((rt 8), .inl (cy 1, 3, .inr (.inl (vp_updL (vp_updL (vp_updL (fun _ => 0) (0 : Int32).toNatClampNeg 0) (1 : Int32).toNatClampNeg 0) (2 : Int32).toNatClampNeg 0)))), (p2, .inl (cy 2, 9, .inl (fun _ => 0))), (p3, .inl (cy 0, 9, .inl (fun _ => (-1)))), (vC, .inr (3, [.ref sS, .ref sJ, .int 0, .int 0])), (p4, .inl (cy 3, 8, .inr (.inr (.inr (.inr (fun k9 => if k9 < 8 then some (rn k9) else none)))))), ((rn 0), .inl (cy 1, 11, .inr (.inl (fun _ => 0)))), ((rn 1), .inl (cy 1, 11, .inr (.inl (fun _ => 0)))), ((rn 2), .inl (cy 1, 11, .inr (.inl (fun _ => 0)))), ((rn 3), .inl (cy 1, 11, .inr (.inl (fun _ => 0)))), ((rn 4), .inl (cy 1, 11, .inr (.inl (fun _ => 0)))), ((rn 5), .inl (cy 1, 11, .inr (.inl (fun _ => 0)))), ((rn 6), .inl (cy 1, 11, .inr (.inl (fun _ => 0)))), ((rn 7), .inl (cy 1, 11, .inr (.inl (fun _ => 0)))), (h0, .inr (7, [.ref vC, .ref p1, .ref p2, .ref p3, .ref p4, .ref p5, .ref p6, .ref p7, .int e1, .long e2, .ref p8, .int 0, .int x2, .long 1]))] := hD
  refine lv_iinc (v := 3) (lv' := [(3, .int 3), (2, .int 8), (0, .ref h0), (1, .int 1)]) hx hb dX4_weigh_66 hl (k := 0) rfl (by decide) (by decide) rfl (fun ls hl => ?_)
  refine lv_goto (tgt := 23) hx hb dX4_weigh_69 (by decide) ?_
  refine lv_iload_n hx hb dX4_weigh_23 rfl (lv_at hl 0 rfl) ?_
  refine lv_iconst (v := 3) hx hb dX4_weigh_24 (by decide) ?_
  refine lv_icmp_ge (tgt := 72) hx hb dX4_weigh_25 (by decide) (fun _ => ?_) (fun c_25_104 => absurd (by decide +kernel) c_25_104)
  obtain ⟨hP, hD⟩ := zP_l (fun _ => 0) hP hD (q := 9) rfl (fun j hj => by rcases (show j = 0 ∨ j = 1 ∨ j = 2 by omega) with rfl | rfl | rfl <;> rfl)
  have hP : va_P D vwCl [(p5, .inl (cy 3, 9, .inr (.inr (.inr (.inr (fun k9 => if k9 < 9 then some (rt k9) else none)))))), ((rt 0), .inl (cy 1, 3, .inr (.inl (fun _ => 0)))), ((rt 1), .inl (cy 1, 3, .inr (.inl (fun _ => 0)))), ((rt 2), .inl (cy 1, 3, .inr (.inl (fun _ => 0)))), ((rt 3), .inl (cy 1, 3, .inr (.inl (fun _ => 0)))), ((rt 4), .inl (cy 1, 3, .inr (.inl (fun _ => 0)))), ((rt 5), .inl (cy 1, 3, .inr (.inl (fun _ => 0)))), ((rt 6), .inl (cy 1, 3, .inr (.inl (fun _ => 0)))), ((rt 7), .inl (cy 1, 3, .inr (.inl (fun _ => 0)))), ((rt 8), .inl (cy 1, 3, .inr (.inl (fun _ => 0)))), (p2, .inl (cy 2, 9, .inl (fun _ => 0))), (p3, .inl (cy 0, 9, .inl (fun _ => (-1)))), (vC, .inr (3, [.ref sS, .ref sJ, .int 0, .int 0])), (p4, .inl (cy 3, 8, .inr (.inr (.inr (.inr (fun k9 => if k9 < 8 then some (rn k9) else none)))))), ((rn 0), .inl (cy 1, 11, .inr (.inl (fun _ => 0)))), ((rn 1), .inl (cy 1, 11, .inr (.inl (fun _ => 0)))), ((rn 2), .inl (cy 1, 11, .inr (.inl (fun _ => 0)))), ((rn 3), .inl (cy 1, 11, .inr (.inl (fun _ => 0)))), ((rn 4), .inl (cy 1, 11, .inr (.inl (fun _ => 0)))), ((rn 5), .inl (cy 1, 11, .inr (.inl (fun _ => 0)))), ((rn 6), .inl (cy 1, 11, .inr (.inl (fun _ => 0)))), ((rn 7), .inl (cy 1, 11, .inr (.inl (fun _ => 0)))), (h0, .inr (7, [.ref vC, .ref p1, .ref p2, .ref p3, .ref p4, .ref p5, .ref p6, .ref p7, .int e1, .long e2, .ref p8, .int 0, .int x2, .long 1]))] H := hP
  have hD : va_D A [(p5, .inl (cy 3, 9, .inr (.inr (.inr (.inr (fun k9 => if k9 < 9 then some (rt k9) else none)))))), ((rt 0), .inl (cy 1, 3, .inr (.inl (fun _ => 0)))), ((rt 1), .inl (cy 1, 3, .inr (.inl (fun _ => 0)))), ((rt 2), .inl (cy 1, 3, .inr (.inl (fun _ => 0)))), ((rt 3), .inl (cy 1, 3, .inr (.inl (fun _ => 0)))), ((rt 4), .inl (cy 1, 3, .inr (.inl (fun _ => 0)))), ((rt 5), .inl (cy 1, 3, .inr (.inl (fun _ => 0)))), ((rt 6), .inl (cy 1, 3, .inr (.inl (fun _ => 0)))), ((rt 7), .inl (cy 1, 3, .inr (.inl (fun _ => 0)))), ((rt 8), .inl (cy 1, 3, .inr (.inl (fun _ => 0)))), (p2, .inl (cy 2, 9, .inl (fun _ => 0))), (p3, .inl (cy 0, 9, .inl (fun _ => (-1)))), (vC, .inr (3, [.ref sS, .ref sJ, .int 0, .int 0])), (p4, .inl (cy 3, 8, .inr (.inr (.inr (.inr (fun k9 => if k9 < 8 then some (rn k9) else none)))))), ((rn 0), .inl (cy 1, 11, .inr (.inl (fun _ => 0)))), ((rn 1), .inl (cy 1, 11, .inr (.inl (fun _ => 0)))), ((rn 2), .inl (cy 1, 11, .inr (.inl (fun _ => 0)))), ((rn 3), .inl (cy 1, 11, .inr (.inl (fun _ => 0)))), ((rn 4), .inl (cy 1, 11, .inr (.inl (fun _ => 0)))), ((rn 5), .inl (cy 1, 11, .inr (.inl (fun _ => 0)))), ((rn 6), .inl (cy 1, 11, .inr (.inl (fun _ => 0)))), ((rn 7), .inl (cy 1, 11, .inr (.inl (fun _ => 0)))), (h0, .inr (7, [.ref vC, .ref p1, .ref p2, .ref p3, .ref p4, .ref p5, .ref p6, .ref p7, .int e1, .long e2, .ref p8, .int 0, .int x2, .long 1]))] := hD
  refine lv_iinc (v := 9) (lv' := [(2, .int 9), (3, .int 3), (0, .ref h0), (1, .int 1)]) hx hb dX4_weigh_72 hl (k := 1) rfl (by decide) (by decide) rfl (fun ls hl => ?_)
  refine lv_goto (tgt := 15) hx hb dX4_weigh_75 (by decide) ?_
  refine lv_iload_n hx hb dX4_weigh_15 rfl (lv_at hl 0 rfl) ?_
  refine lv_bipush (v := 9) hx hb dX4_weigh_16 (by decide) ?_
  refine lv_icmp_ge (tgt := 78) hx hb dX4_weigh_18 (by decide) (fun _ => ?_) (fun c_18_105 => absurd (by decide +kernel) c_18_105)
  have hP9 := hP.sub (ws' := [(h0, .inr (7, [.ref vC, .ref p1, .ref p2, .ref p3, .ref p4, .ref p5, .ref p6, .ref p7, .int e1, .long e2, .ref p8, .int 0, .int x2, .long 1])), (vC, .inr (3, [.ref sS, .ref sJ, .int 0, .int 0])), (p5, .inl (cy 3, 9, .inr (.inr (.inr (.inr (fun k9 => if k9 < 9 then some (rt k9) else none)))))), ((rt 0), .inl (cy 1, 3, .inr (.inl (fun _ => 0)))), ((rt 1), .inl (cy 1, 3, .inr (.inl (fun _ => 0)))), ((rt 2), .inl (cy 1, 3, .inr (.inl (fun _ => 0)))), ((rt 3), .inl (cy 1, 3, .inr (.inl (fun _ => 0)))), ((rt 4), .inl (cy 1, 3, .inr (.inl (fun _ => 0)))), ((rt 5), .inl (cy 1, 3, .inr (.inl (fun _ => 0)))), ((rt 6), .inl (cy 1, 3, .inr (.inl (fun _ => 0)))), ((rt 7), .inl (cy 1, 3, .inr (.inl (fun _ => 0)))), ((rt 8), .inl (cy 1, 3, .inr (.inl (fun _ => 0))))]) [22, 12, 0, 1, 2, 3, 4, 5, 6, 7, 8, 9] rfl
  have hD9 := hD.sub (ws' := [(h0, .inr (7, [.ref vC, .ref p1, .ref p2, .ref p3, .ref p4, .ref p5, .ref p6, .ref p7, .int e1, .long e2, .ref p8, .int 0, .int x2, .long 1])), (vC, .inr (3, [.ref sS, .ref sJ, .int 0, .int 0])), (p5, .inl (cy 3, 9, .inr (.inr (.inr (.inr (fun k9 => if k9 < 9 then some (rt k9) else none)))))), ((rt 0), .inl (cy 1, 3, .inr (.inl (fun _ => 0)))), ((rt 1), .inl (cy 1, 3, .inr (.inl (fun _ => 0)))), ((rt 2), .inl (cy 1, 3, .inr (.inl (fun _ => 0)))), ((rt 3), .inl (cy 1, 3, .inr (.inl (fun _ => 0)))), ((rt 4), .inl (cy 1, 3, .inr (.inl (fun _ => 0)))), ((rt 5), .inl (cy 1, 3, .inr (.inl (fun _ => 0)))), ((rt 6), .inl (cy 1, 3, .inr (.inl (fun _ => 0)))), ((rt 7), .inl (cy 1, 3, .inr (.inl (fun _ => 0)))), ((rt 8), .inl (cy 1, 3, .inr (.inl (fun _ => 0))))]) [22, 12, 0, 1, 2, 3, 4, 5, 6, 7, 8, 9] (by decide) rfl
  refine W.widen (k := 0) (n := 0) (Nat.le_of_ble_eq_true rfl) (Nat.le_of_ble_eq_true rfl) ?_
  rw [hQe]
  exact W.vret hx hb hr (fun t ht hW => ⟨⟨(), rfl, trivial, ⟨by rw [ht]; exact hP9, hD9⟩⟩, hS.F ht⟩) hS.2.2 dX4_weigh_78
set_option maxHeartbeats 4000000 in
set_option maxRecDepth 100000 in
/-- no shots: no sum -/
theorem k_sumTop (l : Launch) (D : va_G) (cy : Nat → ClassId) (h0 : Nat) (vC : Nat) (p1 : Nat) (p2 : Nat) (p3 : Nat) (p4 : Nat) (p5 : Nat) (p6 : Nat) (p7 : Nat) (p8 : Nat) (e1 : Int32) (e2 : Int64) (x1 : Int32) (x2 : Int32) (x3 : Int64) (sS : Nat) (sJ : Nat) (sz : Nat)  : Met l yX4_sumTop (wz yX4_sumTop cX4_sumTop 6 (some .long)) ({ frames := 0, cells := 0, slots := 0, locals := 0 } : Room) (va_Pc [.ref h0] (zPre vwCl D cy [(h0, .inr (7, [.ref vC, .ref p1, .ref p2, .ref p3, .ref p4, .ref p5, .ref p6, .ref p7, .int e1, .long e2, .ref p8, .int x1, .int x2, .long x3])), (vC, .inr (3, [.ref sS, .ref sJ, .int 0, .int 0]))] sz)) (va_Ql (fun (r : Int64) (_ : Unit) => r = 0) (fun (u : Unit) t => zPost vwCl D (va_A [(h0, .inr (7, [.ref vC, .ref p1, .ref p2, .ref p3, .ref p4, .ref p5, .ref p6, .ref p7, .int e1, .long e2, .ref p8, .int x1, .int x2, .long x3])), (vC, .inr (3, [.ref sS, .ref sJ, .int 0, .int 0]))] sz) [(h0, .inr (7, [.ref vC, .ref p1, .ref p2, .ref p3, .ref p4, .ref p5, .ref p6, .ref p7, .int e1, .long e2, .ref p8, .int x1, .int x2, .long x3])), (vC, .inr (3, [.ref sS, .ref sJ, .int 0, .int 0]))] t) (va_A [(h0, .inr (7, [.ref vC, .ref p1, .ref p2, .ref p3, .ref p4, .ref p5, .ref p6, .ref p7, .int e1, .long e2, .ref p8, .int x1, .int x2, .long x3])), (vC, .inr (3, [.ref sS, .ref sJ, .int 0, .int 0]))] sz)) 0 0 (va_A [(h0, .inr (7, [.ref vC, .ref p1, .ref p2, .ref p3, .ref p4, .ref p5, .ref p6, .ref p7, .int e1, .long e2, .ref p8, .int x1, .int x2, .long x3])), (vC, .inr (3, [.ref sS, .ref sJ, .int 0, .int 0]))] sz) := by
  refine Met.ofW (cc := cX4_sumTop) (maxL := 6) (ret := (some .long)) (by decide) rfl ?_
  intro p e s m args below meth c s₁ B hml hv
  obtain ⟨rfl, hsz, hP, hK, hD0, hX, hY⟩ := hv
  have hx := B.exec
  have hb := B.bytes
  have hr := B.returns
  have hts0 := atoms_spec (ws := wz yX4_sumTop cX4_sumTop 6 (some .long)) B.pre
  have hts : ∀ w ∈ wAll, w.before _ s = true := fun w h => hts0 w (List.mem_cons_of_mem _ h)
  have hown : s.vm.findClass RX4 = some m.cls := findClass_of_methodNamed B.named
  have hlocks := B.notSynchronized
  subst hsz
  have hD := hD0.self (sz := s.heap.size)
  generalize hAe : va_A [(h0, .inr (7, [.ref vC, .ref p1, .ref p2, .ref p3, .ref p4, .ref p5, .ref p6, .ref p7, .int e1, .long e2, .ref p8, .int x1, .int x2, .long x3])), (vC, .inr (3, [.ref sS, .ref sJ, .int 0, .int 0]))] s.heap.size = A at hD hY ⊢
  have hA : ∀ q : Nat, s.heap.size ≤ q → A q := fun q h => by rw [← hAe]; exact Or.inr h
  have hS : va_S A s.heap s.heap [] := va_S.rf
  have hP : va_P D vwCl [(h0, .inr (7, [.ref vC, .ref p1, .ref p2, .ref p3, .ref p4, .ref p5, .ref p6, .ref p7, .int e1, .long e2, .ref p8, .int x1, .int x2, .long x3])), (vC, .inr (3, [.ref sS, .ref sJ, .int 0, .int 0]))] s.heap := hP
  have hl := lv_entry ([.ref h0]) (n := 6) (Nat.le_of_ble_eq_true rfl)
  rw [lg_entry_eq]
  generalize (lg_sl ([.ref h0]) ++ List.replicate (6 - (lg_sl ([.ref h0])).length) Slot.unset).toArray = ls at hl ⊢
  have hl : lv_has ls 6 [(0, .ref h0)] := hl
  refine z_anyQ (fun Q hQe => ?_)
  refine lv_lconst (v := 0) hx hb dX4_sumTop_0 rfl ?_
  refine lv_lstore_n (lv' := [(1, .long 0), (0, .ref h0)]) hx hb dX4_sumTop_1 rfl hl (by decide) rfl (fun ls hl => ?_)
  refine lv_iconst (v := 0) hx hb dX4_sumTop_2 (by decide) ?_
  refine lv_istore_n (lv' := [(3, .int 0), (1, .long 0), (0, .ref h0)]) hx hb dX4_sumTop_3 rfl hl (by decide) rfl (fun ls hl => ?_)
  refine lv_iload_n hx hb dX4_sumTop_4 rfl (lv_at hl 0 rfl) ?_
  refine lv_aload_n hx hb dX4_sumTop_5 rfl (lv_at hl 2 rfl) ?_
  refine va_get (D := D) (ci := 7) (v := .ref vC) (C := RX4) (T := TX4) (N := 14) hx hb hts iRX4 hown hK hP 0 rfl rfl 0 (by decide) (hts _ q35) (fun _ h9 => h9) rfl dX4_sumTop_6 ?_
  refine va_get (D := D) (ci := 3) (v := .int 0) (C := RX0) (T := TX0) (N := 4) hx hb hts iRX0 hown hK hP 1 rfl rfl 3 (by decide) (hts _ q75) (fun _ h9 => h9) rfl dX4_sumTop_9 ?_
  refine lv_icmp_ge (tgt := 84) hx hb dX4_sumTop_12 (by decide) (fun _ => ?_) (fun c_12_0 => absurd (by decide +kernel) c_12_0)
  refine lv_lload_n hx hb dX4_sumTop_84 rfl (lv_at hl 1 rfl) ?_
  have hP9 := hP.sub (ws' := [(h0, .inr (7, [.ref vC, .ref p1, .ref p2, .ref p3, .ref p4, .ref p5, .ref p6, .ref p7, .int e1, .long e2, .ref p8, .int x1, .int x2, .long x3])), (vC, .inr (3, [.ref sS, .ref sJ, .int 0, .int 0]))]) [0, 1] rfl
  have hD9 := hD.sub (ws' := [(h0, .inr (7, [.ref vC, .ref p1, .ref p2, .ref p3, .ref p4, .ref p5, .ref p6, .ref p7, .int e1, .long e2, .ref p8, .int x1, .int x2, .long x3])), (vC, .inr (3, [.ref sS, .ref sJ, .int 0, .int 0]))]) [0, 1] (by decide) rfl
  refine W.widen (k := 0) (n := 0) (Nat.le_of_ble_eq_true rfl) (Nat.le_of_ble_eq_true rfl) ?_
  rw [hQe]
  exact W.lret (v := 0) hx hb hr (fun t ht hW => ⟨⟨0, (), rfl, rfl, ⟨by rw [ht]; exact hP9, hD9⟩⟩, hS.F ht⟩) hS.2.2 dX4_sumTop_85
set_option maxHeartbeats 4000000 in
set_option maxRecDepth 100000 in
/-- all places 0: no spread -/
theorem k_topSpread (l : Launch) (D : va_G) (cy : Nat → ClassId) (h0 : Nat) (vC : Nat) (p1 : Nat) (p2 : Nat) (p3 : Nat) (p4 : Nat) (p5 : Nat) (p6 : Nat) (p7 : Nat) (p8 : Nat) (e1 : Int32) (e2 : Int64) (x1 : Int32) (x2 : Int32) (x3 : Int64) (rt : Nat → Nat) (sz : Nat)  : Met l yX4_topSpread (wz yX4_topSpread cX4_topSpread 7 (some .long)) ({ frames := 1, cells := 0, slots := 0, locals := 19 } : Room) (va_Pc [.ref h0, .int 2] (zPre vwCl D cy [(h0, .inr (7, [.ref vC, .ref p1, .ref p2, .ref p3, .ref p4, .ref p5, .ref p6, .ref p7, .int e1, .long e2, .ref p8, .int x1, .int x2, .long x3])), (p5, .inl (cy 3, 9, .inr (.inr (.inr (.inr (fun k9 => if k9 < 9 then some (rt k9) else none)))))), ((rt 0), .inl (cy 1, 3, .inr (.inl (fun _ => 0)))), ((rt 1), .inl (cy 1, 3, .inr (.inl (fun _ => 0)))), ((rt 2), .inl (cy 1, 3, .inr (.inl (fun _ => 0)))), ((rt 3), .inl (cy 1, 3, .inr (.inl (fun _ => 0)))), ((rt 4), .inl (cy 1, 3, .inr (.inl (fun _ => 0)))), ((rt 5), .inl (cy 1, 3, .inr (.inl (fun _ => 0)))), ((rt 6), .inl (cy 1, 3, .inr (.inl (fun _ => 0)))), ((rt 7), .inl (cy 1, 3, .inr (.inl (fun _ => 0)))), ((rt 8), .inl (cy 1, 3, .inr (.inl (fun _ => 0))))] sz)) (va_Ql (fun (r : Int64) (_ : Unit) => r = 0) (fun (u : Unit) t => zPost vwCl D (va_A [(h0, .inr (7, [.ref vC, .ref p1, .ref p2, .ref p3, .ref p4, .ref p5, .ref p6, .ref p7, .int e1, .long e2, .ref p8, .int x1, .int x2, .long x3])), (p5, .inl (cy 3, 9, .inr (.inr (.inr (.inr (fun k9 => if k9 < 9 then some (rt k9) else none)))))), ((rt 0), .inl (cy 1, 3, .inr (.inl (fun _ => 0)))), ((rt 1), .inl (cy 1, 3, .inr (.inl (fun _ => 0)))), ((rt 2), .inl (cy 1, 3, .inr (.inl (fun _ => 0)))), ((rt 3), .inl (cy 1, 3, .inr (.inl (fun _ => 0)))), ((rt 4), .inl (cy 1, 3, .inr (.inl (fun _ => 0)))), ((rt 5), .inl (cy 1, 3, .inr (.inl (fun _ => 0)))), ((rt 6), .inl (cy 1, 3, .inr (.inl (fun _ => 0)))), ((rt 7), .inl (cy 1, 3, .inr (.inl (fun _ => 0)))), ((rt 8), .inl (cy 1, 3, .inr (.inl (fun _ => 0))))] sz) [(h0, .inr (7, [.ref vC, .ref p1, .ref p2, .ref p3, .ref p4, .ref p5, .ref p6, .ref p7, .int e1, .long e2, .ref p8, .int x1, .int x2, .long x3]))] t) (va_A [(h0, .inr (7, [.ref vC, .ref p1, .ref p2, .ref p3, .ref p4, .ref p5, .ref p6, .ref p7, .int e1, .long e2, .ref p8, .int x1, .int x2, .long x3])), (p5, .inl (cy 3, 9, .inr (.inr (.inr (.inr (fun k9 => if k9 < 9 then some (rt k9) else none)))))), ((rt 0), .inl (cy 1, 3, .inr (.inl (fun _ => 0)))), ((rt 1), .inl (cy 1, 3, .inr (.inl (fun _ => 0)))), ((rt 2), .inl (cy 1, 3, .inr (.inl (fun _ => 0)))), ((rt 3), .inl (cy 1, 3, .inr (.inl (fun _ => 0)))), ((rt 4), .inl (cy 1, 3, .inr (.inl (fun _ => 0)))), ((rt 5), .inl (cy 1, 3, .inr (.inl (fun _ => 0)))), ((rt 6), .inl (cy 1, 3, .inr (.inl (fun _ => 0)))), ((rt 7), .inl (cy 1, 3, .inr (.inl (fun _ => 0)))), ((rt 8), .inl (cy 1, 3, .inr (.inl (fun _ => 0))))] sz)) 0 0 (va_A [(h0, .inr (7, [.ref vC, .ref p1, .ref p2, .ref p3, .ref p4, .ref p5, .ref p6, .ref p7, .int e1, .long e2, .ref p8, .int x1, .int x2, .long x3])), (p5, .inl (cy 3, 9, .inr (.inr (.inr (.inr (fun k9 => if k9 < 9 then some (rt k9) else none)))))), ((rt 0), .inl (cy 1, 3, .inr (.inl (fun _ => 0)))), ((rt 1), .inl (cy 1, 3, .inr (.inl (fun _ => 0)))), ((rt 2), .inl (cy 1, 3, .inr (.inl (fun _ => 0)))), ((rt 3), .inl (cy 1, 3, .inr (.inl (fun _ => 0)))), ((rt 4), .inl (cy 1, 3, .inr (.inl (fun _ => 0)))), ((rt 5), .inl (cy 1, 3, .inr (.inl (fun _ => 0)))), ((rt 6), .inl (cy 1, 3, .inr (.inl (fun _ => 0)))), ((rt 7), .inl (cy 1, 3, .inr (.inl (fun _ => 0)))), ((rt 8), .inl (cy 1, 3, .inr (.inl (fun _ => 0))))] sz) := by
  refine Met.ofW (cc := cX4_topSpread) (maxL := 7) (ret := (some .long)) (by decide) rfl ?_
  intro p e s m args below meth c s₁ B hml hv
  obtain ⟨rfl, hsz, hP, hK, hD0, hX, hY⟩ := hv
  have hx := B.exec
  have hb := B.bytes
  have hr := B.returns
  have hts0 := atoms_spec (ws := wz yX4_topSpread cX4_topSpread 7 (some .long)) B.pre
  have hts : ∀ w ∈ wAll, w.before _ s = true := fun w h => hts0 w (List.mem_cons_of_mem _ h)
  have hown : s.vm.findClass RX4 = some m.cls := findClass_of_methodNamed B.named
  have hlocks := B.notSynchronized
  subst hsz
  have hD := hD0.self (sz := s.heap.size)
  generalize hAe : va_A [(h0, .inr (7, [.ref vC, .ref p1, .ref p2, .ref p3, .ref p4, .ref p5, .ref p6, .ref p7, .int e1, .long e2, .ref p8, .int x1, .int x2, .long x3])), (p5, .inl (cy 3, 9, .inr (.inr (.inr (.inr (fun k9 => if k9 < 9 then some (rt k9) else none)))))), ((rt 0), .inl (cy 1, 3, .inr (.inl (fun _ => 0)))), ((rt 1), .inl (cy 1, 3, .inr (.inl (fun _ => 0)))), ((rt 2), .inl (cy 1, 3, .inr (.inl (fun _ => 0)))), ((rt 3), .inl (cy 1, 3, .inr (.inl (fun _ => 0)))), ((rt 4), .inl (cy 1, 3, .inr (.inl (fun _ => 0)))), ((rt 5), .inl (cy 1, 3, .inr (.inl (fun _ => 0)))), ((rt 6), .inl (cy 1, 3, .inr (.inl (fun _ => 0)))), ((rt 7), .inl (cy 1, 3, .inr (.inl (fun _ => 0)))), ((rt 8), .inl (cy 1, 3, .inr (.inl (fun _ => 0))))] s.heap.size = A at hD hY ⊢
  have hA : ∀ q : Nat, s.heap.size ≤ q → A q := fun q h => by rw [← hAe]; exact Or.inr h
  have hS : va_S A s.heap s.heap [] := va_S.rf
  have hP : va_P D vwCl [(h0, .inr (7, [.ref vC, .ref p1, .ref p2, .ref p3, .ref p4, .ref p5, .ref p6, .ref p7, .int e1, .long e2, .ref p8, .int x1, .int x2, .long x3])), (p5, .inl (cy 3, 9, .inr (.inr (.inr (.inr (fun k9 => if k9 < 9 then some (rt k9) else none)))))), ((rt 0), .inl (cy 1, 3, .inr (.inl (fun _ => 0)))), ((rt 1), .inl (cy 1, 3, .inr (.inl (fun _ => 0)))), ((rt 2), .inl (cy 1, 3, .inr (.inl (fun _ => 0)))), ((rt 3), .inl (cy 1, 3, .inr (.inl (fun _ => 0)))), ((rt 4), .inl (cy 1, 3, .inr (.inl (fun _ => 0)))), ((rt 5), .inl (cy 1, 3, .inr (.inl (fun _ => 0)))), ((rt 6), .inl (cy 1, 3, .inr (.inl (fun _ => 0)))), ((rt 7), .inl (cy 1, 3, .inr (.inl (fun _ => 0)))), ((rt 8), .inl (cy 1, 3, .inr (.inl (fun _ => 0))))] s.heap := hP
  have hl := lv_entry ([.ref h0, .int 2]) (n := 7) (Nat.le_of_ble_eq_true rfl)
  rw [lg_entry_eq]
  generalize (lg_sl ([.ref h0, .int 2]) ++ List.replicate (7 - (lg_sl ([.ref h0, .int 2])).length) Slot.unset).toArray = ls at hl ⊢
  have hl : lv_has ls 7 [(0, .ref h0), (1, .int 2)] := hl
  refine z_anyQ (fun Q hQe => ?_)
  refine lv_lconst (v := 0) hx hb dX4_topSpread_0 rfl ?_
  refine lv_lstore_n (lv' := [(2, .long 0), (0, .ref h0), (1, .int 2)]) hx hb dX4_topSpread_1 rfl hl (by decide) rfl (fun ls hl => ?_)
  refine lv_lconst (v := 0) hx hb dX4_topSpread_2 rfl ?_
  refine lv_lstore (lv' := [(4, .long 0), (2, .long 0), (0, .ref h0), (1, .int 2)]) hx hb dX4_topSpread_3 hl (by decide) rfl (fun ls hl => ?_)
  refine lv_iconst (v := 0) hx hb dX4_topSpread_5 (by decide) ?_
  refine lv_istore (lv' := [(6, .int 0), (4, .long 0), (2, .long 0), (0, .ref h0), (1, .int 2)]) hx hb dX4_topSpread_6 hl (by decide) rfl (fun ls hl => ?_)
  refine lv_iload hx hb dX4_topSpread_8 (lv_at hl 0 rfl) ?_
  refine lv_bipush (v := 9) hx hb dX4_topSpread_10 (by decide) ?_
  refine lv_icmp_ge (tgt := 51) hx hb dX4_topSpread_12 (by decide) (fun c_12_0 => absurd c_12_0 (by decide +kernel)) (fun _ => ?_)
  refine lv_lload_n hx hb dX4_topSpread_15 rfl (lv_at hl 2 rfl) ?_
  refine lv_aload_n hx hb dX4_topSpread_16 rfl (lv_at hl 3 rfl) ?_
  refine va_get (D := D) (ci := 7) (v := .ref p5) (C := RX4) (T := TX4) (N := 14) hx hb hts iRX4 hown hK hP 0 rfl rfl 5 (by decide) (hts _ q43) (fun _ h9 => h9) rfl dX4_topSpread_17 ?_
  refine lv_iload hx hb dX4_topSpread_20 (lv_at hl 0 rfl) ?_
  refine va_aldA hx hb hK hP 1 3 rfl rfl (z_in 0 (by decide) (by decide)) dX4_topSpread_22 ?_
  rw [show va_rf ((fun k9 => if k9 < 9 then some (rt k9) else none) (0 : Int32).toNatClampNeg) = .ref (rt 0) from rfl]
  refine lv_iload_n hx hb dX4_topSpread_23 rfl (lv_at hl 4 rfl) ?_
  refine va_lald hx hb hK hP 2 1 rfl rfl (z_in 2 (by decide) (by decide)) dX4_topSpread_24 ?_
  refine lv_topl (fun y2 ey2 => ?_)
  obtain rfl : y2 = 0 := ey2.trans rfl
  refine va_mmax_long hx hb (by rw [hml]; exact hl.1.symm) hown (hts _ q101) (hts _ q102) (hts _ q73) (hts _ q103) (Nat.le_of_ble_eq_true rfl) (Nat.le_of_ble_eq_true rfl) (Nat.le_of_ble_eq_true rfl) (Nat.le_of_ble_eq_true rfl) dX4_topSpread_25 ?_
  refine lv_topl (fun y3 ey3 => ?_)
  obtain rfl : y3 = 0 := ey3.trans (by decide +kernel)
  refine lv_lstore_n (lv' := [(2, .long 0), (6, .int 0), (4, .long 0), (0, .ref h0), (1, .int 2)]) hx hb dX4_topSpread_28 rfl hl (by decide) rfl (fun ls hl => ?_)
  refine lv_lload hx hb dX4_topSpread_29 (lv_at hl 2 rfl) ?_
  refine lv_aload_n hx hb dX4_topSpread_31 rfl (lv_at hl 3 rfl) ?_
  refine va_get (D := D) (ci := 7) (v := .ref p5) (C := RX4) (T := TX4) (N := 14) hx hb hts iRX4 hown hK hP 0 rfl rfl 5 (by decide) (hts _ q43) (fun _ h9 => h9) rfl dX4_topSpread_32 ?_
  refine lv_iload hx hb dX4_topSpread_35 (lv_at hl 1 rfl) ?_
  refine va_aldA hx hb hK hP 1 3 rfl rfl (z_in 0 (by decide) (by decide)) dX4_topSpread_37 ?_
  rw [show va_rf ((fun k9 => if k9 < 9 then some (rt k9) else none) (0 : Int32).toNatClampNeg) = .ref (rt 0) from rfl]
  refine lv_iload_n hx hb dX4_topSpread_38 rfl (lv_at hl 4 rfl) ?_
  refine va_lald hx hb hK hP 2 1 rfl rfl (z_in 2 (by decide) (by decide)) dX4_topSpread_39 ?_
  refine lv_topl (fun y4 ey4 => ?_)
  obtain rfl : y4 = 0 := ey4.trans rfl
  refine va_mmin_long hx hb (by rw [hml]; exact hl.1.symm) hown (hts _ q116) (hts _ q117) (hts _ q73) (hts _ q118) (Nat.le_of_ble_eq_true rfl) (Nat.le_of_ble_eq_true rfl) (Nat.le_of_ble_eq_true rfl) (Nat.le_of_ble_eq_true rfl) dX4_topSpread_40 ?_
  refine lv_topl (fun y5 ey5 => ?_)
  obtain rfl : y5 = 0 := ey5.trans (by decide +kernel)
  refine lv_lstore (lv' := [(4, .long 0), (2, .long 0), (6, .int 0), (0, .ref h0), (1, .int 2)]) hx hb dX4_topSpread_43 hl (by decide) rfl (fun ls hl => ?_)
  refine lv_iinc (v := 1) (lv' := [(6, .int 1), (4, .long 0), (2, .long 0), (0, .ref h0), (1, .int 2)]) hx hb dX4_topSpread_45 hl (k := 2) rfl (by decide) (by decide) rfl (fun ls hl => ?_)
  refine lv_goto (tgt := 8) hx hb dX4_topSpread_48 (by decide) ?_
  refine lv_iload hx hb dX4_topSpread_8 (lv_at hl 0 rfl) ?_
  refine lv_bipush (v := 9) hx hb dX4_topSpread_10 (by decide) ?_
  refine lv_icmp_ge (tgt := 51) hx hb dX4_topSpread_12 (by decide) (fun c_12_5 => absurd c_12_5 (by decide +kernel)) (fun _ => ?_)
  refine lv_lload_n hx hb dX4_topSpread_15 rfl (lv_at hl 2 rfl) ?_
  refine lv_aload_n hx hb dX4_topSpread_16 rfl (lv_at hl 3 rfl) ?_
  refine va_get (D := D) (ci := 7) (v := .ref p5) (C := RX4) (T := TX4) (N := 14) hx hb hts iRX4 hown hK hP 0 rfl rfl 5 (by decide) (hts _ q43) (fun _ h9 => h9) rfl dX4_topSpread_17 ?_
  refine lv_iload hx hb dX4_topSpread_20 (lv_at hl 0 rfl) ?_
  refine va_aldA hx hb hK hP 1 3 rfl rfl (z_in 1 (by decide) (by decide)) dX4_topSpread_22 ?_
  rw [show va_rf ((fun k9 => if k9 < 9 then some (rt k9) else none) (1 : Int32).toNatClampNeg) = .ref (rt 1) from rfl]
  refine lv_iload_n hx hb dX4_topSpread_23 rfl (lv_at hl 4 rfl) ?_
  refine va_lald hx hb hK hP 3 1 rfl rfl (z_in 2 (by decide) (by decide)) dX4_topSpread_24 ?_
  refine lv_topl (fun y7 ey7 => ?_)
  obtain rfl : y7 = 0 := ey7.trans rfl
  refine va_mmax_long hx hb (by rw [hml]; exact hl.1.symm) hown (hts _ q101) (hts _ q102) (hts _ q73) (hts _ q103) (Nat.le_of_ble_eq_true rfl) (Nat.le_of_ble_eq_true rfl) (Nat.le_of_ble_eq_true rfl) (Nat.le_of_ble_eq_true rfl) dX4_topSpread_25 ?_
  refine lv_topl (fun y8 ey8 => ?_)
  obtain rfl : y8 = 0 := ey8.trans (by decide +kernel)
  refine lv_lstore_n (lv' := [(2, .long 0), (6, .int 1), (4, .long 0), (0, .ref h0), (1, .int 2)]) hx hb dX4_topSpread_28 rfl hl (by decide) rfl (fun ls hl => ?_)
  refine lv_lload hx hb dX4_topSpread_29 (lv_at hl 2 rfl) ?_
  refine lv_aload_n hx hb dX4_topSpread_31 rfl (lv_at hl 3 rfl) ?_
  refine va_get (D := D) (ci := 7) (v := .ref p5) (C := RX4) (T := TX4) (N := 14) hx hb hts iRX4 hown hK hP 0 rfl rfl 5 (by decide) (hts _ q43) (fun _ h9 => h9) rfl dX4_topSpread_32 ?_
  refine lv_iload hx hb dX4_topSpread_35 (lv_at hl 1 rfl) ?_
  refine va_aldA hx hb hK hP 1 3 rfl rfl (z_in 1 (by decide) (by decide)) dX4_topSpread_37 ?_
  rw [show va_rf ((fun k9 => if k9 < 9 then some (rt k9) else none) (1 : Int32).toNatClampNeg) = .ref (rt 1) from rfl]
  refine lv_iload_n hx hb dX4_topSpread_38 rfl (lv_at hl 4 rfl) ?_
  refine va_lald hx hb hK hP 3 1 rfl rfl (z_in 2 (by decide) (by decide)) dX4_topSpread_39 ?_
  refine lv_topl (fun y9 ey9 => ?_)
  obtain rfl : y9 = 0 := ey9.trans rfl
  refine va_mmin_long hx hb (by rw [hml]; exact hl.1.symm) hown (hts _ q116) (hts _ q117) (hts _ q73) (hts _ q118) (Nat.le_of_ble_eq_true rfl) (Nat.le_of_ble_eq_true rfl) (Nat.le_of_ble_eq_true rfl) (Nat.le_of_ble_eq_true rfl) dX4_topSpread_40 ?_
  refine lv_topl (fun y10 ey10 => ?_)
  obtain rfl : y10 = 0 := ey10.trans (by decide +kernel)
  refine lv_lstore (lv' := [(4, .long 0), (2, .long 0), (6, .int 1), (0, .ref h0), (1, .int 2)]) hx hb dX4_topSpread_43 hl (by decide) rfl (fun ls hl => ?_)
  refine lv_iinc (v := 2) (lv' := [(6, .int 2), (4, .long 0), (2, .long 0), (0, .ref h0), (1, .int 2)]) hx hb dX4_topSpread_45 hl (k := 2) rfl (by decide) (by decide) rfl (fun ls hl => ?_)
  refine lv_goto (tgt := 8) hx hb dX4_topSpread_48 (by decide) ?_
  refine lv_iload hx hb dX4_topSpread_8 (lv_at hl 0 rfl) ?_
  refine lv_bipush (v := 9) hx hb dX4_topSpread_10 (by decide) ?_
  refine lv_icmp_ge (tgt := 51) hx hb dX4_topSpread_12 (by decide) (fun c_12_10 => absurd c_12_10 (by decide +kernel)) (fun _ => ?_)
  refine lv_lload_n hx hb dX4_topSpread_15 rfl (lv_at hl 2 rfl) ?_
  refine lv_aload_n hx hb dX4_topSpread_16 rfl (lv_at hl 3 rfl) ?_
  refine va_get (D := D) (ci := 7) (v := .ref p5) (C := RX4) (T := TX4) (N := 14) hx hb hts iRX4 hown hK hP 0 rfl rfl 5 (by decide) (hts _ q43) (fun _ h9 => h9) rfl dX4_topSpread_17 ?_
  refine lv_iload hx hb dX4_topSpread_20 (lv_at hl 0 rfl) ?_
  refine va_aldA hx hb hK hP 1 3 rfl rfl (z_in 2 (by decide) (by decide)) dX4_topSpread_22 ?_
  rw [show va_rf ((fun k9 => if k9 < 9 then some (rt k9) else none) (2 : Int32).toNatClampNeg) = .ref (rt 2) from rfl]
  refine lv_iload_n hx hb dX4_topSpread_23 rfl (lv_at hl 4 rfl) ?_
  refine va_lald hx hb hK hP 4 1 rfl rfl (z_in 2 (by decide) (by decide)) dX4_topSpread_24 ?_
  refine lv_topl (fun y12 ey12 => ?_)
  obtain rfl : y12 = 0 := ey12.trans rfl
  refine va_mmax_long hx hb (by rw [hml]; exact hl.1.symm) hown (hts _ q101) (hts _ q102) (hts _ q73) (hts _ q103) (Nat.le_of_ble_eq_true rfl) (Nat.le_of_ble_eq_true rfl) (Nat.le_of_ble_eq_true rfl) (Nat.le_of_ble_eq_true rfl) dX4_topSpread_25 ?_
  refine lv_topl (fun y13 ey13 => ?_)
  obtain rfl : y13 = 0 := ey13.trans (by decide +kernel)
  refine lv_lstore_n (lv' := [(2, .long 0), (6, .int 2), (4, .long 0), (0, .ref h0), (1, .int 2)]) hx hb dX4_topSpread_28 rfl hl (by decide) rfl (fun ls hl => ?_)
  refine lv_lload hx hb dX4_topSpread_29 (lv_at hl 2 rfl) ?_
  refine lv_aload_n hx hb dX4_topSpread_31 rfl (lv_at hl 3 rfl) ?_
  refine va_get (D := D) (ci := 7) (v := .ref p5) (C := RX4) (T := TX4) (N := 14) hx hb hts iRX4 hown hK hP 0 rfl rfl 5 (by decide) (hts _ q43) (fun _ h9 => h9) rfl dX4_topSpread_32 ?_
  refine lv_iload hx hb dX4_topSpread_35 (lv_at hl 1 rfl) ?_
  refine va_aldA hx hb hK hP 1 3 rfl rfl (z_in 2 (by decide) (by decide)) dX4_topSpread_37 ?_
  rw [show va_rf ((fun k9 => if k9 < 9 then some (rt k9) else none) (2 : Int32).toNatClampNeg) = .ref (rt 2) from rfl]
  refine lv_iload_n hx hb dX4_topSpread_38 rfl (lv_at hl 4 rfl) ?_
  refine va_lald hx hb hK hP 4 1 rfl rfl (z_in 2 (by decide) (by decide)) dX4_topSpread_39 ?_
  refine lv_topl (fun y14 ey14 => ?_)
  obtain rfl : y14 = 0 := ey14.trans rfl
  refine va_mmin_long hx hb (by rw [hml]; exact hl.1.symm) hown (hts _ q116) (hts _ q117) (hts _ q73) (hts _ q118) (Nat.le_of_ble_eq_true rfl) (Nat.le_of_ble_eq_true rfl) (Nat.le_of_ble_eq_true rfl) (Nat.le_of_ble_eq_true rfl) dX4_topSpread_40 ?_
  refine lv_topl (fun y15 ey15 => ?_)
  obtain rfl : y15 = 0 := ey15.trans (by decide +kernel)
  refine lv_lstore (lv' := [(4, .long 0), (2, .long 0), (6, .int 2), (0, .ref h0), (1, .int 2)]) hx hb dX4_topSpread_43 hl (by decide) rfl (fun ls hl => ?_)
  refine lv_iinc (v := 3) (lv' := [(6, .int 3), (4, .long 0), (2, .long 0), (0, .ref h0), (1, .int 2)]) hx hb dX4_topSpread_45 hl (k := 2) rfl (by decide) (by decide) rfl (fun ls hl => ?_)
  refine lv_goto (tgt := 8) hx hb dX4_topSpread_48 (by decide) ?_
  refine lv_iload hx hb dX4_topSpread_8 (lv_at hl 0 rfl) ?_
  refine lv_bipush (v := 9) hx hb dX4_topSpread_10 (by decide) ?_
  refine lv_icmp_ge (tgt := 51) hx hb dX4_topSpread_12 (by decide) (fun c_12_15 => absurd c_12_15 (by decide +kernel)) (fun _ => ?_)
  refine lv_lload_n hx hb dX4_topSpread_15 rfl (lv_at hl 2 rfl) ?_
  refine lv_aload_n hx hb dX4_topSpread_16 rfl (lv_at hl 3 rfl) ?_
  refine va_get (D := D) (ci := 7) (v := .ref p5) (C := RX4) (T := TX4) (N := 14) hx hb hts iRX4 hown hK hP 0 rfl rfl 5 (by decide) (hts _ q43) (fun _ h9 => h9) rfl dX4_topSpread_17 ?_
  refine lv_iload hx hb dX4_topSpread_20 (lv_at hl 0 rfl) ?_
  refine va_aldA hx hb hK hP 1 3 rfl rfl (z_in 3 (by decide) (by decide)) dX4_topSpread_22 ?_
  rw [show va_rf ((fun k9 => if k9 < 9 then some (rt k9) else none) (3 : Int32).toNatClampNeg) = .ref (rt 3) from rfl]
  refine lv_iload_n hx hb dX4_topSpread_23 rfl (lv_at hl 4 rfl) ?_
  refine va_lald hx hb hK hP 5 1 rfl rfl (z_in 2 (by decide) (by decide)) dX4_topSpread_24 ?_
  refine lv_topl (fun y17 ey17 => ?_)
  obtain rfl : y17 = 0 := ey17.trans rfl
  refine va_mmax_long hx hb (by rw [hml]; exact hl.1.symm) hown (hts _ q101) (hts _ q102) (hts _ q73) (hts _ q103) (Nat.le_of_ble_eq_true rfl) (Nat.le_of_ble_eq_true rfl) (Nat.le_of_ble_eq_true rfl) (Nat.le_of_ble_eq_true rfl) dX4_topSpread_25 ?_
  refine lv_topl (fun y18 ey18 => ?_)
  obtain rfl : y18 = 0 := ey18.trans (by decide +kernel)
  refine lv_lstore_n (lv' := [(2, .long 0), (6, .int 3), (4, .long 0), (0, .ref h0), (1, .int 2)]) hx hb dX4_topSpread_28 rfl hl (by decide) rfl (fun ls hl => ?_)
  refine lv_lload hx hb dX4_topSpread_29 (lv_at hl 2 rfl) ?_
  refine lv_aload_n hx hb dX4_topSpread_31 rfl (lv_at hl 3 rfl) ?_
  refine va_get (D := D) (ci := 7) (v := .ref p5) (C := RX4) (T := TX4) (N := 14) hx hb hts iRX4 hown hK hP 0 rfl rfl 5 (by decide) (hts _ q43) (fun _ h9 => h9) rfl dX4_topSpread_32 ?_
  refine lv_iload hx hb dX4_topSpread_35 (lv_at hl 1 rfl) ?_
  refine va_aldA hx hb hK hP 1 3 rfl rfl (z_in 3 (by decide) (by decide)) dX4_topSpread_37 ?_
  rw [show va_rf ((fun k9 => if k9 < 9 then some (rt k9) else none) (3 : Int32).toNatClampNeg) = .ref (rt 3) from rfl]
  refine lv_iload_n hx hb dX4_topSpread_38 rfl (lv_at hl 4 rfl) ?_
  refine va_lald hx hb hK hP 5 1 rfl rfl (z_in 2 (by decide) (by decide)) dX4_topSpread_39 ?_
  refine lv_topl (fun y19 ey19 => ?_)
  obtain rfl : y19 = 0 := ey19.trans rfl
  refine va_mmin_long hx hb (by rw [hml]; exact hl.1.symm) hown (hts _ q116) (hts _ q117) (hts _ q73) (hts _ q118) (Nat.le_of_ble_eq_true rfl) (Nat.le_of_ble_eq_true rfl) (Nat.le_of_ble_eq_true rfl) (Nat.le_of_ble_eq_true rfl) dX4_topSpread_40 ?_
  refine lv_topl (fun y20 ey20 => ?_)
  obtain rfl : y20 = 0 := ey20.trans (by decide +kernel)
  refine lv_lstore (lv' := [(4, .long 0), (2, .long 0), (6, .int 3), (0, .ref h0), (1, .int 2)]) hx hb dX4_topSpread_43 hl (by decide) rfl (fun ls hl => ?_)
  refine lv_iinc (v := 4) (lv' := [(6, .int 4), (4, .long 0), (2, .long 0), (0, .ref h0), (1, .int 2)]) hx hb dX4_topSpread_45 hl (k := 2) rfl (by decide) (by decide) rfl (fun ls hl => ?_)
  refine lv_goto (tgt := 8) hx hb dX4_topSpread_48 (by decide) ?_
  refine lv_iload hx hb dX4_topSpread_8 (lv_at hl 0 rfl) ?_
  refine lv_bipush (v := 9) hx hb dX4_topSpread_10 (by decide) ?_
  refine lv_icmp_ge (tgt := 51) hx hb dX4_topSpread_12 (by decide) (fun c_12_20 => absurd c_12_20 (by decide +kernel)) (fun _ => ?_)
  refine lv_lload_n hx hb dX4_topSpread_15 rfl (lv_at hl 2 rfl) ?_
  refine lv_aload_n hx hb dX4_topSpread_16 rfl (lv_at hl 3 rfl) ?_
  refine va_get (D := D) (ci := 7) (v := .ref p5) (C := RX4) (T := TX4) (N := 14) hx hb hts iRX4 hown hK hP 0 rfl rfl 5 (by decide) (hts _ q43) (fun _ h9 => h9) rfl dX4_topSpread_17 ?_
  refine lv_iload hx hb dX4_topSpread_20 (lv_at hl 0 rfl) ?_
  refine va_aldA hx hb hK hP 1 3 rfl rfl (z_in 4 (by decide) (by decide)) dX4_topSpread_22 ?_
  rw [show va_rf ((fun k9 => if k9 < 9 then some (rt k9) else none) (4 : Int32).toNatClampNeg) = .ref (rt 4) from rfl]
  refine lv_iload_n hx hb dX4_topSpread_23 rfl (lv_at hl 4 rfl) ?_
  refine va_lald hx hb hK hP 6 1 rfl rfl (z_in 2 (by decide) (by decide)) dX4_topSpread_24 ?_
  refine lv_topl (fun y22 ey22 => ?_)
  obtain rfl : y22 = 0 := ey22.trans rfl
  refine va_mmax_long hx hb (by rw [hml]; exact hl.1.symm) hown (hts _ q101) (hts _ q102) (hts _ q73) (hts _ q103) (Nat.le_of_ble_eq_true rfl) (Nat.le_of_ble_eq_true rfl) (Nat.le_of_ble_eq_true rfl) (Nat.le_of_ble_eq_true rfl) dX4_topSpread_25 ?_
  refine lv_topl (fun y23 ey23 => ?_)
  obtain rfl : y23 = 0 := ey23.trans (by decide +kernel)
  refine lv_lstore_n (lv' := [(2, .long 0), (6, .int 4), (4, .long 0), (0, .ref h0), (1, .int 2)]) hx hb dX4_topSpread_28 rfl hl (by decide) rfl (fun ls hl => ?_)
  refine lv_lload hx hb dX4_topSpread_29 (lv_at hl 2 rfl) ?_
  refine lv_aload_n hx hb dX4_topSpread_31 rfl (lv_at hl 3 rfl) ?_
  refine va_get (D := D) (ci := 7) (v := .ref p5) (C := RX4) (T := TX4) (N := 14) hx hb hts iRX4 hown hK hP 0 rfl rfl 5 (by decide) (hts _ q43) (fun _ h9 => h9) rfl dX4_topSpread_32 ?_
  refine lv_iload hx hb dX4_topSpread_35 (lv_at hl 1 rfl) ?_
  refine va_aldA hx hb hK hP 1 3 rfl rfl (z_in 4 (by decide) (by decide)) dX4_topSpread_37 ?_
  rw [show va_rf ((fun k9 => if k9 < 9 then some (rt k9) else none) (4 : Int32).toNatClampNeg) = .ref (rt 4) from rfl]
  refine lv_iload_n hx hb dX4_topSpread_38 rfl (lv_at hl 4 rfl) ?_
  refine va_lald hx hb hK hP 6 1 rfl rfl (z_in 2 (by decide) (by decide)) dX4_topSpread_39 ?_
  refine lv_topl (fun y24 ey24 => ?_)
  obtain rfl : y24 = 0 := ey24.trans rfl
  refine va_mmin_long hx hb (by rw [hml]; exact hl.1.symm) hown (hts _ q116) (hts _ q117) (hts _ q73) (hts _ q118) (Nat.le_of_ble_eq_true rfl) (Nat.le_of_ble_eq_true rfl) (Nat.le_of_ble_eq_true rfl) (Nat.le_of_ble_eq_true rfl) dX4_topSpread_40 ?_
  refine lv_topl (fun y25 ey25 => ?_)
  obtain rfl : y25 = 0 := ey25.trans (by decide +kernel)
  refine lv_lstore (lv' := [(4, .long 0), (2, .long 0), (6, .int 4), (0, .ref h0), (1, .int 2)]) hx hb dX4_topSpread_43 hl (by decide) rfl (fun ls hl => ?_)
  refine lv_iinc (v := 5) (lv' := [(6, .int 5), (4, .long 0), (2, .long 0), (0, .ref h0), (1, .int 2)]) hx hb dX4_topSpread_45 hl (k := 2) rfl (by decide) (by decide) rfl (fun ls hl => ?_)
  refine lv_goto (tgt := 8) hx hb dX4_topSpread_48 (by decide) ?_
  refine lv_iload hx hb dX4_topSpread_8 (lv_at hl 0 rfl) ?_
  refine lv_bipush (v := 9) hx hb dX4_topSpread_10 (by decide) ?_
  refine lv_icmp_ge (tgt := 51) hx hb dX4_topSpread_12 (by decide) (fun c_12_25 => absurd c_12_25 (by decide +kernel)) (fun _ => ?_)
  refine lv_lload_n hx hb dX4_topSpread_15 rfl (lv_at hl 2 rfl) ?_
  refine lv_aload_n hx hb dX4_topSpread_16 rfl (lv_at hl 3 rfl) ?_
  refine va_get (D := D) (ci := 7) (v := .ref p5) (C := RX4) (T := TX4) (N := 14) hx hb hts iRX4 hown hK hP 0 rfl rfl 5 (by decide) (hts _ q43) (fun _ h9 => h9) rfl dX4_topSpread_17 ?_
  refine lv_iload hx hb dX4_topSpread_20 (lv_at hl 0 rfl) ?_
  refine va_aldA hx hb hK hP 1 3 rfl rfl (z_in 5 (by decide) (by decide)) dX4_topSpread_22 ?_
  rw [show va_rf ((fun k9 => if k9 < 9 then some (rt k9) else none) (5 : Int32).toNatClampNeg) = .ref (rt 5) from rfl]
  refine lv_iload_n hx hb dX4_topSpread_23 rfl (lv_at hl 4 rfl) ?_
  refine va_lald hx hb hK hP 7 1 rfl rfl (z_in 2 (by decide) (by decide)) dX4_topSpread_24 ?_
  refine lv_topl (fun y27 ey27 => ?_)
  obtain rfl : y27 = 0 := ey27.trans rfl
  refine va_mmax_long hx hb (by rw [hml]; exact hl.1.symm) hown (hts _ q101) (hts _ q102) (hts _ q73) (hts _ q103) (Nat.le_of_ble_eq_true rfl) (Nat.le_of_ble_eq_true rfl) (Nat.le_of_ble_eq_true rfl) (Nat.le_of_ble_eq_true rfl) dX4_topSpread_25 ?_
  refine lv_topl (fun y28 ey28 => ?_)
  obtain rfl : y28 = 0 := ey28.trans (by decide +kernel)
  refine lv_lstore_n (lv' := [(2, .long 0), (6, .int 5), (4, .long 0), (0, .ref h0), (1, .int 2)]) hx hb dX4_topSpread_28 rfl hl (by decide) rfl (fun ls hl => ?_)
  refine lv_lload hx hb dX4_topSpread_29 (lv_at hl 2 rfl) ?_
  refine lv_aload_n hx hb dX4_topSpread_31 rfl (lv_at hl 3 rfl) ?_
  refine va_get (D := D) (ci := 7) (v := .ref p5) (C := RX4) (T := TX4) (N := 14) hx hb hts iRX4 hown hK hP 0 rfl rfl 5 (by decide) (hts _ q43) (fun _ h9 => h9) rfl dX4_topSpread_32 ?_
  refine lv_iload hx hb dX4_topSpread_35 (lv_at hl 1 rfl) ?_
  refine va_aldA hx hb hK hP 1 3 rfl rfl (z_in 5 (by decide) (by decide)) dX4_topSpread_37 ?_
  rw [show va_rf ((fun k9 => if k9 < 9 then some (rt k9) else none) (5 : Int32).toNatClampNeg) = .ref (rt 5) from rfl]
  refine lv_iload_n hx hb dX4_topSpread_38 rfl (lv_at hl 4 rfl) ?_
  refine va_lald hx hb hK hP 7 1 rfl rfl (z_in 2 (by decide) (by decide)) dX4_topSpread_39 ?_
  refine lv_topl (fun y29 ey29 => ?_)
  obtain rfl : y29 = 0 := ey29.trans rfl
  refine va_mmin_long hx hb (by rw [hml]; exact hl.1.symm) hown (hts _ q116) (hts _ q117) (hts _ q73) (hts _ q118) (Nat.le_of_ble_eq_true rfl) (Nat.le_of_ble_eq_true rfl) (Nat.le_of_ble_eq_true rfl) (Nat.le_of_ble_eq_true rfl) dX4_topSpread_40 ?_
  refine lv_topl (fun y30 ey30 => ?_)
  obtain rfl : y30 = 0 := ey30.trans (by decide +kernel)
  refine lv_lstore (lv' := [(4, .long 0), (2, .long 0), (6, .int 5), (0, .ref h0), (1, .int 2)]) hx hb dX4_topSpread_43 hl (by decide) rfl (fun ls hl => ?_)
  refine lv_iinc (v := 6) (lv' := [(6, .int 6), (4, .long 0), (2, .long 0), (0, .ref h0), (1, .int 2)]) hx hb dX4_topSpread_45 hl (k := 2) rfl (by decide) (by decide) rfl (fun ls hl => ?_)
  refine lv_goto (tgt := 8) hx hb dX4_topSpread_48 (by decide) ?_
  refine lv_iload hx hb dX4_topSpread_8 (lv_at hl 0 rfl) ?_
  refine lv_bipush (v := 9) hx hb dX4_topSpread_10 (by decide) ?_
  refine lv_icmp_ge (tgt := 51) hx hb dX4_topSpread_12 (by decide) (fun c_12_30 => absurd c_12_30 (by decide +kernel)) (fun _ => ?_)
  refine lv_lload_n hx hb dX4_topSpread_15 rfl (lv_at hl 2 rfl) ?_
  refine lv_aload_n hx hb dX4_topSpread_16 rfl (lv_at hl 3 rfl) ?_
  refine va_get (D := D) (ci := 7) (v := .ref p5) (C := RX4) (T := TX4) (N := 14) hx hb hts iRX4 hown hK hP 0 rfl rfl 5 (by decide) (hts _ q43) (fun _ h9 => h9) rfl dX4_topSpread_17 ?_
  refine lv_iload hx hb dX4_topSpread_20 (lv_at hl 0 rfl) ?_
  refine va_aldA hx hb hK hP 1 3 rfl rfl (z_in 6 (by decide) (by decide)) dX4_topSpread_22 ?_
  rw [show va_rf ((fun k9 => if k9 < 9 then some (rt k9) else none) (6 : Int32).toNatClampNeg) = .ref (rt 6) from rfl]
  refine lv_iload_n hx hb dX4_topSpread_23 rfl (lv_at hl 4 rfl) ?_
  refine va_lald hx hb hK hP 8 1 rfl rfl (z_in 2 (by decide) (by decide)) dX4_topSpread_24 ?_
  refine lv_topl (fun y32 ey32 => ?_)
  obtain rfl : y32 = 0 := ey32.trans rfl
  refine va_mmax_long hx hb (by rw [hml]; exact hl.1.symm) hown (hts _ q101) (hts _ q102) (hts _ q73) (hts _ q103) (Nat.le_of_ble_eq_true rfl) (Nat.le_of_ble_eq_true rfl) (Nat.le_of_ble_eq_true rfl) (Nat.le_of_ble_eq_true rfl) dX4_topSpread_25 ?_
  refine lv_topl (fun y33 ey33 => ?_)
  obtain rfl : y33 = 0 := ey33.trans (by decide +kernel)
  refine lv_lstore_n (lv' := [(2, .long 0), (6, .int 6), (4, .long 0), (0, .ref h0), (1, .int 2)]) hx hb dX4_topSpread_28 rfl hl (by decide) rfl (fun ls hl => ?_)
  refine lv_lload hx hb dX4_topSpread_29 (lv_at hl 2 rfl) ?_
  refine lv_aload_n hx hb dX4_topSpread_31 rfl (lv_at hl 3 rfl) ?_
  refine va_get (D := D) (ci := 7) (v := .ref p5) (C := RX4) (T := TX4) (N := 14) hx hb hts iRX4 hown hK hP 0 rfl rfl 5 (by decide) (hts _ q43) (fun _ h9 => h9) rfl dX4_topSpread_32 ?_
  refine lv_iload hx hb dX4_topSpread_35 (lv_at hl 1 rfl) ?_
  refine va_aldA hx hb hK hP 1 3 rfl rfl (z_in 6 (by decide) (by decide)) dX4_topSpread_37 ?_
  rw [show va_rf ((fun k9 => if k9 < 9 then some (rt k9) else none) (6 : Int32).toNatClampNeg) = .ref (rt 6) from rfl]
  refine lv_iload_n hx hb dX4_topSpread_38 rfl (lv_at hl 4 rfl) ?_
  refine va_lald hx hb hK hP 8 1 rfl rfl (z_in 2 (by decide) (by decide)) dX4_topSpread_39 ?_
  refine lv_topl (fun y34 ey34 => ?_)
  obtain rfl : y34 = 0 := ey34.trans rfl
  refine va_mmin_long hx hb (by rw [hml]; exact hl.1.symm) hown (hts _ q116) (hts _ q117) (hts _ q73) (hts _ q118) (Nat.le_of_ble_eq_true rfl) (Nat.le_of_ble_eq_true rfl) (Nat.le_of_ble_eq_true rfl) (Nat.le_of_ble_eq_true rfl) dX4_topSpread_40 ?_
  refine lv_topl (fun y35 ey35 => ?_)
  obtain rfl : y35 = 0 := ey35.trans (by decide +kernel)
  refine lv_lstore (lv' := [(4, .long 0), (2, .long 0), (6, .int 6), (0, .ref h0), (1, .int 2)]) hx hb dX4_topSpread_43 hl (by decide) rfl (fun ls hl => ?_)
  refine lv_iinc (v := 7) (lv' := [(6, .int 7), (4, .long 0), (2, .long 0), (0, .ref h0), (1, .int 2)]) hx hb dX4_topSpread_45 hl (k := 2) rfl (by decide) (by decide) rfl (fun ls hl => ?_)
  refine lv_goto (tgt := 8) hx hb dX4_topSpread_48 (by decide) ?_
  refine lv_iload hx hb dX4_topSpread_8 (lv_at hl 0 rfl) ?_
  refine lv_bipush (v := 9) hx hb dX4_topSpread_10 (by decide) ?_
  refine lv_icmp_ge (tgt := 51) hx hb dX4_topSpread_12 (by decide) (fun c_12_35 => absurd c_12_35 (by decide +kernel)) (fun _ => ?_)
  refine lv_lload_n hx hb dX4_topSpread_15 rfl (lv_at hl 2 rfl) ?_
  refine lv_aload_n hx hb dX4_topSpread_16 rfl (lv_at hl 3 rfl) ?_
  refine va_get (D := D) (ci := 7) (v := .ref p5) (C := RX4) (T := TX4) (N := 14) hx hb hts iRX4 hown hK hP 0 rfl rfl 5 (by decide) (hts _ q43) (fun _ h9 => h9) rfl dX4_topSpread_17 ?_
  refine lv_iload hx hb dX4_topSpread_20 (lv_at hl 0 rfl) ?_
  refine va_aldA hx hb hK hP 1 3 rfl rfl (z_in 7 (by decide) (by decide)) dX4_topSpread_22 ?_
  rw [show va_rf ((fun k9 => if k9 < 9 then some (rt k9) else none) (7 : Int32).toNatClampNeg) = .ref (rt 7) from rfl]
  refine lv_iload_n hx hb dX4_topSpread_23 rfl (lv_at hl 4 rfl) ?_
  refine va_lald hx hb hK hP 9 1 rfl rfl (z_in 2 (by decide) (by decide)) dX4_topSpread_24 ?_
  refine lv_topl (fun y37 ey37 => ?_)
  obtain rfl : y37 = 0 := ey37.trans rfl
  refine va_mmax_long hx hb (by rw [hml]; exact hl.1.symm) hown (hts _ q101) (hts _ q102) (hts _ q73) (hts _ q103) (Nat.le_of_ble_eq_true rfl) (Nat.le_of_ble_eq_true rfl) (Nat.le_of_ble_eq_true rfl) (Nat.le_of_ble_eq_true rfl) dX4_topSpread_25 ?_
  refine lv_topl (fun y38 ey38 => ?_)
  obtain rfl : y38 = 0 := ey38.trans (by decide +kernel)
  refine lv_lstore_n (lv' := [(2, .long 0), (6, .int 7), (4, .long 0), (0, .ref h0), (1, .int 2)]) hx hb dX4_topSpread_28 rfl hl (by decide) rfl (fun ls hl => ?_)
  refine lv_lload hx hb dX4_topSpread_29 (lv_at hl 2 rfl) ?_
  refine lv_aload_n hx hb dX4_topSpread_31 rfl (lv_at hl 3 rfl) ?_
  refine va_get (D := D) (ci := 7) (v := .ref p5) (C := RX4) (T := TX4) (N := 14) hx hb hts iRX4 hown hK hP 0 rfl rfl 5 (by decide) (hts _ q43) (fun _ h9 => h9) rfl dX4_topSpread_32 ?_
  refine lv_iload hx hb dX4_topSpread_35 (lv_at hl 1 rfl) ?_
  refine va_aldA hx hb hK hP 1 3 rfl rfl (z_in 7 (by decide) (by decide)) dX4_topSpread_37 ?_
  rw [show va_rf ((fun k9 => if k9 < 9 then some (rt k9) else none) (7 : Int32).toNatClampNeg) = .ref (rt 7) from rfl]
  refine lv_iload_n hx hb dX4_topSpread_38 rfl (lv_at hl 4 rfl) ?_
  refine va_lald hx hb hK hP 9 1 rfl rfl (z_in 2 (by decide) (by decide)) dX4_topSpread_39 ?_
  refine lv_topl (fun y39 ey39 => ?_)
  obtain rfl : y39 = 0 := ey39.trans rfl
  refine va_mmin_long hx hb (by rw [hml]; exact hl.1.symm) hown (hts _ q116) (hts _ q117) (hts _ q73) (hts _ q118) (Nat.le_of_ble_eq_true rfl) (Nat.le_of_ble_eq_true rfl) (Nat.le_of_ble_eq_true rfl) (Nat.le_of_ble_eq_true rfl) dX4_topSpread_40 ?_
  refine lv_topl (fun y40 ey40 => ?_)
  obtain rfl : y40 = 0 := ey40.trans (by decide +kernel)
  refine lv_lstore (lv' := [(4, .long 0), (2, .long 0), (6, .int 7), (0, .ref h0), (1, .int 2)]) hx hb dX4_topSpread_43 hl (by decide) rfl (fun ls hl => ?_)
  refine lv_iinc (v := 8) (lv' := [(6, .int 8), (4, .long 0), (2, .long 0), (0, .ref h0), (1, .int 2)]) hx hb dX4_topSpread_45 hl (k := 2) rfl (by decide) (by decide) rfl (fun ls hl => ?_)
  refine lv_goto (tgt := 8) hx hb dX4_topSpread_48 (by decide) ?_
  refine lv_iload hx hb dX4_topSpread_8 (lv_at hl 0 rfl) ?_
  refine lv_bipush (v := 9) hx hb dX4_topSpread_10 (by decide) ?_
  refine lv_icmp_ge (tgt := 51) hx hb dX4_topSpread_12 (by decide) (fun c_12_40 => absurd c_12_40 (by decide +kernel)) (fun _ => ?_)
  refine lv_lload_n hx hb dX4_topSpread_15 rfl (lv_at hl 2 rfl) ?_
  refine lv_aload_n hx hb dX4_topSpread_16 rfl (lv_at hl 3 rfl) ?_
  refine va_get (D := D) (ci := 7) (v := .ref p5) (C := RX4) (T := TX4) (N := 14) hx hb hts iRX4 hown hK hP 0 rfl rfl 5 (by decide) (hts _ q43) (fun _ h9 => h9) rfl dX4_topSpread_17 ?_
  refine lv_iload hx hb dX4_topSpread_20 (lv_at hl 0 rfl) ?_
  refine va_aldA hx hb hK hP 1 3 rfl rfl (z_in 8 (by decide) (by decide)) dX4_topSpread_22 ?_
  rw [show va_rf ((fun k9 => if k9 < 9 then some (rt k9) else none) (8 : Int32).toNatClampNeg) = .ref (rt 8) from rfl]
  refine lv_iload_n hx hb dX4_topSpread_23 rfl (lv_at hl 4 rfl) ?_
  refine va_lald hx hb hK hP 10 1 rfl rfl (z_in 2 (by decide) (by decide)) dX4_topSpread_24 ?_
  refine lv_topl (fun y42 ey42 => ?_)
  obtain rfl : y42 = 0 := ey42.trans rfl
  refine va_mmax_long hx hb (by rw [hml]; exact hl.1.symm) hown (hts _ q101) (hts _ q102) (hts _ q73) (hts _ q103) (Nat.le_of_ble_eq_true rfl) (Nat.le_of_ble_eq_true rfl) (Nat.le_of_ble_eq_true rfl) (Nat.le_of_ble_eq_true rfl) dX4_topSpread_25 ?_
  refine lv_topl (fun y43 ey43 => ?_)
  obtain rfl : y43 = 0 := ey43.trans (by decide +kernel)
  refine lv_lstore_n (lv' := [(2, .long 0), (6, .int 8), (4, .long 0), (0, .ref h0), (1, .int 2)]) hx hb dX4_topSpread_28 rfl hl (by decide) rfl (fun ls hl => ?_)
  refine lv_lload hx hb dX4_topSpread_29 (lv_at hl 2 rfl) ?_
  refine lv_aload_n hx hb dX4_topSpread_31 rfl (lv_at hl 3 rfl) ?_
  refine va_get (D := D) (ci := 7) (v := .ref p5) (C := RX4) (T := TX4) (N := 14) hx hb hts iRX4 hown hK hP 0 rfl rfl 5 (by decide) (hts _ q43) (fun _ h9 => h9) rfl dX4_topSpread_32 ?_
  refine lv_iload hx hb dX4_topSpread_35 (lv_at hl 1 rfl) ?_
  refine va_aldA hx hb hK hP 1 3 rfl rfl (z_in 8 (by decide) (by decide)) dX4_topSpread_37 ?_
  rw [show va_rf ((fun k9 => if k9 < 9 then some (rt k9) else none) (8 : Int32).toNatClampNeg) = .ref (rt 8) from rfl]
  refine lv_iload_n hx hb dX4_topSpread_38 rfl (lv_at hl 4 rfl) ?_
  refine va_lald hx hb hK hP 10 1 rfl rfl (z_in 2 (by decide) (by decide)) dX4_topSpread_39 ?_
  refine lv_topl (fun y44 ey44 => ?_)
  obtain rfl : y44 = 0 := ey44.trans rfl
  refine va_mmin_long hx hb (by rw [hml]; exact hl.1.symm) hown (hts _ q116) (hts _ q117) (hts _ q73) (hts _ q118) (Nat.le_of_ble_eq_true rfl) (Nat.le_of_ble_eq_true rfl) (Nat.le_of_ble_eq_true rfl) (Nat.le_of_ble_eq_true rfl) dX4_topSpread_40 ?_
  refine lv_topl (fun y45 ey45 => ?_)
  obtain rfl : y45 = 0 := ey45.trans (by decide +kernel)
  refine lv_lstore (lv' := [(4, .long 0), (2, .long 0), (6, .int 8), (0, .ref h0), (1, .int 2)]) hx hb dX4_topSpread_43 hl (by decide) rfl (fun ls hl => ?_)
  refine lv_iinc (v := 9) (lv' := [(6, .int 9), (4, .long 0), (2, .long 0), (0, .ref h0), (1, .int 2)]) hx hb dX4_topSpread_45 hl (k := 2) rfl (by decide) (by decide) rfl (fun ls hl => ?_)
  refine lv_goto (tgt := 8) hx hb dX4_topSpread_48 (by decide) ?_
  refine lv_iload hx hb dX4_topSpread_8 (lv_at hl 0 rfl) ?_
  refine lv_bipush (v := 9) hx hb dX4_topSpread_10 (by decide) ?_
  refine lv_icmp_ge (tgt := 51) hx hb dX4_topSpread_12 (by decide) (fun _ => ?_) (fun c_12_45 => absurd (by decide +kernel) c_12_45)
  refine lv_lload_n hx hb dX4_topSpread_51 rfl (lv_at hl 2 rfl) ?_
  refine lv_lload hx hb dX4_topSpread_52 (lv_at hl 1 rfl) ?_
  refine lv_lsub hx hb dX4_topSpread_54 ?_
  refine lv_topl (fun y47 ey47 => ?_)
  obtain rfl : y47 = 0 := ey47.trans (by decide +kernel)
  have hP9 := hP.sub (ws' := [(h0, .inr (7, [.ref vC, .ref p1, .ref p2, .ref p3, .ref p4, .ref p5, .ref p6, .ref p7, .int e1, .long e2, .ref p8, .int x1, .int x2, .long x3]))]) [0] rfl
  have hD9 := hD.sub (ws' := [(h0, .inr (7, [.ref vC, .ref p1, .ref p2, .ref p3, .ref p4, .ref p5, .ref p6, .ref p7, .int e1, .long e2, .ref p8, .int x1, .int x2, .long x3]))]) [0] (by decide) rfl
  refine W.widen (k := 0) (n := 0) (Nat.le_of_ble_eq_true rfl) (Nat.le_of_ble_eq_true rfl) ?_
  rw [hQe]
  exact W.lret (v := 0) hx hb hr (fun t ht hW => ⟨⟨0, (), rfl, rfl, ⟨by rw [ht]; exact hP9, hD9⟩⟩, hS.F ht⟩) hS.2.2 dX4_topSpread_55
set_option maxHeartbeats 4000000 in
set_option maxRecDepth 100000 in
/-- no stations: they agree -/
theorem k_agreesWith (l : Launch) (D : va_G) (cy : Nat → ClassId) (h0 : Nat) (vC : Nat) (p1 : Nat) (p2 : Nat) (p3 : Nat) (p4 : Nat) (p5 : Nat) (p6 : Nat) (p7 : Nat) (p8 : Nat) (e1 : Int32) (e2 : Int64) (x1 : Int32) (x2 : Int32) (x3 : Int64) (sS : Nat) (sJ : Nat) (w1 : Nat) (sz : Nat)  : Met l yX4_agreesWith (wz yX4_agreesWith cX4_agreesWith 8 (some .boolean)) ({ frames := 0, cells := 0, slots := 0, locals := 0 } : Room) (va_Pc [.ref h0, .ref w1] (zPre vwCl D cy [(h0, .inr (7, [.ref vC, .ref p1, .ref p2, .ref p3, .ref p4, .ref p5, .ref p6, .ref p7, .int e1, .long e2, .ref p8, .int x1, .int x2, .long x3])), (vC, .inr (3, [.ref sS, .ref sJ, .int 0, .int 0]))] sz)) (va_Qi (fun (r : Int32) (_ : Unit) => r = 1) (fun (u : Unit) t => zPost vwCl D (va_A [(h0, .inr (7, [.ref vC, .ref p1, .ref p2, .ref p3, .ref p4, .ref p5, .ref p6, .ref p7, .int e1, .long e2, .ref p8, .int x1, .int x2, .long x3])), (vC, .inr (3, [.ref sS, .ref sJ, .int 0, .int 0]))] sz) [(h0, .inr (7, [.ref vC, .ref p1, .ref p2, .ref p3, .ref p4, .ref p5, .ref p6, .ref p7, .int e1, .long e2, .ref p8, .int x1, .int x2, .long x3])), (vC, .inr (3, [.ref sS, .ref sJ, .int 0, .int 0]))] t) (va_A [(h0, .inr (7, [.ref vC, .ref p1, .ref p2, .ref p3, .ref p4, .ref p5, .ref p6, .ref p7, .int e1, .long e2, .ref p8, .int x1, .int x2, .long x3])), (vC, .inr (3, [.ref sS, .ref sJ, .int 0, .int 0]))] sz)) 0 0 (va_A [(h0, .inr (7, [.ref vC, .ref p1, .ref p2, .ref p3, .ref p4, .ref p5, .ref p6, .ref p7, .int e1, .long e2, .ref p8, .int x1, .int x2, .long x3])), (vC, .inr (3, [.ref sS, .ref sJ, .int 0, .int 0]))] sz) := by
  refine Met.ofW (cc := cX4_agreesWith) (maxL := 8) (ret := (some .boolean)) (by decide) rfl ?_
  intro p e s m args below meth c s₁ B hml hv
  obtain ⟨rfl, hsz, hP, hK, hD0, hX, hY⟩ := hv
  have hx := B.exec
  have hb := B.bytes
  have hr := B.returns
  have hts0 := atoms_spec (ws := wz yX4_agreesWith cX4_agreesWith 8 (some .boolean)) B.pre
  have hts : ∀ w ∈ wAll, w.before _ s = true := fun w h => hts0 w (List.mem_cons_of_mem _ h)
  have hown : s.vm.findClass RX4 = some m.cls := findClass_of_methodNamed B.named
  have hlocks := B.notSynchronized
  subst hsz
  have hD := hD0.self (sz := s.heap.size)
  generalize hAe : va_A [(h0, .inr (7, [.ref vC, .ref p1, .ref p2, .ref p3, .ref p4, .ref p5, .ref p6, .ref p7, .int e1, .long e2, .ref p8, .int x1, .int x2, .long x3])), (vC, .inr (3, [.ref sS, .ref sJ, .int 0, .int 0]))] s.heap.size = A at hD hY ⊢
  have hA : ∀ q : Nat, s.heap.size ≤ q → A q := fun q h => by rw [← hAe]; exact Or.inr h
  have hS : va_S A s.heap s.heap [] := va_S.rf
  have hP : va_P D vwCl [(h0, .inr (7, [.ref vC, .ref p1, .ref p2, .ref p3, .ref p4, .ref p5, .ref p6, .ref p7, .int e1, .long e2, .ref p8, .int x1, .int x2, .long x3])), (vC, .inr (3, [.ref sS, .ref sJ, .int 0, .int 0]))] s.heap := hP
  have hl := lv_entry ([.ref h0, .ref w1]) (n := 8) (Nat.le_of_ble_eq_true rfl)
  rw [lg_entry_eq]
  generalize (lg_sl ([.ref h0, .ref w1]) ++ List.replicate (8 - (lg_sl ([.ref h0, .ref w1])).length) Slot.unset).toArray = ls at hl ⊢
  have hl : lv_has ls 8 [(0, .ref h0), (1, .ref w1)] := hl
  refine z_anyQ (fun Q hQe => ?_)
  refine lv_iconst (v := 0) hx hb dX4_agreesWith_0 (by decide) ?_
  refine lv_istore_n (lv' := [(2, .int 0), (0, .ref h0), (1, .ref w1)]) hx hb dX4_agreesWith_1 rfl hl (by decide) rfl (fun ls hl => ?_)
  refine lv_iload_n hx hb dX4_agreesWith_2 rfl (lv_at hl 0 rfl) ?_
  refine lv_aload_n hx hb dX4_agreesWith_3 rfl (lv_at hl 1 rfl) ?_
  refine va_get (D := D) (ci := 7) (v := .ref vC) (C := RX4) (T := TX4) (N := 14) hx hb hts iRX4 hown hK hP 0 rfl rfl 0 (by decide) (hts _ q35) (fun _ h9 => h9) rfl dX4_agreesWith_4 ?_
  refine va_get (D := D) (ci := 3) (v := .int 0) (C := RX0) (T := TX0) (N := 4) hx hb hts iRX0 hown hK hP 1 rfl rfl 2 (by decide) (hts _ q82) (fun _ h9 => h9) rfl dX4_agreesWith_7 ?_
  refine lv_icmp_ge (tgt := 90) hx hb dX4_agreesWith_10 (by decide) (fun _ => ?_) (fun c_10_0 => absurd (by decide +kernel) c_10_0)
  refine lv_iconst (v := 1) hx hb dX4_agreesWith_90 (by decide) ?_
  have hP9 := hP.sub (ws' := [(h0, .inr (7, [.ref vC, .ref p1, .ref p2, .ref p3, .ref p4, .ref p5, .ref p6, .ref p7, .int e1, .long e2, .ref p8, .int x1, .int x2, .long x3])), (vC, .inr (3, [.ref sS, .ref sJ, .int 0, .int 0]))]) [0, 1] rfl
  have hD9 := hD.sub (ws' := [(h0, .inr (7, [.ref vC, .ref p1, .ref p2, .ref p3, .ref p4, .ref p5, .ref p6, .ref p7, .int e1, .long e2, .ref p8, .int x1, .int x2, .long x3])), (vC, .inr (3, [.ref sS, .ref sJ, .int 0, .int 0]))]) [0, 1] (by decide) rfl
  refine W.widen (k := 0) (n := 0) (Nat.le_of_ble_eq_true rfl) (Nat.le_of_ble_eq_true rfl) ?_
  rw [hQe]
  exact W.zret (v := 1) hx hb hr rfl (fun t ht hW => ⟨⟨1, (), rfl, rfl, ⟨by rw [ht]; exact hP9, hD9⟩⟩, hS.F ht⟩) hS.2.2 dX4_agreesWith_91
set_option maxHeartbeats 4000000 in
set_option maxRecDepth 100000 in
/-- standFrom: it ends -/
theorem k_standFrom (l : Launch) (D : va_G) (cy : Nat → ClassId) (h0 : Nat) (l1 : Nat) (l2 : Nat) (f1 : Nat → Int32) (f2 : Nat → Int32) (k : Nat) (sz : Nat) (hk : k < 200) : Met l yX1_standFrom (wz yX1_standFrom cX1_standFrom 4 none) ({ frames := 1, cells := 0, slots := 0, locals := 17 } : Room) (va_Pc [.ref h0, .int (nI k)] (zPre vwCl D cy [(h0, .inr (4, [.ref l1, .ref l2])), (l1, .inl (cy 0, 200, .inl f1)), (l2, .inl (cy 0, 401, .inl f2))] sz)) (va_Qv (fun _ : Unit => True) (fun (u : Unit) t => zPost vwCl D (va_A [(h0, .inr (4, [.ref l1, .ref l2])), (l1, .inl (cy 0, 200, .inl f1)), (l2, .inl (cy 0, 401, .inl f2))] sz) [] t) (va_A [(h0, .inr (4, [.ref l1, .ref l2])), (l1, .inl (cy 0, 200, .inl f1)), (l2, .inl (cy 0, 401, .inl f2))] sz)) 0 0 (va_A [(h0, .inr (4, [.ref l1, .ref l2])), (l1, .inl (cy 0, 200, .inl f1)), (l2, .inl (cy 0, 401, .inl f2))] sz) := by
  refine Met.ofW (cc := cX1_standFrom) (maxL := 4) (ret := none) (by decide) rfl ?_
  intro p e s m args below meth c s₁ B hml hv
  obtain ⟨rfl, hsz, hP, hK, hD0, hX, hY⟩ := hv
  have hx := B.exec
  have hb := B.bytes
  have hr := B.returns
  have hts0 := atoms_spec (ws := wz yX1_standFrom cX1_standFrom 4 none) B.pre
  have hts : ∀ w ∈ wAll, w.before _ s = true := fun w h => hts0 w (List.mem_cons_of_mem _ h)
  have hown : s.vm.findClass RX1 = some m.cls := findClass_of_methodNamed B.named
  have hlocks := B.notSynchronized
  subst hsz
  have hD := hD0.self (sz := s.heap.size)
  generalize hAe : va_A [(h0, .inr (4, [.ref l1, .ref l2])), (l1, .inl (cy 0, 200, .inl f1)), (l2, .inl (cy 0, 401, .inl f2))] s.heap.size = A at hD hY ⊢
  have hA : ∀ q : Nat, s.heap.size ≤ q → A q := fun q h => by rw [← hAe]; exact Or.inr h
  have hS : va_S A s.heap s.heap [] := va_S.rf
  have hP : va_P D vwCl [(h0, .inr (4, [.ref l1, .ref l2])), (l1, .inl (cy 0, 200, .inl f1)), (l2, .inl (cy 0, 401, .inl f2))] s.heap := hP
  have hl := lv_entry ([.ref h0, .int (nI k)]) (n := 4) (Nat.le_of_ble_eq_true rfl)
  rw [lg_entry_eq]
  generalize (lg_sl ([.ref h0, .int (nI k)]) ++ List.replicate (4 - (lg_sl ([.ref h0, .int (nI k)])).length) Slot.unset).toArray = ls at hl ⊢
  have hl : lv_has ls 4 [(0, .ref h0), (1, .int (nI k))] := hl
  refine z_anyQ (fun Q hQe => ?_)
  refine lv_iload_n hx hb dX1_standFrom_0 rfl (lv_at hl 1 rfl) ?_
  refine lv_iconst (v := 0) hx hb dX1_standFrom_1 (by decide) ?_
  refine va_mmax hx hb (by rw [hml]; exact hl.1.symm) hown (hts _ q119) (hts _ q72) (hts _ q73) (hts _ q74) (Nat.le_of_ble_eq_true rfl) (Nat.le_of_ble_eq_true rfl) (Nat.le_of_ble_eq_true rfl) (Nat.le_of_ble_eq_true rfl) dX1_standFrom_2 ?_
  refine lv_topi (fun y1 ey1 => ?_)
  obtain rfl : y1 = (nI k) := ey1.trans (if_neg (nI_pos (by omega)))
  refine lv_istore_n (lv' := [(2, .int (nI k)), (0, .ref h0), (1, .int (nI k))]) hx hb dX1_standFrom_5 rfl hl (by decide) rfl (fun ls hl => ?_)
  have lp6_2 : ∀ (n i : Nat), i ≤ 401 → 401 + 1 ≤ i + n → ∀ (g : Nat → Int32) (H : Heap) (locs : List Loc), va_P D vwCl [(h0, .inr (4, [.ref l1, .ref l2])), (l1, .inl (cy 0, 200, .inl f1)), (l2, .inl (cy 0, 401, .inl g))] H → va_D A [(h0, .inr (4, [.ref l1, .ref l2])), (l1, .inl (cy 0, 200, .inl f1)), (l2, .inl (cy 0, 401, .inl g))] → va_S A s.heap H locs → ∀ ls, lv_has ls 4 [(0, .ref h0), (1, .int (nI k)), (2, .int (nI i))] → W p l e (headSpec (wz yX1_standFrom cX1_standFrom 4 none) ({ frames := 1, cells := 0, slots := 0, locals := 17 } : Room)).room s m ([.ref h0, .int (nI k)] : List Value).toArray below meth c H locs 0 0 Q (F0 m 6 ls []) := by
    intro n
    induction n with
    | zero => intro i h1 h2; exact absurd h2 (by omega)
    | succ n ih6 =>
      intro i hii hni g H locs hP hD hS ls hl
      refine lv_iload_n hx hb dX1_standFrom_6 rfl (lv_at hl 2 rfl) ?_
      refine lv_sipush (v := 400) hx hb dX1_standFrom_7 (by decide) ?_
      refine lv_icmp_gt (tgt := 65) hx hb dX1_standFrom_10 (by decide) (fun c_10_2 => ?_) (fun c_10_2 => ?_)
      · skip
        have hE : i = 401 := z_gt (M := 400) (by decide) hii (by decide) c_10_2
        subst hE
        have hl : lv_has ls 4 [(0, .ref h0), (1, .int (nI k)), (2, .int 401)] := hl
        have hP9 := hP.sub (ws' := []) [] rfl
        have hD9 := hD.sub (ws' := []) [] (by decide) rfl
        refine W.widen (k := 0) (n := 0) (Nat.le_of_ble_eq_true rfl) (Nat.le_of_ble_eq_true rfl) ?_
        rw [hQe]
        exact W.vret hx hb hr (fun t ht hW => ⟨⟨(), rfl, trivial, ⟨by rw [ht]; exact hP9, hD9⟩⟩, hS.F ht⟩) hS.2.2 dX1_standFrom_65
      · skip
        have hlti : i < 401 := Nat.lt_succ_of_le (z_le (M := 400) (by decide) hii (by decide) c_10_2)
        refine lv_iload_n hx hb dX1_standFrom_13 rfl (lv_at hl 2 rfl) ?_
        refine lv_if_le (tgt := 28) hx hb dX1_standFrom_14 (by decide) (fun c_14_3 => ?_) (fun c_14_3 => ?_)
        · skip
          refine lv_iconst (v := 0) hx hb dX1_standFrom_28 (by decide) ?_
          refine lv_istore_n (lv' := [(3, .int 0), (0, .ref h0), (1, .int (nI k)), (2, .int (nI i))]) hx hb dX1_standFrom_29 rfl hl (by decide) rfl (fun ls hl => ?_)
          refine lv_aload_n hx hb dX1_standFrom_30 rfl (lv_at hl 1 rfl) ?_
          refine va_get (D := D) (ci := 4) (v := .ref l2) (C := RX1) (T := TX1) (N := 2) hx hb hts iRX1 hown hK hP 0 rfl rfl 1 (by decide) (hts _ q18) (fun _ h9 => h9) rfl dX1_standFrom_31 ?_
          refine lv_iload_n hx hb dX1_standFrom_34 rfl (lv_at hl 3 rfl) ?_
          refine lv_iload_n hx hb dX1_standFrom_35 rfl (lv_at hl 0 rfl) ?_
          refine lv_iconst (v := 3) hx hb dX1_standFrom_36 (by decide) ?_
          refine lv_imul hx hb dX1_standFrom_37 ?_
          refine lv_topi (fun y5 ey5 => ?_)
          refine lv_iconst (v := 4) hx hb dX1_standFrom_38 (by decide) ?_
          refine lv_idiv hx hb dX1_standFrom_39 (by decide) ?_
          refine lv_topi (fun y6 ey6 => ?_)
          refine lv_iload_n hx hb dX1_standFrom_40 rfl (lv_at hl 3 rfl) ?_
          refine lv_sipush (v := 199) hx hb dX1_standFrom_41 (by decide) ?_
          refine lv_icmp_gt (tgt := 56) hx hb dX1_standFrom_44 (by decide) (fun c_44_6 => ?_) (fun c_44_6 => ?_)
          · skip
            refine lv_iconst (v := 0) hx hb dX1_standFrom_56 (by decide) ?_
            refine lv_iadd hx hb dX1_standFrom_57 ?_
            refine lv_topi (fun y8 ey8 => ?_)
            refine va_iast hx hb hK hP hD hS 2 0 rfl rfl (vp_in_nI (by omega) (by decide)) dX1_standFrom_58 (fun H locs hP hD hS => ?_)
            have hP : va_P D vwCl [(h0, .inr (4, [.ref l1, .ref l2])), (l1, .inl (cy 0, 200, .inl f1)), (l2, .inl (cy 0, 401, .inl (upd g (nI i).toNatClampNeg y8)))] H := hP
            have hD : va_D A [(h0, .inr (4, [.ref l1, .ref l2])), (l1, .inl (cy 0, 200, .inl f1)), (l2, .inl (cy 0, 401, .inl (upd g (nI i).toNatClampNeg y8)))] := hD
            refine lv_iinc (v := (nI (i + 1))) (lv' := [(2, .int (nI (i + 1))), (3, .int 0), (0, .ref h0), (1, .int (nI k))]) hx hb dX1_standFrom_59 hl (k := 3) rfl (z_n1 i) (by decide) rfl (fun ls hl => ?_)
            refine lv_goto (tgt := 6) hx hb dX1_standFrom_62 (by decide) ?_
            exact ih6 (i + 1) (by omega) (by omega) _ _ _ (hP.sub [0, 1, 2] rfl) (hD.sub [0, 1, 2] (by decide) rfl) hS ls (lv_sub hl [2, 3, 0] rfl)
          · skip
            have i2 : i ≤ 199 := z_le2 401 (by decide) (by omega) (by decide) c_44_6
            refine lv_aload_n hx hb dX1_standFrom_47 rfl (lv_at hl 1 rfl) ?_
            refine va_get (D := D) (ci := 4) (v := .ref l1) (C := RX1) (T := TX1) (N := 2) hx hb hts iRX1 hown hK hP 0 rfl rfl 0 (by decide) (hts _ q17) (fun _ h9 => h9) rfl dX1_standFrom_48 ?_
            refine lv_iload_n hx hb dX1_standFrom_51 rfl (lv_at hl 3 rfl) ?_
            refine va_iald hx hb hK hP 1 0 rfl rfl (vp_in_nI (by omega) (by decide)) dX1_standFrom_52 ?_
            refine lv_topi (fun y9 ey9 => ?_)
            refine lv_goto (tgt := 57) hx hb dX1_standFrom_53 (by decide) ?_
            refine lv_iadd hx hb dX1_standFrom_57 ?_
            refine lv_topi (fun y10 ey10 => ?_)
            refine va_iast hx hb hK hP hD hS 2 0 rfl rfl (vp_in_nI (by omega) (by decide)) dX1_standFrom_58 (fun H locs hP hD hS => ?_)
            have hP : va_P D vwCl [(h0, .inr (4, [.ref l1, .ref l2])), (l1, .inl (cy 0, 200, .inl f1)), (l2, .inl (cy 0, 401, .inl (upd g (nI i).toNatClampNeg y10)))] H := hP
            have hD : va_D A [(h0, .inr (4, [.ref l1, .ref l2])), (l1, .inl (cy 0, 200, .inl f1)), (l2, .inl (cy 0, 401, .inl (upd g (nI i).toNatClampNeg y10)))] := hD
            refine lv_iinc (v := (nI (i + 1))) (lv' := [(2, .int (nI (i + 1))), (3, .int 0), (0, .ref h0), (1, .int (nI k))]) hx hb dX1_standFrom_59 hl (k := 3) rfl (z_n1 i) (by decide) rfl (fun ls hl => ?_)
            refine lv_goto (tgt := 6) hx hb dX1_standFrom_62 (by decide) ?_
            exact ih6 (i + 1) (by omega) (by omega) _ _ _ (hP.sub [0, 1, 2] rfl) (hD.sub [0, 1, 2] (by decide) rfl) hS ls (lv_sub hl [2, 3, 0] rfl)
        · skip
          have i0 : 0 < i := z_pos c_14_3
          refine lv_aload_n hx hb dX1_standFrom_17 rfl (lv_at hl 0 rfl) ?_
          refine va_get (D := D) (ci := 4) (v := .ref l2) (C := RX1) (T := TX1) (N := 2) hx hb hts iRX1 hown hK hP 0 rfl rfl 1 (by decide) (hts _ q18) (fun _ h9 => h9) rfl dX1_standFrom_18 ?_
          refine lv_iload_n hx hb dX1_standFrom_21 rfl (lv_at hl 2 rfl) ?_
          refine lv_iconst (v := 1) hx hb dX1_standFrom_22 (by decide) ?_
          refine lv_isub hx hb dX1_standFrom_23 ?_
          refine lv_topi (fun y11 ey11 => ?_)
          obtain rfl : y11 = (nI (i - 1)) := ey11.trans (pk_sub (b := 1) (by omega))
          refine va_iald hx hb hK hP 2 0 rfl rfl (vp_in_nI (by omega) (by decide)) dX1_standFrom_24 ?_
          refine lv_topi (fun y12 ey12 => ?_)
          refine lv_goto (tgt := 29) hx hb dX1_standFrom_25 (by decide) ?_
          refine lv_istore_n (lv' := [(3, .int y12), (0, .ref h0), (1, .int (nI k)), (2, .int (nI i))]) hx hb dX1_standFrom_29 rfl hl (by decide) rfl (fun ls hl => ?_)
          refine lv_aload_n hx hb dX1_standFrom_30 rfl (lv_at hl 1 rfl) ?_
          refine va_get (D := D) (ci := 4) (v := .ref l2) (C := RX1) (T := TX1) (N := 2) hx hb hts iRX1 hown hK hP 0 rfl rfl 1 (by decide) (hts _ q18) (fun _ h9 => h9) rfl dX1_standFrom_31 ?_
          refine lv_iload_n hx hb dX1_standFrom_34 rfl (lv_at hl 3 rfl) ?_
          refine lv_iload_n hx hb dX1_standFrom_35 rfl (lv_at hl 0 rfl) ?_
          refine lv_iconst (v := 3) hx hb dX1_standFrom_36 (by decide) ?_
          refine lv_imul hx hb dX1_standFrom_37 ?_
          refine lv_topi (fun y13 ey13 => ?_)
          refine lv_iconst (v := 4) hx hb dX1_standFrom_38 (by decide) ?_
          refine lv_idiv hx hb dX1_standFrom_39 (by decide) ?_
          refine lv_topi (fun y14 ey14 => ?_)
          refine lv_iload_n hx hb dX1_standFrom_40 rfl (lv_at hl 3 rfl) ?_
          refine lv_sipush (v := 199) hx hb dX1_standFrom_41 (by decide) ?_
          refine lv_icmp_gt (tgt := 56) hx hb dX1_standFrom_44 (by decide) (fun c_44_14 => ?_) (fun c_44_14 => ?_)
          · skip
            refine lv_iconst (v := 0) hx hb dX1_standFrom_56 (by decide) ?_
            refine lv_iadd hx hb dX1_standFrom_57 ?_
            refine lv_topi (fun y16 ey16 => ?_)
            refine va_iast hx hb hK hP hD hS 2 0 rfl rfl (vp_in_nI (by omega) (by decide)) dX1_standFrom_58 (fun H locs hP hD hS => ?_)
            have hP : va_P D vwCl [(h0, .inr (4, [.ref l1, .ref l2])), (l1, .inl (cy 0, 200, .inl f1)), (l2, .inl (cy 0, 401, .inl (upd g (nI i).toNatClampNeg y16)))] H := hP
            have hD : va_D A [(h0, .inr (4, [.ref l1, .ref l2])), (l1, .inl (cy 0, 200, .inl f1)), (l2, .inl (cy 0, 401, .inl (upd g (nI i).toNatClampNeg y16)))] := hD
            refine lv_iinc (v := (nI (i + 1))) (lv' := [(2, .int (nI (i + 1))), (3, .int y12), (0, .ref h0), (1, .int (nI k))]) hx hb dX1_standFrom_59 hl (k := 3) rfl (z_n1 i) (by decide) rfl (fun ls hl => ?_)
            refine lv_goto (tgt := 6) hx hb dX1_standFrom_62 (by decide) ?_
            exact ih6 (i + 1) (by omega) (by omega) _ _ _ (hP.sub [0, 1, 2] rfl) (hD.sub [0, 1, 2] (by decide) rfl) hS ls (lv_sub hl [2, 3, 0] rfl)
          · skip
            have i2 : i ≤ 199 := z_le2 401 (by decide) (by omega) (by decide) c_44_14
            refine lv_aload_n hx hb dX1_standFrom_47 rfl (lv_at hl 1 rfl) ?_
            refine va_get (D := D) (ci := 4) (v := .ref l1) (C := RX1) (T := TX1) (N := 2) hx hb hts iRX1 hown hK hP 0 rfl rfl 0 (by decide) (hts _ q17) (fun _ h9 => h9) rfl dX1_standFrom_48 ?_
            refine lv_iload_n hx hb dX1_standFrom_51 rfl (lv_at hl 3 rfl) ?_
            refine va_iald hx hb hK hP 1 0 rfl rfl (vp_in_nI (by omega) (by decide)) dX1_standFrom_52 ?_
            refine lv_topi (fun y17 ey17 => ?_)
            refine lv_goto (tgt := 57) hx hb dX1_standFrom_53 (by decide) ?_
            refine lv_iadd hx hb dX1_standFrom_57 ?_
            refine lv_topi (fun y18 ey18 => ?_)
            refine va_iast hx hb hK hP hD hS 2 0 rfl rfl (vp_in_nI (by omega) (by decide)) dX1_standFrom_58 (fun H locs hP hD hS => ?_)
            have hP : va_P D vwCl [(h0, .inr (4, [.ref l1, .ref l2])), (l1, .inl (cy 0, 200, .inl f1)), (l2, .inl (cy 0, 401, .inl (upd g (nI i).toNatClampNeg y18)))] H := hP
            have hD : va_D A [(h0, .inr (4, [.ref l1, .ref l2])), (l1, .inl (cy 0, 200, .inl f1)), (l2, .inl (cy 0, 401, .inl (upd g (nI i).toNatClampNeg y18)))] := hD
            refine lv_iinc (v := (nI (i + 1))) (lv' := [(2, .int (nI (i + 1))), (3, .int y12), (0, .ref h0), (1, .int (nI k))]) hx hb dX1_standFrom_59 hl (k := 3) rfl (z_n1 i) (by decide) rfl (fun ls hl => ?_)
            refine lv_goto (tgt := 6) hx hb dX1_standFrom_62 (by decide) ?_
            exact ih6 (i + 1) (by omega) (by omega) _ _ _ (hP.sub [0, 1, 2] rfl) (hD.sub [0, 1, 2] (by decide) rfl) hS ls (lv_sub hl [2, 3, 0] rfl)
  exact lp6_2 (401 + 1) k (by omega) (by omega) _ _ _ hP hD hS ls (lv_sub hl [1, 2, 0] rfl)
