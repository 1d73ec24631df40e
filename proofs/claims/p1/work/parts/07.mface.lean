abbrev cX14_allFaults : ByteArray := prog_12_method_37_code
def yX14_allFaults : MethodName := ⟨RX14, "allFaults", "(I)J"⟩
abbrev cX14_allSteps : ByteArray := prog_12_method_72_code
def yX14_allSteps : MethodName := ⟨RX14, "allSteps", "()J"⟩
abbrev cX14_blunder : ByteArray := prog_12_method_38_code
def yX14_blunder : MethodName := ⟨RX14, "blunder", "(I)I"⟩
abbrev cX14_bottom : ByteArray := prog_12_method_33_code
def yX14_bottom : MethodName := ⟨RX14, "bottom", "(III)J"⟩
abbrev cX14_conduit : ByteArray := prog_12_method_42_code
def yX14_conduit : MethodName := ⟨RX14, "conduit", "(IIII)I"⟩
abbrev cX14_depth : ByteArray := prog_12_method_40_code
def yX14_depth : MethodName := ⟨RX14, "depth", "(I)J"⟩
abbrev cX14_fault : ByteArray := prog_12_method_36_code
def yX14_fault : MethodName := ⟨RX14, "fault", "(II)J"⟩
abbrev cX14_go : ByteArray := prog_12_method_59_code
def yX14_go : MethodName := ⟨RX14, "go", "(II)I"⟩
abbrev cX14_hourOf : ByteArray := prog_12_method_62_code
def yX14_hourOf : MethodName := ⟨RX14, "hourOf", "(I)I"⟩
abbrev cX14_hungShare : ByteArray := prog_12_method_73_code
def yX14_hungShare : MethodName := ⟨RX14, "hungShare", "(I)F"⟩
abbrev cX14_isClosed : ByteArray := prog_12_method_53_code
def yX14_isClosed : MethodName := ⟨RX14, "isClosed", "(II)Z"⟩
abbrev cX14_isHung : ByteArray := prog_12_method_29_code
def yX14_isHung : MethodName := ⟨RX14, "isHung", "(II)Z"⟩
abbrev cX14_isSound : ByteArray := prog_12_method_75_code
def yX14_isSound : MethodName := ⟨RX14, "isSound", "(I)Z"⟩
abbrev cX14_join : ByteArray := prog_12_method_27_code
def yX14_join : MethodName := ⟨RX14, "join", "(III)Z"⟩
abbrev cX14_knows : ByteArray := prog_12_method_57_code
def yX14_knows : MethodName := ⟨RX14, "knows", "(II)Z"⟩
abbrev cX14_lastChance : ByteArray := prog_12_method_69_code
def yX14_lastChance : MethodName := ⟨RX14, "lastChance", "(I)I"⟩
abbrev cX14_length : ByteArray := prog_12_method_39_code
def yX14_length : MethodName := ⟨RX14, "length", "(I)I"⟩
abbrev cX14_loops : ByteArray := prog_12_method_35_code
def yX14_loops : MethodName := ⟨RX14, "loops", "(I)I"⟩
abbrev cX14_meanRain : ByteArray := prog_12_method_74_code
def yX14_meanRain : MethodName := ⟨RX14, "meanRain", "()D"⟩
abbrev cX14_oneWith : ByteArray := prog_12_method_28_code
def yX14_oneWith : MethodName := ⟨RX14, "oneWith", "(II)I"⟩
abbrev cX14_party : ByteArray := prog_12_method_55_code
def yX14_party : MethodName := ⟨RX14, "party", "(I)I"⟩
abbrev cX14_pause : ByteArray := prog_12_method_60_code
def yX14_pause : MethodName := ⟨RX14, "pause", "(II)I"⟩
abbrev cX14_peak : ByteArray := prog_12_method_47_code
def yX14_peak : MethodName := ⟨RX14, "peak", "(I)I"⟩
abbrev cX14_placeOf : ByteArray := prog_12_method_61_code
def yX14_placeOf : MethodName := ⟨RX14, "placeOf", "(I)I"⟩
abbrev cX14_plan : ByteArray := prog_12_method_67_code
def yX14_plan : MethodName := ⟨RX14, "plan", "(I)I"⟩
abbrev cX14_planAt : ByteArray := prog_12_method_68_code
def yX14_planAt : MethodName := ⟨RX14, "planAt", "(II)I"⟩
abbrev cX14_rain : ByteArray := prog_12_method_49_code
def yX14_rain : MethodName := ⟨RX14, "rain", "(II)I"⟩
abbrev cX14_setAside : ByteArray := prog_12_method_26_code
def yX14_setAside : MethodName := ⟨RX14, "setAside", "(II)Z"⟩
abbrev cX14_setHeight : ByteArray := prog_12_method_41_code
def yX14_setHeight : MethodName := ⟨RX14, "setHeight", "(II)I"⟩
abbrev cX14_shot : ByteArray := prog_12_method_25_code
def yX14_shot : MethodName := ⟨RX14, "shot", "(IIIIIIII)I"⟩
abbrev cX14_shots : ByteArray := prog_12_method_71_code
def yX14_shots : MethodName := ⟨RX14, "shots", "()I"⟩
abbrev cX14_station : ByteArray := prog_12_method_24_code
def yX14_station : MethodName := ⟨RX14, "station", "()I"⟩
abbrev cX14_stations : ByteArray := prog_12_method_70_code
def yX14_stations : MethodName := ⟨RX14, "stations", "()I"⟩
abbrev cX14_sump : ByteArray := prog_12_method_51_code
def yX14_sump : MethodName := ⟨RX14, "sump", "(II)I"⟩
abbrev cX14_tell : ByteArray := prog_12_method_56_code
def yX14_tell : MethodName := ⟨RX14, "tell", "(II)I"⟩
abbrev cX14_top : ByteArray := prog_12_method_32_code
def yX14_top : MethodName := ⟨RX14, "top", "(III)J"⟩
abbrev cX14_trace : ByteArray := prog_12_method_44_code
def yX14_trace : MethodName := ⟨RX14, "trace", "(II)I"⟩
abbrev cX14_traced : ByteArray := prog_12_method_46_code
def yX14_traced : MethodName := ⟨RX14, "traced", "(II)I"⟩
abbrev cX14_water : ByteArray := prog_12_method_50_code
def yX14_water : MethodName := ⟨RX14, "water", "(I)I"⟩
theorem vX14_allSquares : yX14_allSquares.cls = RX14 ∧ yX14_allSquares.cls ≠ "java/lang/invoke/MethodHandle" ∧ yX14_allSquares.cls ≠ "java/lang/invoke/VarHandle" ∧ (parseMethodDescriptor yX14_allSquares.desc).map (fun d => d.parameters.length) = some 0 := by decide +kernel
theorem vX14_answer : yX14_answer.cls = RX14 ∧ yX14_answer.cls ≠ "java/lang/invoke/MethodHandle" ∧ yX14_answer.cls ≠ "java/lang/invoke/VarHandle" ∧ (parseMethodDescriptor yX14_answer.desc).map (fun d => d.parameters.length) = some 1 := by decide +kernel
theorem vX14_fails : yX14_fails.cls = RX14 ∧ yX14_fails.cls ≠ "java/lang/invoke/MethodHandle" ∧ yX14_fails.cls ≠ "java/lang/invoke/VarHandle" ∧ (parseMethodDescriptor yX14_fails.desc).map (fun d => d.parameters.length) = some 1 := by decide +kernel
theorem vX14_hasPlan : yX14_hasPlan.cls = RX14 ∧ yX14_hasPlan.cls ≠ "java/lang/invoke/MethodHandle" ∧ yX14_hasPlan.cls ≠ "java/lang/invoke/VarHandle" ∧ (parseMethodDescriptor yX14_hasPlan.desc).map (fun d => d.parameters.length) = some 2 := by decide +kernel
theorem vX14_isDay : yX14_isDay.cls = RX14 ∧ yX14_isDay.cls ≠ "java/lang/invoke/MethodHandle" ∧ yX14_isDay.cls ≠ "java/lang/invoke/VarHandle" ∧ (parseMethodDescriptor yX14_isDay.desc).map (fun d => d.parameters.length) = some 1 := by decide +kernel
theorem vX14_isPlace : yX14_isPlace.cls = RX14 ∧ yX14_isPlace.cls ≠ "java/lang/invoke/MethodHandle" ∧ yX14_isPlace.cls ≠ "java/lang/invoke/VarHandle" ∧ (parseMethodDescriptor yX14_isPlace.desc).map (fun d => d.parameters.length) = some 3 := by decide +kernel
theorem vX14_isShot : yX14_isShot.cls = RX14 ∧ yX14_isShot.cls ≠ "java/lang/invoke/MethodHandle" ∧ yX14_isShot.cls ≠ "java/lang/invoke/VarHandle" ∧ (parseMethodDescriptor yX14_isShot.desc).map (fun d => d.parameters.length) = some 1 := by decide +kernel
theorem vX14_places : yX14_places.cls = RX14 ∧ yX14_places.cls ≠ "java/lang/invoke/MethodHandle" ∧ yX14_places.cls ≠ "java/lang/invoke/VarHandle" ∧ (parseMethodDescriptor yX14_places.desc).map (fun d => d.parameters.length) = some 2 := by decide +kernel
theorem vX14_refuses : yX14_refuses.cls = RX14 ∧ yX14_refuses.cls ≠ "java/lang/invoke/MethodHandle" ∧ yX14_refuses.cls ≠ "java/lang/invoke/VarHandle" ∧ (parseMethodDescriptor yX14_refuses.desc).map (fun d => d.parameters.length) = some 1 := by decide +kernel
theorem vX14_tellLong : yX14_tellLong.cls = RX14 ∧ yX14_tellLong.cls ≠ "java/lang/invoke/MethodHandle" ∧ yX14_tellLong.cls ≠ "java/lang/invoke/VarHandle" ∧ (parseMethodDescriptor yX14_tellLong.desc).map (fun d => d.parameters.length) = some 1 := by decide +kernel
theorem vX14_tells : yX14_tells.cls = RX14 ∧ yX14_tells.cls ≠ "java/lang/invoke/MethodHandle" ∧ yX14_tells.cls ≠ "java/lang/invoke/VarHandle" ∧ (parseMethodDescriptor yX14_tells.desc).map (fun d => d.parameters.length) = some 1 := by decide +kernel
theorem vX14_thousandths : yX14_thousandths.cls = RX14 ∧ yX14_thousandths.cls ≠ "java/lang/invoke/MethodHandle" ∧ yX14_thousandths.cls ≠ "java/lang/invoke/VarHandle" ∧ (parseMethodDescriptor yX14_thousandths.desc).map (fun d => d.parameters.length) = some 1 := by decide +kernel
theorem vX14_used : yX14_used.cls = RX14 ∧ yX14_used.cls ≠ "java/lang/invoke/MethodHandle" ∧ yX14_used.cls ≠ "java/lang/invoke/VarHandle" ∧ (parseMethodDescriptor yX14_used.desc).map (fun d => d.parameters.length) = some 0 := by decide +kernel
theorem vX14_waterIn : yX14_waterIn.cls = RX14 ∧ yX14_waterIn.cls ≠ "java/lang/invoke/MethodHandle" ∧ yX14_waterIn.cls ≠ "java/lang/invoke/VarHandle" ∧ (parseMethodDescriptor yX14_waterIn.desc).map (fun d => d.parameters.length) = some 1 := by decide +kernel
theorem q344 : Cond.methodLink RX14 202 yX14_fails ∈ wAll := wIn (wT6 (List.mem_of_getElem? (i := 40) rfl)) rfl
theorem q345 : Cond.code yX14_fails cX14_fails 2 (some .int) ∈ wAll := wIn (wT6 (List.mem_of_getElem? (i := 43) rfl)) rfl
theorem q346 : Cond.instanceMethod yX14_fails ∈ wAll := wIn (wT6 (List.mem_of_getElem? (i := 42) rfl)) rfl
theorem q347 : Cond.selects RX14 yX14_fails yX14_fails ∈ wAll := wIn (wT0 (List.mem_of_getElem? (i := 27) rfl)) rfl
theorem q348 : Cond.methodLink RX14 228 yX14_refuses ∈ wAll := wIn (wT6 (List.mem_of_getElem? (i := 180) rfl)) rfl
theorem q349 : Cond.code yX14_refuses cX14_refuses 2 (some .boolean) ∈ wAll := wIn (wT6 (List.mem_of_getElem? (i := 183) rfl)) rfl
theorem q350 : Cond.instanceMethod yX14_refuses ∈ wAll := wIn (wT6 (List.mem_of_getElem? (i := 182) rfl)) rfl
theorem q351 : Cond.selects RX14 yX14_refuses yX14_refuses ∈ wAll := wIn (wT0 (List.mem_of_getElem? (i := 34) rfl)) rfl
theorem q352 : Cond.methodLink RX14 241 yX14_isPlace ∈ wAll := wIn (wT6 (List.mem_of_getElem? (i := 232) rfl)) rfl
theorem q353 : Cond.code yX14_isPlace cX14_isPlace 4 (some .boolean) ∈ wAll := wIn (wT6 (List.mem_of_getElem? (i := 235) rfl)) rfl
theorem q354 : Cond.instanceMethod yX14_isPlace ∈ wAll := wIn (wT6 (List.mem_of_getElem? (i := 234) rfl)) rfl
theorem q355 : Cond.selects RX14 yX14_isPlace yX14_isPlace ∈ wAll := wIn (wT0 (List.mem_of_getElem? (i := 38) rfl)) rfl
theorem q356 : Cond.methodLink RX14 225 yX14_isShot ∈ wAll := wIn (wT6 (List.mem_of_getElem? (i := 176) rfl)) rfl
theorem q357 : Cond.code yX14_isShot cX14_isShot 2 (some .boolean) ∈ wAll := wIn (wT6 (List.mem_of_getElem? (i := 179) rfl)) rfl
theorem q358 : Cond.instanceMethod yX14_isShot ∈ wAll := wIn (wT6 (List.mem_of_getElem? (i := 178) rfl)) rfl
theorem q359 : Cond.selects RX14 yX14_isShot yX14_isShot ∈ wAll := wIn (wT0 (List.mem_of_getElem? (i := 33) rfl)) rfl
theorem q360 : Cond.methodLink RX14 347 yX14_hasPlan ∈ wAll := wIn (wT8 (List.mem_of_getElem? (i := 8) rfl)) rfl
theorem q361 : Cond.code yX14_hasPlan cX14_hasPlan 3 (some .boolean) ∈ wAll := wIn (wT8 (List.mem_of_getElem? (i := 11) rfl)) rfl
theorem q362 : Cond.instanceMethod yX14_hasPlan ∈ wAll := wIn (wT8 (List.mem_of_getElem? (i := 10) rfl)) rfl
theorem q363 : Cond.selects RX14 yX14_hasPlan yX14_hasPlan ∈ wAll := wIn (wT0 (List.mem_of_getElem? (i := 57) rfl)) rfl
theorem q364 : Cond.methodLink RX14 213 yX14_isDay ∈ wAll := wIn (wT6 (List.mem_of_getElem? (i := 61) rfl)) rfl
theorem q365 : Cond.code yX14_isDay cX14_isDay 1 (some .boolean) ∈ wAll := wIn (wT6 (List.mem_of_getElem? (i := 63) rfl)) rfl
theorem q366 : Cond.static yX14_isDay ∈ wAll := wIn (wT6 (List.mem_of_getElem? (i := 62) rfl)) rfl
theorem q367 : Cond.methodLink RX14 248 yX14_used ∈ wAll := wIn (wT7 (List.mem_of_getElem? (i := 34) rfl)) rfl
theorem q368 : Cond.code yX14_used cX14_used 3 (some .int) ∈ wAll := wIn (wT7 (List.mem_of_getElem? (i := 37) rfl)) rfl
theorem q369 : Cond.instanceMethod yX14_used ∈ wAll := wIn (wT7 (List.mem_of_getElem? (i := 36) rfl)) rfl
theorem q370 : Cond.selects RX14 yX14_used yX14_used ∈ wAll := wIn (wT0 (List.mem_of_getElem? (i := 45) rfl)) rfl
theorem q371 : Cond.methodLink RX14 205 yX14_answer ∈ wAll := wIn (wT6 (List.mem_of_getElem? (i := 44) rfl)) rfl
theorem q372 : Cond.code yX14_answer cX14_answer 2 (some .int) ∈ wAll := wIn (wT6 (List.mem_of_getElem? (i := 47) rfl)) rfl
theorem q373 : Cond.instanceMethod yX14_answer ∈ wAll := wIn (wT6 (List.mem_of_getElem? (i := 46) rfl)) rfl
theorem q374 : Cond.selects RX14 yX14_answer yX14_answer ∈ wAll := wIn (wT0 (List.mem_of_getElem? (i := 28) rfl)) rfl
theorem q375 : Cond.methodLink RX14 238 yX14_places ∈ wAll := wIn (wT6 (List.mem_of_getElem? (i := 237) rfl)) rfl
theorem q376 : Cond.code yX14_places cX14_places 5 none ∈ wAll := wIn (wT7 (List.mem_of_getElem? (i := 0) rfl)) rfl
theorem q377 : Cond.instanceMethod yX14_places ∈ wAll := wIn (wT6 (List.mem_of_getElem? (i := 239) rfl)) rfl
theorem q378 : Cond.selects RX14 yX14_places yX14_places ∈ wAll := wIn (wT0 (List.mem_of_getElem? (i := 39) rfl)) rfl
theorem q379 : Cond.methodLink RX14 255 yX14_allSquares ∈ wAll := wIn (wT7 (List.mem_of_getElem? (i := 84) rfl)) rfl
theorem q380 : Cond.code yX14_allSquares cX14_allSquares 3 (some (.object "CavernbookModel$Wide")) ∈ wAll := wIn (wT7 (List.mem_of_getElem? (i := 87) rfl)) rfl
theorem q381 : Cond.instanceMethod yX14_allSquares ∈ wAll := wIn (wT7 (List.mem_of_getElem? (i := 86) rfl)) rfl
theorem q382 : Cond.selects RX14 yX14_allSquares yX14_allSquares ∈ wAll := wIn (wT0 (List.mem_of_getElem? (i := 49) rfl)) rfl
theorem q383 : Cond.methodLink RX14 251 yX14_thousandths ∈ wAll := wIn (wT7 (List.mem_of_getElem? (i := 67) rfl)) rfl
theorem q384 : Cond.code yX14_thousandths cX14_thousandths 10 (some .long) ∈ wAll := wIn (wT7 (List.mem_of_getElem? (i := 70) rfl)) rfl
theorem q385 : Cond.instanceMethod yX14_thousandths ∈ wAll := wIn (wT7 (List.mem_of_getElem? (i := 69) rfl)) rfl
theorem q386 : Cond.selects RX14 yX14_thousandths yX14_thousandths ∈ wAll := wIn (wT0 (List.mem_of_getElem? (i := 47) rfl)) rfl
theorem q387 : Cond.methodLink RX14 258 yX14_tellLong ∈ wAll := wIn (wT7 (List.mem_of_getElem? (i := 88) rfl)) rfl
theorem q388 : Cond.code yX14_tellLong cX14_tellLong 3 (some .long) ∈ wAll := wIn (wT7 (List.mem_of_getElem? (i := 91) rfl)) rfl
theorem q389 : Cond.instanceMethod yX14_tellLong ∈ wAll := wIn (wT7 (List.mem_of_getElem? (i := 90) rfl)) rfl
theorem q390 : Cond.selects RX14 yX14_tellLong yX14_tellLong ∈ wAll := wIn (wT0 (List.mem_of_getElem? (i := 50) rfl)) rfl
theorem q391 : Cond.constantLong RX14 268 100 ∈ wAll := wIn (wT7 (List.mem_of_getElem? (i := 106) rfl)) rfl
theorem q392 : Cond.methodLink RX14 234 yX14_tells ∈ wAll := wIn (wT6 (List.mem_of_getElem? (i := 198) rfl)) rfl
theorem q393 : Cond.code yX14_tells cX14_tells 2 (some .boolean) ∈ wAll := wIn (wT6 (List.mem_of_getElem? (i := 201) rfl)) rfl
theorem q394 : Cond.instanceMethod yX14_tells ∈ wAll := wIn (wT6 (List.mem_of_getElem? (i := 200) rfl)) rfl
theorem q395 : Cond.selects RX14 yX14_tells yX14_tells ∈ wAll := wIn (wT0 (List.mem_of_getElem? (i := 35) rfl)) rfl
theorem q396 : Cond.constantLong RX14 298 199 ∈ wAll := wIn (wT7 (List.mem_of_getElem? (i := 164) rfl)) rfl
theorem q397 : Cond.constantLong RX14 274 99 ∈ wAll := wIn (wT7 (List.mem_of_getElem? (i := 116) rfl)) rfl
theorem q398 : Cond.constantLong RX14 300 400 ∈ wAll := wIn (wT7 (List.mem_of_getElem? (i := 169) rfl)) rfl
theorem q399 : Cond.methodLink RX14 302 yX14_waterIn ∈ wAll := wIn (wT7 (List.mem_of_getElem? (i := 170) rfl)) rfl
theorem q400 : Cond.code yX14_waterIn cX14_waterIn 3 (some .int) ∈ wAll := wIn (wT7 (List.mem_of_getElem? (i := 173) rfl)) rfl
theorem q401 : Cond.instanceMethod yX14_waterIn ∈ wAll := wIn (wT7 (List.mem_of_getElem? (i := 172) rfl)) rfl
theorem q402 : Cond.selects RX14 yX14_waterIn yX14_waterIn ∈ wAll := wIn (wT0 (List.mem_of_getElem? (i := 53) rfl)) rfl
theorem dX14_allFaults_0 : decode cX14_allFaults 0 = .ok (.iload_n 1, 1) := by decide +kernel
theorem dX14_allFaults_1 : decode cX14_allFaults 1 = .ok (.invokestatic 213, 3) := by decide +kernel
theorem dX14_allFaults_4 : decode cX14_allFaults 4 = .ok (.ifCond .ne 10, 3) := by decide +kernel
theorem dX14_allFaults_7 : decode cX14_allFaults 7 = .ok (.aload_n 0, 1) := by decide +kernel
theorem dX14_allFaults_8 : decode cX14_allFaults 8 = .ok (.iconst 1, 1) := by decide +kernel
theorem dX14_allFaults_9 : decode cX14_allFaults 9 = .ok (.invokevirtual 202, 3) := by decide +kernel
theorem dX14_allFaults_12 : decode cX14_allFaults 12 = .ok (.i2l, 1) := by decide +kernel
theorem dX14_allFaults_13 : decode cX14_allFaults 13 = .ok (.lreturn, 1) := by decide +kernel
theorem dX14_allFaults_14 : decode cX14_allFaults 14 = .ok (.aload_n 0, 1) := by decide +kernel
theorem dX14_allFaults_15 : decode cX14_allFaults 15 = .ok (.iload_n 1, 1) := by decide +kernel
theorem dX14_allFaults_16 : decode cX14_allFaults 16 = .ok (.iconst (-1), 1) := by decide +kernel
theorem dX14_allFaults_17 : decode cX14_allFaults 17 = .ok (.invokevirtual 238, 3) := by decide +kernel
theorem dX14_allFaults_20 : decode cX14_allFaults 20 = .ok (.aload_n 0, 1) := by decide +kernel
theorem dX14_allFaults_21 : decode cX14_allFaults 21 = .ok (.aload_n 0, 1) := by decide +kernel
theorem dX14_allFaults_22 : decode cX14_allFaults 22 = .ok (.aload_n 0, 1) := by decide +kernel
theorem dX14_allFaults_23 : decode cX14_allFaults 23 = .ok (.invokevirtual 255, 3) := by decide +kernel
theorem dX14_allFaults_26 : decode cX14_allFaults 26 = .ok (.invokevirtual 251, 3) := by decide +kernel
theorem dX14_allFaults_29 : decode cX14_allFaults 29 = .ok (.invokevirtual 258, 3) := by decide +kernel
theorem dX14_allFaults_32 : decode cX14_allFaults 32 = .ok (.lreturn, 1) := by decide +kernel
theorem dX14_allSteps_0 : decode cX14_allSteps 0 = .ok (.lconst 0, 1) := by decide +kernel
theorem dX14_allSteps_1 : decode cX14_allSteps 1 = .ok (.lstore_n 1, 1) := by decide +kernel
theorem dX14_allSteps_2 : decode cX14_allSteps 2 = .ok (.iconst 0, 1) := by decide +kernel
theorem dX14_allSteps_3 : decode cX14_allSteps 3 = .ok (.istore_n 3, 1) := by decide +kernel
theorem dX14_allSteps_4 : decode cX14_allSteps 4 = .ok (.iload_n 3, 1) := by decide +kernel
theorem dX14_allSteps_5 : decode cX14_allSteps 5 = .ok (.aload_n 0, 1) := by decide +kernel
theorem dX14_allSteps_6 : decode cX14_allSteps 6 = .ok (.getfield 10, 3) := by decide +kernel
theorem dX14_allSteps_9 : decode cX14_allSteps 9 = .ok (.invokevirtual 90, 3) := by decide +kernel
theorem dX14_allSteps_12 : decode cX14_allSteps 12 = .ok (.if_icmp .ge 63, 3) := by decide +kernel
theorem dX14_allSteps_75 : decode cX14_allSteps 75 = .ok (.aload_n 0, 1) := by decide +kernel
theorem dX14_allSteps_76 : decode cX14_allSteps 76 = .ok (.lload_n 1, 1) := by decide +kernel
theorem dX14_allSteps_77 : decode cX14_allSteps 77 = .ok (.invokevirtual 258, 3) := by decide +kernel
theorem dX14_allSteps_80 : decode cX14_allSteps 80 = .ok (.lreturn, 1) := by decide +kernel
theorem dX14_blunder_0 : decode cX14_blunder 0 = .ok (.iload_n 1, 1) := by decide +kernel
theorem dX14_blunder_1 : decode cX14_blunder 1 = .ok (.invokestatic 213, 3) := by decide +kernel
theorem dX14_blunder_4 : decode cX14_blunder 4 = .ok (.ifCond .ne 9, 3) := by decide +kernel
theorem dX14_blunder_7 : decode cX14_blunder 7 = .ok (.aload_n 0, 1) := by decide +kernel
theorem dX14_blunder_8 : decode cX14_blunder 8 = .ok (.iconst 1, 1) := by decide +kernel
theorem dX14_blunder_9 : decode cX14_blunder 9 = .ok (.invokevirtual 202, 3) := by decide +kernel
theorem dX14_blunder_12 : decode cX14_blunder 12 = .ok (.ireturn, 1) := by decide +kernel
theorem dX14_blunder_13 : decode cX14_blunder 13 = .ok (.aload_n 0, 1) := by decide +kernel
theorem dX14_blunder_14 : decode cX14_blunder 14 = .ok (.iload_n 1, 1) := by decide +kernel
theorem dX14_blunder_15 : decode cX14_blunder 15 = .ok (.iconst (-1), 1) := by decide +kernel
theorem dX14_blunder_16 : decode cX14_blunder 16 = .ok (.invokevirtual 238, 3) := by decide +kernel
theorem dX14_blunder_19 : decode cX14_blunder 19 = .ok (.aload_n 0, 1) := by decide +kernel
theorem dX14_blunder_20 : decode cX14_blunder 20 = .ok (.getfield 128, 3) := by decide +kernel
theorem dX14_blunder_23 : decode cX14_blunder 23 = .ok (.istore_n 2, 1) := by decide +kernel
theorem dX14_blunder_24 : decode cX14_blunder 24 = .ok (.aload_n 0, 1) := by decide +kernel
theorem dX14_blunder_25 : decode cX14_blunder 25 = .ok (.invokevirtual 255, 3) := by decide +kernel
theorem dX14_blunder_28 : decode cX14_blunder 28 = .ok (.astore_n 3, 1) := by decide +kernel
theorem dX14_blunder_29 : decode cX14_blunder 29 = .ok (.aload_n 0, 1) := by decide +kernel
theorem dX14_blunder_30 : decode cX14_blunder 30 = .ok (.invokevirtual 188, 3) := by decide +kernel
theorem dX14_blunder_33 : decode cX14_blunder 33 = .ok (.astore 4, 2) := by decide +kernel
theorem dX14_blunder_35 : decode cX14_blunder 35 = .ok (.iconst (-1), 1) := by decide +kernel
theorem dX14_blunder_36 : decode cX14_blunder 36 = .ok (.istore 5, 2) := by decide +kernel
theorem dX14_blunder_38 : decode cX14_blunder 38 = .ok (.iconst 0, 1) := by decide +kernel
theorem dX14_blunder_39 : decode cX14_blunder 39 = .ok (.istore 6, 2) := by decide +kernel
theorem dX14_blunder_41 : decode cX14_blunder 41 = .ok (.iload 6, 2) := by decide +kernel
theorem dX14_blunder_43 : decode cX14_blunder 43 = .ok (.aload_n 0, 1) := by decide +kernel
theorem dX14_blunder_44 : decode cX14_blunder 44 = .ok (.getfield 10, 3) := by decide +kernel
theorem dX14_blunder_47 : decode cX14_blunder 47 = .ok (.invokevirtual 90, 3) := by decide +kernel
theorem dX14_blunder_50 : decode cX14_blunder 50 = .ok (.if_icmp .ge 89, 3) := by decide +kernel
theorem dX14_blunder_139 : decode cX14_blunder 139 = .ok (.iload 5, 2) := by decide +kernel
theorem dX14_blunder_141 : decode cX14_blunder 141 = .ok (.iconst (-1), 1) := by decide +kernel
theorem dX14_blunder_142 : decode cX14_blunder 142 = .ok (.if_icmp .ne 11, 3) := by decide +kernel
theorem dX14_blunder_145 : decode cX14_blunder 145 = .ok (.aload_n 0, 1) := by decide +kernel
theorem dX14_blunder_146 : decode cX14_blunder 146 = .ok (.iconst 2, 1) := by decide +kernel
theorem dX14_blunder_147 : decode cX14_blunder 147 = .ok (.invokevirtual 202, 3) := by decide +kernel
theorem dX14_blunder_150 : decode cX14_blunder 150 = .ok (.goto 9, 3) := by decide +kernel
theorem dX14_blunder_159 : decode cX14_blunder 159 = .ok (.ireturn, 1) := by decide +kernel
theorem dX14_bottom_0 : decode cX14_bottom 0 = .ok (.aload_n 0, 1) := by decide +kernel
theorem dX14_bottom_1 : decode cX14_bottom 1 = .ok (.iload_n 1, 1) := by decide +kernel
theorem dX14_bottom_2 : decode cX14_bottom 2 = .ok (.iload_n 2, 1) := by decide +kernel
theorem dX14_bottom_3 : decode cX14_bottom 3 = .ok (.iload_n 3, 1) := by decide +kernel
theorem dX14_bottom_4 : decode cX14_bottom 4 = .ok (.invokevirtual 241, 3) := by decide +kernel
theorem dX14_bottom_7 : decode cX14_bottom 7 = .ok (.ifCond .eq 17, 3) := by decide +kernel
theorem dX14_bottom_24 : decode cX14_bottom 24 = .ok (.lconst 0, 1) := by decide +kernel
theorem dX14_bottom_25 : decode cX14_bottom 25 = .ok (.lreturn, 1) := by decide +kernel
theorem dX14_conduit_0 : decode cX14_conduit 0 = .ok (.aload_n 0, 1) := by decide +kernel
theorem dX14_conduit_1 : decode cX14_conduit 1 = .ok (.iload_n 1, 1) := by decide +kernel
theorem dX14_conduit_2 : decode cX14_conduit 2 = .ok (.invokevirtual 208, 3) := by decide +kernel
theorem dX14_conduit_5 : decode cX14_conduit 5 = .ok (.ifCond .eq 11, 3) := by decide +kernel
theorem dX14_conduit_16 : decode cX14_conduit 16 = .ok (.aload_n 0, 1) := by decide +kernel
theorem dX14_conduit_17 : decode cX14_conduit 17 = .ok (.iconst 1, 1) := by decide +kernel
theorem dX14_conduit_18 : decode cX14_conduit 18 = .ok (.invokevirtual 202, 3) := by decide +kernel
theorem dX14_conduit_21 : decode cX14_conduit 21 = .ok (.ireturn, 1) := by decide +kernel
theorem dX14_depth_0 : decode cX14_depth 0 = .ok (.iload_n 1, 1) := by decide +kernel
theorem dX14_depth_1 : decode cX14_depth 1 = .ok (.invokestatic 213, 3) := by decide +kernel
theorem dX14_depth_4 : decode cX14_depth 4 = .ok (.ifCond .ne 10, 3) := by decide +kernel
theorem dX14_depth_7 : decode cX14_depth 7 = .ok (.aload_n 0, 1) := by decide +kernel
theorem dX14_depth_8 : decode cX14_depth 8 = .ok (.iconst 1, 1) := by decide +kernel
theorem dX14_depth_9 : decode cX14_depth 9 = .ok (.invokevirtual 202, 3) := by decide +kernel
theorem dX14_depth_12 : decode cX14_depth 12 = .ok (.i2l, 1) := by decide +kernel
theorem dX14_depth_13 : decode cX14_depth 13 = .ok (.lreturn, 1) := by decide +kernel
theorem dX14_depth_14 : decode cX14_depth 14 = .ok (.aload_n 0, 1) := by decide +kernel
theorem dX14_depth_15 : decode cX14_depth 15 = .ok (.iload_n 1, 1) := by decide +kernel
theorem dX14_depth_16 : decode cX14_depth 16 = .ok (.iconst (-1), 1) := by decide +kernel
theorem dX14_depth_17 : decode cX14_depth 17 = .ok (.invokevirtual 238, 3) := by decide +kernel
theorem dX14_depth_20 : decode cX14_depth 20 = .ok (.lconst 0, 1) := by decide +kernel
theorem dX14_depth_21 : decode cX14_depth 21 = .ok (.lstore_n 2, 1) := by decide +kernel
theorem dX14_depth_22 : decode cX14_depth 22 = .ok (.lconst 0, 1) := by decide +kernel
theorem dX14_depth_23 : decode cX14_depth 23 = .ok (.lstore 4, 2) := by decide +kernel
theorem dX14_depth_25 : decode cX14_depth 25 = .ok (.iconst 0, 1) := by decide +kernel
theorem dX14_depth_26 : decode cX14_depth 26 = .ok (.istore 6, 2) := by decide +kernel
theorem dX14_depth_28 : decode cX14_depth 28 = .ok (.iload 6, 2) := by decide +kernel
theorem dX14_depth_30 : decode cX14_depth 30 = .ok (.aload_n 0, 1) := by decide +kernel
theorem dX14_depth_31 : decode cX14_depth 31 = .ok (.getfield 83, 3) := by decide +kernel
theorem dX14_depth_34 : decode cX14_depth 34 = .ok (.if_icmp .ge 64, 3) := by decide +kernel
theorem dX14_depth_98 : decode cX14_depth 98 = .ok (.aload_n 0, 1) := by decide +kernel
theorem dX14_depth_99 : decode cX14_depth 99 = .ok (.lload 4, 2) := by decide +kernel
theorem dX14_depth_101 : decode cX14_depth 101 = .ok (.lload_n 2, 1) := by decide +kernel
theorem dX14_depth_102 : decode cX14_depth 102 = .ok (.lsub, 1) := by decide +kernel
theorem dX14_depth_103 : decode cX14_depth 103 = .ok (.ldc2_w 268, 3) := by decide +kernel
theorem dX14_depth_106 : decode cX14_depth 106 = .ok (.lmul, 1) := by decide +kernel
theorem dX14_depth_107 : decode cX14_depth 107 = .ok (.aload_n 0, 1) := by decide +kernel
theorem dX14_depth_108 : decode cX14_depth 108 = .ok (.getfield 158, 3) := by decide +kernel
theorem dX14_depth_111 : decode cX14_depth 111 = .ok (.ldiv, 1) := by decide +kernel
theorem dX14_depth_112 : decode cX14_depth 112 = .ok (.invokevirtual 258, 3) := by decide +kernel
theorem dX14_depth_115 : decode cX14_depth 115 = .ok (.lreturn, 1) := by decide +kernel
theorem dX14_fault_0 : decode cX14_fault 0 = .ok (.aload_n 0, 1) := by decide +kernel
theorem dX14_fault_1 : decode cX14_fault 1 = .ok (.aload_n 0, 1) := by decide +kernel
theorem dX14_fault_2 : decode cX14_fault 2 = .ok (.iload_n 1, 1) := by decide +kernel
theorem dX14_fault_3 : decode cX14_fault 3 = .ok (.invokevirtual 225, 3) := by decide +kernel
theorem dX14_fault_6 : decode cX14_fault 6 = .ok (.ifCond .ne 7, 3) := by decide +kernel
theorem dX14_fault_9 : decode cX14_fault 9 = .ok (.iconst 1, 1) := by decide +kernel
theorem dX14_fault_10 : decode cX14_fault 10 = .ok (.goto 15, 3) := by decide +kernel
theorem dX14_fault_25 : decode cX14_fault 25 = .ok (.putfield 79, 3) := by decide +kernel
theorem dX14_fault_28 : decode cX14_fault 28 = .ok (.aload_n 0, 1) := by decide +kernel
theorem dX14_fault_29 : decode cX14_fault 29 = .ok (.getfield 79, 3) := by decide +kernel
theorem dX14_fault_32 : decode cX14_fault 32 = .ok (.ifCond .le 5, 3) := by decide +kernel
theorem dX14_fault_35 : decode cX14_fault 35 = .ok (.lconst 0, 1) := by decide +kernel
theorem dX14_fault_36 : decode cX14_fault 36 = .ok (.lreturn, 1) := by decide +kernel
theorem dX14_go_0 : decode cX14_go 0 = .ok (.aload_n 0, 1) := by decide +kernel
theorem dX14_go_1 : decode cX14_go 1 = .ok (.iload_n 1, 1) := by decide +kernel
theorem dX14_go_2 : decode cX14_go 2 = .ok (.invokevirtual 318, 3) := by decide +kernel
theorem dX14_go_5 : decode cX14_go 5 = .ok (.ifCond .eq 11, 3) := by decide +kernel
theorem dX14_go_16 : decode cX14_go 16 = .ok (.aload_n 0, 1) := by decide +kernel
theorem dX14_go_17 : decode cX14_go 17 = .ok (.iconst 1, 1) := by decide +kernel
theorem dX14_go_18 : decode cX14_go 18 = .ok (.invokevirtual 202, 3) := by decide +kernel
theorem dX14_go_21 : decode cX14_go 21 = .ok (.ireturn, 1) := by decide +kernel
theorem dX14_hourOf_0 : decode cX14_hourOf 0 = .ok (.aload_n 0, 1) := by decide +kernel
theorem dX14_hourOf_1 : decode cX14_hourOf 1 = .ok (.iload_n 1, 1) := by decide +kernel
theorem dX14_hourOf_2 : decode cX14_hourOf 2 = .ok (.invokevirtual 318, 3) := by decide +kernel
theorem dX14_hourOf_5 : decode cX14_hourOf 5 = .ok (.ifCond .eq 24, 3) := by decide +kernel
theorem dX14_hourOf_29 : decode cX14_hourOf 29 = .ok (.aload_n 0, 1) := by decide +kernel
theorem dX14_hourOf_30 : decode cX14_hourOf 30 = .ok (.iconst 1, 1) := by decide +kernel
theorem dX14_hourOf_31 : decode cX14_hourOf 31 = .ok (.invokevirtual 202, 3) := by decide +kernel
theorem dX14_hourOf_34 : decode cX14_hourOf 34 = .ok (.ireturn, 1) := by decide +kernel
theorem dX14_hungShare_0 : decode cX14_hungShare 0 = .ok (.aload_n 0, 1) := by decide +kernel
theorem dX14_hungShare_1 : decode cX14_hungShare 1 = .ok (.iload_n 1, 1) := by decide +kernel
theorem dX14_hungShare_2 : decode cX14_hungShare 2 = .ok (.invokestatic 213, 3) := by decide +kernel
theorem dX14_hungShare_5 : decode cX14_hungShare 5 = .ok (.ifCond .ne 7, 3) := by decide +kernel
theorem dX14_hungShare_8 : decode cX14_hungShare 8 = .ok (.iconst 1, 1) := by decide +kernel
theorem dX14_hungShare_9 : decode cX14_hungShare 9 = .ok (.goto 15, 3) := by decide +kernel
theorem dX14_hungShare_12 : decode cX14_hungShare 12 = .ok (.aload_n 0, 1) := by decide +kernel
theorem dX14_hungShare_13 : decode cX14_hungShare 13 = .ok (.getfield 83, 3) := by decide +kernel
theorem dX14_hungShare_16 : decode cX14_hungShare 16 = .ok (.ifCond .ne 7, 3) := by decide +kernel
theorem dX14_hungShare_19 : decode cX14_hungShare 19 = .ok (.iconst 2, 1) := by decide +kernel
theorem dX14_hungShare_20 : decode cX14_hungShare 20 = .ok (.goto 4, 3) := by decide +kernel
theorem dX14_hungShare_24 : decode cX14_hungShare 24 = .ok (.putfield 79, 3) := by decide +kernel
theorem dX14_hungShare_27 : decode cX14_hungShare 27 = .ok (.aload_n 0, 1) := by decide +kernel
theorem dX14_hungShare_28 : decode cX14_hungShare 28 = .ok (.getfield 79, 3) := by decide +kernel
theorem dX14_hungShare_31 : decode cX14_hungShare 31 = .ok (.ifCond .le 5, 3) := by decide +kernel
theorem dX14_hungShare_34 : decode cX14_hungShare 34 = .ok (.fconst 0, 1) := by decide +kernel
theorem dX14_hungShare_35 : decode cX14_hungShare 35 = .ok (.freturn, 1) := by decide +kernel
theorem dX14_isClosed_0 : decode cX14_isClosed 0 = .ok (.aload_n 0, 1) := by decide +kernel
theorem dX14_isClosed_1 : decode cX14_isClosed 1 = .ok (.iload_n 1, 1) := by decide +kernel
theorem dX14_isClosed_2 : decode cX14_isClosed 2 = .ok (.invokevirtual 225, 3) := by decide +kernel
theorem dX14_isClosed_5 : decode cX14_isClosed 5 = .ok (.ifCond .ne 9, 3) := by decide +kernel
theorem dX14_isClosed_8 : decode cX14_isClosed 8 = .ok (.aload_n 0, 1) := by decide +kernel
theorem dX14_isClosed_9 : decode cX14_isClosed 9 = .ok (.iconst 1, 1) := by decide +kernel
theorem dX14_isClosed_10 : decode cX14_isClosed 10 = .ok (.invokevirtual 228, 3) := by decide +kernel
theorem dX14_isClosed_13 : decode cX14_isClosed 13 = .ok (.ireturn, 1) := by decide +kernel
theorem dX14_isHung_0 : decode cX14_isHung 0 = .ok (.aload_n 0, 1) := by decide +kernel
theorem dX14_isHung_1 : decode cX14_isHung 1 = .ok (.iload_n 1, 1) := by decide +kernel
theorem dX14_isHung_2 : decode cX14_isHung 2 = .ok (.invokevirtual 208, 3) := by decide +kernel
theorem dX14_isHung_5 : decode cX14_isHung 5 = .ok (.ifCond .ne 9, 3) := by decide +kernel
theorem dX14_isHung_8 : decode cX14_isHung 8 = .ok (.aload_n 0, 1) := by decide +kernel
theorem dX14_isHung_9 : decode cX14_isHung 9 = .ok (.iconst 1, 1) := by decide +kernel
theorem dX14_isHung_10 : decode cX14_isHung 10 = .ok (.invokevirtual 228, 3) := by decide +kernel
theorem dX14_isHung_13 : decode cX14_isHung 13 = .ok (.ireturn, 1) := by decide +kernel
theorem dX14_isSound_0 : decode cX14_isSound 0 = .ok (.iload_n 1, 1) := by decide +kernel
theorem dX14_isSound_1 : decode cX14_isSound 1 = .ok (.invokestatic 213, 3) := by decide +kernel
theorem dX14_isSound_4 : decode cX14_isSound 4 = .ok (.ifCond .eq 11, 3) := by decide +kernel
theorem dX14_isSound_7 : decode cX14_isSound 7 = .ok (.aload_n 0, 1) := by decide +kernel
theorem dX14_isSound_8 : decode cX14_isSound 8 = .ok (.iconst 1, 1) := by decide +kernel
theorem dX14_isSound_9 : decode cX14_isSound 9 = .ok (.invokevirtual 234, 3) := by decide +kernel
theorem dX14_isSound_12 : decode cX14_isSound 12 = .ok (.goto 8, 3) := by decide +kernel
theorem dX14_isSound_15 : decode cX14_isSound 15 = .ok (.aload_n 0, 1) := by decide +kernel
theorem dX14_isSound_16 : decode cX14_isSound 16 = .ok (.iconst 1, 1) := by decide +kernel
theorem dX14_isSound_17 : decode cX14_isSound 17 = .ok (.invokevirtual 228, 3) := by decide +kernel
theorem dX14_isSound_20 : decode cX14_isSound 20 = .ok (.ireturn, 1) := by decide +kernel
theorem dX14_join_0 : decode cX14_join 0 = .ok (.aload_n 0, 1) := by decide +kernel
theorem dX14_join_1 : decode cX14_join 1 = .ok (.iload_n 1, 1) := by decide +kernel
theorem dX14_join_2 : decode cX14_join 2 = .ok (.invokevirtual 208, 3) := by decide +kernel
theorem dX14_join_5 : decode cX14_join 5 = .ok (.ifCond .eq 11, 3) := by decide +kernel
theorem dX14_join_16 : decode cX14_join 16 = .ok (.aload_n 0, 1) := by decide +kernel
theorem dX14_join_17 : decode cX14_join 17 = .ok (.iconst 1, 1) := by decide +kernel
theorem dX14_join_18 : decode cX14_join 18 = .ok (.invokevirtual 228, 3) := by decide +kernel
theorem dX14_join_21 : decode cX14_join 21 = .ok (.ireturn, 1) := by decide +kernel
theorem dX14_knows_0 : decode cX14_knows 0 = .ok (.aload_n 0, 1) := by decide +kernel
theorem dX14_knows_1 : decode cX14_knows 1 = .ok (.iload_n 1, 1) := by decide +kernel
theorem dX14_knows_2 : decode cX14_knows 2 = .ok (.invokevirtual 318, 3) := by decide +kernel
theorem dX14_knows_5 : decode cX14_knows 5 = .ok (.ifCond .eq 34, 3) := by decide +kernel
theorem dX14_knows_39 : decode cX14_knows 39 = .ok (.aload_n 0, 1) := by decide +kernel
theorem dX14_knows_40 : decode cX14_knows 40 = .ok (.iconst 1, 1) := by decide +kernel
theorem dX14_knows_41 : decode cX14_knows 41 = .ok (.invokevirtual 228, 3) := by decide +kernel
theorem dX14_knows_44 : decode cX14_knows 44 = .ok (.ireturn, 1) := by decide +kernel
theorem dX14_lastChance_0 : decode cX14_lastChance 0 = .ok (.aload_n 0, 1) := by decide +kernel
theorem dX14_lastChance_1 : decode cX14_lastChance 1 = .ok (.iload_n 1, 1) := by decide +kernel
theorem dX14_lastChance_2 : decode cX14_lastChance 2 = .ok (.iconst 2, 1) := by decide +kernel
theorem dX14_lastChance_3 : decode cX14_lastChance 3 = .ok (.invokevirtual 347, 3) := by decide +kernel
theorem dX14_lastChance_6 : decode cX14_lastChance 6 = .ok (.ifCond .ne 5, 3) := by decide +kernel
theorem dX14_lastChance_9 : decode cX14_lastChance 9 = .ok (.iconst 0, 1) := by decide +kernel
theorem dX14_lastChance_10 : decode cX14_lastChance 10 = .ok (.ireturn, 1) := by decide +kernel
theorem dX14_length_0 : decode cX14_length 0 = .ok (.iload_n 1, 1) := by decide +kernel
theorem dX14_length_1 : decode cX14_length 1 = .ok (.invokestatic 213, 3) := by decide +kernel
theorem dX14_length_4 : decode cX14_length 4 = .ok (.ifCond .ne 9, 3) := by decide +kernel
theorem dX14_length_7 : decode cX14_length 7 = .ok (.aload_n 0, 1) := by decide +kernel
theorem dX14_length_8 : decode cX14_length 8 = .ok (.iconst 1, 1) := by decide +kernel
theorem dX14_length_9 : decode cX14_length 9 = .ok (.invokevirtual 202, 3) := by decide +kernel
theorem dX14_length_12 : decode cX14_length 12 = .ok (.ireturn, 1) := by decide +kernel
theorem dX14_length_13 : decode cX14_length 13 = .ok (.aload_n 0, 1) := by decide +kernel
theorem dX14_length_14 : decode cX14_length 14 = .ok (.iload_n 1, 1) := by decide +kernel
theorem dX14_length_15 : decode cX14_length 15 = .ok (.iconst (-1), 1) := by decide +kernel
theorem dX14_length_16 : decode cX14_length 16 = .ok (.invokevirtual 147, 3) := by decide +kernel
theorem dX14_length_19 : decode cX14_length 19 = .ok (.iconst 0, 1) := by decide +kernel
theorem dX14_length_20 : decode cX14_length 20 = .ok (.istore_n 2, 1) := by decide +kernel
theorem dX14_length_21 : decode cX14_length 21 = .ok (.iconst 0, 1) := by decide +kernel
theorem dX14_length_22 : decode cX14_length 22 = .ok (.istore_n 3, 1) := by decide +kernel
theorem dX14_length_23 : decode cX14_length 23 = .ok (.iload_n 3, 1) := by decide +kernel
theorem dX14_length_24 : decode cX14_length 24 = .ok (.aload_n 0, 1) := by decide +kernel
theorem dX14_length_25 : decode cX14_length 25 = .ok (.getfield 10, 3) := by decide +kernel
theorem dX14_length_28 : decode cX14_length 28 = .ok (.invokevirtual 90, 3) := by decide +kernel
theorem dX14_length_31 : decode cX14_length 31 = .ok (.if_icmp .ge 39, 3) := by decide +kernel
theorem dX14_length_70 : decode cX14_length 70 = .ok (.aload_n 0, 1) := by decide +kernel
theorem dX14_length_71 : decode cX14_length 71 = .ok (.iload_n 2, 1) := by decide +kernel
theorem dX14_length_72 : decode cX14_length 72 = .ok (.invokevirtual 205, 3) := by decide +kernel
theorem dX14_length_75 : decode cX14_length 75 = .ok (.ireturn, 1) := by decide +kernel
theorem dX14_loops_0 : decode cX14_loops 0 = .ok (.iload_n 1, 1) := by decide +kernel
theorem dX14_loops_1 : decode cX14_loops 1 = .ok (.invokestatic 213, 3) := by decide +kernel
theorem dX14_loops_4 : decode cX14_loops 4 = .ok (.ifCond .ne 9, 3) := by decide +kernel
theorem dX14_loops_7 : decode cX14_loops 7 = .ok (.aload_n 0, 1) := by decide +kernel
theorem dX14_loops_8 : decode cX14_loops 8 = .ok (.iconst 1, 1) := by decide +kernel
theorem dX14_loops_9 : decode cX14_loops 9 = .ok (.invokevirtual 202, 3) := by decide +kernel
theorem dX14_loops_12 : decode cX14_loops 12 = .ok (.ireturn, 1) := by decide +kernel
theorem dX14_loops_13 : decode cX14_loops 13 = .ok (.aload_n 0, 1) := by decide +kernel
theorem dX14_loops_14 : decode cX14_loops 14 = .ok (.iload_n 1, 1) := by decide +kernel
theorem dX14_loops_15 : decode cX14_loops 15 = .ok (.iconst (-1), 1) := by decide +kernel
theorem dX14_loops_16 : decode cX14_loops 16 = .ok (.invokevirtual 147, 3) := by decide +kernel
theorem dX14_loops_19 : decode cX14_loops 19 = .ok (.aload_n 0, 1) := by decide +kernel
theorem dX14_loops_20 : decode cX14_loops 20 = .ok (.aload_n 0, 1) := by decide +kernel
theorem dX14_loops_21 : decode cX14_loops 21 = .ok (.invokevirtual 248, 3) := by decide +kernel
theorem dX14_loops_24 : decode cX14_loops 24 = .ok (.aload_n 0, 1) := by decide +kernel
theorem dX14_loops_25 : decode cX14_loops 25 = .ok (.getfield 128, 3) := by decide +kernel
theorem dX14_loops_28 : decode cX14_loops 28 = .ok (.isub, 1) := by decide +kernel
theorem dX14_loops_29 : decode cX14_loops 29 = .ok (.invokevirtual 205, 3) := by decide +kernel
theorem dX14_loops_32 : decode cX14_loops 32 = .ok (.ireturn, 1) := by decide +kernel
theorem dX14_meanRain_0 : decode cX14_meanRain 0 = .ok (.iconst 0, 1) := by decide +kernel
theorem dX14_meanRain_1 : decode cX14_meanRain 1 = .ok (.istore_n 1, 1) := by decide +kernel
theorem dX14_meanRain_2 : decode cX14_meanRain 2 = .ok (.iconst 0, 1) := by decide +kernel
theorem dX14_meanRain_3 : decode cX14_meanRain 3 = .ok (.istore_n 2, 1) := by decide +kernel
theorem dX14_meanRain_4 : decode cX14_meanRain 4 = .ok (.iconst 0, 1) := by decide +kernel
theorem dX14_meanRain_5 : decode cX14_meanRain 5 = .ok (.istore_n 3, 1) := by decide +kernel
theorem dX14_meanRain_6 : decode cX14_meanRain 6 = .ok (.iload_n 3, 1) := by decide +kernel
theorem dX14_meanRain_7 : decode cX14_meanRain 7 = .ok (.sipush 199, 3) := by decide +kernel
theorem dX14_meanRain_10 : decode cX14_meanRain 10 = .ok (.if_icmp .gt 35, 3) := by decide +kernel
theorem dX14_meanRain_13 : decode cX14_meanRain 13 = .ok (.iload_n 1, 1) := by decide +kernel
theorem dX14_meanRain_14 : decode cX14_meanRain 14 = .ok (.aload_n 0, 1) := by decide +kernel
theorem dX14_meanRain_15 : decode cX14_meanRain 15 = .ok (.getfield 35, 3) := by decide +kernel
theorem dX14_meanRain_18 : decode cX14_meanRain 18 = .ok (.iload_n 3, 1) := by decide +kernel
theorem dX14_meanRain_19 : decode cX14_meanRain 19 = .ok (.iaload, 1) := by decide +kernel
theorem dX14_meanRain_20 : decode cX14_meanRain 20 = .ok (.ifCond .le 7, 3) := by decide +kernel
theorem dX14_meanRain_27 : decode cX14_meanRain 27 = .ok (.iconst 0, 1) := by decide +kernel
theorem dX14_meanRain_28 : decode cX14_meanRain 28 = .ok (.iadd, 1) := by decide +kernel
theorem dX14_meanRain_29 : decode cX14_meanRain 29 = .ok (.istore_n 1, 1) := by decide +kernel
theorem dX14_meanRain_30 : decode cX14_meanRain 30 = .ok (.iload_n 2, 1) := by decide +kernel
theorem dX14_meanRain_31 : decode cX14_meanRain 31 = .ok (.aload_n 0, 1) := by decide +kernel
theorem dX14_meanRain_32 : decode cX14_meanRain 32 = .ok (.getfield 35, 3) := by decide +kernel
theorem dX14_meanRain_35 : decode cX14_meanRain 35 = .ok (.iload_n 3, 1) := by decide +kernel
theorem dX14_meanRain_36 : decode cX14_meanRain 36 = .ok (.iaload, 1) := by decide +kernel
theorem dX14_meanRain_37 : decode cX14_meanRain 37 = .ok (.iadd, 1) := by decide +kernel
theorem dX14_meanRain_38 : decode cX14_meanRain 38 = .ok (.istore_n 2, 1) := by decide +kernel
theorem dX14_meanRain_39 : decode cX14_meanRain 39 = .ok (.iinc 3 1, 3) := by decide +kernel
theorem dX14_meanRain_42 : decode cX14_meanRain 42 = .ok (.goto (-36), 3) := by decide +kernel
theorem dX14_meanRain_45 : decode cX14_meanRain 45 = .ok (.aload_n 0, 1) := by decide +kernel
theorem dX14_meanRain_46 : decode cX14_meanRain 46 = .ok (.iload_n 1, 1) := by decide +kernel
theorem dX14_meanRain_47 : decode cX14_meanRain 47 = .ok (.ifCond .ne 7, 3) := by decide +kernel
theorem dX14_meanRain_50 : decode cX14_meanRain 50 = .ok (.iconst 1, 1) := by decide +kernel
theorem dX14_meanRain_51 : decode cX14_meanRain 51 = .ok (.goto 4, 3) := by decide +kernel
theorem dX14_meanRain_55 : decode cX14_meanRain 55 = .ok (.putfield 79, 3) := by decide +kernel
theorem dX14_meanRain_58 : decode cX14_meanRain 58 = .ok (.iload_n 1, 1) := by decide +kernel
theorem dX14_meanRain_59 : decode cX14_meanRain 59 = .ok (.ifCond .ne 7, 3) := by decide +kernel
theorem dX14_meanRain_62 : decode cX14_meanRain 62 = .ok (.dconst 0, 1) := by decide +kernel
theorem dX14_meanRain_63 : decode cX14_meanRain 63 = .ok (.goto 8, 3) := by decide +kernel
theorem dX14_meanRain_71 : decode cX14_meanRain 71 = .ok (.dreturn, 1) := by decide +kernel
theorem dX14_oneWith_0 : decode cX14_oneWith 0 = .ok (.aload_n 0, 1) := by decide +kernel
theorem dX14_oneWith_1 : decode cX14_oneWith 1 = .ok (.iload_n 1, 1) := by decide +kernel
theorem dX14_oneWith_2 : decode cX14_oneWith 2 = .ok (.invokevirtual 208, 3) := by decide +kernel
theorem dX14_oneWith_5 : decode cX14_oneWith 5 = .ok (.ifCond .ne 9, 3) := by decide +kernel
theorem dX14_oneWith_8 : decode cX14_oneWith 8 = .ok (.aload_n 0, 1) := by decide +kernel
theorem dX14_oneWith_9 : decode cX14_oneWith 9 = .ok (.iconst 1, 1) := by decide +kernel
theorem dX14_oneWith_10 : decode cX14_oneWith 10 = .ok (.invokevirtual 202, 3) := by decide +kernel
theorem dX14_oneWith_13 : decode cX14_oneWith 13 = .ok (.ireturn, 1) := by decide +kernel
theorem dX14_party_0 : decode cX14_party 0 = .ok (.aload_n 0, 1) := by decide +kernel
theorem dX14_party_1 : decode cX14_party 1 = .ok (.iload_n 1, 1) := by decide +kernel
theorem dX14_party_2 : decode cX14_party 2 = .ok (.invokevirtual 208, 3) := by decide +kernel
theorem dX14_party_5 : decode cX14_party 5 = .ok (.ifCond .ne 9, 3) := by decide +kernel
theorem dX14_party_8 : decode cX14_party 8 = .ok (.aload_n 0, 1) := by decide +kernel
theorem dX14_party_9 : decode cX14_party 9 = .ok (.iconst 1, 1) := by decide +kernel
theorem dX14_party_10 : decode cX14_party 10 = .ok (.invokevirtual 202, 3) := by decide +kernel
theorem dX14_party_13 : decode cX14_party 13 = .ok (.ireturn, 1) := by decide +kernel
theorem dX14_pause_0 : decode cX14_pause 0 = .ok (.aload_n 0, 1) := by decide +kernel
theorem dX14_pause_1 : decode cX14_pause 1 = .ok (.iload_n 1, 1) := by decide +kernel
theorem dX14_pause_2 : decode cX14_pause 2 = .ok (.invokevirtual 318, 3) := by decide +kernel
theorem dX14_pause_5 : decode cX14_pause 5 = .ok (.ifCond .ne 9, 3) := by decide +kernel
theorem dX14_pause_8 : decode cX14_pause 8 = .ok (.aload_n 0, 1) := by decide +kernel
theorem dX14_pause_9 : decode cX14_pause 9 = .ok (.iconst 1, 1) := by decide +kernel
theorem dX14_pause_10 : decode cX14_pause 10 = .ok (.invokevirtual 202, 3) := by decide +kernel
theorem dX14_pause_13 : decode cX14_pause 13 = .ok (.ireturn, 1) := by decide +kernel
theorem dX14_peak_0 : decode cX14_peak 0 = .ok (.aload_n 0, 1) := by decide +kernel
theorem dX14_peak_1 : decode cX14_peak 1 = .ok (.iload_n 1, 1) := by decide +kernel
theorem dX14_peak_2 : decode cX14_peak 2 = .ok (.invokevirtual 208, 3) := by decide +kernel
theorem dX14_peak_5 : decode cX14_peak 5 = .ok (.ifCond .ne 9, 3) := by decide +kernel
theorem dX14_peak_8 : decode cX14_peak 8 = .ok (.aload_n 0, 1) := by decide +kernel
theorem dX14_peak_9 : decode cX14_peak 9 = .ok (.iconst 1, 1) := by decide +kernel
theorem dX14_peak_10 : decode cX14_peak 10 = .ok (.invokevirtual 202, 3) := by decide +kernel
theorem dX14_peak_13 : decode cX14_peak 13 = .ok (.ireturn, 1) := by decide +kernel
theorem dX14_placeOf_0 : decode cX14_placeOf 0 = .ok (.aload_n 0, 1) := by decide +kernel
theorem dX14_placeOf_1 : decode cX14_placeOf 1 = .ok (.iload_n 1, 1) := by decide +kernel
theorem dX14_placeOf_2 : decode cX14_placeOf 2 = .ok (.invokevirtual 318, 3) := by decide +kernel
theorem dX14_placeOf_5 : decode cX14_placeOf 5 = .ok (.ifCond .ne 9, 3) := by decide +kernel
theorem dX14_placeOf_8 : decode cX14_placeOf 8 = .ok (.aload_n 0, 1) := by decide +kernel
theorem dX14_placeOf_9 : decode cX14_placeOf 9 = .ok (.iconst 1, 1) := by decide +kernel
theorem dX14_placeOf_10 : decode cX14_placeOf 10 = .ok (.invokevirtual 202, 3) := by decide +kernel
theorem dX14_placeOf_13 : decode cX14_placeOf 13 = .ok (.ireturn, 1) := by decide +kernel
theorem dX14_plan_0 : decode cX14_plan 0 = .ok (.aload_n 0, 1) := by decide +kernel
theorem dX14_plan_1 : decode cX14_plan 1 = .ok (.iload_n 1, 1) := by decide +kernel
theorem dX14_plan_2 : decode cX14_plan 2 = .ok (.iconst 2, 1) := by decide +kernel
theorem dX14_plan_3 : decode cX14_plan 3 = .ok (.invokevirtual 347, 3) := by decide +kernel
theorem dX14_plan_6 : decode cX14_plan 6 = .ok (.ifCond .eq 36, 3) := by decide +kernel
theorem dX14_plan_42 : decode cX14_plan 42 = .ok (.iconst 0, 1) := by decide +kernel
theorem dX14_plan_43 : decode cX14_plan 43 = .ok (.ireturn, 1) := by decide +kernel
theorem dX14_planAt_0 : decode cX14_planAt 0 = .ok (.aload_n 0, 1) := by decide +kernel
theorem dX14_planAt_1 : decode cX14_planAt 1 = .ok (.iload_n 1, 1) := by decide +kernel
theorem dX14_planAt_2 : decode cX14_planAt 2 = .ok (.iconst 2, 1) := by decide +kernel
theorem dX14_planAt_3 : decode cX14_planAt 3 = .ok (.invokevirtual 347, 3) := by decide +kernel
theorem dX14_planAt_6 : decode cX14_planAt 6 = .ok (.ifCond .ne 5, 3) := by decide +kernel
theorem dX14_planAt_9 : decode cX14_planAt 9 = .ok (.iconst 0, 1) := by decide +kernel
theorem dX14_planAt_10 : decode cX14_planAt 10 = .ok (.ireturn, 1) := by decide +kernel
theorem dX14_rain_0 : decode cX14_rain 0 = .ok (.iload_n 1, 1) := by decide +kernel
theorem dX14_rain_1 : decode cX14_rain 1 = .ok (.i2l, 1) := by decide +kernel
theorem dX14_rain_2 : decode cX14_rain 2 = .ok (.lconst 0, 1) := by decide +kernel
theorem dX14_rain_3 : decode cX14_rain 3 = .ok (.ldc2_w 298, 3) := by decide +kernel
theorem dX14_rain_6 : decode cX14_rain 6 = .ok (.invokestatic 86, 3) := by decide +kernel
theorem dX14_rain_9 : decode cX14_rain 9 = .ok (.ifCond .eq 15, 3) := by decide +kernel
theorem dX14_rain_12 : decode cX14_rain 12 = .ok (.iload_n 2, 1) := by decide +kernel
theorem dX14_rain_13 : decode cX14_rain 13 = .ok (.i2l, 1) := by decide +kernel
theorem dX14_rain_14 : decode cX14_rain 14 = .ok (.lconst 0, 1) := by decide +kernel
theorem dX14_rain_15 : decode cX14_rain 15 = .ok (.ldc2_w 274, 3) := by decide +kernel
theorem dX14_rain_18 : decode cX14_rain 18 = .ok (.invokestatic 86, 3) := by decide +kernel
theorem dX14_rain_21 : decode cX14_rain 21 = .ok (.ifCond .ne 9, 3) := by decide +kernel
theorem dX14_rain_24 : decode cX14_rain 24 = .ok (.aload_n 0, 1) := by decide +kernel
theorem dX14_rain_25 : decode cX14_rain 25 = .ok (.iconst 1, 1) := by decide +kernel
theorem dX14_rain_26 : decode cX14_rain 26 = .ok (.invokevirtual 202, 3) := by decide +kernel
theorem dX14_rain_29 : decode cX14_rain 29 = .ok (.ireturn, 1) := by decide +kernel
theorem dX14_rain_30 : decode cX14_rain 30 = .ok (.aload_n 0, 1) := by decide +kernel
theorem dX14_rain_31 : decode cX14_rain 31 = .ok (.getfield 35, 3) := by decide +kernel
theorem dX14_rain_34 : decode cX14_rain 34 = .ok (.iload_n 1, 1) := by decide +kernel
theorem dX14_rain_35 : decode cX14_rain 35 = .ok (.iaload, 1) := by decide +kernel
theorem dX14_rain_36 : decode cX14_rain 36 = .ok (.istore_n 3, 1) := by decide +kernel
theorem dX14_rain_37 : decode cX14_rain 37 = .ok (.aload_n 0, 1) := by decide +kernel
theorem dX14_rain_38 : decode cX14_rain 38 = .ok (.getfield 35, 3) := by decide +kernel
theorem dX14_rain_41 : decode cX14_rain 41 = .ok (.iload_n 1, 1) := by decide +kernel
theorem dX14_rain_42 : decode cX14_rain 42 = .ok (.iload_n 2, 1) := by decide +kernel
theorem dX14_rain_43 : decode cX14_rain 43 = .ok (.iastore, 1) := by decide +kernel
theorem dX14_rain_44 : decode cX14_rain 44 = .ok (.aload_n 0, 1) := by decide +kernel
theorem dX14_rain_45 : decode cX14_rain 45 = .ok (.iconst 0, 1) := by decide +kernel
theorem dX14_rain_46 : decode cX14_rain 46 = .ok (.putfield 294, 3) := by decide +kernel
theorem dX14_rain_49 : decode cX14_rain 49 = .ok (.aload_n 0, 1) := by decide +kernel
theorem dX14_rain_50 : decode cX14_rain 50 = .ok (.iload_n 3, 1) := by decide +kernel
theorem dX14_rain_51 : decode cX14_rain 51 = .ok (.invokevirtual 205, 3) := by decide +kernel
theorem dX14_rain_54 : decode cX14_rain 54 = .ok (.ireturn, 1) := by decide +kernel
theorem dX14_setAside_0 : decode cX14_setAside 0 = .ok (.aload_n 0, 1) := by decide +kernel
theorem dX14_setAside_1 : decode cX14_setAside 1 = .ok (.iload_n 1, 1) := by decide +kernel
theorem dX14_setAside_2 : decode cX14_setAside 2 = .ok (.invokevirtual 225, 3) := by decide +kernel
theorem dX14_setAside_5 : decode cX14_setAside 5 = .ok (.ifCond .ne 9, 3) := by decide +kernel
theorem dX14_setAside_8 : decode cX14_setAside 8 = .ok (.aload_n 0, 1) := by decide +kernel
theorem dX14_setAside_9 : decode cX14_setAside 9 = .ok (.iconst 1, 1) := by decide +kernel
theorem dX14_setAside_10 : decode cX14_setAside 10 = .ok (.invokevirtual 228, 3) := by decide +kernel
theorem dX14_setAside_13 : decode cX14_setAside 13 = .ok (.ireturn, 1) := by decide +kernel
theorem dX14_setHeight_0 : decode cX14_setHeight 0 = .ok (.aload_n 0, 1) := by decide +kernel
theorem dX14_setHeight_1 : decode cX14_setHeight 1 = .ok (.iload_n 1, 1) := by decide +kernel
theorem dX14_setHeight_2 : decode cX14_setHeight 2 = .ok (.invokevirtual 208, 3) := by decide +kernel
theorem dX14_setHeight_5 : decode cX14_setHeight 5 = .ok (.ifCond .ne 9, 3) := by decide +kernel
theorem dX14_setHeight_8 : decode cX14_setHeight 8 = .ok (.aload_n 0, 1) := by decide +kernel
theorem dX14_setHeight_9 : decode cX14_setHeight 9 = .ok (.iconst 1, 1) := by decide +kernel
theorem dX14_setHeight_10 : decode cX14_setHeight 10 = .ok (.invokevirtual 202, 3) := by decide +kernel
theorem dX14_setHeight_13 : decode cX14_setHeight 13 = .ok (.ireturn, 1) := by decide +kernel
theorem dX14_shot_0 : decode cX14_shot 0 = .ok (.aload_n 0, 1) := by decide +kernel
theorem dX14_shot_1 : decode cX14_shot 1 = .ok (.iload_n 1, 1) := by decide +kernel
theorem dX14_shot_2 : decode cX14_shot 2 = .ok (.invokevirtual 208, 3) := by decide +kernel
theorem dX14_shot_5 : decode cX14_shot 5 = .ok (.ifCond .eq 11, 3) := by decide +kernel
theorem dX14_shot_16 : decode cX14_shot 16 = .ok (.aload_n 0, 1) := by decide +kernel
theorem dX14_shot_17 : decode cX14_shot 17 = .ok (.iconst 1, 1) := by decide +kernel
theorem dX14_shot_18 : decode cX14_shot 18 = .ok (.invokevirtual 202, 3) := by decide +kernel
theorem dX14_shot_21 : decode cX14_shot 21 = .ok (.ireturn, 1) := by decide +kernel
theorem dX14_shots_0 : decode cX14_shots 0 = .ok (.aload_n 0, 1) := by decide +kernel
theorem dX14_shots_1 : decode cX14_shots 1 = .ok (.aload_n 0, 1) := by decide +kernel
theorem dX14_shots_2 : decode cX14_shots 2 = .ok (.getfield 10, 3) := by decide +kernel
theorem dX14_shots_5 : decode cX14_shots 5 = .ok (.invokevirtual 90, 3) := by decide +kernel
theorem dX14_shots_8 : decode cX14_shots 8 = .ok (.invokevirtual 205, 3) := by decide +kernel
theorem dX14_shots_11 : decode cX14_shots 11 = .ok (.ireturn, 1) := by decide +kernel
theorem dX14_station_0 : decode cX14_station 0 = .ok (.aload_n 0, 1) := by decide +kernel
theorem dX14_station_1 : decode cX14_station 1 = .ok (.getfield 83, 3) := by decide +kernel
theorem dX14_station_4 : decode cX14_station 4 = .ok (.bipush 9, 2) := by decide +kernel
theorem dX14_station_6 : decode cX14_station 6 = .ok (.if_icmp .ne 9, 3) := by decide +kernel
theorem dX14_station_15 : decode cX14_station 15 = .ok (.aload_n 0, 1) := by decide +kernel
theorem dX14_station_16 : decode cX14_station 16 = .ok (.dup, 1) := by decide +kernel
theorem dX14_station_17 : decode cX14_station 17 = .ok (.getfield 83, 3) := by decide +kernel
theorem dX14_station_20 : decode cX14_station 20 = .ok (.iconst 1, 1) := by decide +kernel
theorem dX14_station_21 : decode cX14_station 21 = .ok (.iadd, 1) := by decide +kernel
theorem dX14_station_22 : decode cX14_station 22 = .ok (.putfield 83, 3) := by decide +kernel
theorem dX14_station_25 : decode cX14_station 25 = .ok (.aload_n 0, 1) := by decide +kernel
theorem dX14_station_26 : decode cX14_station 26 = .ok (.aload_n 0, 1) := by decide +kernel
theorem dX14_station_27 : decode cX14_station 27 = .ok (.getfield 83, 3) := by decide +kernel
theorem dX14_station_30 : decode cX14_station 30 = .ok (.iconst 1, 1) := by decide +kernel
theorem dX14_station_31 : decode cX14_station 31 = .ok (.isub, 1) := by decide +kernel
theorem dX14_station_32 : decode cX14_station 32 = .ok (.invokevirtual 205, 3) := by decide +kernel
theorem dX14_station_35 : decode cX14_station 35 = .ok (.ireturn, 1) := by decide +kernel
theorem dX14_stations_0 : decode cX14_stations 0 = .ok (.aload_n 0, 1) := by decide +kernel
theorem dX14_stations_1 : decode cX14_stations 1 = .ok (.aload_n 0, 1) := by decide +kernel
theorem dX14_stations_2 : decode cX14_stations 2 = .ok (.getfield 83, 3) := by decide +kernel
theorem dX14_stations_5 : decode cX14_stations 5 = .ok (.invokevirtual 205, 3) := by decide +kernel
theorem dX14_stations_8 : decode cX14_stations 8 = .ok (.ireturn, 1) := by decide +kernel
theorem dX14_sump_0 : decode cX14_sump 0 = .ok (.aload_n 0, 1) := by decide +kernel
theorem dX14_sump_1 : decode cX14_sump 1 = .ok (.iload_n 1, 1) := by decide +kernel
theorem dX14_sump_2 : decode cX14_sump 2 = .ok (.invokevirtual 225, 3) := by decide +kernel
theorem dX14_sump_5 : decode cX14_sump 5 = .ok (.ifCond .ne 9, 3) := by decide +kernel
theorem dX14_sump_8 : decode cX14_sump 8 = .ok (.aload_n 0, 1) := by decide +kernel
theorem dX14_sump_9 : decode cX14_sump 9 = .ok (.iconst 1, 1) := by decide +kernel
theorem dX14_sump_10 : decode cX14_sump 10 = .ok (.invokevirtual 202, 3) := by decide +kernel
theorem dX14_sump_13 : decode cX14_sump 13 = .ok (.ireturn, 1) := by decide +kernel
theorem dX14_tell_0 : decode cX14_tell 0 = .ok (.aload_n 0, 1) := by decide +kernel
theorem dX14_tell_1 : decode cX14_tell 1 = .ok (.iload_n 1, 1) := by decide +kernel
theorem dX14_tell_2 : decode cX14_tell 2 = .ok (.invokevirtual 318, 3) := by decide +kernel
theorem dX14_tell_5 : decode cX14_tell 5 = .ok (.ifCond .eq 11, 3) := by decide +kernel
theorem dX14_tell_16 : decode cX14_tell 16 = .ok (.aload_n 0, 1) := by decide +kernel
theorem dX14_tell_17 : decode cX14_tell 17 = .ok (.iconst 1, 1) := by decide +kernel
theorem dX14_tell_18 : decode cX14_tell 18 = .ok (.invokevirtual 202, 3) := by decide +kernel
theorem dX14_tell_21 : decode cX14_tell 21 = .ok (.ireturn, 1) := by decide +kernel
theorem dX14_top_0 : decode cX14_top 0 = .ok (.aload_n 0, 1) := by decide +kernel
theorem dX14_top_1 : decode cX14_top 1 = .ok (.iload_n 1, 1) := by decide +kernel
theorem dX14_top_2 : decode cX14_top 2 = .ok (.iload_n 2, 1) := by decide +kernel
theorem dX14_top_3 : decode cX14_top 3 = .ok (.iload_n 3, 1) := by decide +kernel
theorem dX14_top_4 : decode cX14_top 4 = .ok (.invokevirtual 241, 3) := by decide +kernel
theorem dX14_top_7 : decode cX14_top 7 = .ok (.ifCond .eq 19, 3) := by decide +kernel
theorem dX14_top_26 : decode cX14_top 26 = .ok (.lconst 0, 1) := by decide +kernel
theorem dX14_top_27 : decode cX14_top 27 = .ok (.lreturn, 1) := by decide +kernel
theorem dX14_trace_0 : decode cX14_trace 0 = .ok (.aload_n 0, 1) := by decide +kernel
theorem dX14_trace_1 : decode cX14_trace 1 = .ok (.iload_n 1, 1) := by decide +kernel
theorem dX14_trace_2 : decode cX14_trace 2 = .ok (.invokevirtual 208, 3) := by decide +kernel
theorem dX14_trace_5 : decode cX14_trace 5 = .ok (.ifCond .ne 9, 3) := by decide +kernel
theorem dX14_trace_8 : decode cX14_trace 8 = .ok (.aload_n 0, 1) := by decide +kernel
theorem dX14_trace_9 : decode cX14_trace 9 = .ok (.iconst 1, 1) := by decide +kernel
theorem dX14_trace_10 : decode cX14_trace 10 = .ok (.invokevirtual 202, 3) := by decide +kernel
theorem dX14_trace_13 : decode cX14_trace 13 = .ok (.ireturn, 1) := by decide +kernel
theorem dX14_traced_0 : decode cX14_traced 0 = .ok (.aload_n 0, 1) := by decide +kernel
theorem dX14_traced_1 : decode cX14_traced 1 = .ok (.iload_n 1, 1) := by decide +kernel
theorem dX14_traced_2 : decode cX14_traced 2 = .ok (.invokevirtual 208, 3) := by decide +kernel
theorem dX14_traced_5 : decode cX14_traced 5 = .ok (.ifCond .ne 9, 3) := by decide +kernel
theorem dX14_traced_8 : decode cX14_traced 8 = .ok (.aload_n 0, 1) := by decide +kernel
theorem dX14_traced_9 : decode cX14_traced 9 = .ok (.iconst 1, 1) := by decide +kernel
theorem dX14_traced_10 : decode cX14_traced 10 = .ok (.invokevirtual 202, 3) := by decide +kernel
theorem dX14_traced_13 : decode cX14_traced 13 = .ok (.ireturn, 1) := by decide +kernel
theorem dX14_water_0 : decode cX14_water 0 = .ok (.iload_n 1, 1) := by decide +kernel
theorem dX14_water_1 : decode cX14_water 1 = .ok (.i2l, 1) := by decide +kernel
theorem dX14_water_2 : decode cX14_water 2 = .ok (.lconst 0, 1) := by decide +kernel
theorem dX14_water_3 : decode cX14_water 3 = .ok (.ldc2_w 300, 3) := by decide +kernel
theorem dX14_water_6 : decode cX14_water 6 = .ok (.invokestatic 86, 3) := by decide +kernel
theorem dX14_water_9 : decode cX14_water 9 = .ok (.ifCond .eq 15, 3) := by decide +kernel
theorem dX14_water_12 : decode cX14_water 12 = .ok (.aload_n 0, 1) := by decide +kernel
theorem dX14_water_13 : decode cX14_water 13 = .ok (.aload_n 0, 1) := by decide +kernel
theorem dX14_water_14 : decode cX14_water 14 = .ok (.iload_n 1, 1) := by decide +kernel
theorem dX14_water_15 : decode cX14_water 15 = .ok (.invokevirtual 302, 3) := by decide +kernel
theorem dX14_water_18 : decode cX14_water 18 = .ok (.invokevirtual 205, 3) := by decide +kernel
theorem dX14_water_21 : decode cX14_water 21 = .ok (.goto 8, 3) := by decide +kernel
theorem dX14_water_24 : decode cX14_water 24 = .ok (.aload_n 0, 1) := by decide +kernel
theorem dX14_water_25 : decode cX14_water 25 = .ok (.iconst 1, 1) := by decide +kernel
theorem dX14_water_26 : decode cX14_water 26 = .ok (.invokevirtual 202, 3) := by decide +kernel
theorem dX14_water_29 : decode cX14_water 29 = .ok (.ireturn, 1) := by decide +kernel
set_option maxHeartbeats 4000000 in
set_option maxRecDepth 100000 in
/-- reference: shot -/
theorem g_shot (l : Launch) (D : va_G) (cy : Nat → ClassId) (h0 : Nat) (m0 : Nat) (m1 : Nat) (m2 : Nat) (m3 : Nat) (m4 : Nat) (m5 : Nat) (m6 : Nat) (m7 : Nat) (m8 : Nat) (m9 : Nat) (m10 : Nat) (m11 : Nat) (m12 : Nat) (m13 : Nat) (m14 : Nat) (m15 : Nat) (m16 : Nat) (m17 : Nat) (m18 : Nat) (m19 : Nat) (m20 : Nat) (a1 : Int32) (a2 : Int32) (a3 : Int32) (a4 : Int32) (a5 : Int32) (a6 : Int32) (a7 : Int32) (a8 : Int32) (sz : Nat)  : Met l yX14_shot (wz yX14_shot cX14_shot 11 (some .int)) ({ frames := 2, cells := 0, slots := 0, locals := 46 } : Room) (va_Pc [.ref h0, .int a1, .int a2, .int a3, .int a4, .int a5, .int a6, .int a7, .int a8] (zPre vwCl D cy [(h0, .inr (17, [.ref m0, .ref m1, .ref m2, .ref m3, .ref m4, .ref m5, .ref m6, .ref m7, .ref m8, .ref m9, .ref m10, .ref m11, .ref m12, .ref m13, .ref m14, .ref m15, .ref m16, .ref m17, .ref m18, .ref m19, .ref m20, .int 0, .int 0, .int 0, .int 0, .long 0, .int 0]))] sz)) (va_Qi (fun (r : Int32) (_ : Unit) => r = 0) (fun (u : Unit) t => zPost vwCl D (va_A [(h0, .inr (17, [.ref m0, .ref m1, .ref m2, .ref m3, .ref m4, .ref m5, .ref m6, .ref m7, .ref m8, .ref m9, .ref m10, .ref m11, .ref m12, .ref m13, .ref m14, .ref m15, .ref m16, .ref m17, .ref m18, .ref m19, .ref m20, .int 0, .int 0, .int 0, .int 0, .long 0, .int 0]))] sz) [(h0, .inr (17, [.ref m0, .ref m1, .ref m2, .ref m3, .ref m4, .ref m5, .ref m6, .ref m7, .ref m8, .ref m9, .ref m10, .ref m11, .ref m12, .ref m13, .ref m14, .ref m15, .ref m16, .ref m17, .ref m18, .ref m19, .ref m20, .int 1, .int 0, .int 0, .int 0, .long 0, .int 0]))] t) (va_A [(h0, .inr (17, [.ref m0, .ref m1, .ref m2, .ref m3, .ref m4, .ref m5, .ref m6, .ref m7, .ref m8, .ref m9, .ref m10, .ref m11, .ref m12, .ref m13, .ref m14, .ref m15, .ref m16, .ref m17, .ref m18, .ref m19, .ref m20, .int 0, .int 0, .int 0, .int 0, .long 0, .int 0]))] sz)) 0 0 (va_A [(h0, .inr (17, [.ref m0, .ref m1, .ref m2, .ref m3, .ref m4, .ref m5, .ref m6, .ref m7, .ref m8, .ref m9, .ref m10, .ref m11, .ref m12, .ref m13, .ref m14, .ref m15, .ref m16, .ref m17, .ref m18, .ref m19, .ref m20, .int 0, .int 0, .int 0, .int 0, .long 0, .int 0]))] sz) := by
  refine Met.ofW (cc := cX14_shot) (maxL := 11) (ret := (some .int)) (by decide) rfl ?_
  intro p e s m args below meth c s₁ B hml hv
  obtain ⟨rfl, hsz, hP, hK, hD0, hX, hY⟩ := hv
  have hx := B.exec
  have hb := B.bytes
  have hr := B.returns
  have hts0 := atoms_spec (ws := wz yX14_shot cX14_shot 11 (some .int)) B.pre
  have hts : ∀ w ∈ wAll, w.before _ s = true := fun w h => hts0 w (List.mem_cons_of_mem _ h)
  have hown : s.vm.findClass RX14 = some m.cls := findClass_of_methodNamed B.named
  have hlocks := B.notSynchronized
  subst hsz
  have hD := hD0.self (sz := s.heap.size)
  generalize hAe : va_A [(h0, .inr (17, [.ref m0, .ref m1, .ref m2, .ref m3, .ref m4, .ref m5, .ref m6, .ref m7, .ref m8, .ref m9, .ref m10, .ref m11, .ref m12, .ref m13, .ref m14, .ref m15, .ref m16, .ref m17, .ref m18, .ref m19, .ref m20, .int 0, .int 0, .int 0, .int 0, .long 0, .int 0]))] s.heap.size = A at hD hY ⊢
  have hA : ∀ q : Nat, s.heap.size ≤ q → A q := fun q h => by rw [← hAe]; exact Or.inr h
  have hS : va_S A s.heap s.heap [] := va_S.rf
  have hP : va_P D vwCl [(h0, .inr (17, [.ref m0, .ref m1, .ref m2, .ref m3, .ref m4, .ref m5, .ref m6, .ref m7, .ref m8, .ref m9, .ref m10, .ref m11, .ref m12, .ref m13, .ref m14, .ref m15, .ref m16, .ref m17, .ref m18, .ref m19, .ref m20, .int 0, .int 0, .int 0, .int 0, .long 0, .int 0]))] s.heap := hP
  have hl := lv_entry ([.ref h0, .int a1, .int a2, .int a3, .int a4, .int a5, .int a6, .int a7, .int a8]) (n := 11) (Nat.le_of_ble_eq_true rfl)
  rw [lg_entry_eq]
  generalize (lg_sl ([.ref h0, .int a1, .int a2, .int a3, .int a4, .int a5, .int a6, .int a7, .int a8]) ++ List.replicate (11 - (lg_sl ([.ref h0, .int a1, .int a2, .int a3, .int a4, .int a5, .int a6, .int a7, .int a8])).length) Slot.unset).toArray = ls at hl ⊢
  have hl : lv_has ls 11 [(0, .ref h0), (1, .int a1), (2, .int a2), (3, .int a3), (4, .int a4), (5, .int a5), (6, .int a6), (7, .int a7), (8, .int a8)] := hl
  refine z_anyQ (fun Q hQe => ?_)
  refine lv_aload_n hx hb dX14_shot_0 rfl (lv_at hl 0 rfl) ?_
  refine lv_iload_n hx hb dX14_shot_1 rfl (lv_at hl 1 rfl) ?_
  refine zq_i (wc := [(h0, .inr (17, [.ref m0, .ref m1, .ref m2, .ref m3, .ref m4, .ref m5, .ref m6, .ref m7, .ref m8, .ref m9, .ref m10, .ref m11, .ref m12, .ref m13, .ref m14, .ref m15, .ref m16, .ref m17, .ref m18, .ref m19, .ref m20, .int 0, .int 0, .int 0, .int 0, .long 0, .int 0]))]) (wr := []) (va_runV (As := [.int a1]) (rest := []) ⟨hx, hb, hml, hown, hts⟩ (k_isStation l D cy h0 m0 m1 m2 m3 m4 m5 m6 m7 m8 m9 m10 m11 m12 m13 m14 m15 m16 m17 m18 m19 m20 a1 s.heap.size ) (cwV 1 hts (gzV (gz q337) q336 q338 q339 q285) rfl rfl rfl vX14_isStation ⟨Nat.le_of_ble_eq_true rfl, Nat.le_of_ble_eq_true rfl⟩) (zpV (ci := 17) (T := TX14) (N := 27) (q0 := 0) hK hX hY hP hD hS hA [0] (by decide) rfl rfl rfl) rfl rfl hl.1 rfl (lv_room (Nat.le_of_ble_eq_true rfl)) dX14_shot_2 ⟨Nat.le_of_ble_eq_true rfl, Nat.le_of_ble_eq_true rfl⟩) hP hD hS hA [0] [] rfl rfl (by decide) (by decide) (fun x2 u1 H locs hw hP hD hS => ?_)
  obtain rfl : x2 = 0 := hw
  have hP : va_P D vwCl [(h0, .inr (17, [.ref m0, .ref m1, .ref m2, .ref m3, .ref m4, .ref m5, .ref m6, .ref m7, .ref m8, .ref m9, .ref m10, .ref m11, .ref m12, .ref m13, .ref m14, .ref m15, .ref m16, .ref m17, .ref m18, .ref m19, .ref m20, .int 0, .int 0, .int 0, .int 0, .long 0, .int 0]))] H := hP
  have hD : va_D A [(h0, .inr (17, [.ref m0, .ref m1, .ref m2, .ref m3, .ref m4, .ref m5, .ref m6, .ref m7, .ref m8, .ref m9, .ref m10, .ref m11, .ref m12, .ref m13, .ref m14, .ref m15, .ref m16, .ref m17, .ref m18, .ref m19, .ref m20, .int 0, .int 0, .int 0, .int 0, .long 0, .int 0]))] := hD
  refine lv_if_eq (tgt := 16) hx hb dX14_shot_5 (by decide) (fun _ => ?_) (fun c_5_2 => absurd (by decide +kernel) c_5_2)
  refine lv_aload_n hx hb dX14_shot_16 rfl (lv_at hl 0 rfl) ?_
  refine lv_iconst (v := 1) hx hb dX14_shot_17 (by decide) ?_
  refine zq_i (wc := [(h0, .inr (17, [.ref m0, .ref m1, .ref m2, .ref m3, .ref m4, .ref m5, .ref m6, .ref m7, .ref m8, .ref m9, .ref m10, .ref m11, .ref m12, .ref m13, .ref m14, .ref m15, .ref m16, .ref m17, .ref m18, .ref m19, .ref m20, .int 0, .int 0, .int 0, .int 0, .long 0, .int 0]))]) (wr := []) (va_runV (As := [.int 1]) (rest := []) ⟨hx, hb, hml, hown, hts⟩ (k_fails l D cy h0 m0 m1 m2 m3 m4 m5 m6 m7 m8 m9 m10 m11 m12 m13 m14 m15 m16 m17 m18 m19 m20 0 0 0 0 0 0 1 H.size ) (cwV 1 hts (gzV (gz q345) q344 q346 q347 q285) rfl rfl rfl vX14_fails ⟨Nat.le_of_ble_eq_true rfl, Nat.le_of_ble_eq_true rfl⟩) (zpV (ci := 17) (T := TX14) (N := 27) (q0 := 0) hK hX hY hP hD hS hA [0] (by decide) rfl rfl rfl) rfl rfl hl.1 rfl (lv_room (Nat.le_of_ble_eq_true rfl)) dX14_shot_18 ⟨Nat.le_of_ble_eq_true rfl, Nat.le_of_ble_eq_true rfl⟩) hP hD hS hA [0] [] rfl rfl (by decide) (by decide) (fun x5 u4 H locs hw hP hD hS => ?_)
  obtain rfl : x5 = 0 := hw
  have hP : va_P D vwCl [(h0, .inr (17, [.ref m0, .ref m1, .ref m2, .ref m3, .ref m4, .ref m5, .ref m6, .ref m7, .ref m8, .ref m9, .ref m10, .ref m11, .ref m12, .ref m13, .ref m14, .ref m15, .ref m16, .ref m17, .ref m18, .ref m19, .ref m20, .int 1, .int 0, .int 0, .int 0, .long 0, .int 0]))] H := hP
  have hD : va_D A [(h0, .inr (17, [.ref m0, .ref m1, .ref m2, .ref m3, .ref m4, .ref m5, .ref m6, .ref m7, .ref m8, .ref m9, .ref m10, .ref m11, .ref m12, .ref m13, .ref m14, .ref m15, .ref m16, .ref m17, .ref m18, .ref m19, .ref m20, .int 1, .int 0, .int 0, .int 0, .long 0, .int 0]))] := hD
  have hP9 := hP.sub (ws' := [(h0, .inr (17, [.ref m0, .ref m1, .ref m2, .ref m3, .ref m4, .ref m5, .ref m6, .ref m7, .ref m8, .ref m9, .ref m10, .ref m11, .ref m12, .ref m13, .ref m14, .ref m15, .ref m16, .ref m17, .ref m18, .ref m19, .ref m20, .int 1, .int 0, .int 0, .int 0, .long 0, .int 0]))]) [0] rfl
  have hD9 := hD.sub (ws' := [(h0, .inr (17, [.ref m0, .ref m1, .ref m2, .ref m3, .ref m4, .ref m5, .ref m6, .ref m7, .ref m8, .ref m9, .ref m10, .ref m11, .ref m12, .ref m13, .ref m14, .ref m15, .ref m16, .ref m17, .ref m18, .ref m19, .ref m20, .int 1, .int 0, .int 0, .int 0, .long 0, .int 0]))]) [0] (by decide) rfl
  refine W.widen (k := 0) (n := 0) (Nat.le_of_ble_eq_true rfl) (Nat.le_of_ble_eq_true rfl) ?_
  rw [hQe]
  exact W.iret (v := 0) hx hb hr (fun t ht hW => ⟨⟨0, (), rfl, rfl, ⟨by rw [ht]; exact hP9, hD9⟩⟩, hS.F ht⟩) hS.2.2 dX14_shot_21
set_option maxHeartbeats 4000000 in
set_option maxRecDepth 100000 in
/-- reference: join -/
theorem g_join (l : Launch) (D : va_G) (cy : Nat → ClassId) (h0 : Nat) (m0 : Nat) (m1 : Nat) (m2 : Nat) (m3 : Nat) (m4 : Nat) (m5 : Nat) (m6 : Nat) (m7 : Nat) (m8 : Nat) (m9 : Nat) (m10 : Nat) (m11 : Nat) (m12 : Nat) (m13 : Nat) (m14 : Nat) (m15 : Nat) (m16 : Nat) (m17 : Nat) (m18 : Nat) (m19 : Nat) (m20 : Nat) (a1 : Int32) (a2 : Int32) (a3 : Int32) (sz : Nat)  : Met l yX14_join (wz yX14_join cX14_join 5 (some .boolean)) ({ frames := 2, cells := 0, slots := 0, locals := 46 } : Room) (va_Pc [.ref h0, .int a1, .int a2, .int a3] (zPre vwCl D cy [(h0, .inr (17, [.ref m0, .ref m1, .ref m2, .ref m3, .ref m4, .ref m5, .ref m6, .ref m7, .ref m8, .ref m9, .ref m10, .ref m11, .ref m12, .ref m13, .ref m14, .ref m15, .ref m16, .ref m17, .ref m18, .ref m19, .ref m20, .int 0, .int 0, .int 0, .int 0, .long 0, .int 0]))] sz)) (va_Qi (fun (r : Int32) (_ : Unit) => r = 0) (fun (u : Unit) t => zPost vwCl D (va_A [(h0, .inr (17, [.ref m0, .ref m1, .ref m2, .ref m3, .ref m4, .ref m5, .ref m6, .ref m7, .ref m8, .ref m9, .ref m10, .ref m11, .ref m12, .ref m13, .ref m14, .ref m15, .ref m16, .ref m17, .ref m18, .ref m19, .ref m20, .int 0, .int 0, .int 0, .int 0, .long 0, .int 0]))] sz) [(h0, .inr (17, [.ref m0, .ref m1, .ref m2, .ref m3, .ref m4, .ref m5, .ref m6, .ref m7, .ref m8, .ref m9, .ref m10, .ref m11, .ref m12, .ref m13, .ref m14, .ref m15, .ref m16, .ref m17, .ref m18, .ref m19, .ref m20, .int 1, .int 0, .int 0, .int 0, .long 0, .int 0]))] t) (va_A [(h0, .inr (17, [.ref m0, .ref m1, .ref m2, .ref m3, .ref m4, .ref m5, .ref m6, .ref m7, .ref m8, .ref m9, .ref m10, .ref m11, .ref m12, .ref m13, .ref m14, .ref m15, .ref m16, .ref m17, .ref m18, .ref m19, .ref m20, .int 0, .int 0, .int 0, .int 0, .long 0, .int 0]))] sz)) 0 0 (va_A [(h0, .inr (17, [.ref m0, .ref m1, .ref m2, .ref m3, .ref m4, .ref m5, .ref m6, .ref m7, .ref m8, .ref m9, .ref m10, .ref m11, .ref m12, .ref m13, .ref m14, .ref m15, .ref m16, .ref m17, .ref m18, .ref m19, .ref m20, .int 0, .int 0, .int 0, .int 0, .long 0, .int 0]))] sz) := by
  refine Met.ofW (cc := cX14_join) (maxL := 5) (ret := (some .boolean)) (by decide) rfl ?_
  intro p e s m args below meth c s₁ B hml hv
  obtain ⟨rfl, hsz, hP, hK, hD0, hX, hY⟩ := hv
  have hx := B.exec
  have hb := B.bytes
  have hr := B.returns
  have hts0 := atoms_spec (ws := wz yX14_join cX14_join 5 (some .boolean)) B.pre
  have hts : ∀ w ∈ wAll, w.before _ s = true := fun w h => hts0 w (List.mem_cons_of_mem _ h)
  have hown : s.vm.findClass RX14 = some m.cls := findClass_of_methodNamed B.named
  have hlocks := B.notSynchronized
  subst hsz
  have hD := hD0.self (sz := s.heap.size)
  generalize hAe : va_A [(h0, .inr (17, [.ref m0, .ref m1, .ref m2, .ref m3, .ref m4, .ref m5, .ref m6, .ref m7, .ref m8, .ref m9, .ref m10, .ref m11, .ref m12, .ref m13, .ref m14, .ref m15, .ref m16, .ref m17, .ref m18, .ref m19, .ref m20, .int 0, .int 0, .int 0, .int 0, .long 0, .int 0]))] s.heap.size = A at hD hY ⊢
  have hA : ∀ q : Nat, s.heap.size ≤ q → A q := fun q h => by rw [← hAe]; exact Or.inr h
  have hS : va_S A s.heap s.heap [] := va_S.rf
  have hP : va_P D vwCl [(h0, .inr (17, [.ref m0, .ref m1, .ref m2, .ref m3, .ref m4, .ref m5, .ref m6, .ref m7, .ref m8, .ref m9, .ref m10, .ref m11, .ref m12, .ref m13, .ref m14, .ref m15, .ref m16, .ref m17, .ref m18, .ref m19, .ref m20, .int 0, .int 0, .int 0, .int 0, .long 0, .int 0]))] s.heap := hP
  have hl := lv_entry ([.ref h0, .int a1, .int a2, .int a3]) (n := 5) (Nat.le_of_ble_eq_true rfl)
  rw [lg_entry_eq]
  generalize (lg_sl ([.ref h0, .int a1, .int a2, .int a3]) ++ List.replicate (5 - (lg_sl ([.ref h0, .int a1, .int a2, .int a3])).length) Slot.unset).toArray = ls at hl ⊢
  have hl : lv_has ls 5 [(0, .ref h0), (1, .int a1), (2, .int a2), (3, .int a3)] := hl
  refine z_anyQ (fun Q hQe => ?_)
  refine lv_aload_n hx hb dX14_join_0 rfl (lv_at hl 0 rfl) ?_
  refine lv_iload_n hx hb dX14_join_1 rfl (lv_at hl 1 rfl) ?_
  refine zq_i (wc := [(h0, .inr (17, [.ref m0, .ref m1, .ref m2, .ref m3, .ref m4, .ref m5, .ref m6, .ref m7, .ref m8, .ref m9, .ref m10, .ref m11, .ref m12, .ref m13, .ref m14, .ref m15, .ref m16, .ref m17, .ref m18, .ref m19, .ref m20, .int 0, .int 0, .int 0, .int 0, .long 0, .int 0]))]) (wr := []) (va_runV (As := [.int a1]) (rest := []) ⟨hx, hb, hml, hown, hts⟩ (k_isStation l D cy h0 m0 m1 m2 m3 m4 m5 m6 m7 m8 m9 m10 m11 m12 m13 m14 m15 m16 m17 m18 m19 m20 a1 s.heap.size ) (cwV 1 hts (gzV (gz q337) q336 q338 q339 q285) rfl rfl rfl vX14_isStation ⟨Nat.le_of_ble_eq_true rfl, Nat.le_of_ble_eq_true rfl⟩) (zpV (ci := 17) (T := TX14) (N := 27) (q0 := 0) hK hX hY hP hD hS hA [0] (by decide) rfl rfl rfl) rfl rfl hl.1 rfl (lv_room (Nat.le_of_ble_eq_true rfl)) dX14_join_2 ⟨Nat.le_of_ble_eq_true rfl, Nat.le_of_ble_eq_true rfl⟩) hP hD hS hA [0] [] rfl rfl (by decide) (by decide) (fun x2 u1 H locs hw hP hD hS => ?_)
  obtain rfl : x2 = 0 := hw
  have hP : va_P D vwCl [(h0, .inr (17, [.ref m0, .ref m1, .ref m2, .ref m3, .ref m4, .ref m5, .ref m6, .ref m7, .ref m8, .ref m9, .ref m10, .ref m11, .ref m12, .ref m13, .ref m14, .ref m15, .ref m16, .ref m17, .ref m18, .ref m19, .ref m20, .int 0, .int 0, .int 0, .int 0, .long 0, .int 0]))] H := hP
  have hD : va_D A [(h0, .inr (17, [.ref m0, .ref m1, .ref m2, .ref m3, .ref m4, .ref m5, .ref m6, .ref m7, .ref m8, .ref m9, .ref m10, .ref m11, .ref m12, .ref m13, .ref m14, .ref m15, .ref m16, .ref m17, .ref m18, .ref m19, .ref m20, .int 0, .int 0, .int 0, .int 0, .long 0, .int 0]))] := hD
  refine lv_if_eq (tgt := 16) hx hb dX14_join_5 (by decide) (fun _ => ?_) (fun c_5_2 => absurd (by decide +kernel) c_5_2)
  refine lv_aload_n hx hb dX14_join_16 rfl (lv_at hl 0 rfl) ?_
  refine lv_iconst (v := 1) hx hb dX14_join_17 (by decide) ?_
  refine zq_i (wc := [(h0, .inr (17, [.ref m0, .ref m1, .ref m2, .ref m3, .ref m4, .ref m5, .ref m6, .ref m7, .ref m8, .ref m9, .ref m10, .ref m11, .ref m12, .ref m13, .ref m14, .ref m15, .ref m16, .ref m17, .ref m18, .ref m19, .ref m20, .int 0, .int 0, .int 0, .int 0, .long 0, .int 0]))]) (wr := []) (va_runV (As := [.int 1]) (rest := []) ⟨hx, hb, hml, hown, hts⟩ (k_refuses l D cy h0 m0 m1 m2 m3 m4 m5 m6 m7 m8 m9 m10 m11 m12 m13 m14 m15 m16 m17 m18 m19 m20 0 0 0 0 0 0 1 H.size ) (cwV 1 hts (gzV (gz q349) q348 q350 q351 q285) rfl rfl rfl vX14_refuses ⟨Nat.le_of_ble_eq_true rfl, Nat.le_of_ble_eq_true rfl⟩) (zpV (ci := 17) (T := TX14) (N := 27) (q0 := 0) hK hX hY hP hD hS hA [0] (by decide) rfl rfl rfl) rfl rfl hl.1 rfl (lv_room (Nat.le_of_ble_eq_true rfl)) dX14_join_18 ⟨Nat.le_of_ble_eq_true rfl, Nat.le_of_ble_eq_true rfl⟩) hP hD hS hA [0] [] rfl rfl (by decide) (by decide) (fun x5 u4 H locs hw hP hD hS => ?_)
  obtain rfl : x5 = 0 := hw
  have hP : va_P D vwCl [(h0, .inr (17, [.ref m0, .ref m1, .ref m2, .ref m3, .ref m4, .ref m5, .ref m6, .ref m7, .ref m8, .ref m9, .ref m10, .ref m11, .ref m12, .ref m13, .ref m14, .ref m15, .ref m16, .ref m17, .ref m18, .ref m19, .ref m20, .int 1, .int 0, .int 0, .int 0, .long 0, .int 0]))] H := hP
  have hD : va_D A [(h0, .inr (17, [.ref m0, .ref m1, .ref m2, .ref m3, .ref m4, .ref m5, .ref m6, .ref m7, .ref m8, .ref m9, .ref m10, .ref m11, .ref m12, .ref m13, .ref m14, .ref m15, .ref m16, .ref m17, .ref m18, .ref m19, .ref m20, .int 1, .int 0, .int 0, .int 0, .long 0, .int 0]))] := hD
  have hP9 := hP.sub (ws' := [(h0, .inr (17, [.ref m0, .ref m1, .ref m2, .ref m3, .ref m4, .ref m5, .ref m6, .ref m7, .ref m8, .ref m9, .ref m10, .ref m11, .ref m12, .ref m13, .ref m14, .ref m15, .ref m16, .ref m17, .ref m18, .ref m19, .ref m20, .int 1, .int 0, .int 0, .int 0, .long 0, .int 0]))]) [0] rfl
  have hD9 := hD.sub (ws' := [(h0, .inr (17, [.ref m0, .ref m1, .ref m2, .ref m3, .ref m4, .ref m5, .ref m6, .ref m7, .ref m8, .ref m9, .ref m10, .ref m11, .ref m12, .ref m13, .ref m14, .ref m15, .ref m16, .ref m17, .ref m18, .ref m19, .ref m20, .int 1, .int 0, .int 0, .int 0, .long 0, .int 0]))]) [0] (by decide) rfl
  refine W.widen (k := 0) (n := 0) (Nat.le_of_ble_eq_true rfl) (Nat.le_of_ble_eq_true rfl) ?_
  rw [hQe]
  exact W.zret (v := 0) hx hb hr rfl (fun t ht hW => ⟨⟨0, (), rfl, rfl, ⟨by rw [ht]; exact hP9, hD9⟩⟩, hS.F ht⟩) hS.2.2 dX14_join_21
set_option maxHeartbeats 4000000 in
set_option maxRecDepth 100000 in
/-- reference: oneWith -/
theorem g_oneWith (l : Launch) (D : va_G) (cy : Nat → ClassId) (h0 : Nat) (m0 : Nat) (m1 : Nat) (m2 : Nat) (m3 : Nat) (m4 : Nat) (m5 : Nat) (m6 : Nat) (m7 : Nat) (m8 : Nat) (m9 : Nat) (m10 : Nat) (m11 : Nat) (m12 : Nat) (m13 : Nat) (m14 : Nat) (m15 : Nat) (m16 : Nat) (m17 : Nat) (m18 : Nat) (m19 : Nat) (m20 : Nat) (a1 : Int32) (a2 : Int32) (sz : Nat)  : Met l yX14_oneWith (wz yX14_oneWith cX14_oneWith 3 (some .int)) ({ frames := 2, cells := 0, slots := 0, locals := 46 } : Room) (va_Pc [.ref h0, .int a1, .int a2] (zPre vwCl D cy [(h0, .inr (17, [.ref m0, .ref m1, .ref m2, .ref m3, .ref m4, .ref m5, .ref m6, .ref m7, .ref m8, .ref m9, .ref m10, .ref m11, .ref m12, .ref m13, .ref m14, .ref m15, .ref m16, .ref m17, .ref m18, .ref m19, .ref m20, .int 0, .int 0, .int 0, .int 0, .long 0, .int 0]))] sz)) (va_Qi (fun (r : Int32) (_ : Unit) => r = 0) (fun (u : Unit) t => zPost vwCl D (va_A [(h0, .inr (17, [.ref m0, .ref m1, .ref m2, .ref m3, .ref m4, .ref m5, .ref m6, .ref m7, .ref m8, .ref m9, .ref m10, .ref m11, .ref m12, .ref m13, .ref m14, .ref m15, .ref m16, .ref m17, .ref m18, .ref m19, .ref m20, .int 0, .int 0, .int 0, .int 0, .long 0, .int 0]))] sz) [(h0, .inr (17, [.ref m0, .ref m1, .ref m2, .ref m3, .ref m4, .ref m5, .ref m6, .ref m7, .ref m8, .ref m9, .ref m10, .ref m11, .ref m12, .ref m13, .ref m14, .ref m15, .ref m16, .ref m17, .ref m18, .ref m19, .ref m20, .int 1, .int 0, .int 0, .int 0, .long 0, .int 0]))] t) (va_A [(h0, .inr (17, [.ref m0, .ref m1, .ref m2, .ref m3, .ref m4, .ref m5, .ref m6, .ref m7, .ref m8, .ref m9, .ref m10, .ref m11, .ref m12, .ref m13, .ref m14, .ref m15, .ref m16, .ref m17, .ref m18, .ref m19, .ref m20, .int 0, .int 0, .int 0, .int 0, .long 0, .int 0]))] sz)) 0 0 (va_A [(h0, .inr (17, [.ref m0, .ref m1, .ref m2, .ref m3, .ref m4, .ref m5, .ref m6, .ref m7, .ref m8, .ref m9, .ref m10, .ref m11, .ref m12, .ref m13, .ref m14, .ref m15, .ref m16, .ref m17, .ref m18, .ref m19, .ref m20, .int 0, .int 0, .int 0, .int 0, .long 0, .int 0]))] sz) := by
  refine Met.ofW (cc := cX14_oneWith) (maxL := 3) (ret := (some .int)) (by decide) rfl ?_
  intro p e s m args below meth c s₁ B hml hv
  obtain ⟨rfl, hsz, hP, hK, hD0, hX, hY⟩ := hv
  have hx := B.exec
  have hb := B.bytes
  have hr := B.returns
  have hts0 := atoms_spec (ws := wz yX14_oneWith cX14_oneWith 3 (some .int)) B.pre
  have hts : ∀ w ∈ wAll, w.before _ s = true := fun w h => hts0 w (List.mem_cons_of_mem _ h)
  have hown : s.vm.findClass RX14 = some m.cls := findClass_of_methodNamed B.named
  have hlocks := B.notSynchronized
  subst hsz
  have hD := hD0.self (sz := s.heap.size)
  generalize hAe : va_A [(h0, .inr (17, [.ref m0, .ref m1, .ref m2, .ref m3, .ref m4, .ref m5, .ref m6, .ref m7, .ref m8, .ref m9, .ref m10, .ref m11, .ref m12, .ref m13, .ref m14, .ref m15, .ref m16, .ref m17, .ref m18, .ref m19, .ref m20, .int 0, .int 0, .int 0, .int 0, .long 0, .int 0]))] s.heap.size = A at hD hY ⊢
  have hA : ∀ q : Nat, s.heap.size ≤ q → A q := fun q h => by rw [← hAe]; exact Or.inr h
  have hS : va_S A s.heap s.heap [] := va_S.rf
  have hP : va_P D vwCl [(h0, .inr (17, [.ref m0, .ref m1, .ref m2, .ref m3, .ref m4, .ref m5, .ref m6, .ref m7, .ref m8, .ref m9, .ref m10, .ref m11, .ref m12, .ref m13, .ref m14, .ref m15, .ref m16, .ref m17, .ref m18, .ref m19, .ref m20, .int 0, .int 0, .int 0, .int 0, .long 0, .int 0]))] s.heap := hP
  have hl := lv_entry ([.ref h0, .int a1, .int a2]) (n := 3) (Nat.le_of_ble_eq_true rfl)
  rw [lg_entry_eq]
  generalize (lg_sl ([.ref h0, .int a1, .int a2]) ++ List.replicate (3 - (lg_sl ([.ref h0, .int a1, .int a2])).length) Slot.unset).toArray = ls at hl ⊢
  have hl : lv_has ls 3 [(0, .ref h0), (1, .int a1), (2, .int a2)] := hl
  refine z_anyQ (fun Q hQe => ?_)
  refine lv_aload_n hx hb dX14_oneWith_0 rfl (lv_at hl 0 rfl) ?_
  refine lv_iload_n hx hb dX14_oneWith_1 rfl (lv_at hl 1 rfl) ?_
  refine zq_i (wc := [(h0, .inr (17, [.ref m0, .ref m1, .ref m2, .ref m3, .ref m4, .ref m5, .ref m6, .ref m7, .ref m8, .ref m9, .ref m10, .ref m11, .ref m12, .ref m13, .ref m14, .ref m15, .ref m16, .ref m17, .ref m18, .ref m19, .ref m20, .int 0, .int 0, .int 0, .int 0, .long 0, .int 0]))]) (wr := []) (va_runV (As := [.int a1]) (rest := []) ⟨hx, hb, hml, hown, hts⟩ (k_isStation l D cy h0 m0 m1 m2 m3 m4 m5 m6 m7 m8 m9 m10 m11 m12 m13 m14 m15 m16 m17 m18 m19 m20 a1 s.heap.size ) (cwV 1 hts (gzV (gz q337) q336 q338 q339 q285) rfl rfl rfl vX14_isStation ⟨Nat.le_of_ble_eq_true rfl, Nat.le_of_ble_eq_true rfl⟩) (zpV (ci := 17) (T := TX14) (N := 27) (q0 := 0) hK hX hY hP hD hS hA [0] (by decide) rfl rfl rfl) rfl rfl hl.1 rfl (lv_room (Nat.le_of_ble_eq_true rfl)) dX14_oneWith_2 ⟨Nat.le_of_ble_eq_true rfl, Nat.le_of_ble_eq_true rfl⟩) hP hD hS hA [0] [] rfl rfl (by decide) (by decide) (fun x2 u1 H locs hw hP hD hS => ?_)
  obtain rfl : x2 = 0 := hw
  have hP : va_P D vwCl [(h0, .inr (17, [.ref m0, .ref m1, .ref m2, .ref m3, .ref m4, .ref m5, .ref m6, .ref m7, .ref m8, .ref m9, .ref m10, .ref m11, .ref m12, .ref m13, .ref m14, .ref m15, .ref m16, .ref m17, .ref m18, .ref m19, .ref m20, .int 0, .int 0, .int 0, .int 0, .long 0, .int 0]))] H := hP
  have hD : va_D A [(h0, .inr (17, [.ref m0, .ref m1, .ref m2, .ref m3, .ref m4, .ref m5, .ref m6, .ref m7, .ref m8, .ref m9, .ref m10, .ref m11, .ref m12, .ref m13, .ref m14, .ref m15, .ref m16, .ref m17, .ref m18, .ref m19, .ref m20, .int 0, .int 0, .int 0, .int 0, .long 0, .int 0]))] := hD
  refine lv_if_ne (tgt := 14) hx hb dX14_oneWith_5 (by decide) (fun c_5_2 => absurd (by decide +kernel) c_5_2) (fun _ => ?_)
  refine lv_aload_n hx hb dX14_oneWith_8 rfl (lv_at hl 0 rfl) ?_
  refine lv_iconst (v := 1) hx hb dX14_oneWith_9 (by decide) ?_
  refine zq_i (wc := [(h0, .inr (17, [.ref m0, .ref m1, .ref m2, .ref m3, .ref m4, .ref m5, .ref m6, .ref m7, .ref m8, .ref m9, .ref m10, .ref m11, .ref m12, .ref m13, .ref m14, .ref m15, .ref m16, .ref m17, .ref m18, .ref m19, .ref m20, .int 0, .int 0, .int 0, .int 0, .long 0, .int 0]))]) (wr := []) (va_runV (As := [.int 1]) (rest := []) ⟨hx, hb, hml, hown, hts⟩ (k_fails l D cy h0 m0 m1 m2 m3 m4 m5 m6 m7 m8 m9 m10 m11 m12 m13 m14 m15 m16 m17 m18 m19 m20 0 0 0 0 0 0 1 H.size ) (cwV 1 hts (gzV (gz q345) q344 q346 q347 q285) rfl rfl rfl vX14_fails ⟨Nat.le_of_ble_eq_true rfl, Nat.le_of_ble_eq_true rfl⟩) (zpV (ci := 17) (T := TX14) (N := 27) (q0 := 0) hK hX hY hP hD hS hA [0] (by decide) rfl rfl rfl) rfl rfl hl.1 rfl (lv_room (Nat.le_of_ble_eq_true rfl)) dX14_oneWith_10 ⟨Nat.le_of_ble_eq_true rfl, Nat.le_of_ble_eq_true rfl⟩) hP hD hS hA [0] [] rfl rfl (by decide) (by decide) (fun x5 u4 H locs hw hP hD hS => ?_)
  obtain rfl : x5 = 0 := hw
  have hP : va_P D vwCl [(h0, .inr (17, [.ref m0, .ref m1, .ref m2, .ref m3, .ref m4, .ref m5, .ref m6, .ref m7, .ref m8, .ref m9, .ref m10, .ref m11, .ref m12, .ref m13, .ref m14, .ref m15, .ref m16, .ref m17, .ref m18, .ref m19, .ref m20, .int 1, .int 0, .int 0, .int 0, .long 0, .int 0]))] H := hP
  have hD : va_D A [(h0, .inr (17, [.ref m0, .ref m1, .ref m2, .ref m3, .ref m4, .ref m5, .ref m6, .ref m7, .ref m8, .ref m9, .ref m10, .ref m11, .ref m12, .ref m13, .ref m14, .ref m15, .ref m16, .ref m17, .ref m18, .ref m19, .ref m20, .int 1, .int 0, .int 0, .int 0, .long 0, .int 0]))] := hD
  have hP9 := hP.sub (ws' := [(h0, .inr (17, [.ref m0, .ref m1, .ref m2, .ref m3, .ref m4, .ref m5, .ref m6, .ref m7, .ref m8, .ref m9, .ref m10, .ref m11, .ref m12, .ref m13, .ref m14, .ref m15, .ref m16, .ref m17, .ref m18, .ref m19, .ref m20, .int 1, .int 0, .int 0, .int 0, .long 0, .int 0]))]) [0] rfl
  have hD9 := hD.sub (ws' := [(h0, .inr (17, [.ref m0, .ref m1, .ref m2, .ref m3, .ref m4, .ref m5, .ref m6, .ref m7, .ref m8, .ref m9, .ref m10, .ref m11, .ref m12, .ref m13, .ref m14, .ref m15, .ref m16, .ref m17, .ref m18, .ref m19, .ref m20, .int 1, .int 0, .int 0, .int 0, .long 0, .int 0]))]) [0] (by decide) rfl
  refine W.widen (k := 0) (n := 0) (Nat.le_of_ble_eq_true rfl) (Nat.le_of_ble_eq_true rfl) ?_
  rw [hQe]
  exact W.iret (v := 0) hx hb hr (fun t ht hW => ⟨⟨0, (), rfl, rfl, ⟨by rw [ht]; exact hP9, hD9⟩⟩, hS.F ht⟩) hS.2.2 dX14_oneWith_13
set_option maxHeartbeats 4000000 in
set_option maxRecDepth 100000 in
/-- reference: isHung -/
theorem g_isHung (l : Launch) (D : va_G) (cy : Nat → ClassId) (h0 : Nat) (m0 : Nat) (m1 : Nat) (m2 : Nat) (m3 : Nat) (m4 : Nat) (m5 : Nat) (m6 : Nat) (m7 : Nat) (m8 : Nat) (m9 : Nat) (m10 : Nat) (m11 : Nat) (m12 : Nat) (m13 : Nat) (m14 : Nat) (m15 : Nat) (m16 : Nat) (m17 : Nat) (m18 : Nat) (m19 : Nat) (m20 : Nat) (a1 : Int32) (a2 : Int32) (sz : Nat)  : Met l yX14_isHung (wz yX14_isHung cX14_isHung 3 (some .boolean)) ({ frames := 2, cells := 0, slots := 0, locals := 46 } : Room) (va_Pc [.ref h0, .int a1, .int a2] (zPre vwCl D cy [(h0, .inr (17, [.ref m0, .ref m1, .ref m2, .ref m3, .ref m4, .ref m5, .ref m6, .ref m7, .ref m8, .ref m9, .ref m10, .ref m11, .ref m12, .ref m13, .ref m14, .ref m15, .ref m16, .ref m17, .ref m18, .ref m19, .ref m20, .int 0, .int 0, .int 0, .int 0, .long 0, .int 0]))] sz)) (va_Qi (fun (r : Int32) (_ : Unit) => r = 0) (fun (u : Unit) t => zPost vwCl D (va_A [(h0, .inr (17, [.ref m0, .ref m1, .ref m2, .ref m3, .ref m4, .ref m5, .ref m6, .ref m7, .ref m8, .ref m9, .ref m10, .ref m11, .ref m12, .ref m13, .ref m14, .ref m15, .ref m16, .ref m17, .ref m18, .ref m19, .ref m20, .int 0, .int 0, .int 0, .int 0, .long 0, .int 0]))] sz) [(h0, .inr (17, [.ref m0, .ref m1, .ref m2, .ref m3, .ref m4, .ref m5, .ref m6, .ref m7, .ref m8, .ref m9, .ref m10, .ref m11, .ref m12, .ref m13, .ref m14, .ref m15, .ref m16, .ref m17, .ref m18, .ref m19, .ref m20, .int 1, .int 0, .int 0, .int 0, .long 0, .int 0]))] t) (va_A [(h0, .inr (17, [.ref m0, .ref m1, .ref m2, .ref m3, .ref m4, .ref m5, .ref m6, .ref m7, .ref m8, .ref m9, .ref m10, .ref m11, .ref m12, .ref m13, .ref m14, .ref m15, .ref m16, .ref m17, .ref m18, .ref m19, .ref m20, .int 0, .int 0, .int 0, .int 0, .long 0, .int 0]))] sz)) 0 0 (va_A [(h0, .inr (17, [.ref m0, .ref m1, .ref m2, .ref m3, .ref m4, .ref m5, .ref m6, .ref m7, .ref m8, .ref m9, .ref m10, .ref m11, .ref m12, .ref m13, .ref m14, .ref m15, .ref m16, .ref m17, .ref m18, .ref m19, .ref m20, .int 0, .int 0, .int 0, .int 0, .long 0, .int 0]))] sz) := by
  refine Met.ofW (cc := cX14_isHung) (maxL := 3) (ret := (some .boolean)) (by decide) rfl ?_
  intro p e s m args below meth c s₁ B hml hv
  obtain ⟨rfl, hsz, hP, hK, hD0, hX, hY⟩ := hv
  have hx := B.exec
  have hb := B.bytes
  have hr := B.returns
  have hts0 := atoms_spec (ws := wz yX14_isHung cX14_isHung 3 (some .boolean)) B.pre
  have hts : ∀ w ∈ wAll, w.before _ s = true := fun w h => hts0 w (List.mem_cons_of_mem _ h)
  have hown : s.vm.findClass RX14 = some m.cls := findClass_of_methodNamed B.named
  have hlocks := B.notSynchronized
  subst hsz
  have hD := hD0.self (sz := s.heap.size)
  generalize hAe : va_A [(h0, .inr (17, [.ref m0, .ref m1, .ref m2, .ref m3, .ref m4, .ref m5, .ref m6, .ref m7, .ref m8, .ref m9, .ref m10, .ref m11, .ref m12, .ref m13, .ref m14, .ref m15, .ref m16, .ref m17, .ref m18, .ref m19, .ref m20, .int 0, .int 0, .int 0, .int 0, .long 0, .int 0]))] s.heap.size = A at hD hY ⊢
  have hA : ∀ q : Nat, s.heap.size ≤ q → A q := fun q h => by rw [← hAe]; exact Or.inr h
  have hS : va_S A s.heap s.heap [] := va_S.rf
  have hP : va_P D vwCl [(h0, .inr (17, [.ref m0, .ref m1, .ref m2, .ref m3, .ref m4, .ref m5, .ref m6, .ref m7, .ref m8, .ref m9, .ref m10, .ref m11, .ref m12, .ref m13, .ref m14, .ref m15, .ref m16, .ref m17, .ref m18, .ref m19, .ref m20, .int 0, .int 0, .int 0, .int 0, .long 0, .int 0]))] s.heap := hP
  have hl := lv_entry ([.ref h0, .int a1, .int a2]) (n := 3) (Nat.le_of_ble_eq_true rfl)
  rw [lg_entry_eq]
  generalize (lg_sl ([.ref h0, .int a1, .int a2]) ++ List.replicate (3 - (lg_sl ([.ref h0, .int a1, .int a2])).length) Slot.unset).toArray = ls at hl ⊢
  have hl : lv_has ls 3 [(0, .ref h0), (1, .int a1), (2, .int a2)] := hl
  refine z_anyQ (fun Q hQe => ?_)
  refine lv_aload_n hx hb dX14_isHung_0 rfl (lv_at hl 0 rfl) ?_
  refine lv_iload_n hx hb dX14_isHung_1 rfl (lv_at hl 1 rfl) ?_
  refine zq_i (wc := [(h0, .inr (17, [.ref m0, .ref m1, .ref m2, .ref m3, .ref m4, .ref m5, .ref m6, .ref m7, .ref m8, .ref m9, .ref m10, .ref m11, .ref m12, .ref m13, .ref m14, .ref m15, .ref m16, .ref m17, .ref m18, .ref m19, .ref m20, .int 0, .int 0, .int 0, .int 0, .long 0, .int 0]))]) (wr := []) (va_runV (As := [.int a1]) (rest := []) ⟨hx, hb, hml, hown, hts⟩ (k_isStation l D cy h0 m0 m1 m2 m3 m4 m5 m6 m7 m8 m9 m10 m11 m12 m13 m14 m15 m16 m17 m18 m19 m20 a1 s.heap.size ) (cwV 1 hts (gzV (gz q337) q336 q338 q339 q285) rfl rfl rfl vX14_isStation ⟨Nat.le_of_ble_eq_true rfl, Nat.le_of_ble_eq_true rfl⟩) (zpV (ci := 17) (T := TX14) (N := 27) (q0 := 0) hK hX hY hP hD hS hA [0] (by decide) rfl rfl rfl) rfl rfl hl.1 rfl (lv_room (Nat.le_of_ble_eq_true rfl)) dX14_isHung_2 ⟨Nat.le_of_ble_eq_true rfl, Nat.le_of_ble_eq_true rfl⟩) hP hD hS hA [0] [] rfl rfl (by decide) (by decide) (fun x2 u1 H locs hw hP hD hS => ?_)
  obtain rfl : x2 = 0 := hw
  have hP : va_P D vwCl [(h0, .inr (17, [.ref m0, .ref m1, .ref m2, .ref m3, .ref m4, .ref m5, .ref m6, .ref m7, .ref m8, .ref m9, .ref m10, .ref m11, .ref m12, .ref m13, .ref m14, .ref m15, .ref m16, .ref m17, .ref m18, .ref m19, .ref m20, .int 0, .int 0, .int 0, .int 0, .long 0, .int 0]))] H := hP
  have hD : va_D A [(h0, .inr (17, [.ref m0, .ref m1, .ref m2, .ref m3, .ref m4, .ref m5, .ref m6, .ref m7, .ref m8, .ref m9, .ref m10, .ref m11, .ref m12, .ref m13, .ref m14, .ref m15, .ref m16, .ref m17, .ref m18, .ref m19, .ref m20, .int 0, .int 0, .int 0, .int 0, .long 0, .int 0]))] := hD
  refine lv_if_ne (tgt := 14) hx hb dX14_isHung_5 (by decide) (fun c_5_2 => absurd (by decide +kernel) c_5_2) (fun _ => ?_)
  refine lv_aload_n hx hb dX14_isHung_8 rfl (lv_at hl 0 rfl) ?_
  refine lv_iconst (v := 1) hx hb dX14_isHung_9 (by decide) ?_
  refine zq_i (wc := [(h0, .inr (17, [.ref m0, .ref m1, .ref m2, .ref m3, .ref m4, .ref m5, .ref m6, .ref m7, .ref m8, .ref m9, .ref m10, .ref m11, .ref m12, .ref m13, .ref m14, .ref m15, .ref m16, .ref m17, .ref m18, .ref m19, .ref m20, .int 0, .int 0, .int 0, .int 0, .long 0, .int 0]))]) (wr := []) (va_runV (As := [.int 1]) (rest := []) ⟨hx, hb, hml, hown, hts⟩ (k_refuses l D cy h0 m0 m1 m2 m3 m4 m5 m6 m7 m8 m9 m10 m11 m12 m13 m14 m15 m16 m17 m18 m19 m20 0 0 0 0 0 0 1 H.size ) (cwV 1 hts (gzV (gz q349) q348 q350 q351 q285) rfl rfl rfl vX14_refuses ⟨Nat.le_of_ble_eq_true rfl, Nat.le_of_ble_eq_true rfl⟩) (zpV (ci := 17) (T := TX14) (N := 27) (q0 := 0) hK hX hY hP hD hS hA [0] (by decide) rfl rfl rfl) rfl rfl hl.1 rfl (lv_room (Nat.le_of_ble_eq_true rfl)) dX14_isHung_10 ⟨Nat.le_of_ble_eq_true rfl, Nat.le_of_ble_eq_true rfl⟩) hP hD hS hA [0] [] rfl rfl (by decide) (by decide) (fun x5 u4 H locs hw hP hD hS => ?_)
  obtain rfl : x5 = 0 := hw
  have hP : va_P D vwCl [(h0, .inr (17, [.ref m0, .ref m1, .ref m2, .ref m3, .ref m4, .ref m5, .ref m6, .ref m7, .ref m8, .ref m9, .ref m10, .ref m11, .ref m12, .ref m13, .ref m14, .ref m15, .ref m16, .ref m17, .ref m18, .ref m19, .ref m20, .int 1, .int 0, .int 0, .int 0, .long 0, .int 0]))] H := hP
  have hD : va_D A [(h0, .inr (17, [.ref m0, .ref m1, .ref m2, .ref m3, .ref m4, .ref m5, .ref m6, .ref m7, .ref m8, .ref m9, .ref m10, .ref m11, .ref m12, .ref m13, .ref m14, .ref m15, .ref m16, .ref m17, .ref m18, .ref m19, .ref m20, .int 1, .int 0, .int 0, .int 0, .long 0, .int 0]))] := hD
  have hP9 := hP.sub (ws' := [(h0, .inr (17, [.ref m0, .ref m1, .ref m2, .ref m3, .ref m4, .ref m5, .ref m6, .ref m7, .ref m8, .ref m9, .ref m10, .ref m11, .ref m12, .ref m13, .ref m14, .ref m15, .ref m16, .ref m17, .ref m18, .ref m19, .ref m20, .int 1, .int 0, .int 0, .int 0, .long 0, .int 0]))]) [0] rfl
  have hD9 := hD.sub (ws' := [(h0, .inr (17, [.ref m0, .ref m1, .ref m2, .ref m3, .ref m4, .ref m5, .ref m6, .ref m7, .ref m8, .ref m9, .ref m10, .ref m11, .ref m12, .ref m13, .ref m14, .ref m15, .ref m16, .ref m17, .ref m18, .ref m19, .ref m20, .int 1, .int 0, .int 0, .int 0, .long 0, .int 0]))]) [0] (by decide) rfl
  refine W.widen (k := 0) (n := 0) (Nat.le_of_ble_eq_true rfl) (Nat.le_of_ble_eq_true rfl) ?_
  rw [hQe]
  exact W.zret (v := 0) hx hb hr rfl (fun t ht hW => ⟨⟨0, (), rfl, rfl, ⟨by rw [ht]; exact hP9, hD9⟩⟩, hS.F ht⟩) hS.2.2 dX14_isHung_13
set_option maxHeartbeats 4000000 in
set_option maxRecDepth 100000 in
/-- reference: top -/
theorem g_top (l : Launch) (D : va_G) (cy : Nat → ClassId) (h0 : Nat) (m0 : Nat) (m1 : Nat) (m2 : Nat) (m3 : Nat) (m4 : Nat) (m5 : Nat) (m6 : Nat) (m7 : Nat) (m8 : Nat) (m9 : Nat) (m10 : Nat) (m11 : Nat) (m12 : Nat) (m13 : Nat) (m14 : Nat) (m15 : Nat) (m16 : Nat) (m17 : Nat) (m18 : Nat) (m19 : Nat) (m20 : Nat) (a1 : Int32) (a2 : Int32) (a3 : Int32) (sz : Nat)  : Met l yX14_top (wz yX14_top cX14_top 4 (some .long)) ({ frames := 3, cells := 0, slots := 0, locals := 69 } : Room) (va_Pc [.ref h0, .int a1, .int a2, .int a3] (zPre vwCl D cy [(h0, .inr (17, [.ref m0, .ref m1, .ref m2, .ref m3, .ref m4, .ref m5, .ref m6, .ref m7, .ref m8, .ref m9, .ref m10, .ref m11, .ref m12, .ref m13, .ref m14, .ref m15, .ref m16, .ref m17, .ref m18, .ref m19, .ref m20, .int 0, .int 0, .int 0, .int 0, .long 0, .int 0]))] sz)) (va_Ql (fun (r : Int64) (_ : Unit) => r = 0) (fun (u : Unit) t => zPost vwCl D (va_A [(h0, .inr (17, [.ref m0, .ref m1, .ref m2, .ref m3, .ref m4, .ref m5, .ref m6, .ref m7, .ref m8, .ref m9, .ref m10, .ref m11, .ref m12, .ref m13, .ref m14, .ref m15, .ref m16, .ref m17, .ref m18, .ref m19, .ref m20, .int 0, .int 0, .int 0, .int 0, .long 0, .int 0]))] sz) [(h0, .inr (17, [.ref m0, .ref m1, .ref m2, .ref m3, .ref m4, .ref m5, .ref m6, .ref m7, .ref m8, .ref m9, .ref m10, .ref m11, .ref m12, .ref m13, .ref m14, .ref m15, .ref m16, .ref m17, .ref m18, .ref m19, .ref m20, .int 1, .int 0, .int 0, .int 0, .long 0, .int 0]))] t) (va_A [(h0, .inr (17, [.ref m0, .ref m1, .ref m2, .ref m3, .ref m4, .ref m5, .ref m6, .ref m7, .ref m8, .ref m9, .ref m10, .ref m11, .ref m12, .ref m13, .ref m14, .ref m15, .ref m16, .ref m17, .ref m18, .ref m19, .ref m20, .int 0, .int 0, .int 0, .int 0, .long 0, .int 0]))] sz)) 0 0 (va_A [(h0, .inr (17, [.ref m0, .ref m1, .ref m2, .ref m3, .ref m4, .ref m5, .ref m6, .ref m7, .ref m8, .ref m9, .ref m10, .ref m11, .ref m12, .ref m13, .ref m14, .ref m15, .ref m16, .ref m17, .ref m18, .ref m19, .ref m20, .int 0, .int 0, .int 0, .int 0, .long 0, .int 0]))] sz) := by
  refine Met.ofW (cc := cX14_top) (maxL := 4) (ret := (some .long)) (by decide) rfl ?_
  intro p e s m args below meth c s₁ B hml hv
  obtain ⟨rfl, hsz, hP, hK, hD0, hX, hY⟩ := hv
  have hx := B.exec
  have hb := B.bytes
  have hr := B.returns
  have hts0 := atoms_spec (ws := wz yX14_top cX14_top 4 (some .long)) B.pre
  have hts : ∀ w ∈ wAll, w.before _ s = true := fun w h => hts0 w (List.mem_cons_of_mem _ h)
  have hown : s.vm.findClass RX14 = some m.cls := findClass_of_methodNamed B.named
  have hlocks := B.notSynchronized
  subst hsz
  have hD := hD0.self (sz := s.heap.size)
  generalize hAe : va_A [(h0, .inr (17, [.ref m0, .ref m1, .ref m2, .ref m3, .ref m4, .ref m5, .ref m6, .ref m7, .ref m8, .ref m9, .ref m10, .ref m11, .ref m12, .ref m13, .ref m14, .ref m15, .ref m16, .ref m17, .ref m18, .ref m19, .ref m20, .int 0, .int 0, .int 0, .int 0, .long 0, .int 0]))] s.heap.size = A at hD hY ⊢
  have hA : ∀ q : Nat, s.heap.size ≤ q → A q := fun q h => by rw [← hAe]; exact Or.inr h
  have hS : va_S A s.heap s.heap [] := va_S.rf
  have hP : va_P D vwCl [(h0, .inr (17, [.ref m0, .ref m1, .ref m2, .ref m3, .ref m4, .ref m5, .ref m6, .ref m7, .ref m8, .ref m9, .ref m10, .ref m11, .ref m12, .ref m13, .ref m14, .ref m15, .ref m16, .ref m17, .ref m18, .ref m19, .ref m20, .int 0, .int 0, .int 0, .int 0, .long 0, .int 0]))] s.heap := hP
  have hl := lv_entry ([.ref h0, .int a1, .int a2, .int a3]) (n := 4) (Nat.le_of_ble_eq_true rfl)
  rw [lg_entry_eq]
  generalize (lg_sl ([.ref h0, .int a1, .int a2, .int a3]) ++ List.replicate (4 - (lg_sl ([.ref h0, .int a1, .int a2, .int a3])).length) Slot.unset).toArray = ls at hl ⊢
  have hl : lv_has ls 4 [(0, .ref h0), (1, .int a1), (2, .int a2), (3, .int a3)] := hl
  refine z_anyQ (fun Q hQe => ?_)
  refine lv_aload_n hx hb dX14_top_0 rfl (lv_at hl 0 rfl) ?_
  refine lv_iload_n hx hb dX14_top_1 rfl (lv_at hl 1 rfl) ?_
  refine lv_iload_n hx hb dX14_top_2 rfl (lv_at hl 2 rfl) ?_
  refine lv_iload_n hx hb dX14_top_3 rfl (lv_at hl 3 rfl) ?_
  refine zq_i (wc := [(h0, .inr (17, [.ref m0, .ref m1, .ref m2, .ref m3, .ref m4, .ref m5, .ref m6, .ref m7, .ref m8, .ref m9, .ref m10, .ref m11, .ref m12, .ref m13, .ref m14, .ref m15, .ref m16, .ref m17, .ref m18, .ref m19, .ref m20, .int 0, .int 0, .int 0, .int 0, .long 0, .int 0]))]) (wr := []) (va_runV (As := [.int a1, .int a2, .int a3]) (rest := []) ⟨hx, hb, hml, hown, hts⟩ (k_isPlace l D cy h0 m0 m1 m2 m3 m4 m5 m6 m7 m8 m9 m10 m11 m12 m13 m14 m15 m16 m17 m18 m19 m20 a1 a2 a3 s.heap.size ) (cwV 3 hts (gzV (gz q353) q352 q354 q355 q285) rfl rfl rfl vX14_isPlace ⟨Nat.le_of_ble_eq_true rfl, Nat.le_of_ble_eq_true rfl⟩) (zpV (ci := 17) (T := TX14) (N := 27) (q0 := 0) hK hX hY hP hD hS hA [0] (by decide) rfl rfl rfl) rfl rfl hl.1 rfl (lv_room (Nat.le_of_ble_eq_true rfl)) dX14_top_4 ⟨Nat.le_of_ble_eq_true rfl, Nat.le_of_ble_eq_true rfl⟩) hP hD hS hA [0] [] rfl rfl (by decide) (by decide) (fun x2 u1 H locs hw hP hD hS => ?_)
  obtain rfl : x2 = 0 := hw
  have hP : va_P D vwCl [(h0, .inr (17, [.ref m0, .ref m1, .ref m2, .ref m3, .ref m4, .ref m5, .ref m6, .ref m7, .ref m8, .ref m9, .ref m10, .ref m11, .ref m12, .ref m13, .ref m14, .ref m15, .ref m16, .ref m17, .ref m18, .ref m19, .ref m20, .int 1, .int 0, .int 0, .int 0, .long 0, .int 0]))] H := hP
  have hD : va_D A [(h0, .inr (17, [.ref m0, .ref m1, .ref m2, .ref m3, .ref m4, .ref m5, .ref m6, .ref m7, .ref m8, .ref m9, .ref m10, .ref m11, .ref m12, .ref m13, .ref m14, .ref m15, .ref m16, .ref m17, .ref m18, .ref m19, .ref m20, .int 1, .int 0, .int 0, .int 0, .long 0, .int 0]))] := hD
  refine lv_if_eq (tgt := 26) hx hb dX14_top_7 (by decide) (fun _ => ?_) (fun c_7_2 => absurd (by decide +kernel) c_7_2)
  refine lv_lconst (v := 0) hx hb dX14_top_26 rfl ?_
  have hP9 := hP.sub (ws' := [(h0, .inr (17, [.ref m0, .ref m1, .ref m2, .ref m3, .ref m4, .ref m5, .ref m6, .ref m7, .ref m8, .ref m9, .ref m10, .ref m11, .ref m12, .ref m13, .ref m14, .ref m15, .ref m16, .ref m17, .ref m18, .ref m19, .ref m20, .int 1, .int 0, .int 0, .int 0, .long 0, .int 0]))]) [0] rfl
  have hD9 := hD.sub (ws' := [(h0, .inr (17, [.ref m0, .ref m1, .ref m2, .ref m3, .ref m4, .ref m5, .ref m6, .ref m7, .ref m8, .ref m9, .ref m10, .ref m11, .ref m12, .ref m13, .ref m14, .ref m15, .ref m16, .ref m17, .ref m18, .ref m19, .ref m20, .int 1, .int 0, .int 0, .int 0, .long 0, .int 0]))]) [0] (by decide) rfl
  refine W.widen (k := 0) (n := 0) (Nat.le_of_ble_eq_true rfl) (Nat.le_of_ble_eq_true rfl) ?_
  rw [hQe]
  exact W.lret (v := 0) hx hb hr (fun t ht hW => ⟨⟨0, (), rfl, rfl, ⟨by rw [ht]; exact hP9, hD9⟩⟩, hS.F ht⟩) hS.2.2 dX14_top_27
set_option maxHeartbeats 4000000 in
set_option maxRecDepth 100000 in
/-- reference: bottom -/
theorem g_bottom (l : Launch) (D : va_G) (cy : Nat → ClassId) (h0 : Nat) (m0 : Nat) (m1 : Nat) (m2 : Nat) (m3 : Nat) (m4 : Nat) (m5 : Nat) (m6 : Nat) (m7 : Nat) (m8 : Nat) (m9 : Nat) (m10 : Nat) (m11 : Nat) (m12 : Nat) (m13 : Nat) (m14 : Nat) (m15 : Nat) (m16 : Nat) (m17 : Nat) (m18 : Nat) (m19 : Nat) (m20 : Nat) (a1 : Int32) (a2 : Int32) (a3 : Int32) (sz : Nat)  : Met l yX14_bottom (wz yX14_bottom cX14_bottom 4 (some .long)) ({ frames := 3, cells := 0, slots := 0, locals := 69 } : Room) (va_Pc [.ref h0, .int a1, .int a2, .int a3] (zPre vwCl D cy [(h0, .inr (17, [.ref m0, .ref m1, .ref m2, .ref m3, .ref m4, .ref m5, .ref m6, .ref m7, .ref m8, .ref m9, .ref m10, .ref m11, .ref m12, .ref m13, .ref m14, .ref m15, .ref m16, .ref m17, .ref m18, .ref m19, .ref m20, .int 0, .int 0, .int 0, .int 0, .long 0, .int 0]))] sz)) (va_Ql (fun (r : Int64) (_ : Unit) => r = 0) (fun (u : Unit) t => zPost vwCl D (va_A [(h0, .inr (17, [.ref m0, .ref m1, .ref m2, .ref m3, .ref m4, .ref m5, .ref m6, .ref m7, .ref m8, .ref m9, .ref m10, .ref m11, .ref m12, .ref m13, .ref m14, .ref m15, .ref m16, .ref m17, .ref m18, .ref m19, .ref m20, .int 0, .int 0, .int 0, .int 0, .long 0, .int 0]))] sz) [(h0, .inr (17, [.ref m0, .ref m1, .ref m2, .ref m3, .ref m4, .ref m5, .ref m6, .ref m7, .ref m8, .ref m9, .ref m10, .ref m11, .ref m12, .ref m13, .ref m14, .ref m15, .ref m16, .ref m17, .ref m18, .ref m19, .ref m20, .int 1, .int 0, .int 0, .int 0, .long 0, .int 0]))] t) (va_A [(h0, .inr (17, [.ref m0, .ref m1, .ref m2, .ref m3, .ref m4, .ref m5, .ref m6, .ref m7, .ref m8, .ref m9, .ref m10, .ref m11, .ref m12, .ref m13, .ref m14, .ref m15, .ref m16, .ref m17, .ref m18, .ref m19, .ref m20, .int 0, .int 0, .int 0, .int 0, .long 0, .int 0]))] sz)) 0 0 (va_A [(h0, .inr (17, [.ref m0, .ref m1, .ref m2, .ref m3, .ref m4, .ref m5, .ref m6, .ref m7, .ref m8, .ref m9, .ref m10, .ref m11, .ref m12, .ref m13, .ref m14, .ref m15, .ref m16, .ref m17, .ref m18, .ref m19, .ref m20, .int 0, .int 0, .int 0, .int 0, .long 0, .int 0]))] sz) := by
  refine Met.ofW (cc := cX14_bottom) (maxL := 4) (ret := (some .long)) (by decide) rfl ?_
  intro p e s m args below meth c s₁ B hml hv
  obtain ⟨rfl, hsz, hP, hK, hD0, hX, hY⟩ := hv
  have hx := B.exec
  have hb := B.bytes
  have hr := B.returns
  have hts0 := atoms_spec (ws := wz yX14_bottom cX14_bottom 4 (some .long)) B.pre
  have hts : ∀ w ∈ wAll, w.before _ s = true := fun w h => hts0 w (List.mem_cons_of_mem _ h)
  have hown : s.vm.findClass RX14 = some m.cls := findClass_of_methodNamed B.named
  have hlocks := B.notSynchronized
  subst hsz
  have hD := hD0.self (sz := s.heap.size)
  generalize hAe : va_A [(h0, .inr (17, [.ref m0, .ref m1, .ref m2, .ref m3, .ref m4, .ref m5, .ref m6, .ref m7, .ref m8, .ref m9, .ref m10, .ref m11, .ref m12, .ref m13, .ref m14, .ref m15, .ref m16, .ref m17, .ref m18, .ref m19, .ref m20, .int 0, .int 0, .int 0, .int 0, .long 0, .int 0]))] s.heap.size = A at hD hY ⊢
  have hA : ∀ q : Nat, s.heap.size ≤ q → A q := fun q h => by rw [← hAe]; exact Or.inr h
  have hS : va_S A s.heap s.heap [] := va_S.rf
  have hP : va_P D vwCl [(h0, .inr (17, [.ref m0, .ref m1, .ref m2, .ref m3, .ref m4, .ref m5, .ref m6, .ref m7, .ref m8, .ref m9, .ref m10, .ref m11, .ref m12, .ref m13, .ref m14, .ref m15, .ref m16, .ref m17, .ref m18, .ref m19, .ref m20, .int 0, .int 0, .int 0, .int 0, .long 0, .int 0]))] s.heap := hP
  have hl := lv_entry ([.ref h0, .int a1, .int a2, .int a3]) (n := 4) (Nat.le_of_ble_eq_true rfl)
  rw [lg_entry_eq]
  generalize (lg_sl ([.ref h0, .int a1, .int a2, .int a3]) ++ List.replicate (4 - (lg_sl ([.ref h0, .int a1, .int a2, .int a3])).length) Slot.unset).toArray = ls at hl ⊢
  have hl : lv_has ls 4 [(0, .ref h0), (1, .int a1), (2, .int a2), (3, .int a3)] := hl
  refine z_anyQ (fun Q hQe => ?_)
  refine lv_aload_n hx hb dX14_bottom_0 rfl (lv_at hl 0 rfl) ?_
  refine lv_iload_n hx hb dX14_bottom_1 rfl (lv_at hl 1 rfl) ?_
  refine lv_iload_n hx hb dX14_bottom_2 rfl (lv_at hl 2 rfl) ?_
  refine lv_iload_n hx hb dX14_bottom_3 rfl (lv_at hl 3 rfl) ?_
  refine zq_i (wc := [(h0, .inr (17, [.ref m0, .ref m1, .ref m2, .ref m3, .ref m4, .ref m5, .ref m6, .ref m7, .ref m8, .ref m9, .ref m10, .ref m11, .ref m12, .ref m13, .ref m14, .ref m15, .ref m16, .ref m17, .ref m18, .ref m19, .ref m20, .int 0, .int 0, .int 0, .int 0, .long 0, .int 0]))]) (wr := []) (va_runV (As := [.int a1, .int a2, .int a3]) (rest := []) ⟨hx, hb, hml, hown, hts⟩ (k_isPlace l D cy h0 m0 m1 m2 m3 m4 m5 m6 m7 m8 m9 m10 m11 m12 m13 m14 m15 m16 m17 m18 m19 m20 a1 a2 a3 s.heap.size ) (cwV 3 hts (gzV (gz q353) q352 q354 q355 q285) rfl rfl rfl vX14_isPlace ⟨Nat.le_of_ble_eq_true rfl, Nat.le_of_ble_eq_true rfl⟩) (zpV (ci := 17) (T := TX14) (N := 27) (q0 := 0) hK hX hY hP hD hS hA [0] (by decide) rfl rfl rfl) rfl rfl hl.1 rfl (lv_room (Nat.le_of_ble_eq_true rfl)) dX14_bottom_4 ⟨Nat.le_of_ble_eq_true rfl, Nat.le_of_ble_eq_true rfl⟩) hP hD hS hA [0] [] rfl rfl (by decide) (by decide) (fun x2 u1 H locs hw hP hD hS => ?_)
  obtain rfl : x2 = 0 := hw
  have hP : va_P D vwCl [(h0, .inr (17, [.ref m0, .ref m1, .ref m2, .ref m3, .ref m4, .ref m5, .ref m6, .ref m7, .ref m8, .ref m9, .ref m10, .ref m11, .ref m12, .ref m13, .ref m14, .ref m15, .ref m16, .ref m17, .ref m18, .ref m19, .ref m20, .int 1, .int 0, .int 0, .int 0, .long 0, .int 0]))] H := hP
  have hD : va_D A [(h0, .inr (17, [.ref m0, .ref m1, .ref m2, .ref m3, .ref m4, .ref m5, .ref m6, .ref m7, .ref m8, .ref m9, .ref m10, .ref m11, .ref m12, .ref m13, .ref m14, .ref m15, .ref m16, .ref m17, .ref m18, .ref m19, .ref m20, .int 1, .int 0, .int 0, .int 0, .long 0, .int 0]))] := hD
  refine lv_if_eq (tgt := 24) hx hb dX14_bottom_7 (by decide) (fun _ => ?_) (fun c_7_2 => absurd (by decide +kernel) c_7_2)
  refine lv_lconst (v := 0) hx hb dX14_bottom_24 rfl ?_
  have hP9 := hP.sub (ws' := [(h0, .inr (17, [.ref m0, .ref m1, .ref m2, .ref m3, .ref m4, .ref m5, .ref m6, .ref m7, .ref m8, .ref m9, .ref m10, .ref m11, .ref m12, .ref m13, .ref m14, .ref m15, .ref m16, .ref m17, .ref m18, .ref m19, .ref m20, .int 1, .int 0, .int 0, .int 0, .long 0, .int 0]))]) [0] rfl
  have hD9 := hD.sub (ws' := [(h0, .inr (17, [.ref m0, .ref m1, .ref m2, .ref m3, .ref m4, .ref m5, .ref m6, .ref m7, .ref m8, .ref m9, .ref m10, .ref m11, .ref m12, .ref m13, .ref m14, .ref m15, .ref m16, .ref m17, .ref m18, .ref m19, .ref m20, .int 1, .int 0, .int 0, .int 0, .long 0, .int 0]))]) [0] (by decide) rfl
  refine W.widen (k := 0) (n := 0) (Nat.le_of_ble_eq_true rfl) (Nat.le_of_ble_eq_true rfl) ?_
  rw [hQe]
  exact W.lret (v := 0) hx hb hr (fun t ht hW => ⟨⟨0, (), rfl, rfl, ⟨by rw [ht]; exact hP9, hD9⟩⟩, hS.F ht⟩) hS.2.2 dX14_bottom_25
set_option maxHeartbeats 4000000 in
set_option maxRecDepth 100000 in
/-- reference: setHeight -/
theorem g_setHeight (l : Launch) (D : va_G) (cy : Nat → ClassId) (h0 : Nat) (m0 : Nat) (m1 : Nat) (m2 : Nat) (m3 : Nat) (m4 : Nat) (m5 : Nat) (m6 : Nat) (m7 : Nat) (m8 : Nat) (m9 : Nat) (m10 : Nat) (m11 : Nat) (m12 : Nat) (m13 : Nat) (m14 : Nat) (m15 : Nat) (m16 : Nat) (m17 : Nat) (m18 : Nat) (m19 : Nat) (m20 : Nat) (a1 : Int32) (a2 : Int32) (sz : Nat)  : Met l yX14_setHeight (wz yX14_setHeight cX14_setHeight 6 (some .int)) ({ frames := 2, cells := 0, slots := 0, locals := 46 } : Room) (va_Pc [.ref h0, .int a1, .int a2] (zPre vwCl D cy [(h0, .inr (17, [.ref m0, .ref m1, .ref m2, .ref m3, .ref m4, .ref m5, .ref m6, .ref m7, .ref m8, .ref m9, .ref m10, .ref m11, .ref m12, .ref m13, .ref m14, .ref m15, .ref m16, .ref m17, .ref m18, .ref m19, .ref m20, .int 0, .int 0, .int 0, .int 0, .long 0, .int 0]))] sz)) (va_Qi (fun (r : Int32) (_ : Unit) => r = 0) (fun (u : Unit) t => zPost vwCl D (va_A [(h0, .inr (17, [.ref m0, .ref m1, .ref m2, .ref m3, .ref m4, .ref m5, .ref m6, .ref m7, .ref m8, .ref m9, .ref m10, .ref m11, .ref m12, .ref m13, .ref m14, .ref m15, .ref m16, .ref m17, .ref m18, .ref m19, .ref m20, .int 0, .int 0, .int 0, .int 0, .long 0, .int 0]))] sz) [(h0, .inr (17, [.ref m0, .ref m1, .ref m2, .ref m3, .ref m4, .ref m5, .ref m6, .ref m7, .ref m8, .ref m9, .ref m10, .ref m11, .ref m12, .ref m13, .ref m14, .ref m15, .ref m16, .ref m17, .ref m18, .ref m19, .ref m20, .int 1, .int 0, .int 0, .int 0, .long 0, .int 0]))] t) (va_A [(h0, .inr (17, [.ref m0, .ref m1, .ref m2, .ref m3, .ref m4, .ref m5, .ref m6, .ref m7, .ref m8, .ref m9, .ref m10, .ref m11, .ref m12, .ref m13, .ref m14, .ref m15, .ref m16, .ref m17, .ref m18, .ref m19, .ref m20, .int 0, .int 0, .int 0, .int 0, .long 0, .int 0]))] sz)) 0 0 (va_A [(h0, .inr (17, [.ref m0, .ref m1, .ref m2, .ref m3, .ref m4, .ref m5, .ref m6, .ref m7, .ref m8, .ref m9, .ref m10, .ref m11, .ref m12, .ref m13, .ref m14, .ref m15, .ref m16, .ref m17, .ref m18, .ref m19, .ref m20, .int 0, .int 0, .int 0, .int 0, .long 0, .int 0]))] sz) := by
  refine Met.ofW (cc := cX14_setHeight) (maxL := 6) (ret := (some .int)) (by decide) rfl ?_
  intro p e s m args below meth c s₁ B hml hv
  obtain ⟨rfl, hsz, hP, hK, hD0, hX, hY⟩ := hv
  have hx := B.exec
  have hb := B.bytes
  have hr := B.returns
  have hts0 := atoms_spec (ws := wz yX14_setHeight cX14_setHeight 6 (some .int)) B.pre
  have hts : ∀ w ∈ wAll, w.before _ s = true := fun w h => hts0 w (List.mem_cons_of_mem _ h)
  have hown : s.vm.findClass RX14 = some m.cls := findClass_of_methodNamed B.named
  have hlocks := B.notSynchronized
  subst hsz
  have hD := hD0.self (sz := s.heap.size)
  generalize hAe : va_A [(h0, .inr (17, [.ref m0, .ref m1, .ref m2, .ref m3, .ref m4, .ref m5, .ref m6, .ref m7, .ref m8, .ref m9, .ref m10, .ref m11, .ref m12, .ref m13, .ref m14, .ref m15, .ref m16, .ref m17, .ref m18, .ref m19, .ref m20, .int 0, .int 0, .int 0, .int 0, .long 0, .int 0]))] s.heap.size = A at hD hY ⊢
  have hA : ∀ q : Nat, s.heap.size ≤ q → A q := fun q h => by rw [← hAe]; exact Or.inr h
  have hS : va_S A s.heap s.heap [] := va_S.rf
  have hP : va_P D vwCl [(h0, .inr (17, [.ref m0, .ref m1, .ref m2, .ref m3, .ref m4, .ref m5, .ref m6, .ref m7, .ref m8, .ref m9, .ref m10, .ref m11, .ref m12, .ref m13, .ref m14, .ref m15, .ref m16, .ref m17, .ref m18, .ref m19, .ref m20, .int 0, .int 0, .int 0, .int 0, .long 0, .int 0]))] s.heap := hP
  have hl := lv_entry ([.ref h0, .int a1, .int a2]) (n := 6) (Nat.le_of_ble_eq_true rfl)
  rw [lg_entry_eq]
  generalize (lg_sl ([.ref h0, .int a1, .int a2]) ++ List.replicate (6 - (lg_sl ([.ref h0, .int a1, .int a2])).length) Slot.unset).toArray = ls at hl ⊢
  have hl : lv_has ls 6 [(0, .ref h0), (1, .int a1), (2, .int a2)] := hl
  refine z_anyQ (fun Q hQe => ?_)
  refine lv_aload_n hx hb dX14_setHeight_0 rfl (lv_at hl 0 rfl) ?_
  refine lv_iload_n hx hb dX14_setHeight_1 rfl (lv_at hl 1 rfl) ?_
  refine zq_i (wc := [(h0, .inr (17, [.ref m0, .ref m1, .ref m2, .ref m3, .ref m4, .ref m5, .ref m6, .ref m7, .ref m8, .ref m9, .ref m10, .ref m11, .ref m12, .ref m13, .ref m14, .ref m15, .ref m16, .ref m17, .ref m18, .ref m19, .ref m20, .int 0, .int 0, .int 0, .int 0, .long 0, .int 0]))]) (wr := []) (va_runV (As := [.int a1]) (rest := []) ⟨hx, hb, hml, hown, hts⟩ (k_isStation l D cy h0 m0 m1 m2 m3 m4 m5 m6 m7 m8 m9 m10 m11 m12 m13 m14 m15 m16 m17 m18 m19 m20 a1 s.heap.size ) (cwV 1 hts (gzV (gz q337) q336 q338 q339 q285) rfl rfl rfl vX14_isStation ⟨Nat.le_of_ble_eq_true rfl, Nat.le_of_ble_eq_true rfl⟩) (zpV (ci := 17) (T := TX14) (N := 27) (q0 := 0) hK hX hY hP hD hS hA [0] (by decide) rfl rfl rfl) rfl rfl hl.1 rfl (lv_room (Nat.le_of_ble_eq_true rfl)) dX14_setHeight_2 ⟨Nat.le_of_ble_eq_true rfl, Nat.le_of_ble_eq_true rfl⟩) hP hD hS hA [0] [] rfl rfl (by decide) (by decide) (fun x2 u1 H locs hw hP hD hS => ?_)
  obtain rfl : x2 = 0 := hw
  have hP : va_P D vwCl [(h0, .inr (17, [.ref m0, .ref m1, .ref m2, .ref m3, .ref m4, .ref m5, .ref m6, .ref m7, .ref m8, .ref m9, .ref m10, .ref m11, .ref m12, .ref m13, .ref m14, .ref m15, .ref m16, .ref m17, .ref m18, .ref m19, .ref m20, .int 0, .int 0, .int 0, .int 0, .long 0, .int 0]))] H := hP
  have hD : va_D A [(h0, .inr (17, [.ref m0, .ref m1, .ref m2, .ref m3, .ref m4, .ref m5, .ref m6, .ref m7, .ref m8, .ref m9, .ref m10, .ref m11, .ref m12, .ref m13, .ref m14, .ref m15, .ref m16, .ref m17, .ref m18, .ref m19, .ref m20, .int 0, .int 0, .int 0, .int 0, .long 0, .int 0]))] := hD
  refine lv_if_ne (tgt := 14) hx hb dX14_setHeight_5 (by decide) (fun c_5_2 => absurd (by decide +kernel) c_5_2) (fun _ => ?_)
  refine lv_aload_n hx hb dX14_setHeight_8 rfl (lv_at hl 0 rfl) ?_
  refine lv_iconst (v := 1) hx hb dX14_setHeight_9 (by decide) ?_
  refine zq_i (wc := [(h0, .inr (17, [.ref m0, .ref m1, .ref m2, .ref m3, .ref m4, .ref m5, .ref m6, .ref m7, .ref m8, .ref m9, .ref m10, .ref m11, .ref m12, .ref m13, .ref m14, .ref m15, .ref m16, .ref m17, .ref m18, .ref m19, .ref m20, .int 0, .int 0, .int 0, .int 0, .long 0, .int 0]))]) (wr := []) (va_runV (As := [.int 1]) (rest := []) ⟨hx, hb, hml, hown, hts⟩ (k_fails l D cy h0 m0 m1 m2 m3 m4 m5 m6 m7 m8 m9 m10 m11 m12 m13 m14 m15 m16 m17 m18 m19 m20 0 0 0 0 0 0 1 H.size ) (cwV 1 hts (gzV (gz q345) q344 q346 q347 q285) rfl rfl rfl vX14_fails ⟨Nat.le_of_ble_eq_true rfl, Nat.le_of_ble_eq_true rfl⟩) (zpV (ci := 17) (T := TX14) (N := 27) (q0 := 0) hK hX hY hP hD hS hA [0] (by decide) rfl rfl rfl) rfl rfl hl.1 rfl (lv_room (Nat.le_of_ble_eq_true rfl)) dX14_setHeight_10 ⟨Nat.le_of_ble_eq_true rfl, Nat.le_of_ble_eq_true rfl⟩) hP hD hS hA [0] [] rfl rfl (by decide) (by decide) (fun x5 u4 H locs hw hP hD hS => ?_)
  obtain rfl : x5 = 0 := hw
  have hP : va_P D vwCl [(h0, .inr (17, [.ref m0, .ref m1, .ref m2, .ref m3, .ref m4, .ref m5, .ref m6, .ref m7, .ref m8, .ref m9, .ref m10, .ref m11, .ref m12, .ref m13, .ref m14, .ref m15, .ref m16, .ref m17, .ref m18, .ref m19, .ref m20, .int 1, .int 0, .int 0, .int 0, .long 0, .int 0]))] H := hP
  have hD : va_D A [(h0, .inr (17, [.ref m0, .ref m1, .ref m2, .ref m3, .ref m4, .ref m5, .ref m6, .ref m7, .ref m8, .ref m9, .ref m10, .ref m11, .ref m12, .ref m13, .ref m14, .ref m15, .ref m16, .ref m17, .ref m18, .ref m19, .ref m20, .int 1, .int 0, .int 0, .int 0, .long 0, .int 0]))] := hD
  have hP9 := hP.sub (ws' := [(h0, .inr (17, [.ref m0, .ref m1, .ref m2, .ref m3, .ref m4, .ref m5, .ref m6, .ref m7, .ref m8, .ref m9, .ref m10, .ref m11, .ref m12, .ref m13, .ref m14, .ref m15, .ref m16, .ref m17, .ref m18, .ref m19, .ref m20, .int 1, .int 0, .int 0, .int 0, .long 0, .int 0]))]) [0] rfl
  have hD9 := hD.sub (ws' := [(h0, .inr (17, [.ref m0, .ref m1, .ref m2, .ref m3, .ref m4, .ref m5, .ref m6, .ref m7, .ref m8, .ref m9, .ref m10, .ref m11, .ref m12, .ref m13, .ref m14, .ref m15, .ref m16, .ref m17, .ref m18, .ref m19, .ref m20, .int 1, .int 0, .int 0, .int 0, .long 0, .int 0]))]) [0] (by decide) rfl
  refine W.widen (k := 0) (n := 0) (Nat.le_of_ble_eq_true rfl) (Nat.le_of_ble_eq_true rfl) ?_
  rw [hQe]
  exact W.iret (v := 0) hx hb hr (fun t ht hW => ⟨⟨0, (), rfl, rfl, ⟨by rw [ht]; exact hP9, hD9⟩⟩, hS.F ht⟩) hS.2.2 dX14_setHeight_13
set_option maxHeartbeats 4000000 in
set_option maxRecDepth 100000 in
/-- reference: conduit -/
theorem g_conduit (l : Launch) (D : va_G) (cy : Nat → ClassId) (h0 : Nat) (m0 : Nat) (m1 : Nat) (m2 : Nat) (m3 : Nat) (m4 : Nat) (m5 : Nat) (m6 : Nat) (m7 : Nat) (m8 : Nat) (m9 : Nat) (m10 : Nat) (m11 : Nat) (m12 : Nat) (m13 : Nat) (m14 : Nat) (m15 : Nat) (m16 : Nat) (m17 : Nat) (m18 : Nat) (m19 : Nat) (m20 : Nat) (a1 : Int32) (a2 : Int32) (a3 : Int32) (a4 : Int32) (sz : Nat)  : Met l yX14_conduit (wz yX14_conduit cX14_conduit 7 (some .int)) ({ frames := 2, cells := 0, slots := 0, locals := 46 } : Room) (va_Pc [.ref h0, .int a1, .int a2, .int a3, .int a4] (zPre vwCl D cy [(h0, .inr (17, [.ref m0, .ref m1, .ref m2, .ref m3, .ref m4, .ref m5, .ref m6, .ref m7, .ref m8, .ref m9, .ref m10, .ref m11, .ref m12, .ref m13, .ref m14, .ref m15, .ref m16, .ref m17, .ref m18, .ref m19, .ref m20, .int 0, .int 0, .int 0, .int 0, .long 0, .int 0]))] sz)) (va_Qi (fun (r : Int32) (_ : Unit) => r = 0) (fun (u : Unit) t => zPost vwCl D (va_A [(h0, .inr (17, [.ref m0, .ref m1, .ref m2, .ref m3, .ref m4, .ref m5, .ref m6, .ref m7, .ref m8, .ref m9, .ref m10, .ref m11, .ref m12, .ref m13, .ref m14, .ref m15, .ref m16, .ref m17, .ref m18, .ref m19, .ref m20, .int 0, .int 0, .int 0, .int 0, .long 0, .int 0]))] sz) [(h0, .inr (17, [.ref m0, .ref m1, .ref m2, .ref m3, .ref m4, .ref m5, .ref m6, .ref m7, .ref m8, .ref m9, .ref m10, .ref m11, .ref m12, .ref m13, .ref m14, .ref m15, .ref m16, .ref m17, .ref m18, .ref m19, .ref m20, .int 1, .int 0, .int 0, .int 0, .long 0, .int 0]))] t) (va_A [(h0, .inr (17, [.ref m0, .ref m1, .ref m2, .ref m3, .ref m4, .ref m5, .ref m6, .ref m7, .ref m8, .ref m9, .ref m10, .ref m11, .ref m12, .ref m13, .ref m14, .ref m15, .ref m16, .ref m17, .ref m18, .ref m19, .ref m20, .int 0, .int 0, .int 0, .int 0, .long 0, .int 0]))] sz)) 0 0 (va_A [(h0, .inr (17, [.ref m0, .ref m1, .ref m2, .ref m3, .ref m4, .ref m5, .ref m6, .ref m7, .ref m8, .ref m9, .ref m10, .ref m11, .ref m12, .ref m13, .ref m14, .ref m15, .ref m16, .ref m17, .ref m18, .ref m19, .ref m20, .int 0, .int 0, .int 0, .int 0, .long 0, .int 0]))] sz) := by
  refine Met.ofW (cc := cX14_conduit) (maxL := 7) (ret := (some .int)) (by decide) rfl ?_
  intro p e s m args below meth c s₁ B hml hv
  obtain ⟨rfl, hsz, hP, hK, hD0, hX, hY⟩ := hv
  have hx := B.exec
  have hb := B.bytes
  have hr := B.returns
  have hts0 := atoms_spec (ws := wz yX14_conduit cX14_conduit 7 (some .int)) B.pre
  have hts : ∀ w ∈ wAll, w.before _ s = true := fun w h => hts0 w (List.mem_cons_of_mem _ h)
  have hown : s.vm.findClass RX14 = some m.cls := findClass_of_methodNamed B.named
  have hlocks := B.notSynchronized
  subst hsz
  have hD := hD0.self (sz := s.heap.size)
  generalize hAe : va_A [(h0, .inr (17, [.ref m0, .ref m1, .ref m2, .ref m3, .ref m4, .ref m5, .ref m6, .ref m7, .ref m8, .ref m9, .ref m10, .ref m11, .ref m12, .ref m13, .ref m14, .ref m15, .ref m16, .ref m17, .ref m18, .ref m19, .ref m20, .int 0, .int 0, .int 0, .int 0, .long 0, .int 0]))] s.heap.size = A at hD hY ⊢
  have hA : ∀ q : Nat, s.heap.size ≤ q → A q := fun q h => by rw [← hAe]; exact Or.inr h
  have hS : va_S A s.heap s.heap [] := va_S.rf
  have hP : va_P D vwCl [(h0, .inr (17, [.ref m0, .ref m1, .ref m2, .ref m3, .ref m4, .ref m5, .ref m6, .ref m7, .ref m8, .ref m9, .ref m10, .ref m11, .ref m12, .ref m13, .ref m14, .ref m15, .ref m16, .ref m17, .ref m18, .ref m19, .ref m20, .int 0, .int 0, .int 0, .int 0, .long 0, .int 0]))] s.heap := hP
  have hl := lv_entry ([.ref h0, .int a1, .int a2, .int a3, .int a4]) (n := 7) (Nat.le_of_ble_eq_true rfl)
  rw [lg_entry_eq]
  generalize (lg_sl ([.ref h0, .int a1, .int a2, .int a3, .int a4]) ++ List.replicate (7 - (lg_sl ([.ref h0, .int a1, .int a2, .int a3, .int a4])).length) Slot.unset).toArray = ls at hl ⊢
  have hl : lv_has ls 7 [(0, .ref h0), (1, .int a1), (2, .int a2), (3, .int a3), (4, .int a4)] := hl
  refine z_anyQ (fun Q hQe => ?_)
  refine lv_aload_n hx hb dX14_conduit_0 rfl (lv_at hl 0 rfl) ?_
  refine lv_iload_n hx hb dX14_conduit_1 rfl (lv_at hl 1 rfl) ?_
  refine zq_i (wc := [(h0, .inr (17, [.ref m0, .ref m1, .ref m2, .ref m3, .ref m4, .ref m5, .ref m6, .ref m7, .ref m8, .ref m9, .ref m10, .ref m11, .ref m12, .ref m13, .ref m14, .ref m15, .ref m16, .ref m17, .ref m18, .ref m19, .ref m20, .int 0, .int 0, .int 0, .int 0, .long 0, .int 0]))]) (wr := []) (va_runV (As := [.int a1]) (rest := []) ⟨hx, hb, hml, hown, hts⟩ (k_isStation l D cy h0 m0 m1 m2 m3 m4 m5 m6 m7 m8 m9 m10 m11 m12 m13 m14 m15 m16 m17 m18 m19 m20 a1 s.heap.size ) (cwV 1 hts (gzV (gz q337) q336 q338 q339 q285) rfl rfl rfl vX14_isStation ⟨Nat.le_of_ble_eq_true rfl, Nat.le_of_ble_eq_true rfl⟩) (zpV (ci := 17) (T := TX14) (N := 27) (q0 := 0) hK hX hY hP hD hS hA [0] (by decide) rfl rfl rfl) rfl rfl hl.1 rfl (lv_room (Nat.le_of_ble_eq_true rfl)) dX14_conduit_2 ⟨Nat.le_of_ble_eq_true rfl, Nat.le_of_ble_eq_true rfl⟩) hP hD hS hA [0] [] rfl rfl (by decide) (by decide) (fun x2 u1 H locs hw hP hD hS => ?_)
  obtain rfl : x2 = 0 := hw
  have hP : va_P D vwCl [(h0, .inr (17, [.ref m0, .ref m1, .ref m2, .ref m3, .ref m4, .ref m5, .ref m6, .ref m7, .ref m8, .ref m9, .ref m10, .ref m11, .ref m12, .ref m13, .ref m14, .ref m15, .ref m16, .ref m17, .ref m18, .ref m19, .ref m20, .int 0, .int 0, .int 0, .int 0, .long 0, .int 0]))] H := hP
  have hD : va_D A [(h0, .inr (17, [.ref m0, .ref m1, .ref m2, .ref m3, .ref m4, .ref m5, .ref m6, .ref m7, .ref m8, .ref m9, .ref m10, .ref m11, .ref m12, .ref m13, .ref m14, .ref m15, .ref m16, .ref m17, .ref m18, .ref m19, .ref m20, .int 0, .int 0, .int 0, .int 0, .long 0, .int 0]))] := hD
  refine lv_if_eq (tgt := 16) hx hb dX14_conduit_5 (by decide) (fun _ => ?_) (fun c_5_2 => absurd (by decide +kernel) c_5_2)
  refine lv_aload_n hx hb dX14_conduit_16 rfl (lv_at hl 0 rfl) ?_
  refine lv_iconst (v := 1) hx hb dX14_conduit_17 (by decide) ?_
  refine zq_i (wc := [(h0, .inr (17, [.ref m0, .ref m1, .ref m2, .ref m3, .ref m4, .ref m5, .ref m6, .ref m7, .ref m8, .ref m9, .ref m10, .ref m11, .ref m12, .ref m13, .ref m14, .ref m15, .ref m16, .ref m17, .ref m18, .ref m19, .ref m20, .int 0, .int 0, .int 0, .int 0, .long 0, .int 0]))]) (wr := []) (va_runV (As := [.int 1]) (rest := []) ⟨hx, hb, hml, hown, hts⟩ (k_fails l D cy h0 m0 m1 m2 m3 m4 m5 m6 m7 m8 m9 m10 m11 m12 m13 m14 m15 m16 m17 m18 m19 m20 0 0 0 0 0 0 1 H.size ) (cwV 1 hts (gzV (gz q345) q344 q346 q347 q285) rfl rfl rfl vX14_fails ⟨Nat.le_of_ble_eq_true rfl, Nat.le_of_ble_eq_true rfl⟩) (zpV (ci := 17) (T := TX14) (N := 27) (q0 := 0) hK hX hY hP hD hS hA [0] (by decide) rfl rfl rfl) rfl rfl hl.1 rfl (lv_room (Nat.le_of_ble_eq_true rfl)) dX14_conduit_18 ⟨Nat.le_of_ble_eq_true rfl, Nat.le_of_ble_eq_true rfl⟩) hP hD hS hA [0] [] rfl rfl (by decide) (by decide) (fun x5 u4 H locs hw hP hD hS => ?_)
  obtain rfl : x5 = 0 := hw
  have hP : va_P D vwCl [(h0, .inr (17, [.ref m0, .ref m1, .ref m2, .ref m3, .ref m4, .ref m5, .ref m6, .ref m7, .ref m8, .ref m9, .ref m10, .ref m11, .ref m12, .ref m13, .ref m14, .ref m15, .ref m16, .ref m17, .ref m18, .ref m19, .ref m20, .int 1, .int 0, .int 0, .int 0, .long 0, .int 0]))] H := hP
  have hD : va_D A [(h0, .inr (17, [.ref m0, .ref m1, .ref m2, .ref m3, .ref m4, .ref m5, .ref m6, .ref m7, .ref m8, .ref m9, .ref m10, .ref m11, .ref m12, .ref m13, .ref m14, .ref m15, .ref m16, .ref m17, .ref m18, .ref m19, .ref m20, .int 1, .int 0, .int 0, .int 0, .long 0, .int 0]))] := hD
  have hP9 := hP.sub (ws' := [(h0, .inr (17, [.ref m0, .ref m1, .ref m2, .ref m3, .ref m4, .ref m5, .ref m6, .ref m7, .ref m8, .ref m9, .ref m10, .ref m11, .ref m12, .ref m13, .ref m14, .ref m15, .ref m16, .ref m17, .ref m18, .ref m19, .ref m20, .int 1, .int 0, .int 0, .int 0, .long 0, .int 0]))]) [0] rfl
  have hD9 := hD.sub (ws' := [(h0, .inr (17, [.ref m0, .ref m1, .ref m2, .ref m3, .ref m4, .ref m5, .ref m6, .ref m7, .ref m8, .ref m9, .ref m10, .ref m11, .ref m12, .ref m13, .ref m14, .ref m15, .ref m16, .ref m17, .ref m18, .ref m19, .ref m20, .int 1, .int 0, .int 0, .int 0, .long 0, .int 0]))]) [0] (by decide) rfl
  refine W.widen (k := 0) (n := 0) (Nat.le_of_ble_eq_true rfl) (Nat.le_of_ble_eq_true rfl) ?_
  rw [hQe]
  exact W.iret (v := 0) hx hb hr (fun t ht hW => ⟨⟨0, (), rfl, rfl, ⟨by rw [ht]; exact hP9, hD9⟩⟩, hS.F ht⟩) hS.2.2 dX14_conduit_21
set_option maxHeartbeats 4000000 in
set_option maxRecDepth 100000 in
/-- reference: trace -/
theorem g_trace (l : Launch) (D : va_G) (cy : Nat → ClassId) (h0 : Nat) (m0 : Nat) (m1 : Nat) (m2 : Nat) (m3 : Nat) (m4 : Nat) (m5 : Nat) (m6 : Nat) (m7 : Nat) (m8 : Nat) (m9 : Nat) (m10 : Nat) (m11 : Nat) (m12 : Nat) (m13 : Nat) (m14 : Nat) (m15 : Nat) (m16 : Nat) (m17 : Nat) (m18 : Nat) (m19 : Nat) (m20 : Nat) (a1 : Int32) (a2 : Int32) (sz : Nat)  : Met l yX14_trace (wz yX14_trace cX14_trace 5 (some .int)) ({ frames := 2, cells := 0, slots := 0, locals := 46 } : Room) (va_Pc [.ref h0, .int a1, .int a2] (zPre vwCl D cy [(h0, .inr (17, [.ref m0, .ref m1, .ref m2, .ref m3, .ref m4, .ref m5, .ref m6, .ref m7, .ref m8, .ref m9, .ref m10, .ref m11, .ref m12, .ref m13, .ref m14, .ref m15, .ref m16, .ref m17, .ref m18, .ref m19, .ref m20, .int 0, .int 0, .int 0, .int 0, .long 0, .int 0]))] sz)) (va_Qi (fun (r : Int32) (_ : Unit) => r = 0) (fun (u : Unit) t => zPost vwCl D (va_A [(h0, .inr (17, [.ref m0, .ref m1, .ref m2, .ref m3, .ref m4, .ref m5, .ref m6, .ref m7, .ref m8, .ref m9, .ref m10, .ref m11, .ref m12, .ref m13, .ref m14, .ref m15, .ref m16, .ref m17, .ref m18, .ref m19, .ref m20, .int 0, .int 0, .int 0, .int 0, .long 0, .int 0]))] sz) [(h0, .inr (17, [.ref m0, .ref m1, .ref m2, .ref m3, .ref m4, .ref m5, .ref m6, .ref m7, .ref m8, .ref m9, .ref m10, .ref m11, .ref m12, .ref m13, .ref m14, .ref m15, .ref m16, .ref m17, .ref m18, .ref m19, .ref m20, .int 1, .int 0, .int 0, .int 0, .long 0, .int 0]))] t) (va_A [(h0, .inr (17, [.ref m0, .ref m1, .ref m2, .ref m3, .ref m4, .ref m5, .ref m6, .ref m7, .ref m8, .ref m9, .ref m10, .ref m11, .ref m12, .ref m13, .ref m14, .ref m15, .ref m16, .ref m17, .ref m18, .ref m19, .ref m20, .int 0, .int 0, .int 0, .int 0, .long 0, .int 0]))] sz)) 0 0 (va_A [(h0, .inr (17, [.ref m0, .ref m1, .ref m2, .ref m3, .ref m4, .ref m5, .ref m6, .ref m7, .ref m8, .ref m9, .ref m10, .ref m11, .ref m12, .ref m13, .ref m14, .ref m15, .ref m16, .ref m17, .ref m18, .ref m19, .ref m20, .int 0, .int 0, .int 0, .int 0, .long 0, .int 0]))] sz) := by
  refine Met.ofW (cc := cX14_trace) (maxL := 5) (ret := (some .int)) (by decide) rfl ?_
  intro p e s m args below meth c s₁ B hml hv
  obtain ⟨rfl, hsz, hP, hK, hD0, hX, hY⟩ := hv
  have hx := B.exec
  have hb := B.bytes
  have hr := B.returns
  have hts0 := atoms_spec (ws := wz yX14_trace cX14_trace 5 (some .int)) B.pre
  have hts : ∀ w ∈ wAll, w.before _ s = true := fun w h => hts0 w (List.mem_cons_of_mem _ h)
  have hown : s.vm.findClass RX14 = some m.cls := findClass_of_methodNamed B.named
  have hlocks := B.notSynchronized
  subst hsz
  have hD := hD0.self (sz := s.heap.size)
  generalize hAe : va_A [(h0, .inr (17, [.ref m0, .ref m1, .ref m2, .ref m3, .ref m4, .ref m5, .ref m6, .ref m7, .ref m8, .ref m9, .ref m10, .ref m11, .ref m12, .ref m13, .ref m14, .ref m15, .ref m16, .ref m17, .ref m18, .ref m19, .ref m20, .int 0, .int 0, .int 0, .int 0, .long 0, .int 0]))] s.heap.size = A at hD hY ⊢
  have hA : ∀ q : Nat, s.heap.size ≤ q → A q := fun q h => by rw [← hAe]; exact Or.inr h
  have hS : va_S A s.heap s.heap [] := va_S.rf
  have hP : va_P D vwCl [(h0, .inr (17, [.ref m0, .ref m1, .ref m2, .ref m3, .ref m4, .ref m5, .ref m6, .ref m7, .ref m8, .ref m9, .ref m10, .ref m11, .ref m12, .ref m13, .ref m14, .ref m15, .ref m16, .ref m17, .ref m18, .ref m19, .ref m20, .int 0, .int 0, .int 0, .int 0, .long 0, .int 0]))] s.heap := hP
  have hl := lv_entry ([.ref h0, .int a1, .int a2]) (n := 5) (Nat.le_of_ble_eq_true rfl)
  rw [lg_entry_eq]
  generalize (lg_sl ([.ref h0, .int a1, .int a2]) ++ List.replicate (5 - (lg_sl ([.ref h0, .int a1, .int a2])).length) Slot.unset).toArray = ls at hl ⊢
  have hl : lv_has ls 5 [(0, .ref h0), (1, .int a1), (2, .int a2)] := hl
  refine z_anyQ (fun Q hQe => ?_)
  refine lv_aload_n hx hb dX14_trace_0 rfl (lv_at hl 0 rfl) ?_
  refine lv_iload_n hx hb dX14_trace_1 rfl (lv_at hl 1 rfl) ?_
  refine zq_i (wc := [(h0, .inr (17, [.ref m0, .ref m1, .ref m2, .ref m3, .ref m4, .ref m5, .ref m6, .ref m7, .ref m8, .ref m9, .ref m10, .ref m11, .ref m12, .ref m13, .ref m14, .ref m15, .ref m16, .ref m17, .ref m18, .ref m19, .ref m20, .int 0, .int 0, .int 0, .int 0, .long 0, .int 0]))]) (wr := []) (va_runV (As := [.int a1]) (rest := []) ⟨hx, hb, hml, hown, hts⟩ (k_isStation l D cy h0 m0 m1 m2 m3 m4 m5 m6 m7 m8 m9 m10 m11 m12 m13 m14 m15 m16 m17 m18 m19 m20 a1 s.heap.size ) (cwV 1 hts (gzV (gz q337) q336 q338 q339 q285) rfl rfl rfl vX14_isStation ⟨Nat.le_of_ble_eq_true rfl, Nat.le_of_ble_eq_true rfl⟩) (zpV (ci := 17) (T := TX14) (N := 27) (q0 := 0) hK hX hY hP hD hS hA [0] (by decide) rfl rfl rfl) rfl rfl hl.1 rfl (lv_room (Nat.le_of_ble_eq_true rfl)) dX14_trace_2 ⟨Nat.le_of_ble_eq_true rfl, Nat.le_of_ble_eq_true rfl⟩) hP hD hS hA [0] [] rfl rfl (by decide) (by decide) (fun x2 u1 H locs hw hP hD hS => ?_)
  obtain rfl : x2 = 0 := hw
  have hP : va_P D vwCl [(h0, .inr (17, [.ref m0, .ref m1, .ref m2, .ref m3, .ref m4, .ref m5, .ref m6, .ref m7, .ref m8, .ref m9, .ref m10, .ref m11, .ref m12, .ref m13, .ref m14, .ref m15, .ref m16, .ref m17, .ref m18, .ref m19, .ref m20, .int 0, .int 0, .int 0, .int 0, .long 0, .int 0]))] H := hP
  have hD : va_D A [(h0, .inr (17, [.ref m0, .ref m1, .ref m2, .ref m3, .ref m4, .ref m5, .ref m6, .ref m7, .ref m8, .ref m9, .ref m10, .ref m11, .ref m12, .ref m13, .ref m14, .ref m15, .ref m16, .ref m17, .ref m18, .ref m19, .ref m20, .int 0, .int 0, .int 0, .int 0, .long 0, .int 0]))] := hD
  refine lv_if_ne (tgt := 14) hx hb dX14_trace_5 (by decide) (fun c_5_2 => absurd (by decide +kernel) c_5_2) (fun _ => ?_)
  refine lv_aload_n hx hb dX14_trace_8 rfl (lv_at hl 0 rfl) ?_
  refine lv_iconst (v := 1) hx hb dX14_trace_9 (by decide) ?_
  refine zq_i (wc := [(h0, .inr (17, [.ref m0, .ref m1, .ref m2, .ref m3, .ref m4, .ref m5, .ref m6, .ref m7, .ref m8, .ref m9, .ref m10, .ref m11, .ref m12, .ref m13, .ref m14, .ref m15, .ref m16, .ref m17, .ref m18, .ref m19, .ref m20, .int 0, .int 0, .int 0, .int 0, .long 0, .int 0]))]) (wr := []) (va_runV (As := [.int 1]) (rest := []) ⟨hx, hb, hml, hown, hts⟩ (k_fails l D cy h0 m0 m1 m2 m3 m4 m5 m6 m7 m8 m9 m10 m11 m12 m13 m14 m15 m16 m17 m18 m19 m20 0 0 0 0 0 0 1 H.size ) (cwV 1 hts (gzV (gz q345) q344 q346 q347 q285) rfl rfl rfl vX14_fails ⟨Nat.le_of_ble_eq_true rfl, Nat.le_of_ble_eq_true rfl⟩) (zpV (ci := 17) (T := TX14) (N := 27) (q0 := 0) hK hX hY hP hD hS hA [0] (by decide) rfl rfl rfl) rfl rfl hl.1 rfl (lv_room (Nat.le_of_ble_eq_true rfl)) dX14_trace_10 ⟨Nat.le_of_ble_eq_true rfl, Nat.le_of_ble_eq_true rfl⟩) hP hD hS hA [0] [] rfl rfl (by decide) (by decide) (fun x5 u4 H locs hw hP hD hS => ?_)
  obtain rfl : x5 = 0 := hw
  have hP : va_P D vwCl [(h0, .inr (17, [.ref m0, .ref m1, .ref m2, .ref m3, .ref m4, .ref m5, .ref m6, .ref m7, .ref m8, .ref m9, .ref m10, .ref m11, .ref m12, .ref m13, .ref m14, .ref m15, .ref m16, .ref m17, .ref m18, .ref m19, .ref m20, .int 1, .int 0, .int 0, .int 0, .long 0, .int 0]))] H := hP
  have hD : va_D A [(h0, .inr (17, [.ref m0, .ref m1, .ref m2, .ref m3, .ref m4, .ref m5, .ref m6, .ref m7, .ref m8, .ref m9, .ref m10, .ref m11, .ref m12, .ref m13, .ref m14, .ref m15, .ref m16, .ref m17, .ref m18, .ref m19, .ref m20, .int 1, .int 0, .int 0, .int 0, .long 0, .int 0]))] := hD
  have hP9 := hP.sub (ws' := [(h0, .inr (17, [.ref m0, .ref m1, .ref m2, .ref m3, .ref m4, .ref m5, .ref m6, .ref m7, .ref m8, .ref m9, .ref m10, .ref m11, .ref m12, .ref m13, .ref m14, .ref m15, .ref m16, .ref m17, .ref m18, .ref m19, .ref m20, .int 1, .int 0, .int 0, .int 0, .long 0, .int 0]))]) [0] rfl
  have hD9 := hD.sub (ws' := [(h0, .inr (17, [.ref m0, .ref m1, .ref m2, .ref m3, .ref m4, .ref m5, .ref m6, .ref m7, .ref m8, .ref m9, .ref m10, .ref m11, .ref m12, .ref m13, .ref m14, .ref m15, .ref m16, .ref m17, .ref m18, .ref m19, .ref m20, .int 1, .int 0, .int 0, .int 0, .long 0, .int 0]))]) [0] (by decide) rfl
  refine W.widen (k := 0) (n := 0) (Nat.le_of_ble_eq_true rfl) (Nat.le_of_ble_eq_true rfl) ?_
  rw [hQe]
  exact W.iret (v := 0) hx hb hr (fun t ht hW => ⟨⟨0, (), rfl, rfl, ⟨by rw [ht]; exact hP9, hD9⟩⟩, hS.F ht⟩) hS.2.2 dX14_trace_13
set_option maxHeartbeats 4000000 in
set_option maxRecDepth 100000 in
/-- reference: traced -/
theorem g_traced (l : Launch) (D : va_G) (cy : Nat → ClassId) (h0 : Nat) (m0 : Nat) (m1 : Nat) (m2 : Nat) (m3 : Nat) (m4 : Nat) (m5 : Nat) (m6 : Nat) (m7 : Nat) (m8 : Nat) (m9 : Nat) (m10 : Nat) (m11 : Nat) (m12 : Nat) (m13 : Nat) (m14 : Nat) (m15 : Nat) (m16 : Nat) (m17 : Nat) (m18 : Nat) (m19 : Nat) (m20 : Nat) (a1 : Int32) (a2 : Int32) (sz : Nat)  : Met l yX14_traced (wz yX14_traced cX14_traced 3 (some .int)) ({ frames := 2, cells := 0, slots := 0, locals := 46 } : Room) (va_Pc [.ref h0, .int a1, .int a2] (zPre vwCl D cy [(h0, .inr (17, [.ref m0, .ref m1, .ref m2, .ref m3, .ref m4, .ref m5, .ref m6, .ref m7, .ref m8, .ref m9, .ref m10, .ref m11, .ref m12, .ref m13, .ref m14, .ref m15, .ref m16, .ref m17, .ref m18, .ref m19, .ref m20, .int 0, .int 0, .int 0, .int 0, .long 0, .int 0]))] sz)) (va_Qi (fun (r : Int32) (_ : Unit) => r = 0) (fun (u : Unit) t => zPost vwCl D (va_A [(h0, .inr (17, [.ref m0, .ref m1, .ref m2, .ref m3, .ref m4, .ref m5, .ref m6, .ref m7, .ref m8, .ref m9, .ref m10, .ref m11, .ref m12, .ref m13, .ref m14, .ref m15, .ref m16, .ref m17, .ref m18, .ref m19, .ref m20, .int 0, .int 0, .int 0, .int 0, .long 0, .int 0]))] sz) [(h0, .inr (17, [.ref m0, .ref m1, .ref m2, .ref m3, .ref m4, .ref m5, .ref m6, .ref m7, .ref m8, .ref m9, .ref m10, .ref m11, .ref m12, .ref m13, .ref m14, .ref m15, .ref m16, .ref m17, .ref m18, .ref m19, .ref m20, .int 1, .int 0, .int 0, .int 0, .long 0, .int 0]))] t) (va_A [(h0, .inr (17, [.ref m0, .ref m1, .ref m2, .ref m3, .ref m4, .ref m5, .ref m6, .ref m7, .ref m8, .ref m9, .ref m10, .ref m11, .ref m12, .ref m13, .ref m14, .ref m15, .ref m16, .ref m17, .ref m18, .ref m19, .ref m20, .int 0, .int 0, .int 0, .int 0, .long 0, .int 0]))] sz)) 0 0 (va_A [(h0, .inr (17, [.ref m0, .ref m1, .ref m2, .ref m3, .ref m4, .ref m5, .ref m6, .ref m7, .ref m8, .ref m9, .ref m10, .ref m11, .ref m12, .ref m13, .ref m14, .ref m15, .ref m16, .ref m17, .ref m18, .ref m19, .ref m20, .int 0, .int 0, .int 0, .int 0, .long 0, .int 0]))] sz) := by
  refine Met.ofW (cc := cX14_traced) (maxL := 3) (ret := (some .int)) (by decide) rfl ?_
  intro p e s m args below meth c s₁ B hml hv
  obtain ⟨rfl, hsz, hP, hK, hD0, hX, hY⟩ := hv
  have hx := B.exec
  have hb := B.bytes
  have hr := B.returns
  have hts0 := atoms_spec (ws := wz yX14_traced cX14_traced 3 (some .int)) B.pre
  have hts : ∀ w ∈ wAll, w.before _ s = true := fun w h => hts0 w (List.mem_cons_of_mem _ h)
  have hown : s.vm.findClass RX14 = some m.cls := findClass_of_methodNamed B.named
  have hlocks := B.notSynchronized
  subst hsz
  have hD := hD0.self (sz := s.heap.size)
  generalize hAe : va_A [(h0, .inr (17, [.ref m0, .ref m1, .ref m2, .ref m3, .ref m4, .ref m5, .ref m6, .ref m7, .ref m8, .ref m9, .ref m10, .ref m11, .ref m12, .ref m13, .ref m14, .ref m15, .ref m16, .ref m17, .ref m18, .ref m19, .ref m20, .int 0, .int 0, .int 0, .int 0, .long 0, .int 0]))] s.heap.size = A at hD hY ⊢
  have hA : ∀ q : Nat, s.heap.size ≤ q → A q := fun q h => by rw [← hAe]; exact Or.inr h
  have hS : va_S A s.heap s.heap [] := va_S.rf
  have hP : va_P D vwCl [(h0, .inr (17, [.ref m0, .ref m1, .ref m2, .ref m3, .ref m4, .ref m5, .ref m6, .ref m7, .ref m8, .ref m9, .ref m10, .ref m11, .ref m12, .ref m13, .ref m14, .ref m15, .ref m16, .ref m17, .ref m18, .ref m19, .ref m20, .int 0, .int 0, .int 0, .int 0, .long 0, .int 0]))] s.heap := hP
  have hl := lv_entry ([.ref h0, .int a1, .int a2]) (n := 3) (Nat.le_of_ble_eq_true rfl)
  rw [lg_entry_eq]
  generalize (lg_sl ([.ref h0, .int a1, .int a2]) ++ List.replicate (3 - (lg_sl ([.ref h0, .int a1, .int a2])).length) Slot.unset).toArray = ls at hl ⊢
  have hl : lv_has ls 3 [(0, .ref h0), (1, .int a1), (2, .int a2)] := hl
  refine z_anyQ (fun Q hQe => ?_)
  refine lv_aload_n hx hb dX14_traced_0 rfl (lv_at hl 0 rfl) ?_
  refine lv_iload_n hx hb dX14_traced_1 rfl (lv_at hl 1 rfl) ?_
  refine zq_i (wc := [(h0, .inr (17, [.ref m0, .ref m1, .ref m2, .ref m3, .ref m4, .ref m5, .ref m6, .ref m7, .ref m8, .ref m9, .ref m10, .ref m11, .ref m12, .ref m13, .ref m14, .ref m15, .ref m16, .ref m17, .ref m18, .ref m19, .ref m20, .int 0, .int 0, .int 0, .int 0, .long 0, .int 0]))]) (wr := []) (va_runV (As := [.int a1]) (rest := []) ⟨hx, hb, hml, hown, hts⟩ (k_isStation l D cy h0 m0 m1 m2 m3 m4 m5 m6 m7 m8 m9 m10 m11 m12 m13 m14 m15 m16 m17 m18 m19 m20 a1 s.heap.size ) (cwV 1 hts (gzV (gz q337) q336 q338 q339 q285) rfl rfl rfl vX14_isStation ⟨Nat.le_of_ble_eq_true rfl, Nat.le_of_ble_eq_true rfl⟩) (zpV (ci := 17) (T := TX14) (N := 27) (q0 := 0) hK hX hY hP hD hS hA [0] (by decide) rfl rfl rfl) rfl rfl hl.1 rfl (lv_room (Nat.le_of_ble_eq_true rfl)) dX14_traced_2 ⟨Nat.le_of_ble_eq_true rfl, Nat.le_of_ble_eq_true rfl⟩) hP hD hS hA [0] [] rfl rfl (by decide) (by decide) (fun x2 u1 H locs hw hP hD hS => ?_)
  obtain rfl : x2 = 0 := hw
  have hP : va_P D vwCl [(h0, .inr (17, [.ref m0, .ref m1, .ref m2, .ref m3, .ref m4, .ref m5, .ref m6, .ref m7, .ref m8, .ref m9, .ref m10, .ref m11, .ref m12, .ref m13, .ref m14, .ref m15, .ref m16, .ref m17, .ref m18, .ref m19, .ref m20, .int 0, .int 0, .int 0, .int 0, .long 0, .int 0]))] H := hP
  have hD : va_D A [(h0, .inr (17, [.ref m0, .ref m1, .ref m2, .ref m3, .ref m4, .ref m5, .ref m6, .ref m7, .ref m8, .ref m9, .ref m10, .ref m11, .ref m12, .ref m13, .ref m14, .ref m15, .ref m16, .ref m17, .ref m18, .ref m19, .ref m20, .int 0, .int 0, .int 0, .int 0, .long 0, .int 0]))] := hD
  refine lv_if_ne (tgt := 14) hx hb dX14_traced_5 (by decide) (fun c_5_2 => absurd (by decide +kernel) c_5_2) (fun _ => ?_)
  refine lv_aload_n hx hb dX14_traced_8 rfl (lv_at hl 0 rfl) ?_
  refine lv_iconst (v := 1) hx hb dX14_traced_9 (by decide) ?_
  refine zq_i (wc := [(h0, .inr (17, [.ref m0, .ref m1, .ref m2, .ref m3, .ref m4, .ref m5, .ref m6, .ref m7, .ref m8, .ref m9, .ref m10, .ref m11, .ref m12, .ref m13, .ref m14, .ref m15, .ref m16, .ref m17, .ref m18, .ref m19, .ref m20, .int 0, .int 0, .int 0, .int 0, .long 0, .int 0]))]) (wr := []) (va_runV (As := [.int 1]) (rest := []) ⟨hx, hb, hml, hown, hts⟩ (k_fails l D cy h0 m0 m1 m2 m3 m4 m5 m6 m7 m8 m9 m10 m11 m12 m13 m14 m15 m16 m17 m18 m19 m20 0 0 0 0 0 0 1 H.size ) (cwV 1 hts (gzV (gz q345) q344 q346 q347 q285) rfl rfl rfl vX14_fails ⟨Nat.le_of_ble_eq_true rfl, Nat.le_of_ble_eq_true rfl⟩) (zpV (ci := 17) (T := TX14) (N := 27) (q0 := 0) hK hX hY hP hD hS hA [0] (by decide) rfl rfl rfl) rfl rfl hl.1 rfl (lv_room (Nat.le_of_ble_eq_true rfl)) dX14_traced_10 ⟨Nat.le_of_ble_eq_true rfl, Nat.le_of_ble_eq_true rfl⟩) hP hD hS hA [0] [] rfl rfl (by decide) (by decide) (fun x5 u4 H locs hw hP hD hS => ?_)
  obtain rfl : x5 = 0 := hw
  have hP : va_P D vwCl [(h0, .inr (17, [.ref m0, .ref m1, .ref m2, .ref m3, .ref m4, .ref m5, .ref m6, .ref m7, .ref m8, .ref m9, .ref m10, .ref m11, .ref m12, .ref m13, .ref m14, .ref m15, .ref m16, .ref m17, .ref m18, .ref m19, .ref m20, .int 1, .int 0, .int 0, .int 0, .long 0, .int 0]))] H := hP
  have hD : va_D A [(h0, .inr (17, [.ref m0, .ref m1, .ref m2, .ref m3, .ref m4, .ref m5, .ref m6, .ref m7, .ref m8, .ref m9, .ref m10, .ref m11, .ref m12, .ref m13, .ref m14, .ref m15, .ref m16, .ref m17, .ref m18, .ref m19, .ref m20, .int 1, .int 0, .int 0, .int 0, .long 0, .int 0]))] := hD
  have hP9 := hP.sub (ws' := [(h0, .inr (17, [.ref m0, .ref m1, .ref m2, .ref m3, .ref m4, .ref m5, .ref m6, .ref m7, .ref m8, .ref m9, .ref m10, .ref m11, .ref m12, .ref m13, .ref m14, .ref m15, .ref m16, .ref m17, .ref m18, .ref m19, .ref m20, .int 1, .int 0, .int 0, .int 0, .long 0, .int 0]))]) [0] rfl
  have hD9 := hD.sub (ws' := [(h0, .inr (17, [.ref m0, .ref m1, .ref m2, .ref m3, .ref m4, .ref m5, .ref m6, .ref m7, .ref m8, .ref m9, .ref m10, .ref m11, .ref m12, .ref m13, .ref m14, .ref m15, .ref m16, .ref m17, .ref m18, .ref m19, .ref m20, .int 1, .int 0, .int 0, .int 0, .long 0, .int 0]))]) [0] (by decide) rfl
  refine W.widen (k := 0) (n := 0) (Nat.le_of_ble_eq_true rfl) (Nat.le_of_ble_eq_true rfl) ?_
  rw [hQe]
  exact W.iret (v := 0) hx hb hr (fun t ht hW => ⟨⟨0, (), rfl, rfl, ⟨by rw [ht]; exact hP9, hD9⟩⟩, hS.F ht⟩) hS.2.2 dX14_traced_13
set_option maxHeartbeats 4000000 in
set_option maxRecDepth 100000 in
/-- reference: peak -/
theorem g_peak (l : Launch) (D : va_G) (cy : Nat → ClassId) (h0 : Nat) (m0 : Nat) (m1 : Nat) (m2 : Nat) (m3 : Nat) (m4 : Nat) (m5 : Nat) (m6 : Nat) (m7 : Nat) (m8 : Nat) (m9 : Nat) (m10 : Nat) (m11 : Nat) (m12 : Nat) (m13 : Nat) (m14 : Nat) (m15 : Nat) (m16 : Nat) (m17 : Nat) (m18 : Nat) (m19 : Nat) (m20 : Nat) (a1 : Int32) (sz : Nat)  : Met l yX14_peak (wz yX14_peak cX14_peak 2 (some .int)) ({ frames := 2, cells := 0, slots := 0, locals := 46 } : Room) (va_Pc [.ref h0, .int a1] (zPre vwCl D cy [(h0, .inr (17, [.ref m0, .ref m1, .ref m2, .ref m3, .ref m4, .ref m5, .ref m6, .ref m7, .ref m8, .ref m9, .ref m10, .ref m11, .ref m12, .ref m13, .ref m14, .ref m15, .ref m16, .ref m17, .ref m18, .ref m19, .ref m20, .int 0, .int 0, .int 0, .int 0, .long 0, .int 0]))] sz)) (va_Qi (fun (r : Int32) (_ : Unit) => r = 0) (fun (u : Unit) t => zPost vwCl D (va_A [(h0, .inr (17, [.ref m0, .ref m1, .ref m2, .ref m3, .ref m4, .ref m5, .ref m6, .ref m7, .ref m8, .ref m9, .ref m10, .ref m11, .ref m12, .ref m13, .ref m14, .ref m15, .ref m16, .ref m17, .ref m18, .ref m19, .ref m20, .int 0, .int 0, .int 0, .int 0, .long 0, .int 0]))] sz) [(h0, .inr (17, [.ref m0, .ref m1, .ref m2, .ref m3, .ref m4, .ref m5, .ref m6, .ref m7, .ref m8, .ref m9, .ref m10, .ref m11, .ref m12, .ref m13, .ref m14, .ref m15, .ref m16, .ref m17, .ref m18, .ref m19, .ref m20, .int 1, .int 0, .int 0, .int 0, .long 0, .int 0]))] t) (va_A [(h0, .inr (17, [.ref m0, .ref m1, .ref m2, .ref m3, .ref m4, .ref m5, .ref m6, .ref m7, .ref m8, .ref m9, .ref m10, .ref m11, .ref m12, .ref m13, .ref m14, .ref m15, .ref m16, .ref m17, .ref m18, .ref m19, .ref m20, .int 0, .int 0, .int 0, .int 0, .long 0, .int 0]))] sz)) 0 0 (va_A [(h0, .inr (17, [.ref m0, .ref m1, .ref m2, .ref m3, .ref m4, .ref m5, .ref m6, .ref m7, .ref m8, .ref m9, .ref m10, .ref m11, .ref m12, .ref m13, .ref m14, .ref m15, .ref m16, .ref m17, .ref m18, .ref m19, .ref m20, .int 0, .int 0, .int 0, .int 0, .long 0, .int 0]))] sz) := by
  refine Met.ofW (cc := cX14_peak) (maxL := 2) (ret := (some .int)) (by decide) rfl ?_
  intro p e s m args below meth c s₁ B hml hv
  obtain ⟨rfl, hsz, hP, hK, hD0, hX, hY⟩ := hv
  have hx := B.exec
  have hb := B.bytes
  have hr := B.returns
  have hts0 := atoms_spec (ws := wz yX14_peak cX14_peak 2 (some .int)) B.pre
  have hts : ∀ w ∈ wAll, w.before _ s = true := fun w h => hts0 w (List.mem_cons_of_mem _ h)
  have hown : s.vm.findClass RX14 = some m.cls := findClass_of_methodNamed B.named
  have hlocks := B.notSynchronized
  subst hsz
  have hD := hD0.self (sz := s.heap.size)
  generalize hAe : va_A [(h0, .inr (17, [.ref m0, .ref m1, .ref m2, .ref m3, .ref m4, .ref m5, .ref m6, .ref m7, .ref m8, .ref m9, .ref m10, .ref m11, .ref m12, .ref m13, .ref m14, .ref m15, .ref m16, .ref m17, .ref m18, .ref m19, .ref m20, .int 0, .int 0, .int 0, .int 0, .long 0, .int 0]))] s.heap.size = A at hD hY ⊢
  have hA : ∀ q : Nat, s.heap.size ≤ q → A q := fun q h => by rw [← hAe]; exact Or.inr h
  have hS : va_S A s.heap s.heap [] := va_S.rf
  have hP : va_P D vwCl [(h0, .inr (17, [.ref m0, .ref m1, .ref m2, .ref m3, .ref m4, .ref m5, .ref m6, .ref m7, .ref m8, .ref m9, .ref m10, .ref m11, .ref m12, .ref m13, .ref m14, .ref m15, .ref m16, .ref m17, .ref m18, .ref m19, .ref m20, .int 0, .int 0, .int 0, .int 0, .long 0, .int 0]))] s.heap := hP
  have hl := lv_entry ([.ref h0, .int a1]) (n := 2) (Nat.le_of_ble_eq_true rfl)
  rw [lg_entry_eq]
  generalize (lg_sl ([.ref h0, .int a1]) ++ List.replicate (2 - (lg_sl ([.ref h0, .int a1])).length) Slot.unset).toArray = ls at hl ⊢
  have hl : lv_has ls 2 [(0, .ref h0), (1, .int a1)] := hl
  refine z_anyQ (fun Q hQe => ?_)
  refine lv_aload_n hx hb dX14_peak_0 rfl (lv_at hl 0 rfl) ?_
  refine lv_iload_n hx hb dX14_peak_1 rfl (lv_at hl 1 rfl) ?_
  refine zq_i (wc := [(h0, .inr (17, [.ref m0, .ref m1, .ref m2, .ref m3, .ref m4, .ref m5, .ref m6, .ref m7, .ref m8, .ref m9, .ref m10, .ref m11, .ref m12, .ref m13, .ref m14, .ref m15, .ref m16, .ref m17, .ref m18, .ref m19, .ref m20, .int 0, .int 0, .int 0, .int 0, .long 0, .int 0]))]) (wr := []) (va_runV (As := [.int a1]) (rest := []) ⟨hx, hb, hml, hown, hts⟩ (k_isStation l D cy h0 m0 m1 m2 m3 m4 m5 m6 m7 m8 m9 m10 m11 m12 m13 m14 m15 m16 m17 m18 m19 m20 a1 s.heap.size ) (cwV 1 hts (gzV (gz q337) q336 q338 q339 q285) rfl rfl rfl vX14_isStation ⟨Nat.le_of_ble_eq_true rfl, Nat.le_of_ble_eq_true rfl⟩) (zpV (ci := 17) (T := TX14) (N := 27) (q0 := 0) hK hX hY hP hD hS hA [0] (by decide) rfl rfl rfl) rfl rfl hl.1 rfl (lv_room (Nat.le_of_ble_eq_true rfl)) dX14_peak_2 ⟨Nat.le_of_ble_eq_true rfl, Nat.le_of_ble_eq_true rfl⟩) hP hD hS hA [0] [] rfl rfl (by decide) (by decide) (fun x2 u1 H locs hw hP hD hS => ?_)
  obtain rfl : x2 = 0 := hw
  have hP : va_P D vwCl [(h0, .inr (17, [.ref m0, .ref m1, .ref m2, .ref m3, .ref m4, .ref m5, .ref m6, .ref m7, .ref m8, .ref m9, .ref m10, .ref m11, .ref m12, .ref m13, .ref m14, .ref m15, .ref m16, .ref m17, .ref m18, .ref m19, .ref m20, .int 0, .int 0, .int 0, .int 0, .long 0, .int 0]))] H := hP
  have hD : va_D A [(h0, .inr (17, [.ref m0, .ref m1, .ref m2, .ref m3, .ref m4, .ref m5, .ref m6, .ref m7, .ref m8, .ref m9, .ref m10, .ref m11, .ref m12, .ref m13, .ref m14, .ref m15, .ref m16, .ref m17, .ref m18, .ref m19, .ref m20, .int 0, .int 0, .int 0, .int 0, .long 0, .int 0]))] := hD
  refine lv_if_ne (tgt := 14) hx hb dX14_peak_5 (by decide) (fun c_5_2 => absurd (by decide +kernel) c_5_2) (fun _ => ?_)
  refine lv_aload_n hx hb dX14_peak_8 rfl (lv_at hl 0 rfl) ?_
  refine lv_iconst (v := 1) hx hb dX14_peak_9 (by decide) ?_
  refine zq_i (wc := [(h0, .inr (17, [.ref m0, .ref m1, .ref m2, .ref m3, .ref m4, .ref m5, .ref m6, .ref m7, .ref m8, .ref m9, .ref m10, .ref m11, .ref m12, .ref m13, .ref m14, .ref m15, .ref m16, .ref m17, .ref m18, .ref m19, .ref m20, .int 0, .int 0, .int 0, .int 0, .long 0, .int 0]))]) (wr := []) (va_runV (As := [.int 1]) (rest := []) ⟨hx, hb, hml, hown, hts⟩ (k_fails l D cy h0 m0 m1 m2 m3 m4 m5 m6 m7 m8 m9 m10 m11 m12 m13 m14 m15 m16 m17 m18 m19 m20 0 0 0 0 0 0 1 H.size ) (cwV 1 hts (gzV (gz q345) q344 q346 q347 q285) rfl rfl rfl vX14_fails ⟨Nat.le_of_ble_eq_true rfl, Nat.le_of_ble_eq_true rfl⟩) (zpV (ci := 17) (T := TX14) (N := 27) (q0 := 0) hK hX hY hP hD hS hA [0] (by decide) rfl rfl rfl) rfl rfl hl.1 rfl (lv_room (Nat.le_of_ble_eq_true rfl)) dX14_peak_10 ⟨Nat.le_of_ble_eq_true rfl, Nat.le_of_ble_eq_true rfl⟩) hP hD hS hA [0] [] rfl rfl (by decide) (by decide) (fun x5 u4 H locs hw hP hD hS => ?_)
  obtain rfl : x5 = 0 := hw
  have hP : va_P D vwCl [(h0, .inr (17, [.ref m0, .ref m1, .ref m2, .ref m3, .ref m4, .ref m5, .ref m6, .ref m7, .ref m8, .ref m9, .ref m10, .ref m11, .ref m12, .ref m13, .ref m14, .ref m15, .ref m16, .ref m17, .ref m18, .ref m19, .ref m20, .int 1, .int 0, .int 0, .int 0, .long 0, .int 0]))] H := hP
  have hD : va_D A [(h0, .inr (17, [.ref m0, .ref m1, .ref m2, .ref m3, .ref m4, .ref m5, .ref m6, .ref m7, .ref m8, .ref m9, .ref m10, .ref m11, .ref m12, .ref m13, .ref m14, .ref m15, .ref m16, .ref m17, .ref m18, .ref m19, .ref m20, .int 1, .int 0, .int 0, .int 0, .long 0, .int 0]))] := hD
  have hP9 := hP.sub (ws' := [(h0, .inr (17, [.ref m0, .ref m1, .ref m2, .ref m3, .ref m4, .ref m5, .ref m6, .ref m7, .ref m8, .ref m9, .ref m10, .ref m11, .ref m12, .ref m13, .ref m14, .ref m15, .ref m16, .ref m17, .ref m18, .ref m19, .ref m20, .int 1, .int 0, .int 0, .int 0, .long 0, .int 0]))]) [0] rfl
  have hD9 := hD.sub (ws' := [(h0, .inr (17, [.ref m0, .ref m1, .ref m2, .ref m3, .ref m4, .ref m5, .ref m6, .ref m7, .ref m8, .ref m9, .ref m10, .ref m11, .ref m12, .ref m13, .ref m14, .ref m15, .ref m16, .ref m17, .ref m18, .ref m19, .ref m20, .int 1, .int 0, .int 0, .int 0, .long 0, .int 0]))]) [0] (by decide) rfl
  refine W.widen (k := 0) (n := 0) (Nat.le_of_ble_eq_true rfl) (Nat.le_of_ble_eq_true rfl) ?_
  rw [hQe]
  exact W.iret (v := 0) hx hb hr (fun t ht hW => ⟨⟨0, (), rfl, rfl, ⟨by rw [ht]; exact hP9, hD9⟩⟩, hS.F ht⟩) hS.2.2 dX14_peak_13
set_option maxHeartbeats 4000000 in
set_option maxRecDepth 100000 in
/-- reference: party -/
theorem g_party (l : Launch) (D : va_G) (cy : Nat → ClassId) (h0 : Nat) (m0 : Nat) (m1 : Nat) (m2 : Nat) (m3 : Nat) (m4 : Nat) (m5 : Nat) (m6 : Nat) (m7 : Nat) (m8 : Nat) (m9 : Nat) (m10 : Nat) (m11 : Nat) (m12 : Nat) (m13 : Nat) (m14 : Nat) (m15 : Nat) (m16 : Nat) (m17 : Nat) (m18 : Nat) (m19 : Nat) (m20 : Nat) (a1 : Int32) (sz : Nat)  : Met l yX14_party (wz yX14_party cX14_party 3 (some .int)) ({ frames := 2, cells := 0, slots := 0, locals := 46 } : Room) (va_Pc [.ref h0, .int a1] (zPre vwCl D cy [(h0, .inr (17, [.ref m0, .ref m1, .ref m2, .ref m3, .ref m4, .ref m5, .ref m6, .ref m7, .ref m8, .ref m9, .ref m10, .ref m11, .ref m12, .ref m13, .ref m14, .ref m15, .ref m16, .ref m17, .ref m18, .ref m19, .ref m20, .int 0, .int 0, .int 0, .int 0, .long 0, .int 0]))] sz)) (va_Qi (fun (r : Int32) (_ : Unit) => r = 0) (fun (u : Unit) t => zPost vwCl D (va_A [(h0, .inr (17, [.ref m0, .ref m1, .ref m2, .ref m3, .ref m4, .ref m5, .ref m6, .ref m7, .ref m8, .ref m9, .ref m10, .ref m11, .ref m12, .ref m13, .ref m14, .ref m15, .ref m16, .ref m17, .ref m18, .ref m19, .ref m20, .int 0, .int 0, .int 0, .int 0, .long 0, .int 0]))] sz) [(h0, .inr (17, [.ref m0, .ref m1, .ref m2, .ref m3, .ref m4, .ref m5, .ref m6, .ref m7, .ref m8, .ref m9, .ref m10, .ref m11, .ref m12, .ref m13, .ref m14, .ref m15, .ref m16, .ref m17, .ref m18, .ref m19, .ref m20, .int 1, .int 0, .int 0, .int 0, .long 0, .int 0]))] t) (va_A [(h0, .inr (17, [.ref m0, .ref m1, .ref m2, .ref m3, .ref m4, .ref m5, .ref m6, .ref m7, .ref m8, .ref m9, .ref m10, .ref m11, .ref m12, .ref m13, .ref m14, .ref m15, .ref m16, .ref m17, .ref m18, .ref m19, .ref m20, .int 0, .int 0, .int 0, .int 0, .long 0, .int 0]))] sz)) 0 0 (va_A [(h0, .inr (17, [.ref m0, .ref m1, .ref m2, .ref m3, .ref m4, .ref m5, .ref m6, .ref m7, .ref m8, .ref m9, .ref m10, .ref m11, .ref m12, .ref m13, .ref m14, .ref m15, .ref m16, .ref m17, .ref m18, .ref m19, .ref m20, .int 0, .int 0, .int 0, .int 0, .long 0, .int 0]))] sz) := by
  refine Met.ofW (cc := cX14_party) (maxL := 3) (ret := (some .int)) (by decide) rfl ?_
  intro p e s m args below meth c s₁ B hml hv
  obtain ⟨rfl, hsz, hP, hK, hD0, hX, hY⟩ := hv
  have hx := B.exec
  have hb := B.bytes
  have hr := B.returns
  have hts0 := atoms_spec (ws := wz yX14_party cX14_party 3 (some .int)) B.pre
  have hts : ∀ w ∈ wAll, w.before _ s = true := fun w h => hts0 w (List.mem_cons_of_mem _ h)
  have hown : s.vm.findClass RX14 = some m.cls := findClass_of_methodNamed B.named
  have hlocks := B.notSynchronized
  subst hsz
  have hD := hD0.self (sz := s.heap.size)
  generalize hAe : va_A [(h0, .inr (17, [.ref m0, .ref m1, .ref m2, .ref m3, .ref m4, .ref m5, .ref m6, .ref m7, .ref m8, .ref m9, .ref m10, .ref m11, .ref m12, .ref m13, .ref m14, .ref m15, .ref m16, .ref m17, .ref m18, .ref m19, .ref m20, .int 0, .int 0, .int 0, .int 0, .long 0, .int 0]))] s.heap.size = A at hD hY ⊢
  have hA : ∀ q : Nat, s.heap.size ≤ q → A q := fun q h => by rw [← hAe]; exact Or.inr h
  have hS : va_S A s.heap s.heap [] := va_S.rf
  have hP : va_P D vwCl [(h0, .inr (17, [.ref m0, .ref m1, .ref m2, .ref m3, .ref m4, .ref m5, .ref m6, .ref m7, .ref m8, .ref m9, .ref m10, .ref m11, .ref m12, .ref m13, .ref m14, .ref m15, .ref m16, .ref m17, .ref m18, .ref m19, .ref m20, .int 0, .int 0, .int 0, .int 0, .long 0, .int 0]))] s.heap := hP
  have hl := lv_entry ([.ref h0, .int a1]) (n := 3) (Nat.le_of_ble_eq_true rfl)
  rw [lg_entry_eq]
  generalize (lg_sl ([.ref h0, .int a1]) ++ List.replicate (3 - (lg_sl ([.ref h0, .int a1])).length) Slot.unset).toArray = ls at hl ⊢
  have hl : lv_has ls 3 [(0, .ref h0), (1, .int a1)] := hl
  refine z_anyQ (fun Q hQe => ?_)
  refine lv_aload_n hx hb dX14_party_0 rfl (lv_at hl 0 rfl) ?_
  refine lv_iload_n hx hb dX14_party_1 rfl (lv_at hl 1 rfl) ?_
  refine zq_i (wc := [(h0, .inr (17, [.ref m0, .ref m1, .ref m2, .ref m3, .ref m4, .ref m5, .ref m6, .ref m7, .ref m8, .ref m9, .ref m10, .ref m11, .ref m12, .ref m13, .ref m14, .ref m15, .ref m16, .ref m17, .ref m18, .ref m19, .ref m20, .int 0, .int 0, .int 0, .int 0, .long 0, .int 0]))]) (wr := []) (va_runV (As := [.int a1]) (rest := []) ⟨hx, hb, hml, hown, hts⟩ (k_isStation l D cy h0 m0 m1 m2 m3 m4 m5 m6 m7 m8 m9 m10 m11 m12 m13 m14 m15 m16 m17 m18 m19 m20 a1 s.heap.size ) (cwV 1 hts (gzV (gz q337) q336 q338 q339 q285) rfl rfl rfl vX14_isStation ⟨Nat.le_of_ble_eq_true rfl, Nat.le_of_ble_eq_true rfl⟩) (zpV (ci := 17) (T := TX14) (N := 27) (q0 := 0) hK hX hY hP hD hS hA [0] (by decide) rfl rfl rfl) rfl rfl hl.1 rfl (lv_room (Nat.le_of_ble_eq_true rfl)) dX14_party_2 ⟨Nat.le_of_ble_eq_true rfl, Nat.le_of_ble_eq_true rfl⟩) hP hD hS hA [0] [] rfl rfl (by decide) (by decide) (fun x2 u1 H locs hw hP hD hS => ?_)
  obtain rfl : x2 = 0 := hw
  have hP : va_P D vwCl [(h0, .inr (17, [.ref m0, .ref m1, .ref m2, .ref m3, .ref m4, .ref m5, .ref m6, .ref m7, .ref m8, .ref m9, .ref m10, .ref m11, .ref m12, .ref m13, .ref m14, .ref m15, .ref m16, .ref m17, .ref m18, .ref m19, .ref m20, .int 0, .int 0, .int 0, .int 0, .long 0, .int 0]))] H := hP
  have hD : va_D A [(h0, .inr (17, [.ref m0, .ref m1, .ref m2, .ref m3, .ref m4, .ref m5, .ref m6, .ref m7, .ref m8, .ref m9, .ref m10, .ref m11, .ref m12, .ref m13, .ref m14, .ref m15, .ref m16, .ref m17, .ref m18, .ref m19, .ref m20, .int 0, .int 0, .int 0, .int 0, .long 0, .int 0]))] := hD
  refine lv_if_ne (tgt := 14) hx hb dX14_party_5 (by decide) (fun c_5_2 => absurd (by decide +kernel) c_5_2) (fun _ => ?_)
  refine lv_aload_n hx hb dX14_party_8 rfl (lv_at hl 0 rfl) ?_
  refine lv_iconst (v := 1) hx hb dX14_party_9 (by decide) ?_
  refine zq_i (wc := [(h0, .inr (17, [.ref m0, .ref m1, .ref m2, .ref m3, .ref m4, .ref m5, .ref m6, .ref m7, .ref m8, .ref m9, .ref m10, .ref m11, .ref m12, .ref m13, .ref m14, .ref m15, .ref m16, .ref m17, .ref m18, .ref m19, .ref m20, .int 0, .int 0, .int 0, .int 0, .long 0, .int 0]))]) (wr := []) (va_runV (As := [.int 1]) (rest := []) ⟨hx, hb, hml, hown, hts⟩ (k_fails l D cy h0 m0 m1 m2 m3 m4 m5 m6 m7 m8 m9 m10 m11 m12 m13 m14 m15 m16 m17 m18 m19 m20 0 0 0 0 0 0 1 H.size ) (cwV 1 hts (gzV (gz q345) q344 q346 q347 q285) rfl rfl rfl vX14_fails ⟨Nat.le_of_ble_eq_true rfl, Nat.le_of_ble_eq_true rfl⟩) (zpV (ci := 17) (T := TX14) (N := 27) (q0 := 0) hK hX hY hP hD hS hA [0] (by decide) rfl rfl rfl) rfl rfl hl.1 rfl (lv_room (Nat.le_of_ble_eq_true rfl)) dX14_party_10 ⟨Nat.le_of_ble_eq_true rfl, Nat.le_of_ble_eq_true rfl⟩) hP hD hS hA [0] [] rfl rfl (by decide) (by decide) (fun x5 u4 H locs hw hP hD hS => ?_)
  obtain rfl : x5 = 0 := hw
  have hP : va_P D vwCl [(h0, .inr (17, [.ref m0, .ref m1, .ref m2, .ref m3, .ref m4, .ref m5, .ref m6, .ref m7, .ref m8, .ref m9, .ref m10, .ref m11, .ref m12, .ref m13, .ref m14, .ref m15, .ref m16, .ref m17, .ref m18, .ref m19, .ref m20, .int 1, .int 0, .int 0, .int 0, .long 0, .int 0]))] H := hP
  have hD : va_D A [(h0, .inr (17, [.ref m0, .ref m1, .ref m2, .ref m3, .ref m4, .ref m5, .ref m6, .ref m7, .ref m8, .ref m9, .ref m10, .ref m11, .ref m12, .ref m13, .ref m14, .ref m15, .ref m16, .ref m17, .ref m18, .ref m19, .ref m20, .int 1, .int 0, .int 0, .int 0, .long 0, .int 0]))] := hD
  have hP9 := hP.sub (ws' := [(h0, .inr (17, [.ref m0, .ref m1, .ref m2, .ref m3, .ref m4, .ref m5, .ref m6, .ref m7, .ref m8, .ref m9, .ref m10, .ref m11, .ref m12, .ref m13, .ref m14, .ref m15, .ref m16, .ref m17, .ref m18, .ref m19, .ref m20, .int 1, .int 0, .int 0, .int 0, .long 0, .int 0]))]) [0] rfl
  have hD9 := hD.sub (ws' := [(h0, .inr (17, [.ref m0, .ref m1, .ref m2, .ref m3, .ref m4, .ref m5, .ref m6, .ref m7, .ref m8, .ref m9, .ref m10, .ref m11, .ref m12, .ref m13, .ref m14, .ref m15, .ref m16, .ref m17, .ref m18, .ref m19, .ref m20, .int 1, .int 0, .int 0, .int 0, .long 0, .int 0]))]) [0] (by decide) rfl
  refine W.widen (k := 0) (n := 0) (Nat.le_of_ble_eq_true rfl) (Nat.le_of_ble_eq_true rfl) ?_
  rw [hQe]
  exact W.iret (v := 0) hx hb hr (fun t ht hW => ⟨⟨0, (), rfl, rfl, ⟨by rw [ht]; exact hP9, hD9⟩⟩, hS.F ht⟩) hS.2.2 dX14_party_13
set_option maxHeartbeats 4000000 in
set_option maxRecDepth 100000 in
/-- reference: setAside -/
theorem g_setAside (l : Launch) (D : va_G) (cy : Nat → ClassId) (h0 : Nat) (m0 : Nat) (m1 : Nat) (m2 : Nat) (m3 : Nat) (m4 : Nat) (m5 : Nat) (m6 : Nat) (m7 : Nat) (m8 : Nat) (m9 : Nat) (m10 : Nat) (m11 : Nat) (m12 : Nat) (m13 : Nat) (m14 : Nat) (m15 : Nat) (m16 : Nat) (m17 : Nat) (m18 : Nat) (m19 : Nat) (m20 : Nat) (b1 : Nat) (a1 : Int32) (a2 : Int32) (sz : Nat)  : Met l yX14_setAside (wz yX14_setAside cX14_setAside 4 (some .boolean)) ({ frames := 2, cells := 0, slots := 0, locals := 46 } : Room) (va_Pc [.ref h0, .int a1, .int a2] (zPre vwCl D cy [(h0, .inr (17, [.ref m0, .ref m1, .ref m2, .ref m3, .ref m4, .ref m5, .ref m6, .ref m7, .ref m8, .ref m9, .ref m10, .ref m11, .ref m12, .ref m13, .ref m14, .ref m15, .ref m16, .ref m17, .ref m18, .ref m19, .ref m20, .int 0, .int 0, .int 0, .int 0, .long 0, .int 0])), (m0, .inr (2, [.int 0, .ref b1, .int 0]))] sz)) (va_Qi (fun (r : Int32) (_ : Unit) => r = 0) (fun (u : Unit) t => zPost vwCl D (va_A [(h0, .inr (17, [.ref m0, .ref m1, .ref m2, .ref m3, .ref m4, .ref m5, .ref m6, .ref m7, .ref m8, .ref m9, .ref m10, .ref m11, .ref m12, .ref m13, .ref m14, .ref m15, .ref m16, .ref m17, .ref m18, .ref m19, .ref m20, .int 0, .int 0, .int 0, .int 0, .long 0, .int 0])), (m0, .inr (2, [.int 0, .ref b1, .int 0]))] sz) [(h0, .inr (17, [.ref m0, .ref m1, .ref m2, .ref m3, .ref m4, .ref m5, .ref m6, .ref m7, .ref m8, .ref m9, .ref m10, .ref m11, .ref m12, .ref m13, .ref m14, .ref m15, .ref m16, .ref m17, .ref m18, .ref m19, .ref m20, .int 1, .int 0, .int 0, .int 0, .long 0, .int 0]))] t) (va_A [(h0, .inr (17, [.ref m0, .ref m1, .ref m2, .ref m3, .ref m4, .ref m5, .ref m6, .ref m7, .ref m8, .ref m9, .ref m10, .ref m11, .ref m12, .ref m13, .ref m14, .ref m15, .ref m16, .ref m17, .ref m18, .ref m19, .ref m20, .int 0, .int 0, .int 0, .int 0, .long 0, .int 0])), (m0, .inr (2, [.int 0, .ref b1, .int 0]))] sz)) 0 0 (va_A [(h0, .inr (17, [.ref m0, .ref m1, .ref m2, .ref m3, .ref m4, .ref m5, .ref m6, .ref m7, .ref m8, .ref m9, .ref m10, .ref m11, .ref m12, .ref m13, .ref m14, .ref m15, .ref m16, .ref m17, .ref m18, .ref m19, .ref m20, .int 0, .int 0, .int 0, .int 0, .long 0, .int 0])), (m0, .inr (2, [.int 0, .ref b1, .int 0]))] sz) := by
  refine Met.ofW (cc := cX14_setAside) (maxL := 4) (ret := (some .boolean)) (by decide) rfl ?_
  intro p e s m args below meth c s₁ B hml hv
  obtain ⟨rfl, hsz, hP, hK, hD0, hX, hY⟩ := hv
  have hx := B.exec
  have hb := B.bytes
  have hr := B.returns
  have hts0 := atoms_spec (ws := wz yX14_setAside cX14_setAside 4 (some .boolean)) B.pre
  have hts : ∀ w ∈ wAll, w.before _ s = true := fun w h => hts0 w (List.mem_cons_of_mem _ h)
  have hown : s.vm.findClass RX14 = some m.cls := findClass_of_methodNamed B.named
  have hlocks := B.notSynchronized
  subst hsz
  have hD := hD0.self (sz := s.heap.size)
  generalize hAe : va_A [(h0, .inr (17, [.ref m0, .ref m1, .ref m2, .ref m3, .ref m4, .ref m5, .ref m6, .ref m7, .ref m8, .ref m9, .ref m10, .ref m11, .ref m12, .ref m13, .ref m14, .ref m15, .ref m16, .ref m17, .ref m18, .ref m19, .ref m20, .int 0, .int 0, .int 0, .int 0, .long 0, .int 0])), (m0, .inr (2, [.int 0, .ref b1, .int 0]))] s.heap.size = A at hD hY ⊢
  have hA : ∀ q : Nat, s.heap.size ≤ q → A q := fun q h => by rw [← hAe]; exact Or.inr h
  have hS : va_S A s.heap s.heap [] := va_S.rf
  have hP : va_P D vwCl [(h0, .inr (17, [.ref m0, .ref m1, .ref m2, .ref m3, .ref m4, .ref m5, .ref m6, .ref m7, .ref m8, .ref m9, .ref m10, .ref m11, .ref m12, .ref m13, .ref m14, .ref m15, .ref m16, .ref m17, .ref m18, .ref m19, .ref m20, .int 0, .int 0, .int 0, .int 0, .long 0, .int 0])), (m0, .inr (2, [.int 0, .ref b1, .int 0]))] s.heap := hP
  have hl := lv_entry ([.ref h0, .int a1, .int a2]) (n := 4) (Nat.le_of_ble_eq_true rfl)
  rw [lg_entry_eq]
  generalize (lg_sl ([.ref h0, .int a1, .int a2]) ++ List.replicate (4 - (lg_sl ([.ref h0, .int a1, .int a2])).length) Slot.unset).toArray = ls at hl ⊢
  have hl : lv_has ls 4 [(0, .ref h0), (1, .int a1), (2, .int a2)] := hl
  refine z_anyQ (fun Q hQe => ?_)
  refine lv_aload_n hx hb dX14_setAside_0 rfl (lv_at hl 0 rfl) ?_
  refine lv_iload_n hx hb dX14_setAside_1 rfl (lv_at hl 1 rfl) ?_
  refine zq_i (wc := [(h0, .inr (17, [.ref m0, .ref m1, .ref m2, .ref m3, .ref m4, .ref m5, .ref m6, .ref m7, .ref m8, .ref m9, .ref m10, .ref m11, .ref m12, .ref m13, .ref m14, .ref m15, .ref m16, .ref m17, .ref m18, .ref m19, .ref m20, .int 0, .int 0, .int 0, .int 0, .long 0, .int 0])), (m0, .inr (2, [.int 0, .ref b1, .int 0]))]) (wr := []) (va_runV (As := [.int a1]) (rest := []) ⟨hx, hb, hml, hown, hts⟩ (k_isShot l D cy h0 m0 m1 m2 m3 m4 m5 m6 m7 m8 m9 m10 m11 m12 m13 m14 m15 m16 m17 m18 m19 m20 b1 a1 s.heap.size ) (cwV 1 hts (gzV (gz q357) q356 q358 q359 q285) rfl rfl rfl vX14_isShot ⟨Nat.le_of_ble_eq_true rfl, Nat.le_of_ble_eq_true rfl⟩) (zpV (ci := 17) (T := TX14) (N := 27) (q0 := 0) hK hX hY hP hD hS hA [0, 1] (by decide) rfl rfl rfl) rfl rfl hl.1 rfl (lv_room (Nat.le_of_ble_eq_true rfl)) dX14_setAside_2 ⟨Nat.le_of_ble_eq_true rfl, Nat.le_of_ble_eq_true rfl⟩) hP hD hS hA [0, 1] [] rfl rfl (by decide) (by decide) (fun x2 u1 H locs hw hP hD hS => ?_)
  obtain rfl : x2 = 0 := hw
  have hP : va_P D vwCl [(h0, .inr (17, [.ref m0, .ref m1, .ref m2, .ref m3, .ref m4, .ref m5, .ref m6, .ref m7, .ref m8, .ref m9, .ref m10, .ref m11, .ref m12, .ref m13, .ref m14, .ref m15, .ref m16, .ref m17, .ref m18, .ref m19, .ref m20, .int 0, .int 0, .int 0, .int 0, .long 0, .int 0])), (m0, .inr (2, [.int 0, .ref b1, .int 0]))] H := hP
  have hD : va_D A [(h0, .inr (17, [.ref m0, .ref m1, .ref m2, .ref m3, .ref m4, .ref m5, .ref m6, .ref m7, .ref m8, .ref m9, .ref m10, .ref m11, .ref m12, .ref m13, .ref m14, .ref m15, .ref m16, .ref m17, .ref m18, .ref m19, .ref m20, .int 0, .int 0, .int 0, .int 0, .long 0, .int 0])), (m0, .inr (2, [.int 0, .ref b1, .int 0]))] := hD
  refine lv_if_ne (tgt := 14) hx hb dX14_setAside_5 (by decide) (fun c_5_2 => absurd (by decide +kernel) c_5_2) (fun _ => ?_)
  refine lv_aload_n hx hb dX14_setAside_8 rfl (lv_at hl 0 rfl) ?_
  refine lv_iconst (v := 1) hx hb dX14_setAside_9 (by decide) ?_
  refine zq_i (wc := [(h0, .inr (17, [.ref m0, .ref m1, .ref m2, .ref m3, .ref m4, .ref m5, .ref m6, .ref m7, .ref m8, .ref m9, .ref m10, .ref m11, .ref m12, .ref m13, .ref m14, .ref m15, .ref m16, .ref m17, .ref m18, .ref m19, .ref m20, .int 0, .int 0, .int 0, .int 0, .long 0, .int 0]))]) (wr := [(m0, .inr (2, [.int 0, .ref b1, .int 0]))]) (va_runV (As := [.int 1]) (rest := []) ⟨hx, hb, hml, hown, hts⟩ (k_refuses l D cy h0 m0 m1 m2 m3 m4 m5 m6 m7 m8 m9 m10 m11 m12 m13 m14 m15 m16 m17 m18 m19 m20 0 0 0 0 0 0 1 H.size ) (cwV 1 hts (gzV (gz q349) q348 q350 q351 q285) rfl rfl rfl vX14_refuses ⟨Nat.le_of_ble_eq_true rfl, Nat.le_of_ble_eq_true rfl⟩) (zpV (ci := 17) (T := TX14) (N := 27) (q0 := 0) hK hX hY hP hD hS hA [0] (by decide) rfl rfl rfl) rfl rfl hl.1 rfl (lv_room (Nat.le_of_ble_eq_true rfl)) dX14_setAside_10 ⟨Nat.le_of_ble_eq_true rfl, Nat.le_of_ble_eq_true rfl⟩) hP hD hS hA [0] [1] rfl rfl (by decide) (by decide) (fun x5 u4 H locs hw hP hD hS => ?_)
  obtain rfl : x5 = 0 := hw
  have hP : va_P D vwCl [(m0, .inr (2, [.int 0, .ref b1, .int 0])), (h0, .inr (17, [.ref m0, .ref m1, .ref m2, .ref m3, .ref m4, .ref m5, .ref m6, .ref m7, .ref m8, .ref m9, .ref m10, .ref m11, .ref m12, .ref m13, .ref m14, .ref m15, .ref m16, .ref m17, .ref m18, .ref m19, .ref m20, .int 1, .int 0, .int 0, .int 0, .long 0, .int 0]))] H := hP
  have hD : va_D A [(m0, .inr (2, [.int 0, .ref b1, .int 0])), (h0, .inr (17, [.ref m0, .ref m1, .ref m2, .ref m3, .ref m4, .ref m5, .ref m6, .ref m7, .ref m8, .ref m9, .ref m10, .ref m11, .ref m12, .ref m13, .ref m14, .ref m15, .ref m16, .ref m17, .ref m18, .ref m19, .ref m20, .int 1, .int 0, .int 0, .int 0, .long 0, .int 0]))] := hD
  have hP9 := hP.sub (ws' := [(h0, .inr (17, [.ref m0, .ref m1, .ref m2, .ref m3, .ref m4, .ref m5, .ref m6, .ref m7, .ref m8, .ref m9, .ref m10, .ref m11, .ref m12, .ref m13, .ref m14, .ref m15, .ref m16, .ref m17, .ref m18, .ref m19, .ref m20, .int 1, .int 0, .int 0, .int 0, .long 0, .int 0]))]) [1] rfl
  have hD9 := hD.sub (ws' := [(h0, .inr (17, [.ref m0, .ref m1, .ref m2, .ref m3, .ref m4, .ref m5, .ref m6, .ref m7, .ref m8, .ref m9, .ref m10, .ref m11, .ref m12, .ref m13, .ref m14, .ref m15, .ref m16, .ref m17, .ref m18, .ref m19, .ref m20, .int 1, .int 0, .int 0, .int 0, .long 0, .int 0]))]) [1] (by decide) rfl
  refine W.widen (k := 0) (n := 0) (Nat.le_of_ble_eq_true rfl) (Nat.le_of_ble_eq_true rfl) ?_
  rw [hQe]
  exact W.zret (v := 0) hx hb hr rfl (fun t ht hW => ⟨⟨0, (), rfl, rfl, ⟨by rw [ht]; exact hP9, hD9⟩⟩, hS.F ht⟩) hS.2.2 dX14_setAside_13
set_option maxHeartbeats 4000000 in
set_option maxRecDepth 100000 in
/-- reference: fault -/
theorem g_fault (l : Launch) (D : va_G) (cy : Nat → ClassId) (h0 : Nat) (m0 : Nat) (m1 : Nat) (m2 : Nat) (m3 : Nat) (m4 : Nat) (m5 : Nat) (m6 : Nat) (m7 : Nat) (m8 : Nat) (m9 : Nat) (m10 : Nat) (m11 : Nat) (m12 : Nat) (m13 : Nat) (m14 : Nat) (m15 : Nat) (m16 : Nat) (m17 : Nat) (m18 : Nat) (m19 : Nat) (m20 : Nat) (b1 : Nat) (a1 : Int32) (a2 : Int32) (sz : Nat)  : Met l yX14_fault (wz yX14_fault cX14_fault 3 (some .long)) ({ frames := 2, cells := 0, slots := 0, locals := 46 } : Room) (va_Pc [.ref h0, .int a1, .int a2] (zPre vwCl D cy [(h0, .inr (17, [.ref m0, .ref m1, .ref m2, .ref m3, .ref m4, .ref m5, .ref m6, .ref m7, .ref m8, .ref m9, .ref m10, .ref m11, .ref m12, .ref m13, .ref m14, .ref m15, .ref m16, .ref m17, .ref m18, .ref m19, .ref m20, .int 0, .int 0, .int 0, .int 0, .long 0, .int 0])), (m0, .inr (2, [.int 0, .ref b1, .int 0]))] sz)) (va_Ql (fun (r : Int64) (_ : Unit) => r = 0) (fun (u : Unit) t => zPost vwCl D (va_A [(h0, .inr (17, [.ref m0, .ref m1, .ref m2, .ref m3, .ref m4, .ref m5, .ref m6, .ref m7, .ref m8, .ref m9, .ref m10, .ref m11, .ref m12, .ref m13, .ref m14, .ref m15, .ref m16, .ref m17, .ref m18, .ref m19, .ref m20, .int 0, .int 0, .int 0, .int 0, .long 0, .int 0])), (m0, .inr (2, [.int 0, .ref b1, .int 0]))] sz) [(h0, .inr (17, [.ref m0, .ref m1, .ref m2, .ref m3, .ref m4, .ref m5, .ref m6, .ref m7, .ref m8, .ref m9, .ref m10, .ref m11, .ref m12, .ref m13, .ref m14, .ref m15, .ref m16, .ref m17, .ref m18, .ref m19, .ref m20, .int 1, .int 0, .int 0, .int 0, .long 0, .int 0]))] t) (va_A [(h0, .inr (17, [.ref m0, .ref m1, .ref m2, .ref m3, .ref m4, .ref m5, .ref m6, .ref m7, .ref m8, .ref m9, .ref m10, .ref m11, .ref m12, .ref m13, .ref m14, .ref m15, .ref m16, .ref m17, .ref m18, .ref m19, .ref m20, .int 0, .int 0, .int 0, .int 0, .long 0, .int 0])), (m0, .inr (2, [.int 0, .ref b1, .int 0]))] sz)) 0 0 (va_A [(h0, .inr (17, [.ref m0, .ref m1, .ref m2, .ref m3, .ref m4, .ref m5, .ref m6, .ref m7, .ref m8, .ref m9, .ref m10, .ref m11, .ref m12, .ref m13, .ref m14, .ref m15, .ref m16, .ref m17, .ref m18, .ref m19, .ref m20, .int 0, .int 0, .int 0, .int 0, .long 0, .int 0])), (m0, .inr (2, [.int 0, .ref b1, .int 0]))] sz) := by
  refine Met.ofW (cc := cX14_fault) (maxL := 3) (ret := (some .long)) (by decide) rfl ?_
  intro p e s m args below meth c s₁ B hml hv
  obtain ⟨rfl, hsz, hP, hK, hD0, hX, hY⟩ := hv
  have hx := B.exec
  have hb := B.bytes
  have hr := B.returns
  have hts0 := atoms_spec (ws := wz yX14_fault cX14_fault 3 (some .long)) B.pre
  have hts : ∀ w ∈ wAll, w.before _ s = true := fun w h => hts0 w (List.mem_cons_of_mem _ h)
  have hown : s.vm.findClass RX14 = some m.cls := findClass_of_methodNamed B.named
  have hlocks := B.notSynchronized
  subst hsz
  have hD := hD0.self (sz := s.heap.size)
  generalize hAe : va_A [(h0, .inr (17, [.ref m0, .ref m1, .ref m2, .ref m3, .ref m4, .ref m5, .ref m6, .ref m7, .ref m8, .ref m9, .ref m10, .ref m11, .ref m12, .ref m13, .ref m14, .ref m15, .ref m16, .ref m17, .ref m18, .ref m19, .ref m20, .int 0, .int 0, .int 0, .int 0, .long 0, .int 0])), (m0, .inr (2, [.int 0, .ref b1, .int 0]))] s.heap.size = A at hD hY ⊢
  have hA : ∀ q : Nat, s.heap.size ≤ q → A q := fun q h => by rw [← hAe]; exact Or.inr h
  have hS : va_S A s.heap s.heap [] := va_S.rf
  have hP : va_P D vwCl [(h0, .inr (17, [.ref m0, .ref m1, .ref m2, .ref m3, .ref m4, .ref m5, .ref m6, .ref m7, .ref m8, .ref m9, .ref m10, .ref m11, .ref m12, .ref m13, .ref m14, .ref m15, .ref m16, .ref m17, .ref m18, .ref m19, .ref m20, .int 0, .int 0, .int 0, .int 0, .long 0, .int 0])), (m0, .inr (2, [.int 0, .ref b1, .int 0]))] s.heap := hP
  have hl := lv_entry ([.ref h0, .int a1, .int a2]) (n := 3) (Nat.le_of_ble_eq_true rfl)
  rw [lg_entry_eq]
  generalize (lg_sl ([.ref h0, .int a1, .int a2]) ++ List.replicate (3 - (lg_sl ([.ref h0, .int a1, .int a2])).length) Slot.unset).toArray = ls at hl ⊢
  have hl : lv_has ls 3 [(0, .ref h0), (1, .int a1), (2, .int a2)] := hl
  refine z_anyQ (fun Q hQe => ?_)
  refine lv_aload_n hx hb dX14_fault_0 rfl (lv_at hl 0 rfl) ?_
  refine lv_aload_n hx hb dX14_fault_1 rfl (lv_at hl 0 rfl) ?_
  refine lv_iload_n hx hb dX14_fault_2 rfl (lv_at hl 1 rfl) ?_
  refine zq_i (wc := [(h0, .inr (17, [.ref m0, .ref m1, .ref m2, .ref m3, .ref m4, .ref m5, .ref m6, .ref m7, .ref m8, .ref m9, .ref m10, .ref m11, .ref m12, .ref m13, .ref m14, .ref m15, .ref m16, .ref m17, .ref m18, .ref m19, .ref m20, .int 0, .int 0, .int 0, .int 0, .long 0, .int 0])), (m0, .inr (2, [.int 0, .ref b1, .int 0]))]) (wr := []) (va_runV (As := [.int a1]) (rest := [.ref h0]) ⟨hx, hb, hml, hown, hts⟩ (k_isShot l D cy h0 m0 m1 m2 m3 m4 m5 m6 m7 m8 m9 m10 m11 m12 m13 m14 m15 m16 m17 m18 m19 m20 b1 a1 s.heap.size ) (cwV 1 hts (gzV (gz q357) q356 q358 q359 q285) rfl rfl rfl vX14_isShot ⟨Nat.le_of_ble_eq_true rfl, Nat.le_of_ble_eq_true rfl⟩) (zpV (ci := 17) (T := TX14) (N := 27) (q0 := 0) hK hX hY hP hD hS hA [0, 1] (by decide) rfl rfl rfl) rfl rfl hl.1 rfl (lv_room (Nat.le_of_ble_eq_true rfl)) dX14_fault_3 ⟨Nat.le_of_ble_eq_true rfl, Nat.le_of_ble_eq_true rfl⟩) hP hD hS hA [0, 1] [] rfl rfl (by decide) (by decide) (fun x2 u1 H locs hw hP hD hS => ?_)
  obtain rfl : x2 = 0 := hw
  have hP : va_P D vwCl [(h0, .inr (17, [.ref m0, .ref m1, .ref m2, .ref m3, .ref m4, .ref m5, .ref m6, .ref m7, .ref m8, .ref m9, .ref m10, .ref m11, .ref m12, .ref m13, .ref m14, .ref m15, .ref m16, .ref m17, .ref m18, .ref m19, .ref m20, .int 0, .int 0, .int 0, .int 0, .long 0, .int 0])), (m0, .inr (2, [.int 0, .ref b1, .int 0]))] H := hP
  have hD : va_D A [(h0, .inr (17, [.ref m0, .ref m1, .ref m2, .ref m3, .ref m4, .ref m5, .ref m6, .ref m7, .ref m8, .ref m9, .ref m10, .ref m11, .ref m12, .ref m13, .ref m14, .ref m15, .ref m16, .ref m17, .ref m18, .ref m19, .ref m20, .int 0, .int 0, .int 0, .int 0, .long 0, .int 0])), (m0, .inr (2, [.int 0, .ref b1, .int 0]))] := hD
  refine lv_if_ne (tgt := 13) hx hb dX14_fault_6 (by decide) (fun c_6_2 => absurd (by decide +kernel) c_6_2) (fun _ => ?_)
  refine lv_iconst (v := 1) hx hb dX14_fault_9 (by decide) ?_
  refine lv_goto (tgt := 25) hx hb dX14_fault_10 (by decide) ?_
  refine va_put (D := D) (ci := 17) (v := .int 1) (ty := .int) (C := RX14) (T := TX14) (N := 27) hx hb hts iRX14 tyX14 tyX14_ok nmX14 hown hK hP hD hS 0 rfl rfl 21 (by decide) (hts _ q280) (fun _ h9 => h9) rfl (tyX14_ok 21 (by decide)) rfl rfl (Nat.le_of_ble_eq_true rfl) dX14_fault_25 (fun H locs hP hD hS => ?_)
  have hP : va_P D vwCl [(h0, .inr (17, [.ref m0, .ref m1, .ref m2, .ref m3, .ref m4, .ref m5, .ref m6, .ref m7, .ref m8, .ref m9, .ref m10, .ref m11, .ref m12, .ref m13, .ref m14, .ref m15, .ref m16, .ref m17, .ref m18, .ref m19, .ref m20, .int 1, .int 0, .int 0, .int 0, .long 0, .int 0])), (m0, .inr (2, [.int 0, .ref b1, .int 0]))] H := hP
  have hD : va_D A [(h0, .inr (17, [.ref m0, .ref m1, .ref m2, .ref m3, .ref m4, .ref m5, .ref m6, .ref m7, .ref m8, .ref m9, .ref m10, .ref m11, .ref m12, .ref m13, .ref m14, .ref m15, .ref m16, .ref m17, .ref m18, .ref m19, .ref m20, .int 1, .int 0, .int 0, .int 0, .long 0, .int 0])), (m0, .inr (2, [.int 0, .ref b1, .int 0]))] := hD
  refine lv_aload_n hx hb dX14_fault_28 rfl (lv_at hl 0 rfl) ?_
  refine va_get (D := D) (ci := 17) (v := .int 1) (C := RX14) (T := TX14) (N := 27) hx hb hts iRX14 hown hK hP 0 rfl rfl 21 (by decide) (hts _ q280) (fun _ h9 => h9) rfl dX14_fault_29 ?_
  refine lv_if_le (tgt := 37) hx hb dX14_fault_32 (by decide) (fun c_32_3 => absurd c_32_3 (by decide +kernel)) (fun _ => ?_)
  refine lv_lconst (v := 0) hx hb dX14_fault_35 rfl ?_
  have hP9 := hP.sub (ws' := [(h0, .inr (17, [.ref m0, .ref m1, .ref m2, .ref m3, .ref m4, .ref m5, .ref m6, .ref m7, .ref m8, .ref m9, .ref m10, .ref m11, .ref m12, .ref m13, .ref m14, .ref m15, .ref m16, .ref m17, .ref m18, .ref m19, .ref m20, .int 1, .int 0, .int 0, .int 0, .long 0, .int 0]))]) [0] rfl
  have hD9 := hD.sub (ws' := [(h0, .inr (17, [.ref m0, .ref m1, .ref m2, .ref m3, .ref m4, .ref m5, .ref m6, .ref m7, .ref m8, .ref m9, .ref m10, .ref m11, .ref m12, .ref m13, .ref m14, .ref m15, .ref m16, .ref m17, .ref m18, .ref m19, .ref m20, .int 1, .int 0, .int 0, .int 0, .long 0, .int 0]))]) [0] (by decide) rfl
  refine W.widen (k := 0) (n := 0) (Nat.le_of_ble_eq_true rfl) (Nat.le_of_ble_eq_true rfl) ?_
  rw [hQe]
  exact W.lret (v := 0) hx hb hr (fun t ht hW => ⟨⟨0, (), rfl, rfl, ⟨by rw [ht]; exact hP9, hD9⟩⟩, hS.F ht⟩) hS.2.2 dX14_fault_36
set_option maxHeartbeats 4000000 in
set_option maxRecDepth 100000 in
/-- reference: sump -/
theorem g_sump (l : Launch) (D : va_G) (cy : Nat → ClassId) (h0 : Nat) (m0 : Nat) (m1 : Nat) (m2 : Nat) (m3 : Nat) (m4 : Nat) (m5 : Nat) (m6 : Nat) (m7 : Nat) (m8 : Nat) (m9 : Nat) (m10 : Nat) (m11 : Nat) (m12 : Nat) (m13 : Nat) (m14 : Nat) (m15 : Nat) (m16 : Nat) (m17 : Nat) (m18 : Nat) (m19 : Nat) (m20 : Nat) (b1 : Nat) (a1 : Int32) (a2 : Int32) (sz : Nat)  : Met l yX14_sump (wz yX14_sump cX14_sump 4 (some .int)) ({ frames := 2, cells := 0, slots := 0, locals := 46 } : Room) (va_Pc [.ref h0, .int a1, .int a2] (zPre vwCl D cy [(h0, .inr (17, [.ref m0, .ref m1, .ref m2, .ref m3, .ref m4, .ref m5, .ref m6, .ref m7, .ref m8, .ref m9, .ref m10, .ref m11, .ref m12, .ref m13, .ref m14, .ref m15, .ref m16, .ref m17, .ref m18, .ref m19, .ref m20, .int 0, .int 0, .int 0, .int 0, .long 0, .int 0])), (m0, .inr (2, [.int 0, .ref b1, .int 0]))] sz)) (va_Qi (fun (r : Int32) (_ : Unit) => r = 0) (fun (u : Unit) t => zPost vwCl D (va_A [(h0, .inr (17, [.ref m0, .ref m1, .ref m2, .ref m3, .ref m4, .ref m5, .ref m6, .ref m7, .ref m8, .ref m9, .ref m10, .ref m11, .ref m12, .ref m13, .ref m14, .ref m15, .ref m16, .ref m17, .ref m18, .ref m19, .ref m20, .int 0, .int 0, .int 0, .int 0, .long 0, .int 0])), (m0, .inr (2, [.int 0, .ref b1, .int 0]))] sz) [(h0, .inr (17, [.ref m0, .ref m1, .ref m2, .ref m3, .ref m4, .ref m5, .ref m6, .ref m7, .ref m8, .ref m9, .ref m10, .ref m11, .ref m12, .ref m13, .ref m14, .ref m15, .ref m16, .ref m17, .ref m18, .ref m19, .ref m20, .int 1, .int 0, .int 0, .int 0, .long 0, .int 0]))] t) (va_A [(h0, .inr (17, [.ref m0, .ref m1, .ref m2, .ref m3, .ref m4, .ref m5, .ref m6, .ref m7, .ref m8, .ref m9, .ref m10, .ref m11, .ref m12, .ref m13, .ref m14, .ref m15, .ref m16, .ref m17, .ref m18, .ref m19, .ref m20, .int 0, .int 0, .int 0, .int 0, .long 0, .int 0])), (m0, .inr (2, [.int 0, .ref b1, .int 0]))] sz)) 0 0 (va_A [(h0, .inr (17, [.ref m0, .ref m1, .ref m2, .ref m3, .ref m4, .ref m5, .ref m6, .ref m7, .ref m8, .ref m9, .ref m10, .ref m11, .ref m12, .ref m13, .ref m14, .ref m15, .ref m16, .ref m17, .ref m18, .ref m19, .ref m20, .int 0, .int 0, .int 0, .int 0, .long 0, .int 0])), (m0, .inr (2, [.int 0, .ref b1, .int 0]))] sz) := by
  refine Met.ofW (cc := cX14_sump) (maxL := 4) (ret := (some .int)) (by decide) rfl ?_
  intro p e s m args below meth c s₁ B hml hv
  obtain ⟨rfl, hsz, hP, hK, hD0, hX, hY⟩ := hv
  have hx := B.exec
  have hb := B.bytes
  have hr := B.returns
  have hts0 := atoms_spec (ws := wz yX14_sump cX14_sump 4 (some .int)) B.pre
  have hts : ∀ w ∈ wAll, w.before _ s = true := fun w h => hts0 w (List.mem_cons_of_mem _ h)
  have hown : s.vm.findClass RX14 = some m.cls := findClass_of_methodNamed B.named
  have hlocks := B.notSynchronized
  subst hsz
  have hD := hD0.self (sz := s.heap.size)
  generalize hAe : va_A [(h0, .inr (17, [.ref m0, .ref m1, .ref m2, .ref m3, .ref m4, .ref m5, .ref m6, .ref m7, .ref m8, .ref m9, .ref m10, .ref m11, .ref m12, .ref m13, .ref m14, .ref m15, .ref m16, .ref m17, .ref m18, .ref m19, .ref m20, .int 0, .int 0, .int 0, .int 0, .long 0, .int 0])), (m0, .inr (2, [.int 0, .ref b1, .int 0]))] s.heap.size = A at hD hY ⊢
  have hA : ∀ q : Nat, s.heap.size ≤ q → A q := fun q h => by rw [← hAe]; exact Or.inr h
  have hS : va_S A s.heap s.heap [] := va_S.rf
  have hP : va_P D vwCl [(h0, .inr (17, [.ref m0, .ref m1, .ref m2, .ref m3, .ref m4, .ref m5, .ref m6, .ref m7, .ref m8, .ref m9, .ref m10, .ref m11, .ref m12, .ref m13, .ref m14, .ref m15, .ref m16, .ref m17, .ref m18, .ref m19, .ref m20, .int 0, .int 0, .int 0, .int 0, .long 0, .int 0])), (m0, .inr (2, [.int 0, .ref b1, .int 0]))] s.heap := hP
  have hl := lv_entry ([.ref h0, .int a1, .int a2]) (n := 4) (Nat.le_of_ble_eq_true rfl)
  rw [lg_entry_eq]
  generalize (lg_sl ([.ref h0, .int a1, .int a2]) ++ List.replicate (4 - (lg_sl ([.ref h0, .int a1, .int a2])).length) Slot.unset).toArray = ls at hl ⊢
  have hl : lv_has ls 4 [(0, .ref h0), (1, .int a1), (2, .int a2)] := hl
  refine z_anyQ (fun Q hQe => ?_)
  refine lv_aload_n hx hb dX14_sump_0 rfl (lv_at hl 0 rfl) ?_
  refine lv_iload_n hx hb dX14_sump_1 rfl (lv_at hl 1 rfl) ?_
  refine zq_i (wc := [(h0, .inr (17, [.ref m0, .ref m1, .ref m2, .ref m3, .ref m4, .ref m5, .ref m6, .ref m7, .ref m8, .ref m9, .ref m10, .ref m11, .ref m12, .ref m13, .ref m14, .ref m15, .ref m16, .ref m17, .ref m18, .ref m19, .ref m20, .int 0, .int 0, .int 0, .int 0, .long 0, .int 0])), (m0, .inr (2, [.int 0, .ref b1, .int 0]))]) (wr := []) (va_runV (As := [.int a1]) (rest := []) ⟨hx, hb, hml, hown, hts⟩ (k_isShot l D cy h0 m0 m1 m2 m3 m4 m5 m6 m7 m8 m9 m10 m11 m12 m13 m14 m15 m16 m17 m18 m19 m20 b1 a1 s.heap.size ) (cwV 1 hts (gzV (gz q357) q356 q358 q359 q285) rfl rfl rfl vX14_isShot ⟨Nat.le_of_ble_eq_true rfl, Nat.le_of_ble_eq_true rfl⟩) (zpV (ci := 17) (T := TX14) (N := 27) (q0 := 0) hK hX hY hP hD hS hA [0, 1] (by decide) rfl rfl rfl) rfl rfl hl.1 rfl (lv_room (Nat.le_of_ble_eq_true rfl)) dX14_sump_2 ⟨Nat.le_of_ble_eq_true rfl, Nat.le_of_ble_eq_true rfl⟩) hP hD hS hA [0, 1] [] rfl rfl (by decide) (by decide) (fun x2 u1 H locs hw hP hD hS => ?_)
  obtain rfl : x2 = 0 := hw
  have hP : va_P D vwCl [(h0, .inr (17, [.ref m0, .ref m1, .ref m2, .ref m3, .ref m4, .ref m5, .ref m6, .ref m7, .ref m8, .ref m9, .ref m10, .ref m11, .ref m12, .ref m13, .ref m14, .ref m15, .ref m16, .ref m17, .ref m18, .ref m19, .ref m20, .int 0, .int 0, .int 0, .int 0, .long 0, .int 0])), (m0, .inr (2, [.int 0, .ref b1, .int 0]))] H := hP
  have hD : va_D A [(h0, .inr (17, [.ref m0, .ref m1, .ref m2, .ref m3, .ref m4, .ref m5, .ref m6, .ref m7, .ref m8, .ref m9, .ref m10, .ref m11, .ref m12, .ref m13, .ref m14, .ref m15, .ref m16, .ref m17, .ref m18, .ref m19, .ref m20, .int 0, .int 0, .int 0, .int 0, .long 0, .int 0])), (m0, .inr (2, [.int 0, .ref b1, .int 0]))] := hD
  refine lv_if_ne (tgt := 14) hx hb dX14_sump_5 (by decide) (fun c_5_2 => absurd (by decide +kernel) c_5_2) (fun _ => ?_)
  refine lv_aload_n hx hb dX14_sump_8 rfl (lv_at hl 0 rfl) ?_
  refine lv_iconst (v := 1) hx hb dX14_sump_9 (by decide) ?_
  refine zq_i (wc := [(h0, .inr (17, [.ref m0, .ref m1, .ref m2, .ref m3, .ref m4, .ref m5, .ref m6, .ref m7, .ref m8, .ref m9, .ref m10, .ref m11, .ref m12, .ref m13, .ref m14, .ref m15, .ref m16, .ref m17, .ref m18, .ref m19, .ref m20, .int 0, .int 0, .int 0, .int 0, .long 0, .int 0]))]) (wr := [(m0, .inr (2, [.int 0, .ref b1, .int 0]))]) (va_runV (As := [.int 1]) (rest := []) ⟨hx, hb, hml, hown, hts⟩ (k_fails l D cy h0 m0 m1 m2 m3 m4 m5 m6 m7 m8 m9 m10 m11 m12 m13 m14 m15 m16 m17 m18 m19 m20 0 0 0 0 0 0 1 H.size ) (cwV 1 hts (gzV (gz q345) q344 q346 q347 q285) rfl rfl rfl vX14_fails ⟨Nat.le_of_ble_eq_true rfl, Nat.le_of_ble_eq_true rfl⟩) (zpV (ci := 17) (T := TX14) (N := 27) (q0 := 0) hK hX hY hP hD hS hA [0] (by decide) rfl rfl rfl) rfl rfl hl.1 rfl (lv_room (Nat.le_of_ble_eq_true rfl)) dX14_sump_10 ⟨Nat.le_of_ble_eq_true rfl, Nat.le_of_ble_eq_true rfl⟩) hP hD hS hA [0] [1] rfl rfl (by decide) (by decide) (fun x5 u4 H locs hw hP hD hS => ?_)
  obtain rfl : x5 = 0 := hw
  have hP : va_P D vwCl [(m0, .inr (2, [.int 0, .ref b1, .int 0])), (h0, .inr (17, [.ref m0, .ref m1, .ref m2, .ref m3, .ref m4, .ref m5, .ref m6, .ref m7, .ref m8, .ref m9, .ref m10, .ref m11, .ref m12, .ref m13, .ref m14, .ref m15, .ref m16, .ref m17, .ref m18, .ref m19, .ref m20, .int 1, .int 0, .int 0, .int 0, .long 0, .int 0]))] H := hP
  have hD : va_D A [(m0, .inr (2, [.int 0, .ref b1, .int 0])), (h0, .inr (17, [.ref m0, .ref m1, .ref m2, .ref m3, .ref m4, .ref m5, .ref m6, .ref m7, .ref m8, .ref m9, .ref m10, .ref m11, .ref m12, .ref m13, .ref m14, .ref m15, .ref m16, .ref m17, .ref m18, .ref m19, .ref m20, .int 1, .int 0, .int 0, .int 0, .long 0, .int 0]))] := hD
  have hP9 := hP.sub (ws' := [(h0, .inr (17, [.ref m0, .ref m1, .ref m2, .ref m3, .ref m4, .ref m5, .ref m6, .ref m7, .ref m8, .ref m9, .ref m10, .ref m11, .ref m12, .ref m13, .ref m14, .ref m15, .ref m16, .ref m17, .ref m18, .ref m19, .ref m20, .int 1, .int 0, .int 0, .int 0, .long 0, .int 0]))]) [1] rfl
  have hD9 := hD.sub (ws' := [(h0, .inr (17, [.ref m0, .ref m1, .ref m2, .ref m3, .ref m4, .ref m5, .ref m6, .ref m7, .ref m8, .ref m9, .ref m10, .ref m11, .ref m12, .ref m13, .ref m14, .ref m15, .ref m16, .ref m17, .ref m18, .ref m19, .ref m20, .int 1, .int 0, .int 0, .int 0, .long 0, .int 0]))]) [1] (by decide) rfl
  refine W.widen (k := 0) (n := 0) (Nat.le_of_ble_eq_true rfl) (Nat.le_of_ble_eq_true rfl) ?_
  rw [hQe]
  exact W.iret (v := 0) hx hb hr (fun t ht hW => ⟨⟨0, (), rfl, rfl, ⟨by rw [ht]; exact hP9, hD9⟩⟩, hS.F ht⟩) hS.2.2 dX14_sump_13
set_option maxHeartbeats 4000000 in
set_option maxRecDepth 100000 in
/-- reference: isClosed -/
theorem g_isClosed (l : Launch) (D : va_G) (cy : Nat → ClassId) (h0 : Nat) (m0 : Nat) (m1 : Nat) (m2 : Nat) (m3 : Nat) (m4 : Nat) (m5 : Nat) (m6 : Nat) (m7 : Nat) (m8 : Nat) (m9 : Nat) (m10 : Nat) (m11 : Nat) (m12 : Nat) (m13 : Nat) (m14 : Nat) (m15 : Nat) (m16 : Nat) (m17 : Nat) (m18 : Nat) (m19 : Nat) (m20 : Nat) (b1 : Nat) (a1 : Int32) (a2 : Int32) (sz : Nat)  : Met l yX14_isClosed (wz yX14_isClosed cX14_isClosed 3 (some .boolean)) ({ frames := 2, cells := 0, slots := 0, locals := 46 } : Room) (va_Pc [.ref h0, .int a1, .int a2] (zPre vwCl D cy [(h0, .inr (17, [.ref m0, .ref m1, .ref m2, .ref m3, .ref m4, .ref m5, .ref m6, .ref m7, .ref m8, .ref m9, .ref m10, .ref m11, .ref m12, .ref m13, .ref m14, .ref m15, .ref m16, .ref m17, .ref m18, .ref m19, .ref m20, .int 0, .int 0, .int 0, .int 0, .long 0, .int 0])), (m0, .inr (2, [.int 0, .ref b1, .int 0]))] sz)) (va_Qi (fun (r : Int32) (_ : Unit) => r = 0) (fun (u : Unit) t => zPost vwCl D (va_A [(h0, .inr (17, [.ref m0, .ref m1, .ref m2, .ref m3, .ref m4, .ref m5, .ref m6, .ref m7, .ref m8, .ref m9, .ref m10, .ref m11, .ref m12, .ref m13, .ref m14, .ref m15, .ref m16, .ref m17, .ref m18, .ref m19, .ref m20, .int 0, .int 0, .int 0, .int 0, .long 0, .int 0])), (m0, .inr (2, [.int 0, .ref b1, .int 0]))] sz) [(h0, .inr (17, [.ref m0, .ref m1, .ref m2, .ref m3, .ref m4, .ref m5, .ref m6, .ref m7, .ref m8, .ref m9, .ref m10, .ref m11, .ref m12, .ref m13, .ref m14, .ref m15, .ref m16, .ref m17, .ref m18, .ref m19, .ref m20, .int 1, .int 0, .int 0, .int 0, .long 0, .int 0]))] t) (va_A [(h0, .inr (17, [.ref m0, .ref m1, .ref m2, .ref m3, .ref m4, .ref m5, .ref m6, .ref m7, .ref m8, .ref m9, .ref m10, .ref m11, .ref m12, .ref m13, .ref m14, .ref m15, .ref m16, .ref m17, .ref m18, .ref m19, .ref m20, .int 0, .int 0, .int 0, .int 0, .long 0, .int 0])), (m0, .inr (2, [.int 0, .ref b1, .int 0]))] sz)) 0 0 (va_A [(h0, .inr (17, [.ref m0, .ref m1, .ref m2, .ref m3, .ref m4, .ref m5, .ref m6, .ref m7, .ref m8, .ref m9, .ref m10, .ref m11, .ref m12, .ref m13, .ref m14, .ref m15, .ref m16, .ref m17, .ref m18, .ref m19, .ref m20, .int 0, .int 0, .int 0, .int 0, .long 0, .int 0])), (m0, .inr (2, [.int 0, .ref b1, .int 0]))] sz) := by
  refine Met.ofW (cc := cX14_isClosed) (maxL := 3) (ret := (some .boolean)) (by decide) rfl ?_
  intro p e s m args below meth c s₁ B hml hv
  obtain ⟨rfl, hsz, hP, hK, hD0, hX, hY⟩ := hv
  have hx := B.exec
  have hb := B.bytes
  have hr := B.returns
  have hts0 := atoms_spec (ws := wz yX14_isClosed cX14_isClosed 3 (some .boolean)) B.pre
  have hts : ∀ w ∈ wAll, w.before _ s = true := fun w h => hts0 w (List.mem_cons_of_mem _ h)
  have hown : s.vm.findClass RX14 = some m.cls := findClass_of_methodNamed B.named
  have hlocks := B.notSynchronized
  subst hsz
  have hD := hD0.self (sz := s.heap.size)
  generalize hAe : va_A [(h0, .inr (17, [.ref m0, .ref m1, .ref m2, .ref m3, .ref m4, .ref m5, .ref m6, .ref m7, .ref m8, .ref m9, .ref m10, .ref m11, .ref m12, .ref m13, .ref m14, .ref m15, .ref m16, .ref m17, .ref m18, .ref m19, .ref m20, .int 0, .int 0, .int 0, .int 0, .long 0, .int 0])), (m0, .inr (2, [.int 0, .ref b1, .int 0]))] s.heap.size = A at hD hY ⊢
  have hA : ∀ q : Nat, s.heap.size ≤ q → A q := fun q h => by rw [← hAe]; exact Or.inr h
  have hS : va_S A s.heap s.heap [] := va_S.rf
  have hP : va_P D vwCl [(h0, .inr (17, [.ref m0, .ref m1, .ref m2, .ref m3, .ref m4, .ref m5, .ref m6, .ref m7, .ref m8, .ref m9, .ref m10, .ref m11, .ref m12, .ref m13, .ref m14, .ref m15, .ref m16, .ref m17, .ref m18, .ref m19, .ref m20, .int 0, .int 0, .int 0, .int 0, .long 0, .int 0])), (m0, .inr (2, [.int 0, .ref b1, .int 0]))] s.heap := hP
  have hl := lv_entry ([.ref h0, .int a1, .int a2]) (n := 3) (Nat.le_of_ble_eq_true rfl)
  rw [lg_entry_eq]
  generalize (lg_sl ([.ref h0, .int a1, .int a2]) ++ List.replicate (3 - (lg_sl ([.ref h0, .int a1, .int a2])).length) Slot.unset).toArray = ls at hl ⊢
  have hl : lv_has ls 3 [(0, .ref h0), (1, .int a1), (2, .int a2)] := hl
  refine z_anyQ (fun Q hQe => ?_)
  refine lv_aload_n hx hb dX14_isClosed_0 rfl (lv_at hl 0 rfl) ?_
  refine lv_iload_n hx hb dX14_isClosed_1 rfl (lv_at hl 1 rfl) ?_
  refine zq_i (wc := [(h0, .inr (17, [.ref m0, .ref m1, .ref m2, .ref m3, .ref m4, .ref m5, .ref m6, .ref m7, .ref m8, .ref m9, .ref m10, .ref m11, .ref m12, .ref m13, .ref m14, .ref m15, .ref m16, .ref m17, .ref m18, .ref m19, .ref m20, .int 0, .int 0, .int 0, .int 0, .long 0, .int 0])), (m0, .inr (2, [.int 0, .ref b1, .int 0]))]) (wr := []) (va_runV (As := [.int a1]) (rest := []) ⟨hx, hb, hml, hown, hts⟩ (k_isShot l D cy h0 m0 m1 m2 m3 m4 m5 m6 m7 m8 m9 m10 m11 m12 m13 m14 m15 m16 m17 m18 m19 m20 b1 a1 s.heap.size ) (cwV 1 hts (gzV (gz q357) q356 q358 q359 q285) rfl rfl rfl vX14_isShot ⟨Nat.le_of_ble_eq_true rfl, Nat.le_of_ble_eq_true rfl⟩) (zpV (ci := 17) (T := TX14) (N := 27) (q0 := 0) hK hX hY hP hD hS hA [0, 1] (by decide) rfl rfl rfl) rfl rfl hl.1 rfl (lv_room (Nat.le_of_ble_eq_true rfl)) dX14_isClosed_2 ⟨Nat.le_of_ble_eq_true rfl, Nat.le_of_ble_eq_true rfl⟩) hP hD hS hA [0, 1] [] rfl rfl (by decide) (by decide) (fun x2 u1 H locs hw hP hD hS => ?_)
  obtain rfl : x2 = 0 := hw
  have hP : va_P D vwCl [(h0, .inr (17, [.ref m0, .ref m1, .ref m2, .ref m3, .ref m4, .ref m5, .ref m6, .ref m7, .ref m8, .ref m9, .ref m10, .ref m11, .ref m12, .ref m13, .ref m14, .ref m15, .ref m16, .ref m17, .ref m18, .ref m19, .ref m20, .int 0, .int 0, .int 0, .int 0, .long 0, .int 0])), (m0, .inr (2, [.int 0, .ref b1, .int 0]))] H := hP
  have hD : va_D A [(h0, .inr (17, [.ref m0, .ref m1, .ref m2, .ref m3, .ref m4, .ref m5, .ref m6, .ref m7, .ref m8, .ref m9, .ref m10, .ref m11, .ref m12, .ref m13, .ref m14, .ref m15, .ref m16, .ref m17, .ref m18, .ref m19, .ref m20, .int 0, .int 0, .int 0, .int 0, .long 0, .int 0])), (m0, .inr (2, [.int 0, .ref b1, .int 0]))] := hD
  refine lv_if_ne (tgt := 14) hx hb dX14_isClosed_5 (by decide) (fun c_5_2 => absurd (by decide +kernel) c_5_2) (fun _ => ?_)
  refine lv_aload_n hx hb dX14_isClosed_8 rfl (lv_at hl 0 rfl) ?_
  refine lv_iconst (v := 1) hx hb dX14_isClosed_9 (by decide) ?_
  refine zq_i (wc := [(h0, .inr (17, [.ref m0, .ref m1, .ref m2, .ref m3, .ref m4, .ref m5, .ref m6, .ref m7, .ref m8, .ref m9, .ref m10, .ref m11, .ref m12, .ref m13, .ref m14, .ref m15, .ref m16, .ref m17, .ref m18, .ref m19, .ref m20, .int 0, .int 0, .int 0, .int 0, .long 0, .int 0]))]) (wr := [(m0, .inr (2, [.int 0, .ref b1, .int 0]))]) (va_runV (As := [.int 1]) (rest := []) ⟨hx, hb, hml, hown, hts⟩ (k_refuses l D cy h0 m0 m1 m2 m3 m4 m5 m6 m7 m8 m9 m10 m11 m12 m13 m14 m15 m16 m17 m18 m19 m20 0 0 0 0 0 0 1 H.size ) (cwV 1 hts (gzV (gz q349) q348 q350 q351 q285) rfl rfl rfl vX14_refuses ⟨Nat.le_of_ble_eq_true rfl, Nat.le_of_ble_eq_true rfl⟩) (zpV (ci := 17) (T := TX14) (N := 27) (q0 := 0) hK hX hY hP hD hS hA [0] (by decide) rfl rfl rfl) rfl rfl hl.1 rfl (lv_room (Nat.le_of_ble_eq_true rfl)) dX14_isClosed_10 ⟨Nat.le_of_ble_eq_true rfl, Nat.le_of_ble_eq_true rfl⟩) hP hD hS hA [0] [1] rfl rfl (by decide) (by decide) (fun x5 u4 H locs hw hP hD hS => ?_)
  obtain rfl : x5 = 0 := hw
  have hP : va_P D vwCl [(m0, .inr (2, [.int 0, .ref b1, .int 0])), (h0, .inr (17, [.ref m0, .ref m1, .ref m2, .ref m3, .ref m4, .ref m5, .ref m6, .ref m7, .ref m8, .ref m9, .ref m10, .ref m11, .ref m12, .ref m13, .ref m14, .ref m15, .ref m16, .ref m17, .ref m18, .ref m19, .ref m20, .int 1, .int 0, .int 0, .int 0, .long 0, .int 0]))] H := hP
  have hD : va_D A [(m0, .inr (2, [.int 0, .ref b1, .int 0])), (h0, .inr (17, [.ref m0, .ref m1, .ref m2, .ref m3, .ref m4, .ref m5, .ref m6, .ref m7, .ref m8, .ref m9, .ref m10, .ref m11, .ref m12, .ref m13, .ref m14, .ref m15, .ref m16, .ref m17, .ref m18, .ref m19, .ref m20, .int 1, .int 0, .int 0, .int 0, .long 0, .int 0]))] := hD
  have hP9 := hP.sub (ws' := [(h0, .inr (17, [.ref m0, .ref m1, .ref m2, .ref m3, .ref m4, .ref m5, .ref m6, .ref m7, .ref m8, .ref m9, .ref m10, .ref m11, .ref m12, .ref m13, .ref m14, .ref m15, .ref m16, .ref m17, .ref m18, .ref m19, .ref m20, .int 1, .int 0, .int 0, .int 0, .long 0, .int 0]))]) [1] rfl
  have hD9 := hD.sub (ws' := [(h0, .inr (17, [.ref m0, .ref m1, .ref m2, .ref m3, .ref m4, .ref m5, .ref m6, .ref m7, .ref m8, .ref m9, .ref m10, .ref m11, .ref m12, .ref m13, .ref m14, .ref m15, .ref m16, .ref m17, .ref m18, .ref m19, .ref m20, .int 1, .int 0, .int 0, .int 0, .long 0, .int 0]))]) [1] (by decide) rfl
  refine W.widen (k := 0) (n := 0) (Nat.le_of_ble_eq_true rfl) (Nat.le_of_ble_eq_true rfl) ?_
  rw [hQe]
  exact W.zret (v := 0) hx hb hr rfl (fun t ht hW => ⟨⟨0, (), rfl, rfl, ⟨by rw [ht]; exact hP9, hD9⟩⟩, hS.F ht⟩) hS.2.2 dX14_isClosed_13
set_option maxHeartbeats 4000000 in
set_option maxRecDepth 100000 in
/-- reference: tell -/
theorem g_tell (l : Launch) (D : va_G) (cy : Nat → ClassId) (h0 : Nat) (m0 : Nat) (m1 : Nat) (m2 : Nat) (m3 : Nat) (m4 : Nat) (m5 : Nat) (m6 : Nat) (m7 : Nat) (m8 : Nat) (m9 : Nat) (m10 : Nat) (m11 : Nat) (m12 : Nat) (m13 : Nat) (m14 : Nat) (m15 : Nat) (m16 : Nat) (m17 : Nat) (m18 : Nat) (m19 : Nat) (m20 : Nat) (b2 : Nat) (a1 : Int32) (a2 : Int32) (sz : Nat)  : Met l yX14_tell (wz yX14_tell cX14_tell 3 (some .int)) ({ frames := 2, cells := 0, slots := 0, locals := 46 } : Room) (va_Pc [.ref h0, .int a1, .int a2] (zPre vwCl D cy [(h0, .inr (17, [.ref m0, .ref m1, .ref m2, .ref m3, .ref m4, .ref m5, .ref m6, .ref m7, .ref m8, .ref m9, .ref m10, .ref m11, .ref m12, .ref m13, .ref m14, .ref m15, .ref m16, .ref m17, .ref m18, .ref m19, .ref m20, .int 0, .int 0, .int 0, .int 0, .long 0, .int 0])), (m2, .inr (2, [.int 0, .ref b2, .int 0]))] sz)) (va_Qi (fun (r : Int32) (_ : Unit) => r = 0) (fun (u : Unit) t => zPost vwCl D (va_A [(h0, .inr (17, [.ref m0, .ref m1, .ref m2, .ref m3, .ref m4, .ref m5, .ref m6, .ref m7, .ref m8, .ref m9, .ref m10, .ref m11, .ref m12, .ref m13, .ref m14, .ref m15, .ref m16, .ref m17, .ref m18, .ref m19, .ref m20, .int 0, .int 0, .int 0, .int 0, .long 0, .int 0])), (m2, .inr (2, [.int 0, .ref b2, .int 0]))] sz) [(h0, .inr (17, [.ref m0, .ref m1, .ref m2, .ref m3, .ref m4, .ref m5, .ref m6, .ref m7, .ref m8, .ref m9, .ref m10, .ref m11, .ref m12, .ref m13, .ref m14, .ref m15, .ref m16, .ref m17, .ref m18, .ref m19, .ref m20, .int 1, .int 0, .int 0, .int 0, .long 0, .int 0]))] t) (va_A [(h0, .inr (17, [.ref m0, .ref m1, .ref m2, .ref m3, .ref m4, .ref m5, .ref m6, .ref m7, .ref m8, .ref m9, .ref m10, .ref m11, .ref m12, .ref m13, .ref m14, .ref m15, .ref m16, .ref m17, .ref m18, .ref m19, .ref m20, .int 0, .int 0, .int 0, .int 0, .long 0, .int 0])), (m2, .inr (2, [.int 0, .ref b2, .int 0]))] sz)) 0 0 (va_A [(h0, .inr (17, [.ref m0, .ref m1, .ref m2, .ref m3, .ref m4, .ref m5, .ref m6, .ref m7, .ref m8, .ref m9, .ref m10, .ref m11, .ref m12, .ref m13, .ref m14, .ref m15, .ref m16, .ref m17, .ref m18, .ref m19, .ref m20, .int 0, .int 0, .int 0, .int 0, .long 0, .int 0])), (m2, .inr (2, [.int 0, .ref b2, .int 0]))] sz) := by
  refine Met.ofW (cc := cX14_tell) (maxL := 3) (ret := (some .int)) (by decide) rfl ?_
  intro p e s m args below meth c s₁ B hml hv
  obtain ⟨rfl, hsz, hP, hK, hD0, hX, hY⟩ := hv
  have hx := B.exec
  have hb := B.bytes
  have hr := B.returns
  have hts0 := atoms_spec (ws := wz yX14_tell cX14_tell 3 (some .int)) B.pre
  have hts : ∀ w ∈ wAll, w.before _ s = true := fun w h => hts0 w (List.mem_cons_of_mem _ h)
  have hown : s.vm.findClass RX14 = some m.cls := findClass_of_methodNamed B.named
  have hlocks := B.notSynchronized
  subst hsz
  have hD := hD0.self (sz := s.heap.size)
  generalize hAe : va_A [(h0, .inr (17, [.ref m0, .ref m1, .ref m2, .ref m3, .ref m4, .ref m5, .ref m6, .ref m7, .ref m8, .ref m9, .ref m10, .ref m11, .ref m12, .ref m13, .ref m14, .ref m15, .ref m16, .ref m17, .ref m18, .ref m19, .ref m20, .int 0, .int 0, .int 0, .int 0, .long 0, .int 0])), (m2, .inr (2, [.int 0, .ref b2, .int 0]))] s.heap.size = A at hD hY ⊢
  have hA : ∀ q : Nat, s.heap.size ≤ q → A q := fun q h => by rw [← hAe]; exact Or.inr h
  have hS : va_S A s.heap s.heap [] := va_S.rf
  have hP : va_P D vwCl [(h0, .inr (17, [.ref m0, .ref m1, .ref m2, .ref m3, .ref m4, .ref m5, .ref m6, .ref m7, .ref m8, .ref m9, .ref m10, .ref m11, .ref m12, .ref m13, .ref m14, .ref m15, .ref m16, .ref m17, .ref m18, .ref m19, .ref m20, .int 0, .int 0, .int 0, .int 0, .long 0, .int 0])), (m2, .inr (2, [.int 0, .ref b2, .int 0]))] s.heap := hP
  have hl := lv_entry ([.ref h0, .int a1, .int a2]) (n := 3) (Nat.le_of_ble_eq_true rfl)
  rw [lg_entry_eq]
  generalize (lg_sl ([.ref h0, .int a1, .int a2]) ++ List.replicate (3 - (lg_sl ([.ref h0, .int a1, .int a2])).length) Slot.unset).toArray = ls at hl ⊢
  have hl : lv_has ls 3 [(0, .ref h0), (1, .int a1), (2, .int a2)] := hl
  refine z_anyQ (fun Q hQe => ?_)
  refine lv_aload_n hx hb dX14_tell_0 rfl (lv_at hl 0 rfl) ?_
  refine lv_iload_n hx hb dX14_tell_1 rfl (lv_at hl 1 rfl) ?_
  refine zq_i (wc := [(h0, .inr (17, [.ref m0, .ref m1, .ref m2, .ref m3, .ref m4, .ref m5, .ref m6, .ref m7, .ref m8, .ref m9, .ref m10, .ref m11, .ref m12, .ref m13, .ref m14, .ref m15, .ref m16, .ref m17, .ref m18, .ref m19, .ref m20, .int 0, .int 0, .int 0, .int 0, .long 0, .int 0])), (m2, .inr (2, [.int 0, .ref b2, .int 0]))]) (wr := []) (va_runV (As := [.int a1]) (rest := []) ⟨hx, hb, hml, hown, hts⟩ (k_isParty l D cy h0 m0 m1 m2 m3 m4 m5 m6 m7 m8 m9 m10 m11 m12 m13 m14 m15 m16 m17 m18 m19 m20 b2 a1 s.heap.size ) (cwV 1 hts (gzV (gz q341) q340 q342 q343 q285) rfl rfl rfl vX14_isParty ⟨Nat.le_of_ble_eq_true rfl, Nat.le_of_ble_eq_true rfl⟩) (zpV (ci := 17) (T := TX14) (N := 27) (q0 := 0) hK hX hY hP hD hS hA [0, 1] (by decide) rfl rfl rfl) rfl rfl hl.1 rfl (lv_room (Nat.le_of_ble_eq_true rfl)) dX14_tell_2 ⟨Nat.le_of_ble_eq_true rfl, Nat.le_of_ble_eq_true rfl⟩) hP hD hS hA [0, 1] [] rfl rfl (by decide) (by decide) (fun x2 u1 H locs hw hP hD hS => ?_)
  obtain rfl : x2 = 0 := hw
  have hP : va_P D vwCl [(h0, .inr (17, [.ref m0, .ref m1, .ref m2, .ref m3, .ref m4, .ref m5, .ref m6, .ref m7, .ref m8, .ref m9, .ref m10, .ref m11, .ref m12, .ref m13, .ref m14, .ref m15, .ref m16, .ref m17, .ref m18, .ref m19, .ref m20, .int 0, .int 0, .int 0, .int 0, .long 0, .int 0])), (m2, .inr (2, [.int 0, .ref b2, .int 0]))] H := hP
  have hD : va_D A [(h0, .inr (17, [.ref m0, .ref m1, .ref m2, .ref m3, .ref m4, .ref m5, .ref m6, .ref m7, .ref m8, .ref m9, .ref m10, .ref m11, .ref m12, .ref m13, .ref m14, .ref m15, .ref m16, .ref m17, .ref m18, .ref m19, .ref m20, .int 0, .int 0, .int 0, .int 0, .long 0, .int 0])), (m2, .inr (2, [.int 0, .ref b2, .int 0]))] := hD
  refine lv_if_eq (tgt := 16) hx hb dX14_tell_5 (by decide) (fun _ => ?_) (fun c_5_2 => absurd (by decide +kernel) c_5_2)
  refine lv_aload_n hx hb dX14_tell_16 rfl (lv_at hl 0 rfl) ?_
  refine lv_iconst (v := 1) hx hb dX14_tell_17 (by decide) ?_
  refine zq_i (wc := [(h0, .inr (17, [.ref m0, .ref m1, .ref m2, .ref m3, .ref m4, .ref m5, .ref m6, .ref m7, .ref m8, .ref m9, .ref m10, .ref m11, .ref m12, .ref m13, .ref m14, .ref m15, .ref m16, .ref m17, .ref m18, .ref m19, .ref m20, .int 0, .int 0, .int 0, .int 0, .long 0, .int 0]))]) (wr := [(m2, .inr (2, [.int 0, .ref b2, .int 0]))]) (va_runV (As := [.int 1]) (rest := []) ⟨hx, hb, hml, hown, hts⟩ (k_fails l D cy h0 m0 m1 m2 m3 m4 m5 m6 m7 m8 m9 m10 m11 m12 m13 m14 m15 m16 m17 m18 m19 m20 0 0 0 0 0 0 1 H.size ) (cwV 1 hts (gzV (gz q345) q344 q346 q347 q285) rfl rfl rfl vX14_fails ⟨Nat.le_of_ble_eq_true rfl, Nat.le_of_ble_eq_true rfl⟩) (zpV (ci := 17) (T := TX14) (N := 27) (q0 := 0) hK hX hY hP hD hS hA [0] (by decide) rfl rfl rfl) rfl rfl hl.1 rfl (lv_room (Nat.le_of_ble_eq_true rfl)) dX14_tell_18 ⟨Nat.le_of_ble_eq_true rfl, Nat.le_of_ble_eq_true rfl⟩) hP hD hS hA [0] [1] rfl rfl (by decide) (by decide) (fun x5 u4 H locs hw hP hD hS => ?_)
  obtain rfl : x5 = 0 := hw
  have hP : va_P D vwCl [(m2, .inr (2, [.int 0, .ref b2, .int 0])), (h0, .inr (17, [.ref m0, .ref m1, .ref m2, .ref m3, .ref m4, .ref m5, .ref m6, .ref m7, .ref m8, .ref m9, .ref m10, .ref m11, .ref m12, .ref m13, .ref m14, .ref m15, .ref m16, .ref m17, .ref m18, .ref m19, .ref m20, .int 1, .int 0, .int 0, .int 0, .long 0, .int 0]))] H := hP
  have hD : va_D A [(m2, .inr (2, [.int 0, .ref b2, .int 0])), (h0, .inr (17, [.ref m0, .ref m1, .ref m2, .ref m3, .ref m4, .ref m5, .ref m6, .ref m7, .ref m8, .ref m9, .ref m10, .ref m11, .ref m12, .ref m13, .ref m14, .ref m15, .ref m16, .ref m17, .ref m18, .ref m19, .ref m20, .int 1, .int 0, .int 0, .int 0, .long 0, .int 0]))] := hD
  have hP9 := hP.sub (ws' := [(h0, .inr (17, [.ref m0, .ref m1, .ref m2, .ref m3, .ref m4, .ref m5, .ref m6, .ref m7, .ref m8, .ref m9, .ref m10, .ref m11, .ref m12, .ref m13, .ref m14, .ref m15, .ref m16, .ref m17, .ref m18, .ref m19, .ref m20, .int 1, .int 0, .int 0, .int 0, .long 0, .int 0]))]) [1] rfl
  have hD9 := hD.sub (ws' := [(h0, .inr (17, [.ref m0, .ref m1, .ref m2, .ref m3, .ref m4, .ref m5, .ref m6, .ref m7, .ref m8, .ref m9, .ref m10, .ref m11, .ref m12, .ref m13, .ref m14, .ref m15, .ref m16, .ref m17, .ref m18, .ref m19, .ref m20, .int 1, .int 0, .int 0, .int 0, .long 0, .int 0]))]) [1] (by decide) rfl
  refine W.widen (k := 0) (n := 0) (Nat.le_of_ble_eq_true rfl) (Nat.le_of_ble_eq_true rfl) ?_
  rw [hQe]
  exact W.iret (v := 0) hx hb hr (fun t ht hW => ⟨⟨0, (), rfl, rfl, ⟨by rw [ht]; exact hP9, hD9⟩⟩, hS.F ht⟩) hS.2.2 dX14_tell_21
set_option maxHeartbeats 4000000 in
set_option maxRecDepth 100000 in
/-- reference: knows -/
theorem g_knows (l : Launch) (D : va_G) (cy : Nat → ClassId) (h0 : Nat) (m0 : Nat) (m1 : Nat) (m2 : Nat) (m3 : Nat) (m4 : Nat) (m5 : Nat) (m6 : Nat) (m7 : Nat) (m8 : Nat) (m9 : Nat) (m10 : Nat) (m11 : Nat) (m12 : Nat) (m13 : Nat) (m14 : Nat) (m15 : Nat) (m16 : Nat) (m17 : Nat) (m18 : Nat) (m19 : Nat) (m20 : Nat) (b2 : Nat) (a1 : Int32) (a2 : Int32) (sz : Nat)  : Met l yX14_knows (wz yX14_knows cX14_knows 3 (some .boolean)) ({ frames := 2, cells := 0, slots := 0, locals := 46 } : Room) (va_Pc [.ref h0, .int a1, .int a2] (zPre vwCl D cy [(h0, .inr (17, [.ref m0, .ref m1, .ref m2, .ref m3, .ref m4, .ref m5, .ref m6, .ref m7, .ref m8, .ref m9, .ref m10, .ref m11, .ref m12, .ref m13, .ref m14, .ref m15, .ref m16, .ref m17, .ref m18, .ref m19, .ref m20, .int 0, .int 0, .int 0, .int 0, .long 0, .int 0])), (m2, .inr (2, [.int 0, .ref b2, .int 0]))] sz)) (va_Qi (fun (r : Int32) (_ : Unit) => r = 0) (fun (u : Unit) t => zPost vwCl D (va_A [(h0, .inr (17, [.ref m0, .ref m1, .ref m2, .ref m3, .ref m4, .ref m5, .ref m6, .ref m7, .ref m8, .ref m9, .ref m10, .ref m11, .ref m12, .ref m13, .ref m14, .ref m15, .ref m16, .ref m17, .ref m18, .ref m19, .ref m20, .int 0, .int 0, .int 0, .int 0, .long 0, .int 0])), (m2, .inr (2, [.int 0, .ref b2, .int 0]))] sz) [(h0, .inr (17, [.ref m0, .ref m1, .ref m2, .ref m3, .ref m4, .ref m5, .ref m6, .ref m7, .ref m8, .ref m9, .ref m10, .ref m11, .ref m12, .ref m13, .ref m14, .ref m15, .ref m16, .ref m17, .ref m18, .ref m19, .ref m20, .int 1, .int 0, .int 0, .int 0, .long 0, .int 0]))] t) (va_A [(h0, .inr (17, [.ref m0, .ref m1, .ref m2, .ref m3, .ref m4, .ref m5, .ref m6, .ref m7, .ref m8, .ref m9, .ref m10, .ref m11, .ref m12, .ref m13, .ref m14, .ref m15, .ref m16, .ref m17, .ref m18, .ref m19, .ref m20, .int 0, .int 0, .int 0, .int 0, .long 0, .int 0])), (m2, .inr (2, [.int 0, .ref b2, .int 0]))] sz)) 0 0 (va_A [(h0, .inr (17, [.ref m0, .ref m1, .ref m2, .ref m3, .ref m4, .ref m5, .ref m6, .ref m7, .ref m8, .ref m9, .ref m10, .ref m11, .ref m12, .ref m13, .ref m14, .ref m15, .ref m16, .ref m17, .ref m18, .ref m19, .ref m20, .int 0, .int 0, .int 0, .int 0, .long 0, .int 0])), (m2, .inr (2, [.int 0, .ref b2, .int 0]))] sz) := by
  refine Met.ofW (cc := cX14_knows) (maxL := 3) (ret := (some .boolean)) (by decide) rfl ?_
  intro p e s m args below meth c s₁ B hml hv
  obtain ⟨rfl, hsz, hP, hK, hD0, hX, hY⟩ := hv
  have hx := B.exec
  have hb := B.bytes
  have hr := B.returns
  have hts0 := atoms_spec (ws := wz yX14_knows cX14_knows 3 (some .boolean)) B.pre
  have hts : ∀ w ∈ wAll, w.before _ s = true := fun w h => hts0 w (List.mem_cons_of_mem _ h)
  have hown : s.vm.findClass RX14 = some m.cls := findClass_of_methodNamed B.named
  have hlocks := B.notSynchronized
  subst hsz
  have hD := hD0.self (sz := s.heap.size)
  generalize hAe : va_A [(h0, .inr (17, [.ref m0, .ref m1, .ref m2, .ref m3, .ref m4, .ref m5, .ref m6, .ref m7, .ref m8, .ref m9, .ref m10, .ref m11, .ref m12, .ref m13, .ref m14, .ref m15, .ref m16, .ref m17, .ref m18, .ref m19, .ref m20, .int 0, .int 0, .int 0, .int 0, .long 0, .int 0])), (m2, .inr (2, [.int 0, .ref b2, .int 0]))] s.heap.size = A at hD hY ⊢
  have hA : ∀ q : Nat, s.heap.size ≤ q → A q := fun q h => by rw [← hAe]; exact Or.inr h
  have hS : va_S A s.heap s.heap [] := va_S.rf
  have hP : va_P D vwCl [(h0, .inr (17, [.ref m0, .ref m1, .ref m2, .ref m3, .ref m4, .ref m5, .ref m6, .ref m7, .ref m8, .ref m9, .ref m10, .ref m11, .ref m12, .ref m13, .ref m14, .ref m15, .ref m16, .ref m17, .ref m18, .ref m19, .ref m20, .int 0, .int 0, .int 0, .int 0, .long 0, .int 0])), (m2, .inr (2, [.int 0, .ref b2, .int 0]))] s.heap := hP
  have hl := lv_entry ([.ref h0, .int a1, .int a2]) (n := 3) (Nat.le_of_ble_eq_true rfl)
  rw [lg_entry_eq]
  generalize (lg_sl ([.ref h0, .int a1, .int a2]) ++ List.replicate (3 - (lg_sl ([.ref h0, .int a1, .int a2])).length) Slot.unset).toArray = ls at hl ⊢
  have hl : lv_has ls 3 [(0, .ref h0), (1, .int a1), (2, .int a2)] := hl
  refine z_anyQ (fun Q hQe => ?_)
  refine lv_aload_n hx hb dX14_knows_0 rfl (lv_at hl 0 rfl) ?_
  refine lv_iload_n hx hb dX14_knows_1 rfl (lv_at hl 1 rfl) ?_
  refine zq_i (wc := [(h0, .inr (17, [.ref m0, .ref m1, .ref m2, .ref m3, .ref m4, .ref m5, .ref m6, .ref m7, .ref m8, .ref m9, .ref m10, .ref m11, .ref m12, .ref m13, .ref m14, .ref m15, .ref m16, .ref m17, .ref m18, .ref m19, .ref m20, .int 0, .int 0, .int 0, .int 0, .long 0, .int 0])), (m2, .inr (2, [.int 0, .ref b2, .int 0]))]) (wr := []) (va_runV (As := [.int a1]) (rest := []) ⟨hx, hb, hml, hown, hts⟩ (k_isParty l D cy h0 m0 m1 m2 m3 m4 m5 m6 m7 m8 m9 m10 m11 m12 m13 m14 m15 m16 m17 m18 m19 m20 b2 a1 s.heap.size ) (cwV 1 hts (gzV (gz q341) q340 q342 q343 q285) rfl rfl rfl vX14_isParty ⟨Nat.le_of_ble_eq_true rfl, Nat.le_of_ble_eq_true rfl⟩) (zpV (ci := 17) (T := TX14) (N := 27) (q0 := 0) hK hX hY hP hD hS hA [0, 1] (by decide) rfl rfl rfl) rfl rfl hl.1 rfl (lv_room (Nat.le_of_ble_eq_true rfl)) dX14_knows_2 ⟨Nat.le_of_ble_eq_true rfl, Nat.le_of_ble_eq_true rfl⟩) hP hD hS hA [0, 1] [] rfl rfl (by decide) (by decide) (fun x2 u1 H locs hw hP hD hS => ?_)
  obtain rfl : x2 = 0 := hw
  have hP : va_P D vwCl [(h0, .inr (17, [.ref m0, .ref m1, .ref m2, .ref m3, .ref m4, .ref m5, .ref m6, .ref m7, .ref m8, .ref m9, .ref m10, .ref m11, .ref m12, .ref m13, .ref m14, .ref m15, .ref m16, .ref m17, .ref m18, .ref m19, .ref m20, .int 0, .int 0, .int 0, .int 0, .long 0, .int 0])), (m2, .inr (2, [.int 0, .ref b2, .int 0]))] H := hP
  have hD : va_D A [(h0, .inr (17, [.ref m0, .ref m1, .ref m2, .ref m3, .ref m4, .ref m5, .ref m6, .ref m7, .ref m8, .ref m9, .ref m10, .ref m11, .ref m12, .ref m13, .ref m14, .ref m15, .ref m16, .ref m17, .ref m18, .ref m19, .ref m20, .int 0, .int 0, .int 0, .int 0, .long 0, .int 0])), (m2, .inr (2, [.int 0, .ref b2, .int 0]))] := hD
  refine lv_if_eq (tgt := 39) hx hb dX14_knows_5 (by decide) (fun _ => ?_) (fun c_5_2 => absurd (by decide +kernel) c_5_2)
  refine lv_aload_n hx hb dX14_knows_39 rfl (lv_at hl 0 rfl) ?_
  refine lv_iconst (v := 1) hx hb dX14_knows_40 (by decide) ?_
  refine zq_i (wc := [(h0, .inr (17, [.ref m0, .ref m1, .ref m2, .ref m3, .ref m4, .ref m5, .ref m6, .ref m7, .ref m8, .ref m9, .ref m10, .ref m11, .ref m12, .ref m13, .ref m14, .ref m15, .ref m16, .ref m17, .ref m18, .ref m19, .ref m20, .int 0, .int 0, .int 0, .int 0, .long 0, .int 0]))]) (wr := [(m2, .inr (2, [.int 0, .ref b2, .int 0]))]) (va_runV (As := [.int 1]) (rest := []) ⟨hx, hb, hml, hown, hts⟩ (k_refuses l D cy h0 m0 m1 m2 m3 m4 m5 m6 m7 m8 m9 m10 m11 m12 m13 m14 m15 m16 m17 m18 m19 m20 0 0 0 0 0 0 1 H.size ) (cwV 1 hts (gzV (gz q349) q348 q350 q351 q285) rfl rfl rfl vX14_refuses ⟨Nat.le_of_ble_eq_true rfl, Nat.le_of_ble_eq_true rfl⟩) (zpV (ci := 17) (T := TX14) (N := 27) (q0 := 0) hK hX hY hP hD hS hA [0] (by decide) rfl rfl rfl) rfl rfl hl.1 rfl (lv_room (Nat.le_of_ble_eq_true rfl)) dX14_knows_41 ⟨Nat.le_of_ble_eq_true rfl, Nat.le_of_ble_eq_true rfl⟩) hP hD hS hA [0] [1] rfl rfl (by decide) (by decide) (fun x5 u4 H locs hw hP hD hS => ?_)
  obtain rfl : x5 = 0 := hw
  have hP : va_P D vwCl [(m2, .inr (2, [.int 0, .ref b2, .int 0])), (h0, .inr (17, [.ref m0, .ref m1, .ref m2, .ref m3, .ref m4, .ref m5, .ref m6, .ref m7, .ref m8, .ref m9, .ref m10, .ref m11, .ref m12, .ref m13, .ref m14, .ref m15, .ref m16, .ref m17, .ref m18, .ref m19, .ref m20, .int 1, .int 0, .int 0, .int 0, .long 0, .int 0]))] H := hP
  have hD : va_D A [(m2, .inr (2, [.int 0, .ref b2, .int 0])), (h0, .inr (17, [.ref m0, .ref m1, .ref m2, .ref m3, .ref m4, .ref m5, .ref m6, .ref m7, .ref m8, .ref m9, .ref m10, .ref m11, .ref m12, .ref m13, .ref m14, .ref m15, .ref m16, .ref m17, .ref m18, .ref m19, .ref m20, .int 1, .int 0, .int 0, .int 0, .long 0, .int 0]))] := hD
  have hP9 := hP.sub (ws' := [(h0, .inr (17, [.ref m0, .ref m1, .ref m2, .ref m3, .ref m4, .ref m5, .ref m6, .ref m7, .ref m8, .ref m9, .ref m10, .ref m11, .ref m12, .ref m13, .ref m14, .ref m15, .ref m16, .ref m17, .ref m18, .ref m19, .ref m20, .int 1, .int 0, .int 0, .int 0, .long 0, .int 0]))]) [1] rfl
  have hD9 := hD.sub (ws' := [(h0, .inr (17, [.ref m0, .ref m1, .ref m2, .ref m3, .ref m4, .ref m5, .ref m6, .ref m7, .ref m8, .ref m9, .ref m10, .ref m11, .ref m12, .ref m13, .ref m14, .ref m15, .ref m16, .ref m17, .ref m18, .ref m19, .ref m20, .int 1, .int 0, .int 0, .int 0, .long 0, .int 0]))]) [1] (by decide) rfl
  refine W.widen (k := 0) (n := 0) (Nat.le_of_ble_eq_true rfl) (Nat.le_of_ble_eq_true rfl) ?_
  rw [hQe]
  exact W.zret (v := 0) hx hb hr rfl (fun t ht hW => ⟨⟨0, (), rfl, rfl, ⟨by rw [ht]; exact hP9, hD9⟩⟩, hS.F ht⟩) hS.2.2 dX14_knows_44
set_option maxHeartbeats 4000000 in
set_option maxRecDepth 100000 in
/-- reference: go -/
theorem g_go (l : Launch) (D : va_G) (cy : Nat → ClassId) (h0 : Nat) (m0 : Nat) (m1 : Nat) (m2 : Nat) (m3 : Nat) (m4 : Nat) (m5 : Nat) (m6 : Nat) (m7 : Nat) (m8 : Nat) (m9 : Nat) (m10 : Nat) (m11 : Nat) (m12 : Nat) (m13 : Nat) (m14 : Nat) (m15 : Nat) (m16 : Nat) (m17 : Nat) (m18 : Nat) (m19 : Nat) (m20 : Nat) (b2 : Nat) (a1 : Int32) (a2 : Int32) (sz : Nat)  : Met l yX14_go (wz yX14_go cX14_go 5 (some .int)) ({ frames := 2, cells := 0, slots := 0, locals := 46 } : Room) (va_Pc [.ref h0, .int a1, .int a2] (zPre vwCl D cy [(h0, .inr (17, [.ref m0, .ref m1, .ref m2, .ref m3, .ref m4, .ref m5, .ref m6, .ref m7, .ref m8, .ref m9, .ref m10, .ref m11, .ref m12, .ref m13, .ref m14, .ref m15, .ref m16, .ref m17, .ref m18, .ref m19, .ref m20, .int 0, .int 0, .int 0, .int 0, .long 0, .int 0])), (m2, .inr (2, [.int 0, .ref b2, .int 0]))] sz)) (va_Qi (fun (r : Int32) (_ : Unit) => r = 0) (fun (u : Unit) t => zPost vwCl D (va_A [(h0, .inr (17, [.ref m0, .ref m1, .ref m2, .ref m3, .ref m4, .ref m5, .ref m6, .ref m7, .ref m8, .ref m9, .ref m10, .ref m11, .ref m12, .ref m13, .ref m14, .ref m15, .ref m16, .ref m17, .ref m18, .ref m19, .ref m20, .int 0, .int 0, .int 0, .int 0, .long 0, .int 0])), (m2, .inr (2, [.int 0, .ref b2, .int 0]))] sz) [(h0, .inr (17, [.ref m0, .ref m1, .ref m2, .ref m3, .ref m4, .ref m5, .ref m6, .ref m7, .ref m8, .ref m9, .ref m10, .ref m11, .ref m12, .ref m13, .ref m14, .ref m15, .ref m16, .ref m17, .ref m18, .ref m19, .ref m20, .int 1, .int 0, .int 0, .int 0, .long 0, .int 0]))] t) (va_A [(h0, .inr (17, [.ref m0, .ref m1, .ref m2, .ref m3, .ref m4, .ref m5, .ref m6, .ref m7, .ref m8, .ref m9, .ref m10, .ref m11, .ref m12, .ref m13, .ref m14, .ref m15, .ref m16, .ref m17, .ref m18, .ref m19, .ref m20, .int 0, .int 0, .int 0, .int 0, .long 0, .int 0])), (m2, .inr (2, [.int 0, .ref b2, .int 0]))] sz)) 0 0 (va_A [(h0, .inr (17, [.ref m0, .ref m1, .ref m2, .ref m3, .ref m4, .ref m5, .ref m6, .ref m7, .ref m8, .ref m9, .ref m10, .ref m11, .ref m12, .ref m13, .ref m14, .ref m15, .ref m16, .ref m17, .ref m18, .ref m19, .ref m20, .int 0, .int 0, .int 0, .int 0, .long 0, .int 0])), (m2, .inr (2, [.int 0, .ref b2, .int 0]))] sz) := by
  refine Met.ofW (cc := cX14_go) (maxL := 5) (ret := (some .int)) (by decide) rfl ?_
  intro p e s m args below meth c s₁ B hml hv
  obtain ⟨rfl, hsz, hP, hK, hD0, hX, hY⟩ := hv
  have hx := B.exec
  have hb := B.bytes
  have hr := B.returns
  have hts0 := atoms_spec (ws := wz yX14_go cX14_go 5 (some .int)) B.pre
  have hts : ∀ w ∈ wAll, w.before _ s = true := fun w h => hts0 w (List.mem_cons_of_mem _ h)
  have hown : s.vm.findClass RX14 = some m.cls := findClass_of_methodNamed B.named
  have hlocks := B.notSynchronized
  subst hsz
  have hD := hD0.self (sz := s.heap.size)
  generalize hAe : va_A [(h0, .inr (17, [.ref m0, .ref m1, .ref m2, .ref m3, .ref m4, .ref m5, .ref m6, .ref m7, .ref m8, .ref m9, .ref m10, .ref m11, .ref m12, .ref m13, .ref m14, .ref m15, .ref m16, .ref m17, .ref m18, .ref m19, .ref m20, .int 0, .int 0, .int 0, .int 0, .long 0, .int 0])), (m2, .inr (2, [.int 0, .ref b2, .int 0]))] s.heap.size = A at hD hY ⊢
  have hA : ∀ q : Nat, s.heap.size ≤ q → A q := fun q h => by rw [← hAe]; exact Or.inr h
  have hS : va_S A s.heap s.heap [] := va_S.rf
  have hP : va_P D vwCl [(h0, .inr (17, [.ref m0, .ref m1, .ref m2, .ref m3, .ref m4, .ref m5, .ref m6, .ref m7, .ref m8, .ref m9, .ref m10, .ref m11, .ref m12, .ref m13, .ref m14, .ref m15, .ref m16, .ref m17, .ref m18, .ref m19, .ref m20, .int 0, .int 0, .int 0, .int 0, .long 0, .int 0])), (m2, .inr (2, [.int 0, .ref b2, .int 0]))] s.heap := hP
  have hl := lv_entry ([.ref h0, .int a1, .int a2]) (n := 5) (Nat.le_of_ble_eq_true rfl)
  rw [lg_entry_eq]
  generalize (lg_sl ([.ref h0, .int a1, .int a2]) ++ List.replicate (5 - (lg_sl ([.ref h0, .int a1, .int a2])).length) Slot.unset).toArray = ls at hl ⊢
  have hl : lv_has ls 5 [(0, .ref h0), (1, .int a1), (2, .int a2)] := hl
  refine z_anyQ (fun Q hQe => ?_)
  refine lv_aload_n hx hb dX14_go_0 rfl (lv_at hl 0 rfl) ?_
  refine lv_iload_n hx hb dX14_go_1 rfl (lv_at hl 1 rfl) ?_
  refine zq_i (wc := [(h0, .inr (17, [.ref m0, .ref m1, .ref m2, .ref m3, .ref m4, .ref m5, .ref m6, .ref m7, .ref m8, .ref m9, .ref m10, .ref m11, .ref m12, .ref m13, .ref m14, .ref m15, .ref m16, .ref m17, .ref m18, .ref m19, .ref m20, .int 0, .int 0, .int 0, .int 0, .long 0, .int 0])), (m2, .inr (2, [.int 0, .ref b2, .int 0]))]) (wr := []) (va_runV (As := [.int a1]) (rest := []) ⟨hx, hb, hml, hown, hts⟩ (k_isParty l D cy h0 m0 m1 m2 m3 m4 m5 m6 m7 m8 m9 m10 m11 m12 m13 m14 m15 m16 m17 m18 m19 m20 b2 a1 s.heap.size ) (cwV 1 hts (gzV (gz q341) q340 q342 q343 q285) rfl rfl rfl vX14_isParty ⟨Nat.le_of_ble_eq_true rfl, Nat.le_of_ble_eq_true rfl⟩) (zpV (ci := 17) (T := TX14) (N := 27) (q0 := 0) hK hX hY hP hD hS hA [0, 1] (by decide) rfl rfl rfl) rfl rfl hl.1 rfl (lv_room (Nat.le_of_ble_eq_true rfl)) dX14_go_2 ⟨Nat.le_of_ble_eq_true rfl, Nat.le_of_ble_eq_true rfl⟩) hP hD hS hA [0, 1] [] rfl rfl (by decide) (by decide) (fun x2 u1 H locs hw hP hD hS => ?_)
  obtain rfl : x2 = 0 := hw
  have hP : va_P D vwCl [(h0, .inr (17, [.ref m0, .ref m1, .ref m2, .ref m3, .ref m4, .ref m5, .ref m6, .ref m7, .ref m8, .ref m9, .ref m10, .ref m11, .ref m12, .ref m13, .ref m14, .ref m15, .ref m16, .ref m17, .ref m18, .ref m19, .ref m20, .int 0, .int 0, .int 0, .int 0, .long 0, .int 0])), (m2, .inr (2, [.int 0, .ref b2, .int 0]))] H := hP
  have hD : va_D A [(h0, .inr (17, [.ref m0, .ref m1, .ref m2, .ref m3, .ref m4, .ref m5, .ref m6, .ref m7, .ref m8, .ref m9, .ref m10, .ref m11, .ref m12, .ref m13, .ref m14, .ref m15, .ref m16, .ref m17, .ref m18, .ref m19, .ref m20, .int 0, .int 0, .int 0, .int 0, .long 0, .int 0])), (m2, .inr (2, [.int 0, .ref b2, .int 0]))] := hD
  refine lv_if_eq (tgt := 16) hx hb dX14_go_5 (by decide) (fun _ => ?_) (fun c_5_2 => absurd (by decide +kernel) c_5_2)
  refine lv_aload_n hx hb dX14_go_16 rfl (lv_at hl 0 rfl) ?_
  refine lv_iconst (v := 1) hx hb dX14_go_17 (by decide) ?_
  refine zq_i (wc := [(h0, .inr (17, [.ref m0, .ref m1, .ref m2, .ref m3, .ref m4, .ref m5, .ref m6, .ref m7, .ref m8, .ref m9, .ref m10, .ref m11, .ref m12, .ref m13, .ref m14, .ref m15, .ref m16, .ref m17, .ref m18, .ref m19, .ref m20, .int 0, .int 0, .int 0, .int 0, .long 0, .int 0]))]) (wr := [(m2, .inr (2, [.int 0, .ref b2, .int 0]))]) (va_runV (As := [.int 1]) (rest := []) ⟨hx, hb, hml, hown, hts⟩ (k_fails l D cy h0 m0 m1 m2 m3 m4 m5 m6 m7 m8 m9 m10 m11 m12 m13 m14 m15 m16 m17 m18 m19 m20 0 0 0 0 0 0 1 H.size ) (cwV 1 hts (gzV (gz q345) q344 q346 q347 q285) rfl rfl rfl vX14_fails ⟨Nat.le_of_ble_eq_true rfl, Nat.le_of_ble_eq_true rfl⟩) (zpV (ci := 17) (T := TX14) (N := 27) (q0 := 0) hK hX hY hP hD hS hA [0] (by decide) rfl rfl rfl) rfl rfl hl.1 rfl (lv_room (Nat.le_of_ble_eq_true rfl)) dX14_go_18 ⟨Nat.le_of_ble_eq_true rfl, Nat.le_of_ble_eq_true rfl⟩) hP hD hS hA [0] [1] rfl rfl (by decide) (by decide) (fun x5 u4 H locs hw hP hD hS => ?_)
  obtain rfl : x5 = 0 := hw
  have hP : va_P D vwCl [(m2, .inr (2, [.int 0, .ref b2, .int 0])), (h0, .inr (17, [.ref m0, .ref m1, .ref m2, .ref m3, .ref m4, .ref m5, .ref m6, .ref m7, .ref m8, .ref m9, .ref m10, .ref m11, .ref m12, .ref m13, .ref m14, .ref m15, .ref m16, .ref m17, .ref m18, .ref m19, .ref m20, .int 1, .int 0, .int 0, .int 0, .long 0, .int 0]))] H := hP
  have hD : va_D A [(m2, .inr (2, [.int 0, .ref b2, .int 0])), (h0, .inr (17, [.ref m0, .ref m1, .ref m2, .ref m3, .ref m4, .ref m5, .ref m6, .ref m7, .ref m8, .ref m9, .ref m10, .ref m11, .ref m12, .ref m13, .ref m14, .ref m15, .ref m16, .ref m17, .ref m18, .ref m19, .ref m20, .int 1, .int 0, .int 0, .int 0, .long 0, .int 0]))] := hD
  have hP9 := hP.sub (ws' := [(h0, .inr (17, [.ref m0, .ref m1, .ref m2, .ref m3, .ref m4, .ref m5, .ref m6, .ref m7, .ref m8, .ref m9, .ref m10, .ref m11, .ref m12, .ref m13, .ref m14, .ref m15, .ref m16, .ref m17, .ref m18, .ref m19, .ref m20, .int 1, .int 0, .int 0, .int 0, .long 0, .int 0]))]) [1] rfl
  have hD9 := hD.sub (ws' := [(h0, .inr (17, [.ref m0, .ref m1, .ref m2, .ref m3, .ref m4, .ref m5, .ref m6, .ref m7, .ref m8, .ref m9, .ref m10, .ref m11, .ref m12, .ref m13, .ref m14, .ref m15, .ref m16, .ref m17, .ref m18, .ref m19, .ref m20, .int 1, .int 0, .int 0, .int 0, .long 0, .int 0]))]) [1] (by decide) rfl
  refine W.widen (k := 0) (n := 0) (Nat.le_of_ble_eq_true rfl) (Nat.le_of_ble_eq_true rfl) ?_
  rw [hQe]
  exact W.iret (v := 0) hx hb hr (fun t ht hW => ⟨⟨0, (), rfl, rfl, ⟨by rw [ht]; exact hP9, hD9⟩⟩, hS.F ht⟩) hS.2.2 dX14_go_21
set_option maxHeartbeats 4000000 in
set_option maxRecDepth 100000 in
/-- reference: pause -/
theorem g_pause (l : Launch) (D : va_G) (cy : Nat → ClassId) (h0 : Nat) (m0 : Nat) (m1 : Nat) (m2 : Nat) (m3 : Nat) (m4 : Nat) (m5 : Nat) (m6 : Nat) (m7 : Nat) (m8 : Nat) (m9 : Nat) (m10 : Nat) (m11 : Nat) (m12 : Nat) (m13 : Nat) (m14 : Nat) (m15 : Nat) (m16 : Nat) (m17 : Nat) (m18 : Nat) (m19 : Nat) (m20 : Nat) (b2 : Nat) (a1 : Int32) (a2 : Int32) (sz : Nat)  : Met l yX14_pause (wz yX14_pause cX14_pause 3 (some .int)) ({ frames := 2, cells := 0, slots := 0, locals := 46 } : Room) (va_Pc [.ref h0, .int a1, .int a2] (zPre vwCl D cy [(h0, .inr (17, [.ref m0, .ref m1, .ref m2, .ref m3, .ref m4, .ref m5, .ref m6, .ref m7, .ref m8, .ref m9, .ref m10, .ref m11, .ref m12, .ref m13, .ref m14, .ref m15, .ref m16, .ref m17, .ref m18, .ref m19, .ref m20, .int 0, .int 0, .int 0, .int 0, .long 0, .int 0])), (m2, .inr (2, [.int 0, .ref b2, .int 0]))] sz)) (va_Qi (fun (r : Int32) (_ : Unit) => r = 0) (fun (u : Unit) t => zPost vwCl D (va_A [(h0, .inr (17, [.ref m0, .ref m1, .ref m2, .ref m3, .ref m4, .ref m5, .ref m6, .ref m7, .ref m8, .ref m9, .ref m10, .ref m11, .ref m12, .ref m13, .ref m14, .ref m15, .ref m16, .ref m17, .ref m18, .ref m19, .ref m20, .int 0, .int 0, .int 0, .int 0, .long 0, .int 0])), (m2, .inr (2, [.int 0, .ref b2, .int 0]))] sz) [(h0, .inr (17, [.ref m0, .ref m1, .ref m2, .ref m3, .ref m4, .ref m5, .ref m6, .ref m7, .ref m8, .ref m9, .ref m10, .ref m11, .ref m12, .ref m13, .ref m14, .ref m15, .ref m16, .ref m17, .ref m18, .ref m19, .ref m20, .int 1, .int 0, .int 0, .int 0, .long 0, .int 0]))] t) (va_A [(h0, .inr (17, [.ref m0, .ref m1, .ref m2, .ref m3, .ref m4, .ref m5, .ref m6, .ref m7, .ref m8, .ref m9, .ref m10, .ref m11, .ref m12, .ref m13, .ref m14, .ref m15, .ref m16, .ref m17, .ref m18, .ref m19, .ref m20, .int 0, .int 0, .int 0, .int 0, .long 0, .int 0])), (m2, .inr (2, [.int 0, .ref b2, .int 0]))] sz)) 0 0 (va_A [(h0, .inr (17, [.ref m0, .ref m1, .ref m2, .ref m3, .ref m4, .ref m5, .ref m6, .ref m7, .ref m8, .ref m9, .ref m10, .ref m11, .ref m12, .ref m13, .ref m14, .ref m15, .ref m16, .ref m17, .ref m18, .ref m19, .ref m20, .int 0, .int 0, .int 0, .int 0, .long 0, .int 0])), (m2, .inr (2, [.int 0, .ref b2, .int 0]))] sz) := by
  refine Met.ofW (cc := cX14_pause) (maxL := 3) (ret := (some .int)) (by decide) rfl ?_
  intro p e s m args below meth c s₁ B hml hv
  obtain ⟨rfl, hsz, hP, hK, hD0, hX, hY⟩ := hv
  have hx := B.exec
  have hb := B.bytes
  have hr := B.returns
  have hts0 := atoms_spec (ws := wz yX14_pause cX14_pause 3 (some .int)) B.pre
  have hts : ∀ w ∈ wAll, w.before _ s = true := fun w h => hts0 w (List.mem_cons_of_mem _ h)
  have hown : s.vm.findClass RX14 = some m.cls := findClass_of_methodNamed B.named
  have hlocks := B.notSynchronized
  subst hsz
  have hD := hD0.self (sz := s.heap.size)
  generalize hAe : va_A [(h0, .inr (17, [.ref m0, .ref m1, .ref m2, .ref m3, .ref m4, .ref m5, .ref m6, .ref m7, .ref m8, .ref m9, .ref m10, .ref m11, .ref m12, .ref m13, .ref m14, .ref m15, .ref m16, .ref m17, .ref m18, .ref m19, .ref m20, .int 0, .int 0, .int 0, .int 0, .long 0, .int 0])), (m2, .inr (2, [.int 0, .ref b2, .int 0]))] s.heap.size = A at hD hY ⊢
  have hA : ∀ q : Nat, s.heap.size ≤ q → A q := fun q h => by rw [← hAe]; exact Or.inr h
  have hS : va_S A s.heap s.heap [] := va_S.rf
  have hP : va_P D vwCl [(h0, .inr (17, [.ref m0, .ref m1, .ref m2, .ref m3, .ref m4, .ref m5, .ref m6, .ref m7, .ref m8, .ref m9, .ref m10, .ref m11, .ref m12, .ref m13, .ref m14, .ref m15, .ref m16, .ref m17, .ref m18, .ref m19, .ref m20, .int 0, .int 0, .int 0, .int 0, .long 0, .int 0])), (m2, .inr (2, [.int 0, .ref b2, .int 0]))] s.heap := hP
  have hl := lv_entry ([.ref h0, .int a1, .int a2]) (n := 3) (Nat.le_of_ble_eq_true rfl)
  rw [lg_entry_eq]
  generalize (lg_sl ([.ref h0, .int a1, .int a2]) ++ List.replicate (3 - (lg_sl ([.ref h0, .int a1, .int a2])).length) Slot.unset).toArray = ls at hl ⊢
  have hl : lv_has ls 3 [(0, .ref h0), (1, .int a1), (2, .int a2)] := hl
  refine z_anyQ (fun Q hQe => ?_)
  refine lv_aload_n hx hb dX14_pause_0 rfl (lv_at hl 0 rfl) ?_
  refine lv_iload_n hx hb dX14_pause_1 rfl (lv_at hl 1 rfl) ?_
  refine zq_i (wc := [(h0, .inr (17, [.ref m0, .ref m1, .ref m2, .ref m3, .ref m4, .ref m5, .ref m6, .ref m7, .ref m8, .ref m9, .ref m10, .ref m11, .ref m12, .ref m13, .ref m14, .ref m15, .ref m16, .ref m17, .ref m18, .ref m19, .ref m20, .int 0, .int 0, .int 0, .int 0, .long 0, .int 0])), (m2, .inr (2, [.int 0, .ref b2, .int 0]))]) (wr := []) (va_runV (As := [.int a1]) (rest := []) ⟨hx, hb, hml, hown, hts⟩ (k_isParty l D cy h0 m0 m1 m2 m3 m4 m5 m6 m7 m8 m9 m10 m11 m12 m13 m14 m15 m16 m17 m18 m19 m20 b2 a1 s.heap.size ) (cwV 1 hts (gzV (gz q341) q340 q342 q343 q285) rfl rfl rfl vX14_isParty ⟨Nat.le_of_ble_eq_true rfl, Nat.le_of_ble_eq_true rfl⟩) (zpV (ci := 17) (T := TX14) (N := 27) (q0 := 0) hK hX hY hP hD hS hA [0, 1] (by decide) rfl rfl rfl) rfl rfl hl.1 rfl (lv_room (Nat.le_of_ble_eq_true rfl)) dX14_pause_2 ⟨Nat.le_of_ble_eq_true rfl, Nat.le_of_ble_eq_true rfl⟩) hP hD hS hA [0, 1] [] rfl rfl (by decide) (by decide) (fun x2 u1 H locs hw hP hD hS => ?_)
  obtain rfl : x2 = 0 := hw
  have hP : va_P D vwCl [(h0, .inr (17, [.ref m0, .ref m1, .ref m2, .ref m3, .ref m4, .ref m5, .ref m6, .ref m7, .ref m8, .ref m9, .ref m10, .ref m11, .ref m12, .ref m13, .ref m14, .ref m15, .ref m16, .ref m17, .ref m18, .ref m19, .ref m20, .int 0, .int 0, .int 0, .int 0, .long 0, .int 0])), (m2, .inr (2, [.int 0, .ref b2, .int 0]))] H := hP
  have hD : va_D A [(h0, .inr (17, [.ref m0, .ref m1, .ref m2, .ref m3, .ref m4, .ref m5, .ref m6, .ref m7, .ref m8, .ref m9, .ref m10, .ref m11, .ref m12, .ref m13, .ref m14, .ref m15, .ref m16, .ref m17, .ref m18, .ref m19, .ref m20, .int 0, .int 0, .int 0, .int 0, .long 0, .int 0])), (m2, .inr (2, [.int 0, .ref b2, .int 0]))] := hD
  refine lv_if_ne (tgt := 14) hx hb dX14_pause_5 (by decide) (fun c_5_2 => absurd (by decide +kernel) c_5_2) (fun _ => ?_)
  refine lv_aload_n hx hb dX14_pause_8 rfl (lv_at hl 0 rfl) ?_
  refine lv_iconst (v := 1) hx hb dX14_pause_9 (by decide) ?_
  refine zq_i (wc := [(h0, .inr (17, [.ref m0, .ref m1, .ref m2, .ref m3, .ref m4, .ref m5, .ref m6, .ref m7, .ref m8, .ref m9, .ref m10, .ref m11, .ref m12, .ref m13, .ref m14, .ref m15, .ref m16, .ref m17, .ref m18, .ref m19, .ref m20, .int 0, .int 0, .int 0, .int 0, .long 0, .int 0]))]) (wr := [(m2, .inr (2, [.int 0, .ref b2, .int 0]))]) (va_runV (As := [.int 1]) (rest := []) ⟨hx, hb, hml, hown, hts⟩ (k_fails l D cy h0 m0 m1 m2 m3 m4 m5 m6 m7 m8 m9 m10 m11 m12 m13 m14 m15 m16 m17 m18 m19 m20 0 0 0 0 0 0 1 H.size ) (cwV 1 hts (gzV (gz q345) q344 q346 q347 q285) rfl rfl rfl vX14_fails ⟨Nat.le_of_ble_eq_true rfl, Nat.le_of_ble_eq_true rfl⟩) (zpV (ci := 17) (T := TX14) (N := 27) (q0 := 0) hK hX hY hP hD hS hA [0] (by decide) rfl rfl rfl) rfl rfl hl.1 rfl (lv_room (Nat.le_of_ble_eq_true rfl)) dX14_pause_10 ⟨Nat.le_of_ble_eq_true rfl, Nat.le_of_ble_eq_true rfl⟩) hP hD hS hA [0] [1] rfl rfl (by decide) (by decide) (fun x5 u4 H locs hw hP hD hS => ?_)
  obtain rfl : x5 = 0 := hw
  have hP : va_P D vwCl [(m2, .inr (2, [.int 0, .ref b2, .int 0])), (h0, .inr (17, [.ref m0, .ref m1, .ref m2, .ref m3, .ref m4, .ref m5, .ref m6, .ref m7, .ref m8, .ref m9, .ref m10, .ref m11, .ref m12, .ref m13, .ref m14, .ref m15, .ref m16, .ref m17, .ref m18, .ref m19, .ref m20, .int 1, .int 0, .int 0, .int 0, .long 0, .int 0]))] H := hP
  have hD : va_D A [(m2, .inr (2, [.int 0, .ref b2, .int 0])), (h0, .inr (17, [.ref m0, .ref m1, .ref m2, .ref m3, .ref m4, .ref m5, .ref m6, .ref m7, .ref m8, .ref m9, .ref m10, .ref m11, .ref m12, .ref m13, .ref m14, .ref m15, .ref m16, .ref m17, .ref m18, .ref m19, .ref m20, .int 1, .int 0, .int 0, .int 0, .long 0, .int 0]))] := hD
  have hP9 := hP.sub (ws' := [(h0, .inr (17, [.ref m0, .ref m1, .ref m2, .ref m3, .ref m4, .ref m5, .ref m6, .ref m7, .ref m8, .ref m9, .ref m10, .ref m11, .ref m12, .ref m13, .ref m14, .ref m15, .ref m16, .ref m17, .ref m18, .ref m19, .ref m20, .int 1, .int 0, .int 0, .int 0, .long 0, .int 0]))]) [1] rfl
  have hD9 := hD.sub (ws' := [(h0, .inr (17, [.ref m0, .ref m1, .ref m2, .ref m3, .ref m4, .ref m5, .ref m6, .ref m7, .ref m8, .ref m9, .ref m10, .ref m11, .ref m12, .ref m13, .ref m14, .ref m15, .ref m16, .ref m17, .ref m18, .ref m19, .ref m20, .int 1, .int 0, .int 0, .int 0, .long 0, .int 0]))]) [1] (by decide) rfl
  refine W.widen (k := 0) (n := 0) (Nat.le_of_ble_eq_true rfl) (Nat.le_of_ble_eq_true rfl) ?_
  rw [hQe]
  exact W.iret (v := 0) hx hb hr (fun t ht hW => ⟨⟨0, (), rfl, rfl, ⟨by rw [ht]; exact hP9, hD9⟩⟩, hS.F ht⟩) hS.2.2 dX14_pause_13
set_option maxHeartbeats 4000000 in
set_option maxRecDepth 100000 in
/-- reference: placeOf -/
theorem g_placeOf (l : Launch) (D : va_G) (cy : Nat → ClassId) (h0 : Nat) (m0 : Nat) (m1 : Nat) (m2 : Nat) (m3 : Nat) (m4 : Nat) (m5 : Nat) (m6 : Nat) (m7 : Nat) (m8 : Nat) (m9 : Nat) (m10 : Nat) (m11 : Nat) (m12 : Nat) (m13 : Nat) (m14 : Nat) (m15 : Nat) (m16 : Nat) (m17 : Nat) (m18 : Nat) (m19 : Nat) (m20 : Nat) (b2 : Nat) (a1 : Int32) (sz : Nat)  : Met l yX14_placeOf (wz yX14_placeOf cX14_placeOf 2 (some .int)) ({ frames := 2, cells := 0, slots := 0, locals := 46 } : Room) (va_Pc [.ref h0, .int a1] (zPre vwCl D cy [(h0, .inr (17, [.ref m0, .ref m1, .ref m2, .ref m3, .ref m4, .ref m5, .ref m6, .ref m7, .ref m8, .ref m9, .ref m10, .ref m11, .ref m12, .ref m13, .ref m14, .ref m15, .ref m16, .ref m17, .ref m18, .ref m19, .ref m20, .int 0, .int 0, .int 0, .int 0, .long 0, .int 0])), (m2, .inr (2, [.int 0, .ref b2, .int 0]))] sz)) (va_Qi (fun (r : Int32) (_ : Unit) => r = 0) (fun (u : Unit) t => zPost vwCl D (va_A [(h0, .inr (17, [.ref m0, .ref m1, .ref m2, .ref m3, .ref m4, .ref m5, .ref m6, .ref m7, .ref m8, .ref m9, .ref m10, .ref m11, .ref m12, .ref m13, .ref m14, .ref m15, .ref m16, .ref m17, .ref m18, .ref m19, .ref m20, .int 0, .int 0, .int 0, .int 0, .long 0, .int 0])), (m2, .inr (2, [.int 0, .ref b2, .int 0]))] sz) [(h0, .inr (17, [.ref m0, .ref m1, .ref m2, .ref m3, .ref m4, .ref m5, .ref m6, .ref m7, .ref m8, .ref m9, .ref m10, .ref m11, .ref m12, .ref m13, .ref m14, .ref m15, .ref m16, .ref m17, .ref m18, .ref m19, .ref m20, .int 1, .int 0, .int 0, .int 0, .long 0, .int 0]))] t) (va_A [(h0, .inr (17, [.ref m0, .ref m1, .ref m2, .ref m3, .ref m4, .ref m5, .ref m6, .ref m7, .ref m8, .ref m9, .ref m10, .ref m11, .ref m12, .ref m13, .ref m14, .ref m15, .ref m16, .ref m17, .ref m18, .ref m19, .ref m20, .int 0, .int 0, .int 0, .int 0, .long 0, .int 0])), (m2, .inr (2, [.int 0, .ref b2, .int 0]))] sz)) 0 0 (va_A [(h0, .inr (17, [.ref m0, .ref m1, .ref m2, .ref m3, .ref m4, .ref m5, .ref m6, .ref m7, .ref m8, .ref m9, .ref m10, .ref m11, .ref m12, .ref m13, .ref m14, .ref m15, .ref m16, .ref m17, .ref m18, .ref m19, .ref m20, .int 0, .int 0, .int 0, .int 0, .long 0, .int 0])), (m2, .inr (2, [.int 0, .ref b2, .int 0]))] sz) := by
  refine Met.ofW (cc := cX14_placeOf) (maxL := 2) (ret := (some .int)) (by decide) rfl ?_
  intro p e s m args below meth c s₁ B hml hv
  obtain ⟨rfl, hsz, hP, hK, hD0, hX, hY⟩ := hv
  have hx := B.exec
  have hb := B.bytes
  have hr := B.returns
  have hts0 := atoms_spec (ws := wz yX14_placeOf cX14_placeOf 2 (some .int)) B.pre
  have hts : ∀ w ∈ wAll, w.before _ s = true := fun w h => hts0 w (List.mem_cons_of_mem _ h)
  have hown : s.vm.findClass RX14 = some m.cls := findClass_of_methodNamed B.named
  have hlocks := B.notSynchronized
  subst hsz
  have hD := hD0.self (sz := s.heap.size)
  generalize hAe : va_A [(h0, .inr (17, [.ref m0, .ref m1, .ref m2, .ref m3, .ref m4, .ref m5, .ref m6, .ref m7, .ref m8, .ref m9, .ref m10, .ref m11, .ref m12, .ref m13, .ref m14, .ref m15, .ref m16, .ref m17, .ref m18, .ref m19, .ref m20, .int 0, .int 0, .int 0, .int 0, .long 0, .int 0])), (m2, .inr (2, [.int 0, .ref b2, .int 0]))] s.heap.size = A at hD hY ⊢
  have hA : ∀ q : Nat, s.heap.size ≤ q → A q := fun q h => by rw [← hAe]; exact Or.inr h
  have hS : va_S A s.heap s.heap [] := va_S.rf
  have hP : va_P D vwCl [(h0, .inr (17, [.ref m0, .ref m1, .ref m2, .ref m3, .ref m4, .ref m5, .ref m6, .ref m7, .ref m8, .ref m9, .ref m10, .ref m11, .ref m12, .ref m13, .ref m14, .ref m15, .ref m16, .ref m17, .ref m18, .ref m19, .ref m20, .int 0, .int 0, .int 0, .int 0, .long 0, .int 0])), (m2, .inr (2, [.int 0, .ref b2, .int 0]))] s.heap := hP
  have hl := lv_entry ([.ref h0, .int a1]) (n := 2) (Nat.le_of_ble_eq_true rfl)
  rw [lg_entry_eq]
  generalize (lg_sl ([.ref h0, .int a1]) ++ List.replicate (2 - (lg_sl ([.ref h0, .int a1])).length) Slot.unset).toArray = ls at hl ⊢
  have hl : lv_has ls 2 [(0, .ref h0), (1, .int a1)] := hl
  refine z_anyQ (fun Q hQe => ?_)
  refine lv_aload_n hx hb dX14_placeOf_0 rfl (lv_at hl 0 rfl) ?_
  refine lv_iload_n hx hb dX14_placeOf_1 rfl (lv_at hl 1 rfl) ?_
  refine zq_i (wc := [(h0, .inr (17, [.ref m0, .ref m1, .ref m2, .ref m3, .ref m4, .ref m5, .ref m6, .ref m7, .ref m8, .ref m9, .ref m10, .ref m11, .ref m12, .ref m13, .ref m14, .ref m15, .ref m16, .ref m17, .ref m18, .ref m19, .ref m20, .int 0, .int 0, .int 0, .int 0, .long 0, .int 0])), (m2, .inr (2, [.int 0, .ref b2, .int 0]))]) (wr := []) (va_runV (As := [.int a1]) (rest := []) ⟨hx, hb, hml, hown, hts⟩ (k_isParty l D cy h0 m0 m1 m2 m3 m4 m5 m6 m7 m8 m9 m10 m11 m12 m13 m14 m15 m16 m17 m18 m19 m20 b2 a1 s.heap.size ) (cwV 1 hts (gzV (gz q341) q340 q342 q343 q285) rfl rfl rfl vX14_isParty ⟨Nat.le_of_ble_eq_true rfl, Nat.le_of_ble_eq_true rfl⟩) (zpV (ci := 17) (T := TX14) (N := 27) (q0 := 0) hK hX hY hP hD hS hA [0, 1] (by decide) rfl rfl rfl) rfl rfl hl.1 rfl (lv_room (Nat.le_of_ble_eq_true rfl)) dX14_placeOf_2 ⟨Nat.le_of_ble_eq_true rfl, Nat.le_of_ble_eq_true rfl⟩) hP hD hS hA [0, 1] [] rfl rfl (by decide) (by decide) (fun x2 u1 H locs hw hP hD hS => ?_)
  obtain rfl : x2 = 0 := hw
  have hP : va_P D vwCl [(h0, .inr (17, [.ref m0, .ref m1, .ref m2, .ref m3, .ref m4, .ref m5, .ref m6, .ref m7, .ref m8, .ref m9, .ref m10, .ref m11, .ref m12, .ref m13, .ref m14, .ref m15, .ref m16, .ref m17, .ref m18, .ref m19, .ref m20, .int 0, .int 0, .int 0, .int 0, .long 0, .int 0])), (m2, .inr (2, [.int 0, .ref b2, .int 0]))] H := hP
  have hD : va_D A [(h0, .inr (17, [.ref m0, .ref m1, .ref m2, .ref m3, .ref m4, .ref m5, .ref m6, .ref m7, .ref m8, .ref m9, .ref m10, .ref m11, .ref m12, .ref m13, .ref m14, .ref m15, .ref m16, .ref m17, .ref m18, .ref m19, .ref m20, .int 0, .int 0, .int 0, .int 0, .long 0, .int 0])), (m2, .inr (2, [.int 0, .ref b2, .int 0]))] := hD
  refine lv_if_ne (tgt := 14) hx hb dX14_placeOf_5 (by decide) (fun c_5_2 => absurd (by decide +kernel) c_5_2) (fun _ => ?_)
  refine lv_aload_n hx hb dX14_placeOf_8 rfl (lv_at hl 0 rfl) ?_
  refine lv_iconst (v := 1) hx hb dX14_placeOf_9 (by decide) ?_
  refine zq_i (wc := [(h0, .inr (17, [.ref m0, .ref m1, .ref m2, .ref m3, .ref m4, .ref m5, .ref m6, .ref m7, .ref m8, .ref m9, .ref m10, .ref m11, .ref m12, .ref m13, .ref m14, .ref m15, .ref m16, .ref m17, .ref m18, .ref m19, .ref m20, .int 0, .int 0, .int 0, .int 0, .long 0, .int 0]))]) (wr := [(m2, .inr (2, [.int 0, .ref b2, .int 0]))]) (va_runV (As := [.int 1]) (rest := []) ⟨hx, hb, hml, hown, hts⟩ (k_fails l D cy h0 m0 m1 m2 m3 m4 m5 m6 m7 m8 m9 m10 m11 m12 m13 m14 m15 m16 m17 m18 m19 m20 0 0 0 0 0 0 1 H.size ) (cwV 1 hts (gzV (gz q345) q344 q346 q347 q285) rfl rfl rfl vX14_fails ⟨Nat.le_of_ble_eq_true rfl, Nat.le_of_ble_eq_true rfl⟩) (zpV (ci := 17) (T := TX14) (N := 27) (q0 := 0) hK hX hY hP hD hS hA [0] (by decide) rfl rfl rfl) rfl rfl hl.1 rfl (lv_room (Nat.le_of_ble_eq_true rfl)) dX14_placeOf_10 ⟨Nat.le_of_ble_eq_true rfl, Nat.le_of_ble_eq_true rfl⟩) hP hD hS hA [0] [1] rfl rfl (by decide) (by decide) (fun x5 u4 H locs hw hP hD hS => ?_)
  obtain rfl : x5 = 0 := hw
  have hP : va_P D vwCl [(m2, .inr (2, [.int 0, .ref b2, .int 0])), (h0, .inr (17, [.ref m0, .ref m1, .ref m2, .ref m3, .ref m4, .ref m5, .ref m6, .ref m7, .ref m8, .ref m9, .ref m10, .ref m11, .ref m12, .ref m13, .ref m14, .ref m15, .ref m16, .ref m17, .ref m18, .ref m19, .ref m20, .int 1, .int 0, .int 0, .int 0, .long 0, .int 0]))] H := hP
  have hD : va_D A [(m2, .inr (2, [.int 0, .ref b2, .int 0])), (h0, .inr (17, [.ref m0, .ref m1, .ref m2, .ref m3, .ref m4, .ref m5, .ref m6, .ref m7, .ref m8, .ref m9, .ref m10, .ref m11, .ref m12, .ref m13, .ref m14, .ref m15, .ref m16, .ref m17, .ref m18, .ref m19, .ref m20, .int 1, .int 0, .int 0, .int 0, .long 0, .int 0]))] := hD
  have hP9 := hP.sub (ws' := [(h0, .inr (17, [.ref m0, .ref m1, .ref m2, .ref m3, .ref m4, .ref m5, .ref m6, .ref m7, .ref m8, .ref m9, .ref m10, .ref m11, .ref m12, .ref m13, .ref m14, .ref m15, .ref m16, .ref m17, .ref m18, .ref m19, .ref m20, .int 1, .int 0, .int 0, .int 0, .long 0, .int 0]))]) [1] rfl
  have hD9 := hD.sub (ws' := [(h0, .inr (17, [.ref m0, .ref m1, .ref m2, .ref m3, .ref m4, .ref m5, .ref m6, .ref m7, .ref m8, .ref m9, .ref m10, .ref m11, .ref m12, .ref m13, .ref m14, .ref m15, .ref m16, .ref m17, .ref m18, .ref m19, .ref m20, .int 1, .int 0, .int 0, .int 0, .long 0, .int 0]))]) [1] (by decide) rfl
  refine W.widen (k := 0) (n := 0) (Nat.le_of_ble_eq_true rfl) (Nat.le_of_ble_eq_true rfl) ?_
  rw [hQe]
  exact W.iret (v := 0) hx hb hr (fun t ht hW => ⟨⟨0, (), rfl, rfl, ⟨by rw [ht]; exact hP9, hD9⟩⟩, hS.F ht⟩) hS.2.2 dX14_placeOf_13
set_option maxHeartbeats 4000000 in
set_option maxRecDepth 100000 in
/-- reference: hourOf -/
theorem g_hourOf (l : Launch) (D : va_G) (cy : Nat → ClassId) (h0 : Nat) (m0 : Nat) (m1 : Nat) (m2 : Nat) (m3 : Nat) (m4 : Nat) (m5 : Nat) (m6 : Nat) (m7 : Nat) (m8 : Nat) (m9 : Nat) (m10 : Nat) (m11 : Nat) (m12 : Nat) (m13 : Nat) (m14 : Nat) (m15 : Nat) (m16 : Nat) (m17 : Nat) (m18 : Nat) (m19 : Nat) (m20 : Nat) (b2 : Nat) (a1 : Int32) (sz : Nat)  : Met l yX14_hourOf (wz yX14_hourOf cX14_hourOf 2 (some .int)) ({ frames := 2, cells := 0, slots := 0, locals := 46 } : Room) (va_Pc [.ref h0, .int a1] (zPre vwCl D cy [(h0, .inr (17, [.ref m0, .ref m1, .ref m2, .ref m3, .ref m4, .ref m5, .ref m6, .ref m7, .ref m8, .ref m9, .ref m10, .ref m11, .ref m12, .ref m13, .ref m14, .ref m15, .ref m16, .ref m17, .ref m18, .ref m19, .ref m20, .int 0, .int 0, .int 0, .int 0, .long 0, .int 0])), (m2, .inr (2, [.int 0, .ref b2, .int 0]))] sz)) (va_Qi (fun (r : Int32) (_ : Unit) => r = 0) (fun (u : Unit) t => zPost vwCl D (va_A [(h0, .inr (17, [.ref m0, .ref m1, .ref m2, .ref m3, .ref m4, .ref m5, .ref m6, .ref m7, .ref m8, .ref m9, .ref m10, .ref m11, .ref m12, .ref m13, .ref m14, .ref m15, .ref m16, .ref m17, .ref m18, .ref m19, .ref m20, .int 0, .int 0, .int 0, .int 0, .long 0, .int 0])), (m2, .inr (2, [.int 0, .ref b2, .int 0]))] sz) [(h0, .inr (17, [.ref m0, .ref m1, .ref m2, .ref m3, .ref m4, .ref m5, .ref m6, .ref m7, .ref m8, .ref m9, .ref m10, .ref m11, .ref m12, .ref m13, .ref m14, .ref m15, .ref m16, .ref m17, .ref m18, .ref m19, .ref m20, .int 1, .int 0, .int 0, .int 0, .long 0, .int 0]))] t) (va_A [(h0, .inr (17, [.ref m0, .ref m1, .ref m2, .ref m3, .ref m4, .ref m5, .ref m6, .ref m7, .ref m8, .ref m9, .ref m10, .ref m11, .ref m12, .ref m13, .ref m14, .ref m15, .ref m16, .ref m17, .ref m18, .ref m19, .ref m20, .int 0, .int 0, .int 0, .int 0, .long 0, .int 0])), (m2, .inr (2, [.int 0, .ref b2, .int 0]))] sz)) 0 0 (va_A [(h0, .inr (17, [.ref m0, .ref m1, .ref m2, .ref m3, .ref m4, .ref m5, .ref m6, .ref m7, .ref m8, .ref m9, .ref m10, .ref m11, .ref m12, .ref m13, .ref m14, .ref m15, .ref m16, .ref m17, .ref m18, .ref m19, .ref m20, .int 0, .int 0, .int 0, .int 0, .long 0, .int 0])), (m2, .inr (2, [.int 0, .ref b2, .int 0]))] sz) := by
  refine Met.ofW (cc := cX14_hourOf) (maxL := 2) (ret := (some .int)) (by decide) rfl ?_
  intro p e s m args below meth c s₁ B hml hv
  obtain ⟨rfl, hsz, hP, hK, hD0, hX, hY⟩ := hv
  have hx := B.exec
  have hb := B.bytes
  have hr := B.returns
  have hts0 := atoms_spec (ws := wz yX14_hourOf cX14_hourOf 2 (some .int)) B.pre
  have hts : ∀ w ∈ wAll, w.before _ s = true := fun w h => hts0 w (List.mem_cons_of_mem _ h)
  have hown : s.vm.findClass RX14 = some m.cls := findClass_of_methodNamed B.named
  have hlocks := B.notSynchronized
  subst hsz
  have hD := hD0.self (sz := s.heap.size)
  generalize hAe : va_A [(h0, .inr (17, [.ref m0, .ref m1, .ref m2, .ref m3, .ref m4, .ref m5, .ref m6, .ref m7, .ref m8, .ref m9, .ref m10, .ref m11, .ref m12, .ref m13, .ref m14, .ref m15, .ref m16, .ref m17, .ref m18, .ref m19, .ref m20, .int 0, .int 0, .int 0, .int 0, .long 0, .int 0])), (m2, .inr (2, [.int 0, .ref b2, .int 0]))] s.heap.size = A at hD hY ⊢
  have hA : ∀ q : Nat, s.heap.size ≤ q → A q := fun q h => by rw [← hAe]; exact Or.inr h
  have hS : va_S A s.heap s.heap [] := va_S.rf
  have hP : va_P D vwCl [(h0, .inr (17, [.ref m0, .ref m1, .ref m2, .ref m3, .ref m4, .ref m5, .ref m6, .ref m7, .ref m8, .ref m9, .ref m10, .ref m11, .ref m12, .ref m13, .ref m14, .ref m15, .ref m16, .ref m17, .ref m18, .ref m19, .ref m20, .int 0, .int 0, .int 0, .int 0, .long 0, .int 0])), (m2, .inr (2, [.int 0, .ref b2, .int 0]))] s.heap := hP
  have hl := lv_entry ([.ref h0, .int a1]) (n := 2) (Nat.le_of_ble_eq_true rfl)
  rw [lg_entry_eq]
  generalize (lg_sl ([.ref h0, .int a1]) ++ List.replicate (2 - (lg_sl ([.ref h0, .int a1])).length) Slot.unset).toArray = ls at hl ⊢
  have hl : lv_has ls 2 [(0, .ref h0), (1, .int a1)] := hl
  refine z_anyQ (fun Q hQe => ?_)
  refine lv_aload_n hx hb dX14_hourOf_0 rfl (lv_at hl 0 rfl) ?_
  refine lv_iload_n hx hb dX14_hourOf_1 rfl (lv_at hl 1 rfl) ?_
  refine zq_i (wc := [(h0, .inr (17, [.ref m0, .ref m1, .ref m2, .ref m3, .ref m4, .ref m5, .ref m6, .ref m7, .ref m8, .ref m9, .ref m10, .ref m11, .ref m12, .ref m13, .ref m14, .ref m15, .ref m16, .ref m17, .ref m18, .ref m19, .ref m20, .int 0, .int 0, .int 0, .int 0, .long 0, .int 0])), (m2, .inr (2, [.int 0, .ref b2, .int 0]))]) (wr := []) (va_runV (As := [.int a1]) (rest := []) ⟨hx, hb, hml, hown, hts⟩ (k_isParty l D cy h0 m0 m1 m2 m3 m4 m5 m6 m7 m8 m9 m10 m11 m12 m13 m14 m15 m16 m17 m18 m19 m20 b2 a1 s.heap.size ) (cwV 1 hts (gzV (gz q341) q340 q342 q343 q285) rfl rfl rfl vX14_isParty ⟨Nat.le_of_ble_eq_true rfl, Nat.le_of_ble_eq_true rfl⟩) (zpV (ci := 17) (T := TX14) (N := 27) (q0 := 0) hK hX hY hP hD hS hA [0, 1] (by decide) rfl rfl rfl) rfl rfl hl.1 rfl (lv_room (Nat.le_of_ble_eq_true rfl)) dX14_hourOf_2 ⟨Nat.le_of_ble_eq_true rfl, Nat.le_of_ble_eq_true rfl⟩) hP hD hS hA [0, 1] [] rfl rfl (by decide) (by decide) (fun x2 u1 H locs hw hP hD hS => ?_)
  obtain rfl : x2 = 0 := hw
  have hP : va_P D vwCl [(h0, .inr (17, [.ref m0, .ref m1, .ref m2, .ref m3, .ref m4, .ref m5, .ref m6, .ref m7, .ref m8, .ref m9, .ref m10, .ref m11, .ref m12, .ref m13, .ref m14, .ref m15, .ref m16, .ref m17, .ref m18, .ref m19, .ref m20, .int 0, .int 0, .int 0, .int 0, .long 0, .int 0])), (m2, .inr (2, [.int 0, .ref b2, .int 0]))] H := hP
  have hD : va_D A [(h0, .inr (17, [.ref m0, .ref m1, .ref m2, .ref m3, .ref m4, .ref m5, .ref m6, .ref m7, .ref m8, .ref m9, .ref m10, .ref m11, .ref m12, .ref m13, .ref m14, .ref m15, .ref m16, .ref m17, .ref m18, .ref m19, .ref m20, .int 0, .int 0, .int 0, .int 0, .long 0, .int 0])), (m2, .inr (2, [.int 0, .ref b2, .int 0]))] := hD
  refine lv_if_eq (tgt := 29) hx hb dX14_hourOf_5 (by decide) (fun _ => ?_) (fun c_5_2 => absurd (by decide +kernel) c_5_2)
  refine lv_aload_n hx hb dX14_hourOf_29 rfl (lv_at hl 0 rfl) ?_
  refine lv_iconst (v := 1) hx hb dX14_hourOf_30 (by decide) ?_
  refine zq_i (wc := [(h0, .inr (17, [.ref m0, .ref m1, .ref m2, .ref m3, .ref m4, .ref m5, .ref m6, .ref m7, .ref m8, .ref m9, .ref m10, .ref m11, .ref m12, .ref m13, .ref m14, .ref m15, .ref m16, .ref m17, .ref m18, .ref m19, .ref m20, .int 0, .int 0, .int 0, .int 0, .long 0, .int 0]))]) (wr := [(m2, .inr (2, [.int 0, .ref b2, .int 0]))]) (va_runV (As := [.int 1]) (rest := []) ⟨hx, hb, hml, hown, hts⟩ (k_fails l D cy h0 m0 m1 m2 m3 m4 m5 m6 m7 m8 m9 m10 m11 m12 m13 m14 m15 m16 m17 m18 m19 m20 0 0 0 0 0 0 1 H.size ) (cwV 1 hts (gzV (gz q345) q344 q346 q347 q285) rfl rfl rfl vX14_fails ⟨Nat.le_of_ble_eq_true rfl, Nat.le_of_ble_eq_true rfl⟩) (zpV (ci := 17) (T := TX14) (N := 27) (q0 := 0) hK hX hY hP hD hS hA [0] (by decide) rfl rfl rfl) rfl rfl hl.1 rfl (lv_room (Nat.le_of_ble_eq_true rfl)) dX14_hourOf_31 ⟨Nat.le_of_ble_eq_true rfl, Nat.le_of_ble_eq_true rfl⟩) hP hD hS hA [0] [1] rfl rfl (by decide) (by decide) (fun x5 u4 H locs hw hP hD hS => ?_)
  obtain rfl : x5 = 0 := hw
  have hP : va_P D vwCl [(m2, .inr (2, [.int 0, .ref b2, .int 0])), (h0, .inr (17, [.ref m0, .ref m1, .ref m2, .ref m3, .ref m4, .ref m5, .ref m6, .ref m7, .ref m8, .ref m9, .ref m10, .ref m11, .ref m12, .ref m13, .ref m14, .ref m15, .ref m16, .ref m17, .ref m18, .ref m19, .ref m20, .int 1, .int 0, .int 0, .int 0, .long 0, .int 0]))] H := hP
  have hD : va_D A [(m2, .inr (2, [.int 0, .ref b2, .int 0])), (h0, .inr (17, [.ref m0, .ref m1, .ref m2, .ref m3, .ref m4, .ref m5, .ref m6, .ref m7, .ref m8, .ref m9, .ref m10, .ref m11, .ref m12, .ref m13, .ref m14, .ref m15, .ref m16, .ref m17, .ref m18, .ref m19, .ref m20, .int 1, .int 0, .int 0, .int 0, .long 0, .int 0]))] := hD
  have hP9 := hP.sub (ws' := [(h0, .inr (17, [.ref m0, .ref m1, .ref m2, .ref m3, .ref m4, .ref m5, .ref m6, .ref m7, .ref m8, .ref m9, .ref m10, .ref m11, .ref m12, .ref m13, .ref m14, .ref m15, .ref m16, .ref m17, .ref m18, .ref m19, .ref m20, .int 1, .int 0, .int 0, .int 0, .long 0, .int 0]))]) [1] rfl
  have hD9 := hD.sub (ws' := [(h0, .inr (17, [.ref m0, .ref m1, .ref m2, .ref m3, .ref m4, .ref m5, .ref m6, .ref m7, .ref m8, .ref m9, .ref m10, .ref m11, .ref m12, .ref m13, .ref m14, .ref m15, .ref m16, .ref m17, .ref m18, .ref m19, .ref m20, .int 1, .int 0, .int 0, .int 0, .long 0, .int 0]))]) [1] (by decide) rfl
  refine W.widen (k := 0) (n := 0) (Nat.le_of_ble_eq_true rfl) (Nat.le_of_ble_eq_true rfl) ?_
  rw [hQe]
  exact W.iret (v := 0) hx hb hr (fun t ht hW => ⟨⟨0, (), rfl, rfl, ⟨by rw [ht]; exact hP9, hD9⟩⟩, hS.F ht⟩) hS.2.2 dX14_hourOf_34
set_option maxHeartbeats 4000000 in
set_option maxRecDepth 100000 in
/-- reference: plan -/
theorem g_plan (l : Launch) (D : va_G) (cy : Nat → ClassId) (h0 : Nat) (m0 : Nat) (m1 : Nat) (m2 : Nat) (m3 : Nat) (m4 : Nat) (m5 : Nat) (m6 : Nat) (m7 : Nat) (m8 : Nat) (m9 : Nat) (m10 : Nat) (m11 : Nat) (m12 : Nat) (m13 : Nat) (m14 : Nat) (m15 : Nat) (m16 : Nat) (m17 : Nat) (m18 : Nat) (m19 : Nat) (m20 : Nat) (b2 : Nat) (a1 : Int32) (sz : Nat)  : Met l yX14_plan (wz yX14_plan cX14_plan 2 (some .int)) ({ frames := 3, cells := 0, slots := 0, locals := 68 } : Room) (va_Pc [.ref h0, .int a1] (zPre vwCl D cy [(h0, .inr (17, [.ref m0, .ref m1, .ref m2, .ref m3, .ref m4, .ref m5, .ref m6, .ref m7, .ref m8, .ref m9, .ref m10, .ref m11, .ref m12, .ref m13, .ref m14, .ref m15, .ref m16, .ref m17, .ref m18, .ref m19, .ref m20, .int 0, .int 0, .int 0, .int 0, .long 0, .int 0])), (m2, .inr (2, [.int 0, .ref b2, .int 0]))] sz)) (va_Qi (fun (r : Int32) (_ : Unit) => r = 0) (fun (u : Unit) t => zPost vwCl D (va_A [(h0, .inr (17, [.ref m0, .ref m1, .ref m2, .ref m3, .ref m4, .ref m5, .ref m6, .ref m7, .ref m8, .ref m9, .ref m10, .ref m11, .ref m12, .ref m13, .ref m14, .ref m15, .ref m16, .ref m17, .ref m18, .ref m19, .ref m20, .int 0, .int 0, .int 0, .int 0, .long 0, .int 0])), (m2, .inr (2, [.int 0, .ref b2, .int 0]))] sz) [(h0, .inr (17, [.ref m0, .ref m1, .ref m2, .ref m3, .ref m4, .ref m5, .ref m6, .ref m7, .ref m8, .ref m9, .ref m10, .ref m11, .ref m12, .ref m13, .ref m14, .ref m15, .ref m16, .ref m17, .ref m18, .ref m19, .ref m20, .int 1, .int 0, .int 0, .int 0, .long 0, .int 0]))] t) (va_A [(h0, .inr (17, [.ref m0, .ref m1, .ref m2, .ref m3, .ref m4, .ref m5, .ref m6, .ref m7, .ref m8, .ref m9, .ref m10, .ref m11, .ref m12, .ref m13, .ref m14, .ref m15, .ref m16, .ref m17, .ref m18, .ref m19, .ref m20, .int 0, .int 0, .int 0, .int 0, .long 0, .int 0])), (m2, .inr (2, [.int 0, .ref b2, .int 0]))] sz)) 0 0 (va_A [(h0, .inr (17, [.ref m0, .ref m1, .ref m2, .ref m3, .ref m4, .ref m5, .ref m6, .ref m7, .ref m8, .ref m9, .ref m10, .ref m11, .ref m12, .ref m13, .ref m14, .ref m15, .ref m16, .ref m17, .ref m18, .ref m19, .ref m20, .int 0, .int 0, .int 0, .int 0, .long 0, .int 0])), (m2, .inr (2, [.int 0, .ref b2, .int 0]))] sz) := by
  refine Met.ofW (cc := cX14_plan) (maxL := 2) (ret := (some .int)) (by decide) rfl ?_
  intro p e s m args below meth c s₁ B hml hv
  obtain ⟨rfl, hsz, hP, hK, hD0, hX, hY⟩ := hv
  have hx := B.exec
  have hb := B.bytes
  have hr := B.returns
  have hts0 := atoms_spec (ws := wz yX14_plan cX14_plan 2 (some .int)) B.pre
  have hts : ∀ w ∈ wAll, w.before _ s = true := fun w h => hts0 w (List.mem_cons_of_mem _ h)
  have hown : s.vm.findClass RX14 = some m.cls := findClass_of_methodNamed B.named
  have hlocks := B.notSynchronized
  subst hsz
  have hD := hD0.self (sz := s.heap.size)
  generalize hAe : va_A [(h0, .inr (17, [.ref m0, .ref m1, .ref m2, .ref m3, .ref m4, .ref m5, .ref m6, .ref m7, .ref m8, .ref m9, .ref m10, .ref m11, .ref m12, .ref m13, .ref m14, .ref m15, .ref m16, .ref m17, .ref m18, .ref m19, .ref m20, .int 0, .int 0, .int 0, .int 0, .long 0, .int 0])), (m2, .inr (2, [.int 0, .ref b2, .int 0]))] s.heap.size = A at hD hY ⊢
  have hA : ∀ q : Nat, s.heap.size ≤ q → A q := fun q h => by rw [← hAe]; exact Or.inr h
  have hS : va_S A s.heap s.heap [] := va_S.rf
  have hP : va_P D vwCl [(h0, .inr (17, [.ref m0, .ref m1, .ref m2, .ref m3, .ref m4, .ref m5, .ref m6, .ref m7, .ref m8, .ref m9, .ref m10, .ref m11, .ref m12, .ref m13, .ref m14, .ref m15, .ref m16, .ref m17, .ref m18, .ref m19, .ref m20, .int 0, .int 0, .int 0, .int 0, .long 0, .int 0])), (m2, .inr (2, [.int 0, .ref b2, .int 0]))] s.heap := hP
  have hl := lv_entry ([.ref h0, .int a1]) (n := 2) (Nat.le_of_ble_eq_true rfl)
  rw [lg_entry_eq]
  generalize (lg_sl ([.ref h0, .int a1]) ++ List.replicate (2 - (lg_sl ([.ref h0, .int a1])).length) Slot.unset).toArray = ls at hl ⊢
  have hl : lv_has ls 2 [(0, .ref h0), (1, .int a1)] := hl
  refine z_anyQ (fun Q hQe => ?_)
  refine lv_aload_n hx hb dX14_plan_0 rfl (lv_at hl 0 rfl) ?_
  refine lv_iload_n hx hb dX14_plan_1 rfl (lv_at hl 1 rfl) ?_
  refine lv_iconst (v := 2) hx hb dX14_plan_2 (by decide) ?_
  refine zq_i (wc := [(h0, .inr (17, [.ref m0, .ref m1, .ref m2, .ref m3, .ref m4, .ref m5, .ref m6, .ref m7, .ref m8, .ref m9, .ref m10, .ref m11, .ref m12, .ref m13, .ref m14, .ref m15, .ref m16, .ref m17, .ref m18, .ref m19, .ref m20, .int 0, .int 0, .int 0, .int 0, .long 0, .int 0])), (m2, .inr (2, [.int 0, .ref b2, .int 0]))]) (wr := []) (va_runV (As := [.int a1, .int 2]) (rest := []) ⟨hx, hb, hml, hown, hts⟩ (k_hasPlan l D cy h0 m0 m1 m2 m3 m4 m5 m6 m7 m8 m9 m10 m11 m12 m13 m14 m15 m16 m17 m18 m19 m20 b2 a1 2 s.heap.size ) (cwV 2 hts (gzV (gz q361) q360 q362 q363 q285) rfl rfl rfl vX14_hasPlan ⟨Nat.le_of_ble_eq_true rfl, Nat.le_of_ble_eq_true rfl⟩) (zpV (ci := 17) (T := TX14) (N := 27) (q0 := 0) hK hX hY hP hD hS hA [0, 1] (by decide) rfl rfl rfl) rfl rfl hl.1 rfl (lv_room (Nat.le_of_ble_eq_true rfl)) dX14_plan_3 ⟨Nat.le_of_ble_eq_true rfl, Nat.le_of_ble_eq_true rfl⟩) hP hD hS hA [0, 1] [] rfl rfl (by decide) (by decide) (fun x2 u1 H locs hw hP hD hS => ?_)
  obtain rfl : x2 = 0 := hw
  have hP : va_P D vwCl [(h0, .inr (17, [.ref m0, .ref m1, .ref m2, .ref m3, .ref m4, .ref m5, .ref m6, .ref m7, .ref m8, .ref m9, .ref m10, .ref m11, .ref m12, .ref m13, .ref m14, .ref m15, .ref m16, .ref m17, .ref m18, .ref m19, .ref m20, .int 1, .int 0, .int 0, .int 0, .long 0, .int 0]))] H := hP
  have hD : va_D A [(h0, .inr (17, [.ref m0, .ref m1, .ref m2, .ref m3, .ref m4, .ref m5, .ref m6, .ref m7, .ref m8, .ref m9, .ref m10, .ref m11, .ref m12, .ref m13, .ref m14, .ref m15, .ref m16, .ref m17, .ref m18, .ref m19, .ref m20, .int 1, .int 0, .int 0, .int 0, .long 0, .int 0]))] := hD
  refine lv_if_eq (tgt := 42) hx hb dX14_plan_6 (by decide) (fun _ => ?_) (fun c_6_2 => absurd (by decide +kernel) c_6_2)
  refine lv_iconst (v := 0) hx hb dX14_plan_42 (by decide) ?_
  have hP9 := hP.sub (ws' := [(h0, .inr (17, [.ref m0, .ref m1, .ref m2, .ref m3, .ref m4, .ref m5, .ref m6, .ref m7, .ref m8, .ref m9, .ref m10, .ref m11, .ref m12, .ref m13, .ref m14, .ref m15, .ref m16, .ref m17, .ref m18, .ref m19, .ref m20, .int 1, .int 0, .int 0, .int 0, .long 0, .int 0]))]) [0] rfl
  have hD9 := hD.sub (ws' := [(h0, .inr (17, [.ref m0, .ref m1, .ref m2, .ref m3, .ref m4, .ref m5, .ref m6, .ref m7, .ref m8, .ref m9, .ref m10, .ref m11, .ref m12, .ref m13, .ref m14, .ref m15, .ref m16, .ref m17, .ref m18, .ref m19, .ref m20, .int 1, .int 0, .int 0, .int 0, .long 0, .int 0]))]) [0] (by decide) rfl
  refine W.widen (k := 0) (n := 0) (Nat.le_of_ble_eq_true rfl) (Nat.le_of_ble_eq_true rfl) ?_
  rw [hQe]
  exact W.iret (v := 0) hx hb hr (fun t ht hW => ⟨⟨0, (), rfl, rfl, ⟨by rw [ht]; exact hP9, hD9⟩⟩, hS.F ht⟩) hS.2.2 dX14_plan_43
set_option maxHeartbeats 4000000 in
set_option maxRecDepth 100000 in
/-- reference: planAt -/
theorem g_planAt (l : Launch) (D : va_G) (cy : Nat → ClassId) (h0 : Nat) (m0 : Nat) (m1 : Nat) (m2 : Nat) (m3 : Nat) (m4 : Nat) (m5 : Nat) (m6 : Nat) (m7 : Nat) (m8 : Nat) (m9 : Nat) (m10 : Nat) (m11 : Nat) (m12 : Nat) (m13 : Nat) (m14 : Nat) (m15 : Nat) (m16 : Nat) (m17 : Nat) (m18 : Nat) (m19 : Nat) (m20 : Nat) (b2 : Nat) (a1 : Int32) (a2 : Int32) (sz : Nat)  : Met l yX14_planAt (wz yX14_planAt cX14_planAt 11 (some .int)) ({ frames := 3, cells := 0, slots := 0, locals := 68 } : Room) (va_Pc [.ref h0, .int a1, .int a2] (zPre vwCl D cy [(h0, .inr (17, [.ref m0, .ref m1, .ref m2, .ref m3, .ref m4, .ref m5, .ref m6, .ref m7, .ref m8, .ref m9, .ref m10, .ref m11, .ref m12, .ref m13, .ref m14, .ref m15, .ref m16, .ref m17, .ref m18, .ref m19, .ref m20, .int 0, .int 0, .int 0, .int 0, .long 0, .int 0])), (m2, .inr (2, [.int 0, .ref b2, .int 0]))] sz)) (va_Qi (fun (r : Int32) (_ : Unit) => r = 0) (fun (u : Unit) t => zPost vwCl D (va_A [(h0, .inr (17, [.ref m0, .ref m1, .ref m2, .ref m3, .ref m4, .ref m5, .ref m6, .ref m7, .ref m8, .ref m9, .ref m10, .ref m11, .ref m12, .ref m13, .ref m14, .ref m15, .ref m16, .ref m17, .ref m18, .ref m19, .ref m20, .int 0, .int 0, .int 0, .int 0, .long 0, .int 0])), (m2, .inr (2, [.int 0, .ref b2, .int 0]))] sz) [(h0, .inr (17, [.ref m0, .ref m1, .ref m2, .ref m3, .ref m4, .ref m5, .ref m6, .ref m7, .ref m8, .ref m9, .ref m10, .ref m11, .ref m12, .ref m13, .ref m14, .ref m15, .ref m16, .ref m17, .ref m18, .ref m19, .ref m20, .int 1, .int 0, .int 0, .int 0, .long 0, .int 0]))] t) (va_A [(h0, .inr (17, [.ref m0, .ref m1, .ref m2, .ref m3, .ref m4, .ref m5, .ref m6, .ref m7, .ref m8, .ref m9, .ref m10, .ref m11, .ref m12, .ref m13, .ref m14, .ref m15, .ref m16, .ref m17, .ref m18, .ref m19, .ref m20, .int 0, .int 0, .int 0, .int 0, .long 0, .int 0])), (m2, .inr (2, [.int 0, .ref b2, .int 0]))] sz)) 0 0 (va_A [(h0, .inr (17, [.ref m0, .ref m1, .ref m2, .ref m3, .ref m4, .ref m5, .ref m6, .ref m7, .ref m8, .ref m9, .ref m10, .ref m11, .ref m12, .ref m13, .ref m14, .ref m15, .ref m16, .ref m17, .ref m18, .ref m19, .ref m20, .int 0, .int 0, .int 0, .int 0, .long 0, .int 0])), (m2, .inr (2, [.int 0, .ref b2, .int 0]))] sz) := by
  refine Met.ofW (cc := cX14_planAt) (maxL := 11) (ret := (some .int)) (by decide) rfl ?_
  intro p e s m args below meth c s₁ B hml hv
  obtain ⟨rfl, hsz, hP, hK, hD0, hX, hY⟩ := hv
  have hx := B.exec
  have hb := B.bytes
  have hr := B.returns
  have hts0 := atoms_spec (ws := wz yX14_planAt cX14_planAt 11 (some .int)) B.pre
  have hts : ∀ w ∈ wAll, w.before _ s = true := fun w h => hts0 w (List.mem_cons_of_mem _ h)
  have hown : s.vm.findClass RX14 = some m.cls := findClass_of_methodNamed B.named
  have hlocks := B.notSynchronized
  subst hsz
  have hD := hD0.self (sz := s.heap.size)
  generalize hAe : va_A [(h0, .inr (17, [.ref m0, .ref m1, .ref m2, .ref m3, .ref m4, .ref m5, .ref m6, .ref m7, .ref m8, .ref m9, .ref m10, .ref m11, .ref m12, .ref m13, .ref m14, .ref m15, .ref m16, .ref m17, .ref m18, .ref m19, .ref m20, .int 0, .int 0, .int 0, .int 0, .long 0, .int 0])), (m2, .inr (2, [.int 0, .ref b2, .int 0]))] s.heap.size = A at hD hY ⊢
  have hA : ∀ q : Nat, s.heap.size ≤ q → A q := fun q h => by rw [← hAe]; exact Or.inr h
  have hS : va_S A s.heap s.heap [] := va_S.rf
  have hP : va_P D vwCl [(h0, .inr (17, [.ref m0, .ref m1, .ref m2, .ref m3, .ref m4, .ref m5, .ref m6, .ref m7, .ref m8, .ref m9, .ref m10, .ref m11, .ref m12, .ref m13, .ref m14, .ref m15, .ref m16, .ref m17, .ref m18, .ref m19, .ref m20, .int 0, .int 0, .int 0, .int 0, .long 0, .int 0])), (m2, .inr (2, [.int 0, .ref b2, .int 0]))] s.heap := hP
  have hl := lv_entry ([.ref h0, .int a1, .int a2]) (n := 11) (Nat.le_of_ble_eq_true rfl)
  rw [lg_entry_eq]
  generalize (lg_sl ([.ref h0, .int a1, .int a2]) ++ List.replicate (11 - (lg_sl ([.ref h0, .int a1, .int a2])).length) Slot.unset).toArray = ls at hl ⊢
  have hl : lv_has ls 11 [(0, .ref h0), (1, .int a1), (2, .int a2)] := hl
  refine z_anyQ (fun Q hQe => ?_)
  refine lv_aload_n hx hb dX14_planAt_0 rfl (lv_at hl 0 rfl) ?_
  refine lv_iload_n hx hb dX14_planAt_1 rfl (lv_at hl 1 rfl) ?_
  refine lv_iconst (v := 2) hx hb dX14_planAt_2 (by decide) ?_
  refine zq_i (wc := [(h0, .inr (17, [.ref m0, .ref m1, .ref m2, .ref m3, .ref m4, .ref m5, .ref m6, .ref m7, .ref m8, .ref m9, .ref m10, .ref m11, .ref m12, .ref m13, .ref m14, .ref m15, .ref m16, .ref m17, .ref m18, .ref m19, .ref m20, .int 0, .int 0, .int 0, .int 0, .long 0, .int 0])), (m2, .inr (2, [.int 0, .ref b2, .int 0]))]) (wr := []) (va_runV (As := [.int a1, .int 2]) (rest := []) ⟨hx, hb, hml, hown, hts⟩ (k_hasPlan l D cy h0 m0 m1 m2 m3 m4 m5 m6 m7 m8 m9 m10 m11 m12 m13 m14 m15 m16 m17 m18 m19 m20 b2 a1 2 s.heap.size ) (cwV 2 hts (gzV (gz q361) q360 q362 q363 q285) rfl rfl rfl vX14_hasPlan ⟨Nat.le_of_ble_eq_true rfl, Nat.le_of_ble_eq_true rfl⟩) (zpV (ci := 17) (T := TX14) (N := 27) (q0 := 0) hK hX hY hP hD hS hA [0, 1] (by decide) rfl rfl rfl) rfl rfl hl.1 rfl (lv_room (Nat.le_of_ble_eq_true rfl)) dX14_planAt_3 ⟨Nat.le_of_ble_eq_true rfl, Nat.le_of_ble_eq_true rfl⟩) hP hD hS hA [0, 1] [] rfl rfl (by decide) (by decide) (fun x2 u1 H locs hw hP hD hS => ?_)
  obtain rfl : x2 = 0 := hw
  have hP : va_P D vwCl [(h0, .inr (17, [.ref m0, .ref m1, .ref m2, .ref m3, .ref m4, .ref m5, .ref m6, .ref m7, .ref m8, .ref m9, .ref m10, .ref m11, .ref m12, .ref m13, .ref m14, .ref m15, .ref m16, .ref m17, .ref m18, .ref m19, .ref m20, .int 1, .int 0, .int 0, .int 0, .long 0, .int 0]))] H := hP
  have hD : va_D A [(h0, .inr (17, [.ref m0, .ref m1, .ref m2, .ref m3, .ref m4, .ref m5, .ref m6, .ref m7, .ref m8, .ref m9, .ref m10, .ref m11, .ref m12, .ref m13, .ref m14, .ref m15, .ref m16, .ref m17, .ref m18, .ref m19, .ref m20, .int 1, .int 0, .int 0, .int 0, .long 0, .int 0]))] := hD
  refine lv_if_ne (tgt := 11) hx hb dX14_planAt_6 (by decide) (fun c_6_2 => absurd (by decide +kernel) c_6_2) (fun _ => ?_)
  refine lv_iconst (v := 0) hx hb dX14_planAt_9 (by decide) ?_
  have hP9 := hP.sub (ws' := [(h0, .inr (17, [.ref m0, .ref m1, .ref m2, .ref m3, .ref m4, .ref m5, .ref m6, .ref m7, .ref m8, .ref m9, .ref m10, .ref m11, .ref m12, .ref m13, .ref m14, .ref m15, .ref m16, .ref m17, .ref m18, .ref m19, .ref m20, .int 1, .int 0, .int 0, .int 0, .long 0, .int 0]))]) [0] rfl
  have hD9 := hD.sub (ws' := [(h0, .inr (17, [.ref m0, .ref m1, .ref m2, .ref m3, .ref m4, .ref m5, .ref m6, .ref m7, .ref m8, .ref m9, .ref m10, .ref m11, .ref m12, .ref m13, .ref m14, .ref m15, .ref m16, .ref m17, .ref m18, .ref m19, .ref m20, .int 1, .int 0, .int 0, .int 0, .long 0, .int 0]))]) [0] (by decide) rfl
  refine W.widen (k := 0) (n := 0) (Nat.le_of_ble_eq_true rfl) (Nat.le_of_ble_eq_true rfl) ?_
  rw [hQe]
  exact W.iret (v := 0) hx hb hr (fun t ht hW => ⟨⟨0, (), rfl, rfl, ⟨by rw [ht]; exact hP9, hD9⟩⟩, hS.F ht⟩) hS.2.2 dX14_planAt_10
set_option maxHeartbeats 4000000 in
set_option maxRecDepth 100000 in
/-- reference: lastChance -/
theorem g_lastChance (l : Launch) (D : va_G) (cy : Nat → ClassId) (h0 : Nat) (m0 : Nat) (m1 : Nat) (m2 : Nat) (m3 : Nat) (m4 : Nat) (m5 : Nat) (m6 : Nat) (m7 : Nat) (m8 : Nat) (m9 : Nat) (m10 : Nat) (m11 : Nat) (m12 : Nat) (m13 : Nat) (m14 : Nat) (m15 : Nat) (m16 : Nat) (m17 : Nat) (m18 : Nat) (m19 : Nat) (m20 : Nat) (b2 : Nat) (a1 : Int32) (sz : Nat)  : Met l yX14_lastChance (wz yX14_lastChance cX14_lastChance 4 (some .int)) ({ frames := 3, cells := 0, slots := 0, locals := 68 } : Room) (va_Pc [.ref h0, .int a1] (zPre vwCl D cy [(h0, .inr (17, [.ref m0, .ref m1, .ref m2, .ref m3, .ref m4, .ref m5, .ref m6, .ref m7, .ref m8, .ref m9, .ref m10, .ref m11, .ref m12, .ref m13, .ref m14, .ref m15, .ref m16, .ref m17, .ref m18, .ref m19, .ref m20, .int 0, .int 0, .int 0, .int 0, .long 0, .int 0])), (m2, .inr (2, [.int 0, .ref b2, .int 0]))] sz)) (va_Qi (fun (r : Int32) (_ : Unit) => r = 0) (fun (u : Unit) t => zPost vwCl D (va_A [(h0, .inr (17, [.ref m0, .ref m1, .ref m2, .ref m3, .ref m4, .ref m5, .ref m6, .ref m7, .ref m8, .ref m9, .ref m10, .ref m11, .ref m12, .ref m13, .ref m14, .ref m15, .ref m16, .ref m17, .ref m18, .ref m19, .ref m20, .int 0, .int 0, .int 0, .int 0, .long 0, .int 0])), (m2, .inr (2, [.int 0, .ref b2, .int 0]))] sz) [(h0, .inr (17, [.ref m0, .ref m1, .ref m2, .ref m3, .ref m4, .ref m5, .ref m6, .ref m7, .ref m8, .ref m9, .ref m10, .ref m11, .ref m12, .ref m13, .ref m14, .ref m15, .ref m16, .ref m17, .ref m18, .ref m19, .ref m20, .int 1, .int 0, .int 0, .int 0, .long 0, .int 0]))] t) (va_A [(h0, .inr (17, [.ref m0, .ref m1, .ref m2, .ref m3, .ref m4, .ref m5, .ref m6, .ref m7, .ref m8, .ref m9, .ref m10, .ref m11, .ref m12, .ref m13, .ref m14, .ref m15, .ref m16, .ref m17, .ref m18, .ref m19, .ref m20, .int 0, .int 0, .int 0, .int 0, .long 0, .int 0])), (m2, .inr (2, [.int 0, .ref b2, .int 0]))] sz)) 0 0 (va_A [(h0, .inr (17, [.ref m0, .ref m1, .ref m2, .ref m3, .ref m4, .ref m5, .ref m6, .ref m7, .ref m8, .ref m9, .ref m10, .ref m11, .ref m12, .ref m13, .ref m14, .ref m15, .ref m16, .ref m17, .ref m18, .ref m19, .ref m20, .int 0, .int 0, .int 0, .int 0, .long 0, .int 0])), (m2, .inr (2, [.int 0, .ref b2, .int 0]))] sz) := by
  refine Met.ofW (cc := cX14_lastChance) (maxL := 4) (ret := (some .int)) (by decide) rfl ?_
  intro p e s m args below meth c s₁ B hml hv
  obtain ⟨rfl, hsz, hP, hK, hD0, hX, hY⟩ := hv
  have hx := B.exec
  have hb := B.bytes
  have hr := B.returns
  have hts0 := atoms_spec (ws := wz yX14_lastChance cX14_lastChance 4 (some .int)) B.pre
  have hts : ∀ w ∈ wAll, w.before _ s = true := fun w h => hts0 w (List.mem_cons_of_mem _ h)
  have hown : s.vm.findClass RX14 = some m.cls := findClass_of_methodNamed B.named
  have hlocks := B.notSynchronized
  subst hsz
  have hD := hD0.self (sz := s.heap.size)
  generalize hAe : va_A [(h0, .inr (17, [.ref m0, .ref m1, .ref m2, .ref m3, .ref m4, .ref m5, .ref m6, .ref m7, .ref m8, .ref m9, .ref m10, .ref m11, .ref m12, .ref m13, .ref m14, .ref m15, .ref m16, .ref m17, .ref m18, .ref m19, .ref m20, .int 0, .int 0, .int 0, .int 0, .long 0, .int 0])), (m2, .inr (2, [.int 0, .ref b2, .int 0]))] s.heap.size = A at hD hY ⊢
  have hA : ∀ q : Nat, s.heap.size ≤ q → A q := fun q h => by rw [← hAe]; exact Or.inr h
  have hS : va_S A s.heap s.heap [] := va_S.rf
  have hP : va_P D vwCl [(h0, .inr (17, [.ref m0, .ref m1, .ref m2, .ref m3, .ref m4, .ref m5, .ref m6, .ref m7, .ref m8, .ref m9, .ref m10, .ref m11, .ref m12, .ref m13, .ref m14, .ref m15, .ref m16, .ref m17, .ref m18, .ref m19, .ref m20, .int 0, .int 0, .int 0, .int 0, .long 0, .int 0])), (m2, .inr (2, [.int 0, .ref b2, .int 0]))] s.heap := hP
  have hl := lv_entry ([.ref h0, .int a1]) (n := 4) (Nat.le_of_ble_eq_true rfl)
  rw [lg_entry_eq]
  generalize (lg_sl ([.ref h0, .int a1]) ++ List.replicate (4 - (lg_sl ([.ref h0, .int a1])).length) Slot.unset).toArray = ls at hl ⊢
  have hl : lv_has ls 4 [(0, .ref h0), (1, .int a1)] := hl
  refine z_anyQ (fun Q hQe => ?_)
  refine lv_aload_n hx hb dX14_lastChance_0 rfl (lv_at hl 0 rfl) ?_
  refine lv_iload_n hx hb dX14_lastChance_1 rfl (lv_at hl 1 rfl) ?_
  refine lv_iconst (v := 2) hx hb dX14_lastChance_2 (by decide) ?_
  refine zq_i (wc := [(h0, .inr (17, [.ref m0, .ref m1, .ref m2, .ref m3, .ref m4, .ref m5, .ref m6, .ref m7, .ref m8, .ref m9, .ref m10, .ref m11, .ref m12, .ref m13, .ref m14, .ref m15, .ref m16, .ref m17, .ref m18, .ref m19, .ref m20, .int 0, .int 0, .int 0, .int 0, .long 0, .int 0])), (m2, .inr (2, [.int 0, .ref b2, .int 0]))]) (wr := []) (va_runV (As := [.int a1, .int 2]) (rest := []) ⟨hx, hb, hml, hown, hts⟩ (k_hasPlan l D cy h0 m0 m1 m2 m3 m4 m5 m6 m7 m8 m9 m10 m11 m12 m13 m14 m15 m16 m17 m18 m19 m20 b2 a1 2 s.heap.size ) (cwV 2 hts (gzV (gz q361) q360 q362 q363 q285) rfl rfl rfl vX14_hasPlan ⟨Nat.le_of_ble_eq_true rfl, Nat.le_of_ble_eq_true rfl⟩) (zpV (ci := 17) (T := TX14) (N := 27) (q0 := 0) hK hX hY hP hD hS hA [0, 1] (by decide) rfl rfl rfl) rfl rfl hl.1 rfl (lv_room (Nat.le_of_ble_eq_true rfl)) dX14_lastChance_3 ⟨Nat.le_of_ble_eq_true rfl, Nat.le_of_ble_eq_true rfl⟩) hP hD hS hA [0, 1] [] rfl rfl (by decide) (by decide) (fun x2 u1 H locs hw hP hD hS => ?_)
  obtain rfl : x2 = 0 := hw
  have hP : va_P D vwCl [(h0, .inr (17, [.ref m0, .ref m1, .ref m2, .ref m3, .ref m4, .ref m5, .ref m6, .ref m7, .ref m8, .ref m9, .ref m10, .ref m11, .ref m12, .ref m13, .ref m14, .ref m15, .ref m16, .ref m17, .ref m18, .ref m19, .ref m20, .int 1, .int 0, .int 0, .int 0, .long 0, .int 0]))] H := hP
  have hD : va_D A [(h0, .inr (17, [.ref m0, .ref m1, .ref m2, .ref m3, .ref m4, .ref m5, .ref m6, .ref m7, .ref m8, .ref m9, .ref m10, .ref m11, .ref m12, .ref m13, .ref m14, .ref m15, .ref m16, .ref m17, .ref m18, .ref m19, .ref m20, .int 1, .int 0, .int 0, .int 0, .long 0, .int 0]))] := hD
  refine lv_if_ne (tgt := 11) hx hb dX14_lastChance_6 (by decide) (fun c_6_2 => absurd (by decide +kernel) c_6_2) (fun _ => ?_)
  refine lv_iconst (v := 0) hx hb dX14_lastChance_9 (by decide) ?_
  have hP9 := hP.sub (ws' := [(h0, .inr (17, [.ref m0, .ref m1, .ref m2, .ref m3, .ref m4, .ref m5, .ref m6, .ref m7, .ref m8, .ref m9, .ref m10, .ref m11, .ref m12, .ref m13, .ref m14, .ref m15, .ref m16, .ref m17, .ref m18, .ref m19, .ref m20, .int 1, .int 0, .int 0, .int 0, .long 0, .int 0]))]) [0] rfl
  have hD9 := hD.sub (ws' := [(h0, .inr (17, [.ref m0, .ref m1, .ref m2, .ref m3, .ref m4, .ref m5, .ref m6, .ref m7, .ref m8, .ref m9, .ref m10, .ref m11, .ref m12, .ref m13, .ref m14, .ref m15, .ref m16, .ref m17, .ref m18, .ref m19, .ref m20, .int 1, .int 0, .int 0, .int 0, .long 0, .int 0]))]) [0] (by decide) rfl
  refine W.widen (k := 0) (n := 0) (Nat.le_of_ble_eq_true rfl) (Nat.le_of_ble_eq_true rfl) ?_
  rw [hQe]
  exact W.iret (v := 0) hx hb hr (fun t ht hW => ⟨⟨0, (), rfl, rfl, ⟨by rw [ht]; exact hP9, hD9⟩⟩, hS.F ht⟩) hS.2.2 dX14_lastChance_10
set_option maxHeartbeats 4000000 in
set_option maxRecDepth 100000 in
/-- reference: loops of no day -/
theorem g_loops_no (l : Launch) (D : va_G) (cy : Nat → ClassId) (h0 : Nat) (m0 : Nat) (m1 : Nat) (m2 : Nat) (m3 : Nat) (m4 : Nat) (m5 : Nat) (m6 : Nat) (m7 : Nat) (m8 : Nat) (m9 : Nat) (m10 : Nat) (m11 : Nat) (m12 : Nat) (m13 : Nat) (m14 : Nat) (m15 : Nat) (m16 : Nat) (m17 : Nat) (m18 : Nat) (m19 : Nat) (m20 : Nat) (d : Int32) (sz : Nat) (hd : zNoDay d) : Met l yX14_loops (wz yX14_loops cX14_loops 2 (some .int)) ({ frames := 2, cells := 0, slots := 0, locals := 45 } : Room) (va_Pc [.ref h0, .int d] (zPre vwCl D cy [(h0, .inr (17, [.ref m0, .ref m1, .ref m2, .ref m3, .ref m4, .ref m5, .ref m6, .ref m7, .ref m8, .ref m9, .ref m10, .ref m11, .ref m12, .ref m13, .ref m14, .ref m15, .ref m16, .ref m17, .ref m18, .ref m19, .ref m20, .int 0, .int 0, .int 0, .int 0, .long 0, .int 0]))] sz)) (va_Qi (fun (r : Int32) (_ : Unit) => r = 0) (fun (u : Unit) t => zPost vwCl D (va_A [(h0, .inr (17, [.ref m0, .ref m1, .ref m2, .ref m3, .ref m4, .ref m5, .ref m6, .ref m7, .ref m8, .ref m9, .ref m10, .ref m11, .ref m12, .ref m13, .ref m14, .ref m15, .ref m16, .ref m17, .ref m18, .ref m19, .ref m20, .int 0, .int 0, .int 0, .int 0, .long 0, .int 0]))] sz) [(h0, .inr (17, [.ref m0, .ref m1, .ref m2, .ref m3, .ref m4, .ref m5, .ref m6, .ref m7, .ref m8, .ref m9, .ref m10, .ref m11, .ref m12, .ref m13, .ref m14, .ref m15, .ref m16, .ref m17, .ref m18, .ref m19, .ref m20, .int 1, .int 0, .int 0, .int 0, .long 0, .int 0]))] t) (va_A [(h0, .inr (17, [.ref m0, .ref m1, .ref m2, .ref m3, .ref m4, .ref m5, .ref m6, .ref m7, .ref m8, .ref m9, .ref m10, .ref m11, .ref m12, .ref m13, .ref m14, .ref m15, .ref m16, .ref m17, .ref m18, .ref m19, .ref m20, .int 0, .int 0, .int 0, .int 0, .long 0, .int 0]))] sz)) 0 0 (va_A [(h0, .inr (17, [.ref m0, .ref m1, .ref m2, .ref m3, .ref m4, .ref m5, .ref m6, .ref m7, .ref m8, .ref m9, .ref m10, .ref m11, .ref m12, .ref m13, .ref m14, .ref m15, .ref m16, .ref m17, .ref m18, .ref m19, .ref m20, .int 0, .int 0, .int 0, .int 0, .long 0, .int 0]))] sz) := by
  refine Met.ofW (cc := cX14_loops) (maxL := 2) (ret := (some .int)) (by decide) rfl ?_
  intro p e s m args below meth c s₁ B hml hv
  obtain ⟨rfl, hsz, hP, hK, hD0, hX, hY⟩ := hv
  have hx := B.exec
  have hb := B.bytes
  have hr := B.returns
  have hts0 := atoms_spec (ws := wz yX14_loops cX14_loops 2 (some .int)) B.pre
  have hts : ∀ w ∈ wAll, w.before _ s = true := fun w h => hts0 w (List.mem_cons_of_mem _ h)
  have hown : s.vm.findClass RX14 = some m.cls := findClass_of_methodNamed B.named
  have hlocks := B.notSynchronized
  subst hsz
  have hD := hD0.self (sz := s.heap.size)
  generalize hAe : va_A [(h0, .inr (17, [.ref m0, .ref m1, .ref m2, .ref m3, .ref m4, .ref m5, .ref m6, .ref m7, .ref m8, .ref m9, .ref m10, .ref m11, .ref m12, .ref m13, .ref m14, .ref m15, .ref m16, .ref m17, .ref m18, .ref m19, .ref m20, .int 0, .int 0, .int 0, .int 0, .long 0, .int 0]))] s.heap.size = A at hD hY ⊢
  have hA : ∀ q : Nat, s.heap.size ≤ q → A q := fun q h => by rw [← hAe]; exact Or.inr h
  have hS : va_S A s.heap s.heap [] := va_S.rf
  have hP : va_P D vwCl [(h0, .inr (17, [.ref m0, .ref m1, .ref m2, .ref m3, .ref m4, .ref m5, .ref m6, .ref m7, .ref m8, .ref m9, .ref m10, .ref m11, .ref m12, .ref m13, .ref m14, .ref m15, .ref m16, .ref m17, .ref m18, .ref m19, .ref m20, .int 0, .int 0, .int 0, .int 0, .long 0, .int 0]))] s.heap := hP
  have hl := lv_entry ([.ref h0, .int d]) (n := 2) (Nat.le_of_ble_eq_true rfl)
  rw [lg_entry_eq]
  generalize (lg_sl ([.ref h0, .int d]) ++ List.replicate (2 - (lg_sl ([.ref h0, .int d])).length) Slot.unset).toArray = ls at hl ⊢
  have hl : lv_has ls 2 [(0, .ref h0), (1, .int d)] := hl
  refine z_anyQ (fun Q hQe => ?_)
  refine lv_iload_n hx hb dX14_loops_0 rfl (lv_at hl 1 rfl) ?_
  refine zq_i (wc := []) (wr := [(h0, .inr (17, [.ref m0, .ref m1, .ref m2, .ref m3, .ref m4, .ref m5, .ref m6, .ref m7, .ref m8, .ref m9, .ref m10, .ref m11, .ref m12, .ref m13, .ref m14, .ref m15, .ref m16, .ref m17, .ref m18, .ref m19, .ref m20, .int 0, .int 0, .int 0, .int 0, .long 0, .int 0]))]) (va_runS (As := [.int d]) (rest := []) ⟨hx, hb, hml, hown, hts⟩ (k_isDay_no l D cy d s.heap.size hd) (va_cwS 1 hts (gzS (gz q365) q364 q366 q285) rfl rfl rfl vX14_isDay.2 ⟨Nat.le_of_ble_eq_true rfl, Nat.le_of_ble_eq_true rfl⟩) (zpS hK hX hY hP hD hS hA [] (by decide) rfl) rfl rfl hl.1 rfl (lv_room (Nat.le_of_ble_eq_true rfl)) dX14_loops_1 ⟨Nat.le_of_ble_eq_true rfl, Nat.le_of_ble_eq_true rfl⟩) hP hD hS hA [] [0] rfl rfl (by decide) (by decide) (fun x2 u1 H locs hw hP hD hS => ?_)
  obtain rfl : x2 = 0 := hw
  have hP : va_P D vwCl [(h0, .inr (17, [.ref m0, .ref m1, .ref m2, .ref m3, .ref m4, .ref m5, .ref m6, .ref m7, .ref m8, .ref m9, .ref m10, .ref m11, .ref m12, .ref m13, .ref m14, .ref m15, .ref m16, .ref m17, .ref m18, .ref m19, .ref m20, .int 0, .int 0, .int 0, .int 0, .long 0, .int 0]))] H := hP
  have hD : va_D A [(h0, .inr (17, [.ref m0, .ref m1, .ref m2, .ref m3, .ref m4, .ref m5, .ref m6, .ref m7, .ref m8, .ref m9, .ref m10, .ref m11, .ref m12, .ref m13, .ref m14, .ref m15, .ref m16, .ref m17, .ref m18, .ref m19, .ref m20, .int 0, .int 0, .int 0, .int 0, .long 0, .int 0]))] := hD
  refine lv_if_ne (tgt := 13) hx hb dX14_loops_4 (by decide) (fun c_4_2 => absurd (by decide +kernel) c_4_2) (fun _ => ?_)
  refine lv_aload_n hx hb dX14_loops_7 rfl (lv_at hl 0 rfl) ?_
  refine lv_iconst (v := 1) hx hb dX14_loops_8 (by decide) ?_
  refine zq_i (wc := [(h0, .inr (17, [.ref m0, .ref m1, .ref m2, .ref m3, .ref m4, .ref m5, .ref m6, .ref m7, .ref m8, .ref m9, .ref m10, .ref m11, .ref m12, .ref m13, .ref m14, .ref m15, .ref m16, .ref m17, .ref m18, .ref m19, .ref m20, .int 0, .int 0, .int 0, .int 0, .long 0, .int 0]))]) (wr := []) (va_runV (As := [.int 1]) (rest := []) ⟨hx, hb, hml, hown, hts⟩ (k_fails l D cy h0 m0 m1 m2 m3 m4 m5 m6 m7 m8 m9 m10 m11 m12 m13 m14 m15 m16 m17 m18 m19 m20 0 0 0 0 0 0 1 H.size ) (cwV 1 hts (gzV (gz q345) q344 q346 q347 q285) rfl rfl rfl vX14_fails ⟨Nat.le_of_ble_eq_true rfl, Nat.le_of_ble_eq_true rfl⟩) (zpV (ci := 17) (T := TX14) (N := 27) (q0 := 0) hK hX hY hP hD hS hA [0] (by decide) rfl rfl rfl) rfl rfl hl.1 rfl (lv_room (Nat.le_of_ble_eq_true rfl)) dX14_loops_9 ⟨Nat.le_of_ble_eq_true rfl, Nat.le_of_ble_eq_true rfl⟩) hP hD hS hA [0] [] rfl rfl (by decide) (by decide) (fun x5 u4 H locs hw hP hD hS => ?_)
  obtain rfl : x5 = 0 := hw
  have hP : va_P D vwCl [(h0, .inr (17, [.ref m0, .ref m1, .ref m2, .ref m3, .ref m4, .ref m5, .ref m6, .ref m7, .ref m8, .ref m9, .ref m10, .ref m11, .ref m12, .ref m13, .ref m14, .ref m15, .ref m16, .ref m17, .ref m18, .ref m19, .ref m20, .int 1, .int 0, .int 0, .int 0, .long 0, .int 0]))] H := hP
  have hD : va_D A [(h0, .inr (17, [.ref m0, .ref m1, .ref m2, .ref m3, .ref m4, .ref m5, .ref m6, .ref m7, .ref m8, .ref m9, .ref m10, .ref m11, .ref m12, .ref m13, .ref m14, .ref m15, .ref m16, .ref m17, .ref m18, .ref m19, .ref m20, .int 1, .int 0, .int 0, .int 0, .long 0, .int 0]))] := hD
  have hP9 := hP.sub (ws' := [(h0, .inr (17, [.ref m0, .ref m1, .ref m2, .ref m3, .ref m4, .ref m5, .ref m6, .ref m7, .ref m8, .ref m9, .ref m10, .ref m11, .ref m12, .ref m13, .ref m14, .ref m15, .ref m16, .ref m17, .ref m18, .ref m19, .ref m20, .int 1, .int 0, .int 0, .int 0, .long 0, .int 0]))]) [0] rfl
  have hD9 := hD.sub (ws' := [(h0, .inr (17, [.ref m0, .ref m1, .ref m2, .ref m3, .ref m4, .ref m5, .ref m6, .ref m7, .ref m8, .ref m9, .ref m10, .ref m11, .ref m12, .ref m13, .ref m14, .ref m15, .ref m16, .ref m17, .ref m18, .ref m19, .ref m20, .int 1, .int 0, .int 0, .int 0, .long 0, .int 0]))]) [0] (by decide) rfl
  refine W.widen (k := 0) (n := 0) (Nat.le_of_ble_eq_true rfl) (Nat.le_of_ble_eq_true rfl) ?_
  rw [hQe]
  exact W.iret (v := 0) hx hb hr (fun t ht hW => ⟨⟨0, (), rfl, rfl, ⟨by rw [ht]; exact hP9, hD9⟩⟩, hS.F ht⟩) hS.2.2 dX14_loops_12
set_option maxHeartbeats 4000000 in
set_option maxRecDepth 100000 in
/-- reference: allFaults of no day -/
theorem g_allFaults_no (l : Launch) (D : va_G) (cy : Nat → ClassId) (h0 : Nat) (m0 : Nat) (m1 : Nat) (m2 : Nat) (m3 : Nat) (m4 : Nat) (m5 : Nat) (m6 : Nat) (m7 : Nat) (m8 : Nat) (m9 : Nat) (m10 : Nat) (m11 : Nat) (m12 : Nat) (m13 : Nat) (m14 : Nat) (m15 : Nat) (m16 : Nat) (m17 : Nat) (m18 : Nat) (m19 : Nat) (m20 : Nat) (d : Int32) (sz : Nat) (hd : zNoDay d) : Met l yX14_allFaults (wz yX14_allFaults cX14_allFaults 2 (some .long)) ({ frames := 2, cells := 0, slots := 0, locals := 45 } : Room) (va_Pc [.ref h0, .int d] (zPre vwCl D cy [(h0, .inr (17, [.ref m0, .ref m1, .ref m2, .ref m3, .ref m4, .ref m5, .ref m6, .ref m7, .ref m8, .ref m9, .ref m10, .ref m11, .ref m12, .ref m13, .ref m14, .ref m15, .ref m16, .ref m17, .ref m18, .ref m19, .ref m20, .int 0, .int 0, .int 0, .int 0, .long 0, .int 0]))] sz)) (va_Ql (fun (r : Int64) (_ : Unit) => r = 0) (fun (u : Unit) t => zPost vwCl D (va_A [(h0, .inr (17, [.ref m0, .ref m1, .ref m2, .ref m3, .ref m4, .ref m5, .ref m6, .ref m7, .ref m8, .ref m9, .ref m10, .ref m11, .ref m12, .ref m13, .ref m14, .ref m15, .ref m16, .ref m17, .ref m18, .ref m19, .ref m20, .int 0, .int 0, .int 0, .int 0, .long 0, .int 0]))] sz) [(h0, .inr (17, [.ref m0, .ref m1, .ref m2, .ref m3, .ref m4, .ref m5, .ref m6, .ref m7, .ref m8, .ref m9, .ref m10, .ref m11, .ref m12, .ref m13, .ref m14, .ref m15, .ref m16, .ref m17, .ref m18, .ref m19, .ref m20, .int 1, .int 0, .int 0, .int 0, .long 0, .int 0]))] t) (va_A [(h0, .inr (17, [.ref m0, .ref m1, .ref m2, .ref m3, .ref m4, .ref m5, .ref m6, .ref m7, .ref m8, .ref m9, .ref m10, .ref m11, .ref m12, .ref m13, .ref m14, .ref m15, .ref m16, .ref m17, .ref m18, .ref m19, .ref m20, .int 0, .int 0, .int 0, .int 0, .long 0, .int 0]))] sz)) 0 0 (va_A [(h0, .inr (17, [.ref m0, .ref m1, .ref m2, .ref m3, .ref m4, .ref m5, .ref m6, .ref m7, .ref m8, .ref m9, .ref m10, .ref m11, .ref m12, .ref m13, .ref m14, .ref m15, .ref m16, .ref m17, .ref m18, .ref m19, .ref m20, .int 0, .int 0, .int 0, .int 0, .long 0, .int 0]))] sz) := by
  refine Met.ofW (cc := cX14_allFaults) (maxL := 2) (ret := (some .long)) (by decide) rfl ?_
  intro p e s m args below meth c s₁ B hml hv
  obtain ⟨rfl, hsz, hP, hK, hD0, hX, hY⟩ := hv
  have hx := B.exec
  have hb := B.bytes
  have hr := B.returns
  have hts0 := atoms_spec (ws := wz yX14_allFaults cX14_allFaults 2 (some .long)) B.pre
  have hts : ∀ w ∈ wAll, w.before _ s = true := fun w h => hts0 w (List.mem_cons_of_mem _ h)
  have hown : s.vm.findClass RX14 = some m.cls := findClass_of_methodNamed B.named
  have hlocks := B.notSynchronized
  subst hsz
  have hD := hD0.self (sz := s.heap.size)
  generalize hAe : va_A [(h0, .inr (17, [.ref m0, .ref m1, .ref m2, .ref m3, .ref m4, .ref m5, .ref m6, .ref m7, .ref m8, .ref m9, .ref m10, .ref m11, .ref m12, .ref m13, .ref m14, .ref m15, .ref m16, .ref m17, .ref m18, .ref m19, .ref m20, .int 0, .int 0, .int 0, .int 0, .long 0, .int 0]))] s.heap.size = A at hD hY ⊢
  have hA : ∀ q : Nat, s.heap.size ≤ q → A q := fun q h => by rw [← hAe]; exact Or.inr h
  have hS : va_S A s.heap s.heap [] := va_S.rf
  have hP : va_P D vwCl [(h0, .inr (17, [.ref m0, .ref m1, .ref m2, .ref m3, .ref m4, .ref m5, .ref m6, .ref m7, .ref m8, .ref m9, .ref m10, .ref m11, .ref m12, .ref m13, .ref m14, .ref m15, .ref m16, .ref m17, .ref m18, .ref m19, .ref m20, .int 0, .int 0, .int 0, .int 0, .long 0, .int 0]))] s.heap := hP
  have hl := lv_entry ([.ref h0, .int d]) (n := 2) (Nat.le_of_ble_eq_true rfl)
  rw [lg_entry_eq]
  generalize (lg_sl ([.ref h0, .int d]) ++ List.replicate (2 - (lg_sl ([.ref h0, .int d])).length) Slot.unset).toArray = ls at hl ⊢
  have hl : lv_has ls 2 [(0, .ref h0), (1, .int d)] := hl
  refine z_anyQ (fun Q hQe => ?_)
  refine lv_iload_n hx hb dX14_allFaults_0 rfl (lv_at hl 1 rfl) ?_
  refine zq_i (wc := []) (wr := [(h0, .inr (17, [.ref m0, .ref m1, .ref m2, .ref m3, .ref m4, .ref m5, .ref m6, .ref m7, .ref m8, .ref m9, .ref m10, .ref m11, .ref m12, .ref m13, .ref m14, .ref m15, .ref m16, .ref m17, .ref m18, .ref m19, .ref m20, .int 0, .int 0, .int 0, .int 0, .long 0, .int 0]))]) (va_runS (As := [.int d]) (rest := []) ⟨hx, hb, hml, hown, hts⟩ (k_isDay_no l D cy d s.heap.size hd) (va_cwS 1 hts (gzS (gz q365) q364 q366 q285) rfl rfl rfl vX14_isDay.2 ⟨Nat.le_of_ble_eq_true rfl, Nat.le_of_ble_eq_true rfl⟩) (zpS hK hX hY hP hD hS hA [] (by decide) rfl) rfl rfl hl.1 rfl (lv_room (Nat.le_of_ble_eq_true rfl)) dX14_allFaults_1 ⟨Nat.le_of_ble_eq_true rfl, Nat.le_of_ble_eq_true rfl⟩) hP hD hS hA [] [0] rfl rfl (by decide) (by decide) (fun x2 u1 H locs hw hP hD hS => ?_)
  obtain rfl : x2 = 0 := hw
  have hP : va_P D vwCl [(h0, .inr (17, [.ref m0, .ref m1, .ref m2, .ref m3, .ref m4, .ref m5, .ref m6, .ref m7, .ref m8, .ref m9, .ref m10, .ref m11, .ref m12, .ref m13, .ref m14, .ref m15, .ref m16, .ref m17, .ref m18, .ref m19, .ref m20, .int 0, .int 0, .int 0, .int 0, .long 0, .int 0]))] H := hP
  have hD : va_D A [(h0, .inr (17, [.ref m0, .ref m1, .ref m2, .ref m3, .ref m4, .ref m5, .ref m6, .ref m7, .ref m8, .ref m9, .ref m10, .ref m11, .ref m12, .ref m13, .ref m14, .ref m15, .ref m16, .ref m17, .ref m18, .ref m19, .ref m20, .int 0, .int 0, .int 0, .int 0, .long 0, .int 0]))] := hD
  refine lv_if_ne (tgt := 14) hx hb dX14_allFaults_4 (by decide) (fun c_4_2 => absurd (by decide +kernel) c_4_2) (fun _ => ?_)
  refine lv_aload_n hx hb dX14_allFaults_7 rfl (lv_at hl 0 rfl) ?_
  refine lv_iconst (v := 1) hx hb dX14_allFaults_8 (by decide) ?_
  refine zq_i (wc := [(h0, .inr (17, [.ref m0, .ref m1, .ref m2, .ref m3, .ref m4, .ref m5, .ref m6, .ref m7, .ref m8, .ref m9, .ref m10, .ref m11, .ref m12, .ref m13, .ref m14, .ref m15, .ref m16, .ref m17, .ref m18, .ref m19, .ref m20, .int 0, .int 0, .int 0, .int 0, .long 0, .int 0]))]) (wr := []) (va_runV (As := [.int 1]) (rest := []) ⟨hx, hb, hml, hown, hts⟩ (k_fails l D cy h0 m0 m1 m2 m3 m4 m5 m6 m7 m8 m9 m10 m11 m12 m13 m14 m15 m16 m17 m18 m19 m20 0 0 0 0 0 0 1 H.size ) (cwV 1 hts (gzV (gz q345) q344 q346 q347 q285) rfl rfl rfl vX14_fails ⟨Nat.le_of_ble_eq_true rfl, Nat.le_of_ble_eq_true rfl⟩) (zpV (ci := 17) (T := TX14) (N := 27) (q0 := 0) hK hX hY hP hD hS hA [0] (by decide) rfl rfl rfl) rfl rfl hl.1 rfl (lv_room (Nat.le_of_ble_eq_true rfl)) dX14_allFaults_9 ⟨Nat.le_of_ble_eq_true rfl, Nat.le_of_ble_eq_true rfl⟩) hP hD hS hA [0] [] rfl rfl (by decide) (by decide) (fun x5 u4 H locs hw hP hD hS => ?_)
  obtain rfl : x5 = 0 := hw
  have hP : va_P D vwCl [(h0, .inr (17, [.ref m0, .ref m1, .ref m2, .ref m3, .ref m4, .ref m5, .ref m6, .ref m7, .ref m8, .ref m9, .ref m10, .ref m11, .ref m12, .ref m13, .ref m14, .ref m15, .ref m16, .ref m17, .ref m18, .ref m19, .ref m20, .int 1, .int 0, .int 0, .int 0, .long 0, .int 0]))] H := hP
  have hD : va_D A [(h0, .inr (17, [.ref m0, .ref m1, .ref m2, .ref m3, .ref m4, .ref m5, .ref m6, .ref m7, .ref m8, .ref m9, .ref m10, .ref m11, .ref m12, .ref m13, .ref m14, .ref m15, .ref m16, .ref m17, .ref m18, .ref m19, .ref m20, .int 1, .int 0, .int 0, .int 0, .long 0, .int 0]))] := hD
  refine lv_i2l (v := 0) hx hb dX14_allFaults_12 (by decide) ?_
  have hP9 := hP.sub (ws' := [(h0, .inr (17, [.ref m0, .ref m1, .ref m2, .ref m3, .ref m4, .ref m5, .ref m6, .ref m7, .ref m8, .ref m9, .ref m10, .ref m11, .ref m12, .ref m13, .ref m14, .ref m15, .ref m16, .ref m17, .ref m18, .ref m19, .ref m20, .int 1, .int 0, .int 0, .int 0, .long 0, .int 0]))]) [0] rfl
  have hD9 := hD.sub (ws' := [(h0, .inr (17, [.ref m0, .ref m1, .ref m2, .ref m3, .ref m4, .ref m5, .ref m6, .ref m7, .ref m8, .ref m9, .ref m10, .ref m11, .ref m12, .ref m13, .ref m14, .ref m15, .ref m16, .ref m17, .ref m18, .ref m19, .ref m20, .int 1, .int 0, .int 0, .int 0, .long 0, .int 0]))]) [0] (by decide) rfl
  refine W.widen (k := 0) (n := 0) (Nat.le_of_ble_eq_true rfl) (Nat.le_of_ble_eq_true rfl) ?_
  rw [hQe]
  exact W.lret (v := 0) hx hb hr (fun t ht hW => ⟨⟨0, (), rfl, rfl, ⟨by rw [ht]; exact hP9, hD9⟩⟩, hS.F ht⟩) hS.2.2 dX14_allFaults_13
set_option maxHeartbeats 4000000 in
set_option maxRecDepth 100000 in
/-- reference: blunder of no day -/
theorem g_blunder_no (l : Launch) (D : va_G) (cy : Nat → ClassId) (h0 : Nat) (m0 : Nat) (m1 : Nat) (m2 : Nat) (m3 : Nat) (m4 : Nat) (m5 : Nat) (m6 : Nat) (m7 : Nat) (m8 : Nat) (m9 : Nat) (m10 : Nat) (m11 : Nat) (m12 : Nat) (m13 : Nat) (m14 : Nat) (m15 : Nat) (m16 : Nat) (m17 : Nat) (m18 : Nat) (m19 : Nat) (m20 : Nat) (d : Int32) (sz : Nat) (hd : zNoDay d) : Met l yX14_blunder (wz yX14_blunder cX14_blunder 8 (some .int)) ({ frames := 2, cells := 0, slots := 0, locals := 45 } : Room) (va_Pc [.ref h0, .int d] (zPre vwCl D cy [(h0, .inr (17, [.ref m0, .ref m1, .ref m2, .ref m3, .ref m4, .ref m5, .ref m6, .ref m7, .ref m8, .ref m9, .ref m10, .ref m11, .ref m12, .ref m13, .ref m14, .ref m15, .ref m16, .ref m17, .ref m18, .ref m19, .ref m20, .int 0, .int 0, .int 0, .int 0, .long 0, .int 0]))] sz)) (va_Qi (fun (r : Int32) (_ : Unit) => r = 0) (fun (u : Unit) t => zPost vwCl D (va_A [(h0, .inr (17, [.ref m0, .ref m1, .ref m2, .ref m3, .ref m4, .ref m5, .ref m6, .ref m7, .ref m8, .ref m9, .ref m10, .ref m11, .ref m12, .ref m13, .ref m14, .ref m15, .ref m16, .ref m17, .ref m18, .ref m19, .ref m20, .int 0, .int 0, .int 0, .int 0, .long 0, .int 0]))] sz) [(h0, .inr (17, [.ref m0, .ref m1, .ref m2, .ref m3, .ref m4, .ref m5, .ref m6, .ref m7, .ref m8, .ref m9, .ref m10, .ref m11, .ref m12, .ref m13, .ref m14, .ref m15, .ref m16, .ref m17, .ref m18, .ref m19, .ref m20, .int 1, .int 0, .int 0, .int 0, .long 0, .int 0]))] t) (va_A [(h0, .inr (17, [.ref m0, .ref m1, .ref m2, .ref m3, .ref m4, .ref m5, .ref m6, .ref m7, .ref m8, .ref m9, .ref m10, .ref m11, .ref m12, .ref m13, .ref m14, .ref m15, .ref m16, .ref m17, .ref m18, .ref m19, .ref m20, .int 0, .int 0, .int 0, .int 0, .long 0, .int 0]))] sz)) 0 0 (va_A [(h0, .inr (17, [.ref m0, .ref m1, .ref m2, .ref m3, .ref m4, .ref m5, .ref m6, .ref m7, .ref m8, .ref m9, .ref m10, .ref m11, .ref m12, .ref m13, .ref m14, .ref m15, .ref m16, .ref m17, .ref m18, .ref m19, .ref m20, .int 0, .int 0, .int 0, .int 0, .long 0, .int 0]))] sz) := by
  refine Met.ofW (cc := cX14_blunder) (maxL := 8) (ret := (some .int)) (by decide) rfl ?_
  intro p e s m args below meth c s₁ B hml hv
  obtain ⟨rfl, hsz, hP, hK, hD0, hX, hY⟩ := hv
  have hx := B.exec
  have hb := B.bytes
  have hr := B.returns
  have hts0 := atoms_spec (ws := wz yX14_blunder cX14_blunder 8 (some .int)) B.pre
  have hts : ∀ w ∈ wAll, w.before _ s = true := fun w h => hts0 w (List.mem_cons_of_mem _ h)
  have hown : s.vm.findClass RX14 = some m.cls := findClass_of_methodNamed B.named
  have hlocks := B.notSynchronized
  subst hsz
  have hD := hD0.self (sz := s.heap.size)
  generalize hAe : va_A [(h0, .inr (17, [.ref m0, .ref m1, .ref m2, .ref m3, .ref m4, .ref m5, .ref m6, .ref m7, .ref m8, .ref m9, .ref m10, .ref m11, .ref m12, .ref m13, .ref m14, .ref m15, .ref m16, .ref m17, .ref m18, .ref m19, .ref m20, .int 0, .int 0, .int 0, .int 0, .long 0, .int 0]))] s.heap.size = A at hD hY ⊢
  have hA : ∀ q : Nat, s.heap.size ≤ q → A q := fun q h => by rw [← hAe]; exact Or.inr h
  have hS : va_S A s.heap s.heap [] := va_S.rf
  have hP : va_P D vwCl [(h0, .inr (17, [.ref m0, .ref m1, .ref m2, .ref m3, .ref m4, .ref m5, .ref m6, .ref m7, .ref m8, .ref m9, .ref m10, .ref m11, .ref m12, .ref m13, .ref m14, .ref m15, .ref m16, .ref m17, .ref m18, .ref m19, .ref m20, .int 0, .int 0, .int 0, .int 0, .long 0, .int 0]))] s.heap := hP
  have hl := lv_entry ([.ref h0, .int d]) (n := 8) (Nat.le_of_ble_eq_true rfl)
  rw [lg_entry_eq]
  generalize (lg_sl ([.ref h0, .int d]) ++ List.replicate (8 - (lg_sl ([.ref h0, .int d])).length) Slot.unset).toArray = ls at hl ⊢
  have hl : lv_has ls 8 [(0, .ref h0), (1, .int d)] := hl
  refine z_anyQ (fun Q hQe => ?_)
  refine lv_iload_n hx hb dX14_blunder_0 rfl (lv_at hl 1 rfl) ?_
  refine zq_i (wc := []) (wr := [(h0, .inr (17, [.ref m0, .ref m1, .ref m2, .ref m3, .ref m4, .ref m5, .ref m6, .ref m7, .ref m8, .ref m9, .ref m10, .ref m11, .ref m12, .ref m13, .ref m14, .ref m15, .ref m16, .ref m17, .ref m18, .ref m19, .ref m20, .int 0, .int 0, .int 0, .int 0, .long 0, .int 0]))]) (va_runS (As := [.int d]) (rest := []) ⟨hx, hb, hml, hown, hts⟩ (k_isDay_no l D cy d s.heap.size hd) (va_cwS 1 hts (gzS (gz q365) q364 q366 q285) rfl rfl rfl vX14_isDay.2 ⟨Nat.le_of_ble_eq_true rfl, Nat.le_of_ble_eq_true rfl⟩) (zpS hK hX hY hP hD hS hA [] (by decide) rfl) rfl rfl hl.1 rfl (lv_room (Nat.le_of_ble_eq_true rfl)) dX14_blunder_1 ⟨Nat.le_of_ble_eq_true rfl, Nat.le_of_ble_eq_true rfl⟩) hP hD hS hA [] [0] rfl rfl (by decide) (by decide) (fun x2 u1 H locs hw hP hD hS => ?_)
  obtain rfl : x2 = 0 := hw
  have hP : va_P D vwCl [(h0, .inr (17, [.ref m0, .ref m1, .ref m2, .ref m3, .ref m4, .ref m5, .ref m6, .ref m7, .ref m8, .ref m9, .ref m10, .ref m11, .ref m12, .ref m13, .ref m14, .ref m15, .ref m16, .ref m17, .ref m18, .ref m19, .ref m20, .int 0, .int 0, .int 0, .int 0, .long 0, .int 0]))] H := hP
  have hD : va_D A [(h0, .inr (17, [.ref m0, .ref m1, .ref m2, .ref m3, .ref m4, .ref m5, .ref m6, .ref m7, .ref m8, .ref m9, .ref m10, .ref m11, .ref m12, .ref m13, .ref m14, .ref m15, .ref m16, .ref m17, .ref m18, .ref m19, .ref m20, .int 0, .int 0, .int 0, .int 0, .long 0, .int 0]))] := hD
  refine lv_if_ne (tgt := 13) hx hb dX14_blunder_4 (by decide) (fun c_4_2 => absurd (by decide +kernel) c_4_2) (fun _ => ?_)
  refine lv_aload_n hx hb dX14_blunder_7 rfl (lv_at hl 0 rfl) ?_
  refine lv_iconst (v := 1) hx hb dX14_blunder_8 (by decide) ?_
  refine zq_i (wc := [(h0, .inr (17, [.ref m0, .ref m1, .ref m2, .ref m3, .ref m4, .ref m5, .ref m6, .ref m7, .ref m8, .ref m9, .ref m10, .ref m11, .ref m12, .ref m13, .ref m14, .ref m15, .ref m16, .ref m17, .ref m18, .ref m19, .ref m20, .int 0, .int 0, .int 0, .int 0, .long 0, .int 0]))]) (wr := []) (va_runV (As := [.int 1]) (rest := []) ⟨hx, hb, hml, hown, hts⟩ (k_fails l D cy h0 m0 m1 m2 m3 m4 m5 m6 m7 m8 m9 m10 m11 m12 m13 m14 m15 m16 m17 m18 m19 m20 0 0 0 0 0 0 1 H.size ) (cwV 1 hts (gzV (gz q345) q344 q346 q347 q285) rfl rfl rfl vX14_fails ⟨Nat.le_of_ble_eq_true rfl, Nat.le_of_ble_eq_true rfl⟩) (zpV (ci := 17) (T := TX14) (N := 27) (q0 := 0) hK hX hY hP hD hS hA [0] (by decide) rfl rfl rfl) rfl rfl hl.1 rfl (lv_room (Nat.le_of_ble_eq_true rfl)) dX14_blunder_9 ⟨Nat.le_of_ble_eq_true rfl, Nat.le_of_ble_eq_true rfl⟩) hP hD hS hA [0] [] rfl rfl (by decide) (by decide) (fun x5 u4 H locs hw hP hD hS => ?_)
  obtain rfl : x5 = 0 := hw
  have hP : va_P D vwCl [(h0, .inr (17, [.ref m0, .ref m1, .ref m2, .ref m3, .ref m4, .ref m5, .ref m6, .ref m7, .ref m8, .ref m9, .ref m10, .ref m11, .ref m12, .ref m13, .ref m14, .ref m15, .ref m16, .ref m17, .ref m18, .ref m19, .ref m20, .int 1, .int 0, .int 0, .int 0, .long 0, .int 0]))] H := hP
  have hD : va_D A [(h0, .inr (17, [.ref m0, .ref m1, .ref m2, .ref m3, .ref m4, .ref m5, .ref m6, .ref m7, .ref m8, .ref m9, .ref m10, .ref m11, .ref m12, .ref m13, .ref m14, .ref m15, .ref m16, .ref m17, .ref m18, .ref m19, .ref m20, .int 1, .int 0, .int 0, .int 0, .long 0, .int 0]))] := hD
  have hP9 := hP.sub (ws' := [(h0, .inr (17, [.ref m0, .ref m1, .ref m2, .ref m3, .ref m4, .ref m5, .ref m6, .ref m7, .ref m8, .ref m9, .ref m10, .ref m11, .ref m12, .ref m13, .ref m14, .ref m15, .ref m16, .ref m17, .ref m18, .ref m19, .ref m20, .int 1, .int 0, .int 0, .int 0, .long 0, .int 0]))]) [0] rfl
  have hD9 := hD.sub (ws' := [(h0, .inr (17, [.ref m0, .ref m1, .ref m2, .ref m3, .ref m4, .ref m5, .ref m6, .ref m7, .ref m8, .ref m9, .ref m10, .ref m11, .ref m12, .ref m13, .ref m14, .ref m15, .ref m16, .ref m17, .ref m18, .ref m19, .ref m20, .int 1, .int 0, .int 0, .int 0, .long 0, .int 0]))]) [0] (by decide) rfl
  refine W.widen (k := 0) (n := 0) (Nat.le_of_ble_eq_true rfl) (Nat.le_of_ble_eq_true rfl) ?_
  rw [hQe]
  exact W.iret (v := 0) hx hb hr (fun t ht hW => ⟨⟨0, (), rfl, rfl, ⟨by rw [ht]; exact hP9, hD9⟩⟩, hS.F ht⟩) hS.2.2 dX14_blunder_12
set_option maxHeartbeats 4000000 in
set_option maxRecDepth 100000 in
/-- reference: length of no day -/
theorem g_length_no (l : Launch) (D : va_G) (cy : Nat → ClassId) (h0 : Nat) (m0 : Nat) (m1 : Nat) (m2 : Nat) (m3 : Nat) (m4 : Nat) (m5 : Nat) (m6 : Nat) (m7 : Nat) (m8 : Nat) (m9 : Nat) (m10 : Nat) (m11 : Nat) (m12 : Nat) (m13 : Nat) (m14 : Nat) (m15 : Nat) (m16 : Nat) (m17 : Nat) (m18 : Nat) (m19 : Nat) (m20 : Nat) (d : Int32) (sz : Nat) (hd : zNoDay d) : Met l yX14_length (wz yX14_length cX14_length 4 (some .int)) ({ frames := 2, cells := 0, slots := 0, locals := 45 } : Room) (va_Pc [.ref h0, .int d] (zPre vwCl D cy [(h0, .inr (17, [.ref m0, .ref m1, .ref m2, .ref m3, .ref m4, .ref m5, .ref m6, .ref m7, .ref m8, .ref m9, .ref m10, .ref m11, .ref m12, .ref m13, .ref m14, .ref m15, .ref m16, .ref m17, .ref m18, .ref m19, .ref m20, .int 0, .int 0, .int 0, .int 0, .long 0, .int 0]))] sz)) (va_Qi (fun (r : Int32) (_ : Unit) => r = 0) (fun (u : Unit) t => zPost vwCl D (va_A [(h0, .inr (17, [.ref m0, .ref m1, .ref m2, .ref m3, .ref m4, .ref m5, .ref m6, .ref m7, .ref m8, .ref m9, .ref m10, .ref m11, .ref m12, .ref m13, .ref m14, .ref m15, .ref m16, .ref m17, .ref m18, .ref m19, .ref m20, .int 0, .int 0, .int 0, .int 0, .long 0, .int 0]))] sz) [(h0, .inr (17, [.ref m0, .ref m1, .ref m2, .ref m3, .ref m4, .ref m5, .ref m6, .ref m7, .ref m8, .ref m9, .ref m10, .ref m11, .ref m12, .ref m13, .ref m14, .ref m15, .ref m16, .ref m17, .ref m18, .ref m19, .ref m20, .int 1, .int 0, .int 0, .int 0, .long 0, .int 0]))] t) (va_A [(h0, .inr (17, [.ref m0, .ref m1, .ref m2, .ref m3, .ref m4, .ref m5, .ref m6, .ref m7, .ref m8, .ref m9, .ref m10, .ref m11, .ref m12, .ref m13, .ref m14, .ref m15, .ref m16, .ref m17, .ref m18, .ref m19, .ref m20, .int 0, .int 0, .int 0, .int 0, .long 0, .int 0]))] sz)) 0 0 (va_A [(h0, .inr (17, [.ref m0, .ref m1, .ref m2, .ref m3, .ref m4, .ref m5, .ref m6, .ref m7, .ref m8, .ref m9, .ref m10, .ref m11, .ref m12, .ref m13, .ref m14, .ref m15, .ref m16, .ref m17, .ref m18, .ref m19, .ref m20, .int 0, .int 0, .int 0, .int 0, .long 0, .int 0]))] sz) := by
  refine Met.ofW (cc := cX14_length) (maxL := 4) (ret := (some .int)) (by decide) rfl ?_
  intro p e s m args below meth c s₁ B hml hv
  obtain ⟨rfl, hsz, hP, hK, hD0, hX, hY⟩ := hv
  have hx := B.exec
  have hb := B.bytes
  have hr := B.returns
  have hts0 := atoms_spec (ws := wz yX14_length cX14_length 4 (some .int)) B.pre
  have hts : ∀ w ∈ wAll, w.before _ s = true := fun w h => hts0 w (List.mem_cons_of_mem _ h)
  have hown : s.vm.findClass RX14 = some m.cls := findClass_of_methodNamed B.named
  have hlocks := B.notSynchronized
  subst hsz
  have hD := hD0.self (sz := s.heap.size)
  generalize hAe : va_A [(h0, .inr (17, [.ref m0, .ref m1, .ref m2, .ref m3, .ref m4, .ref m5, .ref m6, .ref m7, .ref m8, .ref m9, .ref m10, .ref m11, .ref m12, .ref m13, .ref m14, .ref m15, .ref m16, .ref m17, .ref m18, .ref m19, .ref m20, .int 0, .int 0, .int 0, .int 0, .long 0, .int 0]))] s.heap.size = A at hD hY ⊢
  have hA : ∀ q : Nat, s.heap.size ≤ q → A q := fun q h => by rw [← hAe]; exact Or.inr h
  have hS : va_S A s.heap s.heap [] := va_S.rf
  have hP : va_P D vwCl [(h0, .inr (17, [.ref m0, .ref m1, .ref m2, .ref m3, .ref m4, .ref m5, .ref m6, .ref m7, .ref m8, .ref m9, .ref m10, .ref m11, .ref m12, .ref m13, .ref m14, .ref m15, .ref m16, .ref m17, .ref m18, .ref m19, .ref m20, .int 0, .int 0, .int 0, .int 0, .long 0, .int 0]))] s.heap := hP
  have hl := lv_entry ([.ref h0, .int d]) (n := 4) (Nat.le_of_ble_eq_true rfl)
  rw [lg_entry_eq]
  generalize (lg_sl ([.ref h0, .int d]) ++ List.replicate (4 - (lg_sl ([.ref h0, .int d])).length) Slot.unset).toArray = ls at hl ⊢
  have hl : lv_has ls 4 [(0, .ref h0), (1, .int d)] := hl
  refine z_anyQ (fun Q hQe => ?_)
  refine lv_iload_n hx hb dX14_length_0 rfl (lv_at hl 1 rfl) ?_
  refine zq_i (wc := []) (wr := [(h0, .inr (17, [.ref m0, .ref m1, .ref m2, .ref m3, .ref m4, .ref m5, .ref m6, .ref m7, .ref m8, .ref m9, .ref m10, .ref m11, .ref m12, .ref m13, .ref m14, .ref m15, .ref m16, .ref m17, .ref m18, .ref m19, .ref m20, .int 0, .int 0, .int 0, .int 0, .long 0, .int 0]))]) (va_runS (As := [.int d]) (rest := []) ⟨hx, hb, hml, hown, hts⟩ (k_isDay_no l D cy d s.heap.size hd) (va_cwS 1 hts (gzS (gz q365) q364 q366 q285) rfl rfl rfl vX14_isDay.2 ⟨Nat.le_of_ble_eq_true rfl, Nat.le_of_ble_eq_true rfl⟩) (zpS hK hX hY hP hD hS hA [] (by decide) rfl) rfl rfl hl.1 rfl (lv_room (Nat.le_of_ble_eq_true rfl)) dX14_length_1 ⟨Nat.le_of_ble_eq_true rfl, Nat.le_of_ble_eq_true rfl⟩) hP hD hS hA [] [0] rfl rfl (by decide) (by decide) (fun x2 u1 H locs hw hP hD hS => ?_)
  obtain rfl : x2 = 0 := hw
  have hP : va_P D vwCl [(h0, .inr (17, [.ref m0, .ref m1, .ref m2, .ref m3, .ref m4, .ref m5, .ref m6, .ref m7, .ref m8, .ref m9, .ref m10, .ref m11, .ref m12, .ref m13, .ref m14, .ref m15, .ref m16, .ref m17, .ref m18, .ref m19, .ref m20, .int 0, .int 0, .int 0, .int 0, .long 0, .int 0]))] H := hP
  have hD : va_D A [(h0, .inr (17, [.ref m0, .ref m1, .ref m2, .ref m3, .ref m4, .ref m5, .ref m6, .ref m7, .ref m8, .ref m9, .ref m10, .ref m11, .ref m12, .ref m13, .ref m14, .ref m15, .ref m16, .ref m17, .ref m18, .ref m19, .ref m20, .int 0, .int 0, .int 0, .int 0, .long 0, .int 0]))] := hD
  refine lv_if_ne (tgt := 13) hx hb dX14_length_4 (by decide) (fun c_4_2 => absurd (by decide +kernel) c_4_2) (fun _ => ?_)
  refine lv_aload_n hx hb dX14_length_7 rfl (lv_at hl 0 rfl) ?_
  refine lv_iconst (v := 1) hx hb dX14_length_8 (by decide) ?_
  refine zq_i (wc := [(h0, .inr (17, [.ref m0, .ref m1, .ref m2, .ref m3, .ref m4, .ref m5, .ref m6, .ref m7, .ref m8, .ref m9, .ref m10, .ref m11, .ref m12, .ref m13, .ref m14, .ref m15, .ref m16, .ref m17, .ref m18, .ref m19, .ref m20, .int 0, .int 0, .int 0, .int 0, .long 0, .int 0]))]) (wr := []) (va_runV (As := [.int 1]) (rest := []) ⟨hx, hb, hml, hown, hts⟩ (k_fails l D cy h0 m0 m1 m2 m3 m4 m5 m6 m7 m8 m9 m10 m11 m12 m13 m14 m15 m16 m17 m18 m19 m20 0 0 0 0 0 0 1 H.size ) (cwV 1 hts (gzV (gz q345) q344 q346 q347 q285) rfl rfl rfl vX14_fails ⟨Nat.le_of_ble_eq_true rfl, Nat.le_of_ble_eq_true rfl⟩) (zpV (ci := 17) (T := TX14) (N := 27) (q0 := 0) hK hX hY hP hD hS hA [0] (by decide) rfl rfl rfl) rfl rfl hl.1 rfl (lv_room (Nat.le_of_ble_eq_true rfl)) dX14_length_9 ⟨Nat.le_of_ble_eq_true rfl, Nat.le_of_ble_eq_true rfl⟩) hP hD hS hA [0] [] rfl rfl (by decide) (by decide) (fun x5 u4 H locs hw hP hD hS => ?_)
  obtain rfl : x5 = 0 := hw
  have hP : va_P D vwCl [(h0, .inr (17, [.ref m0, .ref m1, .ref m2, .ref m3, .ref m4, .ref m5, .ref m6, .ref m7, .ref m8, .ref m9, .ref m10, .ref m11, .ref m12, .ref m13, .ref m14, .ref m15, .ref m16, .ref m17, .ref m18, .ref m19, .ref m20, .int 1, .int 0, .int 0, .int 0, .long 0, .int 0]))] H := hP
  have hD : va_D A [(h0, .inr (17, [.ref m0, .ref m1, .ref m2, .ref m3, .ref m4, .ref m5, .ref m6, .ref m7, .ref m8, .ref m9, .ref m10, .ref m11, .ref m12, .ref m13, .ref m14, .ref m15, .ref m16, .ref m17, .ref m18, .ref m19, .ref m20, .int 1, .int 0, .int 0, .int 0, .long 0, .int 0]))] := hD
  have hP9 := hP.sub (ws' := [(h0, .inr (17, [.ref m0, .ref m1, .ref m2, .ref m3, .ref m4, .ref m5, .ref m6, .ref m7, .ref m8, .ref m9, .ref m10, .ref m11, .ref m12, .ref m13, .ref m14, .ref m15, .ref m16, .ref m17, .ref m18, .ref m19, .ref m20, .int 1, .int 0, .int 0, .int 0, .long 0, .int 0]))]) [0] rfl
  have hD9 := hD.sub (ws' := [(h0, .inr (17, [.ref m0, .ref m1, .ref m2, .ref m3, .ref m4, .ref m5, .ref m6, .ref m7, .ref m8, .ref m9, .ref m10, .ref m11, .ref m12, .ref m13, .ref m14, .ref m15, .ref m16, .ref m17, .ref m18, .ref m19, .ref m20, .int 1, .int 0, .int 0, .int 0, .long 0, .int 0]))]) [0] (by decide) rfl
  refine W.widen (k := 0) (n := 0) (Nat.le_of_ble_eq_true rfl) (Nat.le_of_ble_eq_true rfl) ?_
  rw [hQe]
  exact W.iret (v := 0) hx hb hr (fun t ht hW => ⟨⟨0, (), rfl, rfl, ⟨by rw [ht]; exact hP9, hD9⟩⟩, hS.F ht⟩) hS.2.2 dX14_length_12
set_option maxHeartbeats 4000000 in
set_option maxRecDepth 100000 in
/-- reference: depth of no day -/
theorem g_depth_no (l : Launch) (D : va_G) (cy : Nat → ClassId) (h0 : Nat) (m0 : Nat) (m1 : Nat) (m2 : Nat) (m3 : Nat) (m4 : Nat) (m5 : Nat) (m6 : Nat) (m7 : Nat) (m8 : Nat) (m9 : Nat) (m10 : Nat) (m11 : Nat) (m12 : Nat) (m13 : Nat) (m14 : Nat) (m15 : Nat) (m16 : Nat) (m17 : Nat) (m18 : Nat) (m19 : Nat) (m20 : Nat) (d : Int32) (sz : Nat) (hd : zNoDay d) : Met l yX14_depth (wz yX14_depth cX14_depth 7 (some .long)) ({ frames := 2, cells := 0, slots := 0, locals := 45 } : Room) (va_Pc [.ref h0, .int d] (zPre vwCl D cy [(h0, .inr (17, [.ref m0, .ref m1, .ref m2, .ref m3, .ref m4, .ref m5, .ref m6, .ref m7, .ref m8, .ref m9, .ref m10, .ref m11, .ref m12, .ref m13, .ref m14, .ref m15, .ref m16, .ref m17, .ref m18, .ref m19, .ref m20, .int 0, .int 0, .int 0, .int 0, .long 0, .int 0]))] sz)) (va_Ql (fun (r : Int64) (_ : Unit) => r = 0) (fun (u : Unit) t => zPost vwCl D (va_A [(h0, .inr (17, [.ref m0, .ref m1, .ref m2, .ref m3, .ref m4, .ref m5, .ref m6, .ref m7, .ref m8, .ref m9, .ref m10, .ref m11, .ref m12, .ref m13, .ref m14, .ref m15, .ref m16, .ref m17, .ref m18, .ref m19, .ref m20, .int 0, .int 0, .int 0, .int 0, .long 0, .int 0]))] sz) [(h0, .inr (17, [.ref m0, .ref m1, .ref m2, .ref m3, .ref m4, .ref m5, .ref m6, .ref m7, .ref m8, .ref m9, .ref m10, .ref m11, .ref m12, .ref m13, .ref m14, .ref m15, .ref m16, .ref m17, .ref m18, .ref m19, .ref m20, .int 1, .int 0, .int 0, .int 0, .long 0, .int 0]))] t) (va_A [(h0, .inr (17, [.ref m0, .ref m1, .ref m2, .ref m3, .ref m4, .ref m5, .ref m6, .ref m7, .ref m8, .ref m9, .ref m10, .ref m11, .ref m12, .ref m13, .ref m14, .ref m15, .ref m16, .ref m17, .ref m18, .ref m19, .ref m20, .int 0, .int 0, .int 0, .int 0, .long 0, .int 0]))] sz)) 0 0 (va_A [(h0, .inr (17, [.ref m0, .ref m1, .ref m2, .ref m3, .ref m4, .ref m5, .ref m6, .ref m7, .ref m8, .ref m9, .ref m10, .ref m11, .ref m12, .ref m13, .ref m14, .ref m15, .ref m16, .ref m17, .ref m18, .ref m19, .ref m20, .int 0, .int 0, .int 0, .int 0, .long 0, .int 0]))] sz) := by
  refine Met.ofW (cc := cX14_depth) (maxL := 7) (ret := (some .long)) (by decide) rfl ?_
  intro p e s m args below meth c s₁ B hml hv
  obtain ⟨rfl, hsz, hP, hK, hD0, hX, hY⟩ := hv
  have hx := B.exec
  have hb := B.bytes
  have hr := B.returns
  have hts0 := atoms_spec (ws := wz yX14_depth cX14_depth 7 (some .long)) B.pre
  have hts : ∀ w ∈ wAll, w.before _ s = true := fun w h => hts0 w (List.mem_cons_of_mem _ h)
  have hown : s.vm.findClass RX14 = some m.cls := findClass_of_methodNamed B.named
  have hlocks := B.notSynchronized
  subst hsz
  have hD := hD0.self (sz := s.heap.size)
  generalize hAe : va_A [(h0, .inr (17, [.ref m0, .ref m1, .ref m2, .ref m3, .ref m4, .ref m5, .ref m6, .ref m7, .ref m8, .ref m9, .ref m10, .ref m11, .ref m12, .ref m13, .ref m14, .ref m15, .ref m16, .ref m17, .ref m18, .ref m19, .ref m20, .int 0, .int 0, .int 0, .int 0, .long 0, .int 0]))] s.heap.size = A at hD hY ⊢
  have hA : ∀ q : Nat, s.heap.size ≤ q → A q := fun q h => by rw [← hAe]; exact Or.inr h
  have hS : va_S A s.heap s.heap [] := va_S.rf
  have hP : va_P D vwCl [(h0, .inr (17, [.ref m0, .ref m1, .ref m2, .ref m3, .ref m4, .ref m5, .ref m6, .ref m7, .ref m8, .ref m9, .ref m10, .ref m11, .ref m12, .ref m13, .ref m14, .ref m15, .ref m16, .ref m17, .ref m18, .ref m19, .ref m20, .int 0, .int 0, .int 0, .int 0, .long 0, .int 0]))] s.heap := hP
  have hl := lv_entry ([.ref h0, .int d]) (n := 7) (Nat.le_of_ble_eq_true rfl)
  rw [lg_entry_eq]
  generalize (lg_sl ([.ref h0, .int d]) ++ List.replicate (7 - (lg_sl ([.ref h0, .int d])).length) Slot.unset).toArray = ls at hl ⊢
  have hl : lv_has ls 7 [(0, .ref h0), (1, .int d)] := hl
  refine z_anyQ (fun Q hQe => ?_)
  refine lv_iload_n hx hb dX14_depth_0 rfl (lv_at hl 1 rfl) ?_
  refine zq_i (wc := []) (wr := [(h0, .inr (17, [.ref m0, .ref m1, .ref m2, .ref m3, .ref m4, .ref m5, .ref m6, .ref m7, .ref m8, .ref m9, .ref m10, .ref m11, .ref m12, .ref m13, .ref m14, .ref m15, .ref m16, .ref m17, .ref m18, .ref m19, .ref m20, .int 0, .int 0, .int 0, .int 0, .long 0, .int 0]))]) (va_runS (As := [.int d]) (rest := []) ⟨hx, hb, hml, hown, hts⟩ (k_isDay_no l D cy d s.heap.size hd) (va_cwS 1 hts (gzS (gz q365) q364 q366 q285) rfl rfl rfl vX14_isDay.2 ⟨Nat.le_of_ble_eq_true rfl, Nat.le_of_ble_eq_true rfl⟩) (zpS hK hX hY hP hD hS hA [] (by decide) rfl) rfl rfl hl.1 rfl (lv_room (Nat.le_of_ble_eq_true rfl)) dX14_depth_1 ⟨Nat.le_of_ble_eq_true rfl, Nat.le_of_ble_eq_true rfl⟩) hP hD hS hA [] [0] rfl rfl (by decide) (by decide) (fun x2 u1 H locs hw hP hD hS => ?_)
  obtain rfl : x2 = 0 := hw
  have hP : va_P D vwCl [(h0, .inr (17, [.ref m0, .ref m1, .ref m2, .ref m3, .ref m4, .ref m5, .ref m6, .ref m7, .ref m8, .ref m9, .ref m10, .ref m11, .ref m12, .ref m13, .ref m14, .ref m15, .ref m16, .ref m17, .ref m18, .ref m19, .ref m20, .int 0, .int 0, .int 0, .int 0, .long 0, .int 0]))] H := hP
  have hD : va_D A [(h0, .inr (17, [.ref m0, .ref m1, .ref m2, .ref m3, .ref m4, .ref m5, .ref m6, .ref m7, .ref m8, .ref m9, .ref m10, .ref m11, .ref m12, .ref m13, .ref m14, .ref m15, .ref m16, .ref m17, .ref m18, .ref m19, .ref m20, .int 0, .int 0, .int 0, .int 0, .long 0, .int 0]))] := hD
  refine lv_if_ne (tgt := 14) hx hb dX14_depth_4 (by decide) (fun c_4_2 => absurd (by decide +kernel) c_4_2) (fun _ => ?_)
  refine lv_aload_n hx hb dX14_depth_7 rfl (lv_at hl 0 rfl) ?_
  refine lv_iconst (v := 1) hx hb dX14_depth_8 (by decide) ?_
  refine zq_i (wc := [(h0, .inr (17, [.ref m0, .ref m1, .ref m2, .ref m3, .ref m4, .ref m5, .ref m6, .ref m7, .ref m8, .ref m9, .ref m10, .ref m11, .ref m12, .ref m13, .ref m14, .ref m15, .ref m16, .ref m17, .ref m18, .ref m19, .ref m20, .int 0, .int 0, .int 0, .int 0, .long 0, .int 0]))]) (wr := []) (va_runV (As := [.int 1]) (rest := []) ⟨hx, hb, hml, hown, hts⟩ (k_fails l D cy h0 m0 m1 m2 m3 m4 m5 m6 m7 m8 m9 m10 m11 m12 m13 m14 m15 m16 m17 m18 m19 m20 0 0 0 0 0 0 1 H.size ) (cwV 1 hts (gzV (gz q345) q344 q346 q347 q285) rfl rfl rfl vX14_fails ⟨Nat.le_of_ble_eq_true rfl, Nat.le_of_ble_eq_true rfl⟩) (zpV (ci := 17) (T := TX14) (N := 27) (q0 := 0) hK hX hY hP hD hS hA [0] (by decide) rfl rfl rfl) rfl rfl hl.1 rfl (lv_room (Nat.le_of_ble_eq_true rfl)) dX14_depth_9 ⟨Nat.le_of_ble_eq_true rfl, Nat.le_of_ble_eq_true rfl⟩) hP hD hS hA [0] [] rfl rfl (by decide) (by decide) (fun x5 u4 H locs hw hP hD hS => ?_)
  obtain rfl : x5 = 0 := hw
  have hP : va_P D vwCl [(h0, .inr (17, [.ref m0, .ref m1, .ref m2, .ref m3, .ref m4, .ref m5, .ref m6, .ref m7, .ref m8, .ref m9, .ref m10, .ref m11, .ref m12, .ref m13, .ref m14, .ref m15, .ref m16, .ref m17, .ref m18, .ref m19, .ref m20, .int 1, .int 0, .int 0, .int 0, .long 0, .int 0]))] H := hP
  have hD : va_D A [(h0, .inr (17, [.ref m0, .ref m1, .ref m2, .ref m3, .ref m4, .ref m5, .ref m6, .ref m7, .ref m8, .ref m9, .ref m10, .ref m11, .ref m12, .ref m13, .ref m14, .ref m15, .ref m16, .ref m17, .ref m18, .ref m19, .ref m20, .int 1, .int 0, .int 0, .int 0, .long 0, .int 0]))] := hD
  refine lv_i2l (v := 0) hx hb dX14_depth_12 (by decide) ?_
  have hP9 := hP.sub (ws' := [(h0, .inr (17, [.ref m0, .ref m1, .ref m2, .ref m3, .ref m4, .ref m5, .ref m6, .ref m7, .ref m8, .ref m9, .ref m10, .ref m11, .ref m12, .ref m13, .ref m14, .ref m15, .ref m16, .ref m17, .ref m18, .ref m19, .ref m20, .int 1, .int 0, .int 0, .int 0, .long 0, .int 0]))]) [0] rfl
  have hD9 := hD.sub (ws' := [(h0, .inr (17, [.ref m0, .ref m1, .ref m2, .ref m3, .ref m4, .ref m5, .ref m6, .ref m7, .ref m8, .ref m9, .ref m10, .ref m11, .ref m12, .ref m13, .ref m14, .ref m15, .ref m16, .ref m17, .ref m18, .ref m19, .ref m20, .int 1, .int 0, .int 0, .int 0, .long 0, .int 0]))]) [0] (by decide) rfl
  refine W.widen (k := 0) (n := 0) (Nat.le_of_ble_eq_true rfl) (Nat.le_of_ble_eq_true rfl) ?_
  rw [hQe]
  exact W.lret (v := 0) hx hb hr (fun t ht hW => ⟨⟨0, (), rfl, rfl, ⟨by rw [ht]; exact hP9, hD9⟩⟩, hS.F ht⟩) hS.2.2 dX14_depth_13
set_option maxHeartbeats 4000000 in
set_option maxRecDepth 100000 in
/-- reference: hungShare of no day -/
theorem g_hungShare_no (l : Launch) (D : va_G) (cy : Nat → ClassId) (h0 : Nat) (m0 : Nat) (m1 : Nat) (m2 : Nat) (m3 : Nat) (m4 : Nat) (m5 : Nat) (m6 : Nat) (m7 : Nat) (m8 : Nat) (m9 : Nat) (m10 : Nat) (m11 : Nat) (m12 : Nat) (m13 : Nat) (m14 : Nat) (m15 : Nat) (m16 : Nat) (m17 : Nat) (m18 : Nat) (m19 : Nat) (m20 : Nat) (d : Int32) (sz : Nat) (hd : zNoDay d) : Met l yX14_hungShare (wz yX14_hungShare cX14_hungShare 4 (some .float)) ({ frames := 2, cells := 0, slots := 0, locals := 45 } : Room) (va_Pc [.ref h0, .int d] (zPre vwCl D cy [(h0, .inr (17, [.ref m0, .ref m1, .ref m2, .ref m3, .ref m4, .ref m5, .ref m6, .ref m7, .ref m8, .ref m9, .ref m10, .ref m11, .ref m12, .ref m13, .ref m14, .ref m15, .ref m16, .ref m17, .ref m18, .ref m19, .ref m20, .int 0, .int 0, .int 0, .int 0, .long 0, .int 0]))] sz)) (va_Qf (fun (r : UInt32) (_ : Unit) => r = FP.fconst0) (fun (u : Unit) t => zPost vwCl D (va_A [(h0, .inr (17, [.ref m0, .ref m1, .ref m2, .ref m3, .ref m4, .ref m5, .ref m6, .ref m7, .ref m8, .ref m9, .ref m10, .ref m11, .ref m12, .ref m13, .ref m14, .ref m15, .ref m16, .ref m17, .ref m18, .ref m19, .ref m20, .int 0, .int 0, .int 0, .int 0, .long 0, .int 0]))] sz) [(h0, .inr (17, [.ref m0, .ref m1, .ref m2, .ref m3, .ref m4, .ref m5, .ref m6, .ref m7, .ref m8, .ref m9, .ref m10, .ref m11, .ref m12, .ref m13, .ref m14, .ref m15, .ref m16, .ref m17, .ref m18, .ref m19, .ref m20, .int 1, .int 0, .int 0, .int 0, .long 0, .int 0]))] t) (va_A [(h0, .inr (17, [.ref m0, .ref m1, .ref m2, .ref m3, .ref m4, .ref m5, .ref m6, .ref m7, .ref m8, .ref m9, .ref m10, .ref m11, .ref m12, .ref m13, .ref m14, .ref m15, .ref m16, .ref m17, .ref m18, .ref m19, .ref m20, .int 0, .int 0, .int 0, .int 0, .long 0, .int 0]))] sz)) 0 0 (va_A [(h0, .inr (17, [.ref m0, .ref m1, .ref m2, .ref m3, .ref m4, .ref m5, .ref m6, .ref m7, .ref m8, .ref m9, .ref m10, .ref m11, .ref m12, .ref m13, .ref m14, .ref m15, .ref m16, .ref m17, .ref m18, .ref m19, .ref m20, .int 0, .int 0, .int 0, .int 0, .long 0, .int 0]))] sz) := by
  refine Met.ofW (cc := cX14_hungShare) (maxL := 4) (ret := (some .float)) (by decide) rfl ?_
  intro p e s m args below meth c s₁ B hml hv
  obtain ⟨rfl, hsz, hP, hK, hD0, hX, hY⟩ := hv
  have hx := B.exec
  have hb := B.bytes
  have hr := B.returns
  have hts0 := atoms_spec (ws := wz yX14_hungShare cX14_hungShare 4 (some .float)) B.pre
  have hts : ∀ w ∈ wAll, w.before _ s = true := fun w h => hts0 w (List.mem_cons_of_mem _ h)
  have hown : s.vm.findClass RX14 = some m.cls := findClass_of_methodNamed B.named
  have hlocks := B.notSynchronized
  subst hsz
  have hD := hD0.self (sz := s.heap.size)
  generalize hAe : va_A [(h0, .inr (17, [.ref m0, .ref m1, .ref m2, .ref m3, .ref m4, .ref m5, .ref m6, .ref m7, .ref m8, .ref m9, .ref m10, .ref m11, .ref m12, .ref m13, .ref m14, .ref m15, .ref m16, .ref m17, .ref m18, .ref m19, .ref m20, .int 0, .int 0, .int 0, .int 0, .long 0, .int 0]))] s.heap.size = A at hD hY ⊢
  have hA : ∀ q : Nat, s.heap.size ≤ q → A q := fun q h => by rw [← hAe]; exact Or.inr h
  have hS : va_S A s.heap s.heap [] := va_S.rf
  have hP : va_P D vwCl [(h0, .inr (17, [.ref m0, .ref m1, .ref m2, .ref m3, .ref m4, .ref m5, .ref m6, .ref m7, .ref m8, .ref m9, .ref m10, .ref m11, .ref m12, .ref m13, .ref m14, .ref m15, .ref m16, .ref m17, .ref m18, .ref m19, .ref m20, .int 0, .int 0, .int 0, .int 0, .long 0, .int 0]))] s.heap := hP
  have hl := lv_entry ([.ref h0, .int d]) (n := 4) (Nat.le_of_ble_eq_true rfl)
  rw [lg_entry_eq]
  generalize (lg_sl ([.ref h0, .int d]) ++ List.replicate (4 - (lg_sl ([.ref h0, .int d])).length) Slot.unset).toArray = ls at hl ⊢
  have hl : lv_has ls 4 [(0, .ref h0), (1, .int d)] := hl
  refine z_anyQ (fun Q hQe => ?_)
  refine lv_aload_n hx hb dX14_hungShare_0 rfl (lv_at hl 0 rfl) ?_
  refine lv_iload_n hx hb dX14_hungShare_1 rfl (lv_at hl 1 rfl) ?_
  refine zq_i (wc := []) (wr := [(h0, .inr (17, [.ref m0, .ref m1, .ref m2, .ref m3, .ref m4, .ref m5, .ref m6, .ref m7, .ref m8, .ref m9, .ref m10, .ref m11, .ref m12, .ref m13, .ref m14, .ref m15, .ref m16, .ref m17, .ref m18, .ref m19, .ref m20, .int 0, .int 0, .int 0, .int 0, .long 0, .int 0]))]) (va_runS (As := [.int d]) (rest := [.ref h0]) ⟨hx, hb, hml, hown, hts⟩ (k_isDay_no l D cy d s.heap.size hd) (va_cwS 1 hts (gzS (gz q365) q364 q366 q285) rfl rfl rfl vX14_isDay.2 ⟨Nat.le_of_ble_eq_true rfl, Nat.le_of_ble_eq_true rfl⟩) (zpS hK hX hY hP hD hS hA [] (by decide) rfl) rfl rfl hl.1 rfl (lv_room (Nat.le_of_ble_eq_true rfl)) dX14_hungShare_2 ⟨Nat.le_of_ble_eq_true rfl, Nat.le_of_ble_eq_true rfl⟩) hP hD hS hA [] [0] rfl rfl (by decide) (by decide) (fun x2 u1 H locs hw hP hD hS => ?_)
  obtain rfl : x2 = 0 := hw
  have hP : va_P D vwCl [(h0, .inr (17, [.ref m0, .ref m1, .ref m2, .ref m3, .ref m4, .ref m5, .ref m6, .ref m7, .ref m8, .ref m9, .ref m10, .ref m11, .ref m12, .ref m13, .ref m14, .ref m15, .ref m16, .ref m17, .ref m18, .ref m19, .ref m20, .int 0, .int 0, .int 0, .int 0, .long 0, .int 0]))] H := hP
  have hD : va_D A [(h0, .inr (17, [.ref m0, .ref m1, .ref m2, .ref m3, .ref m4, .ref m5, .ref m6, .ref m7, .ref m8, .ref m9, .ref m10, .ref m11, .ref m12, .ref m13, .ref m14, .ref m15, .ref m16, .ref m17, .ref m18, .ref m19, .ref m20, .int 0, .int 0, .int 0, .int 0, .long 0, .int 0]))] := hD
  refine lv_if_ne (tgt := 12) hx hb dX14_hungShare_5 (by decide) (fun c_5_2 => absurd (by decide +kernel) c_5_2) (fun _ => ?_)
  refine lv_iconst (v := 1) hx hb dX14_hungShare_8 (by decide) ?_
  refine lv_goto (tgt := 24) hx hb dX14_hungShare_9 (by decide) ?_
  refine va_put (D := D) (ci := 17) (v := .int 1) (ty := .int) (C := RX14) (T := TX14) (N := 27) hx hb hts iRX14 tyX14 tyX14_ok nmX14 hown hK hP hD hS 0 rfl rfl 21 (by decide) (hts _ q280) (fun _ h9 => h9) rfl (tyX14_ok 21 (by decide)) rfl rfl (Nat.le_of_ble_eq_true rfl) dX14_hungShare_24 (fun H locs hP hD hS => ?_)
  have hP : va_P D vwCl [(h0, .inr (17, [.ref m0, .ref m1, .ref m2, .ref m3, .ref m4, .ref m5, .ref m6, .ref m7, .ref m8, .ref m9, .ref m10, .ref m11, .ref m12, .ref m13, .ref m14, .ref m15, .ref m16, .ref m17, .ref m18, .ref m19, .ref m20, .int 1, .int 0, .int 0, .int 0, .long 0, .int 0]))] H := hP
  have hD : va_D A [(h0, .inr (17, [.ref m0, .ref m1, .ref m2, .ref m3, .ref m4, .ref m5, .ref m6, .ref m7, .ref m8, .ref m9, .ref m10, .ref m11, .ref m12, .ref m13, .ref m14, .ref m15, .ref m16, .ref m17, .ref m18, .ref m19, .ref m20, .int 1, .int 0, .int 0, .int 0, .long 0, .int 0]))] := hD
  refine lv_aload_n hx hb dX14_hungShare_27 rfl (lv_at hl 0 rfl) ?_
  refine va_get (D := D) (ci := 17) (v := .int 1) (C := RX14) (T := TX14) (N := 27) hx hb hts iRX14 hown hK hP 0 rfl rfl 21 (by decide) (hts _ q280) (fun _ h9 => h9) rfl dX14_hungShare_28 ?_
  refine lv_if_le (tgt := 36) hx hb dX14_hungShare_31 (by decide) (fun c_31_3 => absurd c_31_3 (by decide +kernel)) (fun _ => ?_)
  refine lv_fconst0 hx hb dX14_hungShare_34 ?_
  have hP9 := hP.sub (ws' := [(h0, .inr (17, [.ref m0, .ref m1, .ref m2, .ref m3, .ref m4, .ref m5, .ref m6, .ref m7, .ref m8, .ref m9, .ref m10, .ref m11, .ref m12, .ref m13, .ref m14, .ref m15, .ref m16, .ref m17, .ref m18, .ref m19, .ref m20, .int 1, .int 0, .int 0, .int 0, .long 0, .int 0]))]) [0] rfl
  have hD9 := hD.sub (ws' := [(h0, .inr (17, [.ref m0, .ref m1, .ref m2, .ref m3, .ref m4, .ref m5, .ref m6, .ref m7, .ref m8, .ref m9, .ref m10, .ref m11, .ref m12, .ref m13, .ref m14, .ref m15, .ref m16, .ref m17, .ref m18, .ref m19, .ref m20, .int 1, .int 0, .int 0, .int 0, .long 0, .int 0]))]) [0] (by decide) rfl
  refine W.widen (k := 0) (n := 0) (Nat.le_of_ble_eq_true rfl) (Nat.le_of_ble_eq_true rfl) ?_
  rw [hQe]
  exact W.fret (v := FP.fconst0) hx hb hr (fun t ht hW => ⟨⟨FP.fconst0, (), rfl, rfl, ⟨by rw [ht]; exact hP9, hD9⟩⟩, hS.F ht⟩) hS.2.2 dX14_hungShare_35
set_option maxHeartbeats 4000000 in
set_option maxRecDepth 100000 in
/-- reference: isSound of no day -/
theorem g_isSound_no (l : Launch) (D : va_G) (cy : Nat → ClassId) (h0 : Nat) (m0 : Nat) (m1 : Nat) (m2 : Nat) (m3 : Nat) (m4 : Nat) (m5 : Nat) (m6 : Nat) (m7 : Nat) (m8 : Nat) (m9 : Nat) (m10 : Nat) (m11 : Nat) (m12 : Nat) (m13 : Nat) (m14 : Nat) (m15 : Nat) (m16 : Nat) (m17 : Nat) (m18 : Nat) (m19 : Nat) (m20 : Nat) (d : Int32) (sz : Nat) (hd : zNoDay d) : Met l yX14_isSound (wz yX14_isSound cX14_isSound 2 (some .boolean)) ({ frames := 2, cells := 0, slots := 0, locals := 45 } : Room) (va_Pc [.ref h0, .int d] (zPre vwCl D cy [(h0, .inr (17, [.ref m0, .ref m1, .ref m2, .ref m3, .ref m4, .ref m5, .ref m6, .ref m7, .ref m8, .ref m9, .ref m10, .ref m11, .ref m12, .ref m13, .ref m14, .ref m15, .ref m16, .ref m17, .ref m18, .ref m19, .ref m20, .int 0, .int 0, .int 0, .int 0, .long 0, .int 0]))] sz)) (va_Qi (fun (r : Int32) (_ : Unit) => r = 0) (fun (u : Unit) t => zPost vwCl D (va_A [(h0, .inr (17, [.ref m0, .ref m1, .ref m2, .ref m3, .ref m4, .ref m5, .ref m6, .ref m7, .ref m8, .ref m9, .ref m10, .ref m11, .ref m12, .ref m13, .ref m14, .ref m15, .ref m16, .ref m17, .ref m18, .ref m19, .ref m20, .int 0, .int 0, .int 0, .int 0, .long 0, .int 0]))] sz) [(h0, .inr (17, [.ref m0, .ref m1, .ref m2, .ref m3, .ref m4, .ref m5, .ref m6, .ref m7, .ref m8, .ref m9, .ref m10, .ref m11, .ref m12, .ref m13, .ref m14, .ref m15, .ref m16, .ref m17, .ref m18, .ref m19, .ref m20, .int 1, .int 0, .int 0, .int 0, .long 0, .int 0]))] t) (va_A [(h0, .inr (17, [.ref m0, .ref m1, .ref m2, .ref m3, .ref m4, .ref m5, .ref m6, .ref m7, .ref m8, .ref m9, .ref m10, .ref m11, .ref m12, .ref m13, .ref m14, .ref m15, .ref m16, .ref m17, .ref m18, .ref m19, .ref m20, .int 0, .int 0, .int 0, .int 0, .long 0, .int 0]))] sz)) 0 0 (va_A [(h0, .inr (17, [.ref m0, .ref m1, .ref m2, .ref m3, .ref m4, .ref m5, .ref m6, .ref m7, .ref m8, .ref m9, .ref m10, .ref m11, .ref m12, .ref m13, .ref m14, .ref m15, .ref m16, .ref m17, .ref m18, .ref m19, .ref m20, .int 0, .int 0, .int 0, .int 0, .long 0, .int 0]))] sz) := by
  refine Met.ofW (cc := cX14_isSound) (maxL := 2) (ret := (some .boolean)) (by decide) rfl ?_
  intro p e s m args below meth c s₁ B hml hv
  obtain ⟨rfl, hsz, hP, hK, hD0, hX, hY⟩ := hv
  have hx := B.exec
  have hb := B.bytes
  have hr := B.returns
  have hts0 := atoms_spec (ws := wz yX14_isSound cX14_isSound 2 (some .boolean)) B.pre
  have hts : ∀ w ∈ wAll, w.before _ s = true := fun w h => hts0 w (List.mem_cons_of_mem _ h)
  have hown : s.vm.findClass RX14 = some m.cls := findClass_of_methodNamed B.named
  have hlocks := B.notSynchronized
  subst hsz
  have hD := hD0.self (sz := s.heap.size)
  generalize hAe : va_A [(h0, .inr (17, [.ref m0, .ref m1, .ref m2, .ref m3, .ref m4, .ref m5, .ref m6, .ref m7, .ref m8, .ref m9, .ref m10, .ref m11, .ref m12, .ref m13, .ref m14, .ref m15, .ref m16, .ref m17, .ref m18, .ref m19, .ref m20, .int 0, .int 0, .int 0, .int 0, .long 0, .int 0]))] s.heap.size = A at hD hY ⊢
  have hA : ∀ q : Nat, s.heap.size ≤ q → A q := fun q h => by rw [← hAe]; exact Or.inr h
  have hS : va_S A s.heap s.heap [] := va_S.rf
  have hP : va_P D vwCl [(h0, .inr (17, [.ref m0, .ref m1, .ref m2, .ref m3, .ref m4, .ref m5, .ref m6, .ref m7, .ref m8, .ref m9, .ref m10, .ref m11, .ref m12, .ref m13, .ref m14, .ref m15, .ref m16, .ref m17, .ref m18, .ref m19, .ref m20, .int 0, .int 0, .int 0, .int 0, .long 0, .int 0]))] s.heap := hP
  have hl := lv_entry ([.ref h0, .int d]) (n := 2) (Nat.le_of_ble_eq_true rfl)
  rw [lg_entry_eq]
  generalize (lg_sl ([.ref h0, .int d]) ++ List.replicate (2 - (lg_sl ([.ref h0, .int d])).length) Slot.unset).toArray = ls at hl ⊢
  have hl : lv_has ls 2 [(0, .ref h0), (1, .int d)] := hl
  refine z_anyQ (fun Q hQe => ?_)
  refine lv_iload_n hx hb dX14_isSound_0 rfl (lv_at hl 1 rfl) ?_
  refine zq_i (wc := []) (wr := [(h0, .inr (17, [.ref m0, .ref m1, .ref m2, .ref m3, .ref m4, .ref m5, .ref m6, .ref m7, .ref m8, .ref m9, .ref m10, .ref m11, .ref m12, .ref m13, .ref m14, .ref m15, .ref m16, .ref m17, .ref m18, .ref m19, .ref m20, .int 0, .int 0, .int 0, .int 0, .long 0, .int 0]))]) (va_runS (As := [.int d]) (rest := []) ⟨hx, hb, hml, hown, hts⟩ (k_isDay_no l D cy d s.heap.size hd) (va_cwS 1 hts (gzS (gz q365) q364 q366 q285) rfl rfl rfl vX14_isDay.2 ⟨Nat.le_of_ble_eq_true rfl, Nat.le_of_ble_eq_true rfl⟩) (zpS hK hX hY hP hD hS hA [] (by decide) rfl) rfl rfl hl.1 rfl (lv_room (Nat.le_of_ble_eq_true rfl)) dX14_isSound_1 ⟨Nat.le_of_ble_eq_true rfl, Nat.le_of_ble_eq_true rfl⟩) hP hD hS hA [] [0] rfl rfl (by decide) (by decide) (fun x2 u1 H locs hw hP hD hS => ?_)
  obtain rfl : x2 = 0 := hw
  have hP : va_P D vwCl [(h0, .inr (17, [.ref m0, .ref m1, .ref m2, .ref m3, .ref m4, .ref m5, .ref m6, .ref m7, .ref m8, .ref m9, .ref m10, .ref m11, .ref m12, .ref m13, .ref m14, .ref m15, .ref m16, .ref m17, .ref m18, .ref m19, .ref m20, .int 0, .int 0, .int 0, .int 0, .long 0, .int 0]))] H := hP
  have hD : va_D A [(h0, .inr (17, [.ref m0, .ref m1, .ref m2, .ref m3, .ref m4, .ref m5, .ref m6, .ref m7, .ref m8, .ref m9, .ref m10, .ref m11, .ref m12, .ref m13, .ref m14, .ref m15, .ref m16, .ref m17, .ref m18, .ref m19, .ref m20, .int 0, .int 0, .int 0, .int 0, .long 0, .int 0]))] := hD
  refine lv_if_eq (tgt := 15) hx hb dX14_isSound_4 (by decide) (fun _ => ?_) (fun c_4_2 => absurd (by decide +kernel) c_4_2)
  refine lv_aload_n hx hb dX14_isSound_15 rfl (lv_at hl 0 rfl) ?_
  refine lv_iconst (v := 1) hx hb dX14_isSound_16 (by decide) ?_
  refine zq_i (wc := [(h0, .inr (17, [.ref m0, .ref m1, .ref m2, .ref m3, .ref m4, .ref m5, .ref m6, .ref m7, .ref m8, .ref m9, .ref m10, .ref m11, .ref m12, .ref m13, .ref m14, .ref m15, .ref m16, .ref m17, .ref m18, .ref m19, .ref m20, .int 0, .int 0, .int 0, .int 0, .long 0, .int 0]))]) (wr := []) (va_runV (As := [.int 1]) (rest := []) ⟨hx, hb, hml, hown, hts⟩ (k_refuses l D cy h0 m0 m1 m2 m3 m4 m5 m6 m7 m8 m9 m10 m11 m12 m13 m14 m15 m16 m17 m18 m19 m20 0 0 0 0 0 0 1 H.size ) (cwV 1 hts (gzV (gz q349) q348 q350 q351 q285) rfl rfl rfl vX14_refuses ⟨Nat.le_of_ble_eq_true rfl, Nat.le_of_ble_eq_true rfl⟩) (zpV (ci := 17) (T := TX14) (N := 27) (q0 := 0) hK hX hY hP hD hS hA [0] (by decide) rfl rfl rfl) rfl rfl hl.1 rfl (lv_room (Nat.le_of_ble_eq_true rfl)) dX14_isSound_17 ⟨Nat.le_of_ble_eq_true rfl, Nat.le_of_ble_eq_true rfl⟩) hP hD hS hA [0] [] rfl rfl (by decide) (by decide) (fun x5 u4 H locs hw hP hD hS => ?_)
  obtain rfl : x5 = 0 := hw
  have hP : va_P D vwCl [(h0, .inr (17, [.ref m0, .ref m1, .ref m2, .ref m3, .ref m4, .ref m5, .ref m6, .ref m7, .ref m8, .ref m9, .ref m10, .ref m11, .ref m12, .ref m13, .ref m14, .ref m15, .ref m16, .ref m17, .ref m18, .ref m19, .ref m20, .int 1, .int 0, .int 0, .int 0, .long 0, .int 0]))] H := hP
  have hD : va_D A [(h0, .inr (17, [.ref m0, .ref m1, .ref m2, .ref m3, .ref m4, .ref m5, .ref m6, .ref m7, .ref m8, .ref m9, .ref m10, .ref m11, .ref m12, .ref m13, .ref m14, .ref m15, .ref m16, .ref m17, .ref m18, .ref m19, .ref m20, .int 1, .int 0, .int 0, .int 0, .long 0, .int 0]))] := hD
  have hP9 := hP.sub (ws' := [(h0, .inr (17, [.ref m0, .ref m1, .ref m2, .ref m3, .ref m4, .ref m5, .ref m6, .ref m7, .ref m8, .ref m9, .ref m10, .ref m11, .ref m12, .ref m13, .ref m14, .ref m15, .ref m16, .ref m17, .ref m18, .ref m19, .ref m20, .int 1, .int 0, .int 0, .int 0, .long 0, .int 0]))]) [0] rfl
  have hD9 := hD.sub (ws' := [(h0, .inr (17, [.ref m0, .ref m1, .ref m2, .ref m3, .ref m4, .ref m5, .ref m6, .ref m7, .ref m8, .ref m9, .ref m10, .ref m11, .ref m12, .ref m13, .ref m14, .ref m15, .ref m16, .ref m17, .ref m18, .ref m19, .ref m20, .int 1, .int 0, .int 0, .int 0, .long 0, .int 0]))]) [0] (by decide) rfl
  refine W.widen (k := 0) (n := 0) (Nat.le_of_ble_eq_true rfl) (Nat.le_of_ble_eq_true rfl) ?_
  rw [hQe]
  exact W.zret (v := 0) hx hb hr rfl (fun t ht hW => ⟨⟨0, (), rfl, rfl, ⟨by rw [ht]; exact hP9, hD9⟩⟩, hS.F ht⟩) hS.2.2 dX14_isSound_20
set_option maxHeartbeats 4000000 in
set_option maxRecDepth 100000 in
/-- reference: loops of a day -/
theorem g_loops_in (l : Launch) (D : va_G) (cy : Nat → ClassId) (h0 : Nat) (m0 : Nat) (m1 : Nat) (m2 : Nat) (m3 : Nat) (m4 : Nat) (m5 : Nat) (m6 : Nat) (m7 : Nat) (m8 : Nat) (m9 : Nat) (m10 : Nat) (m11 : Nat) (m12 : Nat) (m13 : Nat) (m14 : Nat) (m15 : Nat) (m16 : Nat) (m17 : Nat) (m18 : Nat) (m19 : Nat) (m20 : Nat) (b1 : Nat) (d : Int32) (sz : Nat) (hd : zDay d) : Met l yX14_loops (wz yX14_loops cX14_loops 2 (some .int)) ({ frames := 2, cells := 0, slots := 0, locals := 53 } : Room) (va_Pc [.ref h0, .int d] (zPre vwCl D cy [(h0, .inr (17, [.ref m0, .ref m1, .ref m2, .ref m3, .ref m4, .ref m5, .ref m6, .ref m7, .ref m8, .ref m9, .ref m10, .ref m11, .ref m12, .ref m13, .ref m14, .ref m15, .ref m16, .ref m17, .ref m18, .ref m19, .ref m20, .int 0, .int 0, .int 0, .int 0, .long 0, .int 0])), (m0, .inr (2, [.int 0, .ref b1, .int 0])), (m9, .inl (cy 0, 9, .inl (fun _ => 0))), (m12, .inl (cy 2, 9, .inl (fun _ => 0))), (m10, .inl (cy 0, 9, .inl (fun _ => 0)))] sz)) (va_Qi (fun (r : Int32) (_ : Unit) => r = 0) (fun (u : Unit) t => zPost vwCl D (va_A [(h0, .inr (17, [.ref m0, .ref m1, .ref m2, .ref m3, .ref m4, .ref m5, .ref m6, .ref m7, .ref m8, .ref m9, .ref m10, .ref m11, .ref m12, .ref m13, .ref m14, .ref m15, .ref m16, .ref m17, .ref m18, .ref m19, .ref m20, .int 0, .int 0, .int 0, .int 0, .long 0, .int 0])), (m0, .inr (2, [.int 0, .ref b1, .int 0])), (m9, .inl (cy 0, 9, .inl (fun _ => 0))), (m12, .inl (cy 2, 9, .inl (fun _ => 0))), (m10, .inl (cy 0, 9, .inl (fun _ => 0)))] sz) [(h0, .inr (17, [.ref m0, .ref m1, .ref m2, .ref m3, .ref m4, .ref m5, .ref m6, .ref m7, .ref m8, .ref m9, .ref m10, .ref m11, .ref m12, .ref m13, .ref m14, .ref m15, .ref m16, .ref m17, .ref m18, .ref m19, .ref m20, .int 0, .int 0, .int 0, .int 0, .long 0, .int 0]))] t) (va_A [(h0, .inr (17, [.ref m0, .ref m1, .ref m2, .ref m3, .ref m4, .ref m5, .ref m6, .ref m7, .ref m8, .ref m9, .ref m10, .ref m11, .ref m12, .ref m13, .ref m14, .ref m15, .ref m16, .ref m17, .ref m18, .ref m19, .ref m20, .int 0, .int 0, .int 0, .int 0, .long 0, .int 0])), (m0, .inr (2, [.int 0, .ref b1, .int 0])), (m9, .inl (cy 0, 9, .inl (fun _ => 0))), (m12, .inl (cy 2, 9, .inl (fun _ => 0))), (m10, .inl (cy 0, 9, .inl (fun _ => 0)))] sz)) 0 0 (va_A [(h0, .inr (17, [.ref m0, .ref m1, .ref m2, .ref m3, .ref m4, .ref m5, .ref m6, .ref m7, .ref m8, .ref m9, .ref m10, .ref m11, .ref m12, .ref m13, .ref m14, .ref m15, .ref m16, .ref m17, .ref m18, .ref m19, .ref m20, .int 0, .int 0, .int 0, .int 0, .long 0, .int 0])), (m0, .inr (2, [.int 0, .ref b1, .int 0])), (m9, .inl (cy 0, 9, .inl (fun _ => 0))), (m12, .inl (cy 2, 9, .inl (fun _ => 0))), (m10, .inl (cy 0, 9, .inl (fun _ => 0)))] sz) := by
  refine Met.ofW (cc := cX14_loops) (maxL := 2) (ret := (some .int)) (by decide) rfl ?_
  intro p e s m args below meth c s₁ B hml hv
  obtain ⟨rfl, hsz, hP, hK, hD0, hX, hY⟩ := hv
  have hx := B.exec
  have hb := B.bytes
  have hr := B.returns
  have hts0 := atoms_spec (ws := wz yX14_loops cX14_loops 2 (some .int)) B.pre
  have hts : ∀ w ∈ wAll, w.before _ s = true := fun w h => hts0 w (List.mem_cons_of_mem _ h)
  have hown : s.vm.findClass RX14 = some m.cls := findClass_of_methodNamed B.named
  have hlocks := B.notSynchronized
  subst hsz
  have hD := hD0.self (sz := s.heap.size)
  generalize hAe : va_A [(h0, .inr (17, [.ref m0, .ref m1, .ref m2, .ref m3, .ref m4, .ref m5, .ref m6, .ref m7, .ref m8, .ref m9, .ref m10, .ref m11, .ref m12, .ref m13, .ref m14, .ref m15, .ref m16, .ref m17, .ref m18, .ref m19, .ref m20, .int 0, .int 0, .int 0, .int 0, .long 0, .int 0])), (m0, .inr (2, [.int 0, .ref b1, .int 0])), (m9, .inl (cy 0, 9, .inl (fun _ => 0))), (m12, .inl (cy 2, 9, .inl (fun _ => 0))), (m10, .inl (cy 0, 9, .inl (fun _ => 0)))] s.heap.size = A at hD hY ⊢
  have hA : ∀ q : Nat, s.heap.size ≤ q → A q := fun q h => by rw [← hAe]; exact Or.inr h
  have hS : va_S A s.heap s.heap [] := va_S.rf
  have hP : va_P D vwCl [(h0, .inr (17, [.ref m0, .ref m1, .ref m2, .ref m3, .ref m4, .ref m5, .ref m6, .ref m7, .ref m8, .ref m9, .ref m10, .ref m11, .ref m12, .ref m13, .ref m14, .ref m15, .ref m16, .ref m17, .ref m18, .ref m19, .ref m20, .int 0, .int 0, .int 0, .int 0, .long 0, .int 0])), (m0, .inr (2, [.int 0, .ref b1, .int 0])), (m9, .inl (cy 0, 9, .inl (fun _ => 0))), (m12, .inl (cy 2, 9, .inl (fun _ => 0))), (m10, .inl (cy 0, 9, .inl (fun _ => 0)))] s.heap := hP
  have hl := lv_entry ([.ref h0, .int d]) (n := 2) (Nat.le_of_ble_eq_true rfl)
  rw [lg_entry_eq]
  generalize (lg_sl ([.ref h0, .int d]) ++ List.replicate (2 - (lg_sl ([.ref h0, .int d])).length) Slot.unset).toArray = ls at hl ⊢
  have hl : lv_has ls 2 [(0, .ref h0), (1, .int d)] := hl
  refine z_anyQ (fun Q hQe => ?_)
  refine lv_iload_n hx hb dX14_loops_0 rfl (lv_at hl 1 rfl) ?_
  refine zq_i (wc := []) (wr := [(h0, .inr (17, [.ref m0, .ref m1, .ref m2, .ref m3, .ref m4, .ref m5, .ref m6, .ref m7, .ref m8, .ref m9, .ref m10, .ref m11, .ref m12, .ref m13, .ref m14, .ref m15, .ref m16, .ref m17, .ref m18, .ref m19, .ref m20, .int 0, .int 0, .int 0, .int 0, .long 0, .int 0])), (m0, .inr (2, [.int 0, .ref b1, .int 0])), (m9, .inl (cy 0, 9, .inl (fun _ => 0))), (m12, .inl (cy 2, 9, .inl (fun _ => 0))), (m10, .inl (cy 0, 9, .inl (fun _ => 0)))]) (va_runS (As := [.int d]) (rest := []) ⟨hx, hb, hml, hown, hts⟩ (k_isDay_ok l D cy d s.heap.size hd) (va_cwS 1 hts (gzS (gz q365) q364 q366 q285) rfl rfl rfl vX14_isDay.2 ⟨Nat.le_of_ble_eq_true rfl, Nat.le_of_ble_eq_true rfl⟩) (zpS hK hX hY hP hD hS hA [] (by decide) rfl) rfl rfl hl.1 rfl (lv_room (Nat.le_of_ble_eq_true rfl)) dX14_loops_1 ⟨Nat.le_of_ble_eq_true rfl, Nat.le_of_ble_eq_true rfl⟩) hP hD hS hA [] [0, 1, 2, 3, 4] rfl rfl (by decide) (by decide) (fun x2 u1 H locs hw hP hD hS => ?_)
  obtain rfl : x2 = 1 := hw
  have hP : va_P D vwCl [(h0, .inr (17, [.ref m0, .ref m1, .ref m2, .ref m3, .ref m4, .ref m5, .ref m6, .ref m7, .ref m8, .ref m9, .ref m10, .ref m11, .ref m12, .ref m13, .ref m14, .ref m15, .ref m16, .ref m17, .ref m18, .ref m19, .ref m20, .int 0, .int 0, .int 0, .int 0, .long 0, .int 0])), (m0, .inr (2, [.int 0, .ref b1, .int 0])), (m9, .inl (cy 0, 9, .inl (fun _ => 0))), (m12, .inl (cy 2, 9, .inl (fun _ => 0))), (m10, .inl (cy 0, 9, .inl (fun _ => 0)))] H := hP
  have hD : va_D A [(h0, .inr (17, [.ref m0, .ref m1, .ref m2, .ref m3, .ref m4, .ref m5, .ref m6, .ref m7, .ref m8, .ref m9, .ref m10, .ref m11, .ref m12, .ref m13, .ref m14, .ref m15, .ref m16, .ref m17, .ref m18, .ref m19, .ref m20, .int 0, .int 0, .int 0, .int 0, .long 0, .int 0])), (m0, .inr (2, [.int 0, .ref b1, .int 0])), (m9, .inl (cy 0, 9, .inl (fun _ => 0))), (m12, .inl (cy 2, 9, .inl (fun _ => 0))), (m10, .inl (cy 0, 9, .inl (fun _ => 0)))] := hD
  refine lv_if_ne (tgt := 13) hx hb dX14_loops_4 (by decide) (fun _ => ?_) (fun c_4_2 => absurd c_4_2 (by decide +kernel))
  refine lv_aload_n hx hb dX14_loops_13 rfl (lv_at hl 0 rfl) ?_
  refine lv_iload_n hx hb dX14_loops_14 rfl (lv_at hl 1 rfl) ?_
  refine lv_iconst (v := (-1)) hx hb dX14_loops_15 (by decide) ?_
  refine zq_v (wc := [(h0, .inr (17, [.ref m0, .ref m1, .ref m2, .ref m3, .ref m4, .ref m5, .ref m6, .ref m7, .ref m8, .ref m9, .ref m10, .ref m11, .ref m12, .ref m13, .ref m14, .ref m15, .ref m16, .ref m17, .ref m18, .ref m19, .ref m20, .int 0, .int 0, .int 0, .int 0, .long 0, .int 0])), (m0, .inr (2, [.int 0, .ref b1, .int 0])), (m9, .inl (cy 0, 9, .inl (fun _ => 0))), (m12, .inl (cy 2, 9, .inl (fun _ => 0))), (m10, .inl (cy 0, 9, .inl (fun _ => 0)))]) (wr := []) (va_runV (As := [.int d, .int (-1)]) (rest := []) ⟨hx, hb, hml, hown, hts⟩ (k_m_hangs l D cy h0 m0 m1 m2 m3 m4 m5 m6 m7 m8 m9 m10 m11 m12 m13 m14 m15 m16 m17 m18 m19 m20 b1 d (-1) (fun _ => 0) (fun _ => 0) (fun _ => 0) H.size ) (cwV 2 hts (gzV (gz q298) q297 q299 q300 q285) rfl rfl rfl vX14_hangs ⟨Nat.le_of_ble_eq_true rfl, Nat.le_of_ble_eq_true rfl⟩) (zpV (ci := 17) (T := TX14) (N := 27) (q0 := 0) hK hX hY hP hD hS hA [0, 1, 2, 3, 4] (by decide) rfl rfl rfl) rfl rfl hl.1 rfl (lv_room (Nat.le_of_ble_eq_true rfl)) dX14_loops_16 ⟨Nat.le_of_ble_eq_true rfl, Nat.le_of_ble_eq_true rfl⟩) hP hD hS hA [0, 1, 2, 3, 4] [] rfl rfl (by decide) (by decide) (fun u4 H locs hw hP hD hS => ?_)
  have hP : va_P D vwCl [(h0, .inr (17, [.ref m0, .ref m1, .ref m2, .ref m3, .ref m4, .ref m5, .ref m6, .ref m7, .ref m8, .ref m9, .ref m10, .ref m11, .ref m12, .ref m13, .ref m14, .ref m15, .ref m16, .ref m17, .ref m18, .ref m19, .ref m20, .int 0, .int 0, .int 0, .int 0, .long 0, .int 0])), (m0, .inr (2, [.int 0, .ref b1, .int 0])), (m9, .inl (cy 0, 9, .inl (fun j => nI j))), (m12, .inl (cy 2, 9, .inl (fun _ => 0))), (m10, .inl (cy 0, 9, .inl (fun _ => (-1))))] H := hP
  have hD : va_D A [(h0, .inr (17, [.ref m0, .ref m1, .ref m2, .ref m3, .ref m4, .ref m5, .ref m6, .ref m7, .ref m8, .ref m9, .ref m10, .ref m11, .ref m12, .ref m13, .ref m14, .ref m15, .ref m16, .ref m17, .ref m18, .ref m19, .ref m20, .int 0, .int 0, .int 0, .int 0, .long 0, .int 0])), (m0, .inr (2, [.int 0, .ref b1, .int 0])), (m9, .inl (cy 0, 9, .inl (fun j => nI j))), (m12, .inl (cy 2, 9, .inl (fun _ => 0))), (m10, .inl (cy 0, 9, .inl (fun _ => (-1))))] := hD
  refine lv_aload_n hx hb dX14_loops_19 rfl (lv_at hl 0 rfl) ?_
  refine lv_aload_n hx hb dX14_loops_20 rfl (lv_at hl 0 rfl) ?_
  refine zq_i (wc := [(h0, .inr (17, [.ref m0, .ref m1, .ref m2, .ref m3, .ref m4, .ref m5, .ref m6, .ref m7, .ref m8, .ref m9, .ref m10, .ref m11, .ref m12, .ref m13, .ref m14, .ref m15, .ref m16, .ref m17, .ref m18, .ref m19, .ref m20, .int 0, .int 0, .int 0, .int 0, .long 0, .int 0])), (m0, .inr (2, [.int 0, .ref b1, .int 0]))]) (wr := [(m9, .inl (cy 0, 9, .inl (fun j => nI j))), (m12, .inl (cy 2, 9, .inl (fun _ => 0))), (m10, .inl (cy 0, 9, .inl (fun _ => (-1))))]) (va_runV (As := []) (rest := [.ref h0]) ⟨hx, hb, hml, hown, hts⟩ (k_m_used l D cy h0 m0 m1 m2 m3 m4 m5 m6 m7 m8 m9 m10 m11 m12 m13 m14 m15 m16 m17 m18 m19 m20 b1 H.size ) (cwV 0 hts (gzV (gz q368) q367 q369 q370 q285) rfl rfl rfl vX14_used ⟨Nat.le_of_ble_eq_true rfl, Nat.le_of_ble_eq_true rfl⟩) (zpV (ci := 17) (T := TX14) (N := 27) (q0 := 0) hK hX hY hP hD hS hA [0, 1] (by decide) rfl rfl rfl) rfl rfl hl.1 rfl (lv_room (Nat.le_of_ble_eq_true rfl)) dX14_loops_21 ⟨Nat.le_of_ble_eq_true rfl, Nat.le_of_ble_eq_true rfl⟩) hP hD hS hA [0, 1] [2, 3, 4] rfl rfl (by decide) (by decide) (fun x7 u6 H locs hw hP hD hS => ?_)
  obtain rfl : x7 = 0 := hw
  have hP : va_P D vwCl [(m9, .inl (cy 0, 9, .inl (fun j => nI j))), (m12, .inl (cy 2, 9, .inl (fun _ => 0))), (m10, .inl (cy 0, 9, .inl (fun _ => (-1)))), (h0, .inr (17, [.ref m0, .ref m1, .ref m2, .ref m3, .ref m4, .ref m5, .ref m6, .ref m7, .ref m8, .ref m9, .ref m10, .ref m11, .ref m12, .ref m13, .ref m14, .ref m15, .ref m16, .ref m17, .ref m18, .ref m19, .ref m20, .int 0, .int 0, .int 0, .int 0, .long 0, .int 0])), (m0, .inr (2, [.int 0, .ref b1, .int 0]))] H := hP
  have hD : va_D A [(m9, .inl (cy 0, 9, .inl (fun j => nI j))), (m12, .inl (cy 2, 9, .inl (fun _ => 0))), (m10, .inl (cy 0, 9, .inl (fun _ => (-1)))), (h0, .inr (17, [.ref m0, .ref m1, .ref m2, .ref m3, .ref m4, .ref m5, .ref m6, .ref m7, .ref m8, .ref m9, .ref m10, .ref m11, .ref m12, .ref m13, .ref m14, .ref m15, .ref m16, .ref m17, .ref m18, .ref m19, .ref m20, .int 0, .int 0, .int 0, .int 0, .long 0, .int 0])), (m0, .inr (2, [.int 0, .ref b1, .int 0]))] := hD
  refine lv_aload_n hx hb dX14_loops_24 rfl (lv_at hl 0 rfl) ?_
  refine va_get (D := D) (ci := 17) (v := .int 0) (C := RX14) (T := TX14) (N := 27) hx hb hts iRX14 hown hK hP 3 rfl rfl 24 (by decide) (hts _ q296) (fun _ h9 => h9) rfl dX14_loops_25 ?_
  refine lv_isub hx hb dX14_loops_28 ?_
  refine lv_topi (fun y8 ey8 => ?_)
  obtain rfl : y8 = 0 := ey8.trans (by decide +kernel)
  refine zq_i (wc := [(h0, .inr (17, [.ref m0, .ref m1, .ref m2, .ref m3, .ref m4, .ref m5, .ref m6, .ref m7, .ref m8, .ref m9, .ref m10, .ref m11, .ref m12, .ref m13, .ref m14, .ref m15, .ref m16, .ref m17, .ref m18, .ref m19, .ref m20, .int 0, .int 0, .int 0, .int 0, .long 0, .int 0]))]) (wr := [(m9, .inl (cy 0, 9, .inl (fun j => nI j))), (m12, .inl (cy 2, 9, .inl (fun _ => 0))), (m10, .inl (cy 0, 9, .inl (fun _ => (-1)))), (m0, .inr (2, [.int 0, .ref b1, .int 0]))]) (va_runV (As := [.int 0]) (rest := []) ⟨hx, hb, hml, hown, hts⟩ (k_answer l D cy h0 m0 m1 m2 m3 m4 m5 m6 m7 m8 m9 m10 m11 m12 m13 m14 m15 m16 m17 m18 m19 m20 0 0 0 0 0 0 0 H.size ) (cwV 1 hts (gzV (gz q372) q371 q373 q374 q285) rfl rfl rfl vX14_answer ⟨Nat.le_of_ble_eq_true rfl, Nat.le_of_ble_eq_true rfl⟩) (zpV (ci := 17) (T := TX14) (N := 27) (q0 := 0) hK hX hY hP hD hS hA [3] (by decide) rfl rfl rfl) rfl rfl hl.1 rfl (lv_room (Nat.le_of_ble_eq_true rfl)) dX14_loops_29 ⟨Nat.le_of_ble_eq_true rfl, Nat.le_of_ble_eq_true rfl⟩) hP hD hS hA [3] [0, 1, 2, 4] rfl rfl (by decide) (by decide) (fun x10 u9 H locs hw hP hD hS => ?_)
  obtain rfl : x10 = 0 := hw
  have hP : va_P D vwCl [(m9, .inl (cy 0, 9, .inl (fun j => nI j))), (m12, .inl (cy 2, 9, .inl (fun _ => 0))), (m10, .inl (cy 0, 9, .inl (fun _ => (-1)))), (m0, .inr (2, [.int 0, .ref b1, .int 0])), (h0, .inr (17, [.ref m0, .ref m1, .ref m2, .ref m3, .ref m4, .ref m5, .ref m6, .ref m7, .ref m8, .ref m9, .ref m10, .ref m11, .ref m12, .ref m13, .ref m14, .ref m15, .ref m16, .ref m17, .ref m18, .ref m19, .ref m20, .int 0, .int 0, .int 0, .int 0, .long 0, .int 0]))] H := hP
  have hD : va_D A [(m9, .inl (cy 0, 9, .inl (fun j => nI j))), (m12, .inl (cy 2, 9, .inl (fun _ => 0))), (m10, .inl (cy 0, 9, .inl (fun _ => (-1)))), (m0, .inr (2, [.int 0, .ref b1, .int 0])), (h0, .inr (17, [.ref m0, .ref m1, .ref m2, .ref m3, .ref m4, .ref m5, .ref m6, .ref m7, .ref m8, .ref m9, .ref m10, .ref m11, .ref m12, .ref m13, .ref m14, .ref m15, .ref m16, .ref m17, .ref m18, .ref m19, .ref m20, .int 0, .int 0, .int 0, .int 0, .long 0, .int 0]))] := hD
  have hP9 := hP.sub (ws' := [(h0, .inr (17, [.ref m0, .ref m1, .ref m2, .ref m3, .ref m4, .ref m5, .ref m6, .ref m7, .ref m8, .ref m9, .ref m10, .ref m11, .ref m12, .ref m13, .ref m14, .ref m15, .ref m16, .ref m17, .ref m18, .ref m19, .ref m20, .int 0, .int 0, .int 0, .int 0, .long 0, .int 0]))]) [4] rfl
  have hD9 := hD.sub (ws' := [(h0, .inr (17, [.ref m0, .ref m1, .ref m2, .ref m3, .ref m4, .ref m5, .ref m6, .ref m7, .ref m8, .ref m9, .ref m10, .ref m11, .ref m12, .ref m13, .ref m14, .ref m15, .ref m16, .ref m17, .ref m18, .ref m19, .ref m20, .int 0, .int 0, .int 0, .int 0, .long 0, .int 0]))]) [4] (by decide) rfl
  refine W.widen (k := 0) (n := 0) (Nat.le_of_ble_eq_true rfl) (Nat.le_of_ble_eq_true rfl) ?_
  rw [hQe]
  exact W.iret (v := 0) hx hb hr (fun t ht hW => ⟨⟨0, (), rfl, rfl, ⟨by rw [ht]; exact hP9, hD9⟩⟩, hS.F ht⟩) hS.2.2 dX14_loops_32
set_option maxHeartbeats 4000000 in
set_option maxRecDepth 100000 in
/-- reference: length of a day -/
theorem g_length_in (l : Launch) (D : va_G) (cy : Nat → ClassId) (h0 : Nat) (m0 : Nat) (m1 : Nat) (m2 : Nat) (m3 : Nat) (m4 : Nat) (m5 : Nat) (m6 : Nat) (m7 : Nat) (m8 : Nat) (m9 : Nat) (m10 : Nat) (m11 : Nat) (m12 : Nat) (m13 : Nat) (m14 : Nat) (m15 : Nat) (m16 : Nat) (m17 : Nat) (m18 : Nat) (m19 : Nat) (m20 : Nat) (b1 : Nat) (d : Int32) (sz : Nat) (hd : zDay d) : Met l yX14_length (wz yX14_length cX14_length 4 (some .int)) ({ frames := 2, cells := 0, slots := 0, locals := 53 } : Room) (va_Pc [.ref h0, .int d] (zPre vwCl D cy [(h0, .inr (17, [.ref m0, .ref m1, .ref m2, .ref m3, .ref m4, .ref m5, .ref m6, .ref m7, .ref m8, .ref m9, .ref m10, .ref m11, .ref m12, .ref m13, .ref m14, .ref m15, .ref m16, .ref m17, .ref m18, .ref m19, .ref m20, .int 0, .int 0, .int 0, .int 0, .long 0, .int 0])), (m0, .inr (2, [.int 0, .ref b1, .int 0])), (m9, .inl (cy 0, 9, .inl (fun _ => 0))), (m12, .inl (cy 2, 9, .inl (fun _ => 0))), (m10, .inl (cy 0, 9, .inl (fun _ => 0)))] sz)) (va_Qi (fun (r : Int32) (_ : Unit) => r = 0) (fun (u : Unit) t => zPost vwCl D (va_A [(h0, .inr (17, [.ref m0, .ref m1, .ref m2, .ref m3, .ref m4, .ref m5, .ref m6, .ref m7, .ref m8, .ref m9, .ref m10, .ref m11, .ref m12, .ref m13, .ref m14, .ref m15, .ref m16, .ref m17, .ref m18, .ref m19, .ref m20, .int 0, .int 0, .int 0, .int 0, .long 0, .int 0])), (m0, .inr (2, [.int 0, .ref b1, .int 0])), (m9, .inl (cy 0, 9, .inl (fun _ => 0))), (m12, .inl (cy 2, 9, .inl (fun _ => 0))), (m10, .inl (cy 0, 9, .inl (fun _ => 0)))] sz) [(h0, .inr (17, [.ref m0, .ref m1, .ref m2, .ref m3, .ref m4, .ref m5, .ref m6, .ref m7, .ref m8, .ref m9, .ref m10, .ref m11, .ref m12, .ref m13, .ref m14, .ref m15, .ref m16, .ref m17, .ref m18, .ref m19, .ref m20, .int 0, .int 0, .int 0, .int 0, .long 0, .int 0]))] t) (va_A [(h0, .inr (17, [.ref m0, .ref m1, .ref m2, .ref m3, .ref m4, .ref m5, .ref m6, .ref m7, .ref m8, .ref m9, .ref m10, .ref m11, .ref m12, .ref m13, .ref m14, .ref m15, .ref m16, .ref m17, .ref m18, .ref m19, .ref m20, .int 0, .int 0, .int 0, .int 0, .long 0, .int 0])), (m0, .inr (2, [.int 0, .ref b1, .int 0])), (m9, .inl (cy 0, 9, .inl (fun _ => 0))), (m12, .inl (cy 2, 9, .inl (fun _ => 0))), (m10, .inl (cy 0, 9, .inl (fun _ => 0)))] sz)) 0 0 (va_A [(h0, .inr (17, [.ref m0, .ref m1, .ref m2, .ref m3, .ref m4, .ref m5, .ref m6, .ref m7, .ref m8, .ref m9, .ref m10, .ref m11, .ref m12, .ref m13, .ref m14, .ref m15, .ref m16, .ref m17, .ref m18, .ref m19, .ref m20, .int 0, .int 0, .int 0, .int 0, .long 0, .int 0])), (m0, .inr (2, [.int 0, .ref b1, .int 0])), (m9, .inl (cy 0, 9, .inl (fun _ => 0))), (m12, .inl (cy 2, 9, .inl (fun _ => 0))), (m10, .inl (cy 0, 9, .inl (fun _ => 0)))] sz) := by
  refine Met.ofW (cc := cX14_length) (maxL := 4) (ret := (some .int)) (by decide) rfl ?_
  intro p e s m args below meth c s₁ B hml hv
  obtain ⟨rfl, hsz, hP, hK, hD0, hX, hY⟩ := hv
  have hx := B.exec
  have hb := B.bytes
  have hr := B.returns
  have hts0 := atoms_spec (ws := wz yX14_length cX14_length 4 (some .int)) B.pre
  have hts : ∀ w ∈ wAll, w.before _ s = true := fun w h => hts0 w (List.mem_cons_of_mem _ h)
  have hown : s.vm.findClass RX14 = some m.cls := findClass_of_methodNamed B.named
  have hlocks := B.notSynchronized
  subst hsz
  have hD := hD0.self (sz := s.heap.size)
  generalize hAe : va_A [(h0, .inr (17, [.ref m0, .ref m1, .ref m2, .ref m3, .ref m4, .ref m5, .ref m6, .ref m7, .ref m8, .ref m9, .ref m10, .ref m11, .ref m12, .ref m13, .ref m14, .ref m15, .ref m16, .ref m17, .ref m18, .ref m19, .ref m20, .int 0, .int 0, .int 0, .int 0, .long 0, .int 0])), (m0, .inr (2, [.int 0, .ref b1, .int 0])), (m9, .inl (cy 0, 9, .inl (fun _ => 0))), (m12, .inl (cy 2, 9, .inl (fun _ => 0))), (m10, .inl (cy 0, 9, .inl (fun _ => 0)))] s.heap.size = A at hD hY ⊢
  have hA : ∀ q : Nat, s.heap.size ≤ q → A q := fun q h => by rw [← hAe]; exact Or.inr h
  have hS : va_S A s.heap s.heap [] := va_S.rf
  have hP : va_P D vwCl [(h0, .inr (17, [.ref m0, .ref m1, .ref m2, .ref m3, .ref m4, .ref m5, .ref m6, .ref m7, .ref m8, .ref m9, .ref m10, .ref m11, .ref m12, .ref m13, .ref m14, .ref m15, .ref m16, .ref m17, .ref m18, .ref m19, .ref m20, .int 0, .int 0, .int 0, .int 0, .long 0, .int 0])), (m0, .inr (2, [.int 0, .ref b1, .int 0])), (m9, .inl (cy 0, 9, .inl (fun _ => 0))), (m12, .inl (cy 2, 9, .inl (fun _ => 0))), (m10, .inl (cy 0, 9, .inl (fun _ => 0)))] s.heap := hP
  have hl := lv_entry ([.ref h0, .int d]) (n := 4) (Nat.le_of_ble_eq_true rfl)
  rw [lg_entry_eq]
  generalize (lg_sl ([.ref h0, .int d]) ++ List.replicate (4 - (lg_sl ([.ref h0, .int d])).length) Slot.unset).toArray = ls at hl ⊢
  have hl : lv_has ls 4 [(0, .ref h0), (1, .int d)] := hl
  refine z_anyQ (fun Q hQe => ?_)
  refine lv_iload_n hx hb dX14_length_0 rfl (lv_at hl 1 rfl) ?_
  refine zq_i (wc := []) (wr := [(h0, .inr (17, [.ref m0, .ref m1, .ref m2, .ref m3, .ref m4, .ref m5, .ref m6, .ref m7, .ref m8, .ref m9, .ref m10, .ref m11, .ref m12, .ref m13, .ref m14, .ref m15, .ref m16, .ref m17, .ref m18, .ref m19, .ref m20, .int 0, .int 0, .int 0, .int 0, .long 0, .int 0])), (m0, .inr (2, [.int 0, .ref b1, .int 0])), (m9, .inl (cy 0, 9, .inl (fun _ => 0))), (m12, .inl (cy 2, 9, .inl (fun _ => 0))), (m10, .inl (cy 0, 9, .inl (fun _ => 0)))]) (va_runS (As := [.int d]) (rest := []) ⟨hx, hb, hml, hown, hts⟩ (k_isDay_ok l D cy d s.heap.size hd) (va_cwS 1 hts (gzS (gz q365) q364 q366 q285) rfl rfl rfl vX14_isDay.2 ⟨Nat.le_of_ble_eq_true rfl, Nat.le_of_ble_eq_true rfl⟩) (zpS hK hX hY hP hD hS hA [] (by decide) rfl) rfl rfl hl.1 rfl (lv_room (Nat.le_of_ble_eq_true rfl)) dX14_length_1 ⟨Nat.le_of_ble_eq_true rfl, Nat.le_of_ble_eq_true rfl⟩) hP hD hS hA [] [0, 1, 2, 3, 4] rfl rfl (by decide) (by decide) (fun x2 u1 H locs hw hP hD hS => ?_)
  obtain rfl : x2 = 1 := hw
  have hP : va_P D vwCl [(h0, .inr (17, [.ref m0, .ref m1, .ref m2, .ref m3, .ref m4, .ref m5, .ref m6, .ref m7, .ref m8, .ref m9, .ref m10, .ref m11, .ref m12, .ref m13, .ref m14, .ref m15, .ref m16, .ref m17, .ref m18, .ref m19, .ref m20, .int 0, .int 0, .int 0, .int 0, .long 0, .int 0])), (m0, .inr (2, [.int 0, .ref b1, .int 0])), (m9, .inl (cy 0, 9, .inl (fun _ => 0))), (m12, .inl (cy 2, 9, .inl (fun _ => 0))), (m10, .inl (cy 0, 9, .inl (fun _ => 0)))] H := hP
  have hD : va_D A [(h0, .inr (17, [.ref m0, .ref m1, .ref m2, .ref m3, .ref m4, .ref m5, .ref m6, .ref m7, .ref m8, .ref m9, .ref m10, .ref m11, .ref m12, .ref m13, .ref m14, .ref m15, .ref m16, .ref m17, .ref m18, .ref m19, .ref m20, .int 0, .int 0, .int 0, .int 0, .long 0, .int 0])), (m0, .inr (2, [.int 0, .ref b1, .int 0])), (m9, .inl (cy 0, 9, .inl (fun _ => 0))), (m12, .inl (cy 2, 9, .inl (fun _ => 0))), (m10, .inl (cy 0, 9, .inl (fun _ => 0)))] := hD
  refine lv_if_ne (tgt := 13) hx hb dX14_length_4 (by decide) (fun _ => ?_) (fun c_4_2 => absurd c_4_2 (by decide +kernel))
  refine lv_aload_n hx hb dX14_length_13 rfl (lv_at hl 0 rfl) ?_
  refine lv_iload_n hx hb dX14_length_14 rfl (lv_at hl 1 rfl) ?_
  refine lv_iconst (v := (-1)) hx hb dX14_length_15 (by decide) ?_
  refine zq_v (wc := [(h0, .inr (17, [.ref m0, .ref m1, .ref m2, .ref m3, .ref m4, .ref m5, .ref m6, .ref m7, .ref m8, .ref m9, .ref m10, .ref m11, .ref m12, .ref m13, .ref m14, .ref m15, .ref m16, .ref m17, .ref m18, .ref m19, .ref m20, .int 0, .int 0, .int 0, .int 0, .long 0, .int 0])), (m0, .inr (2, [.int 0, .ref b1, .int 0])), (m9, .inl (cy 0, 9, .inl (fun _ => 0))), (m12, .inl (cy 2, 9, .inl (fun _ => 0))), (m10, .inl (cy 0, 9, .inl (fun _ => 0)))]) (wr := []) (va_runV (As := [.int d, .int (-1)]) (rest := []) ⟨hx, hb, hml, hown, hts⟩ (k_m_hangs l D cy h0 m0 m1 m2 m3 m4 m5 m6 m7 m8 m9 m10 m11 m12 m13 m14 m15 m16 m17 m18 m19 m20 b1 d (-1) (fun _ => 0) (fun _ => 0) (fun _ => 0) H.size ) (cwV 2 hts (gzV (gz q298) q297 q299 q300 q285) rfl rfl rfl vX14_hangs ⟨Nat.le_of_ble_eq_true rfl, Nat.le_of_ble_eq_true rfl⟩) (zpV (ci := 17) (T := TX14) (N := 27) (q0 := 0) hK hX hY hP hD hS hA [0, 1, 2, 3, 4] (by decide) rfl rfl rfl) rfl rfl hl.1 rfl (lv_room (Nat.le_of_ble_eq_true rfl)) dX14_length_16 ⟨Nat.le_of_ble_eq_true rfl, Nat.le_of_ble_eq_true rfl⟩) hP hD hS hA [0, 1, 2, 3, 4] [] rfl rfl (by decide) (by decide) (fun u4 H locs hw hP hD hS => ?_)
  have hP : va_P D vwCl [(h0, .inr (17, [.ref m0, .ref m1, .ref m2, .ref m3, .ref m4, .ref m5, .ref m6, .ref m7, .ref m8, .ref m9, .ref m10, .ref m11, .ref m12, .ref m13, .ref m14, .ref m15, .ref m16, .ref m17, .ref m18, .ref m19, .ref m20, .int 0, .int 0, .int 0, .int 0, .long 0, .int 0])), (m0, .inr (2, [.int 0, .ref b1, .int 0])), (m9, .inl (cy 0, 9, .inl (fun j => nI j))), (m12, .inl (cy 2, 9, .inl (fun _ => 0))), (m10, .inl (cy 0, 9, .inl (fun _ => (-1))))] H := hP
  have hD : va_D A [(h0, .inr (17, [.ref m0, .ref m1, .ref m2, .ref m3, .ref m4, .ref m5, .ref m6, .ref m7, .ref m8, .ref m9, .ref m10, .ref m11, .ref m12, .ref m13, .ref m14, .ref m15, .ref m16, .ref m17, .ref m18, .ref m19, .ref m20, .int 0, .int 0, .int 0, .int 0, .long 0, .int 0])), (m0, .inr (2, [.int 0, .ref b1, .int 0])), (m9, .inl (cy 0, 9, .inl (fun j => nI j))), (m12, .inl (cy 2, 9, .inl (fun _ => 0))), (m10, .inl (cy 0, 9, .inl (fun _ => (-1))))] := hD
  refine lv_iconst (v := 0) hx hb dX14_length_19 (by decide) ?_
  refine lv_istore_n (lv' := [(2, .int 0), (0, .ref h0), (1, .int d)]) hx hb dX14_length_20 rfl hl (by decide) rfl (fun ls hl => ?_)
  refine lv_iconst (v := 0) hx hb dX14_length_21 (by decide) ?_
  refine lv_istore_n (lv' := [(3, .int 0), (2, .int 0), (0, .ref h0), (1, .int d)]) hx hb dX14_length_22 rfl hl (by decide) rfl (fun ls hl => ?_)
  refine lv_iload_n hx hb dX14_length_23 rfl (lv_at hl 0 rfl) ?_
  refine lv_aload_n hx hb dX14_length_24 rfl (lv_at hl 2 rfl) ?_
  refine va_get (D := D) (ci := 17) (v := .ref m0) (C := RX14) (T := TX14) (N := 27) hx hb hts iRX14 hown hK hP 0 rfl rfl 0 (by decide) (hts _ q259) (fun _ h9 => h9) rfl dX14_length_25 ?_
  refine zq_i (wc := [(m0, .inr (2, [.int 0, .ref b1, .int 0]))]) (wr := [(h0, .inr (17, [.ref m0, .ref m1, .ref m2, .ref m3, .ref m4, .ref m5, .ref m6, .ref m7, .ref m8, .ref m9, .ref m10, .ref m11, .ref m12, .ref m13, .ref m14, .ref m15, .ref m16, .ref m17, .ref m18, .ref m19, .ref m20, .int 0, .int 0, .int 0, .int 0, .long 0, .int 0])), (m9, .inl (cy 0, 9, .inl (fun j => nI j))), (m12, .inl (cy 2, 9, .inl (fun _ => 0))), (m10, .inl (cy 0, 9, .inl (fun _ => (-1))))]) (va_runV (As := []) (rest := [.int 0]) ⟨hx, hb, hml, hown, hts⟩ (k_AL_size l D cy m0 b1 H.size ) (cwV 0 hts (gzV (gz q287) q286 q288 q289 q255) rfl rfl rfl vJx4a65c_size_8abf5 ⟨Nat.le_of_ble_eq_true rfl, Nat.le_of_ble_eq_true rfl⟩) (zpV (ci := 2) (T := TJx4a65c) (N := 3) (q0 := 0) hK hX hY hP hD hS hA [1] (by decide) rfl rfl rfl) rfl rfl hl.1 rfl (lv_room (Nat.le_of_ble_eq_true rfl)) dX14_length_28 ⟨Nat.le_of_ble_eq_true rfl, Nat.le_of_ble_eq_true rfl⟩) hP hD hS hA [1] [0, 2, 3, 4] rfl rfl (by decide) (by decide) (fun x7 u6 H locs hw hP hD hS => ?_)
  obtain rfl : x7 = 0 := hw
  have hP : va_P D vwCl [(h0, .inr (17, [.ref m0, .ref m1, .ref m2, .ref m3, .ref m4, .ref m5, .ref m6, .ref m7, .ref m8, .ref m9, .ref m10, .ref m11, .ref m12, .ref m13, .ref m14, .ref m15, .ref m16, .ref m17, .ref m18, .ref m19, .ref m20, .int 0, .int 0, .int 0, .int 0, .long 0, .int 0])), (m9, .inl (cy 0, 9, .inl (fun j => nI j))), (m12, .inl (cy 2, 9, .inl (fun _ => 0))), (m10, .inl (cy 0, 9, .inl (fun _ => (-1)))), (m0, .inr (2, [.int 0, .ref b1, .int 0]))] H := hP
  have hD : va_D A [(h0, .inr (17, [.ref m0, .ref m1, .ref m2, .ref m3, .ref m4, .ref m5, .ref m6, .ref m7, .ref m8, .ref m9, .ref m10, .ref m11, .ref m12, .ref m13, .ref m14, .ref m15, .ref m16, .ref m17, .ref m18, .ref m19, .ref m20, .int 0, .int 0, .int 0, .int 0, .long 0, .int 0])), (m9, .inl (cy 0, 9, .inl (fun j => nI j))), (m12, .inl (cy 2, 9, .inl (fun _ => 0))), (m10, .inl (cy 0, 9, .inl (fun _ => (-1)))), (m0, .inr (2, [.int 0, .ref b1, .int 0]))] := hD
  refine lv_icmp_ge (tgt := 70) hx hb dX14_length_31 (by decide) (fun _ => ?_) (fun c_31_7 => absurd (by decide +kernel) c_31_7)
  refine lv_aload_n hx hb dX14_length_70 rfl (lv_at hl 2 rfl) ?_
  refine lv_iload_n hx hb dX14_length_71 rfl (lv_at hl 1 rfl) ?_
  refine zq_i (wc := [(h0, .inr (17, [.ref m0, .ref m1, .ref m2, .ref m3, .ref m4, .ref m5, .ref m6, .ref m7, .ref m8, .ref m9, .ref m10, .ref m11, .ref m12, .ref m13, .ref m14, .ref m15, .ref m16, .ref m17, .ref m18, .ref m19, .ref m20, .int 0, .int 0, .int 0, .int 0, .long 0, .int 0]))]) (wr := [(m9, .inl (cy 0, 9, .inl (fun j => nI j))), (m12, .inl (cy 2, 9, .inl (fun _ => 0))), (m10, .inl (cy 0, 9, .inl (fun _ => (-1)))), (m0, .inr (2, [.int 0, .ref b1, .int 0]))]) (va_runV (As := [.int 0]) (rest := []) ⟨hx, hb, hml, hown, hts⟩ (k_answer l D cy h0 m0 m1 m2 m3 m4 m5 m6 m7 m8 m9 m10 m11 m12 m13 m14 m15 m16 m17 m18 m19 m20 0 0 0 0 0 0 0 H.size ) (cwV 1 hts (gzV (gz q372) q371 q373 q374 q285) rfl rfl rfl vX14_answer ⟨Nat.le_of_ble_eq_true rfl, Nat.le_of_ble_eq_true rfl⟩) (zpV (ci := 17) (T := TX14) (N := 27) (q0 := 0) hK hX hY hP hD hS hA [0] (by decide) rfl rfl rfl) rfl rfl hl.1 rfl (lv_room (Nat.le_of_ble_eq_true rfl)) dX14_length_72 ⟨Nat.le_of_ble_eq_true rfl, Nat.le_of_ble_eq_true rfl⟩) hP hD hS hA [0] [1, 2, 3, 4] rfl rfl (by decide) (by decide) (fun x10 u9 H locs hw hP hD hS => ?_)
  obtain rfl : x10 = 0 := hw
  have hP : va_P D vwCl [(m9, .inl (cy 0, 9, .inl (fun j => nI j))), (m12, .inl (cy 2, 9, .inl (fun _ => 0))), (m10, .inl (cy 0, 9, .inl (fun _ => (-1)))), (m0, .inr (2, [.int 0, .ref b1, .int 0])), (h0, .inr (17, [.ref m0, .ref m1, .ref m2, .ref m3, .ref m4, .ref m5, .ref m6, .ref m7, .ref m8, .ref m9, .ref m10, .ref m11, .ref m12, .ref m13, .ref m14, .ref m15, .ref m16, .ref m17, .ref m18, .ref m19, .ref m20, .int 0, .int 0, .int 0, .int 0, .long 0, .int 0]))] H := hP
  have hD : va_D A [(m9, .inl (cy 0, 9, .inl (fun j => nI j))), (m12, .inl (cy 2, 9, .inl (fun _ => 0))), (m10, .inl (cy 0, 9, .inl (fun _ => (-1)))), (m0, .inr (2, [.int 0, .ref b1, .int 0])), (h0, .inr (17, [.ref m0, .ref m1, .ref m2, .ref m3, .ref m4, .ref m5, .ref m6, .ref m7, .ref m8, .ref m9, .ref m10, .ref m11, .ref m12, .ref m13, .ref m14, .ref m15, .ref m16, .ref m17, .ref m18, .ref m19, .ref m20, .int 0, .int 0, .int 0, .int 0, .long 0, .int 0]))] := hD
  have hP9 := hP.sub (ws' := [(h0, .inr (17, [.ref m0, .ref m1, .ref m2, .ref m3, .ref m4, .ref m5, .ref m6, .ref m7, .ref m8, .ref m9, .ref m10, .ref m11, .ref m12, .ref m13, .ref m14, .ref m15, .ref m16, .ref m17, .ref m18, .ref m19, .ref m20, .int 0, .int 0, .int 0, .int 0, .long 0, .int 0]))]) [4] rfl
  have hD9 := hD.sub (ws' := [(h0, .inr (17, [.ref m0, .ref m1, .ref m2, .ref m3, .ref m4, .ref m5, .ref m6, .ref m7, .ref m8, .ref m9, .ref m10, .ref m11, .ref m12, .ref m13, .ref m14, .ref m15, .ref m16, .ref m17, .ref m18, .ref m19, .ref m20, .int 0, .int 0, .int 0, .int 0, .long 0, .int 0]))]) [4] (by decide) rfl
  refine W.widen (k := 0) (n := 0) (Nat.le_of_ble_eq_true rfl) (Nat.le_of_ble_eq_true rfl) ?_
  rw [hQe]
  exact W.iret (v := 0) hx hb hr (fun t ht hW => ⟨⟨0, (), rfl, rfl, ⟨by rw [ht]; exact hP9, hD9⟩⟩, hS.F ht⟩) hS.2.2 dX14_length_75
set_option maxHeartbeats 4000000 in
set_option maxRecDepth 100000 in
/-- reference: allFaults of a day -/
theorem g_allFaults_in (l : Launch) (D : va_G) (cy : Nat → ClassId) (h0 : Nat) (m0 : Nat) (m1 : Nat) (m2 : Nat) (m3 : Nat) (m4 : Nat) (m5 : Nat) (m6 : Nat) (m7 : Nat) (m8 : Nat) (m9 : Nat) (m10 : Nat) (m11 : Nat) (m12 : Nat) (m13 : Nat) (m14 : Nat) (m15 : Nat) (m16 : Nat) (m17 : Nat) (m18 : Nat) (m19 : Nat) (m20 : Nat) (b1 : Nat) (d : Int32) (sz : Nat) (hd : zDay d) : Met l yX14_allFaults (wz yX14_allFaults cX14_allFaults 2 (some .long)) ({ frames := 5, cells := 18, slots := 225, locals := 115 } : Room) (va_Pc [.ref h0, .int d] (zPre vwCl D cy [(h0, .inr (17, [.ref m0, .ref m1, .ref m2, .ref m3, .ref m4, .ref m5, .ref m6, .ref m7, .ref m8, .ref m9, .ref m10, .ref m11, .ref m12, .ref m13, .ref m14, .ref m15, .ref m16, .ref m17, .ref m18, .ref m19, .ref m20, .int 0, .int 0, .int 0, .int 0, .long 0, .int 0])), (m0, .inr (2, [.int 0, .ref b1, .int 0])), (m9, .inl (cy 0, 9, .inl (fun _ => 0))), (m12, .inl (cy 2, 9, .inl (fun _ => 0))), (m10, .inl (cy 0, 9, .inl (fun _ => 0))), (m14, .inl (cy 1, 256, .inr (.inl (fun _ => 0)))), (m16, .inl (cy 1, 64, .inr (.inl (fun _ => 0)))), (m17, .inl (cy 1, 24, .inr (.inl (fun _ => 0))))] sz)) (va_Ql (fun (r : Int64) (_ : Unit) => r = 0) (fun (u : Unit) t => zPost vwCl D (va_A [(h0, .inr (17, [.ref m0, .ref m1, .ref m2, .ref m3, .ref m4, .ref m5, .ref m6, .ref m7, .ref m8, .ref m9, .ref m10, .ref m11, .ref m12, .ref m13, .ref m14, .ref m15, .ref m16, .ref m17, .ref m18, .ref m19, .ref m20, .int 0, .int 0, .int 0, .int 0, .long 0, .int 0])), (m0, .inr (2, [.int 0, .ref b1, .int 0])), (m9, .inl (cy 0, 9, .inl (fun _ => 0))), (m12, .inl (cy 2, 9, .inl (fun _ => 0))), (m10, .inl (cy 0, 9, .inl (fun _ => 0))), (m14, .inl (cy 1, 256, .inr (.inl (fun _ => 0)))), (m16, .inl (cy 1, 64, .inr (.inl (fun _ => 0)))), (m17, .inl (cy 1, 24, .inr (.inl (fun _ => 0))))] sz) [(h0, .inr (17, [.ref m0, .ref m1, .ref m2, .ref m3, .ref m4, .ref m5, .ref m6, .ref m7, .ref m8, .ref m9, .ref m10, .ref m11, .ref m12, .ref m13, .ref m14, .ref m15, .ref m16, .ref m17, .ref m18, .ref m19, .ref m20, .int 0, .int 0, .int 0, .int 0, .long 1, .int 0]))] t) (va_A [(h0, .inr (17, [.ref m0, .ref m1, .ref m2, .ref m3, .ref m4, .ref m5, .ref m6, .ref m7, .ref m8, .ref m9, .ref m10, .ref m11, .ref m12, .ref m13, .ref m14, .ref m15, .ref m16, .ref m17, .ref m18, .ref m19, .ref m20, .int 0, .int 0, .int 0, .int 0, .long 0, .int 0])), (m0, .inr (2, [.int 0, .ref b1, .int 0])), (m9, .inl (cy 0, 9, .inl (fun _ => 0))), (m12, .inl (cy 2, 9, .inl (fun _ => 0))), (m10, .inl (cy 0, 9, .inl (fun _ => 0))), (m14, .inl (cy 1, 256, .inr (.inl (fun _ => 0)))), (m16, .inl (cy 1, 64, .inr (.inl (fun _ => 0)))), (m17, .inl (cy 1, 24, .inr (.inl (fun _ => 0))))] sz)) 18 225 (va_A [(h0, .inr (17, [.ref m0, .ref m1, .ref m2, .ref m3, .ref m4, .ref m5, .ref m6, .ref m7, .ref m8, .ref m9, .ref m10, .ref m11, .ref m12, .ref m13, .ref m14, .ref m15, .ref m16, .ref m17, .ref m18, .ref m19, .ref m20, .int 0, .int 0, .int 0, .int 0, .long 0, .int 0])), (m0, .inr (2, [.int 0, .ref b1, .int 0])), (m9, .inl (cy 0, 9, .inl (fun _ => 0))), (m12, .inl (cy 2, 9, .inl (fun _ => 0))), (m10, .inl (cy 0, 9, .inl (fun _ => 0))), (m14, .inl (cy 1, 256, .inr (.inl (fun _ => 0)))), (m16, .inl (cy 1, 64, .inr (.inl (fun _ => 0)))), (m17, .inl (cy 1, 24, .inr (.inl (fun _ => 0))))] sz) := by
  refine Met.ofW (cc := cX14_allFaults) (maxL := 2) (ret := (some .long)) (by decide) rfl ?_
  intro p e s m args below meth c s₁ B hml hv
  obtain ⟨rfl, hsz, hP, hK, hD0, hX, hY⟩ := hv
  have hx := B.exec
  have hb := B.bytes
  have hr := B.returns
  have hts0 := atoms_spec (ws := wz yX14_allFaults cX14_allFaults 2 (some .long)) B.pre
  have hts : ∀ w ∈ wAll, w.before _ s = true := fun w h => hts0 w (List.mem_cons_of_mem _ h)
  have hown : s.vm.findClass RX14 = some m.cls := findClass_of_methodNamed B.named
  have hlocks := B.notSynchronized
  subst hsz
  have hD := hD0.self (sz := s.heap.size)
  generalize hAe : va_A [(h0, .inr (17, [.ref m0, .ref m1, .ref m2, .ref m3, .ref m4, .ref m5, .ref m6, .ref m7, .ref m8, .ref m9, .ref m10, .ref m11, .ref m12, .ref m13, .ref m14, .ref m15, .ref m16, .ref m17, .ref m18, .ref m19, .ref m20, .int 0, .int 0, .int 0, .int 0, .long 0, .int 0])), (m0, .inr (2, [.int 0, .ref b1, .int 0])), (m9, .inl (cy 0, 9, .inl (fun _ => 0))), (m12, .inl (cy 2, 9, .inl (fun _ => 0))), (m10, .inl (cy 0, 9, .inl (fun _ => 0))), (m14, .inl (cy 1, 256, .inr (.inl (fun _ => 0)))), (m16, .inl (cy 1, 64, .inr (.inl (fun _ => 0)))), (m17, .inl (cy 1, 24, .inr (.inl (fun _ => 0))))] s.heap.size = A at hD hY ⊢
  have hA : ∀ q : Nat, s.heap.size ≤ q → A q := fun q h => by rw [← hAe]; exact Or.inr h
  have hS : va_S A s.heap s.heap [] := va_S.rf
  have hP : va_P D vwCl [(h0, .inr (17, [.ref m0, .ref m1, .ref m2, .ref m3, .ref m4, .ref m5, .ref m6, .ref m7, .ref m8, .ref m9, .ref m10, .ref m11, .ref m12, .ref m13, .ref m14, .ref m15, .ref m16, .ref m17, .ref m18, .ref m19, .ref m20, .int 0, .int 0, .int 0, .int 0, .long 0, .int 0])), (m0, .inr (2, [.int 0, .ref b1, .int 0])), (m9, .inl (cy 0, 9, .inl (fun _ => 0))), (m12, .inl (cy 2, 9, .inl (fun _ => 0))), (m10, .inl (cy 0, 9, .inl (fun _ => 0))), (m14, .inl (cy 1, 256, .inr (.inl (fun _ => 0)))), (m16, .inl (cy 1, 64, .inr (.inl (fun _ => 0)))), (m17, .inl (cy 1, 24, .inr (.inl (fun _ => 0))))] s.heap := hP
  have hl := lv_entry ([.ref h0, .int d]) (n := 2) (Nat.le_of_ble_eq_true rfl)
  rw [lg_entry_eq]
  generalize (lg_sl ([.ref h0, .int d]) ++ List.replicate (2 - (lg_sl ([.ref h0, .int d])).length) Slot.unset).toArray = ls at hl ⊢
  have hl : lv_has ls 2 [(0, .ref h0), (1, .int d)] := hl
  refine z_anyQ (fun Q hQe => ?_)
  refine lv_iload_n hx hb dX14_allFaults_0 rfl (lv_at hl 1 rfl) ?_
  refine zq_i (wc := []) (wr := [(h0, .inr (17, [.ref m0, .ref m1, .ref m2, .ref m3, .ref m4, .ref m5, .ref m6, .ref m7, .ref m8, .ref m9, .ref m10, .ref m11, .ref m12, .ref m13, .ref m14, .ref m15, .ref m16, .ref m17, .ref m18, .ref m19, .ref m20, .int 0, .int 0, .int 0, .int 0, .long 0, .int 0])), (m0, .inr (2, [.int 0, .ref b1, .int 0])), (m9, .inl (cy 0, 9, .inl (fun _ => 0))), (m12, .inl (cy 2, 9, .inl (fun _ => 0))), (m10, .inl (cy 0, 9, .inl (fun _ => 0))), (m14, .inl (cy 1, 256, .inr (.inl (fun _ => 0)))), (m16, .inl (cy 1, 64, .inr (.inl (fun _ => 0)))), (m17, .inl (cy 1, 24, .inr (.inl (fun _ => 0))))]) (va_runS (As := [.int d]) (rest := []) ⟨hx, hb, hml, hown, hts⟩ (k_isDay_ok l D cy d s.heap.size hd) (va_cwS 1 hts (gzS (gz q365) q364 q366 q285) rfl rfl rfl vX14_isDay.2 ⟨Nat.le_of_ble_eq_true rfl, Nat.le_of_ble_eq_true rfl⟩) (zpS hK hX hY hP hD hS hA [] (by decide) rfl) rfl rfl hl.1 rfl (lv_room (Nat.le_of_ble_eq_true rfl)) dX14_allFaults_1 ⟨Nat.le_of_ble_eq_true rfl, Nat.le_of_ble_eq_true rfl⟩) hP hD hS hA [] [0, 1, 2, 3, 4, 5, 6, 7] rfl rfl (by decide) (by decide) (fun x2 u1 H locs hw hP hD hS => ?_)
  obtain rfl : x2 = 1 := hw
  have hP : va_P D vwCl [(h0, .inr (17, [.ref m0, .ref m1, .ref m2, .ref m3, .ref m4, .ref m5, .ref m6, .ref m7, .ref m8, .ref m9, .ref m10, .ref m11, .ref m12, .ref m13, .ref m14, .ref m15, .ref m16, .ref m17, .ref m18, .ref m19, .ref m20, .int 0, .int 0, .int 0, .int 0, .long 0, .int 0])), (m0, .inr (2, [.int 0, .ref b1, .int 0])), (m9, .inl (cy 0, 9, .inl (fun _ => 0))), (m12, .inl (cy 2, 9, .inl (fun _ => 0))), (m10, .inl (cy 0, 9, .inl (fun _ => 0))), (m14, .inl (cy 1, 256, .inr (.inl (fun _ => 0)))), (m16, .inl (cy 1, 64, .inr (.inl (fun _ => 0)))), (m17, .inl (cy 1, 24, .inr (.inl (fun _ => 0))))] H := hP
  have hD : va_D A [(h0, .inr (17, [.ref m0, .ref m1, .ref m2, .ref m3, .ref m4, .ref m5, .ref m6, .ref m7, .ref m8, .ref m9, .ref m10, .ref m11, .ref m12, .ref m13, .ref m14, .ref m15, .ref m16, .ref m17, .ref m18, .ref m19, .ref m20, .int 0, .int 0, .int 0, .int 0, .long 0, .int 0])), (m0, .inr (2, [.int 0, .ref b1, .int 0])), (m9, .inl (cy 0, 9, .inl (fun _ => 0))), (m12, .inl (cy 2, 9, .inl (fun _ => 0))), (m10, .inl (cy 0, 9, .inl (fun _ => 0))), (m14, .inl (cy 1, 256, .inr (.inl (fun _ => 0)))), (m16, .inl (cy 1, 64, .inr (.inl (fun _ => 0)))), (m17, .inl (cy 1, 24, .inr (.inl (fun _ => 0))))] := hD
  refine lv_if_ne (tgt := 14) hx hb dX14_allFaults_4 (by decide) (fun _ => ?_) (fun c_4_2 => absurd c_4_2 (by decide +kernel))
  refine lv_aload_n hx hb dX14_allFaults_14 rfl (lv_at hl 0 rfl) ?_
  refine lv_iload_n hx hb dX14_allFaults_15 rfl (lv_at hl 1 rfl) ?_
  refine lv_iconst (v := (-1)) hx hb dX14_allFaults_16 (by decide) ?_
  refine zq_v (wc := [(h0, .inr (17, [.ref m0, .ref m1, .ref m2, .ref m3, .ref m4, .ref m5, .ref m6, .ref m7, .ref m8, .ref m9, .ref m10, .ref m11, .ref m12, .ref m13, .ref m14, .ref m15, .ref m16, .ref m17, .ref m18, .ref m19, .ref m20, .int 0, .int 0, .int 0, .int 0, .long 0, .int 0])), (m0, .inr (2, [.int 0, .ref b1, .int 0])), (m9, .inl (cy 0, 9, .inl (fun _ => 0))), (m12, .inl (cy 2, 9, .inl (fun _ => 0))), (m10, .inl (cy 0, 9, .inl (fun _ => 0))), (m14, .inl (cy 1, 256, .inr (.inl (fun _ => 0)))), (m16, .inl (cy 1, 64, .inr (.inl (fun _ => 0)))), (m17, .inl (cy 1, 24, .inr (.inl (fun _ => 0))))]) (wr := []) (va_runV (As := [.int d, .int (-1)]) (rest := []) ⟨hx, hb, hml, hown, hts⟩ (k_m_places l D cy h0 m0 m1 m2 m3 m4 m5 m6 m7 m8 m9 m10 m11 m12 m13 m14 m15 m16 m17 m18 m19 m20 b1 d (-1) H.size ) (cwV 2 hts (gzV (gz q376) q375 q377 q378 q285) rfl rfl rfl vX14_places ⟨Nat.le_of_ble_eq_true rfl, Nat.le_of_ble_eq_true rfl⟩) (zpV (ci := 17) (T := TX14) (N := 27) (q0 := 0) hK hX hY hP hD hS hA [0, 1, 2, 3, 4, 5, 6, 7] (by decide) rfl rfl rfl) rfl rfl hl.1 rfl (lv_room (Nat.le_of_ble_eq_true rfl)) dX14_allFaults_17 ⟨Nat.le_of_ble_eq_true rfl, Nat.le_of_ble_eq_true rfl⟩) hP hD hS hA [0, 1, 2, 3, 4, 5, 6, 7] [] rfl rfl (by decide) (by decide) (fun u4 H locs hw hP hD hS => ?_)
  have hP : va_P D vwCl [(h0, .inr (17, [.ref m0, .ref m1, .ref m2, .ref m3, .ref m4, .ref m5, .ref m6, .ref m7, .ref m8, .ref m9, .ref m10, .ref m11, .ref m12, .ref m13, .ref m14, .ref m15, .ref m16, .ref m17, .ref m18, .ref m19, .ref m20, .int 0, .int 0, .int 0, .int 0, .long 1, .int 0])), (m0, .inr (2, [.int 0, .ref b1, .int 0]))] H := hP
  have hD : va_D A [(h0, .inr (17, [.ref m0, .ref m1, .ref m2, .ref m3, .ref m4, .ref m5, .ref m6, .ref m7, .ref m8, .ref m9, .ref m10, .ref m11, .ref m12, .ref m13, .ref m14, .ref m15, .ref m16, .ref m17, .ref m18, .ref m19, .ref m20, .int 0, .int 0, .int 0, .int 0, .long 1, .int 0])), (m0, .inr (2, [.int 0, .ref b1, .int 0]))] := hD
  refine lv_aload_n hx hb dX14_allFaults_20 rfl (lv_at hl 0 rfl) ?_
  refine lv_aload_n hx hb dX14_allFaults_21 rfl (lv_at hl 0 rfl) ?_
  refine lv_aload_n hx hb dX14_allFaults_22 rfl (lv_at hl 0 rfl) ?_
  refine zq_r (wc := [(h0, .inr (17, [.ref m0, .ref m1, .ref m2, .ref m3, .ref m4, .ref m5, .ref m6, .ref m7, .ref m8, .ref m9, .ref m10, .ref m11, .ref m12, .ref m13, .ref m14, .ref m15, .ref m16, .ref m17, .ref m18, .ref m19, .ref m20, .int 0, .int 0, .int 0, .int 0, .long 1, .int 0])), (m0, .inr (2, [.int 0, .ref b1, .int 0]))]) (wr := []) (va_runV (As := []) (rest := [.ref h0, .ref h0]) ⟨hx, hb, hml, hown, hts⟩ (k_allSquares l D cy h0 m0 m1 m2 m3 m4 m5 m6 m7 m8 m9 m10 m11 m12 m13 m14 m15 m16 m17 m18 m19 m20 b1 H.size ) (cwV 0 hts (gzV (gz q380) q379 q381 q382 q285) rfl rfl rfl vX14_allSquares ⟨Nat.le_of_ble_eq_true rfl, Nat.le_of_ble_eq_true rfl⟩) (zpV (ci := 17) (T := TX14) (N := 27) (q0 := 0) hK hX hY hP hD hS hA [0, 1] (by decide) rfl rfl rfl) rfl rfl hl.1 rfl (lv_room (Nat.le_of_ble_eq_true rfl)) dX14_allFaults_23 ⟨Nat.le_of_ble_eq_true rfl, Nat.le_of_ble_eq_true rfl⟩) hP hD hS hA [0, 1] [] rfl rfl (by decide) (by decide) (fun u6 x7 H locs hw hP hD hS => ?_)
  have hP : va_P D vwCl [(x7, .inr (16, [.ref u6])), (u6, .inl (cy 0, 24, .inl (zE 0))), (h0, .inr (17, [.ref m0, .ref m1, .ref m2, .ref m3, .ref m4, .ref m5, .ref m6, .ref m7, .ref m8, .ref m9, .ref m10, .ref m11, .ref m12, .ref m13, .ref m14, .ref m15, .ref m16, .ref m17, .ref m18, .ref m19, .ref m20, .int 0, .int 0, .int 0, .int 0, .long 1, .int 0])), (m0, .inr (2, [.int 0, .ref b1, .int 0]))] H := hP
  have hD : va_D A [(x7, .inr (16, [.ref u6])), (u6, .inl (cy 0, 24, .inl (zE 0))), (h0, .inr (17, [.ref m0, .ref m1, .ref m2, .ref m3, .ref m4, .ref m5, .ref m6, .ref m7, .ref m8, .ref m9, .ref m10, .ref m11, .ref m12, .ref m13, .ref m14, .ref m15, .ref m16, .ref m17, .ref m18, .ref m19, .ref m20, .int 0, .int 0, .int 0, .int 0, .long 1, .int 0])), (m0, .inr (2, [.int 0, .ref b1, .int 0]))] := hD
  refine W.widen (k := 2) (n := 25) (by omega) (by omega) ?_
  refine zq_l (wc := [(h0, .inr (17, [.ref m0, .ref m1, .ref m2, .ref m3, .ref m4, .ref m5, .ref m6, .ref m7, .ref m8, .ref m9, .ref m10, .ref m11, .ref m12, .ref m13, .ref m14, .ref m15, .ref m16, .ref m17, .ref m18, .ref m19, .ref m20, .int 0, .int 0, .int 0, .int 0, .long 1, .int 0])), (x7, .inr (16, [.ref u6])), (u6, .inl (cy 0, 24, .inl (zE 0)))]) (wr := [(m0, .inr (2, [.int 0, .ref b1, .int 0]))]) (va_runV (As := [.ref x7]) (rest := [.ref h0]) ⟨hx, hb, hml, hown, hts⟩ (k_thousandths l D cy h0 m0 m1 m2 m3 m4 m5 m6 m7 m8 m9 m10 m11 m12 m13 m14 m15 m16 m17 m18 m19 m20 x7 u6 H.size ) (cwV 1 hts (gzV (gz q384) q383 q385 q386 q285) rfl rfl rfl vX14_thousandths ⟨Nat.le_of_ble_eq_true rfl, Nat.le_of_ble_eq_true rfl⟩) (zpV (ci := 17) (T := TX14) (N := 27) (q0 := 0) hK hX hY hP hD hS hA [2, 0, 1] (by decide) rfl rfl rfl) rfl rfl hl.1 rfl (lv_room (Nat.le_of_ble_eq_true rfl)) dX14_allFaults_26 ⟨Nat.le_of_ble_eq_true rfl, Nat.le_of_ble_eq_true rfl⟩) hP hD hS hA [2, 0, 1] [3] rfl rfl (by decide) (by decide) (fun x9 u8 H locs hw hP hD hS => ?_)
  obtain rfl : x9 = 0 := hw
  have hP : va_P D vwCl [(m0, .inr (2, [.int 0, .ref b1, .int 0])), (h0, .inr (17, [.ref m0, .ref m1, .ref m2, .ref m3, .ref m4, .ref m5, .ref m6, .ref m7, .ref m8, .ref m9, .ref m10, .ref m11, .ref m12, .ref m13, .ref m14, .ref m15, .ref m16, .ref m17, .ref m18, .ref m19, .ref m20, .int 0, .int 0, .int 0, .int 0, .long 1, .int 0]))] H := hP
  have hD : va_D A [(m0, .inr (2, [.int 0, .ref b1, .int 0])), (h0, .inr (17, [.ref m0, .ref m1, .ref m2, .ref m3, .ref m4, .ref m5, .ref m6, .ref m7, .ref m8, .ref m9, .ref m10, .ref m11, .ref m12, .ref m13, .ref m14, .ref m15, .ref m16, .ref m17, .ref m18, .ref m19, .ref m20, .int 0, .int 0, .int 0, .int 0, .long 1, .int 0]))] := hD
  refine W.widen (k := 18) (n := 225) (by omega) (by omega) ?_
  refine zq_l (wc := [(h0, .inr (17, [.ref m0, .ref m1, .ref m2, .ref m3, .ref m4, .ref m5, .ref m6, .ref m7, .ref m8, .ref m9, .ref m10, .ref m11, .ref m12, .ref m13, .ref m14, .ref m15, .ref m16, .ref m17, .ref m18, .ref m19, .ref m20, .int 0, .int 0, .int 0, .int 0, .long 1, .int 0]))]) (wr := [(m0, .inr (2, [.int 0, .ref b1, .int 0]))]) (va_runV (As := [.long 0]) (rest := []) ⟨hx, hb, hml, hown, hts⟩ (k_tellLong l D cy h0 m0 m1 m2 m3 m4 m5 m6 m7 m8 m9 m10 m11 m12 m13 m14 m15 m16 m17 m18 m19 m20 0 0 0 0 1 0 0 H.size ) (cwV 1 hts (gzV (gz q388) q387 q389 q390 q285) rfl rfl rfl vX14_tellLong ⟨Nat.le_of_ble_eq_true rfl, Nat.le_of_ble_eq_true rfl⟩) (zpV (ci := 17) (T := TX14) (N := 27) (q0 := 0) hK hX hY hP hD hS hA [1] (by decide) rfl rfl rfl) rfl rfl hl.1 rfl (lv_room (Nat.le_of_ble_eq_true rfl)) dX14_allFaults_29 ⟨Nat.le_of_ble_eq_true rfl, Nat.le_of_ble_eq_true rfl⟩) hP hD hS hA [1] [0] rfl rfl (by decide) (by decide) (fun x11 u10 H locs hw hP hD hS => ?_)
  obtain rfl : x11 = 0 := hw
  have hP : va_P D vwCl [(m0, .inr (2, [.int 0, .ref b1, .int 0])), (h0, .inr (17, [.ref m0, .ref m1, .ref m2, .ref m3, .ref m4, .ref m5, .ref m6, .ref m7, .ref m8, .ref m9, .ref m10, .ref m11, .ref m12, .ref m13, .ref m14, .ref m15, .ref m16, .ref m17, .ref m18, .ref m19, .ref m20, .int 0, .int 0, .int 0, .int 0, .long 1, .int 0]))] H := hP
  have hD : va_D A [(m0, .inr (2, [.int 0, .ref b1, .int 0])), (h0, .inr (17, [.ref m0, .ref m1, .ref m2, .ref m3, .ref m4, .ref m5, .ref m6, .ref m7, .ref m8, .ref m9, .ref m10, .ref m11, .ref m12, .ref m13, .ref m14, .ref m15, .ref m16, .ref m17, .ref m18, .ref m19, .ref m20, .int 0, .int 0, .int 0, .int 0, .long 1, .int 0]))] := hD
  have hP9 := hP.sub (ws' := [(h0, .inr (17, [.ref m0, .ref m1, .ref m2, .ref m3, .ref m4, .ref m5, .ref m6, .ref m7, .ref m8, .ref m9, .ref m10, .ref m11, .ref m12, .ref m13, .ref m14, .ref m15, .ref m16, .ref m17, .ref m18, .ref m19, .ref m20, .int 0, .int 0, .int 0, .int 0, .long 1, .int 0]))]) [1] rfl
  have hD9 := hD.sub (ws' := [(h0, .inr (17, [.ref m0, .ref m1, .ref m2, .ref m3, .ref m4, .ref m5, .ref m6, .ref m7, .ref m8, .ref m9, .ref m10, .ref m11, .ref m12, .ref m13, .ref m14, .ref m15, .ref m16, .ref m17, .ref m18, .ref m19, .ref m20, .int 0, .int 0, .int 0, .int 0, .long 1, .int 0]))]) [1] (by decide) rfl
  refine W.widen (k := 18) (n := 225) (Nat.le_of_ble_eq_true rfl) (Nat.le_of_ble_eq_true rfl) ?_
  rw [hQe]
  exact W.lret (v := 0) hx hb hr (fun t ht hW => ⟨⟨0, (), rfl, rfl, ⟨by rw [ht]; exact hP9, hD9⟩⟩, hS.F ht⟩) hS.2.2 dX14_allFaults_32
set_option maxHeartbeats 4000000 in
set_option maxRecDepth 100000 in
/-- reference: depth of a day -/
theorem g_depth_in (l : Launch) (D : va_G) (cy : Nat → ClassId) (h0 : Nat) (m0 : Nat) (m1 : Nat) (m2 : Nat) (m3 : Nat) (m4 : Nat) (m5 : Nat) (m6 : Nat) (m7 : Nat) (m8 : Nat) (m9 : Nat) (m10 : Nat) (m11 : Nat) (m12 : Nat) (m13 : Nat) (m14 : Nat) (m15 : Nat) (m16 : Nat) (m17 : Nat) (m18 : Nat) (m19 : Nat) (m20 : Nat) (b1 : Nat) (d : Int32) (sz : Nat) (hd : zDay d) : Met l yX14_depth (wz yX14_depth cX14_depth 7 (some .long)) ({ frames := 3, cells := 0, slots := 0, locals := 77 } : Room) (va_Pc [.ref h0, .int d] (zPre vwCl D cy [(h0, .inr (17, [.ref m0, .ref m1, .ref m2, .ref m3, .ref m4, .ref m5, .ref m6, .ref m7, .ref m8, .ref m9, .ref m10, .ref m11, .ref m12, .ref m13, .ref m14, .ref m15, .ref m16, .ref m17, .ref m18, .ref m19, .ref m20, .int 0, .int 0, .int 0, .int 0, .long 0, .int 0])), (m0, .inr (2, [.int 0, .ref b1, .int 0])), (m9, .inl (cy 0, 9, .inl (fun _ => 0))), (m12, .inl (cy 2, 9, .inl (fun _ => 0))), (m10, .inl (cy 0, 9, .inl (fun _ => 0))), (m14, .inl (cy 1, 256, .inr (.inl (fun _ => 0)))), (m16, .inl (cy 1, 64, .inr (.inl (fun _ => 0)))), (m17, .inl (cy 1, 24, .inr (.inl (fun _ => 0))))] sz)) (va_Ql (fun (r : Int64) (_ : Unit) => r = 0) (fun (u : Unit) t => zPost vwCl D (va_A [(h0, .inr (17, [.ref m0, .ref m1, .ref m2, .ref m3, .ref m4, .ref m5, .ref m6, .ref m7, .ref m8, .ref m9, .ref m10, .ref m11, .ref m12, .ref m13, .ref m14, .ref m15, .ref m16, .ref m17, .ref m18, .ref m19, .ref m20, .int 0, .int 0, .int 0, .int 0, .long 0, .int 0])), (m0, .inr (2, [.int 0, .ref b1, .int 0])), (m9, .inl (cy 0, 9, .inl (fun _ => 0))), (m12, .inl (cy 2, 9, .inl (fun _ => 0))), (m10, .inl (cy 0, 9, .inl (fun _ => 0))), (m14, .inl (cy 1, 256, .inr (.inl (fun _ => 0)))), (m16, .inl (cy 1, 64, .inr (.inl (fun _ => 0)))), (m17, .inl (cy 1, 24, .inr (.inl (fun _ => 0))))] sz) [(h0, .inr (17, [.ref m0, .ref m1, .ref m2, .ref m3, .ref m4, .ref m5, .ref m6, .ref m7, .ref m8, .ref m9, .ref m10, .ref m11, .ref m12, .ref m13, .ref m14, .ref m15, .ref m16, .ref m17, .ref m18, .ref m19, .ref m20, .int 0, .int 0, .int 0, .int 0, .long 1, .int 0]))] t) (va_A [(h0, .inr (17, [.ref m0, .ref m1, .ref m2, .ref m3, .ref m4, .ref m5, .ref m6, .ref m7, .ref m8, .ref m9, .ref m10, .ref m11, .ref m12, .ref m13, .ref m14, .ref m15, .ref m16, .ref m17, .ref m18, .ref m19, .ref m20, .int 0, .int 0, .int 0, .int 0, .long 0, .int 0])), (m0, .inr (2, [.int 0, .ref b1, .int 0])), (m9, .inl (cy 0, 9, .inl (fun _ => 0))), (m12, .inl (cy 2, 9, .inl (fun _ => 0))), (m10, .inl (cy 0, 9, .inl (fun _ => 0))), (m14, .inl (cy 1, 256, .inr (.inl (fun _ => 0)))), (m16, .inl (cy 1, 64, .inr (.inl (fun _ => 0)))), (m17, .inl (cy 1, 24, .inr (.inl (fun _ => 0))))] sz)) 0 0 (va_A [(h0, .inr (17, [.ref m0, .ref m1, .ref m2, .ref m3, .ref m4, .ref m5, .ref m6, .ref m7, .ref m8, .ref m9, .ref m10, .ref m11, .ref m12, .ref m13, .ref m14, .ref m15, .ref m16, .ref m17, .ref m18, .ref m19, .ref m20, .int 0, .int 0, .int 0, .int 0, .long 0, .int 0])), (m0, .inr (2, [.int 0, .ref b1, .int 0])), (m9, .inl (cy 0, 9, .inl (fun _ => 0))), (m12, .inl (cy 2, 9, .inl (fun _ => 0))), (m10, .inl (cy 0, 9, .inl (fun _ => 0))), (m14, .inl (cy 1, 256, .inr (.inl (fun _ => 0)))), (m16, .inl (cy 1, 64, .inr (.inl (fun _ => 0)))), (m17, .inl (cy 1, 24, .inr (.inl (fun _ => 0))))] sz) := by
  refine Met.ofW (cc := cX14_depth) (maxL := 7) (ret := (some .long)) (by decide) rfl ?_
  intro p e s m args below meth c s₁ B hml hv
  obtain ⟨rfl, hsz, hP, hK, hD0, hX, hY⟩ := hv
  have hx := B.exec
  have hb := B.bytes
  have hr := B.returns
  have hts0 := atoms_spec (ws := wz yX14_depth cX14_depth 7 (some .long)) B.pre
  have hts : ∀ w ∈ wAll, w.before _ s = true := fun w h => hts0 w (List.mem_cons_of_mem _ h)
  have hown : s.vm.findClass RX14 = some m.cls := findClass_of_methodNamed B.named
  have hlocks := B.notSynchronized
  subst hsz
  have hD := hD0.self (sz := s.heap.size)
  generalize hAe : va_A [(h0, .inr (17, [.ref m0, .ref m1, .ref m2, .ref m3, .ref m4, .ref m5, .ref m6, .ref m7, .ref m8, .ref m9, .ref m10, .ref m11, .ref m12, .ref m13, .ref m14, .ref m15, .ref m16, .ref m17, .ref m18, .ref m19, .ref m20, .int 0, .int 0, .int 0, .int 0, .long 0, .int 0])), (m0, .inr (2, [.int 0, .ref b1, .int 0])), (m9, .inl (cy 0, 9, .inl (fun _ => 0))), (m12, .inl (cy 2, 9, .inl (fun _ => 0))), (m10, .inl (cy 0, 9, .inl (fun _ => 0))), (m14, .inl (cy 1, 256, .inr (.inl (fun _ => 0)))), (m16, .inl (cy 1, 64, .inr (.inl (fun _ => 0)))), (m17, .inl (cy 1, 24, .inr (.inl (fun _ => 0))))] s.heap.size = A at hD hY ⊢
  have hA : ∀ q : Nat, s.heap.size ≤ q → A q := fun q h => by rw [← hAe]; exact Or.inr h
  have hS : va_S A s.heap s.heap [] := va_S.rf
  have hP : va_P D vwCl [(h0, .inr (17, [.ref m0, .ref m1, .ref m2, .ref m3, .ref m4, .ref m5, .ref m6, .ref m7, .ref m8, .ref m9, .ref m10, .ref m11, .ref m12, .ref m13, .ref m14, .ref m15, .ref m16, .ref m17, .ref m18, .ref m19, .ref m20, .int 0, .int 0, .int 0, .int 0, .long 0, .int 0])), (m0, .inr (2, [.int 0, .ref b1, .int 0])), (m9, .inl (cy 0, 9, .inl (fun _ => 0))), (m12, .inl (cy 2, 9, .inl (fun _ => 0))), (m10, .inl (cy 0, 9, .inl (fun _ => 0))), (m14, .inl (cy 1, 256, .inr (.inl (fun _ => 0)))), (m16, .inl (cy 1, 64, .inr (.inl (fun _ => 0)))), (m17, .inl (cy 1, 24, .inr (.inl (fun _ => 0))))] s.heap := hP
  have hl := lv_entry ([.ref h0, .int d]) (n := 7) (Nat.le_of_ble_eq_true rfl)
  rw [lg_entry_eq]
  generalize (lg_sl ([.ref h0, .int d]) ++ List.replicate (7 - (lg_sl ([.ref h0, .int d])).length) Slot.unset).toArray = ls at hl ⊢
  have hl : lv_has ls 7 [(0, .ref h0), (1, .int d)] := hl
  refine z_anyQ (fun Q hQe => ?_)
  refine lv_iload_n hx hb dX14_depth_0 rfl (lv_at hl 1 rfl) ?_
  refine zq_i (wc := []) (wr := [(h0, .inr (17, [.ref m0, .ref m1, .ref m2, .ref m3, .ref m4, .ref m5, .ref m6, .ref m7, .ref m8, .ref m9, .ref m10, .ref m11, .ref m12, .ref m13, .ref m14, .ref m15, .ref m16, .ref m17, .ref m18, .ref m19, .ref m20, .int 0, .int 0, .int 0, .int 0, .long 0, .int 0])), (m0, .inr (2, [.int 0, .ref b1, .int 0])), (m9, .inl (cy 0, 9, .inl (fun _ => 0))), (m12, .inl (cy 2, 9, .inl (fun _ => 0))), (m10, .inl (cy 0, 9, .inl (fun _ => 0))), (m14, .inl (cy 1, 256, .inr (.inl (fun _ => 0)))), (m16, .inl (cy 1, 64, .inr (.inl (fun _ => 0)))), (m17, .inl (cy 1, 24, .inr (.inl (fun _ => 0))))]) (va_runS (As := [.int d]) (rest := []) ⟨hx, hb, hml, hown, hts⟩ (k_isDay_ok l D cy d s.heap.size hd) (va_cwS 1 hts (gzS (gz q365) q364 q366 q285) rfl rfl rfl vX14_isDay.2 ⟨Nat.le_of_ble_eq_true rfl, Nat.le_of_ble_eq_true rfl⟩) (zpS hK hX hY hP hD hS hA [] (by decide) rfl) rfl rfl hl.1 rfl (lv_room (Nat.le_of_ble_eq_true rfl)) dX14_depth_1 ⟨Nat.le_of_ble_eq_true rfl, Nat.le_of_ble_eq_true rfl⟩) hP hD hS hA [] [0, 1, 2, 3, 4, 5, 6, 7] rfl rfl (by decide) (by decide) (fun x2 u1 H locs hw hP hD hS => ?_)
  obtain rfl : x2 = 1 := hw
  have hP : va_P D vwCl [(h0, .inr (17, [.ref m0, .ref m1, .ref m2, .ref m3, .ref m4, .ref m5, .ref m6, .ref m7, .ref m8, .ref m9, .ref m10, .ref m11, .ref m12, .ref m13, .ref m14, .ref m15, .ref m16, .ref m17, .ref m18, .ref m19, .ref m20, .int 0, .int 0, .int 0, .int 0, .long 0, .int 0])), (m0, .inr (2, [.int 0, .ref b1, .int 0])), (m9, .inl (cy 0, 9, .inl (fun _ => 0))), (m12, .inl (cy 2, 9, .inl (fun _ => 0))), (m10, .inl (cy 0, 9, .inl (fun _ => 0))), (m14, .inl (cy 1, 256, .inr (.inl (fun _ => 0)))), (m16, .inl (cy 1, 64, .inr (.inl (fun _ => 0)))), (m17, .inl (cy 1, 24, .inr (.inl (fun _ => 0))))] H := hP
  have hD : va_D A [(h0, .inr (17, [.ref m0, .ref m1, .ref m2, .ref m3, .ref m4, .ref m5, .ref m6, .ref m7, .ref m8, .ref m9, .ref m10, .ref m11, .ref m12, .ref m13, .ref m14, .ref m15, .ref m16, .ref m17, .ref m18, .ref m19, .ref m20, .int 0, .int 0, .int 0, .int 0, .long 0, .int 0])), (m0, .inr (2, [.int 0, .ref b1, .int 0])), (m9, .inl (cy 0, 9, .inl (fun _ => 0))), (m12, .inl (cy 2, 9, .inl (fun _ => 0))), (m10, .inl (cy 0, 9, .inl (fun _ => 0))), (m14, .inl (cy 1, 256, .inr (.inl (fun _ => 0)))), (m16, .inl (cy 1, 64, .inr (.inl (fun _ => 0)))), (m17, .inl (cy 1, 24, .inr (.inl (fun _ => 0))))] := hD
  refine lv_if_ne (tgt := 14) hx hb dX14_depth_4 (by decide) (fun _ => ?_) (fun c_4_2 => absurd c_4_2 (by decide +kernel))
  refine lv_aload_n hx hb dX14_depth_14 rfl (lv_at hl 0 rfl) ?_
  refine lv_iload_n hx hb dX14_depth_15 rfl (lv_at hl 1 rfl) ?_
  refine lv_iconst (v := (-1)) hx hb dX14_depth_16 (by decide) ?_
  refine zq_v (wc := [(h0, .inr (17, [.ref m0, .ref m1, .ref m2, .ref m3, .ref m4, .ref m5, .ref m6, .ref m7, .ref m8, .ref m9, .ref m10, .ref m11, .ref m12, .ref m13, .ref m14, .ref m15, .ref m16, .ref m17, .ref m18, .ref m19, .ref m20, .int 0, .int 0, .int 0, .int 0, .long 0, .int 0])), (m0, .inr (2, [.int 0, .ref b1, .int 0])), (m9, .inl (cy 0, 9, .inl (fun _ => 0))), (m12, .inl (cy 2, 9, .inl (fun _ => 0))), (m10, .inl (cy 0, 9, .inl (fun _ => 0))), (m14, .inl (cy 1, 256, .inr (.inl (fun _ => 0)))), (m16, .inl (cy 1, 64, .inr (.inl (fun _ => 0)))), (m17, .inl (cy 1, 24, .inr (.inl (fun _ => 0))))]) (wr := []) (va_runV (As := [.int d, .int (-1)]) (rest := []) ⟨hx, hb, hml, hown, hts⟩ (k_m_places l D cy h0 m0 m1 m2 m3 m4 m5 m6 m7 m8 m9 m10 m11 m12 m13 m14 m15 m16 m17 m18 m19 m20 b1 d (-1) H.size ) (cwV 2 hts (gzV (gz q376) q375 q377 q378 q285) rfl rfl rfl vX14_places ⟨Nat.le_of_ble_eq_true rfl, Nat.le_of_ble_eq_true rfl⟩) (zpV (ci := 17) (T := TX14) (N := 27) (q0 := 0) hK hX hY hP hD hS hA [0, 1, 2, 3, 4, 5, 6, 7] (by decide) rfl rfl rfl) rfl rfl hl.1 rfl (lv_room (Nat.le_of_ble_eq_true rfl)) dX14_depth_17 ⟨Nat.le_of_ble_eq_true rfl, Nat.le_of_ble_eq_true rfl⟩) hP hD hS hA [0, 1, 2, 3, 4, 5, 6, 7] [] rfl rfl (by decide) (by decide) (fun u4 H locs hw hP hD hS => ?_)
  have hP : va_P D vwCl [(h0, .inr (17, [.ref m0, .ref m1, .ref m2, .ref m3, .ref m4, .ref m5, .ref m6, .ref m7, .ref m8, .ref m9, .ref m10, .ref m11, .ref m12, .ref m13, .ref m14, .ref m15, .ref m16, .ref m17, .ref m18, .ref m19, .ref m20, .int 0, .int 0, .int 0, .int 0, .long 1, .int 0])), (m0, .inr (2, [.int 0, .ref b1, .int 0]))] H := hP
  have hD : va_D A [(h0, .inr (17, [.ref m0, .ref m1, .ref m2, .ref m3, .ref m4, .ref m5, .ref m6, .ref m7, .ref m8, .ref m9, .ref m10, .ref m11, .ref m12, .ref m13, .ref m14, .ref m15, .ref m16, .ref m17, .ref m18, .ref m19, .ref m20, .int 0, .int 0, .int 0, .int 0, .long 1, .int 0])), (m0, .inr (2, [.int 0, .ref b1, .int 0]))] := hD
  refine lv_lconst (v := 0) hx hb dX14_depth_20 rfl ?_
  refine lv_lstore_n (lv' := [(2, .long 0), (0, .ref h0), (1, .int d)]) hx hb dX14_depth_21 rfl hl (by decide) rfl (fun ls hl => ?_)
  refine lv_lconst (v := 0) hx hb dX14_depth_22 rfl ?_
  refine lv_lstore (lv' := [(4, .long 0), (2, .long 0), (0, .ref h0), (1, .int d)]) hx hb dX14_depth_23 hl (by decide) rfl (fun ls hl => ?_)
  refine lv_iconst (v := 0) hx hb dX14_depth_25 (by decide) ?_
  refine lv_istore (lv' := [(6, .int 0), (4, .long 0), (2, .long 0), (0, .ref h0), (1, .int d)]) hx hb dX14_depth_26 hl (by decide) rfl (fun ls hl => ?_)
  refine lv_iload hx hb dX14_depth_28 (lv_at hl 0 rfl) ?_
  refine lv_aload_n hx hb dX14_depth_30 rfl (lv_at hl 3 rfl) ?_
  refine va_get (D := D) (ci := 17) (v := .int 0) (C := RX14) (T := TX14) (N := 27) hx hb hts iRX14 hown hK hP 0 rfl rfl 22 (by decide) (hts _ q281) (fun _ h9 => h9) rfl dX14_depth_31 ?_
  refine lv_icmp_ge (tgt := 98) hx hb dX14_depth_34 (by decide) (fun _ => ?_) (fun c_34_5 => absurd (by decide +kernel) c_34_5)
  refine lv_aload_n hx hb dX14_depth_98 rfl (lv_at hl 3 rfl) ?_
  refine lv_lload hx hb dX14_depth_99 (lv_at hl 1 rfl) ?_
  refine lv_lload_n hx hb dX14_depth_101 rfl (lv_at hl 2 rfl) ?_
  refine lv_lsub hx hb dX14_depth_102 ?_
  refine lv_topl (fun y7 ey7 => ?_)
  obtain rfl : y7 = 0 := ey7.trans (by decide +kernel)
  refine lv_ldc2 (v := 100) hx hb hown (hts _ q391) dX14_depth_103 ?_
  refine lv_lmul hx hb dX14_depth_106 ?_
  refine lv_topl (fun y8 ey8 => ?_)
  obtain rfl : y8 = 0 := ey8.trans (by decide +kernel)
  refine lv_aload_n hx hb dX14_depth_107 rfl (lv_at hl 3 rfl) ?_
  refine va_get (D := D) (ci := 17) (v := .long 1) (C := RX14) (T := TX14) (N := 27) hx hb hts iRX14 hown hK hP 0 rfl rfl 25 (by decide) (hts _ q309) (fun _ h9 => h9) rfl dX14_depth_108 ?_
  refine lv_ldiv hx hb dX14_depth_111 (by decide) ?_
  refine lv_topl (fun y9 ey9 => ?_)
  obtain rfl : y9 = 0 := ey9.trans (by decide +kernel)
  refine zq_l (wc := [(h0, .inr (17, [.ref m0, .ref m1, .ref m2, .ref m3, .ref m4, .ref m5, .ref m6, .ref m7, .ref m8, .ref m9, .ref m10, .ref m11, .ref m12, .ref m13, .ref m14, .ref m15, .ref m16, .ref m17, .ref m18, .ref m19, .ref m20, .int 0, .int 0, .int 0, .int 0, .long 1, .int 0]))]) (wr := [(m0, .inr (2, [.int 0, .ref b1, .int 0]))]) (va_runV (As := [.long 0]) (rest := []) ⟨hx, hb, hml, hown, hts⟩ (k_tellLong l D cy h0 m0 m1 m2 m3 m4 m5 m6 m7 m8 m9 m10 m11 m12 m13 m14 m15 m16 m17 m18 m19 m20 0 0 0 0 1 0 0 H.size ) (cwV 1 hts (gzV (gz q388) q387 q389 q390 q285) rfl rfl rfl vX14_tellLong ⟨Nat.le_of_ble_eq_true rfl, Nat.le_of_ble_eq_true rfl⟩) (zpV (ci := 17) (T := TX14) (N := 27) (q0 := 0) hK hX hY hP hD hS hA [0] (by decide) rfl rfl rfl) rfl rfl hl.1 rfl (lv_room (Nat.le_of_ble_eq_true rfl)) dX14_depth_112 ⟨Nat.le_of_ble_eq_true rfl, Nat.le_of_ble_eq_true rfl⟩) hP hD hS hA [0] [1] rfl rfl (by decide) (by decide) (fun x11 u10 H locs hw hP hD hS => ?_)
  obtain rfl : x11 = 0 := hw
  have hP : va_P D vwCl [(m0, .inr (2, [.int 0, .ref b1, .int 0])), (h0, .inr (17, [.ref m0, .ref m1, .ref m2, .ref m3, .ref m4, .ref m5, .ref m6, .ref m7, .ref m8, .ref m9, .ref m10, .ref m11, .ref m12, .ref m13, .ref m14, .ref m15, .ref m16, .ref m17, .ref m18, .ref m19, .ref m20, .int 0, .int 0, .int 0, .int 0, .long 1, .int 0]))] H := hP
  have hD : va_D A [(m0, .inr (2, [.int 0, .ref b1, .int 0])), (h0, .inr (17, [.ref m0, .ref m1, .ref m2, .ref m3, .ref m4, .ref m5, .ref m6, .ref m7, .ref m8, .ref m9, .ref m10, .ref m11, .ref m12, .ref m13, .ref m14, .ref m15, .ref m16, .ref m17, .ref m18, .ref m19, .ref m20, .int 0, .int 0, .int 0, .int 0, .long 1, .int 0]))] := hD
  have hP9 := hP.sub (ws' := [(h0, .inr (17, [.ref m0, .ref m1, .ref m2, .ref m3, .ref m4, .ref m5, .ref m6, .ref m7, .ref m8, .ref m9, .ref m10, .ref m11, .ref m12, .ref m13, .ref m14, .ref m15, .ref m16, .ref m17, .ref m18, .ref m19, .ref m20, .int 0, .int 0, .int 0, .int 0, .long 1, .int 0]))]) [1] rfl
  have hD9 := hD.sub (ws' := [(h0, .inr (17, [.ref m0, .ref m1, .ref m2, .ref m3, .ref m4, .ref m5, .ref m6, .ref m7, .ref m8, .ref m9, .ref m10, .ref m11, .ref m12, .ref m13, .ref m14, .ref m15, .ref m16, .ref m17, .ref m18, .ref m19, .ref m20, .int 0, .int 0, .int 0, .int 0, .long 1, .int 0]))]) [1] (by decide) rfl
  refine W.widen (k := 0) (n := 0) (Nat.le_of_ble_eq_true rfl) (Nat.le_of_ble_eq_true rfl) ?_
  rw [hQe]
  exact W.lret (v := 0) hx hb hr (fun t ht hW => ⟨⟨0, (), rfl, rfl, ⟨by rw [ht]; exact hP9, hD9⟩⟩, hS.F ht⟩) hS.2.2 dX14_depth_115
set_option maxHeartbeats 4000000 in
set_option maxRecDepth 100000 in
/-- reference: blunder of a day -/
theorem g_blunder_in (l : Launch) (D : va_G) (cy : Nat → ClassId) (h0 : Nat) (m0 : Nat) (m1 : Nat) (m2 : Nat) (m3 : Nat) (m4 : Nat) (m5 : Nat) (m6 : Nat) (m7 : Nat) (m8 : Nat) (m9 : Nat) (m10 : Nat) (m11 : Nat) (m12 : Nat) (m13 : Nat) (m14 : Nat) (m15 : Nat) (m16 : Nat) (m17 : Nat) (m18 : Nat) (m19 : Nat) (m20 : Nat) (b1 : Nat) (d : Int32) (sz : Nat) (hd : zDay d) : Met l yX14_blunder (wz yX14_blunder cX14_blunder 8 (some .int)) ({ frames := 4, cells := 6, slots := 75, locals := 86 } : Room) (va_Pc [.ref h0, .int d] (zPre vwCl D cy [(h0, .inr (17, [.ref m0, .ref m1, .ref m2, .ref m3, .ref m4, .ref m5, .ref m6, .ref m7, .ref m8, .ref m9, .ref m10, .ref m11, .ref m12, .ref m13, .ref m14, .ref m15, .ref m16, .ref m17, .ref m18, .ref m19, .ref m20, .int 0, .int 0, .int 0, .int 0, .long 0, .int 0])), (m0, .inr (2, [.int 0, .ref b1, .int 0])), (m9, .inl (cy 0, 9, .inl (fun _ => 0))), (m12, .inl (cy 2, 9, .inl (fun _ => 0))), (m10, .inl (cy 0, 9, .inl (fun _ => 0))), (m14, .inl (cy 1, 256, .inr (.inl (fun _ => 0)))), (m16, .inl (cy 1, 64, .inr (.inl (fun _ => 0)))), (m17, .inl (cy 1, 24, .inr (.inl (fun _ => 0))))] sz)) (va_Qi (fun (r : Int32) (_ : Unit) => r = 0) (fun (u : Unit) t => zPost vwCl D (va_A [(h0, .inr (17, [.ref m0, .ref m1, .ref m2, .ref m3, .ref m4, .ref m5, .ref m6, .ref m7, .ref m8, .ref m9, .ref m10, .ref m11, .ref m12, .ref m13, .ref m14, .ref m15, .ref m16, .ref m17, .ref m18, .ref m19, .ref m20, .int 0, .int 0, .int 0, .int 0, .long 0, .int 0])), (m0, .inr (2, [.int 0, .ref b1, .int 0])), (m9, .inl (cy 0, 9, .inl (fun _ => 0))), (m12, .inl (cy 2, 9, .inl (fun _ => 0))), (m10, .inl (cy 0, 9, .inl (fun _ => 0))), (m14, .inl (cy 1, 256, .inr (.inl (fun _ => 0)))), (m16, .inl (cy 1, 64, .inr (.inl (fun _ => 0)))), (m17, .inl (cy 1, 24, .inr (.inl (fun _ => 0))))] sz) [(h0, .inr (17, [.ref m0, .ref m1, .ref m2, .ref m3, .ref m4, .ref m5, .ref m6, .ref m7, .ref m8, .ref m9, .ref m10, .ref m11, .ref m12, .ref m13, .ref m14, .ref m15, .ref m16, .ref m17, .ref m18, .ref m19, .ref m20, .int 2, .int 0, .int 0, .int 0, .long 1, .int 0]))] t) (va_A [(h0, .inr (17, [.ref m0, .ref m1, .ref m2, .ref m3, .ref m4, .ref m5, .ref m6, .ref m7, .ref m8, .ref m9, .ref m10, .ref m11, .ref m12, .ref m13, .ref m14, .ref m15, .ref m16, .ref m17, .ref m18, .ref m19, .ref m20, .int 0, .int 0, .int 0, .int 0, .long 0, .int 0])), (m0, .inr (2, [.int 0, .ref b1, .int 0])), (m9, .inl (cy 0, 9, .inl (fun _ => 0))), (m12, .inl (cy 2, 9, .inl (fun _ => 0))), (m10, .inl (cy 0, 9, .inl (fun _ => 0))), (m14, .inl (cy 1, 256, .inr (.inl (fun _ => 0)))), (m16, .inl (cy 1, 64, .inr (.inl (fun _ => 0)))), (m17, .inl (cy 1, 24, .inr (.inl (fun _ => 0))))] sz)) 6 75 (va_A [(h0, .inr (17, [.ref m0, .ref m1, .ref m2, .ref m3, .ref m4, .ref m5, .ref m6, .ref m7, .ref m8, .ref m9, .ref m10, .ref m11, .ref m12, .ref m13, .ref m14, .ref m15, .ref m16, .ref m17, .ref m18, .ref m19, .ref m20, .int 0, .int 0, .int 0, .int 0, .long 0, .int 0])), (m0, .inr (2, [.int 0, .ref b1, .int 0])), (m9, .inl (cy 0, 9, .inl (fun _ => 0))), (m12, .inl (cy 2, 9, .inl (fun _ => 0))), (m10, .inl (cy 0, 9, .inl (fun _ => 0))), (m14, .inl (cy 1, 256, .inr (.inl (fun _ => 0)))), (m16, .inl (cy 1, 64, .inr (.inl (fun _ => 0)))), (m17, .inl (cy 1, 24, .inr (.inl (fun _ => 0))))] sz) := by
  refine Met.ofW (cc := cX14_blunder) (maxL := 8) (ret := (some .int)) (by decide) rfl ?_
  intro p e s m args below meth c s₁ B hml hv
  obtain ⟨rfl, hsz, hP, hK, hD0, hX, hY⟩ := hv
  have hx := B.exec
  have hb := B.bytes
  have hr := B.returns
  have hts0 := atoms_spec (ws := wz yX14_blunder cX14_blunder 8 (some .int)) B.pre
  have hts : ∀ w ∈ wAll, w.before _ s = true := fun w h => hts0 w (List.mem_cons_of_mem _ h)
  have hown : s.vm.findClass RX14 = some m.cls := findClass_of_methodNamed B.named
  have hlocks := B.notSynchronized
  subst hsz
  have hD := hD0.self (sz := s.heap.size)
  generalize hAe : va_A [(h0, .inr (17, [.ref m0, .ref m1, .ref m2, .ref m3, .ref m4, .ref m5, .ref m6, .ref m7, .ref m8, .ref m9, .ref m10, .ref m11, .ref m12, .ref m13, .ref m14, .ref m15, .ref m16, .ref m17, .ref m18, .ref m19, .ref m20, .int 0, .int 0, .int 0, .int 0, .long 0, .int 0])), (m0, .inr (2, [.int 0, .ref b1, .int 0])), (m9, .inl (cy 0, 9, .inl (fun _ => 0))), (m12, .inl (cy 2, 9, .inl (fun _ => 0))), (m10, .inl (cy 0, 9, .inl (fun _ => 0))), (m14, .inl (cy 1, 256, .inr (.inl (fun _ => 0)))), (m16, .inl (cy 1, 64, .inr (.inl (fun _ => 0)))), (m17, .inl (cy 1, 24, .inr (.inl (fun _ => 0))))] s.heap.size = A at hD hY ⊢
  have hA : ∀ q : Nat, s.heap.size ≤ q → A q := fun q h => by rw [← hAe]; exact Or.inr h
  have hS : va_S A s.heap s.heap [] := va_S.rf
  have hP : va_P D vwCl [(h0, .inr (17, [.ref m0, .ref m1, .ref m2, .ref m3, .ref m4, .ref m5, .ref m6, .ref m7, .ref m8, .ref m9, .ref m10, .ref m11, .ref m12, .ref m13, .ref m14, .ref m15, .ref m16, .ref m17, .ref m18, .ref m19, .ref m20, .int 0, .int 0, .int 0, .int 0, .long 0, .int 0])), (m0, .inr (2, [.int 0, .ref b1, .int 0])), (m9, .inl (cy 0, 9, .inl (fun _ => 0))), (m12, .inl (cy 2, 9, .inl (fun _ => 0))), (m10, .inl (cy 0, 9, .inl (fun _ => 0))), (m14, .inl (cy 1, 256, .inr (.inl (fun _ => 0)))), (m16, .inl (cy 1, 64, .inr (.inl (fun _ => 0)))), (m17, .inl (cy 1, 24, .inr (.inl (fun _ => 0))))] s.heap := hP
  have hl := lv_entry ([.ref h0, .int d]) (n := 8) (Nat.le_of_ble_eq_true rfl)
  rw [lg_entry_eq]
  generalize (lg_sl ([.ref h0, .int d]) ++ List.replicate (8 - (lg_sl ([.ref h0, .int d])).length) Slot.unset).toArray = ls at hl ⊢
  have hl : lv_has ls 8 [(0, .ref h0), (1, .int d)] := hl
  refine z_anyQ (fun Q hQe => ?_)
  refine lv_iload_n hx hb dX14_blunder_0 rfl (lv_at hl 1 rfl) ?_
  refine zq_i (wc := []) (wr := [(h0, .inr (17, [.ref m0, .ref m1, .ref m2, .ref m3, .ref m4, .ref m5, .ref m6, .ref m7, .ref m8, .ref m9, .ref m10, .ref m11, .ref m12, .ref m13, .ref m14, .ref m15, .ref m16, .ref m17, .ref m18, .ref m19, .ref m20, .int 0, .int 0, .int 0, .int 0, .long 0, .int 0])), (m0, .inr (2, [.int 0, .ref b1, .int 0])), (m9, .inl (cy 0, 9, .inl (fun _ => 0))), (m12, .inl (cy 2, 9, .inl (fun _ => 0))), (m10, .inl (cy 0, 9, .inl (fun _ => 0))), (m14, .inl (cy 1, 256, .inr (.inl (fun _ => 0)))), (m16, .inl (cy 1, 64, .inr (.inl (fun _ => 0)))), (m17, .inl (cy 1, 24, .inr (.inl (fun _ => 0))))]) (va_runS (As := [.int d]) (rest := []) ⟨hx, hb, hml, hown, hts⟩ (k_isDay_ok l D cy d s.heap.size hd) (va_cwS 1 hts (gzS (gz q365) q364 q366 q285) rfl rfl rfl vX14_isDay.2 ⟨Nat.le_of_ble_eq_true rfl, Nat.le_of_ble_eq_true rfl⟩) (zpS hK hX hY hP hD hS hA [] (by decide) rfl) rfl rfl hl.1 rfl (lv_room (Nat.le_of_ble_eq_true rfl)) dX14_blunder_1 ⟨Nat.le_of_ble_eq_true rfl, Nat.le_of_ble_eq_true rfl⟩) hP hD hS hA [] [0, 1, 2, 3, 4, 5, 6, 7] rfl rfl (by decide) (by decide) (fun x2 u1 H locs hw hP hD hS => ?_)
  obtain rfl : x2 = 1 := hw
  have hP : va_P D vwCl [(h0, .inr (17, [.ref m0, .ref m1, .ref m2, .ref m3, .ref m4, .ref m5, .ref m6, .ref m7, .ref m8, .ref m9, .ref m10, .ref m11, .ref m12, .ref m13, .ref m14, .ref m15, .ref m16, .ref m17, .ref m18, .ref m19, .ref m20, .int 0, .int 0, .int 0, .int 0, .long 0, .int 0])), (m0, .inr (2, [.int 0, .ref b1, .int 0])), (m9, .inl (cy 0, 9, .inl (fun _ => 0))), (m12, .inl (cy 2, 9, .inl (fun _ => 0))), (m10, .inl (cy 0, 9, .inl (fun _ => 0))), (m14, .inl (cy 1, 256, .inr (.inl (fun _ => 0)))), (m16, .inl (cy 1, 64, .inr (.inl (fun _ => 0)))), (m17, .inl (cy 1, 24, .inr (.inl (fun _ => 0))))] H := hP
  have hD : va_D A [(h0, .inr (17, [.ref m0, .ref m1, .ref m2, .ref m3, .ref m4, .ref m5, .ref m6, .ref m7, .ref m8, .ref m9, .ref m10, .ref m11, .ref m12, .ref m13, .ref m14, .ref m15, .ref m16, .ref m17, .ref m18, .ref m19, .ref m20, .int 0, .int 0, .int 0, .int 0, .long 0, .int 0])), (m0, .inr (2, [.int 0, .ref b1, .int 0])), (m9, .inl (cy 0, 9, .inl (fun _ => 0))), (m12, .inl (cy 2, 9, .inl (fun _ => 0))), (m10, .inl (cy 0, 9, .inl (fun _ => 0))), (m14, .inl (cy 1, 256, .inr (.inl (fun _ => 0)))), (m16, .inl (cy 1, 64, .inr (.inl (fun _ => 0)))), (m17, .inl (cy 1, 24, .inr (.inl (fun _ => 0))))] := hD
  refine lv_if_ne (tgt := 13) hx hb dX14_blunder_4 (by decide) (fun _ => ?_) (fun c_4_2 => absurd c_4_2 (by decide +kernel))
  refine lv_aload_n hx hb dX14_blunder_13 rfl (lv_at hl 0 rfl) ?_
  refine lv_iload_n hx hb dX14_blunder_14 rfl (lv_at hl 1 rfl) ?_
  refine lv_iconst (v := (-1)) hx hb dX14_blunder_15 (by decide) ?_
  refine zq_v (wc := [(h0, .inr (17, [.ref m0, .ref m1, .ref m2, .ref m3, .ref m4, .ref m5, .ref m6, .ref m7, .ref m8, .ref m9, .ref m10, .ref m11, .ref m12, .ref m13, .ref m14, .ref m15, .ref m16, .ref m17, .ref m18, .ref m19, .ref m20, .int 0, .int 0, .int 0, .int 0, .long 0, .int 0])), (m0, .inr (2, [.int 0, .ref b1, .int 0])), (m9, .inl (cy 0, 9, .inl (fun _ => 0))), (m12, .inl (cy 2, 9, .inl (fun _ => 0))), (m10, .inl (cy 0, 9, .inl (fun _ => 0))), (m14, .inl (cy 1, 256, .inr (.inl (fun _ => 0)))), (m16, .inl (cy 1, 64, .inr (.inl (fun _ => 0)))), (m17, .inl (cy 1, 24, .inr (.inl (fun _ => 0))))]) (wr := []) (va_runV (As := [.int d, .int (-1)]) (rest := []) ⟨hx, hb, hml, hown, hts⟩ (k_m_places l D cy h0 m0 m1 m2 m3 m4 m5 m6 m7 m8 m9 m10 m11 m12 m13 m14 m15 m16 m17 m18 m19 m20 b1 d (-1) H.size ) (cwV 2 hts (gzV (gz q376) q375 q377 q378 q285) rfl rfl rfl vX14_places ⟨Nat.le_of_ble_eq_true rfl, Nat.le_of_ble_eq_true rfl⟩) (zpV (ci := 17) (T := TX14) (N := 27) (q0 := 0) hK hX hY hP hD hS hA [0, 1, 2, 3, 4, 5, 6, 7] (by decide) rfl rfl rfl) rfl rfl hl.1 rfl (lv_room (Nat.le_of_ble_eq_true rfl)) dX14_blunder_16 ⟨Nat.le_of_ble_eq_true rfl, Nat.le_of_ble_eq_true rfl⟩) hP hD hS hA [0, 1, 2, 3, 4, 5, 6, 7] [] rfl rfl (by decide) (by decide) (fun u4 H locs hw hP hD hS => ?_)
  have hP : va_P D vwCl [(h0, .inr (17, [.ref m0, .ref m1, .ref m2, .ref m3, .ref m4, .ref m5, .ref m6, .ref m7, .ref m8, .ref m9, .ref m10, .ref m11, .ref m12, .ref m13, .ref m14, .ref m15, .ref m16, .ref m17, .ref m18, .ref m19, .ref m20, .int 0, .int 0, .int 0, .int 0, .long 1, .int 0])), (m0, .inr (2, [.int 0, .ref b1, .int 0]))] H := hP
  have hD : va_D A [(h0, .inr (17, [.ref m0, .ref m1, .ref m2, .ref m3, .ref m4, .ref m5, .ref m6, .ref m7, .ref m8, .ref m9, .ref m10, .ref m11, .ref m12, .ref m13, .ref m14, .ref m15, .ref m16, .ref m17, .ref m18, .ref m19, .ref m20, .int 0, .int 0, .int 0, .int 0, .long 1, .int 0])), (m0, .inr (2, [.int 0, .ref b1, .int 0]))] := hD
  refine lv_aload_n hx hb dX14_blunder_19 rfl (lv_at hl 0 rfl) ?_
  refine va_get (D := D) (ci := 17) (v := .int 0) (C := RX14) (T := TX14) (N := 27) hx hb hts iRX14 hown hK hP 0 rfl rfl 24 (by decide) (hts _ q296) (fun _ h9 => h9) rfl dX14_blunder_20 ?_
  refine lv_istore_n (lv' := [(2, .int 0), (0, .ref h0), (1, .int d)]) hx hb dX14_blunder_23 rfl hl (by decide) rfl (fun ls hl => ?_)
  refine lv_aload_n hx hb dX14_blunder_24 rfl (lv_at hl 1 rfl) ?_
  refine zq_r (wc := [(h0, .inr (17, [.ref m0, .ref m1, .ref m2, .ref m3, .ref m4, .ref m5, .ref m6, .ref m7, .ref m8, .ref m9, .ref m10, .ref m11, .ref m12, .ref m13, .ref m14, .ref m15, .ref m16, .ref m17, .ref m18, .ref m19, .ref m20, .int 0, .int 0, .int 0, .int 0, .long 1, .int 0])), (m0, .inr (2, [.int 0, .ref b1, .int 0]))]) (wr := []) (va_runV (As := []) (rest := []) ⟨hx, hb, hml, hown, hts⟩ (k_allSquares l D cy h0 m0 m1 m2 m3 m4 m5 m6 m7 m8 m9 m10 m11 m12 m13 m14 m15 m16 m17 m18 m19 m20 b1 H.size ) (cwV 0 hts (gzV (gz q380) q379 q381 q382 q285) rfl rfl rfl vX14_allSquares ⟨Nat.le_of_ble_eq_true rfl, Nat.le_of_ble_eq_true rfl⟩) (zpV (ci := 17) (T := TX14) (N := 27) (q0 := 0) hK hX hY hP hD hS hA [0, 1] (by decide) rfl rfl rfl) rfl rfl hl.1 rfl (lv_room (Nat.le_of_ble_eq_true rfl)) dX14_blunder_25 ⟨Nat.le_of_ble_eq_true rfl, Nat.le_of_ble_eq_true rfl⟩) hP hD hS hA [0, 1] [] rfl rfl (by decide) (by decide) (fun u6 x7 H locs hw hP hD hS => ?_)
  have hP : va_P D vwCl [(x7, .inr (16, [.ref u6])), (u6, .inl (cy 0, 24, .inl (zE 0))), (h0, .inr (17, [.ref m0, .ref m1, .ref m2, .ref m3, .ref m4, .ref m5, .ref m6, .ref m7, .ref m8, .ref m9, .ref m10, .ref m11, .ref m12, .ref m13, .ref m14, .ref m15, .ref m16, .ref m17, .ref m18, .ref m19, .ref m20, .int 0, .int 0, .int 0, .int 0, .long 1, .int 0])), (m0, .inr (2, [.int 0, .ref b1, .int 0]))] H := hP
  have hD : va_D A [(x7, .inr (16, [.ref u6])), (u6, .inl (cy 0, 24, .inl (zE 0))), (h0, .inr (17, [.ref m0, .ref m1, .ref m2, .ref m3, .ref m4, .ref m5, .ref m6, .ref m7, .ref m8, .ref m9, .ref m10, .ref m11, .ref m12, .ref m13, .ref m14, .ref m15, .ref m16, .ref m17, .ref m18, .ref m19, .ref m20, .int 0, .int 0, .int 0, .int 0, .long 1, .int 0])), (m0, .inr (2, [.int 0, .ref b1, .int 0]))] := hD
  refine W.widen (k := 2) (n := 25) (by omega) (by omega) ?_
  refine lv_astore_n (lv' := [(3, .ref x7), (2, .int 0), (0, .ref h0), (1, .int d)]) hx hb dX14_blunder_28 rfl hl (by decide) rfl (fun ls hl => ?_)
  refine lv_aload_n hx hb dX14_blunder_29 rfl (lv_at hl 2 rfl) ?_
  refine zq_r (wc := [(h0, .inr (17, [.ref m0, .ref m1, .ref m2, .ref m3, .ref m4, .ref m5, .ref m6, .ref m7, .ref m8, .ref m9, .ref m10, .ref m11, .ref m12, .ref m13, .ref m14, .ref m15, .ref m16, .ref m17, .ref m18, .ref m19, .ref m20, .int 0, .int 0, .int 0, .int 0, .long 1, .int 0]))]) (wr := [(x7, .inr (16, [.ref u6])), (u6, .inl (cy 0, 24, .inl (zE 0))), (m0, .inr (2, [.int 0, .ref b1, .int 0]))]) (va_runV (As := []) (rest := []) ⟨hx, hb, hml, hown, hts⟩ (k_baseSquare l D cy h0 m0 m1 m2 m3 m4 m5 m6 m7 m8 m9 m10 m11 m12 m13 m14 m15 m16 m17 m18 m19 m20 H.size ) (cwV 0 hts (gzV (gz q327) q326 q328 q329 q285) rfl rfl rfl vX14_baseSquare ⟨Nat.le_of_ble_eq_true rfl, Nat.le_of_ble_eq_true rfl⟩) (zpV (ci := 17) (T := TX14) (N := 27) (q0 := 0) hK hX hY hP hD hS hA [2] (by decide) rfl rfl rfl) rfl rfl hl.1 rfl (lv_room (Nat.le_of_ble_eq_true rfl)) dX14_blunder_30 ⟨Nat.le_of_ble_eq_true rfl, Nat.le_of_ble_eq_true rfl⟩) hP hD hS hA [2] [0, 1, 3] rfl rfl (by decide) (by decide) (fun u8 x9 H locs hw hP hD hS => ?_)
  have hP : va_P D vwCl [(x7, .inr (16, [.ref u6])), (u6, .inl (cy 0, 24, .inl (zE 0))), (m0, .inr (2, [.int 0, .ref b1, .int 0])), (x9, .inr (16, [.ref u8])), (u8, .inl (cy 0, 24, .inl (zE 1))), (h0, .inr (17, [.ref m0, .ref m1, .ref m2, .ref m3, .ref m4, .ref m5, .ref m6, .ref m7, .ref m8, .ref m9, .ref m10, .ref m11, .ref m12, .ref m13, .ref m14, .ref m15, .ref m16, .ref m17, .ref m18, .ref m19, .ref m20, .int 0, .int 0, .int 0, .int 0, .long 1, .int 0]))] H := hP
  have hD : va_D A [(x7, .inr (16, [.ref u6])), (u6, .inl (cy 0, 24, .inl (zE 0))), (m0, .inr (2, [.int 0, .ref b1, .int 0])), (x9, .inr (16, [.ref u8])), (u8, .inl (cy 0, 24, .inl (zE 1))), (h0, .inr (17, [.ref m0, .ref m1, .ref m2, .ref m3, .ref m4, .ref m5, .ref m6, .ref m7, .ref m8, .ref m9, .ref m10, .ref m11, .ref m12, .ref m13, .ref m14, .ref m15, .ref m16, .ref m17, .ref m18, .ref m19, .ref m20, .int 0, .int 0, .int 0, .int 0, .long 1, .int 0]))] := hD
  refine W.widen (k := 6) (n := 75) (by omega) (by omega) ?_
  refine lv_astore (lv' := [(4, .ref x9), (3, .ref x7), (2, .int 0), (0, .ref h0), (1, .int d)]) hx hb dX14_blunder_33 hl (by decide) rfl (fun ls hl => ?_)
  refine lv_iconst (v := (-1)) hx hb dX14_blunder_35 (by decide) ?_
  refine lv_istore (lv' := [(5, .int (-1)), (4, .ref x9), (3, .ref x7), (2, .int 0), (0, .ref h0), (1, .int d)]) hx hb dX14_blunder_36 hl (by decide) rfl (fun ls hl => ?_)
  refine lv_iconst (v := 0) hx hb dX14_blunder_38 (by decide) ?_
  refine lv_istore (lv' := [(6, .int 0), (5, .int (-1)), (4, .ref x9), (3, .ref x7), (2, .int 0), (0, .ref h0), (1, .int d)]) hx hb dX14_blunder_39 hl (by decide) rfl (fun ls hl => ?_)
  refine lv_iload hx hb dX14_blunder_41 (lv_at hl 0 rfl) ?_
  refine lv_aload_n hx hb dX14_blunder_43 rfl (lv_at hl 5 rfl) ?_
  refine va_get (D := D) (ci := 17) (v := .ref m0) (C := RX14) (T := TX14) (N := 27) hx hb hts iRX14 hown hK hP 5 rfl rfl 0 (by decide) (hts _ q259) (fun _ h9 => h9) rfl dX14_blunder_44 ?_
  refine zq_i (wc := [(m0, .inr (2, [.int 0, .ref b1, .int 0]))]) (wr := [(x7, .inr (16, [.ref u6])), (u6, .inl (cy 0, 24, .inl (zE 0))), (x9, .inr (16, [.ref u8])), (u8, .inl (cy 0, 24, .inl (zE 1))), (h0, .inr (17, [.ref m0, .ref m1, .ref m2, .ref m3, .ref m4, .ref m5, .ref m6, .ref m7, .ref m8, .ref m9, .ref m10, .ref m11, .ref m12, .ref m13, .ref m14, .ref m15, .ref m16, .ref m17, .ref m18, .ref m19, .ref m20, .int 0, .int 0, .int 0, .int 0, .long 1, .int 0]))]) (va_runV (As := []) (rest := [.int 0]) ⟨hx, hb, hml, hown, hts⟩ (k_AL_size l D cy m0 b1 H.size ) (cwV 0 hts (gzV (gz q287) q286 q288 q289 q255) rfl rfl rfl vJx4a65c_size_8abf5 ⟨Nat.le_of_ble_eq_true rfl, Nat.le_of_ble_eq_true rfl⟩) (zpV (ci := 2) (T := TJx4a65c) (N := 3) (q0 := 0) hK hX hY hP hD hS hA [2] (by decide) rfl rfl rfl) rfl rfl hl.1 rfl (lv_room (Nat.le_of_ble_eq_true rfl)) dX14_blunder_47 ⟨Nat.le_of_ble_eq_true rfl, Nat.le_of_ble_eq_true rfl⟩) hP hD hS hA [2] [0, 1, 3, 4, 5] rfl rfl (by decide) (by decide) (fun x11 u10 H locs hw hP hD hS => ?_)
  obtain rfl : x11 = 0 := hw
  have hP : va_P D vwCl [(x7, .inr (16, [.ref u6])), (u6, .inl (cy 0, 24, .inl (zE 0))), (x9, .inr (16, [.ref u8])), (u8, .inl (cy 0, 24, .inl (zE 1))), (h0, .inr (17, [.ref m0, .ref m1, .ref m2, .ref m3, .ref m4, .ref m5, .ref m6, .ref m7, .ref m8, .ref m9, .ref m10, .ref m11, .ref m12, .ref m13, .ref m14, .ref m15, .ref m16, .ref m17, .ref m18, .ref m19, .ref m20, .int 0, .int 0, .int 0, .int 0, .long 1, .int 0])), (m0, .inr (2, [.int 0, .ref b1, .int 0]))] H := hP
  have hD : va_D A [(x7, .inr (16, [.ref u6])), (u6, .inl (cy 0, 24, .inl (zE 0))), (x9, .inr (16, [.ref u8])), (u8, .inl (cy 0, 24, .inl (zE 1))), (h0, .inr (17, [.ref m0, .ref m1, .ref m2, .ref m3, .ref m4, .ref m5, .ref m6, .ref m7, .ref m8, .ref m9, .ref m10, .ref m11, .ref m12, .ref m13, .ref m14, .ref m15, .ref m16, .ref m17, .ref m18, .ref m19, .ref m20, .int 0, .int 0, .int 0, .int 0, .long 1, .int 0])), (m0, .inr (2, [.int 0, .ref b1, .int 0]))] := hD
  refine lv_icmp_ge (tgt := 139) hx hb dX14_blunder_50 (by decide) (fun _ => ?_) (fun c_50_11 => absurd (by decide +kernel) c_50_11)
  refine lv_iload hx hb dX14_blunder_139 (lv_at hl 1 rfl) ?_
  refine lv_iconst (v := (-1)) hx hb dX14_blunder_141 (by decide) ?_
  refine lv_icmp_ne (tgt := 153) hx hb dX14_blunder_142 (by decide) (fun c_142_12 => absurd (by decide +kernel) c_142_12) (fun _ => ?_)
  refine lv_aload_n hx hb dX14_blunder_145 rfl (lv_at hl 5 rfl) ?_
  refine lv_iconst (v := 2) hx hb dX14_blunder_146 (by decide) ?_
  refine zq_i (wc := [(h0, .inr (17, [.ref m0, .ref m1, .ref m2, .ref m3, .ref m4, .ref m5, .ref m6, .ref m7, .ref m8, .ref m9, .ref m10, .ref m11, .ref m12, .ref m13, .ref m14, .ref m15, .ref m16, .ref m17, .ref m18, .ref m19, .ref m20, .int 0, .int 0, .int 0, .int 0, .long 1, .int 0]))]) (wr := [(x7, .inr (16, [.ref u6])), (u6, .inl (cy 0, 24, .inl (zE 0))), (x9, .inr (16, [.ref u8])), (u8, .inl (cy 0, 24, .inl (zE 1))), (m0, .inr (2, [.int 0, .ref b1, .int 0]))]) (va_runV (As := [.int 2]) (rest := []) ⟨hx, hb, hml, hown, hts⟩ (k_fails l D cy h0 m0 m1 m2 m3 m4 m5 m6 m7 m8 m9 m10 m11 m12 m13 m14 m15 m16 m17 m18 m19 m20 0 0 0 0 1 0 2 H.size ) (cwV 1 hts (gzV (gz q345) q344 q346 q347 q285) rfl rfl rfl vX14_fails ⟨Nat.le_of_ble_eq_true rfl, Nat.le_of_ble_eq_true rfl⟩) (zpV (ci := 17) (T := TX14) (N := 27) (q0 := 0) hK hX hY hP hD hS hA [4] (by decide) rfl rfl rfl) rfl rfl hl.1 rfl (lv_room (Nat.le_of_ble_eq_true rfl)) dX14_blunder_147 ⟨Nat.le_of_ble_eq_true rfl, Nat.le_of_ble_eq_true rfl⟩) hP hD hS hA [4] [0, 1, 2, 3, 5] rfl rfl (by decide) (by decide) (fun x15 u14 H locs hw hP hD hS => ?_)
  obtain rfl : x15 = 0 := hw
  have hP : va_P D vwCl [(x7, .inr (16, [.ref u6])), (u6, .inl (cy 0, 24, .inl (zE 0))), (x9, .inr (16, [.ref u8])), (u8, .inl (cy 0, 24, .inl (zE 1))), (m0, .inr (2, [.int 0, .ref b1, .int 0])), (h0, .inr (17, [.ref m0, .ref m1, .ref m2, .ref m3, .ref m4, .ref m5, .ref m6, .ref m7, .ref m8, .ref m9, .ref m10, .ref m11, .ref m12, .ref m13, .ref m14, .ref m15, .ref m16, .ref m17, .ref m18, .ref m19, .ref m20, .int 2, .int 0, .int 0, .int 0, .long 1, .int 0]))] H := hP
  have hD : va_D A [(x7, .inr (16, [.ref u6])), (u6, .inl (cy 0, 24, .inl (zE 0))), (x9, .inr (16, [.ref u8])), (u8, .inl (cy 0, 24, .inl (zE 1))), (m0, .inr (2, [.int 0, .ref b1, .int 0])), (h0, .inr (17, [.ref m0, .ref m1, .ref m2, .ref m3, .ref m4, .ref m5, .ref m6, .ref m7, .ref m8, .ref m9, .ref m10, .ref m11, .ref m12, .ref m13, .ref m14, .ref m15, .ref m16, .ref m17, .ref m18, .ref m19, .ref m20, .int 2, .int 0, .int 0, .int 0, .long 1, .int 0]))] := hD
  refine lv_goto (tgt := 159) hx hb dX14_blunder_150 (by decide) ?_
  have hP9 := hP.sub (ws' := [(h0, .inr (17, [.ref m0, .ref m1, .ref m2, .ref m3, .ref m4, .ref m5, .ref m6, .ref m7, .ref m8, .ref m9, .ref m10, .ref m11, .ref m12, .ref m13, .ref m14, .ref m15, .ref m16, .ref m17, .ref m18, .ref m19, .ref m20, .int 2, .int 0, .int 0, .int 0, .long 1, .int 0]))]) [5] rfl
  have hD9 := hD.sub (ws' := [(h0, .inr (17, [.ref m0, .ref m1, .ref m2, .ref m3, .ref m4, .ref m5, .ref m6, .ref m7, .ref m8, .ref m9, .ref m10, .ref m11, .ref m12, .ref m13, .ref m14, .ref m15, .ref m16, .ref m17, .ref m18, .ref m19, .ref m20, .int 2, .int 0, .int 0, .int 0, .long 1, .int 0]))]) [5] (by decide) rfl
  refine W.widen (k := 6) (n := 75) (Nat.le_of_ble_eq_true rfl) (Nat.le_of_ble_eq_true rfl) ?_
  rw [hQe]
  exact W.iret (v := 0) hx hb hr (fun t ht hW => ⟨⟨0, (), rfl, rfl, ⟨by rw [ht]; exact hP9, hD9⟩⟩, hS.F ht⟩) hS.2.2 dX14_blunder_159
set_option maxHeartbeats 4000000 in
set_option maxRecDepth 100000 in
theorem g_hungShare_in (l : Launch) (D : va_G) (cy : Nat → ClassId) (h0 : Nat) (m0 : Nat) (m1 : Nat) (m2 : Nat) (m3 : Nat) (m4 : Nat) (m5 : Nat) (m6 : Nat) (m7 : Nat) (m8 : Nat) (m9 : Nat) (m10 : Nat) (m11 : Nat) (m12 : Nat) (m13 : Nat) (m14 : Nat) (m15 : Nat) (m16 : Nat) (m17 : Nat) (m18 : Nat) (m19 : Nat) (m20 : Nat) (d : Int32) (sz : Nat) (hd : zDay d) : Met l yX14_hungShare (wz yX14_hungShare cX14_hungShare 4 (some .float)) ({ frames := 2, cells := 0, slots := 0, locals := 45 } : Room) (va_Pc [.ref h0, .int d] (zPre vwCl D cy [(h0, .inr (17, [.ref m0, .ref m1, .ref m2, .ref m3, .ref m4, .ref m5, .ref m6, .ref m7, .ref m8, .ref m9, .ref m10, .ref m11, .ref m12, .ref m13, .ref m14, .ref m15, .ref m16, .ref m17, .ref m18, .ref m19, .ref m20, .int 0, .int 0, .int 0, .int 0, .long 0, .int 0]))] sz)) (va_Qf (fun (r : UInt32) (_ : Unit) => r = FP.fconst0) (fun (u : Unit) t => zPost vwCl D (va_A [(h0, .inr (17, [.ref m0, .ref m1, .ref m2, .ref m3, .ref m4, .ref m5, .ref m6, .ref m7, .ref m8, .ref m9, .ref m10, .ref m11, .ref m12, .ref m13, .ref m14, .ref m15, .ref m16, .ref m17, .ref m18, .ref m19, .ref m20, .int 0, .int 0, .int 0, .int 0, .long 0, .int 0]))] sz) [(h0, .inr (17, [.ref m0, .ref m1, .ref m2, .ref m3, .ref m4, .ref m5, .ref m6, .ref m7, .ref m8, .ref m9, .ref m10, .ref m11, .ref m12, .ref m13, .ref m14, .ref m15, .ref m16, .ref m17, .ref m18, .ref m19, .ref m20, .int 2, .int 0, .int 0, .int 0, .long 0, .int 0]))] t) (va_A [(h0, .inr (17, [.ref m0, .ref m1, .ref m2, .ref m3, .ref m4, .ref m5, .ref m6, .ref m7, .ref m8, .ref m9, .ref m10, .ref m11, .ref m12, .ref m13, .ref m14, .ref m15, .ref m16, .ref m17, .ref m18, .ref m19, .ref m20, .int 0, .int 0, .int 0, .int 0, .long 0, .int 0]))] sz)) 0 0 (va_A [(h0, .inr (17, [.ref m0, .ref m1, .ref m2, .ref m3, .ref m4, .ref m5, .ref m6, .ref m7, .ref m8, .ref m9, .ref m10, .ref m11, .ref m12, .ref m13, .ref m14, .ref m15, .ref m16, .ref m17, .ref m18, .ref m19, .ref m20, .int 0, .int 0, .int 0, .int 0, .long 0, .int 0]))] sz) := by
  refine Met.ofW (cc := cX14_hungShare) (maxL := 4) (ret := (some .float)) (by decide) rfl ?_
  intro p e s m args below meth c s₁ B hml hv
  obtain ⟨rfl, hsz, hP, hK, hD0, hX, hY⟩ := hv
  have hx := B.exec
  have hb := B.bytes
  have hr := B.returns
  have hts0 := atoms_spec (ws := wz yX14_hungShare cX14_hungShare 4 (some .float)) B.pre
  have hts : ∀ w ∈ wAll, w.before _ s = true := fun w h => hts0 w (List.mem_cons_of_mem _ h)
  have hown : s.vm.findClass RX14 = some m.cls := findClass_of_methodNamed B.named
  have hlocks := B.notSynchronized
  subst hsz
  have hD := hD0.self (sz := s.heap.size)
  generalize hAe : va_A [(h0, .inr (17, [.ref m0, .ref m1, .ref m2, .ref m3, .ref m4, .ref m5, .ref m6, .ref m7, .ref m8, .ref m9, .ref m10, .ref m11, .ref m12, .ref m13, .ref m14, .ref m15, .ref m16, .ref m17, .ref m18, .ref m19, .ref m20, .int 0, .int 0, .int 0, .int 0, .long 0, .int 0]))] s.heap.size = A at hD hY ⊢
  have hA : ∀ q : Nat, s.heap.size ≤ q → A q := fun q h => by rw [← hAe]; exact Or.inr h
  have hS : va_S A s.heap s.heap [] := va_S.rf
  have hP : va_P D vwCl [(h0, .inr (17, [.ref m0, .ref m1, .ref m2, .ref m3, .ref m4, .ref m5, .ref m6, .ref m7, .ref m8, .ref m9, .ref m10, .ref m11, .ref m12, .ref m13, .ref m14, .ref m15, .ref m16, .ref m17, .ref m18, .ref m19, .ref m20, .int 0, .int 0, .int 0, .int 0, .long 0, .int 0]))] s.heap := hP
  have hl := lv_entry ([.ref h0, .int d]) (n := 4) (Nat.le_of_ble_eq_true rfl)
  rw [lg_entry_eq]
  generalize (lg_sl ([.ref h0, .int d]) ++ List.replicate (4 - (lg_sl ([.ref h0, .int d])).length) Slot.unset).toArray = ls at hl ⊢
  have hl : lv_has ls 4 [(0, .ref h0), (1, .int d)] := hl
  refine z_anyQ (fun Q hQe => ?_)
  refine lv_aload_n hx hb dX14_hungShare_0 rfl (lv_at hl 0 rfl) ?_
  refine lv_iload_n hx hb dX14_hungShare_1 rfl (lv_at hl 1 rfl) ?_
  refine zq_i (wc := []) (wr := [(h0, .inr (17, [.ref m0, .ref m1, .ref m2, .ref m3, .ref m4, .ref m5, .ref m6, .ref m7, .ref m8, .ref m9, .ref m10, .ref m11, .ref m12, .ref m13, .ref m14, .ref m15, .ref m16, .ref m17, .ref m18, .ref m19, .ref m20, .int 0, .int 0, .int 0, .int 0, .long 0, .int 0]))]) (va_runS (As := [.int d]) (rest := [.ref h0]) ⟨hx, hb, hml, hown, hts⟩ (k_isDay_ok l D cy d s.heap.size hd) (va_cwS 1 hts (gzS (gz q365) q364 q366 q285) rfl rfl rfl vX14_isDay.2 ⟨Nat.le_of_ble_eq_true rfl, Nat.le_of_ble_eq_true rfl⟩) (zpS hK hX hY hP hD hS hA [] (by decide) rfl) rfl rfl hl.1 rfl (lv_room (Nat.le_of_ble_eq_true rfl)) dX14_hungShare_2 ⟨Nat.le_of_ble_eq_true rfl, Nat.le_of_ble_eq_true rfl⟩) hP hD hS hA [] [0] rfl rfl (by decide) (by decide) (fun x2 u1 H locs hw hP hD hS => ?_)
  obtain rfl : x2 = 1 := hw
  have hP : va_P D vwCl [(h0, .inr (17, [.ref m0, .ref m1, .ref m2, .ref m3, .ref m4, .ref m5, .ref m6, .ref m7, .ref m8, .ref m9, .ref m10, .ref m11, .ref m12, .ref m13, .ref m14, .ref m15, .ref m16, .ref m17, .ref m18, .ref m19, .ref m20, .int 0, .int 0, .int 0, .int 0, .long 0, .int 0]))] H := hP
  have hD : va_D A [(h0, .inr (17, [.ref m0, .ref m1, .ref m2, .ref m3, .ref m4, .ref m5, .ref m6, .ref m7, .ref m8, .ref m9, .ref m10, .ref m11, .ref m12, .ref m13, .ref m14, .ref m15, .ref m16, .ref m17, .ref m18, .ref m19, .ref m20, .int 0, .int 0, .int 0, .int 0, .long 0, .int 0]))] := hD
  refine lv_if_ne (tgt := 12) hx hb dX14_hungShare_5 (by decide) (fun _ => ?_) (fun c_5_2 => absurd c_5_2 (by decide +kernel))
  refine lv_aload_n hx hb dX14_hungShare_12 rfl (lv_at hl 0 rfl) ?_
  refine va_get (D := D) (ci := 17) (v := .int 0) (C := RX14) (T := TX14) (N := 27) hx hb hts iRX14 hown hK hP 0 rfl rfl 22 (by decide) (hts _ q281) (fun _ h9 => h9) rfl dX14_hungShare_13 ?_
  refine lv_if_ne (tgt := 23) hx hb dX14_hungShare_16 (by decide) (fun c_16_3 => absurd (by decide +kernel) c_16_3) (fun _ => ?_)
  refine lv_iconst (v := 2) hx hb dX14_hungShare_19 (by decide) ?_
  refine lv_goto (tgt := 24) hx hb dX14_hungShare_20 (by decide) ?_
  refine va_put (D := D) (ci := 17) (v := .int 2) (ty := .int) (C := RX14) (T := TX14) (N := 27) hx hb hts iRX14 tyX14 tyX14_ok nmX14 hown hK hP hD hS 0 rfl rfl 21 (by decide) (hts _ q280) (fun _ h9 => h9) rfl (tyX14_ok 21 (by decide)) rfl rfl (Nat.le_of_ble_eq_true rfl) dX14_hungShare_24 (fun H locs hP hD hS => ?_)
  have hP : va_P D vwCl [(h0, .inr (17, [.ref m0, .ref m1, .ref m2, .ref m3, .ref m4, .ref m5, .ref m6, .ref m7, .ref m8, .ref m9, .ref m10, .ref m11, .ref m12, .ref m13, .ref m14, .ref m15, .ref m16, .ref m17, .ref m18, .ref m19, .ref m20, .int 2, .int 0, .int 0, .int 0, .long 0, .int 0]))] H := hP
  have hD : va_D A [(h0, .inr (17, [.ref m0, .ref m1, .ref m2, .ref m3, .ref m4, .ref m5, .ref m6, .ref m7, .ref m8, .ref m9, .ref m10, .ref m11, .ref m12, .ref m13, .ref m14, .ref m15, .ref m16, .ref m17, .ref m18, .ref m19, .ref m20, .int 2, .int 0, .int 0, .int 0, .long 0, .int 0]))] := hD
  refine lv_aload_n hx hb dX14_hungShare_27 rfl (lv_at hl 0 rfl) ?_
  refine va_get (D := D) (ci := 17) (v := .int 2) (C := RX14) (T := TX14) (N := 27) hx hb hts iRX14 hown hK hP 0 rfl rfl 21 (by decide) (hts _ q280) (fun _ h9 => h9) rfl dX14_hungShare_28 ?_
  refine lv_if_le (tgt := 36) hx hb dX14_hungShare_31 (by decide) (fun c_31_4 => absurd c_31_4 (by decide +kernel)) (fun _ => ?_)
  refine lv_fconst0 hx hb dX14_hungShare_34 ?_
  have hP9 := hP.sub (ws' := [(h0, .inr (17, [.ref m0, .ref m1, .ref m2, .ref m3, .ref m4, .ref m5, .ref m6, .ref m7, .ref m8, .ref m9, .ref m10, .ref m11, .ref m12, .ref m13, .ref m14, .ref m15, .ref m16, .ref m17, .ref m18, .ref m19, .ref m20, .int 2, .int 0, .int 0, .int 0, .long 0, .int 0]))]) [0] rfl
  have hD9 := hD.sub (ws' := [(h0, .inr (17, [.ref m0, .ref m1, .ref m2, .ref m3, .ref m4, .ref m5, .ref m6, .ref m7, .ref m8, .ref m9, .ref m10, .ref m11, .ref m12, .ref m13, .ref m14, .ref m15, .ref m16, .ref m17, .ref m18, .ref m19, .ref m20, .int 2, .int 0, .int 0, .int 0, .long 0, .int 0]))]) [0] (by decide) rfl
  refine W.widen (k := 0) (n := 0) (Nat.le_of_ble_eq_true rfl) (Nat.le_of_ble_eq_true rfl) ?_
  rw [hQe]
  exact W.fret (v := FP.fconst0) hx hb hr (fun t ht hW => ⟨⟨FP.fconst0, (), rfl, rfl, ⟨by rw [ht]; exact hP9, hD9⟩⟩, hS.F ht⟩) hS.2.2 dX14_hungShare_35
set_option maxHeartbeats 4000000 in
set_option maxRecDepth 100000 in
theorem g_isSound_in (l : Launch) (D : va_G) (cy : Nat → ClassId) (h0 : Nat) (m0 : Nat) (m1 : Nat) (m2 : Nat) (m3 : Nat) (m4 : Nat) (m5 : Nat) (m6 : Nat) (m7 : Nat) (m8 : Nat) (m9 : Nat) (m10 : Nat) (m11 : Nat) (m12 : Nat) (m13 : Nat) (m14 : Nat) (m15 : Nat) (m16 : Nat) (m17 : Nat) (m18 : Nat) (m19 : Nat) (m20 : Nat) (d : Int32) (sz : Nat) (hd : zDay d) : Met l yX14_isSound (wz yX14_isSound cX14_isSound 2 (some .boolean)) ({ frames := 2, cells := 0, slots := 0, locals := 45 } : Room) (va_Pc [.ref h0, .int d] (zPre vwCl D cy [(h0, .inr (17, [.ref m0, .ref m1, .ref m2, .ref m3, .ref m4, .ref m5, .ref m6, .ref m7, .ref m8, .ref m9, .ref m10, .ref m11, .ref m12, .ref m13, .ref m14, .ref m15, .ref m16, .ref m17, .ref m18, .ref m19, .ref m20, .int 0, .int 0, .int 0, .int 0, .long 0, .int 0]))] sz)) (va_Qi (fun (r : Int32) (_ : Unit) => r = 1) (fun (u : Unit) t => zPost vwCl D (va_A [(h0, .inr (17, [.ref m0, .ref m1, .ref m2, .ref m3, .ref m4, .ref m5, .ref m6, .ref m7, .ref m8, .ref m9, .ref m10, .ref m11, .ref m12, .ref m13, .ref m14, .ref m15, .ref m16, .ref m17, .ref m18, .ref m19, .ref m20, .int 0, .int 0, .int 0, .int 0, .long 0, .int 0]))] sz) [(h0, .inr (17, [.ref m0, .ref m1, .ref m2, .ref m3, .ref m4, .ref m5, .ref m6, .ref m7, .ref m8, .ref m9, .ref m10, .ref m11, .ref m12, .ref m13, .ref m14, .ref m15, .ref m16, .ref m17, .ref m18, .ref m19, .ref m20, .int 0, .int 0, .int 0, .int 0, .long 0, .int 0]))] t) (va_A [(h0, .inr (17, [.ref m0, .ref m1, .ref m2, .ref m3, .ref m4, .ref m5, .ref m6, .ref m7, .ref m8, .ref m9, .ref m10, .ref m11, .ref m12, .ref m13, .ref m14, .ref m15, .ref m16, .ref m17, .ref m18, .ref m19, .ref m20, .int 0, .int 0, .int 0, .int 0, .long 0, .int 0]))] sz)) 0 0 (va_A [(h0, .inr (17, [.ref m0, .ref m1, .ref m2, .ref m3, .ref m4, .ref m5, .ref m6, .ref m7, .ref m8, .ref m9, .ref m10, .ref m11, .ref m12, .ref m13, .ref m14, .ref m15, .ref m16, .ref m17, .ref m18, .ref m19, .ref m20, .int 0, .int 0, .int 0, .int 0, .long 0, .int 0]))] sz) := by
  refine Met.ofW (cc := cX14_isSound) (maxL := 2) (ret := (some .boolean)) (by decide) rfl ?_
  intro p e s m args below meth c s₁ B hml hv
  obtain ⟨rfl, hsz, hP, hK, hD0, hX, hY⟩ := hv
  have hx := B.exec
  have hb := B.bytes
  have hr := B.returns
  have hts0 := atoms_spec (ws := wz yX14_isSound cX14_isSound 2 (some .boolean)) B.pre
  have hts : ∀ w ∈ wAll, w.before _ s = true := fun w h => hts0 w (List.mem_cons_of_mem _ h)
  have hown : s.vm.findClass RX14 = some m.cls := findClass_of_methodNamed B.named
  have hlocks := B.notSynchronized
  subst hsz
  have hD := hD0.self (sz := s.heap.size)
  generalize hAe : va_A [(h0, .inr (17, [.ref m0, .ref m1, .ref m2, .ref m3, .ref m4, .ref m5, .ref m6, .ref m7, .ref m8, .ref m9, .ref m10, .ref m11, .ref m12, .ref m13, .ref m14, .ref m15, .ref m16, .ref m17, .ref m18, .ref m19, .ref m20, .int 0, .int 0, .int 0, .int 0, .long 0, .int 0]))] s.heap.size = A at hD hY ⊢
  have hA : ∀ q : Nat, s.heap.size ≤ q → A q := fun q h => by rw [← hAe]; exact Or.inr h
  have hS : va_S A s.heap s.heap [] := va_S.rf
  have hP : va_P D vwCl [(h0, .inr (17, [.ref m0, .ref m1, .ref m2, .ref m3, .ref m4, .ref m5, .ref m6, .ref m7, .ref m8, .ref m9, .ref m10, .ref m11, .ref m12, .ref m13, .ref m14, .ref m15, .ref m16, .ref m17, .ref m18, .ref m19, .ref m20, .int 0, .int 0, .int 0, .int 0, .long 0, .int 0]))] s.heap := hP
  have hl := lv_entry ([.ref h0, .int d]) (n := 2) (Nat.le_of_ble_eq_true rfl)
  rw [lg_entry_eq]
  generalize (lg_sl ([.ref h0, .int d]) ++ List.replicate (2 - (lg_sl ([.ref h0, .int d])).length) Slot.unset).toArray = ls at hl ⊢
  have hl : lv_has ls 2 [(0, .ref h0), (1, .int d)] := hl
  refine z_anyQ (fun Q hQe => ?_)
  refine lv_iload_n hx hb dX14_isSound_0 rfl (lv_at hl 1 rfl) ?_
  refine zq_i (wc := []) (wr := [(h0, .inr (17, [.ref m0, .ref m1, .ref m2, .ref m3, .ref m4, .ref m5, .ref m6, .ref m7, .ref m8, .ref m9, .ref m10, .ref m11, .ref m12, .ref m13, .ref m14, .ref m15, .ref m16, .ref m17, .ref m18, .ref m19, .ref m20, .int 0, .int 0, .int 0, .int 0, .long 0, .int 0]))]) (va_runS (As := [.int d]) (rest := []) ⟨hx, hb, hml, hown, hts⟩ (k_isDay_ok l D cy d s.heap.size hd) (va_cwS 1 hts (gzS (gz q365) q364 q366 q285) rfl rfl rfl vX14_isDay.2 ⟨Nat.le_of_ble_eq_true rfl, Nat.le_of_ble_eq_true rfl⟩) (zpS hK hX hY hP hD hS hA [] (by decide) rfl) rfl rfl hl.1 rfl (lv_room (Nat.le_of_ble_eq_true rfl)) dX14_isSound_1 ⟨Nat.le_of_ble_eq_true rfl, Nat.le_of_ble_eq_true rfl⟩) hP hD hS hA [] [0] rfl rfl (by decide) (by decide) (fun x2 u1 H locs hw hP hD hS => ?_)
  obtain rfl : x2 = 1 := hw
  have hP : va_P D vwCl [(h0, .inr (17, [.ref m0, .ref m1, .ref m2, .ref m3, .ref m4, .ref m5, .ref m6, .ref m7, .ref m8, .ref m9, .ref m10, .ref m11, .ref m12, .ref m13, .ref m14, .ref m15, .ref m16, .ref m17, .ref m18, .ref m19, .ref m20, .int 0, .int 0, .int 0, .int 0, .long 0, .int 0]))] H := hP
  have hD : va_D A [(h0, .inr (17, [.ref m0, .ref m1, .ref m2, .ref m3, .ref m4, .ref m5, .ref m6, .ref m7, .ref m8, .ref m9, .ref m10, .ref m11, .ref m12, .ref m13, .ref m14, .ref m15, .ref m16, .ref m17, .ref m18, .ref m19, .ref m20, .int 0, .int 0, .int 0, .int 0, .long 0, .int 0]))] := hD
  refine lv_if_eq (tgt := 15) hx hb dX14_isSound_4 (by decide) (fun c_4_2 => absurd c_4_2 (by decide +kernel)) (fun _ => ?_)
  refine lv_aload_n hx hb dX14_isSound_7 rfl (lv_at hl 0 rfl) ?_
  refine lv_iconst (v := 1) hx hb dX14_isSound_8 (by decide) ?_
  refine zq_i (wc := [(h0, .inr (17, [.ref m0, .ref m1, .ref m2, .ref m3, .ref m4, .ref m5, .ref m6, .ref m7, .ref m8, .ref m9, .ref m10, .ref m11, .ref m12, .ref m13, .ref m14, .ref m15, .ref m16, .ref m17, .ref m18, .ref m19, .ref m20, .int 0, .int 0, .int 0, .int 0, .long 0, .int 0]))]) (wr := []) (va_runV (As := [.int 1]) (rest := []) ⟨hx, hb, hml, hown, hts⟩ (k_tells l D cy h0 m0 m1 m2 m3 m4 m5 m6 m7 m8 m9 m10 m11 m12 m13 m14 m15 m16 m17 m18 m19 m20 0 0 0 0 0 0 H.size ) (cwV 1 hts (gzV (gz q393) q392 q394 q395 q285) rfl rfl rfl vX14_tells ⟨Nat.le_of_ble_eq_true rfl, Nat.le_of_ble_eq_true rfl⟩) (zpV (ci := 17) (T := TX14) (N := 27) (q0 := 0) hK hX hY hP hD hS hA [0] (by decide) rfl rfl rfl) rfl rfl hl.1 rfl (lv_room (Nat.le_of_ble_eq_true rfl)) dX14_isSound_9 ⟨Nat.le_of_ble_eq_true rfl, Nat.le_of_ble_eq_true rfl⟩) hP hD hS hA [0] [] rfl rfl (by decide) (by decide) (fun x5 u4 H locs hw hP hD hS => ?_)
  obtain rfl : x5 = 1 := hw
  have hP : va_P D vwCl [(h0, .inr (17, [.ref m0, .ref m1, .ref m2, .ref m3, .ref m4, .ref m5, .ref m6, .ref m7, .ref m8, .ref m9, .ref m10, .ref m11, .ref m12, .ref m13, .ref m14, .ref m15, .ref m16, .ref m17, .ref m18, .ref m19, .ref m20, .int 0, .int 0, .int 0, .int 0, .long 0, .int 0]))] H := hP
  have hD : va_D A [(h0, .inr (17, [.ref m0, .ref m1, .ref m2, .ref m3, .ref m4, .ref m5, .ref m6, .ref m7, .ref m8, .ref m9, .ref m10, .ref m11, .ref m12, .ref m13, .ref m14, .ref m15, .ref m16, .ref m17, .ref m18, .ref m19, .ref m20, .int 0, .int 0, .int 0, .int 0, .long 0, .int 0]))] := hD
  refine lv_goto (tgt := 20) hx hb dX14_isSound_12 (by decide) ?_
  have hP9 := hP.sub (ws' := [(h0, .inr (17, [.ref m0, .ref m1, .ref m2, .ref m3, .ref m4, .ref m5, .ref m6, .ref m7, .ref m8, .ref m9, .ref m10, .ref m11, .ref m12, .ref m13, .ref m14, .ref m15, .ref m16, .ref m17, .ref m18, .ref m19, .ref m20, .int 0, .int 0, .int 0, .int 0, .long 0, .int 0]))]) [0] rfl
  have hD9 := hD.sub (ws' := [(h0, .inr (17, [.ref m0, .ref m1, .ref m2, .ref m3, .ref m4, .ref m5, .ref m6, .ref m7, .ref m8, .ref m9, .ref m10, .ref m11, .ref m12, .ref m13, .ref m14, .ref m15, .ref m16, .ref m17, .ref m18, .ref m19, .ref m20, .int 0, .int 0, .int 0, .int 0, .long 0, .int 0]))]) [0] (by decide) rfl
  refine W.widen (k := 0) (n := 0) (Nat.le_of_ble_eq_true rfl) (Nat.le_of_ble_eq_true rfl) ?_
  rw [hQe]
  exact W.zret (v := 1) hx hb hr rfl (fun t ht hW => ⟨⟨1, (), rfl, rfl, ⟨by rw [ht]; exact hP9, hD9⟩⟩, hS.F ht⟩) hS.2.2 dX14_isSound_20
set_option maxHeartbeats 4000000 in
set_option maxRecDepth 100000 in
theorem g_station (l : Launch) (D : va_G) (cy : Nat → ClassId) (h0 : Nat) (m0 : Nat) (m1 : Nat) (m2 : Nat) (m3 : Nat) (m4 : Nat) (m5 : Nat) (m6 : Nat) (m7 : Nat) (m8 : Nat) (m9 : Nat) (m10 : Nat) (m11 : Nat) (m12 : Nat) (m13 : Nat) (m14 : Nat) (m15 : Nat) (m16 : Nat) (m17 : Nat) (m18 : Nat) (m19 : Nat) (m20 : Nat) (sz : Nat)  : Met l yX14_station (wz yX14_station cX14_station 1 (some .int)) ({ frames := 1, cells := 0, slots := 0, locals := 21 } : Room) (va_Pc [.ref h0] (zPre vwCl D cy [(h0, .inr (17, [.ref m0, .ref m1, .ref m2, .ref m3, .ref m4, .ref m5, .ref m6, .ref m7, .ref m8, .ref m9, .ref m10, .ref m11, .ref m12, .ref m13, .ref m14, .ref m15, .ref m16, .ref m17, .ref m18, .ref m19, .ref m20, .int 0, .int 0, .int 0, .int 0, .long 0, .int 0]))] sz)) (va_Qi (fun (r : Int32) (_ : Unit) => r = 0) (fun (u : Unit) t => zPost vwCl D (va_A [(h0, .inr (17, [.ref m0, .ref m1, .ref m2, .ref m3, .ref m4, .ref m5, .ref m6, .ref m7, .ref m8, .ref m9, .ref m10, .ref m11, .ref m12, .ref m13, .ref m14, .ref m15, .ref m16, .ref m17, .ref m18, .ref m19, .ref m20, .int 0, .int 0, .int 0, .int 0, .long 0, .int 0]))] sz) [(h0, .inr (17, [.ref m0, .ref m1, .ref m2, .ref m3, .ref m4, .ref m5, .ref m6, .ref m7, .ref m8, .ref m9, .ref m10, .ref m11, .ref m12, .ref m13, .ref m14, .ref m15, .ref m16, .ref m17, .ref m18, .ref m19, .ref m20, .int 0, .int 1, .int 0, .int 0, .long 0, .int 0]))] t) (va_A [(h0, .inr (17, [.ref m0, .ref m1, .ref m2, .ref m3, .ref m4, .ref m5, .ref m6, .ref m7, .ref m8, .ref m9, .ref m10, .ref m11, .ref m12, .ref m13, .ref m14, .ref m15, .ref m16, .ref m17, .ref m18, .ref m19, .ref m20, .int 0, .int 0, .int 0, .int 0, .long 0, .int 0]))] sz)) 0 0 (va_A [(h0, .inr (17, [.ref m0, .ref m1, .ref m2, .ref m3, .ref m4, .ref m5, .ref m6, .ref m7, .ref m8, .ref m9, .ref m10, .ref m11, .ref m12, .ref m13, .ref m14, .ref m15, .ref m16, .ref m17, .ref m18, .ref m19, .ref m20, .int 0, .int 0, .int 0, .int 0, .long 0, .int 0]))] sz) := by
  refine Met.ofW (cc := cX14_station) (maxL := 1) (ret := (some .int)) (by decide) rfl ?_
  intro p e s m args below meth c s₁ B hml hv
  obtain ⟨rfl, hsz, hP, hK, hD0, hX, hY⟩ := hv
  have hx := B.exec
  have hb := B.bytes
  have hr := B.returns
  have hts0 := atoms_spec (ws := wz yX14_station cX14_station 1 (some .int)) B.pre
  have hts : ∀ w ∈ wAll, w.before _ s = true := fun w h => hts0 w (List.mem_cons_of_mem _ h)
  have hown : s.vm.findClass RX14 = some m.cls := findClass_of_methodNamed B.named
  have hlocks := B.notSynchronized
  subst hsz
  have hD := hD0.self (sz := s.heap.size)
  generalize hAe : va_A [(h0, .inr (17, [.ref m0, .ref m1, .ref m2, .ref m3, .ref m4, .ref m5, .ref m6, .ref m7, .ref m8, .ref m9, .ref m10, .ref m11, .ref m12, .ref m13, .ref m14, .ref m15, .ref m16, .ref m17, .ref m18, .ref m19, .ref m20, .int 0, .int 0, .int 0, .int 0, .long 0, .int 0]))] s.heap.size = A at hD hY ⊢
  have hA : ∀ q : Nat, s.heap.size ≤ q → A q := fun q h => by rw [← hAe]; exact Or.inr h
  have hS : va_S A s.heap s.heap [] := va_S.rf
  have hP : va_P D vwCl [(h0, .inr (17, [.ref m0, .ref m1, .ref m2, .ref m3, .ref m4, .ref m5, .ref m6, .ref m7, .ref m8, .ref m9, .ref m10, .ref m11, .ref m12, .ref m13, .ref m14, .ref m15, .ref m16, .ref m17, .ref m18, .ref m19, .ref m20, .int 0, .int 0, .int 0, .int 0, .long 0, .int 0]))] s.heap := hP
  have hl := lv_entry ([.ref h0]) (n := 1) (Nat.le_of_ble_eq_true rfl)
  rw [lg_entry_eq]
  generalize (lg_sl ([.ref h0]) ++ List.replicate (1 - (lg_sl ([.ref h0])).length) Slot.unset).toArray = ls at hl ⊢
  have hl : lv_has ls 1 [(0, .ref h0)] := hl
  refine z_anyQ (fun Q hQe => ?_)
  refine lv_aload_n hx hb dX14_station_0 rfl (lv_at hl 0 rfl) ?_
  refine va_get (D := D) (ci := 17) (v := .int 0) (C := RX14) (T := TX14) (N := 27) hx hb hts iRX14 hown hK hP 0 rfl rfl 22 (by decide) (hts _ q281) (fun _ h9 => h9) rfl dX14_station_1 ?_
  refine lv_bipush (v := 9) hx hb dX14_station_4 (by decide) ?_
  refine lv_icmp_ne (tgt := 15) hx hb dX14_station_6 (by decide) (fun _ => ?_) (fun c_6_0 => absurd c_6_0 (by decide +kernel))
  refine lv_aload_n hx hb dX14_station_15 rfl (lv_at hl 0 rfl) ?_
  refine lv_dup hx hb dX14_station_16 rfl ?_
  refine va_get (D := D) (ci := 17) (v := .int 0) (C := RX14) (T := TX14) (N := 27) hx hb hts iRX14 hown hK hP 0 rfl rfl 22 (by decide) (hts _ q281) (fun _ h9 => h9) rfl dX14_station_17 ?_
  refine lv_iconst (v := 1) hx hb dX14_station_20 (by decide) ?_
  refine lv_iadd hx hb dX14_station_21 ?_
  refine lv_topi (fun y2 ey2 => ?_)
  obtain rfl : y2 = 1 := ey2.trans (by decide +kernel)
  refine va_put (D := D) (ci := 17) (v := .int 1) (ty := .int) (C := RX14) (T := TX14) (N := 27) hx hb hts iRX14 tyX14 tyX14_ok nmX14 hown hK hP hD hS 0 rfl rfl 22 (by decide) (hts _ q281) (fun _ h9 => h9) rfl (tyX14_ok 22 (by decide)) rfl rfl (Nat.le_of_ble_eq_true rfl) dX14_station_22 (fun H locs hP hD hS => ?_)
  have hP : va_P D vwCl [(h0, .inr (17, [.ref m0, .ref m1, .ref m2, .ref m3, .ref m4, .ref m5, .ref m6, .ref m7, .ref m8, .ref m9, .ref m10, .ref m11, .ref m12, .ref m13, .ref m14, .ref m15, .ref m16, .ref m17, .ref m18, .ref m19, .ref m20, .int 0, .int 1, .int 0, .int 0, .long 0, .int 0]))] H := hP
  have hD : va_D A [(h0, .inr (17, [.ref m0, .ref m1, .ref m2, .ref m3, .ref m4, .ref m5, .ref m6, .ref m7, .ref m8, .ref m9, .ref m10, .ref m11, .ref m12, .ref m13, .ref m14, .ref m15, .ref m16, .ref m17, .ref m18, .ref m19, .ref m20, .int 0, .int 1, .int 0, .int 0, .long 0, .int 0]))] := hD
  refine lv_aload_n hx hb dX14_station_25 rfl (lv_at hl 0 rfl) ?_
  refine lv_aload_n hx hb dX14_station_26 rfl (lv_at hl 0 rfl) ?_
  refine va_get (D := D) (ci := 17) (v := .int 1) (C := RX14) (T := TX14) (N := 27) hx hb hts iRX14 hown hK hP 0 rfl rfl 22 (by decide) (hts _ q281) (fun _ h9 => h9) rfl dX14_station_27 ?_
  refine lv_iconst (v := 1) hx hb dX14_station_30 (by decide) ?_
  refine lv_isub hx hb dX14_station_31 ?_
  refine lv_topi (fun y3 ey3 => ?_)
  obtain rfl : y3 = 0 := ey3.trans (by decide +kernel)
  refine zq_i (wc := [(h0, .inr (17, [.ref m0, .ref m1, .ref m2, .ref m3, .ref m4, .ref m5, .ref m6, .ref m7, .ref m8, .ref m9, .ref m10, .ref m11, .ref m12, .ref m13, .ref m14, .ref m15, .ref m16, .ref m17, .ref m18, .ref m19, .ref m20, .int 0, .int 1, .int 0, .int 0, .long 0, .int 0]))]) (wr := []) (va_runV (As := [.int 0]) (rest := []) ⟨hx, hb, hml, hown, hts⟩ (k_answer l D cy h0 m0 m1 m2 m3 m4 m5 m6 m7 m8 m9 m10 m11 m12 m13 m14 m15 m16 m17 m18 m19 m20 0 1 0 0 0 0 0 H.size ) (cwV 1 hts (gzV (gz q372) q371 q373 q374 q285) rfl rfl rfl vX14_answer ⟨Nat.le_of_ble_eq_true rfl, Nat.le_of_ble_eq_true rfl⟩) (zpV (ci := 17) (T := TX14) (N := 27) (q0 := 0) hK hX hY hP hD hS hA [0] (by decide) rfl rfl rfl) rfl rfl hl.1 rfl (lv_room (Nat.le_of_ble_eq_true rfl)) dX14_station_32 ⟨Nat.le_of_ble_eq_true rfl, Nat.le_of_ble_eq_true rfl⟩) hP hD hS hA [0] [] rfl rfl (by decide) (by decide) (fun x5 u4 H locs hw hP hD hS => ?_)
  obtain rfl : x5 = 0 := hw
  have hP : va_P D vwCl [(h0, .inr (17, [.ref m0, .ref m1, .ref m2, .ref m3, .ref m4, .ref m5, .ref m6, .ref m7, .ref m8, .ref m9, .ref m10, .ref m11, .ref m12, .ref m13, .ref m14, .ref m15, .ref m16, .ref m17, .ref m18, .ref m19, .ref m20, .int 0, .int 1, .int 0, .int 0, .long 0, .int 0]))] H := hP
  have hD : va_D A [(h0, .inr (17, [.ref m0, .ref m1, .ref m2, .ref m3, .ref m4, .ref m5, .ref m6, .ref m7, .ref m8, .ref m9, .ref m10, .ref m11, .ref m12, .ref m13, .ref m14, .ref m15, .ref m16, .ref m17, .ref m18, .ref m19, .ref m20, .int 0, .int 1, .int 0, .int 0, .long 0, .int 0]))] := hD
  have hP9 := hP.sub (ws' := [(h0, .inr (17, [.ref m0, .ref m1, .ref m2, .ref m3, .ref m4, .ref m5, .ref m6, .ref m7, .ref m8, .ref m9, .ref m10, .ref m11, .ref m12, .ref m13, .ref m14, .ref m15, .ref m16, .ref m17, .ref m18, .ref m19, .ref m20, .int 0, .int 1, .int 0, .int 0, .long 0, .int 0]))]) [0] rfl
  have hD9 := hD.sub (ws' := [(h0, .inr (17, [.ref m0, .ref m1, .ref m2, .ref m3, .ref m4, .ref m5, .ref m6, .ref m7, .ref m8, .ref m9, .ref m10, .ref m11, .ref m12, .ref m13, .ref m14, .ref m15, .ref m16, .ref m17, .ref m18, .ref m19, .ref m20, .int 0, .int 1, .int 0, .int 0, .long 0, .int 0]))]) [0] (by decide) rfl
  refine W.widen (k := 0) (n := 0) (Nat.le_of_ble_eq_true rfl) (Nat.le_of_ble_eq_true rfl) ?_
  rw [hQe]
  exact W.iret (v := 0) hx hb hr (fun t ht hW => ⟨⟨0, (), rfl, rfl, ⟨by rw [ht]; exact hP9, hD9⟩⟩, hS.F ht⟩) hS.2.2 dX14_station_35
set_option maxHeartbeats 4000000 in
set_option maxRecDepth 100000 in
theorem g_stations (l : Launch) (D : va_G) (cy : Nat → ClassId) (h0 : Nat) (m0 : Nat) (m1 : Nat) (m2 : Nat) (m3 : Nat) (m4 : Nat) (m5 : Nat) (m6 : Nat) (m7 : Nat) (m8 : Nat) (m9 : Nat) (m10 : Nat) (m11 : Nat) (m12 : Nat) (m13 : Nat) (m14 : Nat) (m15 : Nat) (m16 : Nat) (m17 : Nat) (m18 : Nat) (m19 : Nat) (m20 : Nat) (sz : Nat)  : Met l yX14_stations (wz yX14_stations cX14_stations 1 (some .int)) ({ frames := 1, cells := 0, slots := 0, locals := 21 } : Room) (va_Pc [.ref h0] (zPre vwCl D cy [(h0, .inr (17, [.ref m0, .ref m1, .ref m2, .ref m3, .ref m4, .ref m5, .ref m6, .ref m7, .ref m8, .ref m9, .ref m10, .ref m11, .ref m12, .ref m13, .ref m14, .ref m15, .ref m16, .ref m17, .ref m18, .ref m19, .ref m20, .int 0, .int 0, .int 0, .int 0, .long 0, .int 0]))] sz)) (va_Qi (fun (r : Int32) (_ : Unit) => r = 0) (fun (u : Unit) t => zPost vwCl D (va_A [(h0, .inr (17, [.ref m0, .ref m1, .ref m2, .ref m3, .ref m4, .ref m5, .ref m6, .ref m7, .ref m8, .ref m9, .ref m10, .ref m11, .ref m12, .ref m13, .ref m14, .ref m15, .ref m16, .ref m17, .ref m18, .ref m19, .ref m20, .int 0, .int 0, .int 0, .int 0, .long 0, .int 0]))] sz) [(h0, .inr (17, [.ref m0, .ref m1, .ref m2, .ref m3, .ref m4, .ref m5, .ref m6, .ref m7, .ref m8, .ref m9, .ref m10, .ref m11, .ref m12, .ref m13, .ref m14, .ref m15, .ref m16, .ref m17, .ref m18, .ref m19, .ref m20, .int 0, .int 0, .int 0, .int 0, .long 0, .int 0]))] t) (va_A [(h0, .inr (17, [.ref m0, .ref m1, .ref m2, .ref m3, .ref m4, .ref m5, .ref m6, .ref m7, .ref m8, .ref m9, .ref m10, .ref m11, .ref m12, .ref m13, .ref m14, .ref m15, .ref m16, .ref m17, .ref m18, .ref m19, .ref m20, .int 0, .int 0, .int 0, .int 0, .long 0, .int 0]))] sz)) 0 0 (va_A [(h0, .inr (17, [.ref m0, .ref m1, .ref m2, .ref m3, .ref m4, .ref m5, .ref m6, .ref m7, .ref m8, .ref m9, .ref m10, .ref m11, .ref m12, .ref m13, .ref m14, .ref m15, .ref m16, .ref m17, .ref m18, .ref m19, .ref m20, .int 0, .int 0, .int 0, .int 0, .long 0, .int 0]))] sz) := by
  refine Met.ofW (cc := cX14_stations) (maxL := 1) (ret := (some .int)) (by decide) rfl ?_
  intro p e s m args below meth c s₁ B hml hv
  obtain ⟨rfl, hsz, hP, hK, hD0, hX, hY⟩ := hv
  have hx := B.exec
  have hb := B.bytes
  have hr := B.returns
  have hts0 := atoms_spec (ws := wz yX14_stations cX14_stations 1 (some .int)) B.pre
  have hts : ∀ w ∈ wAll, w.before _ s = true := fun w h => hts0 w (List.mem_cons_of_mem _ h)
  have hown : s.vm.findClass RX14 = some m.cls := findClass_of_methodNamed B.named
  have hlocks := B.notSynchronized
  subst hsz
  have hD := hD0.self (sz := s.heap.size)
  generalize hAe : va_A [(h0, .inr (17, [.ref m0, .ref m1, .ref m2, .ref m3, .ref m4, .ref m5, .ref m6, .ref m7, .ref m8, .ref m9, .ref m10, .ref m11, .ref m12, .ref m13, .ref m14, .ref m15, .ref m16, .ref m17, .ref m18, .ref m19, .ref m20, .int 0, .int 0, .int 0, .int 0, .long 0, .int 0]))] s.heap.size = A at hD hY ⊢
  have hA : ∀ q : Nat, s.heap.size ≤ q → A q := fun q h => by rw [← hAe]; exact Or.inr h
  have hS : va_S A s.heap s.heap [] := va_S.rf
  have hP : va_P D vwCl [(h0, .inr (17, [.ref m0, .ref m1, .ref m2, .ref m3, .ref m4, .ref m5, .ref m6, .ref m7, .ref m8, .ref m9, .ref m10, .ref m11, .ref m12, .ref m13, .ref m14, .ref m15, .ref m16, .ref m17, .ref m18, .ref m19, .ref m20, .int 0, .int 0, .int 0, .int 0, .long 0, .int 0]))] s.heap := hP
  have hl := lv_entry ([.ref h0]) (n := 1) (Nat.le_of_ble_eq_true rfl)
  rw [lg_entry_eq]
  generalize (lg_sl ([.ref h0]) ++ List.replicate (1 - (lg_sl ([.ref h0])).length) Slot.unset).toArray = ls at hl ⊢
  have hl : lv_has ls 1 [(0, .ref h0)] := hl
  refine z_anyQ (fun Q hQe => ?_)
  refine lv_aload_n hx hb dX14_stations_0 rfl (lv_at hl 0 rfl) ?_
  refine lv_aload_n hx hb dX14_stations_1 rfl (lv_at hl 0 rfl) ?_
  refine va_get (D := D) (ci := 17) (v := .int 0) (C := RX14) (T := TX14) (N := 27) hx hb hts iRX14 hown hK hP 0 rfl rfl 22 (by decide) (hts _ q281) (fun _ h9 => h9) rfl dX14_stations_2 ?_
  refine zq_i (wc := [(h0, .inr (17, [.ref m0, .ref m1, .ref m2, .ref m3, .ref m4, .ref m5, .ref m6, .ref m7, .ref m8, .ref m9, .ref m10, .ref m11, .ref m12, .ref m13, .ref m14, .ref m15, .ref m16, .ref m17, .ref m18, .ref m19, .ref m20, .int 0, .int 0, .int 0, .int 0, .long 0, .int 0]))]) (wr := []) (va_runV (As := [.int 0]) (rest := []) ⟨hx, hb, hml, hown, hts⟩ (k_answer l D cy h0 m0 m1 m2 m3 m4 m5 m6 m7 m8 m9 m10 m11 m12 m13 m14 m15 m16 m17 m18 m19 m20 0 0 0 0 0 0 0 s.heap.size ) (cwV 1 hts (gzV (gz q372) q371 q373 q374 q285) rfl rfl rfl vX14_answer ⟨Nat.le_of_ble_eq_true rfl, Nat.le_of_ble_eq_true rfl⟩) (zpV (ci := 17) (T := TX14) (N := 27) (q0 := 0) hK hX hY hP hD hS hA [0] (by decide) rfl rfl rfl) rfl rfl hl.1 rfl (lv_room (Nat.le_of_ble_eq_true rfl)) dX14_stations_5 ⟨Nat.le_of_ble_eq_true rfl, Nat.le_of_ble_eq_true rfl⟩) hP hD hS hA [0] [] rfl rfl (by decide) (by decide) (fun x2 u1 H locs hw hP hD hS => ?_)
  obtain rfl : x2 = 0 := hw
  have hP : va_P D vwCl [(h0, .inr (17, [.ref m0, .ref m1, .ref m2, .ref m3, .ref m4, .ref m5, .ref m6, .ref m7, .ref m8, .ref m9, .ref m10, .ref m11, .ref m12, .ref m13, .ref m14, .ref m15, .ref m16, .ref m17, .ref m18, .ref m19, .ref m20, .int 0, .int 0, .int 0, .int 0, .long 0, .int 0]))] H := hP
  have hD : va_D A [(h0, .inr (17, [.ref m0, .ref m1, .ref m2, .ref m3, .ref m4, .ref m5, .ref m6, .ref m7, .ref m8, .ref m9, .ref m10, .ref m11, .ref m12, .ref m13, .ref m14, .ref m15, .ref m16, .ref m17, .ref m18, .ref m19, .ref m20, .int 0, .int 0, .int 0, .int 0, .long 0, .int 0]))] := hD
  have hP9 := hP.sub (ws' := [(h0, .inr (17, [.ref m0, .ref m1, .ref m2, .ref m3, .ref m4, .ref m5, .ref m6, .ref m7, .ref m8, .ref m9, .ref m10, .ref m11, .ref m12, .ref m13, .ref m14, .ref m15, .ref m16, .ref m17, .ref m18, .ref m19, .ref m20, .int 0, .int 0, .int 0, .int 0, .long 0, .int 0]))]) [0] rfl
  have hD9 := hD.sub (ws' := [(h0, .inr (17, [.ref m0, .ref m1, .ref m2, .ref m3, .ref m4, .ref m5, .ref m6, .ref m7, .ref m8, .ref m9, .ref m10, .ref m11, .ref m12, .ref m13, .ref m14, .ref m15, .ref m16, .ref m17, .ref m18, .ref m19, .ref m20, .int 0, .int 0, .int 0, .int 0, .long 0, .int 0]))]) [0] (by decide) rfl
  refine W.widen (k := 0) (n := 0) (Nat.le_of_ble_eq_true rfl) (Nat.le_of_ble_eq_true rfl) ?_
  rw [hQe]
  exact W.iret (v := 0) hx hb hr (fun t ht hW => ⟨⟨0, (), rfl, rfl, ⟨by rw [ht]; exact hP9, hD9⟩⟩, hS.F ht⟩) hS.2.2 dX14_stations_8
set_option maxHeartbeats 4000000 in
set_option maxRecDepth 100000 in
theorem g_shots (l : Launch) (D : va_G) (cy : Nat → ClassId) (h0 : Nat) (m0 : Nat) (m1 : Nat) (m2 : Nat) (m3 : Nat) (m4 : Nat) (m5 : Nat) (m6 : Nat) (m7 : Nat) (m8 : Nat) (m9 : Nat) (m10 : Nat) (m11 : Nat) (m12 : Nat) (m13 : Nat) (m14 : Nat) (m15 : Nat) (m16 : Nat) (m17 : Nat) (m18 : Nat) (m19 : Nat) (m20 : Nat) (b1 : Nat) (sz : Nat)  : Met l yX14_shots (wz yX14_shots cX14_shots 1 (some .int)) ({ frames := 1, cells := 0, slots := 0, locals := 21 } : Room) (va_Pc [.ref h0] (zPre vwCl D cy [(h0, .inr (17, [.ref m0, .ref m1, .ref m2, .ref m3, .ref m4, .ref m5, .ref m6, .ref m7, .ref m8, .ref m9, .ref m10, .ref m11, .ref m12, .ref m13, .ref m14, .ref m15, .ref m16, .ref m17, .ref m18, .ref m19, .ref m20, .int 0, .int 0, .int 0, .int 0, .long 0, .int 0])), (m0, .inr (2, [.int 0, .ref b1, .int 0]))] sz)) (va_Qi (fun (r : Int32) (_ : Unit) => r = 0) (fun (u : Unit) t => zPost vwCl D (va_A [(h0, .inr (17, [.ref m0, .ref m1, .ref m2, .ref m3, .ref m4, .ref m5, .ref m6, .ref m7, .ref m8, .ref m9, .ref m10, .ref m11, .ref m12, .ref m13, .ref m14, .ref m15, .ref m16, .ref m17, .ref m18, .ref m19, .ref m20, .int 0, .int 0, .int 0, .int 0, .long 0, .int 0])), (m0, .inr (2, [.int 0, .ref b1, .int 0]))] sz) [(h0, .inr (17, [.ref m0, .ref m1, .ref m2, .ref m3, .ref m4, .ref m5, .ref m6, .ref m7, .ref m8, .ref m9, .ref m10, .ref m11, .ref m12, .ref m13, .ref m14, .ref m15, .ref m16, .ref m17, .ref m18, .ref m19, .ref m20, .int 0, .int 0, .int 0, .int 0, .long 0, .int 0]))] t) (va_A [(h0, .inr (17, [.ref m0, .ref m1, .ref m2, .ref m3, .ref m4, .ref m5, .ref m6, .ref m7, .ref m8, .ref m9, .ref m10, .ref m11, .ref m12, .ref m13, .ref m14, .ref m15, .ref m16, .ref m17, .ref m18, .ref m19, .ref m20, .int 0, .int 0, .int 0, .int 0, .long 0, .int 0])), (m0, .inr (2, [.int 0, .ref b1, .int 0]))] sz)) 0 0 (va_A [(h0, .inr (17, [.ref m0, .ref m1, .ref m2, .ref m3, .ref m4, .ref m5, .ref m6, .ref m7, .ref m8, .ref m9, .ref m10, .ref m11, .ref m12, .ref m13, .ref m14, .ref m15, .ref m16, .ref m17, .ref m18, .ref m19, .ref m20, .int 0, .int 0, .int 0, .int 0, .long 0, .int 0])), (m0, .inr (2, [.int 0, .ref b1, .int 0]))] sz) := by
  refine Met.ofW (cc := cX14_shots) (maxL := 1) (ret := (some .int)) (by decide) rfl ?_
  intro p e s m args below meth c s₁ B hml hv
  obtain ⟨rfl, hsz, hP, hK, hD0, hX, hY⟩ := hv
  have hx := B.exec
  have hb := B.bytes
  have hr := B.returns
  have hts0 := atoms_spec (ws := wz yX14_shots cX14_shots 1 (some .int)) B.pre
  have hts : ∀ w ∈ wAll, w.before _ s = true := fun w h => hts0 w (List.mem_cons_of_mem _ h)
  have hown : s.vm.findClass RX14 = some m.cls := findClass_of_methodNamed B.named
  have hlocks := B.notSynchronized
  subst hsz
  have hD := hD0.self (sz := s.heap.size)
  generalize hAe : va_A [(h0, .inr (17, [.ref m0, .ref m1, .ref m2, .ref m3, .ref m4, .ref m5, .ref m6, .ref m7, .ref m8, .ref m9, .ref m10, .ref m11, .ref m12, .ref m13, .ref m14, .ref m15, .ref m16, .ref m17, .ref m18, .ref m19, .ref m20, .int 0, .int 0, .int 0, .int 0, .long 0, .int 0])), (m0, .inr (2, [.int 0, .ref b1, .int 0]))] s.heap.size = A at hD hY ⊢
  have hA : ∀ q : Nat, s.heap.size ≤ q → A q := fun q h => by rw [← hAe]; exact Or.inr h
  have hS : va_S A s.heap s.heap [] := va_S.rf
  have hP : va_P D vwCl [(h0, .inr (17, [.ref m0, .ref m1, .ref m2, .ref m3, .ref m4, .ref m5, .ref m6, .ref m7, .ref m8, .ref m9, .ref m10, .ref m11, .ref m12, .ref m13, .ref m14, .ref m15, .ref m16, .ref m17, .ref m18, .ref m19, .ref m20, .int 0, .int 0, .int 0, .int 0, .long 0, .int 0])), (m0, .inr (2, [.int 0, .ref b1, .int 0]))] s.heap := hP
  have hl := lv_entry ([.ref h0]) (n := 1) (Nat.le_of_ble_eq_true rfl)
  rw [lg_entry_eq]
  generalize (lg_sl ([.ref h0]) ++ List.replicate (1 - (lg_sl ([.ref h0])).length) Slot.unset).toArray = ls at hl ⊢
  have hl : lv_has ls 1 [(0, .ref h0)] := hl
  refine z_anyQ (fun Q hQe => ?_)
  refine lv_aload_n hx hb dX14_shots_0 rfl (lv_at hl 0 rfl) ?_
  refine lv_aload_n hx hb dX14_shots_1 rfl (lv_at hl 0 rfl) ?_
  refine va_get (D := D) (ci := 17) (v := .ref m0) (C := RX14) (T := TX14) (N := 27) hx hb hts iRX14 hown hK hP 0 rfl rfl 0 (by decide) (hts _ q259) (fun _ h9 => h9) rfl dX14_shots_2 ?_
  refine zq_i (wc := [(m0, .inr (2, [.int 0, .ref b1, .int 0]))]) (wr := [(h0, .inr (17, [.ref m0, .ref m1, .ref m2, .ref m3, .ref m4, .ref m5, .ref m6, .ref m7, .ref m8, .ref m9, .ref m10, .ref m11, .ref m12, .ref m13, .ref m14, .ref m15, .ref m16, .ref m17, .ref m18, .ref m19, .ref m20, .int 0, .int 0, .int 0, .int 0, .long 0, .int 0]))]) (va_runV (As := []) (rest := [.ref h0]) ⟨hx, hb, hml, hown, hts⟩ (k_AL_size l D cy m0 b1 s.heap.size ) (cwV 0 hts (gzV (gz q287) q286 q288 q289 q255) rfl rfl rfl vJx4a65c_size_8abf5 ⟨Nat.le_of_ble_eq_true rfl, Nat.le_of_ble_eq_true rfl⟩) (zpV (ci := 2) (T := TJx4a65c) (N := 3) (q0 := 0) hK hX hY hP hD hS hA [1] (by decide) rfl rfl rfl) rfl rfl hl.1 rfl (lv_room (Nat.le_of_ble_eq_true rfl)) dX14_shots_5 ⟨Nat.le_of_ble_eq_true rfl, Nat.le_of_ble_eq_true rfl⟩) hP hD hS hA [1] [0] rfl rfl (by decide) (by decide) (fun x2 u1 H locs hw hP hD hS => ?_)
  obtain rfl : x2 = 0 := hw
  have hP : va_P D vwCl [(h0, .inr (17, [.ref m0, .ref m1, .ref m2, .ref m3, .ref m4, .ref m5, .ref m6, .ref m7, .ref m8, .ref m9, .ref m10, .ref m11, .ref m12, .ref m13, .ref m14, .ref m15, .ref m16, .ref m17, .ref m18, .ref m19, .ref m20, .int 0, .int 0, .int 0, .int 0, .long 0, .int 0])), (m0, .inr (2, [.int 0, .ref b1, .int 0]))] H := hP
  have hD : va_D A [(h0, .inr (17, [.ref m0, .ref m1, .ref m2, .ref m3, .ref m4, .ref m5, .ref m6, .ref m7, .ref m8, .ref m9, .ref m10, .ref m11, .ref m12, .ref m13, .ref m14, .ref m15, .ref m16, .ref m17, .ref m18, .ref m19, .ref m20, .int 0, .int 0, .int 0, .int 0, .long 0, .int 0])), (m0, .inr (2, [.int 0, .ref b1, .int 0]))] := hD
  refine zq_i (wc := [(h0, .inr (17, [.ref m0, .ref m1, .ref m2, .ref m3, .ref m4, .ref m5, .ref m6, .ref m7, .ref m8, .ref m9, .ref m10, .ref m11, .ref m12, .ref m13, .ref m14, .ref m15, .ref m16, .ref m17, .ref m18, .ref m19, .ref m20, .int 0, .int 0, .int 0, .int 0, .long 0, .int 0]))]) (wr := [(m0, .inr (2, [.int 0, .ref b1, .int 0]))]) (va_runV (As := [.int 0]) (rest := []) ⟨hx, hb, hml, hown, hts⟩ (k_answer l D cy h0 m0 m1 m2 m3 m4 m5 m6 m7 m8 m9 m10 m11 m12 m13 m14 m15 m16 m17 m18 m19 m20 0 0 0 0 0 0 0 H.size ) (cwV 1 hts (gzV (gz q372) q371 q373 q374 q285) rfl rfl rfl vX14_answer ⟨Nat.le_of_ble_eq_true rfl, Nat.le_of_ble_eq_true rfl⟩) (zpV (ci := 17) (T := TX14) (N := 27) (q0 := 0) hK hX hY hP hD hS hA [0] (by decide) rfl rfl rfl) rfl rfl hl.1 rfl (lv_room (Nat.le_of_ble_eq_true rfl)) dX14_shots_8 ⟨Nat.le_of_ble_eq_true rfl, Nat.le_of_ble_eq_true rfl⟩) hP hD hS hA [0] [1] rfl rfl (by decide) (by decide) (fun x4 u3 H locs hw hP hD hS => ?_)
  obtain rfl : x4 = 0 := hw
  have hP : va_P D vwCl [(m0, .inr (2, [.int 0, .ref b1, .int 0])), (h0, .inr (17, [.ref m0, .ref m1, .ref m2, .ref m3, .ref m4, .ref m5, .ref m6, .ref m7, .ref m8, .ref m9, .ref m10, .ref m11, .ref m12, .ref m13, .ref m14, .ref m15, .ref m16, .ref m17, .ref m18, .ref m19, .ref m20, .int 0, .int 0, .int 0, .int 0, .long 0, .int 0]))] H := hP
  have hD : va_D A [(m0, .inr (2, [.int 0, .ref b1, .int 0])), (h0, .inr (17, [.ref m0, .ref m1, .ref m2, .ref m3, .ref m4, .ref m5, .ref m6, .ref m7, .ref m8, .ref m9, .ref m10, .ref m11, .ref m12, .ref m13, .ref m14, .ref m15, .ref m16, .ref m17, .ref m18, .ref m19, .ref m20, .int 0, .int 0, .int 0, .int 0, .long 0, .int 0]))] := hD
  have hP9 := hP.sub (ws' := [(h0, .inr (17, [.ref m0, .ref m1, .ref m2, .ref m3, .ref m4, .ref m5, .ref m6, .ref m7, .ref m8, .ref m9, .ref m10, .ref m11, .ref m12, .ref m13, .ref m14, .ref m15, .ref m16, .ref m17, .ref m18, .ref m19, .ref m20, .int 0, .int 0, .int 0, .int 0, .long 0, .int 0]))]) [1] rfl
  have hD9 := hD.sub (ws' := [(h0, .inr (17, [.ref m0, .ref m1, .ref m2, .ref m3, .ref m4, .ref m5, .ref m6, .ref m7, .ref m8, .ref m9, .ref m10, .ref m11, .ref m12, .ref m13, .ref m14, .ref m15, .ref m16, .ref m17, .ref m18, .ref m19, .ref m20, .int 0, .int 0, .int 0, .int 0, .long 0, .int 0]))]) [1] (by decide) rfl
  refine W.widen (k := 0) (n := 0) (Nat.le_of_ble_eq_true rfl) (Nat.le_of_ble_eq_true rfl) ?_
  rw [hQe]
  exact W.iret (v := 0) hx hb hr (fun t ht hW => ⟨⟨0, (), rfl, rfl, ⟨by rw [ht]; exact hP9, hD9⟩⟩, hS.F ht⟩) hS.2.2 dX14_shots_11
set_option maxHeartbeats 4000000 in
set_option maxRecDepth 100000 in
theorem g_allSteps (l : Launch) (D : va_G) (cy : Nat → ClassId) (h0 : Nat) (m0 : Nat) (m1 : Nat) (m2 : Nat) (m3 : Nat) (m4 : Nat) (m5 : Nat) (m6 : Nat) (m7 : Nat) (m8 : Nat) (m9 : Nat) (m10 : Nat) (m11 : Nat) (m12 : Nat) (m13 : Nat) (m14 : Nat) (m15 : Nat) (m16 : Nat) (m17 : Nat) (m18 : Nat) (m19 : Nat) (m20 : Nat) (b1 : Nat) (sz : Nat)  : Met l yX14_allSteps (wz yX14_allSteps cX14_allSteps 4 (some .long)) ({ frames := 1, cells := 0, slots := 0, locals := 22 } : Room) (va_Pc [.ref h0] (zPre vwCl D cy [(h0, .inr (17, [.ref m0, .ref m1, .ref m2, .ref m3, .ref m4, .ref m5, .ref m6, .ref m7, .ref m8, .ref m9, .ref m10, .ref m11, .ref m12, .ref m13, .ref m14, .ref m15, .ref m16, .ref m17, .ref m18, .ref m19, .ref m20, .int 0, .int 0, .int 0, .int 0, .long 0, .int 0])), (m0, .inr (2, [.int 0, .ref b1, .int 0]))] sz)) (va_Ql (fun (r : Int64) (_ : Unit) => r = 0) (fun (u : Unit) t => zPost vwCl D (va_A [(h0, .inr (17, [.ref m0, .ref m1, .ref m2, .ref m3, .ref m4, .ref m5, .ref m6, .ref m7, .ref m8, .ref m9, .ref m10, .ref m11, .ref m12, .ref m13, .ref m14, .ref m15, .ref m16, .ref m17, .ref m18, .ref m19, .ref m20, .int 0, .int 0, .int 0, .int 0, .long 0, .int 0])), (m0, .inr (2, [.int 0, .ref b1, .int 0]))] sz) [(h0, .inr (17, [.ref m0, .ref m1, .ref m2, .ref m3, .ref m4, .ref m5, .ref m6, .ref m7, .ref m8, .ref m9, .ref m10, .ref m11, .ref m12, .ref m13, .ref m14, .ref m15, .ref m16, .ref m17, .ref m18, .ref m19, .ref m20, .int 0, .int 0, .int 0, .int 0, .long 0, .int 0]))] t) (va_A [(h0, .inr (17, [.ref m0, .ref m1, .ref m2, .ref m3, .ref m4, .ref m5, .ref m6, .ref m7, .ref m8, .ref m9, .ref m10, .ref m11, .ref m12, .ref m13, .ref m14, .ref m15, .ref m16, .ref m17, .ref m18, .ref m19, .ref m20, .int 0, .int 0, .int 0, .int 0, .long 0, .int 0])), (m0, .inr (2, [.int 0, .ref b1, .int 0]))] sz)) 0 0 (va_A [(h0, .inr (17, [.ref m0, .ref m1, .ref m2, .ref m3, .ref m4, .ref m5, .ref m6, .ref m7, .ref m8, .ref m9, .ref m10, .ref m11, .ref m12, .ref m13, .ref m14, .ref m15, .ref m16, .ref m17, .ref m18, .ref m19, .ref m20, .int 0, .int 0, .int 0, .int 0, .long 0, .int 0])), (m0, .inr (2, [.int 0, .ref b1, .int 0]))] sz) := by
  refine Met.ofW (cc := cX14_allSteps) (maxL := 4) (ret := (some .long)) (by decide) rfl ?_
  intro p e s m args below meth c s₁ B hml hv
  obtain ⟨rfl, hsz, hP, hK, hD0, hX, hY⟩ := hv
  have hx := B.exec
  have hb := B.bytes
  have hr := B.returns
  have hts0 := atoms_spec (ws := wz yX14_allSteps cX14_allSteps 4 (some .long)) B.pre
  have hts : ∀ w ∈ wAll, w.before _ s = true := fun w h => hts0 w (List.mem_cons_of_mem _ h)
  have hown : s.vm.findClass RX14 = some m.cls := findClass_of_methodNamed B.named
  have hlocks := B.notSynchronized
  subst hsz
  have hD := hD0.self (sz := s.heap.size)
  generalize hAe : va_A [(h0, .inr (17, [.ref m0, .ref m1, .ref m2, .ref m3, .ref m4, .ref m5, .ref m6, .ref m7, .ref m8, .ref m9, .ref m10, .ref m11, .ref m12, .ref m13, .ref m14, .ref m15, .ref m16, .ref m17, .ref m18, .ref m19, .ref m20, .int 0, .int 0, .int 0, .int 0, .long 0, .int 0])), (m0, .inr (2, [.int 0, .ref b1, .int 0]))] s.heap.size = A at hD hY ⊢
  have hA : ∀ q : Nat, s.heap.size ≤ q → A q := fun q h => by rw [← hAe]; exact Or.inr h
  have hS : va_S A s.heap s.heap [] := va_S.rf
  have hP : va_P D vwCl [(h0, .inr (17, [.ref m0, .ref m1, .ref m2, .ref m3, .ref m4, .ref m5, .ref m6, .ref m7, .ref m8, .ref m9, .ref m10, .ref m11, .ref m12, .ref m13, .ref m14, .ref m15, .ref m16, .ref m17, .ref m18, .ref m19, .ref m20, .int 0, .int 0, .int 0, .int 0, .long 0, .int 0])), (m0, .inr (2, [.int 0, .ref b1, .int 0]))] s.heap := hP
  have hl := lv_entry ([.ref h0]) (n := 4) (Nat.le_of_ble_eq_true rfl)
  rw [lg_entry_eq]
  generalize (lg_sl ([.ref h0]) ++ List.replicate (4 - (lg_sl ([.ref h0])).length) Slot.unset).toArray = ls at hl ⊢
  have hl : lv_has ls 4 [(0, .ref h0)] := hl
  refine z_anyQ (fun Q hQe => ?_)
  refine lv_lconst (v := 0) hx hb dX14_allSteps_0 rfl ?_
  refine lv_lstore_n (lv' := [(1, .long 0), (0, .ref h0)]) hx hb dX14_allSteps_1 rfl hl (by decide) rfl (fun ls hl => ?_)
  refine lv_iconst (v := 0) hx hb dX14_allSteps_2 (by decide) ?_
  refine lv_istore_n (lv' := [(3, .int 0), (1, .long 0), (0, .ref h0)]) hx hb dX14_allSteps_3 rfl hl (by decide) rfl (fun ls hl => ?_)
  refine lv_iload_n hx hb dX14_allSteps_4 rfl (lv_at hl 0 rfl) ?_
  refine lv_aload_n hx hb dX14_allSteps_5 rfl (lv_at hl 2 rfl) ?_
  refine va_get (D := D) (ci := 17) (v := .ref m0) (C := RX14) (T := TX14) (N := 27) hx hb hts iRX14 hown hK hP 0 rfl rfl 0 (by decide) (hts _ q259) (fun _ h9 => h9) rfl dX14_allSteps_6 ?_
  refine zq_i (wc := [(m0, .inr (2, [.int 0, .ref b1, .int 0]))]) (wr := [(h0, .inr (17, [.ref m0, .ref m1, .ref m2, .ref m3, .ref m4, .ref m5, .ref m6, .ref m7, .ref m8, .ref m9, .ref m10, .ref m11, .ref m12, .ref m13, .ref m14, .ref m15, .ref m16, .ref m17, .ref m18, .ref m19, .ref m20, .int 0, .int 0, .int 0, .int 0, .long 0, .int 0]))]) (va_runV (As := []) (rest := [.int 0]) ⟨hx, hb, hml, hown, hts⟩ (k_AL_size l D cy m0 b1 s.heap.size ) (cwV 0 hts (gzV (gz q287) q286 q288 q289 q255) rfl rfl rfl vJx4a65c_size_8abf5 ⟨Nat.le_of_ble_eq_true rfl, Nat.le_of_ble_eq_true rfl⟩) (zpV (ci := 2) (T := TJx4a65c) (N := 3) (q0 := 0) hK hX hY hP hD hS hA [1] (by decide) rfl rfl rfl) rfl rfl hl.1 rfl (lv_room (Nat.le_of_ble_eq_true rfl)) dX14_allSteps_9 ⟨Nat.le_of_ble_eq_true rfl, Nat.le_of_ble_eq_true rfl⟩) hP hD hS hA [1] [0] rfl rfl (by decide) (by decide) (fun x2 u1 H locs hw hP hD hS => ?_)
  obtain rfl : x2 = 0 := hw
  have hP : va_P D vwCl [(h0, .inr (17, [.ref m0, .ref m1, .ref m2, .ref m3, .ref m4, .ref m5, .ref m6, .ref m7, .ref m8, .ref m9, .ref m10, .ref m11, .ref m12, .ref m13, .ref m14, .ref m15, .ref m16, .ref m17, .ref m18, .ref m19, .ref m20, .int 0, .int 0, .int 0, .int 0, .long 0, .int 0])), (m0, .inr (2, [.int 0, .ref b1, .int 0]))] H := hP
  have hD : va_D A [(h0, .inr (17, [.ref m0, .ref m1, .ref m2, .ref m3, .ref m4, .ref m5, .ref m6, .ref m7, .ref m8, .ref m9, .ref m10, .ref m11, .ref m12, .ref m13, .ref m14, .ref m15, .ref m16, .ref m17, .ref m18, .ref m19, .ref m20, .int 0, .int 0, .int 0, .int 0, .long 0, .int 0])), (m0, .inr (2, [.int 0, .ref b1, .int 0]))] := hD
  refine lv_icmp_ge (tgt := 75) hx hb dX14_allSteps_12 (by decide) (fun _ => ?_) (fun c_12_2 => absurd (by decide +kernel) c_12_2)
  refine lv_aload_n hx hb dX14_allSteps_75 rfl (lv_at hl 2 rfl) ?_
  refine lv_lload_n hx hb dX14_allSteps_76 rfl (lv_at hl 1 rfl) ?_
  refine zq_l (wc := [(h0, .inr (17, [.ref m0, .ref m1, .ref m2, .ref m3, .ref m4, .ref m5, .ref m6, .ref m7, .ref m8, .ref m9, .ref m10, .ref m11, .ref m12, .ref m13, .ref m14, .ref m15, .ref m16, .ref m17, .ref m18, .ref m19, .ref m20, .int 0, .int 0, .int 0, .int 0, .long 0, .int 0]))]) (wr := [(m0, .inr (2, [.int 0, .ref b1, .int 0]))]) (va_runV (As := [.long 0]) (rest := []) ⟨hx, hb, hml, hown, hts⟩ (k_tellLong l D cy h0 m0 m1 m2 m3 m4 m5 m6 m7 m8 m9 m10 m11 m12 m13 m14 m15 m16 m17 m18 m19 m20 0 0 0 0 0 0 0 H.size ) (cwV 1 hts (gzV (gz q388) q387 q389 q390 q285) rfl rfl rfl vX14_tellLong ⟨Nat.le_of_ble_eq_true rfl, Nat.le_of_ble_eq_true rfl⟩) (zpV (ci := 17) (T := TX14) (N := 27) (q0 := 0) hK hX hY hP hD hS hA [0] (by decide) rfl rfl rfl) rfl rfl hl.1 rfl (lv_room (Nat.le_of_ble_eq_true rfl)) dX14_allSteps_77 ⟨Nat.le_of_ble_eq_true rfl, Nat.le_of_ble_eq_true rfl⟩) hP hD hS hA [0] [1] rfl rfl (by decide) (by decide) (fun x5 u4 H locs hw hP hD hS => ?_)
  obtain rfl : x5 = 0 := hw
  have hP : va_P D vwCl [(m0, .inr (2, [.int 0, .ref b1, .int 0])), (h0, .inr (17, [.ref m0, .ref m1, .ref m2, .ref m3, .ref m4, .ref m5, .ref m6, .ref m7, .ref m8, .ref m9, .ref m10, .ref m11, .ref m12, .ref m13, .ref m14, .ref m15, .ref m16, .ref m17, .ref m18, .ref m19, .ref m20, .int 0, .int 0, .int 0, .int 0, .long 0, .int 0]))] H := hP
  have hD : va_D A [(m0, .inr (2, [.int 0, .ref b1, .int 0])), (h0, .inr (17, [.ref m0, .ref m1, .ref m2, .ref m3, .ref m4, .ref m5, .ref m6, .ref m7, .ref m8, .ref m9, .ref m10, .ref m11, .ref m12, .ref m13, .ref m14, .ref m15, .ref m16, .ref m17, .ref m18, .ref m19, .ref m20, .int 0, .int 0, .int 0, .int 0, .long 0, .int 0]))] := hD
  have hP9 := hP.sub (ws' := [(h0, .inr (17, [.ref m0, .ref m1, .ref m2, .ref m3, .ref m4, .ref m5, .ref m6, .ref m7, .ref m8, .ref m9, .ref m10, .ref m11, .ref m12, .ref m13, .ref m14, .ref m15, .ref m16, .ref m17, .ref m18, .ref m19, .ref m20, .int 0, .int 0, .int 0, .int 0, .long 0, .int 0]))]) [1] rfl
  have hD9 := hD.sub (ws' := [(h0, .inr (17, [.ref m0, .ref m1, .ref m2, .ref m3, .ref m4, .ref m5, .ref m6, .ref m7, .ref m8, .ref m9, .ref m10, .ref m11, .ref m12, .ref m13, .ref m14, .ref m15, .ref m16, .ref m17, .ref m18, .ref m19, .ref m20, .int 0, .int 0, .int 0, .int 0, .long 0, .int 0]))]) [1] (by decide) rfl
  refine W.widen (k := 0) (n := 0) (Nat.le_of_ble_eq_true rfl) (Nat.le_of_ble_eq_true rfl) ?_
  rw [hQe]
  exact W.lret (v := 0) hx hb hr (fun t ht hW => ⟨⟨0, (), rfl, rfl, ⟨by rw [ht]; exact hP9, hD9⟩⟩, hS.F ht⟩) hS.2.2 dX14_allSteps_80
set_option maxHeartbeats 4000000 in
set_option maxRecDepth 100000 in
theorem g_meanRain (l : Launch) (D : va_G) (cy : Nat → ClassId) (h0 : Nat) (m0 : Nat) (m1 : Nat) (m2 : Nat) (m3 : Nat) (m4 : Nat) (m5 : Nat) (m6 : Nat) (m7 : Nat) (m8 : Nat) (m9 : Nat) (m10 : Nat) (m11 : Nat) (m12 : Nat) (m13 : Nat) (m14 : Nat) (m15 : Nat) (m16 : Nat) (m17 : Nat) (m18 : Nat) (m19 : Nat) (m20 : Nat) (sz : Nat)  : Met l yX14_meanRain (wz yX14_meanRain cX14_meanRain 4 (some .double)) ({ frames := 0, cells := 0, slots := 0, locals := 0 } : Room) (va_Pc [.ref h0] (zPre vwCl D cy [(h0, .inr (17, [.ref m0, .ref m1, .ref m2, .ref m3, .ref m4, .ref m5, .ref m6, .ref m7, .ref m8, .ref m9, .ref m10, .ref m11, .ref m12, .ref m13, .ref m14, .ref m15, .ref m16, .ref m17, .ref m18, .ref m19, .ref m20, .int 0, .int 0, .int 0, .int 0, .long 0, .int 0])), (m7, .inl (cy 0, 200, .inl (fun _ => 0)))] sz)) (va_Qd (fun (r : UInt64) (_ : Unit) => r = FP.dconst0) (fun (u : Unit) t => zPost vwCl D (va_A [(h0, .inr (17, [.ref m0, .ref m1, .ref m2, .ref m3, .ref m4, .ref m5, .ref m6, .ref m7, .ref m8, .ref m9, .ref m10, .ref m11, .ref m12, .ref m13, .ref m14, .ref m15, .ref m16, .ref m17, .ref m18, .ref m19, .ref m20, .int 0, .int 0, .int 0, .int 0, .long 0, .int 0])), (m7, .inl (cy 0, 200, .inl (fun _ => 0)))] sz) [(h0, .inr (17, [.ref m0, .ref m1, .ref m2, .ref m3, .ref m4, .ref m5, .ref m6, .ref m7, .ref m8, .ref m9, .ref m10, .ref m11, .ref m12, .ref m13, .ref m14, .ref m15, .ref m16, .ref m17, .ref m18, .ref m19, .ref m20, .int 1, .int 0, .int 0, .int 0, .long 0, .int 0]))] t) (va_A [(h0, .inr (17, [.ref m0, .ref m1, .ref m2, .ref m3, .ref m4, .ref m5, .ref m6, .ref m7, .ref m8, .ref m9, .ref m10, .ref m11, .ref m12, .ref m13, .ref m14, .ref m15, .ref m16, .ref m17, .ref m18, .ref m19, .ref m20, .int 0, .int 0, .int 0, .int 0, .long 0, .int 0])), (m7, .inl (cy 0, 200, .inl (fun _ => 0)))] sz)) 0 0 (va_A [(h0, .inr (17, [.ref m0, .ref m1, .ref m2, .ref m3, .ref m4, .ref m5, .ref m6, .ref m7, .ref m8, .ref m9, .ref m10, .ref m11, .ref m12, .ref m13, .ref m14, .ref m15, .ref m16, .ref m17, .ref m18, .ref m19, .ref m20, .int 0, .int 0, .int 0, .int 0, .long 0, .int 0])), (m7, .inl (cy 0, 200, .inl (fun _ => 0)))] sz) := by
  refine Met.ofW (cc := cX14_meanRain) (maxL := 4) (ret := (some .double)) (by decide) rfl ?_
  intro p e s m args below meth c s₁ B hml hv
  obtain ⟨rfl, hsz, hP, hK, hD0, hX, hY⟩ := hv
  have hx := B.exec
  have hb := B.bytes
  have hr := B.returns
  have hts0 := atoms_spec (ws := wz yX14_meanRain cX14_meanRain 4 (some .double)) B.pre
  have hts : ∀ w ∈ wAll, w.before _ s = true := fun w h => hts0 w (List.mem_cons_of_mem _ h)
  have hown : s.vm.findClass RX14 = some m.cls := findClass_of_methodNamed B.named
  have hlocks := B.notSynchronized
  subst hsz
  have hD := hD0.self (sz := s.heap.size)
  generalize hAe : va_A [(h0, .inr (17, [.ref m0, .ref m1, .ref m2, .ref m3, .ref m4, .ref m5, .ref m6, .ref m7, .ref m8, .ref m9, .ref m10, .ref m11, .ref m12, .ref m13, .ref m14, .ref m15, .ref m16, .ref m17, .ref m18, .ref m19, .ref m20, .int 0, .int 0, .int 0, .int 0, .long 0, .int 0])), (m7, .inl (cy 0, 200, .inl (fun _ => 0)))] s.heap.size = A at hD hY ⊢
  have hA : ∀ q : Nat, s.heap.size ≤ q → A q := fun q h => by rw [← hAe]; exact Or.inr h
  have hS : va_S A s.heap s.heap [] := va_S.rf
  have hP : va_P D vwCl [(h0, .inr (17, [.ref m0, .ref m1, .ref m2, .ref m3, .ref m4, .ref m5, .ref m6, .ref m7, .ref m8, .ref m9, .ref m10, .ref m11, .ref m12, .ref m13, .ref m14, .ref m15, .ref m16, .ref m17, .ref m18, .ref m19, .ref m20, .int 0, .int 0, .int 0, .int 0, .long 0, .int 0])), (m7, .inl (cy 0, 200, .inl (fun _ => 0)))] s.heap := hP
  have hl := lv_entry ([.ref h0]) (n := 4) (Nat.le_of_ble_eq_true rfl)
  rw [lg_entry_eq]
  generalize (lg_sl ([.ref h0]) ++ List.replicate (4 - (lg_sl ([.ref h0])).length) Slot.unset).toArray = ls at hl ⊢
  have hl : lv_has ls 4 [(0, .ref h0)] := hl
  refine z_anyQ (fun Q hQe => ?_)
  refine lv_iconst (v := 0) hx hb dX14_meanRain_0 (by decide) ?_
  refine lv_istore_n (lv' := [(1, .int 0), (0, .ref h0)]) hx hb dX14_meanRain_1 rfl hl (by decide) rfl (fun ls hl => ?_)
  refine lv_iconst (v := 0) hx hb dX14_meanRain_2 (by decide) ?_
  refine lv_istore_n (lv' := [(2, .int 0), (1, .int 0), (0, .ref h0)]) hx hb dX14_meanRain_3 rfl hl (by decide) rfl (fun ls hl => ?_)
  refine lv_iconst (v := 0) hx hb dX14_meanRain_4 (by decide) ?_
  refine lv_istore_n (lv' := [(3, .int 0), (2, .int 0), (1, .int 0), (0, .ref h0)]) hx hb dX14_meanRain_5 rfl hl (by decide) rfl (fun ls hl => ?_)
  have lp6_1 : ∀ (n i : Nat), i ≤ 200 → 200 + 1 ≤ i + n → ∀ (H : Heap) (locs : List Loc), va_P D vwCl [(h0, .inr (17, [.ref m0, .ref m1, .ref m2, .ref m3, .ref m4, .ref m5, .ref m6, .ref m7, .ref m8, .ref m9, .ref m10, .ref m11, .ref m12, .ref m13, .ref m14, .ref m15, .ref m16, .ref m17, .ref m18, .ref m19, .ref m20, .int 0, .int 0, .int 0, .int 0, .long 0, .int 0])), (m7, .inl (cy 0, 200, .inl (fun _ => 0)))] H → va_D A [(h0, .inr (17, [.ref m0, .ref m1, .ref m2, .ref m3, .ref m4, .ref m5, .ref m6, .ref m7, .ref m8, .ref m9, .ref m10, .ref m11, .ref m12, .ref m13, .ref m14, .ref m15, .ref m16, .ref m17, .ref m18, .ref m19, .ref m20, .int 0, .int 0, .int 0, .int 0, .long 0, .int 0])), (m7, .inl (cy 0, 200, .inl (fun _ => 0)))] → va_S A s.heap H locs → ∀ ls, lv_has ls 4 [(0, .ref h0), (1, .int 0), (2, .int 0), (3, .int (nI i))] → W p l e (headSpec (wz yX14_meanRain cX14_meanRain 4 (some .double)) ({ frames := 0, cells := 0, slots := 0, locals := 0 } : Room)).room s m ([.ref h0] : List Value).toArray below meth c H locs 0 0 Q (F0 m 6 ls []) := by
    intro n
    induction n with
    | zero => intro i h1 h2; exact absurd h2 (by omega)
    | succ n ih6 =>
      intro i hii hni H locs hP hD hS ls hl
      refine lv_iload_n hx hb dX14_meanRain_6 rfl (lv_at hl 3 rfl) ?_
      refine lv_sipush (v := 199) hx hb dX14_meanRain_7 (by decide) ?_
      refine lv_icmp_gt (tgt := 45) hx hb dX14_meanRain_10 (by decide) (fun c_10_1 => ?_) (fun c_10_1 => ?_)
      · skip
        have hE : i = 200 := z_gt (M := 199) (by decide) hii (by decide) c_10_1
        subst hE
        have hl : lv_has ls 4 [(0, .ref h0), (1, .int 0), (2, .int 0), (3, .int 200)] := hl
        refine lv_aload_n hx hb dX14_meanRain_45 rfl (lv_at hl 0 rfl) ?_
        refine lv_iload_n hx hb dX14_meanRain_46 rfl (lv_at hl 1 rfl) ?_
        refine lv_if_ne (tgt := 54) hx hb dX14_meanRain_47 (by decide) (fun c_47_2 => absurd (by decide +kernel) c_47_2) (fun _ => ?_)
        refine lv_iconst (v := 1) hx hb dX14_meanRain_50 (by decide) ?_
        refine lv_goto (tgt := 55) hx hb dX14_meanRain_51 (by decide) ?_
        refine va_put (D := D) (ci := 17) (v := .int 1) (ty := .int) (C := RX14) (T := TX14) (N := 27) hx hb hts iRX14 tyX14 tyX14_ok nmX14 hown hK hP hD hS 0 rfl rfl 21 (by decide) (hts _ q280) (fun _ h9 => h9) rfl (tyX14_ok 21 (by decide)) rfl rfl (Nat.le_of_ble_eq_true rfl) dX14_meanRain_55 (fun H locs hP hD hS => ?_)
        have hP : va_P D vwCl [(h0, .inr (17, [.ref m0, .ref m1, .ref m2, .ref m3, .ref m4, .ref m5, .ref m6, .ref m7, .ref m8, .ref m9, .ref m10, .ref m11, .ref m12, .ref m13, .ref m14, .ref m15, .ref m16, .ref m17, .ref m18, .ref m19, .ref m20, .int 1, .int 0, .int 0, .int 0, .long 0, .int 0])), (m7, .inl (cy 0, 200, .inl (fun _ => 0)))] H := hP
        have hD : va_D A [(h0, .inr (17, [.ref m0, .ref m1, .ref m2, .ref m3, .ref m4, .ref m5, .ref m6, .ref m7, .ref m8, .ref m9, .ref m10, .ref m11, .ref m12, .ref m13, .ref m14, .ref m15, .ref m16, .ref m17, .ref m18, .ref m19, .ref m20, .int 1, .int 0, .int 0, .int 0, .long 0, .int 0])), (m7, .inl (cy 0, 200, .inl (fun _ => 0)))] := hD
        refine lv_iload_n hx hb dX14_meanRain_58 rfl (lv_at hl 1 rfl) ?_
        refine lv_if_ne (tgt := 66) hx hb dX14_meanRain_59 (by decide) (fun c_59_3 => absurd (by decide +kernel) c_59_3) (fun _ => ?_)
        refine lv_dconst0 hx hb dX14_meanRain_62 ?_
        refine lv_goto (tgt := 71) hx hb dX14_meanRain_63 (by decide) ?_
        have hP9 := hP.sub (ws' := [(h0, .inr (17, [.ref m0, .ref m1, .ref m2, .ref m3, .ref m4, .ref m5, .ref m6, .ref m7, .ref m8, .ref m9, .ref m10, .ref m11, .ref m12, .ref m13, .ref m14, .ref m15, .ref m16, .ref m17, .ref m18, .ref m19, .ref m20, .int 1, .int 0, .int 0, .int 0, .long 0, .int 0]))]) [0] rfl
        have hD9 := hD.sub (ws' := [(h0, .inr (17, [.ref m0, .ref m1, .ref m2, .ref m3, .ref m4, .ref m5, .ref m6, .ref m7, .ref m8, .ref m9, .ref m10, .ref m11, .ref m12, .ref m13, .ref m14, .ref m15, .ref m16, .ref m17, .ref m18, .ref m19, .ref m20, .int 1, .int 0, .int 0, .int 0, .long 0, .int 0]))]) [0] (by decide) rfl
        refine W.widen (k := 0) (n := 0) (Nat.le_of_ble_eq_true rfl) (Nat.le_of_ble_eq_true rfl) ?_
        rw [hQe]
        exact W.dret (v := FP.dconst0) hx hb hr (fun t ht hW => ⟨⟨FP.dconst0, (), rfl, rfl, ⟨by rw [ht]; exact hP9, hD9⟩⟩, hS.F ht⟩) hS.2.2 dX14_meanRain_71
      · skip
        have hlti : i < 200 := Nat.lt_succ_of_le (z_le (M := 199) (by decide) hii (by decide) c_10_1)
        refine lv_iload_n hx hb dX14_meanRain_13 rfl (lv_at hl 1 rfl) ?_
        refine lv_aload_n hx hb dX14_meanRain_14 rfl (lv_at hl 0 rfl) ?_
        refine va_get (D := D) (ci := 17) (v := .ref m7) (C := RX14) (T := TX14) (N := 27) hx hb hts iRX14 hown hK hP 0 rfl rfl 7 (by decide) (hts _ q266) (fun _ h9 => h9) rfl dX14_meanRain_15 ?_
        refine lv_iload_n hx hb dX14_meanRain_18 rfl (lv_at hl 3 rfl) ?_
        refine va_iald hx hb hK hP 1 0 rfl rfl (vp_in_nI (by omega) (by decide)) dX14_meanRain_19 ?_
        refine lv_topi (fun y5 ey5 => ?_)
        obtain rfl : y5 = 0 := ey5.trans rfl
        refine lv_if_le (tgt := 27) hx hb dX14_meanRain_20 (by decide) (fun _ => ?_) (fun c_20_5 => absurd (by decide +kernel) c_20_5)
        refine lv_iconst (v := 0) hx hb dX14_meanRain_27 (by decide) ?_
        refine lv_iadd hx hb dX14_meanRain_28 ?_
        refine lv_topi (fun y7 ey7 => ?_)
        obtain rfl : y7 = 0 := ey7.trans (by decide +kernel)
        refine lv_istore_n (lv' := [(1, .int 0), (0, .ref h0), (2, .int 0), (3, .int (nI i))]) hx hb dX14_meanRain_29 rfl hl (by decide) rfl (fun ls hl => ?_)
        refine lv_iload_n hx hb dX14_meanRain_30 rfl (lv_at hl 2 rfl) ?_
        refine lv_aload_n hx hb dX14_meanRain_31 rfl (lv_at hl 1 rfl) ?_
        refine va_get (D := D) (ci := 17) (v := .ref m7) (C := RX14) (T := TX14) (N := 27) hx hb hts iRX14 hown hK hP 0 rfl rfl 7 (by decide) (hts _ q266) (fun _ h9 => h9) rfl dX14_meanRain_32 ?_
        refine lv_iload_n hx hb dX14_meanRain_35 rfl (lv_at hl 3 rfl) ?_
        refine va_iald hx hb hK hP 1 0 rfl rfl (vp_in_nI (by omega) (by decide)) dX14_meanRain_36 ?_
        refine lv_topi (fun y8 ey8 => ?_)
        obtain rfl : y8 = 0 := ey8.trans rfl
        refine lv_iadd hx hb dX14_meanRain_37 ?_
        refine lv_topi (fun y9 ey9 => ?_)
        obtain rfl : y9 = 0 := ey9.trans (by decide +kernel)
        refine lv_istore_n (lv' := [(2, .int 0), (1, .int 0), (0, .ref h0), (3, .int (nI i))]) hx hb dX14_meanRain_38 rfl hl (by decide) rfl (fun ls hl => ?_)
        refine lv_iinc (v := (nI (i + 1))) (lv' := [(3, .int (nI (i + 1))), (2, .int 0), (1, .int 0), (0, .ref h0)]) hx hb dX14_meanRain_39 hl (k := 3) rfl (z_n1 i) (by decide) rfl (fun ls hl => ?_)
        refine lv_goto (tgt := 6) hx hb dX14_meanRain_42 (by decide) ?_
        exact ih6 (i + 1) (by omega) (by omega) _ _ (hP.sub [0, 1] rfl) (hD.sub [0, 1] (by decide) rfl) hS ls (lv_sub hl [3, 2, 1, 0] rfl)
  exact lp6_1 (200 + 1) 0 (by decide) (by decide) _ _ hP hD hS ls (lv_sub hl [3, 2, 1, 0] rfl)
set_option maxHeartbeats 4000000 in
set_option maxRecDepth 100000 in
theorem g_rain_ok (l : Launch) (D : va_G) (cy : Nat → ClassId) (h0 : Nat) (m0 : Nat) (m1 : Nat) (m2 : Nat) (m3 : Nat) (m4 : Nat) (m5 : Nat) (m6 : Nat) (m7 : Nat) (m8 : Nat) (m9 : Nat) (m10 : Nat) (m11 : Nat) (m12 : Nat) (m13 : Nat) (m14 : Nat) (m15 : Nat) (m16 : Nat) (m17 : Nat) (m18 : Nat) (m19 : Nat) (m20 : Nat) (k : Nat) (r : Int32) (sz : Nat) (hk : k < 200) (h1 : ¬ r < 0) (h2 : r ≤ 99) : Met l yX14_rain (wz yX14_rain cX14_rain 4 (some .int)) ({ frames := 1, cells := 0, slots := 0, locals := 25 } : Room) (va_Pc [.ref h0, .int (nI k), .int r] (zPre vwCl D cy [(h0, .inr (17, [.ref m0, .ref m1, .ref m2, .ref m3, .ref m4, .ref m5, .ref m6, .ref m7, .ref m8, .ref m9, .ref m10, .ref m11, .ref m12, .ref m13, .ref m14, .ref m15, .ref m16, .ref m17, .ref m18, .ref m19, .ref m20, .int 0, .int 0, .int 0, .int 0, .long 0, .int 0])), (m7, .inl (cy 0, 200, .inl (fun _ => 0)))] sz)) (va_Qi (fun (r : Int32) (_ : Unit) => r = 0) (fun (u : Unit) t => zPost vwCl D (va_A [(h0, .inr (17, [.ref m0, .ref m1, .ref m2, .ref m3, .ref m4, .ref m5, .ref m6, .ref m7, .ref m8, .ref m9, .ref m10, .ref m11, .ref m12, .ref m13, .ref m14, .ref m15, .ref m16, .ref m17, .ref m18, .ref m19, .ref m20, .int 0, .int 0, .int 0, .int 0, .long 0, .int 0])), (m7, .inl (cy 0, 200, .inl (fun _ => 0)))] sz) [(h0, .inr (17, [.ref m0, .ref m1, .ref m2, .ref m3, .ref m4, .ref m5, .ref m6, .ref m7, .ref m8, .ref m9, .ref m10, .ref m11, .ref m12, .ref m13, .ref m14, .ref m15, .ref m16, .ref m17, .ref m18, .ref m19, .ref m20, .int 0, .int 0, .int 0, .int 0, .long 0, .int 0]))] t) (va_A [(h0, .inr (17, [.ref m0, .ref m1, .ref m2, .ref m3, .ref m4, .ref m5, .ref m6, .ref m7, .ref m8, .ref m9, .ref m10, .ref m11, .ref m12, .ref m13, .ref m14, .ref m15, .ref m16, .ref m17, .ref m18, .ref m19, .ref m20, .int 0, .int 0, .int 0, .int 0, .long 0, .int 0])), (m7, .inl (cy 0, 200, .inl (fun _ => 0)))] sz)) 0 0 (va_A [(h0, .inr (17, [.ref m0, .ref m1, .ref m2, .ref m3, .ref m4, .ref m5, .ref m6, .ref m7, .ref m8, .ref m9, .ref m10, .ref m11, .ref m12, .ref m13, .ref m14, .ref m15, .ref m16, .ref m17, .ref m18, .ref m19, .ref m20, .int 0, .int 0, .int 0, .int 0, .long 0, .int 0])), (m7, .inl (cy 0, 200, .inl (fun _ => 0)))] sz) := by
  refine Met.ofW (cc := cX14_rain) (maxL := 4) (ret := (some .int)) (by decide) rfl ?_
  intro p e s m args below meth c s₁ B hml hv
  obtain ⟨rfl, hsz, hP, hK, hD0, hX, hY⟩ := hv
  have hx := B.exec
  have hb := B.bytes
  have hr := B.returns
  have hts0 := atoms_spec (ws := wz yX14_rain cX14_rain 4 (some .int)) B.pre
  have hts : ∀ w ∈ wAll, w.before _ s = true := fun w h => hts0 w (List.mem_cons_of_mem _ h)
  have hown : s.vm.findClass RX14 = some m.cls := findClass_of_methodNamed B.named
  have hlocks := B.notSynchronized
  subst hsz
  have hD := hD0.self (sz := s.heap.size)
  generalize hAe : va_A [(h0, .inr (17, [.ref m0, .ref m1, .ref m2, .ref m3, .ref m4, .ref m5, .ref m6, .ref m7, .ref m8, .ref m9, .ref m10, .ref m11, .ref m12, .ref m13, .ref m14, .ref m15, .ref m16, .ref m17, .ref m18, .ref m19, .ref m20, .int 0, .int 0, .int 0, .int 0, .long 0, .int 0])), (m7, .inl (cy 0, 200, .inl (fun _ => 0)))] s.heap.size = A at hD hY ⊢
  have hA : ∀ q : Nat, s.heap.size ≤ q → A q := fun q h => by rw [← hAe]; exact Or.inr h
  have hS : va_S A s.heap s.heap [] := va_S.rf
  have hP : va_P D vwCl [(h0, .inr (17, [.ref m0, .ref m1, .ref m2, .ref m3, .ref m4, .ref m5, .ref m6, .ref m7, .ref m8, .ref m9, .ref m10, .ref m11, .ref m12, .ref m13, .ref m14, .ref m15, .ref m16, .ref m17, .ref m18, .ref m19, .ref m20, .int 0, .int 0, .int 0, .int 0, .long 0, .int 0])), (m7, .inl (cy 0, 200, .inl (fun _ => 0)))] s.heap := hP
  have hl := lv_entry ([.ref h0, .int (nI k), .int r]) (n := 4) (Nat.le_of_ble_eq_true rfl)
  rw [lg_entry_eq]
  generalize (lg_sl ([.ref h0, .int (nI k), .int r]) ++ List.replicate (4 - (lg_sl ([.ref h0, .int (nI k), .int r])).length) Slot.unset).toArray = ls at hl ⊢
  have hl : lv_has ls 4 [(0, .ref h0), (1, .int (nI k)), (2, .int r)] := hl
  refine z_anyQ (fun Q hQe => ?_)
  refine lv_iload_n hx hb dX14_rain_0 rfl (lv_at hl 1 rfl) ?_
  refine lv_i2l (v := ((nI k)).toInt64) hx hb dX14_rain_1 rfl ?_
  refine lv_lconst (v := 0) hx hb dX14_rain_2 rfl ?_
  refine lv_ldc2 (v := 199) hx hb hown (hts _ q396) dX14_rain_3 ?_
  refine zq_i (wc := []) (wr := [(h0, .inr (17, [.ref m0, .ref m1, .ref m2, .ref m3, .ref m4, .ref m5, .ref m6, .ref m7, .ref m8, .ref m9, .ref m10, .ref m11, .ref m12, .ref m13, .ref m14, .ref m15, .ref m16, .ref m17, .ref m18, .ref m19, .ref m20, .int 0, .int 0, .int 0, .int 0, .long 0, .int 0])), (m7, .inl (cy 0, 200, .inl (fun _ => 0)))]) (va_runS (As := [.long ((nI k)).toInt64, .long 0, .long 199]) (rest := []) ⟨hx, hb, hml, hown, hts⟩ (k_in_T l D cy (((nI k)).toInt64) 0 199 s.heap.size (z_w0 (nI_pos (by omega))) (z_wM (b := 199) (by decide +kernel) (nI_le (b := 199) (by omega) (by decide)))) (va_cwS 3 hts (gzS (gz q283) q282 q284 q285) rfl rfl rfl vX14_in.2 ⟨Nat.le_of_ble_eq_true rfl, Nat.le_of_ble_eq_true rfl⟩) (zpS hK hX hY hP hD hS hA [] (by decide) rfl) rfl rfl hl.1 rfl (lv_room (Nat.le_of_ble_eq_true rfl)) dX14_rain_6 ⟨Nat.le_of_ble_eq_true rfl, Nat.le_of_ble_eq_true rfl⟩) hP hD hS hA [] [0, 1] rfl rfl (by decide) (by decide) (fun x2 u1 H locs hw hP hD hS => ?_)
  obtain rfl : x2 = 1 := hw
  have hP : va_P D vwCl [(h0, .inr (17, [.ref m0, .ref m1, .ref m2, .ref m3, .ref m4, .ref m5, .ref m6, .ref m7, .ref m8, .ref m9, .ref m10, .ref m11, .ref m12, .ref m13, .ref m14, .ref m15, .ref m16, .ref m17, .ref m18, .ref m19, .ref m20, .int 0, .int 0, .int 0, .int 0, .long 0, .int 0])), (m7, .inl (cy 0, 200, .inl (fun _ => 0)))] H := hP
  have hD : va_D A [(h0, .inr (17, [.ref m0, .ref m1, .ref m2, .ref m3, .ref m4, .ref m5, .ref m6, .ref m7, .ref m8, .ref m9, .ref m10, .ref m11, .ref m12, .ref m13, .ref m14, .ref m15, .ref m16, .ref m17, .ref m18, .ref m19, .ref m20, .int 0, .int 0, .int 0, .int 0, .long 0, .int 0])), (m7, .inl (cy 0, 200, .inl (fun _ => 0)))] := hD
  refine lv_if_eq (tgt := 24) hx hb dX14_rain_9 (by decide) (fun c_9_2 => absurd c_9_2 (by decide +kernel)) (fun _ => ?_)
  refine lv_iload_n hx hb dX14_rain_12 rfl (lv_at hl 2 rfl) ?_
  refine lv_i2l (v := r.toInt64) hx hb dX14_rain_13 rfl ?_
  refine lv_lconst (v := 0) hx hb dX14_rain_14 rfl ?_
  refine lv_ldc2 (v := 99) hx hb hown (hts _ q397) dX14_rain_15 ?_
  refine zq_i (wc := []) (wr := [(h0, .inr (17, [.ref m0, .ref m1, .ref m2, .ref m3, .ref m4, .ref m5, .ref m6, .ref m7, .ref m8, .ref m9, .ref m10, .ref m11, .ref m12, .ref m13, .ref m14, .ref m15, .ref m16, .ref m17, .ref m18, .ref m19, .ref m20, .int 0, .int 0, .int 0, .int 0, .long 0, .int 0])), (m7, .inl (cy 0, 200, .inl (fun _ => 0)))]) (va_runS (As := [.long (r.toInt64), .long 0, .long 99]) (rest := []) ⟨hx, hb, hml, hown, hts⟩ (k_in_T l D cy (r.toInt64) 0 99 H.size (z_w0 h1) (z_wM (b := 99) (by decide +kernel) h2)) (va_cwS 3 hts (gzS (gz q283) q282 q284 q285) rfl rfl rfl vX14_in.2 ⟨Nat.le_of_ble_eq_true rfl, Nat.le_of_ble_eq_true rfl⟩) (zpS hK hX hY hP hD hS hA [] (by decide) rfl) rfl rfl hl.1 rfl (lv_room (Nat.le_of_ble_eq_true rfl)) dX14_rain_18 ⟨Nat.le_of_ble_eq_true rfl, Nat.le_of_ble_eq_true rfl⟩) hP hD hS hA [] [0, 1] rfl rfl (by decide) (by decide) (fun x5 u4 H locs hw hP hD hS => ?_)
  obtain rfl : x5 = 1 := hw
  have hP : va_P D vwCl [(h0, .inr (17, [.ref m0, .ref m1, .ref m2, .ref m3, .ref m4, .ref m5, .ref m6, .ref m7, .ref m8, .ref m9, .ref m10, .ref m11, .ref m12, .ref m13, .ref m14, .ref m15, .ref m16, .ref m17, .ref m18, .ref m19, .ref m20, .int 0, .int 0, .int 0, .int 0, .long 0, .int 0])), (m7, .inl (cy 0, 200, .inl (fun _ => 0)))] H := hP
  have hD : va_D A [(h0, .inr (17, [.ref m0, .ref m1, .ref m2, .ref m3, .ref m4, .ref m5, .ref m6, .ref m7, .ref m8, .ref m9, .ref m10, .ref m11, .ref m12, .ref m13, .ref m14, .ref m15, .ref m16, .ref m17, .ref m18, .ref m19, .ref m20, .int 0, .int 0, .int 0, .int 0, .long 0, .int 0])), (m7, .inl (cy 0, 200, .inl (fun _ => 0)))] := hD
  refine lv_if_ne (tgt := 30) hx hb dX14_rain_21 (by decide) (fun _ => ?_) (fun c_21_5 => absurd c_21_5 (by decide +kernel))
  refine lv_aload_n hx hb dX14_rain_30 rfl (lv_at hl 0 rfl) ?_
  refine va_get (D := D) (ci := 17) (v := .ref m7) (C := RX14) (T := TX14) (N := 27) hx hb hts iRX14 hown hK hP 0 rfl rfl 7 (by decide) (hts _ q266) (fun _ h9 => h9) rfl dX14_rain_31 ?_
  refine lv_iload_n hx hb dX14_rain_34 rfl (lv_at hl 1 rfl) ?_
  refine va_iald hx hb hK hP 1 0 rfl rfl (vp_in_nI (by omega) (by decide)) dX14_rain_35 ?_
  refine lv_topi (fun y7 ey7 => ?_)
  obtain rfl : y7 = 0 := ey7.trans rfl
  refine lv_istore_n (lv' := [(3, .int 0), (0, .ref h0), (1, .int (nI k)), (2, .int r)]) hx hb dX14_rain_36 rfl hl (by decide) rfl (fun ls hl => ?_)
  refine lv_aload_n hx hb dX14_rain_37 rfl (lv_at hl 1 rfl) ?_
  refine va_get (D := D) (ci := 17) (v := .ref m7) (C := RX14) (T := TX14) (N := 27) hx hb hts iRX14 hown hK hP 0 rfl rfl 7 (by decide) (hts _ q266) (fun _ h9 => h9) rfl dX14_rain_38 ?_
  refine lv_iload_n hx hb dX14_rain_41 rfl (lv_at hl 2 rfl) ?_
  refine lv_iload_n hx hb dX14_rain_42 rfl (lv_at hl 3 rfl) ?_
  refine va_iast hx hb hK hP hD hS 1 0 rfl rfl (vp_in_nI (by omega) (by decide)) dX14_rain_43 (fun H locs hP hD hS => ?_)
  have hP : va_P D vwCl [(h0, .inr (17, [.ref m0, .ref m1, .ref m2, .ref m3, .ref m4, .ref m5, .ref m6, .ref m7, .ref m8, .ref m9, .ref m10, .ref m11, .ref m12, .ref m13, .ref m14, .ref m15, .ref m16, .ref m17, .ref m18, .ref m19, .ref m20, .int 0, .int 0, .int 0, .int 0, .long 0, .int 0])), (m7, .inl (cy 0, 200, .inl (upd (fun _ => 0) (nI k).toNatClampNeg r)))] H := hP
  have hD : va_D A [(h0, .inr (17, [.ref m0, .ref m1, .ref m2, .ref m3, .ref m4, .ref m5, .ref m6, .ref m7, .ref m8, .ref m9, .ref m10, .ref m11, .ref m12, .ref m13, .ref m14, .ref m15, .ref m16, .ref m17, .ref m18, .ref m19, .ref m20, .int 0, .int 0, .int 0, .int 0, .long 0, .int 0])), (m7, .inl (cy 0, 200, .inl (upd (fun _ => 0) (nI k).toNatClampNeg r)))] := hD
  refine lv_aload_n hx hb dX14_rain_44 rfl (lv_at hl 1 rfl) ?_
  refine lv_iconst (v := 0) hx hb dX14_rain_45 (by decide) ?_
  refine va_put (D := D) (ci := 17) (v := .int 0) (ty := .boolean) (C := RX14) (T := TX14) (N := 27) hx hb hts iRX14 tyX14 tyX14_ok nmX14 hown hK hP hD hS 0 rfl rfl 26 (by decide) (hts _ q335) (fun _ h9 => h9) rfl (tyX14_ok 26 (by decide)) rfl rfl (Nat.le_of_ble_eq_true rfl) dX14_rain_46 (fun H locs hP hD hS => ?_)
  have hP : va_P D vwCl [(h0, .inr (17, [.ref m0, .ref m1, .ref m2, .ref m3, .ref m4, .ref m5, .ref m6, .ref m7, .ref m8, .ref m9, .ref m10, .ref m11, .ref m12, .ref m13, .ref m14, .ref m15, .ref m16, .ref m17, .ref m18, .ref m19, .ref m20, .int 0, .int 0, .int 0, .int 0, .long 0, .int 0])), (m7, .inl (cy 0, 200, .inl (upd (fun _ => 0) (nI k).toNatClampNeg r)))] H := hP
  have hD : va_D A [(h0, .inr (17, [.ref m0, .ref m1, .ref m2, .ref m3, .ref m4, .ref m5, .ref m6, .ref m7, .ref m8, .ref m9, .ref m10, .ref m11, .ref m12, .ref m13, .ref m14, .ref m15, .ref m16, .ref m17, .ref m18, .ref m19, .ref m20, .int 0, .int 0, .int 0, .int 0, .long 0, .int 0])), (m7, .inl (cy 0, 200, .inl (upd (fun _ => 0) (nI k).toNatClampNeg r)))] := hD
  refine lv_aload_n hx hb dX14_rain_49 rfl (lv_at hl 1 rfl) ?_
  refine lv_iload_n hx hb dX14_rain_50 rfl (lv_at hl 0 rfl) ?_
  refine zq_i (wc := [(h0, .inr (17, [.ref m0, .ref m1, .ref m2, .ref m3, .ref m4, .ref m5, .ref m6, .ref m7, .ref m8, .ref m9, .ref m10, .ref m11, .ref m12, .ref m13, .ref m14, .ref m15, .ref m16, .ref m17, .ref m18, .ref m19, .ref m20, .int 0, .int 0, .int 0, .int 0, .long 0, .int 0]))]) (wr := [(m7, .inl (cy 0, 200, .inl (upd (fun _ => 0) (nI k).toNatClampNeg r)))]) (va_runV (As := [.int 0]) (rest := []) ⟨hx, hb, hml, hown, hts⟩ (k_answer l D cy h0 m0 m1 m2 m3 m4 m5 m6 m7 m8 m9 m10 m11 m12 m13 m14 m15 m16 m17 m18 m19 m20 0 0 0 0 0 0 0 H.size ) (cwV 1 hts (gzV (gz q372) q371 q373 q374 q285) rfl rfl rfl vX14_answer ⟨Nat.le_of_ble_eq_true rfl, Nat.le_of_ble_eq_true rfl⟩) (zpV (ci := 17) (T := TX14) (N := 27) (q0 := 0) hK hX hY hP hD hS hA [0] (by decide) rfl rfl rfl) rfl rfl hl.1 rfl (lv_room (Nat.le_of_ble_eq_true rfl)) dX14_rain_51 ⟨Nat.le_of_ble_eq_true rfl, Nat.le_of_ble_eq_true rfl⟩) hP hD hS hA [0] [1] rfl rfl (by decide) (by decide) (fun x9 u8 H locs hw hP hD hS => ?_)
  obtain rfl : x9 = 0 := hw
  have hP : va_P D vwCl [(m7, .inl (cy 0, 200, .inl (upd (fun _ => 0) (nI k).toNatClampNeg r))), (h0, .inr (17, [.ref m0, .ref m1, .ref m2, .ref m3, .ref m4, .ref m5, .ref m6, .ref m7, .ref m8, .ref m9, .ref m10, .ref m11, .ref m12, .ref m13, .ref m14, .ref m15, .ref m16, .ref m17, .ref m18, .ref m19, .ref m20, .int 0, .int 0, .int 0, .int 0, .long 0, .int 0]))] H := hP
  have hD : va_D A [(m7, .inl (cy 0, 200, .inl (upd (fun _ => 0) (nI k).toNatClampNeg r))), (h0, .inr (17, [.ref m0, .ref m1, .ref m2, .ref m3, .ref m4, .ref m5, .ref m6, .ref m7, .ref m8, .ref m9, .ref m10, .ref m11, .ref m12, .ref m13, .ref m14, .ref m15, .ref m16, .ref m17, .ref m18, .ref m19, .ref m20, .int 0, .int 0, .int 0, .int 0, .long 0, .int 0]))] := hD
  have hP9 := hP.sub (ws' := [(h0, .inr (17, [.ref m0, .ref m1, .ref m2, .ref m3, .ref m4, .ref m5, .ref m6, .ref m7, .ref m8, .ref m9, .ref m10, .ref m11, .ref m12, .ref m13, .ref m14, .ref m15, .ref m16, .ref m17, .ref m18, .ref m19, .ref m20, .int 0, .int 0, .int 0, .int 0, .long 0, .int 0]))]) [1] rfl
  have hD9 := hD.sub (ws' := [(h0, .inr (17, [.ref m0, .ref m1, .ref m2, .ref m3, .ref m4, .ref m5, .ref m6, .ref m7, .ref m8, .ref m9, .ref m10, .ref m11, .ref m12, .ref m13, .ref m14, .ref m15, .ref m16, .ref m17, .ref m18, .ref m19, .ref m20, .int 0, .int 0, .int 0, .int 0, .long 0, .int 0]))]) [1] (by decide) rfl
  refine W.widen (k := 0) (n := 0) (Nat.le_of_ble_eq_true rfl) (Nat.le_of_ble_eq_true rfl) ?_
  rw [hQe]
  exact W.iret (v := 0) hx hb hr (fun t ht hW => ⟨⟨0, (), rfl, rfl, ⟨by rw [ht]; exact hP9, hD9⟩⟩, hS.F ht⟩) hS.2.2 dX14_rain_54
set_option maxHeartbeats 4000000 in
set_option maxRecDepth 100000 in
theorem g_rain_no1 (l : Launch) (D : va_G) (cy : Nat → ClassId) (h0 : Nat) (m0 : Nat) (m1 : Nat) (m2 : Nat) (m3 : Nat) (m4 : Nat) (m5 : Nat) (m6 : Nat) (m7 : Nat) (m8 : Nat) (m9 : Nat) (m10 : Nat) (m11 : Nat) (m12 : Nat) (m13 : Nat) (m14 : Nat) (m15 : Nat) (m16 : Nat) (m17 : Nat) (m18 : Nat) (m19 : Nat) (m20 : Nat) (a1 : Int32) (a2 : Int32) (sz : Nat) (hq0 : a1 < 0 ∨ ¬ a1 ≤ 199) : Met l yX14_rain (wz yX14_rain cX14_rain 4 (some .int)) ({ frames := 1, cells := 0, slots := 0, locals := 25 } : Room) (va_Pc [.ref h0, .int a1, .int a2] (zPre vwCl D cy [(h0, .inr (17, [.ref m0, .ref m1, .ref m2, .ref m3, .ref m4, .ref m5, .ref m6, .ref m7, .ref m8, .ref m9, .ref m10, .ref m11, .ref m12, .ref m13, .ref m14, .ref m15, .ref m16, .ref m17, .ref m18, .ref m19, .ref m20, .int 0, .int 0, .int 0, .int 0, .long 0, .int 0]))] sz)) (va_Qi (fun (r : Int32) (_ : Unit) => r = 0) (fun (u : Unit) t => zPost vwCl D (va_A [(h0, .inr (17, [.ref m0, .ref m1, .ref m2, .ref m3, .ref m4, .ref m5, .ref m6, .ref m7, .ref m8, .ref m9, .ref m10, .ref m11, .ref m12, .ref m13, .ref m14, .ref m15, .ref m16, .ref m17, .ref m18, .ref m19, .ref m20, .int 0, .int 0, .int 0, .int 0, .long 0, .int 0]))] sz) [(h0, .inr (17, [.ref m0, .ref m1, .ref m2, .ref m3, .ref m4, .ref m5, .ref m6, .ref m7, .ref m8, .ref m9, .ref m10, .ref m11, .ref m12, .ref m13, .ref m14, .ref m15, .ref m16, .ref m17, .ref m18, .ref m19, .ref m20, .int 1, .int 0, .int 0, .int 0, .long 0, .int 0]))] t) (va_A [(h0, .inr (17, [.ref m0, .ref m1, .ref m2, .ref m3, .ref m4, .ref m5, .ref m6, .ref m7, .ref m8, .ref m9, .ref m10, .ref m11, .ref m12, .ref m13, .ref m14, .ref m15, .ref m16, .ref m17, .ref m18, .ref m19, .ref m20, .int 0, .int 0, .int 0, .int 0, .long 0, .int 0]))] sz)) 0 0 (va_A [(h0, .inr (17, [.ref m0, .ref m1, .ref m2, .ref m3, .ref m4, .ref m5, .ref m6, .ref m7, .ref m8, .ref m9, .ref m10, .ref m11, .ref m12, .ref m13, .ref m14, .ref m15, .ref m16, .ref m17, .ref m18, .ref m19, .ref m20, .int 0, .int 0, .int 0, .int 0, .long 0, .int 0]))] sz) := by
  refine Met.ofW (cc := cX14_rain) (maxL := 4) (ret := (some .int)) (by decide) rfl ?_
  intro p e s m args below meth c s₁ B hml hv
  obtain ⟨rfl, hsz, hP, hK, hD0, hX, hY⟩ := hv
  have hx := B.exec
  have hb := B.bytes
  have hr := B.returns
  have hts0 := atoms_spec (ws := wz yX14_rain cX14_rain 4 (some .int)) B.pre
  have hts : ∀ w ∈ wAll, w.before _ s = true := fun w h => hts0 w (List.mem_cons_of_mem _ h)
  have hown : s.vm.findClass RX14 = some m.cls := findClass_of_methodNamed B.named
  have hlocks := B.notSynchronized
  subst hsz
  have hD := hD0.self (sz := s.heap.size)
  generalize hAe : va_A [(h0, .inr (17, [.ref m0, .ref m1, .ref m2, .ref m3, .ref m4, .ref m5, .ref m6, .ref m7, .ref m8, .ref m9, .ref m10, .ref m11, .ref m12, .ref m13, .ref m14, .ref m15, .ref m16, .ref m17, .ref m18, .ref m19, .ref m20, .int 0, .int 0, .int 0, .int 0, .long 0, .int 0]))] s.heap.size = A at hD hY ⊢
  have hA : ∀ q : Nat, s.heap.size ≤ q → A q := fun q h => by rw [← hAe]; exact Or.inr h
  have hS : va_S A s.heap s.heap [] := va_S.rf
  have hP : va_P D vwCl [(h0, .inr (17, [.ref m0, .ref m1, .ref m2, .ref m3, .ref m4, .ref m5, .ref m6, .ref m7, .ref m8, .ref m9, .ref m10, .ref m11, .ref m12, .ref m13, .ref m14, .ref m15, .ref m16, .ref m17, .ref m18, .ref m19, .ref m20, .int 0, .int 0, .int 0, .int 0, .long 0, .int 0]))] s.heap := hP
  have hl := lv_entry ([.ref h0, .int a1, .int a2]) (n := 4) (Nat.le_of_ble_eq_true rfl)
  rw [lg_entry_eq]
  generalize (lg_sl ([.ref h0, .int a1, .int a2]) ++ List.replicate (4 - (lg_sl ([.ref h0, .int a1, .int a2])).length) Slot.unset).toArray = ls at hl ⊢
  have hl : lv_has ls 4 [(0, .ref h0), (1, .int a1), (2, .int a2)] := hl
  refine z_anyQ (fun Q hQe => ?_)
  refine lv_iload_n hx hb dX14_rain_0 rfl (lv_at hl 1 rfl) ?_
  refine lv_i2l (v := a1.toInt64) hx hb dX14_rain_1 rfl ?_
  refine lv_lconst (v := 0) hx hb dX14_rain_2 rfl ?_
  refine lv_ldc2 (v := 199) hx hb hown (hts _ q396) dX14_rain_3 ?_
  refine zq_i (wc := []) (wr := [(h0, .inr (17, [.ref m0, .ref m1, .ref m2, .ref m3, .ref m4, .ref m5, .ref m6, .ref m7, .ref m8, .ref m9, .ref m10, .ref m11, .ref m12, .ref m13, .ref m14, .ref m15, .ref m16, .ref m17, .ref m18, .ref m19, .ref m20, .int 0, .int 0, .int 0, .int 0, .long 0, .int 0]))]) (va_runS (As := [.long (a1.toInt64), .long 0, .long 199]) (rest := []) ⟨hx, hb, hml, hown, hts⟩ (k_in_F l D cy (a1.toInt64) 0 199 s.heap.size (z_wR (b := 199) (by decide +kernel) hq0)) (va_cwS 3 hts (gzS (gz q283) q282 q284 q285) rfl rfl rfl vX14_in.2 ⟨Nat.le_of_ble_eq_true rfl, Nat.le_of_ble_eq_true rfl⟩) (zpS hK hX hY hP hD hS hA [] (by decide) rfl) rfl rfl hl.1 rfl (lv_room (Nat.le_of_ble_eq_true rfl)) dX14_rain_6 ⟨Nat.le_of_ble_eq_true rfl, Nat.le_of_ble_eq_true rfl⟩) hP hD hS hA [] [0] rfl rfl (by decide) (by decide) (fun x2 u1 H locs hw hP hD hS => ?_)
  obtain rfl : x2 = 0 := hw
  have hP : va_P D vwCl [(h0, .inr (17, [.ref m0, .ref m1, .ref m2, .ref m3, .ref m4, .ref m5, .ref m6, .ref m7, .ref m8, .ref m9, .ref m10, .ref m11, .ref m12, .ref m13, .ref m14, .ref m15, .ref m16, .ref m17, .ref m18, .ref m19, .ref m20, .int 0, .int 0, .int 0, .int 0, .long 0, .int 0]))] H := hP
  have hD : va_D A [(h0, .inr (17, [.ref m0, .ref m1, .ref m2, .ref m3, .ref m4, .ref m5, .ref m6, .ref m7, .ref m8, .ref m9, .ref m10, .ref m11, .ref m12, .ref m13, .ref m14, .ref m15, .ref m16, .ref m17, .ref m18, .ref m19, .ref m20, .int 0, .int 0, .int 0, .int 0, .long 0, .int 0]))] := hD
  refine lv_if_eq (tgt := 24) hx hb dX14_rain_9 (by decide) (fun _ => ?_) (fun c_9_2 => absurd (by decide +kernel) c_9_2)
  refine lv_aload_n hx hb dX14_rain_24 rfl (lv_at hl 0 rfl) ?_
  refine lv_iconst (v := 1) hx hb dX14_rain_25 (by decide) ?_
  refine zq_i (wc := [(h0, .inr (17, [.ref m0, .ref m1, .ref m2, .ref m3, .ref m4, .ref m5, .ref m6, .ref m7, .ref m8, .ref m9, .ref m10, .ref m11, .ref m12, .ref m13, .ref m14, .ref m15, .ref m16, .ref m17, .ref m18, .ref m19, .ref m20, .int 0, .int 0, .int 0, .int 0, .long 0, .int 0]))]) (wr := []) (va_runV (As := [.int 1]) (rest := []) ⟨hx, hb, hml, hown, hts⟩ (k_fails l D cy h0 m0 m1 m2 m3 m4 m5 m6 m7 m8 m9 m10 m11 m12 m13 m14 m15 m16 m17 m18 m19 m20 0 0 0 0 0 0 1 H.size ) (cwV 1 hts (gzV (gz q345) q344 q346 q347 q285) rfl rfl rfl vX14_fails ⟨Nat.le_of_ble_eq_true rfl, Nat.le_of_ble_eq_true rfl⟩) (zpV (ci := 17) (T := TX14) (N := 27) (q0 := 0) hK hX hY hP hD hS hA [0] (by decide) rfl rfl rfl) rfl rfl hl.1 rfl (lv_room (Nat.le_of_ble_eq_true rfl)) dX14_rain_26 ⟨Nat.le_of_ble_eq_true rfl, Nat.le_of_ble_eq_true rfl⟩) hP hD hS hA [0] [] rfl rfl (by decide) (by decide) (fun x5 u4 H locs hw hP hD hS => ?_)
  obtain rfl : x5 = 0 := hw
  have hP : va_P D vwCl [(h0, .inr (17, [.ref m0, .ref m1, .ref m2, .ref m3, .ref m4, .ref m5, .ref m6, .ref m7, .ref m8, .ref m9, .ref m10, .ref m11, .ref m12, .ref m13, .ref m14, .ref m15, .ref m16, .ref m17, .ref m18, .ref m19, .ref m20, .int 1, .int 0, .int 0, .int 0, .long 0, .int 0]))] H := hP
  have hD : va_D A [(h0, .inr (17, [.ref m0, .ref m1, .ref m2, .ref m3, .ref m4, .ref m5, .ref m6, .ref m7, .ref m8, .ref m9, .ref m10, .ref m11, .ref m12, .ref m13, .ref m14, .ref m15, .ref m16, .ref m17, .ref m18, .ref m19, .ref m20, .int 1, .int 0, .int 0, .int 0, .long 0, .int 0]))] := hD
  have hP9 := hP.sub (ws' := [(h0, .inr (17, [.ref m0, .ref m1, .ref m2, .ref m3, .ref m4, .ref m5, .ref m6, .ref m7, .ref m8, .ref m9, .ref m10, .ref m11, .ref m12, .ref m13, .ref m14, .ref m15, .ref m16, .ref m17, .ref m18, .ref m19, .ref m20, .int 1, .int 0, .int 0, .int 0, .long 0, .int 0]))]) [0] rfl
  have hD9 := hD.sub (ws' := [(h0, .inr (17, [.ref m0, .ref m1, .ref m2, .ref m3, .ref m4, .ref m5, .ref m6, .ref m7, .ref m8, .ref m9, .ref m10, .ref m11, .ref m12, .ref m13, .ref m14, .ref m15, .ref m16, .ref m17, .ref m18, .ref m19, .ref m20, .int 1, .int 0, .int 0, .int 0, .long 0, .int 0]))]) [0] (by decide) rfl
  refine W.widen (k := 0) (n := 0) (Nat.le_of_ble_eq_true rfl) (Nat.le_of_ble_eq_true rfl) ?_
  rw [hQe]
  exact W.iret (v := 0) hx hb hr (fun t ht hW => ⟨⟨0, (), rfl, rfl, ⟨by rw [ht]; exact hP9, hD9⟩⟩, hS.F ht⟩) hS.2.2 dX14_rain_29
set_option maxHeartbeats 4000000 in
set_option maxRecDepth 100000 in
theorem g_rain_no2 (l : Launch) (D : va_G) (cy : Nat → ClassId) (h0 : Nat) (m0 : Nat) (m1 : Nat) (m2 : Nat) (m3 : Nat) (m4 : Nat) (m5 : Nat) (m6 : Nat) (m7 : Nat) (m8 : Nat) (m9 : Nat) (m10 : Nat) (m11 : Nat) (m12 : Nat) (m13 : Nat) (m14 : Nat) (m15 : Nat) (m16 : Nat) (m17 : Nat) (m18 : Nat) (m19 : Nat) (m20 : Nat) (a1 : Int32) (a2 : Int32) (sz : Nat) (h1 : ¬ a1 < 0) (h2 : a1 ≤ 199) (hq0 : a2 < 0 ∨ ¬ a2 ≤ 99) : Met l yX14_rain (wz yX14_rain cX14_rain 4 (some .int)) ({ frames := 1, cells := 0, slots := 0, locals := 25 } : Room) (va_Pc [.ref h0, .int a1, .int a2] (zPre vwCl D cy [(h0, .inr (17, [.ref m0, .ref m1, .ref m2, .ref m3, .ref m4, .ref m5, .ref m6, .ref m7, .ref m8, .ref m9, .ref m10, .ref m11, .ref m12, .ref m13, .ref m14, .ref m15, .ref m16, .ref m17, .ref m18, .ref m19, .ref m20, .int 0, .int 0, .int 0, .int 0, .long 0, .int 0]))] sz)) (va_Qi (fun (r : Int32) (_ : Unit) => r = 0) (fun (u : Unit) t => zPost vwCl D (va_A [(h0, .inr (17, [.ref m0, .ref m1, .ref m2, .ref m3, .ref m4, .ref m5, .ref m6, .ref m7, .ref m8, .ref m9, .ref m10, .ref m11, .ref m12, .ref m13, .ref m14, .ref m15, .ref m16, .ref m17, .ref m18, .ref m19, .ref m20, .int 0, .int 0, .int 0, .int 0, .long 0, .int 0]))] sz) [(h0, .inr (17, [.ref m0, .ref m1, .ref m2, .ref m3, .ref m4, .ref m5, .ref m6, .ref m7, .ref m8, .ref m9, .ref m10, .ref m11, .ref m12, .ref m13, .ref m14, .ref m15, .ref m16, .ref m17, .ref m18, .ref m19, .ref m20, .int 1, .int 0, .int 0, .int 0, .long 0, .int 0]))] t) (va_A [(h0, .inr (17, [.ref m0, .ref m1, .ref m2, .ref m3, .ref m4, .ref m5, .ref m6, .ref m7, .ref m8, .ref m9, .ref m10, .ref m11, .ref m12, .ref m13, .ref m14, .ref m15, .ref m16, .ref m17, .ref m18, .ref m19, .ref m20, .int 0, .int 0, .int 0, .int 0, .long 0, .int 0]))] sz)) 0 0 (va_A [(h0, .inr (17, [.ref m0, .ref m1, .ref m2, .ref m3, .ref m4, .ref m5, .ref m6, .ref m7, .ref m8, .ref m9, .ref m10, .ref m11, .ref m12, .ref m13, .ref m14, .ref m15, .ref m16, .ref m17, .ref m18, .ref m19, .ref m20, .int 0, .int 0, .int 0, .int 0, .long 0, .int 0]))] sz) := by
  refine Met.ofW (cc := cX14_rain) (maxL := 4) (ret := (some .int)) (by decide) rfl ?_
  intro p e s m args below meth c s₁ B hml hv
  obtain ⟨rfl, hsz, hP, hK, hD0, hX, hY⟩ := hv
  have hx := B.exec
  have hb := B.bytes
  have hr := B.returns
  have hts0 := atoms_spec (ws := wz yX14_rain cX14_rain 4 (some .int)) B.pre
  have hts : ∀ w ∈ wAll, w.before _ s = true := fun w h => hts0 w (List.mem_cons_of_mem _ h)
  have hown : s.vm.findClass RX14 = some m.cls := findClass_of_methodNamed B.named
  have hlocks := B.notSynchronized
  subst hsz
  have hD := hD0.self (sz := s.heap.size)
  generalize hAe : va_A [(h0, .inr (17, [.ref m0, .ref m1, .ref m2, .ref m3, .ref m4, .ref m5, .ref m6, .ref m7, .ref m8, .ref m9, .ref m10, .ref m11, .ref m12, .ref m13, .ref m14, .ref m15, .ref m16, .ref m17, .ref m18, .ref m19, .ref m20, .int 0, .int 0, .int 0, .int 0, .long 0, .int 0]))] s.heap.size = A at hD hY ⊢
  have hA : ∀ q : Nat, s.heap.size ≤ q → A q := fun q h => by rw [← hAe]; exact Or.inr h
  have hS : va_S A s.heap s.heap [] := va_S.rf
  have hP : va_P D vwCl [(h0, .inr (17, [.ref m0, .ref m1, .ref m2, .ref m3, .ref m4, .ref m5, .ref m6, .ref m7, .ref m8, .ref m9, .ref m10, .ref m11, .ref m12, .ref m13, .ref m14, .ref m15, .ref m16, .ref m17, .ref m18, .ref m19, .ref m20, .int 0, .int 0, .int 0, .int 0, .long 0, .int 0]))] s.heap := hP
  have hl := lv_entry ([.ref h0, .int a1, .int a2]) (n := 4) (Nat.le_of_ble_eq_true rfl)
  rw [lg_entry_eq]
  generalize (lg_sl ([.ref h0, .int a1, .int a2]) ++ List.replicate (4 - (lg_sl ([.ref h0, .int a1, .int a2])).length) Slot.unset).toArray = ls at hl ⊢
  have hl : lv_has ls 4 [(0, .ref h0), (1, .int a1), (2, .int a2)] := hl
  refine z_anyQ (fun Q hQe => ?_)
  refine lv_iload_n hx hb dX14_rain_0 rfl (lv_at hl 1 rfl) ?_
  refine lv_i2l (v := a1.toInt64) hx hb dX14_rain_1 rfl ?_
  refine lv_lconst (v := 0) hx hb dX14_rain_2 rfl ?_
  refine lv_ldc2 (v := 199) hx hb hown (hts _ q396) dX14_rain_3 ?_
  refine zq_i (wc := []) (wr := [(h0, .inr (17, [.ref m0, .ref m1, .ref m2, .ref m3, .ref m4, .ref m5, .ref m6, .ref m7, .ref m8, .ref m9, .ref m10, .ref m11, .ref m12, .ref m13, .ref m14, .ref m15, .ref m16, .ref m17, .ref m18, .ref m19, .ref m20, .int 0, .int 0, .int 0, .int 0, .long 0, .int 0]))]) (va_runS (As := [.long (a1.toInt64), .long 0, .long 199]) (rest := []) ⟨hx, hb, hml, hown, hts⟩ (k_in_T l D cy (a1.toInt64) 0 199 s.heap.size (z_w0 h1) (z_wM (b := 199) (by decide +kernel) h2)) (va_cwS 3 hts (gzS (gz q283) q282 q284 q285) rfl rfl rfl vX14_in.2 ⟨Nat.le_of_ble_eq_true rfl, Nat.le_of_ble_eq_true rfl⟩) (zpS hK hX hY hP hD hS hA [] (by decide) rfl) rfl rfl hl.1 rfl (lv_room (Nat.le_of_ble_eq_true rfl)) dX14_rain_6 ⟨Nat.le_of_ble_eq_true rfl, Nat.le_of_ble_eq_true rfl⟩) hP hD hS hA [] [0] rfl rfl (by decide) (by decide) (fun x2 u1 H locs hw hP hD hS => ?_)
  obtain rfl : x2 = 1 := hw
  have hP : va_P D vwCl [(h0, .inr (17, [.ref m0, .ref m1, .ref m2, .ref m3, .ref m4, .ref m5, .ref m6, .ref m7, .ref m8, .ref m9, .ref m10, .ref m11, .ref m12, .ref m13, .ref m14, .ref m15, .ref m16, .ref m17, .ref m18, .ref m19, .ref m20, .int 0, .int 0, .int 0, .int 0, .long 0, .int 0]))] H := hP
  have hD : va_D A [(h0, .inr (17, [.ref m0, .ref m1, .ref m2, .ref m3, .ref m4, .ref m5, .ref m6, .ref m7, .ref m8, .ref m9, .ref m10, .ref m11, .ref m12, .ref m13, .ref m14, .ref m15, .ref m16, .ref m17, .ref m18, .ref m19, .ref m20, .int 0, .int 0, .int 0, .int 0, .long 0, .int 0]))] := hD
  refine lv_if_eq (tgt := 24) hx hb dX14_rain_9 (by decide) (fun c_9_2 => absurd c_9_2 (by decide +kernel)) (fun _ => ?_)
  refine lv_iload_n hx hb dX14_rain_12 rfl (lv_at hl 2 rfl) ?_
  refine lv_i2l (v := a2.toInt64) hx hb dX14_rain_13 rfl ?_
  refine lv_lconst (v := 0) hx hb dX14_rain_14 rfl ?_
  refine lv_ldc2 (v := 99) hx hb hown (hts _ q397) dX14_rain_15 ?_
  refine zq_i (wc := []) (wr := [(h0, .inr (17, [.ref m0, .ref m1, .ref m2, .ref m3, .ref m4, .ref m5, .ref m6, .ref m7, .ref m8, .ref m9, .ref m10, .ref m11, .ref m12, .ref m13, .ref m14, .ref m15, .ref m16, .ref m17, .ref m18, .ref m19, .ref m20, .int 0, .int 0, .int 0, .int 0, .long 0, .int 0]))]) (va_runS (As := [.long (a2.toInt64), .long 0, .long 99]) (rest := []) ⟨hx, hb, hml, hown, hts⟩ (k_in_F l D cy (a2.toInt64) 0 99 H.size (z_wR (b := 99) (by decide +kernel) hq0)) (va_cwS 3 hts (gzS (gz q283) q282 q284 q285) rfl rfl rfl vX14_in.2 ⟨Nat.le_of_ble_eq_true rfl, Nat.le_of_ble_eq_true rfl⟩) (zpS hK hX hY hP hD hS hA [] (by decide) rfl) rfl rfl hl.1 rfl (lv_room (Nat.le_of_ble_eq_true rfl)) dX14_rain_18 ⟨Nat.le_of_ble_eq_true rfl, Nat.le_of_ble_eq_true rfl⟩) hP hD hS hA [] [0] rfl rfl (by decide) (by decide) (fun x5 u4 H locs hw hP hD hS => ?_)
  obtain rfl : x5 = 0 := hw
  have hP : va_P D vwCl [(h0, .inr (17, [.ref m0, .ref m1, .ref m2, .ref m3, .ref m4, .ref m5, .ref m6, .ref m7, .ref m8, .ref m9, .ref m10, .ref m11, .ref m12, .ref m13, .ref m14, .ref m15, .ref m16, .ref m17, .ref m18, .ref m19, .ref m20, .int 0, .int 0, .int 0, .int 0, .long 0, .int 0]))] H := hP
  have hD : va_D A [(h0, .inr (17, [.ref m0, .ref m1, .ref m2, .ref m3, .ref m4, .ref m5, .ref m6, .ref m7, .ref m8, .ref m9, .ref m10, .ref m11, .ref m12, .ref m13, .ref m14, .ref m15, .ref m16, .ref m17, .ref m18, .ref m19, .ref m20, .int 0, .int 0, .int 0, .int 0, .long 0, .int 0]))] := hD
  refine lv_if_ne (tgt := 30) hx hb dX14_rain_21 (by decide) (fun c_21_5 => absurd (by decide +kernel) c_21_5) (fun _ => ?_)
  refine lv_aload_n hx hb dX14_rain_24 rfl (lv_at hl 0 rfl) ?_
  refine lv_iconst (v := 1) hx hb dX14_rain_25 (by decide) ?_
  refine zq_i (wc := [(h0, .inr (17, [.ref m0, .ref m1, .ref m2, .ref m3, .ref m4, .ref m5, .ref m6, .ref m7, .ref m8, .ref m9, .ref m10, .ref m11, .ref m12, .ref m13, .ref m14, .ref m15, .ref m16, .ref m17, .ref m18, .ref m19, .ref m20, .int 0, .int 0, .int 0, .int 0, .long 0, .int 0]))]) (wr := []) (va_runV (As := [.int 1]) (rest := []) ⟨hx, hb, hml, hown, hts⟩ (k_fails l D cy h0 m0 m1 m2 m3 m4 m5 m6 m7 m8 m9 m10 m11 m12 m13 m14 m15 m16 m17 m18 m19 m20 0 0 0 0 0 0 1 H.size ) (cwV 1 hts (gzV (gz q345) q344 q346 q347 q285) rfl rfl rfl vX14_fails ⟨Nat.le_of_ble_eq_true rfl, Nat.le_of_ble_eq_true rfl⟩) (zpV (ci := 17) (T := TX14) (N := 27) (q0 := 0) hK hX hY hP hD hS hA [0] (by decide) rfl rfl rfl) rfl rfl hl.1 rfl (lv_room (Nat.le_of_ble_eq_true rfl)) dX14_rain_26 ⟨Nat.le_of_ble_eq_true rfl, Nat.le_of_ble_eq_true rfl⟩) hP hD hS hA [0] [] rfl rfl (by decide) (by decide) (fun x8 u7 H locs hw hP hD hS => ?_)
  obtain rfl : x8 = 0 := hw
  have hP : va_P D vwCl [(h0, .inr (17, [.ref m0, .ref m1, .ref m2, .ref m3, .ref m4, .ref m5, .ref m6, .ref m7, .ref m8, .ref m9, .ref m10, .ref m11, .ref m12, .ref m13, .ref m14, .ref m15, .ref m16, .ref m17, .ref m18, .ref m19, .ref m20, .int 1, .int 0, .int 0, .int 0, .long 0, .int 0]))] H := hP
  have hD : va_D A [(h0, .inr (17, [.ref m0, .ref m1, .ref m2, .ref m3, .ref m4, .ref m5, .ref m6, .ref m7, .ref m8, .ref m9, .ref m10, .ref m11, .ref m12, .ref m13, .ref m14, .ref m15, .ref m16, .ref m17, .ref m18, .ref m19, .ref m20, .int 1, .int 0, .int 0, .int 0, .long 0, .int 0]))] := hD
  have hP9 := hP.sub (ws' := [(h0, .inr (17, [.ref m0, .ref m1, .ref m2, .ref m3, .ref m4, .ref m5, .ref m6, .ref m7, .ref m8, .ref m9, .ref m10, .ref m11, .ref m12, .ref m13, .ref m14, .ref m15, .ref m16, .ref m17, .ref m18, .ref m19, .ref m20, .int 1, .int 0, .int 0, .int 0, .long 0, .int 0]))]) [0] rfl
  have hD9 := hD.sub (ws' := [(h0, .inr (17, [.ref m0, .ref m1, .ref m2, .ref m3, .ref m4, .ref m5, .ref m6, .ref m7, .ref m8, .ref m9, .ref m10, .ref m11, .ref m12, .ref m13, .ref m14, .ref m15, .ref m16, .ref m17, .ref m18, .ref m19, .ref m20, .int 1, .int 0, .int 0, .int 0, .long 0, .int 0]))]) [0] (by decide) rfl
  refine W.widen (k := 0) (n := 0) (Nat.le_of_ble_eq_true rfl) (Nat.le_of_ble_eq_true rfl) ?_
  rw [hQe]
  exact W.iret (v := 0) hx hb hr (fun t ht hW => ⟨⟨0, (), rfl, rfl, ⟨by rw [ht]; exact hP9, hD9⟩⟩, hS.F ht⟩) hS.2.2 dX14_rain_29
set_option maxHeartbeats 4000000 in
set_option maxRecDepth 100000 in
theorem g_water_ok (l : Launch) (D : va_G) (cy : Nat → ClassId) (h0 : Nat) (m0 : Nat) (m1 : Nat) (m2 : Nat) (m3 : Nat) (m4 : Nat) (m5 : Nat) (m6 : Nat) (m7 : Nat) (m8 : Nat) (m9 : Nat) (m10 : Nat) (m11 : Nat) (m12 : Nat) (m13 : Nat) (m14 : Nat) (m15 : Nat) (m16 : Nat) (m17 : Nat) (m18 : Nat) (m19 : Nat) (m20 : Nat) (k : Nat) (sz : Nat) (hk : k < 401) : Met l yX14_water (wz yX14_water cX14_water 2 (some .int)) ({ frames := 1, cells := 0, slots := 0, locals := 25 } : Room) (va_Pc [.ref h0, .int (nI k)] (zPre vwCl D cy [(h0, .inr (17, [.ref m0, .ref m1, .ref m2, .ref m3, .ref m4, .ref m5, .ref m6, .ref m7, .ref m8, .ref m9, .ref m10, .ref m11, .ref m12, .ref m13, .ref m14, .ref m15, .ref m16, .ref m17, .ref m18, .ref m19, .ref m20, .int 0, .int 0, .int 0, .int 0, .long 0, .int 0])), (m8, .inl (cy 0, 401, .inl (fun _ => 0))), (m7, .inl (cy 0, 200, .inl (fun _ => 0)))] sz)) (va_Qi (fun (r : Int32) (_ : Unit) => r = 0) (fun (u : Unit) t => zPost vwCl D (va_A [(h0, .inr (17, [.ref m0, .ref m1, .ref m2, .ref m3, .ref m4, .ref m5, .ref m6, .ref m7, .ref m8, .ref m9, .ref m10, .ref m11, .ref m12, .ref m13, .ref m14, .ref m15, .ref m16, .ref m17, .ref m18, .ref m19, .ref m20, .int 0, .int 0, .int 0, .int 0, .long 0, .int 0])), (m8, .inl (cy 0, 401, .inl (fun _ => 0))), (m7, .inl (cy 0, 200, .inl (fun _ => 0)))] sz) [(h0, .inr (17, [.ref m0, .ref m1, .ref m2, .ref m3, .ref m4, .ref m5, .ref m6, .ref m7, .ref m8, .ref m9, .ref m10, .ref m11, .ref m12, .ref m13, .ref m14, .ref m15, .ref m16, .ref m17, .ref m18, .ref m19, .ref m20, .int 0, .int 0, .int 0, .int 0, .long 0, .int 1]))] t) (va_A [(h0, .inr (17, [.ref m0, .ref m1, .ref m2, .ref m3, .ref m4, .ref m5, .ref m6, .ref m7, .ref m8, .ref m9, .ref m10, .ref m11, .ref m12, .ref m13, .ref m14, .ref m15, .ref m16, .ref m17, .ref m18, .ref m19, .ref m20, .int 0, .int 0, .int 0, .int 0, .long 0, .int 0])), (m8, .inl (cy 0, 401, .inl (fun _ => 0))), (m7, .inl (cy 0, 200, .inl (fun _ => 0)))] sz)) 0 0 (va_A [(h0, .inr (17, [.ref m0, .ref m1, .ref m2, .ref m3, .ref m4, .ref m5, .ref m6, .ref m7, .ref m8, .ref m9, .ref m10, .ref m11, .ref m12, .ref m13, .ref m14, .ref m15, .ref m16, .ref m17, .ref m18, .ref m19, .ref m20, .int 0, .int 0, .int 0, .int 0, .long 0, .int 0])), (m8, .inl (cy 0, 401, .inl (fun _ => 0))), (m7, .inl (cy 0, 200, .inl (fun _ => 0)))] sz) := by
  refine Met.ofW (cc := cX14_water) (maxL := 2) (ret := (some .int)) (by decide) rfl ?_
  intro p e s m args below meth c s₁ B hml hv
  obtain ⟨rfl, hsz, hP, hK, hD0, hX, hY⟩ := hv
  have hx := B.exec
  have hb := B.bytes
  have hr := B.returns
  have hts0 := atoms_spec (ws := wz yX14_water cX14_water 2 (some .int)) B.pre
  have hts : ∀ w ∈ wAll, w.before _ s = true := fun w h => hts0 w (List.mem_cons_of_mem _ h)
  have hown : s.vm.findClass RX14 = some m.cls := findClass_of_methodNamed B.named
  have hlocks := B.notSynchronized
  subst hsz
  have hD := hD0.self (sz := s.heap.size)
  generalize hAe : va_A [(h0, .inr (17, [.ref m0, .ref m1, .ref m2, .ref m3, .ref m4, .ref m5, .ref m6, .ref m7, .ref m8, .ref m9, .ref m10, .ref m11, .ref m12, .ref m13, .ref m14, .ref m15, .ref m16, .ref m17, .ref m18, .ref m19, .ref m20, .int 0, .int 0, .int 0, .int 0, .long 0, .int 0])), (m8, .inl (cy 0, 401, .inl (fun _ => 0))), (m7, .inl (cy 0, 200, .inl (fun _ => 0)))] s.heap.size = A at hD hY ⊢
  have hA : ∀ q : Nat, s.heap.size ≤ q → A q := fun q h => by rw [← hAe]; exact Or.inr h
  have hS : va_S A s.heap s.heap [] := va_S.rf
  have hP : va_P D vwCl [(h0, .inr (17, [.ref m0, .ref m1, .ref m2, .ref m3, .ref m4, .ref m5, .ref m6, .ref m7, .ref m8, .ref m9, .ref m10, .ref m11, .ref m12, .ref m13, .ref m14, .ref m15, .ref m16, .ref m17, .ref m18, .ref m19, .ref m20, .int 0, .int 0, .int 0, .int 0, .long 0, .int 0])), (m8, .inl (cy 0, 401, .inl (fun _ => 0))), (m7, .inl (cy 0, 200, .inl (fun _ => 0)))] s.heap := hP
  have hl := lv_entry ([.ref h0, .int (nI k)]) (n := 2) (Nat.le_of_ble_eq_true rfl)
  rw [lg_entry_eq]
  generalize (lg_sl ([.ref h0, .int (nI k)]) ++ List.replicate (2 - (lg_sl ([.ref h0, .int (nI k)])).length) Slot.unset).toArray = ls at hl ⊢
  have hl : lv_has ls 2 [(0, .ref h0), (1, .int (nI k))] := hl
  refine z_anyQ (fun Q hQe => ?_)
  refine lv_iload_n hx hb dX14_water_0 rfl (lv_at hl 1 rfl) ?_
  refine lv_i2l (v := ((nI k)).toInt64) hx hb dX14_water_1 rfl ?_
  refine lv_lconst (v := 0) hx hb dX14_water_2 rfl ?_
  refine lv_ldc2 (v := 400) hx hb hown (hts _ q398) dX14_water_3 ?_
  refine zq_i (wc := []) (wr := [(h0, .inr (17, [.ref m0, .ref m1, .ref m2, .ref m3, .ref m4, .ref m5, .ref m6, .ref m7, .ref m8, .ref m9, .ref m10, .ref m11, .ref m12, .ref m13, .ref m14, .ref m15, .ref m16, .ref m17, .ref m18, .ref m19, .ref m20, .int 0, .int 0, .int 0, .int 0, .long 0, .int 0])), (m8, .inl (cy 0, 401, .inl (fun _ => 0))), (m7, .inl (cy 0, 200, .inl (fun _ => 0)))]) (va_runS (As := [.long ((nI k)).toInt64, .long 0, .long 400]) (rest := []) ⟨hx, hb, hml, hown, hts⟩ (k_in_T l D cy (((nI k)).toInt64) 0 400 s.heap.size (z_w0 (nI_pos (by omega))) (z_wM (b := 400) (by decide +kernel) (nI_le (b := 400) (by omega) (by decide)))) (va_cwS 3 hts (gzS (gz q283) q282 q284 q285) rfl rfl rfl vX14_in.2 ⟨Nat.le_of_ble_eq_true rfl, Nat.le_of_ble_eq_true rfl⟩) (zpS hK hX hY hP hD hS hA [] (by decide) rfl) rfl rfl hl.1 rfl (lv_room (Nat.le_of_ble_eq_true rfl)) dX14_water_6 ⟨Nat.le_of_ble_eq_true rfl, Nat.le_of_ble_eq_true rfl⟩) hP hD hS hA [] [0, 1, 2] rfl rfl (by decide) (by decide) (fun x2 u1 H locs hw hP hD hS => ?_)
  obtain rfl : x2 = 1 := hw
  have hP : va_P D vwCl [(h0, .inr (17, [.ref m0, .ref m1, .ref m2, .ref m3, .ref m4, .ref m5, .ref m6, .ref m7, .ref m8, .ref m9, .ref m10, .ref m11, .ref m12, .ref m13, .ref m14, .ref m15, .ref m16, .ref m17, .ref m18, .ref m19, .ref m20, .int 0, .int 0, .int 0, .int 0, .long 0, .int 0])), (m8, .inl (cy 0, 401, .inl (fun _ => 0))), (m7, .inl (cy 0, 200, .inl (fun _ => 0)))] H := hP
  have hD : va_D A [(h0, .inr (17, [.ref m0, .ref m1, .ref m2, .ref m3, .ref m4, .ref m5, .ref m6, .ref m7, .ref m8, .ref m9, .ref m10, .ref m11, .ref m12, .ref m13, .ref m14, .ref m15, .ref m16, .ref m17, .ref m18, .ref m19, .ref m20, .int 0, .int 0, .int 0, .int 0, .long 0, .int 0])), (m8, .inl (cy 0, 401, .inl (fun _ => 0))), (m7, .inl (cy 0, 200, .inl (fun _ => 0)))] := hD
  refine lv_if_eq (tgt := 24) hx hb dX14_water_9 (by decide) (fun c_9_2 => absurd c_9_2 (by decide +kernel)) (fun _ => ?_)
  refine lv_aload_n hx hb dX14_water_12 rfl (lv_at hl 0 rfl) ?_
  refine lv_aload_n hx hb dX14_water_13 rfl (lv_at hl 0 rfl) ?_
  refine lv_iload_n hx hb dX14_water_14 rfl (lv_at hl 1 rfl) ?_
  refine zq_i (wc := [(h0, .inr (17, [.ref m0, .ref m1, .ref m2, .ref m3, .ref m4, .ref m5, .ref m6, .ref m7, .ref m8, .ref m9, .ref m10, .ref m11, .ref m12, .ref m13, .ref m14, .ref m15, .ref m16, .ref m17, .ref m18, .ref m19, .ref m20, .int 0, .int 0, .int 0, .int 0, .long 0, .int 0])), (m8, .inl (cy 0, 401, .inl (fun _ => 0))), (m7, .inl (cy 0, 200, .inl (fun _ => 0)))]) (wr := []) (va_runV (As := [.int (nI k)]) (rest := [.ref h0]) ⟨hx, hb, hml, hown, hts⟩ (k_waterIn l D cy h0 m0 m1 m2 m3 m4 m5 m6 m7 m8 m9 m10 m11 m12 m13 m14 m15 m16 m17 m18 m19 m20 k H.size hk) (cwV 1 hts (gzV (gz q400) q399 q401 q402 q285) rfl rfl rfl vX14_waterIn ⟨Nat.le_of_ble_eq_true rfl, Nat.le_of_ble_eq_true rfl⟩) (zpV (ci := 17) (T := TX14) (N := 27) (q0 := 0) hK hX hY hP hD hS hA [0, 1, 2] (by decide) rfl rfl rfl) rfl rfl hl.1 rfl (lv_room (Nat.le_of_ble_eq_true rfl)) dX14_water_15 ⟨Nat.le_of_ble_eq_true rfl, Nat.le_of_ble_eq_true rfl⟩) hP hD hS hA [0, 1, 2] [] rfl rfl (by decide) (by decide) (fun x5 u4 H locs hw hP hD hS => ?_)
  obtain rfl : x5 = 0 := hw
  have hP : va_P D vwCl [(h0, .inr (17, [.ref m0, .ref m1, .ref m2, .ref m3, .ref m4, .ref m5, .ref m6, .ref m7, .ref m8, .ref m9, .ref m10, .ref m11, .ref m12, .ref m13, .ref m14, .ref m15, .ref m16, .ref m17, .ref m18, .ref m19, .ref m20, .int 0, .int 0, .int 0, .int 0, .long 0, .int 1]))] H := hP
  have hD : va_D A [(h0, .inr (17, [.ref m0, .ref m1, .ref m2, .ref m3, .ref m4, .ref m5, .ref m6, .ref m7, .ref m8, .ref m9, .ref m10, .ref m11, .ref m12, .ref m13, .ref m14, .ref m15, .ref m16, .ref m17, .ref m18, .ref m19, .ref m20, .int 0, .int 0, .int 0, .int 0, .long 0, .int 1]))] := hD
  refine zq_i (wc := [(h0, .inr (17, [.ref m0, .ref m1, .ref m2, .ref m3, .ref m4, .ref m5, .ref m6, .ref m7, .ref m8, .ref m9, .ref m10, .ref m11, .ref m12, .ref m13, .ref m14, .ref m15, .ref m16, .ref m17, .ref m18, .ref m19, .ref m20, .int 0, .int 0, .int 0, .int 0, .long 0, .int 1]))]) (wr := []) (va_runV (As := [.int 0]) (rest := []) ⟨hx, hb, hml, hown, hts⟩ (k_answer l D cy h0 m0 m1 m2 m3 m4 m5 m6 m7 m8 m9 m10 m11 m12 m13 m14 m15 m16 m17 m18 m19 m20 0 0 0 0 0 1 0 H.size ) (cwV 1 hts (gzV (gz q372) q371 q373 q374 q285) rfl rfl rfl vX14_answer ⟨Nat.le_of_ble_eq_true rfl, Nat.le_of_ble_eq_true rfl⟩) (zpV (ci := 17) (T := TX14) (N := 27) (q0 := 0) hK hX hY hP hD hS hA [0] (by decide) rfl rfl rfl) rfl rfl hl.1 rfl (lv_room (Nat.le_of_ble_eq_true rfl)) dX14_water_18 ⟨Nat.le_of_ble_eq_true rfl, Nat.le_of_ble_eq_true rfl⟩) hP hD hS hA [0] [] rfl rfl (by decide) (by decide) (fun x7 u6 H locs hw hP hD hS => ?_)
  obtain rfl : x7 = 0 := hw
  have hP : va_P D vwCl [(h0, .inr (17, [.ref m0, .ref m1, .ref m2, .ref m3, .ref m4, .ref m5, .ref m6, .ref m7, .ref m8, .ref m9, .ref m10, .ref m11, .ref m12, .ref m13, .ref m14, .ref m15, .ref m16, .ref m17, .ref m18, .ref m19, .ref m20, .int 0, .int 0, .int 0, .int 0, .long 0, .int 1]))] H := hP
  have hD : va_D A [(h0, .inr (17, [.ref m0, .ref m1, .ref m2, .ref m3, .ref m4, .ref m5, .ref m6, .ref m7, .ref m8, .ref m9, .ref m10, .ref m11, .ref m12, .ref m13, .ref m14, .ref m15, .ref m16, .ref m17, .ref m18, .ref m19, .ref m20, .int 0, .int 0, .int 0, .int 0, .long 0, .int 1]))] := hD
  refine lv_goto (tgt := 29) hx hb dX14_water_21 (by decide) ?_
  have hP9 := hP.sub (ws' := [(h0, .inr (17, [.ref m0, .ref m1, .ref m2, .ref m3, .ref m4, .ref m5, .ref m6, .ref m7, .ref m8, .ref m9, .ref m10, .ref m11, .ref m12, .ref m13, .ref m14, .ref m15, .ref m16, .ref m17, .ref m18, .ref m19, .ref m20, .int 0, .int 0, .int 0, .int 0, .long 0, .int 1]))]) [0] rfl
  have hD9 := hD.sub (ws' := [(h0, .inr (17, [.ref m0, .ref m1, .ref m2, .ref m3, .ref m4, .ref m5, .ref m6, .ref m7, .ref m8, .ref m9, .ref m10, .ref m11, .ref m12, .ref m13, .ref m14, .ref m15, .ref m16, .ref m17, .ref m18, .ref m19, .ref m20, .int 0, .int 0, .int 0, .int 0, .long 0, .int 1]))]) [0] (by decide) rfl
  refine W.widen (k := 0) (n := 0) (Nat.le_of_ble_eq_true rfl) (Nat.le_of_ble_eq_true rfl) ?_
  rw [hQe]
  exact W.iret (v := 0) hx hb hr (fun t ht hW => ⟨⟨0, (), rfl, rfl, ⟨by rw [ht]; exact hP9, hD9⟩⟩, hS.F ht⟩) hS.2.2 dX14_water_29
set_option maxHeartbeats 4000000 in
set_option maxRecDepth 100000 in
theorem g_water_no (l : Launch) (D : va_G) (cy : Nat → ClassId) (h0 : Nat) (m0 : Nat) (m1 : Nat) (m2 : Nat) (m3 : Nat) (m4 : Nat) (m5 : Nat) (m6 : Nat) (m7 : Nat) (m8 : Nat) (m9 : Nat) (m10 : Nat) (m11 : Nat) (m12 : Nat) (m13 : Nat) (m14 : Nat) (m15 : Nat) (m16 : Nat) (m17 : Nat) (m18 : Nat) (m19 : Nat) (m20 : Nat) (a1 : Int32) (sz : Nat) (hq0 : a1 < 0 ∨ ¬ a1 ≤ 400) : Met l yX14_water (wz yX14_water cX14_water 2 (some .int)) ({ frames := 1, cells := 0, slots := 0, locals := 25 } : Room) (va_Pc [.ref h0, .int a1] (zPre vwCl D cy [(h0, .inr (17, [.ref m0, .ref m1, .ref m2, .ref m3, .ref m4, .ref m5, .ref m6, .ref m7, .ref m8, .ref m9, .ref m10, .ref m11, .ref m12, .ref m13, .ref m14, .ref m15, .ref m16, .ref m17, .ref m18, .ref m19, .ref m20, .int 0, .int 0, .int 0, .int 0, .long 0, .int 0]))] sz)) (va_Qi (fun (r : Int32) (_ : Unit) => r = 0) (fun (u : Unit) t => zPost vwCl D (va_A [(h0, .inr (17, [.ref m0, .ref m1, .ref m2, .ref m3, .ref m4, .ref m5, .ref m6, .ref m7, .ref m8, .ref m9, .ref m10, .ref m11, .ref m12, .ref m13, .ref m14, .ref m15, .ref m16, .ref m17, .ref m18, .ref m19, .ref m20, .int 0, .int 0, .int 0, .int 0, .long 0, .int 0]))] sz) [(h0, .inr (17, [.ref m0, .ref m1, .ref m2, .ref m3, .ref m4, .ref m5, .ref m6, .ref m7, .ref m8, .ref m9, .ref m10, .ref m11, .ref m12, .ref m13, .ref m14, .ref m15, .ref m16, .ref m17, .ref m18, .ref m19, .ref m20, .int 1, .int 0, .int 0, .int 0, .long 0, .int 0]))] t) (va_A [(h0, .inr (17, [.ref m0, .ref m1, .ref m2, .ref m3, .ref m4, .ref m5, .ref m6, .ref m7, .ref m8, .ref m9, .ref m10, .ref m11, .ref m12, .ref m13, .ref m14, .ref m15, .ref m16, .ref m17, .ref m18, .ref m19, .ref m20, .int 0, .int 0, .int 0, .int 0, .long 0, .int 0]))] sz)) 0 0 (va_A [(h0, .inr (17, [.ref m0, .ref m1, .ref m2, .ref m3, .ref m4, .ref m5, .ref m6, .ref m7, .ref m8, .ref m9, .ref m10, .ref m11, .ref m12, .ref m13, .ref m14, .ref m15, .ref m16, .ref m17, .ref m18, .ref m19, .ref m20, .int 0, .int 0, .int 0, .int 0, .long 0, .int 0]))] sz) := by
  refine Met.ofW (cc := cX14_water) (maxL := 2) (ret := (some .int)) (by decide) rfl ?_
  intro p e s m args below meth c s₁ B hml hv
  obtain ⟨rfl, hsz, hP, hK, hD0, hX, hY⟩ := hv
  have hx := B.exec
  have hb := B.bytes
  have hr := B.returns
  have hts0 := atoms_spec (ws := wz yX14_water cX14_water 2 (some .int)) B.pre
  have hts : ∀ w ∈ wAll, w.before _ s = true := fun w h => hts0 w (List.mem_cons_of_mem _ h)
  have hown : s.vm.findClass RX14 = some m.cls := findClass_of_methodNamed B.named
  have hlocks := B.notSynchronized
  subst hsz
  have hD := hD0.self (sz := s.heap.size)
  generalize hAe : va_A [(h0, .inr (17, [.ref m0, .ref m1, .ref m2, .ref m3, .ref m4, .ref m5, .ref m6, .ref m7, .ref m8, .ref m9, .ref m10, .ref m11, .ref m12, .ref m13, .ref m14, .ref m15, .ref m16, .ref m17, .ref m18, .ref m19, .ref m20, .int 0, .int 0, .int 0, .int 0, .long 0, .int 0]))] s.heap.size = A at hD hY ⊢
  have hA : ∀ q : Nat, s.heap.size ≤ q → A q := fun q h => by rw [← hAe]; exact Or.inr h
  have hS : va_S A s.heap s.heap [] := va_S.rf
  have hP : va_P D vwCl [(h0, .inr (17, [.ref m0, .ref m1, .ref m2, .ref m3, .ref m4, .ref m5, .ref m6, .ref m7, .ref m8, .ref m9, .ref m10, .ref m11, .ref m12, .ref m13, .ref m14, .ref m15, .ref m16, .ref m17, .ref m18, .ref m19, .ref m20, .int 0, .int 0, .int 0, .int 0, .long 0, .int 0]))] s.heap := hP
  have hl := lv_entry ([.ref h0, .int a1]) (n := 2) (Nat.le_of_ble_eq_true rfl)
  rw [lg_entry_eq]
  generalize (lg_sl ([.ref h0, .int a1]) ++ List.replicate (2 - (lg_sl ([.ref h0, .int a1])).length) Slot.unset).toArray = ls at hl ⊢
  have hl : lv_has ls 2 [(0, .ref h0), (1, .int a1)] := hl
  refine z_anyQ (fun Q hQe => ?_)
  refine lv_iload_n hx hb dX14_water_0 rfl (lv_at hl 1 rfl) ?_
  refine lv_i2l (v := a1.toInt64) hx hb dX14_water_1 rfl ?_
  refine lv_lconst (v := 0) hx hb dX14_water_2 rfl ?_
  refine lv_ldc2 (v := 400) hx hb hown (hts _ q398) dX14_water_3 ?_
  refine zq_i (wc := []) (wr := [(h0, .inr (17, [.ref m0, .ref m1, .ref m2, .ref m3, .ref m4, .ref m5, .ref m6, .ref m7, .ref m8, .ref m9, .ref m10, .ref m11, .ref m12, .ref m13, .ref m14, .ref m15, .ref m16, .ref m17, .ref m18, .ref m19, .ref m20, .int 0, .int 0, .int 0, .int 0, .long 0, .int 0]))]) (va_runS (As := [.long (a1.toInt64), .long 0, .long 400]) (rest := []) ⟨hx, hb, hml, hown, hts⟩ (k_in_F l D cy (a1.toInt64) 0 400 s.heap.size (z_wR (b := 400) (by decide +kernel) hq0)) (va_cwS 3 hts (gzS (gz q283) q282 q284 q285) rfl rfl rfl vX14_in.2 ⟨Nat.le_of_ble_eq_true rfl, Nat.le_of_ble_eq_true rfl⟩) (zpS hK hX hY hP hD hS hA [] (by decide) rfl) rfl rfl hl.1 rfl (lv_room (Nat.le_of_ble_eq_true rfl)) dX14_water_6 ⟨Nat.le_of_ble_eq_true rfl, Nat.le_of_ble_eq_true rfl⟩) hP hD hS hA [] [0] rfl rfl (by decide) (by decide) (fun x2 u1 H locs hw hP hD hS => ?_)
  obtain rfl : x2 = 0 := hw
  have hP : va_P D vwCl [(h0, .inr (17, [.ref m0, .ref m1, .ref m2, .ref m3, .ref m4, .ref m5, .ref m6, .ref m7, .ref m8, .ref m9, .ref m10, .ref m11, .ref m12, .ref m13, .ref m14, .ref m15, .ref m16, .ref m17, .ref m18, .ref m19, .ref m20, .int 0, .int 0, .int 0, .int 0, .long 0, .int 0]))] H := hP
  have hD : va_D A [(h0, .inr (17, [.ref m0, .ref m1, .ref m2, .ref m3, .ref m4, .ref m5, .ref m6, .ref m7, .ref m8, .ref m9, .ref m10, .ref m11, .ref m12, .ref m13, .ref m14, .ref m15, .ref m16, .ref m17, .ref m18, .ref m19, .ref m20, .int 0, .int 0, .int 0, .int 0, .long 0, .int 0]))] := hD
  refine lv_if_eq (tgt := 24) hx hb dX14_water_9 (by decide) (fun _ => ?_) (fun c_9_2 => absurd (by decide +kernel) c_9_2)
  refine lv_aload_n hx hb dX14_water_24 rfl (lv_at hl 0 rfl) ?_
  refine lv_iconst (v := 1) hx hb dX14_water_25 (by decide) ?_
  refine zq_i (wc := [(h0, .inr (17, [.ref m0, .ref m1, .ref m2, .ref m3, .ref m4, .ref m5, .ref m6, .ref m7, .ref m8, .ref m9, .ref m10, .ref m11, .ref m12, .ref m13, .ref m14, .ref m15, .ref m16, .ref m17, .ref m18, .ref m19, .ref m20, .int 0, .int 0, .int 0, .int 0, .long 0, .int 0]))]) (wr := []) (va_runV (As := [.int 1]) (rest := []) ⟨hx, hb, hml, hown, hts⟩ (k_fails l D cy h0 m0 m1 m2 m3 m4 m5 m6 m7 m8 m9 m10 m11 m12 m13 m14 m15 m16 m17 m18 m19 m20 0 0 0 0 0 0 1 H.size ) (cwV 1 hts (gzV (gz q345) q344 q346 q347 q285) rfl rfl rfl vX14_fails ⟨Nat.le_of_ble_eq_true rfl, Nat.le_of_ble_eq_true rfl⟩) (zpV (ci := 17) (T := TX14) (N := 27) (q0 := 0) hK hX hY hP hD hS hA [0] (by decide) rfl rfl rfl) rfl rfl hl.1 rfl (lv_room (Nat.le_of_ble_eq_true rfl)) dX14_water_26 ⟨Nat.le_of_ble_eq_true rfl, Nat.le_of_ble_eq_true rfl⟩) hP hD hS hA [0] [] rfl rfl (by decide) (by decide) (fun x5 u4 H locs hw hP hD hS => ?_)
  obtain rfl : x5 = 0 := hw
  have hP : va_P D vwCl [(h0, .inr (17, [.ref m0, .ref m1, .ref m2, .ref m3, .ref m4, .ref m5, .ref m6, .ref m7, .ref m8, .ref m9, .ref m10, .ref m11, .ref m12, .ref m13, .ref m14, .ref m15, .ref m16, .ref m17, .ref m18, .ref m19, .ref m20, .int 1, .int 0, .int 0, .int 0, .long 0, .int 0]))] H := hP
  have hD : va_D A [(h0, .inr (17, [.ref m0, .ref m1, .ref m2, .ref m3, .ref m4, .ref m5, .ref m6, .ref m7, .ref m8, .ref m9, .ref m10, .ref m11, .ref m12, .ref m13, .ref m14, .ref m15, .ref m16, .ref m17, .ref m18, .ref m19, .ref m20, .int 1, .int 0, .int 0, .int 0, .long 0, .int 0]))] := hD
  have hP9 := hP.sub (ws' := [(h0, .inr (17, [.ref m0, .ref m1, .ref m2, .ref m3, .ref m4, .ref m5, .ref m6, .ref m7, .ref m8, .ref m9, .ref m10, .ref m11, .ref m12, .ref m13, .ref m14, .ref m15, .ref m16, .ref m17, .ref m18, .ref m19, .ref m20, .int 1, .int 0, .int 0, .int 0, .long 0, .int 0]))]) [0] rfl
  have hD9 := hD.sub (ws' := [(h0, .inr (17, [.ref m0, .ref m1, .ref m2, .ref m3, .ref m4, .ref m5, .ref m6, .ref m7, .ref m8, .ref m9, .ref m10, .ref m11, .ref m12, .ref m13, .ref m14, .ref m15, .ref m16, .ref m17, .ref m18, .ref m19, .ref m20, .int 1, .int 0, .int 0, .int 0, .long 0, .int 0]))]) [0] (by decide) rfl
  refine W.widen (k := 0) (n := 0) (Nat.le_of_ble_eq_true rfl) (Nat.le_of_ble_eq_true rfl) ?_
  rw [hQe]
  exact W.iret (v := 0) hx hb hr (fun t ht hW => ⟨⟨0, (), rfl, rfl, ⟨by rw [ht]; exact hP9, hD9⟩⟩, hS.F ht⟩) hS.2.2 dX14_water_29
