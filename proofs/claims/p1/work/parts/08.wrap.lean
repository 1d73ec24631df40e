abbrev cL_allFaults : ByteArray := method_13_code
def yL_allFaults : MethodName := ⟨RL, "allFaults", "(LCavernbook;I[J)I"⟩
abbrev cL_blunder : ByteArray := method_14_code
def yL_blunder : MethodName := ⟨RL, "blunder", "(LCavernbook;I[J)I"⟩
abbrev cL_bottom : ByteArray := method_10_code
def yL_bottom : MethodName := ⟨RL, "bottom", "(LCavernbook;III[J)I"⟩
abbrev cL_conduit : ByteArray := method_18_code
def yL_conduit : MethodName := ⟨RL, "conduit", "(LCavernbook;IIII[J)I"⟩
abbrev cL_depth : ByteArray := method_16_code
def yL_depth : MethodName := ⟨RL, "depth", "(LCavernbook;I[J)I"⟩
abbrev cL_fault : ByteArray := method_12_code
def yL_fault : MethodName := ⟨RL, "fault", "(LCavernbook;II[J)I"⟩
abbrev cL_go : ByteArray := method_29_code
def yL_go : MethodName := ⟨RL, "go", "(LCavernbook;II[J)I"⟩
abbrev cL_hourOf : ByteArray := method_32_code
def yL_hourOf : MethodName := ⟨RL, "hourOf", "(LCavernbook;I[J)I"⟩
abbrev cL_hungShare : ByteArray := method_36_code
def yL_hungShare : MethodName := ⟨RL, "hungShare", "(LCavernbook;I[D)I"⟩
abbrev cL_isClosed : ByteArray := method_25_code
def yL_isClosed : MethodName := ⟨RL, "isClosed", "(LCavernbook;II[J)I"⟩
abbrev cL_isHung : ByteArray := method_8_code
def yL_isHung : MethodName := ⟨RL, "isHung", "(LCavernbook;II[J)I"⟩
abbrev cL_isSound : ByteArray := method_38_code
def yL_isSound : MethodName := ⟨RL, "isSound", "(LCavernbook;I[J)I"⟩
abbrev cL_join : ByteArray := method_6_code
def yL_join : MethodName := ⟨RL, "join", "(LCavernbook;III[J)I"⟩
abbrev cL_knows : ByteArray := method_28_code
def yL_knows : MethodName := ⟨RL, "knows", "(LCavernbook;II[J)I"⟩
abbrev cL_lastChance : ByteArray := method_35_code
def yL_lastChance : MethodName := ⟨RL, "lastChance", "(LCavernbook;I[J)I"⟩
abbrev cL_length : ByteArray := method_15_code
def yL_length : MethodName := ⟨RL, "length", "(LCavernbook;I[J)I"⟩
abbrev cL_loops : ByteArray := method_11_code
def yL_loops : MethodName := ⟨RL, "loops", "(LCavernbook;I[J)I"⟩
abbrev cL_meanRain : ByteArray := method_37_code
def yL_meanRain : MethodName := ⟨RL, "meanRain", "(LCavernbook;[D)I"⟩
abbrev cL_oneWith : ByteArray := method_7_code
def yL_oneWith : MethodName := ⟨RL, "oneWith", "(LCavernbook;II[J)I"⟩
abbrev cL_party : ByteArray := method_26_code
def yL_party : MethodName := ⟨RL, "party", "(LCavernbook;I[J)I"⟩
abbrev cL_pause : ByteArray := method_30_code
def yL_pause : MethodName := ⟨RL, "pause", "(LCavernbook;II[J)I"⟩
abbrev cL_peak : ByteArray := method_21_code
def yL_peak : MethodName := ⟨RL, "peak", "(LCavernbook;I[J)I"⟩
abbrev cL_placeOf : ByteArray := method_31_code
def yL_placeOf : MethodName := ⟨RL, "placeOf", "(LCavernbook;I[J)I"⟩
abbrev cL_plan : ByteArray := method_33_code
def yL_plan : MethodName := ⟨RL, "plan", "(LCavernbook;I[J)I"⟩
abbrev cL_planAt : ByteArray := method_34_code
def yL_planAt : MethodName := ⟨RL, "planAt", "(LCavernbook;II[J)I"⟩
abbrev cL_rain : ByteArray := method_22_code
def yL_rain : MethodName := ⟨RL, "rain", "(LCavernbook;II[J)I"⟩
abbrev cL_setAside : ByteArray := method_5_code
def yL_setAside : MethodName := ⟨RL, "setAside", "(LCavernbook;II[J)I"⟩
abbrev cL_setHeight : ByteArray := method_17_code
def yL_setHeight : MethodName := ⟨RL, "setHeight", "(LCavernbook;II[J)I"⟩
abbrev cL_shot : ByteArray := method_4_code
def yL_shot : MethodName := ⟨RL, "shot", "(LCavernbook;IIIIIIII[J)I"⟩
abbrev cL_station : ByteArray := method_3_code
def yL_station : MethodName := ⟨RL, "station", "(LCavernbook;[J)I"⟩
abbrev cL_sump : ByteArray := method_24_code
def yL_sump : MethodName := ⟨RL, "sump", "(LCavernbook;II[J)I"⟩
abbrev cL_tell : ByteArray := method_27_code
def yL_tell : MethodName := ⟨RL, "tell", "(LCavernbook;II[J)I"⟩
abbrev cL_top : ByteArray := method_9_code
def yL_top : MethodName := ⟨RL, "top", "(LCavernbook;III[J)I"⟩
abbrev cL_trace : ByteArray := method_19_code
def yL_trace : MethodName := ⟨RL, "trace", "(LCavernbook;II[J)I"⟩
abbrev cL_traced : ByteArray := method_20_code
def yL_traced : MethodName := ⟨RL, "traced", "(LCavernbook;II[J)I"⟩
abbrev cL_water : ByteArray := method_23_code
def yL_water : MethodName := ⟨RL, "water", "(LCavernbook;I[J)I"⟩
theorem vX9_allFaults : yX9_allFaults.cls = RX9 ∧ yX9_allFaults.cls ≠ "java/lang/invoke/MethodHandle" ∧ yX9_allFaults.cls ≠ "java/lang/invoke/VarHandle" ∧ (parseMethodDescriptor yX9_allFaults.desc).map (fun d => d.parameters.length) = some 1 := by decide +kernel
theorem vX9_blunder : yX9_blunder.cls = RX9 ∧ yX9_blunder.cls ≠ "java/lang/invoke/MethodHandle" ∧ yX9_blunder.cls ≠ "java/lang/invoke/VarHandle" ∧ (parseMethodDescriptor yX9_blunder.desc).map (fun d => d.parameters.length) = some 1 := by decide +kernel
theorem vX9_bottom : yX9_bottom.cls = RX9 ∧ yX9_bottom.cls ≠ "java/lang/invoke/MethodHandle" ∧ yX9_bottom.cls ≠ "java/lang/invoke/VarHandle" ∧ (parseMethodDescriptor yX9_bottom.desc).map (fun d => d.parameters.length) = some 3 := by decide +kernel
theorem vX9_conduit : yX9_conduit.cls = RX9 ∧ yX9_conduit.cls ≠ "java/lang/invoke/MethodHandle" ∧ yX9_conduit.cls ≠ "java/lang/invoke/VarHandle" ∧ (parseMethodDescriptor yX9_conduit.desc).map (fun d => d.parameters.length) = some 4 := by decide +kernel
theorem vX9_depth : yX9_depth.cls = RX9 ∧ yX9_depth.cls ≠ "java/lang/invoke/MethodHandle" ∧ yX9_depth.cls ≠ "java/lang/invoke/VarHandle" ∧ (parseMethodDescriptor yX9_depth.desc).map (fun d => d.parameters.length) = some 1 := by decide +kernel
theorem vX9_fault : yX9_fault.cls = RX9 ∧ yX9_fault.cls ≠ "java/lang/invoke/MethodHandle" ∧ yX9_fault.cls ≠ "java/lang/invoke/VarHandle" ∧ (parseMethodDescriptor yX9_fault.desc).map (fun d => d.parameters.length) = some 2 := by decide +kernel
theorem vX9_go : yX9_go.cls = RX9 ∧ yX9_go.cls ≠ "java/lang/invoke/MethodHandle" ∧ yX9_go.cls ≠ "java/lang/invoke/VarHandle" ∧ (parseMethodDescriptor yX9_go.desc).map (fun d => d.parameters.length) = some 2 := by decide +kernel
theorem vX9_hourOf : yX9_hourOf.cls = RX9 ∧ yX9_hourOf.cls ≠ "java/lang/invoke/MethodHandle" ∧ yX9_hourOf.cls ≠ "java/lang/invoke/VarHandle" ∧ (parseMethodDescriptor yX9_hourOf.desc).map (fun d => d.parameters.length) = some 1 := by decide +kernel
theorem vX9_hungShare : yX9_hungShare.cls = RX9 ∧ yX9_hungShare.cls ≠ "java/lang/invoke/MethodHandle" ∧ yX9_hungShare.cls ≠ "java/lang/invoke/VarHandle" ∧ (parseMethodDescriptor yX9_hungShare.desc).map (fun d => d.parameters.length) = some 1 := by decide +kernel
theorem vX9_isClosed : yX9_isClosed.cls = RX9 ∧ yX9_isClosed.cls ≠ "java/lang/invoke/MethodHandle" ∧ yX9_isClosed.cls ≠ "java/lang/invoke/VarHandle" ∧ (parseMethodDescriptor yX9_isClosed.desc).map (fun d => d.parameters.length) = some 2 := by decide +kernel
theorem vX9_isHung : yX9_isHung.cls = RX9 ∧ yX9_isHung.cls ≠ "java/lang/invoke/MethodHandle" ∧ yX9_isHung.cls ≠ "java/lang/invoke/VarHandle" ∧ (parseMethodDescriptor yX9_isHung.desc).map (fun d => d.parameters.length) = some 2 := by decide +kernel
theorem vX9_isSound : yX9_isSound.cls = RX9 ∧ yX9_isSound.cls ≠ "java/lang/invoke/MethodHandle" ∧ yX9_isSound.cls ≠ "java/lang/invoke/VarHandle" ∧ (parseMethodDescriptor yX9_isSound.desc).map (fun d => d.parameters.length) = some 1 := by decide +kernel
theorem vX9_join : yX9_join.cls = RX9 ∧ yX9_join.cls ≠ "java/lang/invoke/MethodHandle" ∧ yX9_join.cls ≠ "java/lang/invoke/VarHandle" ∧ (parseMethodDescriptor yX9_join.desc).map (fun d => d.parameters.length) = some 3 := by decide +kernel
theorem vX9_knows : yX9_knows.cls = RX9 ∧ yX9_knows.cls ≠ "java/lang/invoke/MethodHandle" ∧ yX9_knows.cls ≠ "java/lang/invoke/VarHandle" ∧ (parseMethodDescriptor yX9_knows.desc).map (fun d => d.parameters.length) = some 2 := by decide +kernel
theorem vX9_lastChance : yX9_lastChance.cls = RX9 ∧ yX9_lastChance.cls ≠ "java/lang/invoke/MethodHandle" ∧ yX9_lastChance.cls ≠ "java/lang/invoke/VarHandle" ∧ (parseMethodDescriptor yX9_lastChance.desc).map (fun d => d.parameters.length) = some 1 := by decide +kernel
theorem vX9_length : yX9_length.cls = RX9 ∧ yX9_length.cls ≠ "java/lang/invoke/MethodHandle" ∧ yX9_length.cls ≠ "java/lang/invoke/VarHandle" ∧ (parseMethodDescriptor yX9_length.desc).map (fun d => d.parameters.length) = some 1 := by decide +kernel
theorem vX9_loops : yX9_loops.cls = RX9 ∧ yX9_loops.cls ≠ "java/lang/invoke/MethodHandle" ∧ yX9_loops.cls ≠ "java/lang/invoke/VarHandle" ∧ (parseMethodDescriptor yX9_loops.desc).map (fun d => d.parameters.length) = some 1 := by decide +kernel
theorem vX9_meanRain : yX9_meanRain.cls = RX9 ∧ yX9_meanRain.cls ≠ "java/lang/invoke/MethodHandle" ∧ yX9_meanRain.cls ≠ "java/lang/invoke/VarHandle" ∧ (parseMethodDescriptor yX9_meanRain.desc).map (fun d => d.parameters.length) = some 0 := by decide +kernel
theorem vX9_oneWith : yX9_oneWith.cls = RX9 ∧ yX9_oneWith.cls ≠ "java/lang/invoke/MethodHandle" ∧ yX9_oneWith.cls ≠ "java/lang/invoke/VarHandle" ∧ (parseMethodDescriptor yX9_oneWith.desc).map (fun d => d.parameters.length) = some 2 := by decide +kernel
theorem vX9_party : yX9_party.cls = RX9 ∧ yX9_party.cls ≠ "java/lang/invoke/MethodHandle" ∧ yX9_party.cls ≠ "java/lang/invoke/VarHandle" ∧ (parseMethodDescriptor yX9_party.desc).map (fun d => d.parameters.length) = some 1 := by decide +kernel
theorem vX9_pause : yX9_pause.cls = RX9 ∧ yX9_pause.cls ≠ "java/lang/invoke/MethodHandle" ∧ yX9_pause.cls ≠ "java/lang/invoke/VarHandle" ∧ (parseMethodDescriptor yX9_pause.desc).map (fun d => d.parameters.length) = some 2 := by decide +kernel
theorem vX9_peak : yX9_peak.cls = RX9 ∧ yX9_peak.cls ≠ "java/lang/invoke/MethodHandle" ∧ yX9_peak.cls ≠ "java/lang/invoke/VarHandle" ∧ (parseMethodDescriptor yX9_peak.desc).map (fun d => d.parameters.length) = some 1 := by decide +kernel
theorem vX9_placeOf : yX9_placeOf.cls = RX9 ∧ yX9_placeOf.cls ≠ "java/lang/invoke/MethodHandle" ∧ yX9_placeOf.cls ≠ "java/lang/invoke/VarHandle" ∧ (parseMethodDescriptor yX9_placeOf.desc).map (fun d => d.parameters.length) = some 1 := by decide +kernel
theorem vX9_plan : yX9_plan.cls = RX9 ∧ yX9_plan.cls ≠ "java/lang/invoke/MethodHandle" ∧ yX9_plan.cls ≠ "java/lang/invoke/VarHandle" ∧ (parseMethodDescriptor yX9_plan.desc).map (fun d => d.parameters.length) = some 1 := by decide +kernel
theorem vX9_planAt : yX9_planAt.cls = RX9 ∧ yX9_planAt.cls ≠ "java/lang/invoke/MethodHandle" ∧ yX9_planAt.cls ≠ "java/lang/invoke/VarHandle" ∧ (parseMethodDescriptor yX9_planAt.desc).map (fun d => d.parameters.length) = some 2 := by decide +kernel
theorem vX9_rain : yX9_rain.cls = RX9 ∧ yX9_rain.cls ≠ "java/lang/invoke/MethodHandle" ∧ yX9_rain.cls ≠ "java/lang/invoke/VarHandle" ∧ (parseMethodDescriptor yX9_rain.desc).map (fun d => d.parameters.length) = some 2 := by decide +kernel
theorem vX9_setAside : yX9_setAside.cls = RX9 ∧ yX9_setAside.cls ≠ "java/lang/invoke/MethodHandle" ∧ yX9_setAside.cls ≠ "java/lang/invoke/VarHandle" ∧ (parseMethodDescriptor yX9_setAside.desc).map (fun d => d.parameters.length) = some 2 := by decide +kernel
theorem vX9_setHeight : yX9_setHeight.cls = RX9 ∧ yX9_setHeight.cls ≠ "java/lang/invoke/MethodHandle" ∧ yX9_setHeight.cls ≠ "java/lang/invoke/VarHandle" ∧ (parseMethodDescriptor yX9_setHeight.desc).map (fun d => d.parameters.length) = some 2 := by decide +kernel
theorem vX9_shot : yX9_shot.cls = RX9 ∧ yX9_shot.cls ≠ "java/lang/invoke/MethodHandle" ∧ yX9_shot.cls ≠ "java/lang/invoke/VarHandle" ∧ (parseMethodDescriptor yX9_shot.desc).map (fun d => d.parameters.length) = some 8 := by decide +kernel
theorem vX9_station : yX9_station.cls = RX9 ∧ yX9_station.cls ≠ "java/lang/invoke/MethodHandle" ∧ yX9_station.cls ≠ "java/lang/invoke/VarHandle" ∧ (parseMethodDescriptor yX9_station.desc).map (fun d => d.parameters.length) = some 0 := by decide +kernel
theorem vX9_sump : yX9_sump.cls = RX9 ∧ yX9_sump.cls ≠ "java/lang/invoke/MethodHandle" ∧ yX9_sump.cls ≠ "java/lang/invoke/VarHandle" ∧ (parseMethodDescriptor yX9_sump.desc).map (fun d => d.parameters.length) = some 2 := by decide +kernel
theorem vX9_tell : yX9_tell.cls = RX9 ∧ yX9_tell.cls ≠ "java/lang/invoke/MethodHandle" ∧ yX9_tell.cls ≠ "java/lang/invoke/VarHandle" ∧ (parseMethodDescriptor yX9_tell.desc).map (fun d => d.parameters.length) = some 2 := by decide +kernel
theorem vX9_top : yX9_top.cls = RX9 ∧ yX9_top.cls ≠ "java/lang/invoke/MethodHandle" ∧ yX9_top.cls ≠ "java/lang/invoke/VarHandle" ∧ (parseMethodDescriptor yX9_top.desc).map (fun d => d.parameters.length) = some 3 := by decide +kernel
theorem vX9_trace : yX9_trace.cls = RX9 ∧ yX9_trace.cls ≠ "java/lang/invoke/MethodHandle" ∧ yX9_trace.cls ≠ "java/lang/invoke/VarHandle" ∧ (parseMethodDescriptor yX9_trace.desc).map (fun d => d.parameters.length) = some 2 := by decide +kernel
theorem vX9_traced : yX9_traced.cls = RX9 ∧ yX9_traced.cls ≠ "java/lang/invoke/MethodHandle" ∧ yX9_traced.cls ≠ "java/lang/invoke/VarHandle" ∧ (parseMethodDescriptor yX9_traced.desc).map (fun d => d.parameters.length) = some 2 := by decide +kernel
theorem vX9_water : yX9_water.cls = RX9 ∧ yX9_water.cls ≠ "java/lang/invoke/MethodHandle" ∧ yX9_water.cls ≠ "java/lang/invoke/VarHandle" ∧ (parseMethodDescriptor yX9_water.desc).map (fun d => d.parameters.length) = some 1 := by decide +kernel
theorem q403 : Cond.methodLink RL 15 yX9_shot ∈ wAll := wIn (wT2 (List.mem_of_getElem? (i := 219) rfl)) rfl
theorem q404 : Cond.code yX9_shot cX9_shot 10 (some .int) ∈ wAll := wIn (wT2 (List.mem_of_getElem? (i := 222) rfl)) rfl
theorem q405 : Cond.instanceMethod yX9_shot ∈ wAll := wIn (wT2 (List.mem_of_getElem? (i := 220) rfl)) rfl
theorem q406 : Cond.selects RX9 yX9_shot yX9_shot ∈ wAll := wIn (wT2 (List.mem_of_getElem? (i := 221) rfl)) rfl
theorem q407 : Cond.classLink RL 19 "java/lang/IndexOutOfBoundsException" ∈ wAll := wIn (wT2 (List.mem_of_getElem? (i := 194) rfl)) rfl
theorem q408 : Cond.methodLink RL 23 yX9_setAside ∈ wAll := wIn (wT3 (List.mem_of_getElem? (i := 31) rfl)) rfl
theorem q409 : Cond.code yX9_setAside cX9_setAside 5 (some .boolean) ∈ wAll := wIn (wT3 (List.mem_of_getElem? (i := 34) rfl)) rfl
theorem q410 : Cond.instanceMethod yX9_setAside ∈ wAll := wIn (wT3 (List.mem_of_getElem? (i := 32) rfl)) rfl
theorem q411 : Cond.selects RX9 yX9_setAside yX9_setAside ∈ wAll := wIn (wT3 (List.mem_of_getElem? (i := 33) rfl)) rfl
theorem q412 : Cond.methodLink RL 27 yX9_join ∈ wAll := wIn (wT3 (List.mem_of_getElem? (i := 47) rfl)) rfl
theorem q413 : Cond.code yX9_join cX9_join 5 (some .boolean) ∈ wAll := wIn (wT3 (List.mem_of_getElem? (i := 50) rfl)) rfl
theorem q414 : Cond.instanceMethod yX9_join ∈ wAll := wIn (wT3 (List.mem_of_getElem? (i := 48) rfl)) rfl
theorem q415 : Cond.selects RX9 yX9_join yX9_join ∈ wAll := wIn (wT3 (List.mem_of_getElem? (i := 49) rfl)) rfl
theorem q416 : Cond.methodLink RL 31 yX9_oneWith ∈ wAll := wIn (wT3 (List.mem_of_getElem? (i := 73) rfl)) rfl
theorem q417 : Cond.code yX9_oneWith cX9_oneWith 3 (some .int) ∈ wAll := wIn (wT3 (List.mem_of_getElem? (i := 76) rfl)) rfl
theorem q418 : Cond.instanceMethod yX9_oneWith ∈ wAll := wIn (wT3 (List.mem_of_getElem? (i := 74) rfl)) rfl
theorem q419 : Cond.selects RX9 yX9_oneWith yX9_oneWith ∈ wAll := wIn (wT3 (List.mem_of_getElem? (i := 75) rfl)) rfl
theorem q420 : Cond.methodLink RL 35 yX9_isHung ∈ wAll := wIn (wT3 (List.mem_of_getElem? (i := 80) rfl)) rfl
theorem q421 : Cond.code yX9_isHung cX9_isHung 3 (some .boolean) ∈ wAll := wIn (wT3 (List.mem_of_getElem? (i := 83) rfl)) rfl
theorem q422 : Cond.instanceMethod yX9_isHung ∈ wAll := wIn (wT3 (List.mem_of_getElem? (i := 81) rfl)) rfl
theorem q423 : Cond.selects RX9 yX9_isHung yX9_isHung ∈ wAll := wIn (wT3 (List.mem_of_getElem? (i := 82) rfl)) rfl
theorem q424 : Cond.methodLink RL 38 yX9_top ∈ wAll := wIn (wT3 (List.mem_of_getElem? (i := 109) rfl)) rfl
theorem q425 : Cond.code yX9_top cX9_top 4 (some .long) ∈ wAll := wIn (wT3 (List.mem_of_getElem? (i := 112) rfl)) rfl
theorem q426 : Cond.instanceMethod yX9_top ∈ wAll := wIn (wT3 (List.mem_of_getElem? (i := 110) rfl)) rfl
theorem q427 : Cond.selects RX9 yX9_top yX9_top ∈ wAll := wIn (wT3 (List.mem_of_getElem? (i := 111) rfl)) rfl
theorem q428 : Cond.methodLink RL 44 yX9_bottom ∈ wAll := wIn (wT3 (List.mem_of_getElem? (i := 212) rfl)) rfl
theorem q429 : Cond.code yX9_bottom cX9_bottom 4 (some .long) ∈ wAll := wIn (wT3 (List.mem_of_getElem? (i := 215) rfl)) rfl
theorem q430 : Cond.instanceMethod yX9_bottom ∈ wAll := wIn (wT3 (List.mem_of_getElem? (i := 213) rfl)) rfl
theorem q431 : Cond.selects RX9 yX9_bottom yX9_bottom ∈ wAll := wIn (wT3 (List.mem_of_getElem? (i := 214) rfl)) rfl
theorem q432 : Cond.methodLink RL 51 yX9_fault ∈ wAll := wIn (wT3 (List.mem_of_getElem? (i := 227) rfl)) rfl
theorem q433 : Cond.code yX9_fault cX9_fault 3 (some .long) ∈ wAll := wIn (wT3 (List.mem_of_getElem? (i := 230) rfl)) rfl
theorem q434 : Cond.instanceMethod yX9_fault ∈ wAll := wIn (wT3 (List.mem_of_getElem? (i := 228) rfl)) rfl
theorem q435 : Cond.selects RX9 yX9_fault yX9_fault ∈ wAll := wIn (wT3 (List.mem_of_getElem? (i := 229) rfl)) rfl
theorem q436 : Cond.methodLink RL 68 yX9_setHeight ∈ wAll := wIn (wT4 (List.mem_of_getElem? (i := 87) rfl)) rfl
theorem q437 : Cond.code yX9_setHeight cX9_setHeight 4 (some .int) ∈ wAll := wIn (wT4 (List.mem_of_getElem? (i := 90) rfl)) rfl
theorem q438 : Cond.instanceMethod yX9_setHeight ∈ wAll := wIn (wT4 (List.mem_of_getElem? (i := 88) rfl)) rfl
theorem q439 : Cond.selects RX9 yX9_setHeight yX9_setHeight ∈ wAll := wIn (wT4 (List.mem_of_getElem? (i := 89) rfl)) rfl
theorem q440 : Cond.methodLink RL 73 yX9_conduit ∈ wAll := wIn (wT4 (List.mem_of_getElem? (i := 114) rfl)) rfl
theorem q441 : Cond.code yX9_conduit cX9_conduit 5 (some .int) ∈ wAll := wIn (wT4 (List.mem_of_getElem? (i := 117) rfl)) rfl
theorem q442 : Cond.instanceMethod yX9_conduit ∈ wAll := wIn (wT4 (List.mem_of_getElem? (i := 115) rfl)) rfl
theorem q443 : Cond.selects RX9 yX9_conduit yX9_conduit ∈ wAll := wIn (wT4 (List.mem_of_getElem? (i := 116) rfl)) rfl
theorem q444 : Cond.methodLink RL 77 yX9_trace ∈ wAll := wIn (wT4 (List.mem_of_getElem? (i := 132) rfl)) rfl
theorem q445 : Cond.code yX9_trace cX9_trace 5 (some .int) ∈ wAll := wIn (wT4 (List.mem_of_getElem? (i := 135) rfl)) rfl
theorem q446 : Cond.instanceMethod yX9_trace ∈ wAll := wIn (wT4 (List.mem_of_getElem? (i := 133) rfl)) rfl
theorem q447 : Cond.selects RX9 yX9_trace yX9_trace ∈ wAll := wIn (wT4 (List.mem_of_getElem? (i := 134) rfl)) rfl
theorem q448 : Cond.methodLink RL 80 yX9_traced ∈ wAll := wIn (wT4 (List.mem_of_getElem? (i := 156) rfl)) rfl
theorem q449 : Cond.code yX9_traced cX9_traced 3 (some .int) ∈ wAll := wIn (wT4 (List.mem_of_getElem? (i := 159) rfl)) rfl
theorem q450 : Cond.instanceMethod yX9_traced ∈ wAll := wIn (wT4 (List.mem_of_getElem? (i := 157) rfl)) rfl
theorem q451 : Cond.selects RX9 yX9_traced yX9_traced ∈ wAll := wIn (wT4 (List.mem_of_getElem? (i := 158) rfl)) rfl
theorem q452 : Cond.methodLink RL 83 yX9_peak ∈ wAll := wIn (wT4 (List.mem_of_getElem? (i := 168) rfl)) rfl
theorem q453 : Cond.code yX9_peak cX9_peak 3 (some .int) ∈ wAll := wIn (wT4 (List.mem_of_getElem? (i := 171) rfl)) rfl
theorem q454 : Cond.instanceMethod yX9_peak ∈ wAll := wIn (wT4 (List.mem_of_getElem? (i := 169) rfl)) rfl
theorem q455 : Cond.selects RX9 yX9_peak yX9_peak ∈ wAll := wIn (wT4 (List.mem_of_getElem? (i := 170) rfl)) rfl
theorem q456 : Cond.methodLink RL 92 yX9_sump ∈ wAll := wIn (wT4 (List.mem_of_getElem? (i := 195) rfl)) rfl
theorem q457 : Cond.code yX9_sump cX9_sump 4 (some .int) ∈ wAll := wIn (wT4 (List.mem_of_getElem? (i := 198) rfl)) rfl
theorem q458 : Cond.instanceMethod yX9_sump ∈ wAll := wIn (wT4 (List.mem_of_getElem? (i := 196) rfl)) rfl
theorem q459 : Cond.selects RX9 yX9_sump yX9_sump ∈ wAll := wIn (wT4 (List.mem_of_getElem? (i := 197) rfl)) rfl
theorem q460 : Cond.methodLink RL 95 yX9_isClosed ∈ wAll := wIn (wT4 (List.mem_of_getElem? (i := 202) rfl)) rfl
theorem q461 : Cond.code yX9_isClosed cX9_isClosed 3 (some .boolean) ∈ wAll := wIn (wT4 (List.mem_of_getElem? (i := 205) rfl)) rfl
theorem q462 : Cond.instanceMethod yX9_isClosed ∈ wAll := wIn (wT4 (List.mem_of_getElem? (i := 203) rfl)) rfl
theorem q463 : Cond.selects RX9 yX9_isClosed yX9_isClosed ∈ wAll := wIn (wT4 (List.mem_of_getElem? (i := 204) rfl)) rfl
theorem q464 : Cond.methodLink RL 98 yX9_party ∈ wAll := wIn (wT4 (List.mem_of_getElem? (i := 213) rfl)) rfl
theorem q465 : Cond.code yX9_party cX9_party 2 (some .int) ∈ wAll := wIn (wT4 (List.mem_of_getElem? (i := 216) rfl)) rfl
theorem q466 : Cond.instanceMethod yX9_party ∈ wAll := wIn (wT4 (List.mem_of_getElem? (i := 214) rfl)) rfl
theorem q467 : Cond.selects RX9 yX9_party yX9_party ∈ wAll := wIn (wT4 (List.mem_of_getElem? (i := 215) rfl)) rfl
theorem q468 : Cond.methodLink RL 101 yX9_tell ∈ wAll := wIn (wT4 (List.mem_of_getElem? (i := 221) rfl)) rfl
theorem q469 : Cond.code yX9_tell cX9_tell 3 (some .int) ∈ wAll := wIn (wT4 (List.mem_of_getElem? (i := 224) rfl)) rfl
theorem q470 : Cond.instanceMethod yX9_tell ∈ wAll := wIn (wT4 (List.mem_of_getElem? (i := 222) rfl)) rfl
theorem q471 : Cond.selects RX9 yX9_tell yX9_tell ∈ wAll := wIn (wT4 (List.mem_of_getElem? (i := 223) rfl)) rfl
theorem q472 : Cond.methodLink RL 104 yX9_knows ∈ wAll := wIn (wT5 (List.mem_of_getElem? (i := 3) rfl)) rfl
theorem q473 : Cond.code yX9_knows cX9_knows 3 (some .boolean) ∈ wAll := wIn (wT5 (List.mem_of_getElem? (i := 6) rfl)) rfl
theorem q474 : Cond.instanceMethod yX9_knows ∈ wAll := wIn (wT5 (List.mem_of_getElem? (i := 4) rfl)) rfl
theorem q475 : Cond.selects RX9 yX9_knows yX9_knows ∈ wAll := wIn (wT5 (List.mem_of_getElem? (i := 5) rfl)) rfl
theorem q476 : Cond.methodLink RL 107 yX9_go ∈ wAll := wIn (wT5 (List.mem_of_getElem? (i := 14) rfl)) rfl
theorem q477 : Cond.code yX9_go cX9_go 6 (some .int) ∈ wAll := wIn (wT5 (List.mem_of_getElem? (i := 17) rfl)) rfl
theorem q478 : Cond.instanceMethod yX9_go ∈ wAll := wIn (wT5 (List.mem_of_getElem? (i := 15) rfl)) rfl
theorem q479 : Cond.selects RX9 yX9_go yX9_go ∈ wAll := wIn (wT5 (List.mem_of_getElem? (i := 16) rfl)) rfl
theorem q480 : Cond.methodLink RL 110 yX9_pause ∈ wAll := wIn (wT5 (List.mem_of_getElem? (i := 34) rfl)) rfl
theorem q481 : Cond.code yX9_pause cX9_pause 3 (some .int) ∈ wAll := wIn (wT5 (List.mem_of_getElem? (i := 37) rfl)) rfl
theorem q482 : Cond.instanceMethod yX9_pause ∈ wAll := wIn (wT5 (List.mem_of_getElem? (i := 35) rfl)) rfl
theorem q483 : Cond.selects RX9 yX9_pause yX9_pause ∈ wAll := wIn (wT5 (List.mem_of_getElem? (i := 36) rfl)) rfl
theorem q484 : Cond.methodLink RL 113 yX9_placeOf ∈ wAll := wIn (wT5 (List.mem_of_getElem? (i := 41) rfl)) rfl
theorem q485 : Cond.code yX9_placeOf cX9_placeOf 2 (some .int) ∈ wAll := wIn (wT5 (List.mem_of_getElem? (i := 44) rfl)) rfl
theorem q486 : Cond.instanceMethod yX9_placeOf ∈ wAll := wIn (wT5 (List.mem_of_getElem? (i := 42) rfl)) rfl
theorem q487 : Cond.selects RX9 yX9_placeOf yX9_placeOf ∈ wAll := wIn (wT5 (List.mem_of_getElem? (i := 43) rfl)) rfl
theorem q488 : Cond.methodLink RL 116 yX9_hourOf ∈ wAll := wIn (wT5 (List.mem_of_getElem? (i := 48) rfl)) rfl
theorem q489 : Cond.code yX9_hourOf cX9_hourOf 2 (some .int) ∈ wAll := wIn (wT5 (List.mem_of_getElem? (i := 51) rfl)) rfl
theorem q490 : Cond.instanceMethod yX9_hourOf ∈ wAll := wIn (wT5 (List.mem_of_getElem? (i := 49) rfl)) rfl
theorem q491 : Cond.selects RX9 yX9_hourOf yX9_hourOf ∈ wAll := wIn (wT5 (List.mem_of_getElem? (i := 50) rfl)) rfl
theorem q492 : Cond.methodLink RL 119 yX9_plan ∈ wAll := wIn (wT5 (List.mem_of_getElem? (i := 55) rfl)) rfl
theorem q493 : Cond.code yX9_plan cX9_plan 2 (some .int) ∈ wAll := wIn (wT5 (List.mem_of_getElem? (i := 58) rfl)) rfl
theorem q494 : Cond.instanceMethod yX9_plan ∈ wAll := wIn (wT5 (List.mem_of_getElem? (i := 56) rfl)) rfl
theorem q495 : Cond.selects RX9 yX9_plan yX9_plan ∈ wAll := wIn (wT5 (List.mem_of_getElem? (i := 57) rfl)) rfl
theorem q496 : Cond.methodLink RL 122 yX9_planAt ∈ wAll := wIn (wT5 (List.mem_of_getElem? (i := 89) rfl)) rfl
theorem q497 : Cond.code yX9_planAt cX9_planAt 3 (some .int) ∈ wAll := wIn (wT5 (List.mem_of_getElem? (i := 92) rfl)) rfl
theorem q498 : Cond.instanceMethod yX9_planAt ∈ wAll := wIn (wT5 (List.mem_of_getElem? (i := 90) rfl)) rfl
theorem q499 : Cond.selects RX9 yX9_planAt yX9_planAt ∈ wAll := wIn (wT5 (List.mem_of_getElem? (i := 91) rfl)) rfl
theorem q500 : Cond.methodLink RL 125 yX9_lastChance ∈ wAll := wIn (wT5 (List.mem_of_getElem? (i := 97) rfl)) rfl
theorem q501 : Cond.code yX9_lastChance cX9_lastChance 2 (some .int) ∈ wAll := wIn (wT5 (List.mem_of_getElem? (i := 100) rfl)) rfl
theorem q502 : Cond.instanceMethod yX9_lastChance ∈ wAll := wIn (wT5 (List.mem_of_getElem? (i := 98) rfl)) rfl
theorem q503 : Cond.selects RX9 yX9_lastChance yX9_lastChance ∈ wAll := wIn (wT5 (List.mem_of_getElem? (i := 99) rfl)) rfl
theorem q504 : Cond.methodLink RL 7 yX9_station ∈ wAll := wIn (wT2 (List.mem_of_getElem? (i := 115) rfl)) rfl
theorem q505 : Cond.code yX9_station cX9_station 1 (some .int) ∈ wAll := wIn (wT2 (List.mem_of_getElem? (i := 118) rfl)) rfl
theorem q506 : Cond.instanceMethod yX9_station ∈ wAll := wIn (wT2 (List.mem_of_getElem? (i := 116) rfl)) rfl
theorem q507 : Cond.selects RX9 yX9_station yX9_station ∈ wAll := wIn (wT2 (List.mem_of_getElem? (i := 117) rfl)) rfl
theorem q508 : Cond.methodLink RL 47 yX9_loops ∈ wAll := wIn (wT3 (List.mem_of_getElem? (i := 219) rfl)) rfl
theorem q509 : Cond.code yX9_loops cX9_loops 2 (some .int) ∈ wAll := wIn (wT3 (List.mem_of_getElem? (i := 222) rfl)) rfl
theorem q510 : Cond.instanceMethod yX9_loops ∈ wAll := wIn (wT3 (List.mem_of_getElem? (i := 220) rfl)) rfl
theorem q511 : Cond.selects RX9 yX9_loops yX9_loops ∈ wAll := wIn (wT3 (List.mem_of_getElem? (i := 221) rfl)) rfl
theorem q512 : Cond.classLink RL 21 "java/lang/IllegalArgumentException" ∈ wAll := wIn (wT2 (List.mem_of_getElem? (i := 218) rfl)) rfl
theorem q513 : Cond.methodLink RL 55 yX9_allFaults ∈ wAll := wIn (wT4 (List.mem_of_getElem? (i := 34) rfl)) rfl
theorem q514 : Cond.code yX9_allFaults cX9_allFaults 2 (some .long) ∈ wAll := wIn (wT4 (List.mem_of_getElem? (i := 37) rfl)) rfl
theorem q515 : Cond.instanceMethod yX9_allFaults ∈ wAll := wIn (wT4 (List.mem_of_getElem? (i := 35) rfl)) rfl
theorem q516 : Cond.selects RX9 yX9_allFaults yX9_allFaults ∈ wAll := wIn (wT4 (List.mem_of_getElem? (i := 36) rfl)) rfl
theorem q517 : Cond.methodLink RL 59 yX9_blunder ∈ wAll := wIn (wT4 (List.mem_of_getElem? (i := 49) rfl)) rfl
theorem q518 : Cond.code yX9_blunder cX9_blunder 3 (some .int) ∈ wAll := wIn (wT4 (List.mem_of_getElem? (i := 52) rfl)) rfl
theorem q519 : Cond.instanceMethod yX9_blunder ∈ wAll := wIn (wT4 (List.mem_of_getElem? (i := 50) rfl)) rfl
theorem q520 : Cond.selects RX9 yX9_blunder yX9_blunder ∈ wAll := wIn (wT4 (List.mem_of_getElem? (i := 51) rfl)) rfl
theorem q521 : Cond.methodLink RL 62 yX9_length ∈ wAll := wIn (wT4 (List.mem_of_getElem? (i := 66) rfl)) rfl
theorem q522 : Cond.code yX9_length cX9_length 4 (some .int) ∈ wAll := wIn (wT4 (List.mem_of_getElem? (i := 69) rfl)) rfl
theorem q523 : Cond.instanceMethod yX9_length ∈ wAll := wIn (wT4 (List.mem_of_getElem? (i := 67) rfl)) rfl
theorem q524 : Cond.selects RX9 yX9_length yX9_length ∈ wAll := wIn (wT4 (List.mem_of_getElem? (i := 68) rfl)) rfl
theorem q525 : Cond.methodLink RL 65 yX9_depth ∈ wAll := wIn (wT4 (List.mem_of_getElem? (i := 73) rfl)) rfl
theorem q526 : Cond.code yX9_depth cX9_depth 2 (some .long) ∈ wAll := wIn (wT4 (List.mem_of_getElem? (i := 76) rfl)) rfl
theorem q527 : Cond.instanceMethod yX9_depth ∈ wAll := wIn (wT4 (List.mem_of_getElem? (i := 74) rfl)) rfl
theorem q528 : Cond.selects RX9 yX9_depth yX9_depth ∈ wAll := wIn (wT4 (List.mem_of_getElem? (i := 75) rfl)) rfl
theorem q529 : Cond.methodLink RL 128 yX9_hungShare ∈ wAll := wIn (wT5 (List.mem_of_getElem? (i := 122) rfl)) rfl
theorem q530 : Cond.code yX9_hungShare cX9_hungShare 2 (some .float) ∈ wAll := wIn (wT5 (List.mem_of_getElem? (i := 125) rfl)) rfl
theorem q531 : Cond.instanceMethod yX9_hungShare ∈ wAll := wIn (wT5 (List.mem_of_getElem? (i := 123) rfl)) rfl
theorem q532 : Cond.selects RX9 yX9_hungShare yX9_hungShare ∈ wAll := wIn (wT5 (List.mem_of_getElem? (i := 124) rfl)) rfl
theorem q533 : Cond.methodLink RL 138 yX9_isSound ∈ wAll := wIn (wT5 (List.mem_of_getElem? (i := 144) rfl)) rfl
theorem q534 : Cond.code yX9_isSound cX9_isSound 3 (some .boolean) ∈ wAll := wIn (wT5 (List.mem_of_getElem? (i := 147) rfl)) rfl
theorem q535 : Cond.instanceMethod yX9_isSound ∈ wAll := wIn (wT5 (List.mem_of_getElem? (i := 145) rfl)) rfl
theorem q536 : Cond.selects RX9 yX9_isSound yX9_isSound ∈ wAll := wIn (wT5 (List.mem_of_getElem? (i := 146) rfl)) rfl
theorem q537 : Cond.classLink RL 42 "java/util/NoSuchElementException" ∈ wAll := wIn (wT3 (List.mem_of_getElem? (i := 108) rfl)) rfl
theorem q538 : Cond.classLink RL 132 "java/lang/ArithmeticException" ∈ wAll := wIn (wT5 (List.mem_of_getElem? (i := 108) rfl)) rfl
theorem q539 : Cond.methodLink RL 134 yX9_meanRain ∈ wAll := wIn (wT5 (List.mem_of_getElem? (i := 136) rfl)) rfl
theorem q540 : Cond.code yX9_meanRain cX9_meanRain 4 (some .double) ∈ wAll := wIn (wT5 (List.mem_of_getElem? (i := 139) rfl)) rfl
theorem q541 : Cond.instanceMethod yX9_meanRain ∈ wAll := wIn (wT5 (List.mem_of_getElem? (i := 137) rfl)) rfl
theorem q542 : Cond.selects RX9 yX9_meanRain yX9_meanRain ∈ wAll := wIn (wT5 (List.mem_of_getElem? (i := 138) rfl)) rfl
theorem q543 : Cond.methodLink RL 86 yX9_rain ∈ wAll := wIn (wT4 (List.mem_of_getElem? (i := 176) rfl)) rfl
theorem q544 : Cond.code yX9_rain cX9_rain 4 (some .int) ∈ wAll := wIn (wT4 (List.mem_of_getElem? (i := 179) rfl)) rfl
theorem q545 : Cond.instanceMethod yX9_rain ∈ wAll := wIn (wT4 (List.mem_of_getElem? (i := 177) rfl)) rfl
theorem q546 : Cond.selects RX9 yX9_rain yX9_rain ∈ wAll := wIn (wT4 (List.mem_of_getElem? (i := 178) rfl)) rfl
theorem q547 : Cond.methodLink RL 89 yX9_water ∈ wAll := wIn (wT4 (List.mem_of_getElem? (i := 188) rfl)) rfl
theorem q548 : Cond.code yX9_water cX9_water 2 (some .int) ∈ wAll := wIn (wT4 (List.mem_of_getElem? (i := 191) rfl)) rfl
theorem q549 : Cond.instanceMethod yX9_water ∈ wAll := wIn (wT4 (List.mem_of_getElem? (i := 189) rfl)) rfl
theorem q550 : Cond.selects RX9 yX9_water yX9_water ∈ wAll := wIn (wT4 (List.mem_of_getElem? (i := 190) rfl)) rfl
theorem dL_allFaults_0 : decode cL_allFaults 0 = .ok (.aload_n 2, 1) := by decide +kernel
theorem dL_allFaults_1 : decode cL_allFaults 1 = .ok (.iconst 0, 1) := by decide +kernel
theorem dL_allFaults_2 : decode cL_allFaults 2 = .ok (.aload_n 0, 1) := by decide +kernel
theorem dL_allFaults_3 : decode cL_allFaults 3 = .ok (.iload_n 1, 1) := by decide +kernel
theorem dL_allFaults_4 : decode cL_allFaults 4 = .ok (.invokevirtual 55, 3) := by decide +kernel
theorem dL_allFaults_7 : decode cL_allFaults 7 = .ok (.lastore, 1) := by decide +kernel
theorem dL_allFaults_8 : decode cL_allFaults 8 = .ok (.goto 6, 3) := by decide +kernel
theorem dL_allFaults_11 : decode cL_allFaults 11 = .ok (.astore_n 3, 1) := by decide +kernel
theorem dL_allFaults_12 : decode cL_allFaults 12 = .ok (.iconst 1, 1) := by decide +kernel
theorem dL_allFaults_13 : decode cL_allFaults 13 = .ok (.ireturn, 1) := by decide +kernel
theorem dL_allFaults_14 : decode cL_allFaults 14 = .ok (.iconst 0, 1) := by decide +kernel
theorem dL_allFaults_15 : decode cL_allFaults 15 = .ok (.ireturn, 1) := by decide +kernel
theorem dL_blunder_0 : decode cL_blunder 0 = .ok (.aload_n 2, 1) := by decide +kernel
theorem dL_blunder_1 : decode cL_blunder 1 = .ok (.iconst 0, 1) := by decide +kernel
theorem dL_blunder_2 : decode cL_blunder 2 = .ok (.aload_n 0, 1) := by decide +kernel
theorem dL_blunder_3 : decode cL_blunder 3 = .ok (.iload_n 1, 1) := by decide +kernel
theorem dL_blunder_4 : decode cL_blunder 4 = .ok (.invokevirtual 59, 3) := by decide +kernel
theorem dL_blunder_12 : decode cL_blunder 12 = .ok (.astore_n 3, 1) := by decide +kernel
theorem dL_blunder_13 : decode cL_blunder 13 = .ok (.iconst 1, 1) := by decide +kernel
theorem dL_blunder_14 : decode cL_blunder 14 = .ok (.ireturn, 1) := by decide +kernel
theorem dL_blunder_15 : decode cL_blunder 15 = .ok (.astore_n 3, 1) := by decide +kernel
theorem dL_blunder_16 : decode cL_blunder 16 = .ok (.iconst 2, 1) := by decide +kernel
theorem dL_blunder_17 : decode cL_blunder 17 = .ok (.ireturn, 1) := by decide +kernel
theorem dL_bottom_0 : decode cL_bottom 0 = .ok (.aload 4, 2) := by decide +kernel
theorem dL_bottom_2 : decode cL_bottom 2 = .ok (.iconst 0, 1) := by decide +kernel
theorem dL_bottom_3 : decode cL_bottom 3 = .ok (.aload_n 0, 1) := by decide +kernel
theorem dL_bottom_4 : decode cL_bottom 4 = .ok (.iload_n 1, 1) := by decide +kernel
theorem dL_bottom_5 : decode cL_bottom 5 = .ok (.iload_n 2, 1) := by decide +kernel
theorem dL_bottom_6 : decode cL_bottom 6 = .ok (.iload_n 3, 1) := by decide +kernel
theorem dL_bottom_7 : decode cL_bottom 7 = .ok (.invokevirtual 44, 3) := by decide +kernel
theorem dL_bottom_14 : decode cL_bottom 14 = .ok (.astore 5, 2) := by decide +kernel
theorem dL_bottom_16 : decode cL_bottom 16 = .ok (.iconst 1, 1) := by decide +kernel
theorem dL_bottom_17 : decode cL_bottom 17 = .ok (.ireturn, 1) := by decide +kernel
theorem dL_conduit_0 : decode cL_conduit 0 = .ok (.aload 5, 2) := by decide +kernel
theorem dL_conduit_2 : decode cL_conduit 2 = .ok (.iconst 0, 1) := by decide +kernel
theorem dL_conduit_3 : decode cL_conduit 3 = .ok (.aload_n 0, 1) := by decide +kernel
theorem dL_conduit_4 : decode cL_conduit 4 = .ok (.iload_n 1, 1) := by decide +kernel
theorem dL_conduit_5 : decode cL_conduit 5 = .ok (.iload_n 2, 1) := by decide +kernel
theorem dL_conduit_6 : decode cL_conduit 6 = .ok (.iload_n 3, 1) := by decide +kernel
theorem dL_conduit_7 : decode cL_conduit 7 = .ok (.iload 4, 2) := by decide +kernel
theorem dL_conduit_9 : decode cL_conduit 9 = .ok (.invokevirtual 73, 3) := by decide +kernel
theorem dL_conduit_17 : decode cL_conduit 17 = .ok (.astore 6, 2) := by decide +kernel
theorem dL_conduit_19 : decode cL_conduit 19 = .ok (.iconst 1, 1) := by decide +kernel
theorem dL_conduit_20 : decode cL_conduit 20 = .ok (.ireturn, 1) := by decide +kernel
theorem dL_depth_0 : decode cL_depth 0 = .ok (.aload_n 2, 1) := by decide +kernel
theorem dL_depth_1 : decode cL_depth 1 = .ok (.iconst 0, 1) := by decide +kernel
theorem dL_depth_2 : decode cL_depth 2 = .ok (.aload_n 0, 1) := by decide +kernel
theorem dL_depth_3 : decode cL_depth 3 = .ok (.iload_n 1, 1) := by decide +kernel
theorem dL_depth_4 : decode cL_depth 4 = .ok (.invokevirtual 65, 3) := by decide +kernel
theorem dL_depth_7 : decode cL_depth 7 = .ok (.lastore, 1) := by decide +kernel
theorem dL_depth_8 : decode cL_depth 8 = .ok (.goto 6, 3) := by decide +kernel
theorem dL_depth_11 : decode cL_depth 11 = .ok (.astore_n 3, 1) := by decide +kernel
theorem dL_depth_12 : decode cL_depth 12 = .ok (.iconst 1, 1) := by decide +kernel
theorem dL_depth_13 : decode cL_depth 13 = .ok (.ireturn, 1) := by decide +kernel
theorem dL_depth_14 : decode cL_depth 14 = .ok (.iconst 0, 1) := by decide +kernel
theorem dL_depth_15 : decode cL_depth 15 = .ok (.ireturn, 1) := by decide +kernel
theorem dL_fault_0 : decode cL_fault 0 = .ok (.aload_n 3, 1) := by decide +kernel
theorem dL_fault_1 : decode cL_fault 1 = .ok (.iconst 0, 1) := by decide +kernel
theorem dL_fault_2 : decode cL_fault 2 = .ok (.aload_n 0, 1) := by decide +kernel
theorem dL_fault_3 : decode cL_fault 3 = .ok (.iload_n 1, 1) := by decide +kernel
theorem dL_fault_4 : decode cL_fault 4 = .ok (.iload_n 2, 1) := by decide +kernel
theorem dL_fault_5 : decode cL_fault 5 = .ok (.invokevirtual 51, 3) := by decide +kernel
theorem dL_fault_12 : decode cL_fault 12 = .ok (.astore 4, 2) := by decide +kernel
theorem dL_fault_14 : decode cL_fault 14 = .ok (.iconst 1, 1) := by decide +kernel
theorem dL_fault_15 : decode cL_fault 15 = .ok (.ireturn, 1) := by decide +kernel
theorem dL_go_0 : decode cL_go 0 = .ok (.aload_n 3, 1) := by decide +kernel
theorem dL_go_1 : decode cL_go 1 = .ok (.iconst 0, 1) := by decide +kernel
theorem dL_go_2 : decode cL_go 2 = .ok (.aload_n 0, 1) := by decide +kernel
theorem dL_go_3 : decode cL_go 3 = .ok (.iload_n 1, 1) := by decide +kernel
theorem dL_go_4 : decode cL_go 4 = .ok (.iload_n 2, 1) := by decide +kernel
theorem dL_go_5 : decode cL_go 5 = .ok (.invokevirtual 107, 3) := by decide +kernel
theorem dL_go_13 : decode cL_go 13 = .ok (.astore 4, 2) := by decide +kernel
theorem dL_go_15 : decode cL_go 15 = .ok (.iconst 1, 1) := by decide +kernel
theorem dL_go_16 : decode cL_go 16 = .ok (.ireturn, 1) := by decide +kernel
theorem dL_hourOf_0 : decode cL_hourOf 0 = .ok (.aload_n 2, 1) := by decide +kernel
theorem dL_hourOf_1 : decode cL_hourOf 1 = .ok (.iconst 0, 1) := by decide +kernel
theorem dL_hourOf_2 : decode cL_hourOf 2 = .ok (.aload_n 0, 1) := by decide +kernel
theorem dL_hourOf_3 : decode cL_hourOf 3 = .ok (.iload_n 1, 1) := by decide +kernel
theorem dL_hourOf_4 : decode cL_hourOf 4 = .ok (.invokevirtual 116, 3) := by decide +kernel
theorem dL_hourOf_12 : decode cL_hourOf 12 = .ok (.astore_n 3, 1) := by decide +kernel
theorem dL_hourOf_13 : decode cL_hourOf 13 = .ok (.iconst 1, 1) := by decide +kernel
theorem dL_hourOf_14 : decode cL_hourOf 14 = .ok (.ireturn, 1) := by decide +kernel
theorem dL_hungShare_0 : decode cL_hungShare 0 = .ok (.aload_n 2, 1) := by decide +kernel
theorem dL_hungShare_1 : decode cL_hungShare 1 = .ok (.iconst 0, 1) := by decide +kernel
theorem dL_hungShare_2 : decode cL_hungShare 2 = .ok (.aload_n 0, 1) := by decide +kernel
theorem dL_hungShare_3 : decode cL_hungShare 3 = .ok (.iload_n 1, 1) := by decide +kernel
theorem dL_hungShare_4 : decode cL_hungShare 4 = .ok (.invokevirtual 128, 3) := by decide +kernel
theorem dL_hungShare_12 : decode cL_hungShare 12 = .ok (.astore_n 3, 1) := by decide +kernel
theorem dL_hungShare_13 : decode cL_hungShare 13 = .ok (.iconst 1, 1) := by decide +kernel
theorem dL_hungShare_14 : decode cL_hungShare 14 = .ok (.ireturn, 1) := by decide +kernel
theorem dL_hungShare_15 : decode cL_hungShare 15 = .ok (.astore_n 3, 1) := by decide +kernel
theorem dL_hungShare_16 : decode cL_hungShare 16 = .ok (.iconst 2, 1) := by decide +kernel
theorem dL_hungShare_17 : decode cL_hungShare 17 = .ok (.ireturn, 1) := by decide +kernel
theorem dL_isClosed_0 : decode cL_isClosed 0 = .ok (.aload_n 3, 1) := by decide +kernel
theorem dL_isClosed_1 : decode cL_isClosed 1 = .ok (.iconst 0, 1) := by decide +kernel
theorem dL_isClosed_2 : decode cL_isClosed 2 = .ok (.aload_n 0, 1) := by decide +kernel
theorem dL_isClosed_3 : decode cL_isClosed 3 = .ok (.iload_n 1, 1) := by decide +kernel
theorem dL_isClosed_4 : decode cL_isClosed 4 = .ok (.iload_n 2, 1) := by decide +kernel
theorem dL_isClosed_5 : decode cL_isClosed 5 = .ok (.invokevirtual 95, 3) := by decide +kernel
theorem dL_isClosed_20 : decode cL_isClosed 20 = .ok (.astore 4, 2) := by decide +kernel
theorem dL_isClosed_22 : decode cL_isClosed 22 = .ok (.iconst 1, 1) := by decide +kernel
theorem dL_isClosed_23 : decode cL_isClosed 23 = .ok (.ireturn, 1) := by decide +kernel
theorem dL_isHung_0 : decode cL_isHung 0 = .ok (.aload_n 3, 1) := by decide +kernel
theorem dL_isHung_1 : decode cL_isHung 1 = .ok (.iconst 0, 1) := by decide +kernel
theorem dL_isHung_2 : decode cL_isHung 2 = .ok (.aload_n 0, 1) := by decide +kernel
theorem dL_isHung_3 : decode cL_isHung 3 = .ok (.iload_n 1, 1) := by decide +kernel
theorem dL_isHung_4 : decode cL_isHung 4 = .ok (.iload_n 2, 1) := by decide +kernel
theorem dL_isHung_5 : decode cL_isHung 5 = .ok (.invokevirtual 35, 3) := by decide +kernel
theorem dL_isHung_20 : decode cL_isHung 20 = .ok (.astore 4, 2) := by decide +kernel
theorem dL_isHung_22 : decode cL_isHung 22 = .ok (.iconst 1, 1) := by decide +kernel
theorem dL_isHung_23 : decode cL_isHung 23 = .ok (.ireturn, 1) := by decide +kernel
theorem dL_isSound_0 : decode cL_isSound 0 = .ok (.aload_n 2, 1) := by decide +kernel
theorem dL_isSound_1 : decode cL_isSound 1 = .ok (.iconst 0, 1) := by decide +kernel
theorem dL_isSound_2 : decode cL_isSound 2 = .ok (.aload_n 0, 1) := by decide +kernel
theorem dL_isSound_3 : decode cL_isSound 3 = .ok (.iload_n 1, 1) := by decide +kernel
theorem dL_isSound_4 : decode cL_isSound 4 = .ok (.invokevirtual 138, 3) := by decide +kernel
theorem dL_isSound_7 : decode cL_isSound 7 = .ok (.ifCond .eq 7, 3) := by decide +kernel
theorem dL_isSound_10 : decode cL_isSound 10 = .ok (.lconst 1, 1) := by decide +kernel
theorem dL_isSound_11 : decode cL_isSound 11 = .ok (.goto 4, 3) := by decide +kernel
theorem dL_isSound_15 : decode cL_isSound 15 = .ok (.lastore, 1) := by decide +kernel
theorem dL_isSound_16 : decode cL_isSound 16 = .ok (.goto 6, 3) := by decide +kernel
theorem dL_isSound_19 : decode cL_isSound 19 = .ok (.astore_n 3, 1) := by decide +kernel
theorem dL_isSound_20 : decode cL_isSound 20 = .ok (.iconst 1, 1) := by decide +kernel
theorem dL_isSound_21 : decode cL_isSound 21 = .ok (.ireturn, 1) := by decide +kernel
theorem dL_isSound_22 : decode cL_isSound 22 = .ok (.iconst 0, 1) := by decide +kernel
theorem dL_isSound_23 : decode cL_isSound 23 = .ok (.ireturn, 1) := by decide +kernel
theorem dL_join_0 : decode cL_join 0 = .ok (.aload 4, 2) := by decide +kernel
theorem dL_join_2 : decode cL_join 2 = .ok (.iconst 0, 1) := by decide +kernel
theorem dL_join_3 : decode cL_join 3 = .ok (.aload_n 0, 1) := by decide +kernel
theorem dL_join_4 : decode cL_join 4 = .ok (.iload_n 1, 1) := by decide +kernel
theorem dL_join_5 : decode cL_join 5 = .ok (.iload_n 2, 1) := by decide +kernel
theorem dL_join_6 : decode cL_join 6 = .ok (.iload_n 3, 1) := by decide +kernel
theorem dL_join_7 : decode cL_join 7 = .ok (.invokevirtual 27, 3) := by decide +kernel
theorem dL_join_22 : decode cL_join 22 = .ok (.astore 5, 2) := by decide +kernel
theorem dL_join_24 : decode cL_join 24 = .ok (.iconst 1, 1) := by decide +kernel
theorem dL_join_25 : decode cL_join 25 = .ok (.ireturn, 1) := by decide +kernel
theorem dL_knows_0 : decode cL_knows 0 = .ok (.aload_n 3, 1) := by decide +kernel
theorem dL_knows_1 : decode cL_knows 1 = .ok (.iconst 0, 1) := by decide +kernel
theorem dL_knows_2 : decode cL_knows 2 = .ok (.aload_n 0, 1) := by decide +kernel
theorem dL_knows_3 : decode cL_knows 3 = .ok (.iload_n 1, 1) := by decide +kernel
theorem dL_knows_4 : decode cL_knows 4 = .ok (.iload_n 2, 1) := by decide +kernel
theorem dL_knows_5 : decode cL_knows 5 = .ok (.invokevirtual 104, 3) := by decide +kernel
theorem dL_knows_20 : decode cL_knows 20 = .ok (.astore 4, 2) := by decide +kernel
theorem dL_knows_22 : decode cL_knows 22 = .ok (.iconst 1, 1) := by decide +kernel
theorem dL_knows_23 : decode cL_knows 23 = .ok (.ireturn, 1) := by decide +kernel
theorem dL_lastChance_0 : decode cL_lastChance 0 = .ok (.aload_n 2, 1) := by decide +kernel
theorem dL_lastChance_1 : decode cL_lastChance 1 = .ok (.iconst 0, 1) := by decide +kernel
theorem dL_lastChance_2 : decode cL_lastChance 2 = .ok (.aload_n 0, 1) := by decide +kernel
theorem dL_lastChance_3 : decode cL_lastChance 3 = .ok (.iload_n 1, 1) := by decide +kernel
theorem dL_lastChance_4 : decode cL_lastChance 4 = .ok (.invokevirtual 125, 3) := by decide +kernel
theorem dL_lastChance_12 : decode cL_lastChance 12 = .ok (.astore_n 3, 1) := by decide +kernel
theorem dL_lastChance_13 : decode cL_lastChance 13 = .ok (.iconst 1, 1) := by decide +kernel
theorem dL_lastChance_14 : decode cL_lastChance 14 = .ok (.ireturn, 1) := by decide +kernel
theorem dL_length_0 : decode cL_length 0 = .ok (.aload_n 2, 1) := by decide +kernel
theorem dL_length_1 : decode cL_length 1 = .ok (.iconst 0, 1) := by decide +kernel
theorem dL_length_2 : decode cL_length 2 = .ok (.aload_n 0, 1) := by decide +kernel
theorem dL_length_3 : decode cL_length 3 = .ok (.iload_n 1, 1) := by decide +kernel
theorem dL_length_4 : decode cL_length 4 = .ok (.invokevirtual 62, 3) := by decide +kernel
theorem dL_length_7 : decode cL_length 7 = .ok (.i2l, 1) := by decide +kernel
theorem dL_length_8 : decode cL_length 8 = .ok (.lastore, 1) := by decide +kernel
theorem dL_length_9 : decode cL_length 9 = .ok (.goto 6, 3) := by decide +kernel
theorem dL_length_12 : decode cL_length 12 = .ok (.astore_n 3, 1) := by decide +kernel
theorem dL_length_13 : decode cL_length 13 = .ok (.iconst 1, 1) := by decide +kernel
theorem dL_length_14 : decode cL_length 14 = .ok (.ireturn, 1) := by decide +kernel
theorem dL_length_15 : decode cL_length 15 = .ok (.iconst 0, 1) := by decide +kernel
theorem dL_length_16 : decode cL_length 16 = .ok (.ireturn, 1) := by decide +kernel
theorem dL_loops_0 : decode cL_loops 0 = .ok (.aload_n 2, 1) := by decide +kernel
theorem dL_loops_1 : decode cL_loops 1 = .ok (.iconst 0, 1) := by decide +kernel
theorem dL_loops_2 : decode cL_loops 2 = .ok (.aload_n 0, 1) := by decide +kernel
theorem dL_loops_3 : decode cL_loops 3 = .ok (.iload_n 1, 1) := by decide +kernel
theorem dL_loops_4 : decode cL_loops 4 = .ok (.invokevirtual 47, 3) := by decide +kernel
theorem dL_loops_7 : decode cL_loops 7 = .ok (.i2l, 1) := by decide +kernel
theorem dL_loops_8 : decode cL_loops 8 = .ok (.lastore, 1) := by decide +kernel
theorem dL_loops_9 : decode cL_loops 9 = .ok (.goto 6, 3) := by decide +kernel
theorem dL_loops_12 : decode cL_loops 12 = .ok (.astore_n 3, 1) := by decide +kernel
theorem dL_loops_13 : decode cL_loops 13 = .ok (.iconst 1, 1) := by decide +kernel
theorem dL_loops_14 : decode cL_loops 14 = .ok (.ireturn, 1) := by decide +kernel
theorem dL_loops_15 : decode cL_loops 15 = .ok (.iconst 0, 1) := by decide +kernel
theorem dL_loops_16 : decode cL_loops 16 = .ok (.ireturn, 1) := by decide +kernel
theorem dL_meanRain_0 : decode cL_meanRain 0 = .ok (.aload_n 1, 1) := by decide +kernel
theorem dL_meanRain_1 : decode cL_meanRain 1 = .ok (.iconst 0, 1) := by decide +kernel
theorem dL_meanRain_2 : decode cL_meanRain 2 = .ok (.aload_n 0, 1) := by decide +kernel
theorem dL_meanRain_3 : decode cL_meanRain 3 = .ok (.invokevirtual 134, 3) := by decide +kernel
theorem dL_meanRain_10 : decode cL_meanRain 10 = .ok (.astore_n 2, 1) := by decide +kernel
theorem dL_meanRain_11 : decode cL_meanRain 11 = .ok (.iconst 1, 1) := by decide +kernel
theorem dL_meanRain_12 : decode cL_meanRain 12 = .ok (.ireturn, 1) := by decide +kernel
theorem dL_oneWith_0 : decode cL_oneWith 0 = .ok (.aload_n 3, 1) := by decide +kernel
theorem dL_oneWith_1 : decode cL_oneWith 1 = .ok (.iconst 0, 1) := by decide +kernel
theorem dL_oneWith_2 : decode cL_oneWith 2 = .ok (.aload_n 0, 1) := by decide +kernel
theorem dL_oneWith_3 : decode cL_oneWith 3 = .ok (.iload_n 1, 1) := by decide +kernel
theorem dL_oneWith_4 : decode cL_oneWith 4 = .ok (.iload_n 2, 1) := by decide +kernel
theorem dL_oneWith_5 : decode cL_oneWith 5 = .ok (.invokevirtual 31, 3) := by decide +kernel
theorem dL_oneWith_13 : decode cL_oneWith 13 = .ok (.astore 4, 2) := by decide +kernel
theorem dL_oneWith_15 : decode cL_oneWith 15 = .ok (.iconst 1, 1) := by decide +kernel
theorem dL_oneWith_16 : decode cL_oneWith 16 = .ok (.ireturn, 1) := by decide +kernel
theorem dL_party_0 : decode cL_party 0 = .ok (.aload_n 2, 1) := by decide +kernel
theorem dL_party_1 : decode cL_party 1 = .ok (.iconst 0, 1) := by decide +kernel
theorem dL_party_2 : decode cL_party 2 = .ok (.aload_n 0, 1) := by decide +kernel
theorem dL_party_3 : decode cL_party 3 = .ok (.iload_n 1, 1) := by decide +kernel
theorem dL_party_4 : decode cL_party 4 = .ok (.invokevirtual 98, 3) := by decide +kernel
theorem dL_party_12 : decode cL_party 12 = .ok (.astore_n 3, 1) := by decide +kernel
theorem dL_party_13 : decode cL_party 13 = .ok (.iconst 1, 1) := by decide +kernel
theorem dL_party_14 : decode cL_party 14 = .ok (.ireturn, 1) := by decide +kernel
theorem dL_pause_0 : decode cL_pause 0 = .ok (.aload_n 3, 1) := by decide +kernel
theorem dL_pause_1 : decode cL_pause 1 = .ok (.iconst 0, 1) := by decide +kernel
theorem dL_pause_2 : decode cL_pause 2 = .ok (.aload_n 0, 1) := by decide +kernel
theorem dL_pause_3 : decode cL_pause 3 = .ok (.iload_n 1, 1) := by decide +kernel
theorem dL_pause_4 : decode cL_pause 4 = .ok (.iload_n 2, 1) := by decide +kernel
theorem dL_pause_5 : decode cL_pause 5 = .ok (.invokevirtual 110, 3) := by decide +kernel
theorem dL_pause_13 : decode cL_pause 13 = .ok (.astore 4, 2) := by decide +kernel
theorem dL_pause_15 : decode cL_pause 15 = .ok (.iconst 1, 1) := by decide +kernel
theorem dL_pause_16 : decode cL_pause 16 = .ok (.ireturn, 1) := by decide +kernel
theorem dL_peak_0 : decode cL_peak 0 = .ok (.aload_n 2, 1) := by decide +kernel
theorem dL_peak_1 : decode cL_peak 1 = .ok (.iconst 0, 1) := by decide +kernel
theorem dL_peak_2 : decode cL_peak 2 = .ok (.aload_n 0, 1) := by decide +kernel
theorem dL_peak_3 : decode cL_peak 3 = .ok (.iload_n 1, 1) := by decide +kernel
theorem dL_peak_4 : decode cL_peak 4 = .ok (.invokevirtual 83, 3) := by decide +kernel
theorem dL_peak_12 : decode cL_peak 12 = .ok (.astore_n 3, 1) := by decide +kernel
theorem dL_peak_13 : decode cL_peak 13 = .ok (.iconst 1, 1) := by decide +kernel
theorem dL_peak_14 : decode cL_peak 14 = .ok (.ireturn, 1) := by decide +kernel
theorem dL_placeOf_0 : decode cL_placeOf 0 = .ok (.aload_n 2, 1) := by decide +kernel
theorem dL_placeOf_1 : decode cL_placeOf 1 = .ok (.iconst 0, 1) := by decide +kernel
theorem dL_placeOf_2 : decode cL_placeOf 2 = .ok (.aload_n 0, 1) := by decide +kernel
theorem dL_placeOf_3 : decode cL_placeOf 3 = .ok (.iload_n 1, 1) := by decide +kernel
theorem dL_placeOf_4 : decode cL_placeOf 4 = .ok (.invokevirtual 113, 3) := by decide +kernel
theorem dL_placeOf_12 : decode cL_placeOf 12 = .ok (.astore_n 3, 1) := by decide +kernel
theorem dL_placeOf_13 : decode cL_placeOf 13 = .ok (.iconst 1, 1) := by decide +kernel
theorem dL_placeOf_14 : decode cL_placeOf 14 = .ok (.ireturn, 1) := by decide +kernel
theorem dL_plan_0 : decode cL_plan 0 = .ok (.aload_n 2, 1) := by decide +kernel
theorem dL_plan_1 : decode cL_plan 1 = .ok (.iconst 0, 1) := by decide +kernel
theorem dL_plan_2 : decode cL_plan 2 = .ok (.aload_n 0, 1) := by decide +kernel
theorem dL_plan_3 : decode cL_plan 3 = .ok (.iload_n 1, 1) := by decide +kernel
theorem dL_plan_4 : decode cL_plan 4 = .ok (.invokevirtual 119, 3) := by decide +kernel
theorem dL_plan_12 : decode cL_plan 12 = .ok (.astore_n 3, 1) := by decide +kernel
theorem dL_plan_13 : decode cL_plan 13 = .ok (.iconst 1, 1) := by decide +kernel
theorem dL_plan_14 : decode cL_plan 14 = .ok (.ireturn, 1) := by decide +kernel
theorem dL_planAt_0 : decode cL_planAt 0 = .ok (.aload_n 3, 1) := by decide +kernel
theorem dL_planAt_1 : decode cL_planAt 1 = .ok (.iconst 0, 1) := by decide +kernel
theorem dL_planAt_2 : decode cL_planAt 2 = .ok (.aload_n 0, 1) := by decide +kernel
theorem dL_planAt_3 : decode cL_planAt 3 = .ok (.iload_n 1, 1) := by decide +kernel
theorem dL_planAt_4 : decode cL_planAt 4 = .ok (.iload_n 2, 1) := by decide +kernel
theorem dL_planAt_5 : decode cL_planAt 5 = .ok (.invokevirtual 122, 3) := by decide +kernel
theorem dL_planAt_13 : decode cL_planAt 13 = .ok (.astore 4, 2) := by decide +kernel
theorem dL_planAt_15 : decode cL_planAt 15 = .ok (.iconst 1, 1) := by decide +kernel
theorem dL_planAt_16 : decode cL_planAt 16 = .ok (.ireturn, 1) := by decide +kernel
theorem dL_rain_0 : decode cL_rain 0 = .ok (.aload_n 3, 1) := by decide +kernel
theorem dL_rain_1 : decode cL_rain 1 = .ok (.iconst 0, 1) := by decide +kernel
theorem dL_rain_2 : decode cL_rain 2 = .ok (.aload_n 0, 1) := by decide +kernel
theorem dL_rain_3 : decode cL_rain 3 = .ok (.iload_n 1, 1) := by decide +kernel
theorem dL_rain_4 : decode cL_rain 4 = .ok (.iload_n 2, 1) := by decide +kernel
theorem dL_rain_5 : decode cL_rain 5 = .ok (.invokevirtual 86, 3) := by decide +kernel
theorem dL_rain_8 : decode cL_rain 8 = .ok (.i2l, 1) := by decide +kernel
theorem dL_rain_9 : decode cL_rain 9 = .ok (.lastore, 1) := by decide +kernel
theorem dL_rain_10 : decode cL_rain 10 = .ok (.goto 7, 3) := by decide +kernel
theorem dL_rain_13 : decode cL_rain 13 = .ok (.astore 4, 2) := by decide +kernel
theorem dL_rain_15 : decode cL_rain 15 = .ok (.iconst 1, 1) := by decide +kernel
theorem dL_rain_16 : decode cL_rain 16 = .ok (.ireturn, 1) := by decide +kernel
theorem dL_rain_17 : decode cL_rain 17 = .ok (.iconst 0, 1) := by decide +kernel
theorem dL_rain_18 : decode cL_rain 18 = .ok (.ireturn, 1) := by decide +kernel
theorem dL_setAside_0 : decode cL_setAside 0 = .ok (.aload_n 3, 1) := by decide +kernel
theorem dL_setAside_1 : decode cL_setAside 1 = .ok (.iconst 0, 1) := by decide +kernel
theorem dL_setAside_2 : decode cL_setAside 2 = .ok (.aload_n 0, 1) := by decide +kernel
theorem dL_setAside_3 : decode cL_setAside 3 = .ok (.iload_n 1, 1) := by decide +kernel
theorem dL_setAside_4 : decode cL_setAside 4 = .ok (.iload_n 2, 1) := by decide +kernel
theorem dL_setAside_5 : decode cL_setAside 5 = .ok (.invokevirtual 23, 3) := by decide +kernel
theorem dL_setAside_20 : decode cL_setAside 20 = .ok (.astore 4, 2) := by decide +kernel
theorem dL_setAside_22 : decode cL_setAside 22 = .ok (.iconst 1, 1) := by decide +kernel
theorem dL_setAside_23 : decode cL_setAside 23 = .ok (.ireturn, 1) := by decide +kernel
theorem dL_setHeight_0 : decode cL_setHeight 0 = .ok (.aload_n 3, 1) := by decide +kernel
theorem dL_setHeight_1 : decode cL_setHeight 1 = .ok (.iconst 0, 1) := by decide +kernel
theorem dL_setHeight_2 : decode cL_setHeight 2 = .ok (.aload_n 0, 1) := by decide +kernel
theorem dL_setHeight_3 : decode cL_setHeight 3 = .ok (.iload_n 1, 1) := by decide +kernel
theorem dL_setHeight_4 : decode cL_setHeight 4 = .ok (.iload_n 2, 1) := by decide +kernel
theorem dL_setHeight_5 : decode cL_setHeight 5 = .ok (.invokevirtual 68, 3) := by decide +kernel
theorem dL_setHeight_13 : decode cL_setHeight 13 = .ok (.astore 4, 2) := by decide +kernel
theorem dL_setHeight_15 : decode cL_setHeight 15 = .ok (.iconst 1, 1) := by decide +kernel
theorem dL_setHeight_16 : decode cL_setHeight 16 = .ok (.ireturn, 1) := by decide +kernel
theorem dL_shot_0 : decode cL_shot 0 = .ok (.aload 9, 2) := by decide +kernel
theorem dL_shot_2 : decode cL_shot 2 = .ok (.iconst 0, 1) := by decide +kernel
theorem dL_shot_3 : decode cL_shot 3 = .ok (.aload_n 0, 1) := by decide +kernel
theorem dL_shot_4 : decode cL_shot 4 = .ok (.iload_n 1, 1) := by decide +kernel
theorem dL_shot_5 : decode cL_shot 5 = .ok (.iload_n 2, 1) := by decide +kernel
theorem dL_shot_6 : decode cL_shot 6 = .ok (.iload_n 3, 1) := by decide +kernel
theorem dL_shot_7 : decode cL_shot 7 = .ok (.iload 4, 2) := by decide +kernel
theorem dL_shot_9 : decode cL_shot 9 = .ok (.iload 5, 2) := by decide +kernel
theorem dL_shot_11 : decode cL_shot 11 = .ok (.iload 6, 2) := by decide +kernel
theorem dL_shot_13 : decode cL_shot 13 = .ok (.iload 7, 2) := by decide +kernel
theorem dL_shot_15 : decode cL_shot 15 = .ok (.iload 8, 2) := by decide +kernel
theorem dL_shot_17 : decode cL_shot 17 = .ok (.invokevirtual 15, 3) := by decide +kernel
theorem dL_shot_25 : decode cL_shot 25 = .ok (.astore 10, 2) := by decide +kernel
theorem dL_shot_27 : decode cL_shot 27 = .ok (.iconst 1, 1) := by decide +kernel
theorem dL_shot_28 : decode cL_shot 28 = .ok (.ireturn, 1) := by decide +kernel
theorem dL_station_0 : decode cL_station 0 = .ok (.aload_n 1, 1) := by decide +kernel
theorem dL_station_1 : decode cL_station 1 = .ok (.iconst 0, 1) := by decide +kernel
theorem dL_station_2 : decode cL_station 2 = .ok (.aload_n 0, 1) := by decide +kernel
theorem dL_station_3 : decode cL_station 3 = .ok (.invokevirtual 7, 3) := by decide +kernel
theorem dL_station_6 : decode cL_station 6 = .ok (.i2l, 1) := by decide +kernel
theorem dL_station_7 : decode cL_station 7 = .ok (.lastore, 1) := by decide +kernel
theorem dL_station_8 : decode cL_station 8 = .ok (.goto 6, 3) := by decide +kernel
theorem dL_station_14 : decode cL_station 14 = .ok (.iconst 0, 1) := by decide +kernel
theorem dL_station_15 : decode cL_station 15 = .ok (.ireturn, 1) := by decide +kernel
theorem dL_sump_0 : decode cL_sump 0 = .ok (.aload_n 3, 1) := by decide +kernel
theorem dL_sump_1 : decode cL_sump 1 = .ok (.iconst 0, 1) := by decide +kernel
theorem dL_sump_2 : decode cL_sump 2 = .ok (.aload_n 0, 1) := by decide +kernel
theorem dL_sump_3 : decode cL_sump 3 = .ok (.iload_n 1, 1) := by decide +kernel
theorem dL_sump_4 : decode cL_sump 4 = .ok (.iload_n 2, 1) := by decide +kernel
theorem dL_sump_5 : decode cL_sump 5 = .ok (.invokevirtual 92, 3) := by decide +kernel
theorem dL_sump_13 : decode cL_sump 13 = .ok (.astore 4, 2) := by decide +kernel
theorem dL_sump_15 : decode cL_sump 15 = .ok (.iconst 1, 1) := by decide +kernel
theorem dL_sump_16 : decode cL_sump 16 = .ok (.ireturn, 1) := by decide +kernel
theorem dL_tell_0 : decode cL_tell 0 = .ok (.aload_n 3, 1) := by decide +kernel
theorem dL_tell_1 : decode cL_tell 1 = .ok (.iconst 0, 1) := by decide +kernel
theorem dL_tell_2 : decode cL_tell 2 = .ok (.aload_n 0, 1) := by decide +kernel
theorem dL_tell_3 : decode cL_tell 3 = .ok (.iload_n 1, 1) := by decide +kernel
theorem dL_tell_4 : decode cL_tell 4 = .ok (.iload_n 2, 1) := by decide +kernel
theorem dL_tell_5 : decode cL_tell 5 = .ok (.invokevirtual 101, 3) := by decide +kernel
theorem dL_tell_13 : decode cL_tell 13 = .ok (.astore 4, 2) := by decide +kernel
theorem dL_tell_15 : decode cL_tell 15 = .ok (.iconst 1, 1) := by decide +kernel
theorem dL_tell_16 : decode cL_tell 16 = .ok (.ireturn, 1) := by decide +kernel
theorem dL_top_0 : decode cL_top 0 = .ok (.aload 4, 2) := by decide +kernel
theorem dL_top_2 : decode cL_top 2 = .ok (.iconst 0, 1) := by decide +kernel
theorem dL_top_3 : decode cL_top 3 = .ok (.aload_n 0, 1) := by decide +kernel
theorem dL_top_4 : decode cL_top 4 = .ok (.iload_n 1, 1) := by decide +kernel
theorem dL_top_5 : decode cL_top 5 = .ok (.iload_n 2, 1) := by decide +kernel
theorem dL_top_6 : decode cL_top 6 = .ok (.iload_n 3, 1) := by decide +kernel
theorem dL_top_7 : decode cL_top 7 = .ok (.invokevirtual 38, 3) := by decide +kernel
theorem dL_top_14 : decode cL_top 14 = .ok (.astore 5, 2) := by decide +kernel
theorem dL_top_16 : decode cL_top 16 = .ok (.iconst 1, 1) := by decide +kernel
theorem dL_top_17 : decode cL_top 17 = .ok (.ireturn, 1) := by decide +kernel
theorem dL_trace_0 : decode cL_trace 0 = .ok (.aload_n 3, 1) := by decide +kernel
theorem dL_trace_1 : decode cL_trace 1 = .ok (.iconst 0, 1) := by decide +kernel
theorem dL_trace_2 : decode cL_trace 2 = .ok (.aload_n 0, 1) := by decide +kernel
theorem dL_trace_3 : decode cL_trace 3 = .ok (.iload_n 1, 1) := by decide +kernel
theorem dL_trace_4 : decode cL_trace 4 = .ok (.iload_n 2, 1) := by decide +kernel
theorem dL_trace_5 : decode cL_trace 5 = .ok (.invokevirtual 77, 3) := by decide +kernel
theorem dL_trace_13 : decode cL_trace 13 = .ok (.astore 4, 2) := by decide +kernel
theorem dL_trace_15 : decode cL_trace 15 = .ok (.iconst 1, 1) := by decide +kernel
theorem dL_trace_16 : decode cL_trace 16 = .ok (.ireturn, 1) := by decide +kernel
theorem dL_traced_0 : decode cL_traced 0 = .ok (.aload_n 3, 1) := by decide +kernel
theorem dL_traced_1 : decode cL_traced 1 = .ok (.iconst 0, 1) := by decide +kernel
theorem dL_traced_2 : decode cL_traced 2 = .ok (.aload_n 0, 1) := by decide +kernel
theorem dL_traced_3 : decode cL_traced 3 = .ok (.iload_n 1, 1) := by decide +kernel
theorem dL_traced_4 : decode cL_traced 4 = .ok (.iload_n 2, 1) := by decide +kernel
theorem dL_traced_5 : decode cL_traced 5 = .ok (.invokevirtual 80, 3) := by decide +kernel
theorem dL_traced_13 : decode cL_traced 13 = .ok (.astore 4, 2) := by decide +kernel
theorem dL_traced_15 : decode cL_traced 15 = .ok (.iconst 1, 1) := by decide +kernel
theorem dL_traced_16 : decode cL_traced 16 = .ok (.ireturn, 1) := by decide +kernel
theorem dL_water_0 : decode cL_water 0 = .ok (.aload_n 2, 1) := by decide +kernel
theorem dL_water_1 : decode cL_water 1 = .ok (.iconst 0, 1) := by decide +kernel
theorem dL_water_2 : decode cL_water 2 = .ok (.aload_n 0, 1) := by decide +kernel
theorem dL_water_3 : decode cL_water 3 = .ok (.iload_n 1, 1) := by decide +kernel
theorem dL_water_4 : decode cL_water 4 = .ok (.invokevirtual 89, 3) := by decide +kernel
theorem dL_water_7 : decode cL_water 7 = .ok (.i2l, 1) := by decide +kernel
theorem dL_water_8 : decode cL_water 8 = .ok (.lastore, 1) := by decide +kernel
theorem dL_water_9 : decode cL_water 9 = .ok (.goto 6, 3) := by decide +kernel
theorem dL_water_12 : decode cL_water 12 = .ok (.astore_n 3, 1) := by decide +kernel
theorem dL_water_13 : decode cL_water 13 = .ok (.iconst 1, 1) := by decide +kernel
theorem dL_water_14 : decode cL_water 14 = .ok (.ireturn, 1) := by decide +kernel
theorem dL_water_15 : decode cL_water 15 = .ok (.iconst 0, 1) := by decide +kernel
theorem dL_water_16 : decode cL_water 16 = .ok (.ireturn, 1) := by decide +kernel

theorem z_one {f g : Nat → Int64} (h : f 0 = g 0) : ∀ j, j < 1 → f j = g j := by
  intro j hj
  obtain rfl : j = 0 := by omega
  exact h
set_option maxHeartbeats 4000000 in
set_option maxRecDepth 100000 in
/-- the law's call of shot: it throws -/
theorem w_shot (l : Launch) (hlt : l.stackTraces = false) (D : va_G) (cy : Nat → ClassId) (h0 : Nat) (vC : Nat) (vP : Nat) (vT : Nat) (vS : Nat) (vF : Nat) (vN : Nat) (vY : Nat) (sS : Nat) (sJ : Nat) (a1 : Int32) (a2 : Int32) (a3 : Int32) (a4 : Int32) (a5 : Int32) (a6 : Int32) (a7 : Int32) (a8 : Int32) (o1 : Nat) (sz : Nat)  : Met l yL_shot (wzW yL_shot cL_shot 11 (some .int) [(0, 22, 25, 19), (0, 22, 29, 21), (0, 22, 33, 13)]) ({ frames := 8, cells := 1, slots := 6, locals := 132 } : Room) (va_Pc [.ref h0, .int a1, .int a2, .int a3, .int a4, .int a5, .int a6, .int a7, .int a8, .ref o1] (zPre vwCl D cy [(h0, .inr (12, [.ref vC, .ref vP, .ref vT, .ref vS, .ref vF, .ref vN, .ref vY, .int 0])), (vC, .inr (3, [.ref sS, .ref sJ, .int 0, .int 0]))] sz)) (va_Qi (fun (r : Int32) (_ : Unit) => r = 1) (fun (u : Unit) t => zPost vwCl D (va_A [(h0, .inr (12, [.ref vC, .ref vP, .ref vT, .ref vS, .ref vF, .ref vN, .ref vY, .int 0])), (vC, .inr (3, [.ref sS, .ref sJ, .int 0, .int 0]))] sz) [] t) (va_A [(h0, .inr (12, [.ref vC, .ref vP, .ref vT, .ref vS, .ref vF, .ref vN, .ref vY, .int 0])), (vC, .inr (3, [.ref sS, .ref sJ, .int 0, .int 0]))] sz)) 1 6 (va_A [(h0, .inr (12, [.ref vC, .ref vP, .ref vT, .ref vS, .ref vF, .ref vN, .ref vY, .int 0])), (vC, .inr (3, [.ref sS, .ref sJ, .int 0, .int 0]))] sz) := by
  refine va_MetW (cc := cL_shot) (maxL := 11) (ret := (some .int)) (hh := [(0, 22, 25, 19), (0, 22, 29, 21), (0, 22, 33, 13)]) (by decide) rfl ?_
  intro p e s m args below meth c s₁ B hml hv
  obtain ⟨rfl, hsz, hP, hK, hD0, hX, hY⟩ := hv
  have hx := B.exec
  have hb := B.bytes
  have hr := B.returns
  have hts0 := atoms_spec (ws := wzW yL_shot cL_shot 11 (some .int) [(0, 22, 25, 19), (0, 22, 29, 21), (0, 22, 33, 13)]) B.pre
  have hts : ∀ w ∈ wAll, w.before _ s = true := fun w h => hts0 w (List.mem_cons_of_mem _ h)
  have hown : s.vm.findClass RL = some m.cls := findClass_of_methodNamed B.named
  have hlocks := B.notSynchronized
  have htab := vx_table (x := yL_shot) B (hts0 _ List.mem_cons_self)
  subst hsz
  have hD := hD0.self (sz := s.heap.size)
  generalize hAe : va_A [(h0, .inr (12, [.ref vC, .ref vP, .ref vT, .ref vS, .ref vF, .ref vN, .ref vY, .int 0])), (vC, .inr (3, [.ref sS, .ref sJ, .int 0, .int 0]))] s.heap.size = A at hD hY ⊢
  have hA : ∀ q : Nat, s.heap.size ≤ q → A q := fun q h => by rw [← hAe]; exact Or.inr h
  have hS : va_S A s.heap s.heap [] := va_S.rf
  have hP : va_P D vwCl [(h0, .inr (12, [.ref vC, .ref vP, .ref vT, .ref vS, .ref vF, .ref vN, .ref vY, .int 0])), (vC, .inr (3, [.ref sS, .ref sJ, .int 0, .int 0]))] s.heap := hP
  have hl := lv_entry ([.ref h0, .int a1, .int a2, .int a3, .int a4, .int a5, .int a6, .int a7, .int a8, .ref o1]) (n := 11) (Nat.le_of_ble_eq_true rfl)
  rw [lg_entry_eq]
  generalize (lg_sl ([.ref h0, .int a1, .int a2, .int a3, .int a4, .int a5, .int a6, .int a7, .int a8, .ref o1]) ++ List.replicate (11 - (lg_sl ([.ref h0, .int a1, .int a2, .int a3, .int a4, .int a5, .int a6, .int a7, .int a8, .ref o1])).length) Slot.unset).toArray = ls at hl ⊢
  have hl : lv_has ls 11 [(0, .ref h0), (1, .int a1), (2, .int a2), (3, .int a3), (4, .int a4), (5, .int a5), (6, .int a6), (7, .int a7), (8, .int a8), (9, .ref o1)] := hl
  refine z_anyQ (fun Q hQe => ?_)
  refine lv_aload hx hb dL_shot_0 (lv_at hl 9 rfl) ?_
  refine lv_iconst (v := 0) hx hb dL_shot_2 (by decide) ?_
  refine lv_aload_n hx hb dL_shot_3 rfl (lv_at hl 0 rfl) ?_
  refine lv_iload_n hx hb dL_shot_4 rfl (lv_at hl 1 rfl) ?_
  refine lv_iload_n hx hb dL_shot_5 rfl (lv_at hl 2 rfl) ?_
  refine lv_iload_n hx hb dL_shot_6 rfl (lv_at hl 3 rfl) ?_
  refine lv_iload hx hb dL_shot_7 (lv_at hl 4 rfl) ?_
  refine lv_iload hx hb dL_shot_9 (lv_at hl 5 rfl) ?_
  refine lv_iload hx hb dL_shot_11 (lv_at hl 6 rfl) ?_
  refine lv_iload hx hb dL_shot_13 (lv_at hl 7 rfl) ?_
  refine lv_iload hx hb dL_shot_15 (lv_at hl 8 rfl) ?_
  refine zx_catch (wc := [(h0, .inr (12, [.ref vC, .ref vP, .ref vT, .ref vS, .ref vF, .ref vN, .ref vY, .int 0])), (vC, .inr (3, [.ref sS, .ref sJ, .int 0, .int 0]))]) (wr := []) (vx_runV (As := [.int a1, .int a2, .int a3, .int a4, .int a5, .int a6, .int a7, .int a8]) (rest := [.int 0, .ref o1]) ⟨hx, hb, hml, hown, hts⟩ (f_shot l hlt D cy h0 vC vP vT vS vF vN vY sS sJ a1 a2 a3 a4 a5 a6 a7 a8 s.heap.size ) (cwV 8 hts (gzV (gz q404) q403 q405 q406 q174) rfl rfl rfl vX9_shot ⟨Nat.le_of_ble_eq_true rfl, Nat.le_of_ble_eq_true rfl⟩) (zpV (ci := 12) (T := TX9) (N := 8) (q0 := 0) hK hX hY hP hD hS hA [0, 1] (by decide) rfl rfl rfl) rfl rfl hl.1 rfl (lv_room (Nat.le_of_ble_eq_true rfl)) dL_shot_17 ⟨Nat.le_of_ble_eq_true rfl, Nat.le_of_ble_eq_true rfl⟩) hP hD hS hA [0, 1] [] rfl rfl (by decide) (by decide) hown [] ⟨0, 22, 25, 19⟩ [⟨0, 22, 29, 21⟩, ⟨0, 22, 33, 13⟩] htab (fun z hz => by cases hz) rfl (by decide) (hts _ q407) hX.1.1.1 (fun q9 H locs hP hD hS => ?_)
  have hP : va_P D vwCl [] H := hP
  have hD : va_D A [] := hD
  refine W.widen (k := 1) (n := 6) (by omega) (by omega) ?_
  refine lv_astore (lv' := [(10, .ref q9), (0, .ref h0), (1, .int a1), (2, .int a2), (3, .int a3), (4, .int a4), (5, .int a5), (6, .int a6), (7, .int a7), (8, .int a8), (9, .ref o1)]) hx hb dL_shot_25 hl (by decide) rfl (fun ls hl => ?_)
  refine lv_iconst (v := 1) hx hb dL_shot_27 (by decide) ?_
  have hP9 := hP.sub (ws' := []) [] rfl
  have hD9 := hD.sub (ws' := []) [] (by decide) rfl
  refine W.widen (k := 1) (n := 6) (Nat.le_of_ble_eq_true rfl) (Nat.le_of_ble_eq_true rfl) ?_
  rw [hQe]
  exact W.iret (v := 1) hx hb hr (fun t ht hW => ⟨⟨1, (), rfl, rfl, ⟨by rw [ht]; exact hP9, hD9⟩⟩, hS.F ht⟩) hS.2.2 dL_shot_28
set_option maxHeartbeats 4000000 in
set_option maxRecDepth 100000 in
/-- the law's call of setAside: it throws -/
theorem w_setAside (l : Launch) (hlt : l.stackTraces = false) (D : va_G) (cy : Nat → ClassId) (h0 : Nat) (vC : Nat) (vP : Nat) (vT : Nat) (vS : Nat) (vF : Nat) (vN : Nat) (vY : Nat) (sS : Nat) (sJ : Nat) (a1 : Int32) (a2 : Int32) (o1 : Nat) (sz : Nat)  : Met l yL_setAside (wzW yL_setAside cL_setAside 5 (some .int) [(0, 17, 20, 19), (0, 17, 24, 21)]) ({ frames := 8, cells := 1, slots := 6, locals := 127 } : Room) (va_Pc [.ref h0, .int a1, .int a2, .ref o1] (zPre vwCl D cy [(h0, .inr (12, [.ref vC, .ref vP, .ref vT, .ref vS, .ref vF, .ref vN, .ref vY, .int 0])), (vC, .inr (3, [.ref sS, .ref sJ, .int 0, .int 0]))] sz)) (va_Qi (fun (r : Int32) (_ : Unit) => r = 1) (fun (u : Unit) t => zPost vwCl D (va_A [(h0, .inr (12, [.ref vC, .ref vP, .ref vT, .ref vS, .ref vF, .ref vN, .ref vY, .int 0])), (vC, .inr (3, [.ref sS, .ref sJ, .int 0, .int 0]))] sz) [] t) (va_A [(h0, .inr (12, [.ref vC, .ref vP, .ref vT, .ref vS, .ref vF, .ref vN, .ref vY, .int 0])), (vC, .inr (3, [.ref sS, .ref sJ, .int 0, .int 0]))] sz)) 1 6 (va_A [(h0, .inr (12, [.ref vC, .ref vP, .ref vT, .ref vS, .ref vF, .ref vN, .ref vY, .int 0])), (vC, .inr (3, [.ref sS, .ref sJ, .int 0, .int 0]))] sz) := by
  refine va_MetW (cc := cL_setAside) (maxL := 5) (ret := (some .int)) (hh := [(0, 17, 20, 19), (0, 17, 24, 21)]) (by decide) rfl ?_
  intro p e s m args below meth c s₁ B hml hv
  obtain ⟨rfl, hsz, hP, hK, hD0, hX, hY⟩ := hv
  have hx := B.exec
  have hb := B.bytes
  have hr := B.returns
  have hts0 := atoms_spec (ws := wzW yL_setAside cL_setAside 5 (some .int) [(0, 17, 20, 19), (0, 17, 24, 21)]) B.pre
  have hts : ∀ w ∈ wAll, w.before _ s = true := fun w h => hts0 w (List.mem_cons_of_mem _ h)
  have hown : s.vm.findClass RL = some m.cls := findClass_of_methodNamed B.named
  have hlocks := B.notSynchronized
  have htab := vx_table (x := yL_setAside) B (hts0 _ List.mem_cons_self)
  subst hsz
  have hD := hD0.self (sz := s.heap.size)
  generalize hAe : va_A [(h0, .inr (12, [.ref vC, .ref vP, .ref vT, .ref vS, .ref vF, .ref vN, .ref vY, .int 0])), (vC, .inr (3, [.ref sS, .ref sJ, .int 0, .int 0]))] s.heap.size = A at hD hY ⊢
  have hA : ∀ q : Nat, s.heap.size ≤ q → A q := fun q h => by rw [← hAe]; exact Or.inr h
  have hS : va_S A s.heap s.heap [] := va_S.rf
  have hP : va_P D vwCl [(h0, .inr (12, [.ref vC, .ref vP, .ref vT, .ref vS, .ref vF, .ref vN, .ref vY, .int 0])), (vC, .inr (3, [.ref sS, .ref sJ, .int 0, .int 0]))] s.heap := hP
  have hl := lv_entry ([.ref h0, .int a1, .int a2, .ref o1]) (n := 5) (Nat.le_of_ble_eq_true rfl)
  rw [lg_entry_eq]
  generalize (lg_sl ([.ref h0, .int a1, .int a2, .ref o1]) ++ List.replicate (5 - (lg_sl ([.ref h0, .int a1, .int a2, .ref o1])).length) Slot.unset).toArray = ls at hl ⊢
  have hl : lv_has ls 5 [(0, .ref h0), (1, .int a1), (2, .int a2), (3, .ref o1)] := hl
  refine z_anyQ (fun Q hQe => ?_)
  refine lv_aload_n hx hb dL_setAside_0 rfl (lv_at hl 3 rfl) ?_
  refine lv_iconst (v := 0) hx hb dL_setAside_1 (by decide) ?_
  refine lv_aload_n hx hb dL_setAside_2 rfl (lv_at hl 0 rfl) ?_
  refine lv_iload_n hx hb dL_setAside_3 rfl (lv_at hl 1 rfl) ?_
  refine lv_iload_n hx hb dL_setAside_4 rfl (lv_at hl 2 rfl) ?_
  refine zx_catch (wc := [(h0, .inr (12, [.ref vC, .ref vP, .ref vT, .ref vS, .ref vF, .ref vN, .ref vY, .int 0])), (vC, .inr (3, [.ref sS, .ref sJ, .int 0, .int 0]))]) (wr := []) (vx_runV (As := [.int a1, .int a2]) (rest := [.int 0, .ref o1]) ⟨hx, hb, hml, hown, hts⟩ (f_setAside l hlt D cy h0 vC vP vT vS vF vN vY sS sJ a1 a2 s.heap.size ) (cwV 2 hts (gzV (gz q409) q408 q410 q411 q174) rfl rfl rfl vX9_setAside ⟨Nat.le_of_ble_eq_true rfl, Nat.le_of_ble_eq_true rfl⟩) (zpV (ci := 12) (T := TX9) (N := 8) (q0 := 0) hK hX hY hP hD hS hA [0, 1] (by decide) rfl rfl rfl) rfl rfl hl.1 rfl (lv_room (Nat.le_of_ble_eq_true rfl)) dL_setAside_5 ⟨Nat.le_of_ble_eq_true rfl, Nat.le_of_ble_eq_true rfl⟩) hP hD hS hA [0, 1] [] rfl rfl (by decide) (by decide) hown [] ⟨0, 17, 20, 19⟩ [⟨0, 17, 24, 21⟩] htab (fun z hz => by cases hz) rfl (by decide) (hts _ q407) hX.1.1.1 (fun q9 H locs hP hD hS => ?_)
  have hP : va_P D vwCl [] H := hP
  have hD : va_D A [] := hD
  refine W.widen (k := 1) (n := 6) (by omega) (by omega) ?_
  refine lv_astore (lv' := [(4, .ref q9), (0, .ref h0), (1, .int a1), (2, .int a2), (3, .ref o1)]) hx hb dL_setAside_20 hl (by decide) rfl (fun ls hl => ?_)
  refine lv_iconst (v := 1) hx hb dL_setAside_22 (by decide) ?_
  have hP9 := hP.sub (ws' := []) [] rfl
  have hD9 := hD.sub (ws' := []) [] (by decide) rfl
  refine W.widen (k := 1) (n := 6) (Nat.le_of_ble_eq_true rfl) (Nat.le_of_ble_eq_true rfl) ?_
  rw [hQe]
  exact W.iret (v := 1) hx hb hr (fun t ht hW => ⟨⟨1, (), rfl, rfl, ⟨by rw [ht]; exact hP9, hD9⟩⟩, hS.F ht⟩) hS.2.2 dL_setAside_23
set_option maxHeartbeats 4000000 in
set_option maxRecDepth 100000 in
/-- the law's call of join: it throws -/
theorem w_join (l : Launch) (hlt : l.stackTraces = false) (D : va_G) (cy : Nat → ClassId) (h0 : Nat) (vC : Nat) (vP : Nat) (vT : Nat) (vS : Nat) (vF : Nat) (vN : Nat) (vY : Nat) (sS : Nat) (sJ : Nat) (a1 : Int32) (a2 : Int32) (a3 : Int32) (o1 : Nat) (sz : Nat)  : Met l yL_join (wzW yL_join cL_join 6 (some .int) [(0, 19, 22, 19), (0, 19, 26, 21), (0, 19, 30, 13)]) ({ frames := 8, cells := 1, slots := 6, locals := 127 } : Room) (va_Pc [.ref h0, .int a1, .int a2, .int a3, .ref o1] (zPre vwCl D cy [(h0, .inr (12, [.ref vC, .ref vP, .ref vT, .ref vS, .ref vF, .ref vN, .ref vY, .int 0])), (vC, .inr (3, [.ref sS, .ref sJ, .int 0, .int 0]))] sz)) (va_Qi (fun (r : Int32) (_ : Unit) => r = 1) (fun (u : Unit) t => zPost vwCl D (va_A [(h0, .inr (12, [.ref vC, .ref vP, .ref vT, .ref vS, .ref vF, .ref vN, .ref vY, .int 0])), (vC, .inr (3, [.ref sS, .ref sJ, .int 0, .int 0]))] sz) [] t) (va_A [(h0, .inr (12, [.ref vC, .ref vP, .ref vT, .ref vS, .ref vF, .ref vN, .ref vY, .int 0])), (vC, .inr (3, [.ref sS, .ref sJ, .int 0, .int 0]))] sz)) 1 6 (va_A [(h0, .inr (12, [.ref vC, .ref vP, .ref vT, .ref vS, .ref vF, .ref vN, .ref vY, .int 0])), (vC, .inr (3, [.ref sS, .ref sJ, .int 0, .int 0]))] sz) := by
  refine va_MetW (cc := cL_join) (maxL := 6) (ret := (some .int)) (hh := [(0, 19, 22, 19), (0, 19, 26, 21), (0, 19, 30, 13)]) (by decide) rfl ?_
  intro p e s m args below meth c s₁ B hml hv
  obtain ⟨rfl, hsz, hP, hK, hD0, hX, hY⟩ := hv
  have hx := B.exec
  have hb := B.bytes
  have hr := B.returns
  have hts0 := atoms_spec (ws := wzW yL_join cL_join 6 (some .int) [(0, 19, 22, 19), (0, 19, 26, 21), (0, 19, 30, 13)]) B.pre
  have hts : ∀ w ∈ wAll, w.before _ s = true := fun w h => hts0 w (List.mem_cons_of_mem _ h)
  have hown : s.vm.findClass RL = some m.cls := findClass_of_methodNamed B.named
  have hlocks := B.notSynchronized
  have htab := vx_table (x := yL_join) B (hts0 _ List.mem_cons_self)
  subst hsz
  have hD := hD0.self (sz := s.heap.size)
  generalize hAe : va_A [(h0, .inr (12, [.ref vC, .ref vP, .ref vT, .ref vS, .ref vF, .ref vN, .ref vY, .int 0])), (vC, .inr (3, [.ref sS, .ref sJ, .int 0, .int 0]))] s.heap.size = A at hD hY ⊢
  have hA : ∀ q : Nat, s.heap.size ≤ q → A q := fun q h => by rw [← hAe]; exact Or.inr h
  have hS : va_S A s.heap s.heap [] := va_S.rf
  have hP : va_P D vwCl [(h0, .inr (12, [.ref vC, .ref vP, .ref vT, .ref vS, .ref vF, .ref vN, .ref vY, .int 0])), (vC, .inr (3, [.ref sS, .ref sJ, .int 0, .int 0]))] s.heap := hP
  have hl := lv_entry ([.ref h0, .int a1, .int a2, .int a3, .ref o1]) (n := 6) (Nat.le_of_ble_eq_true rfl)
  rw [lg_entry_eq]
  generalize (lg_sl ([.ref h0, .int a1, .int a2, .int a3, .ref o1]) ++ List.replicate (6 - (lg_sl ([.ref h0, .int a1, .int a2, .int a3, .ref o1])).length) Slot.unset).toArray = ls at hl ⊢
  have hl : lv_has ls 6 [(0, .ref h0), (1, .int a1), (2, .int a2), (3, .int a3), (4, .ref o1)] := hl
  refine z_anyQ (fun Q hQe => ?_)
  refine lv_aload hx hb dL_join_0 (lv_at hl 4 rfl) ?_
  refine lv_iconst (v := 0) hx hb dL_join_2 (by decide) ?_
  refine lv_aload_n hx hb dL_join_3 rfl (lv_at hl 0 rfl) ?_
  refine lv_iload_n hx hb dL_join_4 rfl (lv_at hl 1 rfl) ?_
  refine lv_iload_n hx hb dL_join_5 rfl (lv_at hl 2 rfl) ?_
  refine lv_iload_n hx hb dL_join_6 rfl (lv_at hl 3 rfl) ?_
  refine zx_catch (wc := [(h0, .inr (12, [.ref vC, .ref vP, .ref vT, .ref vS, .ref vF, .ref vN, .ref vY, .int 0])), (vC, .inr (3, [.ref sS, .ref sJ, .int 0, .int 0]))]) (wr := []) (vx_runV (As := [.int a1, .int a2, .int a3]) (rest := [.int 0, .ref o1]) ⟨hx, hb, hml, hown, hts⟩ (f_join l hlt D cy h0 vC vP vT vS vF vN vY sS sJ a1 a2 a3 s.heap.size ) (cwV 3 hts (gzV (gz q413) q412 q414 q415 q174) rfl rfl rfl vX9_join ⟨Nat.le_of_ble_eq_true rfl, Nat.le_of_ble_eq_true rfl⟩) (zpV (ci := 12) (T := TX9) (N := 8) (q0 := 0) hK hX hY hP hD hS hA [0, 1] (by decide) rfl rfl rfl) rfl rfl hl.1 rfl (lv_room (Nat.le_of_ble_eq_true rfl)) dL_join_7 ⟨Nat.le_of_ble_eq_true rfl, Nat.le_of_ble_eq_true rfl⟩) hP hD hS hA [0, 1] [] rfl rfl (by decide) (by decide) hown [] ⟨0, 19, 22, 19⟩ [⟨0, 19, 26, 21⟩, ⟨0, 19, 30, 13⟩] htab (fun z hz => by cases hz) rfl (by decide) (hts _ q407) hX.1.1.1 (fun q9 H locs hP hD hS => ?_)
  have hP : va_P D vwCl [] H := hP
  have hD : va_D A [] := hD
  refine W.widen (k := 1) (n := 6) (by omega) (by omega) ?_
  refine lv_astore (lv' := [(5, .ref q9), (0, .ref h0), (1, .int a1), (2, .int a2), (3, .int a3), (4, .ref o1)]) hx hb dL_join_22 hl (by decide) rfl (fun ls hl => ?_)
  refine lv_iconst (v := 1) hx hb dL_join_24 (by decide) ?_
  have hP9 := hP.sub (ws' := []) [] rfl
  have hD9 := hD.sub (ws' := []) [] (by decide) rfl
  refine W.widen (k := 1) (n := 6) (Nat.le_of_ble_eq_true rfl) (Nat.le_of_ble_eq_true rfl) ?_
  rw [hQe]
  exact W.iret (v := 1) hx hb hr (fun t ht hW => ⟨⟨1, (), rfl, rfl, ⟨by rw [ht]; exact hP9, hD9⟩⟩, hS.F ht⟩) hS.2.2 dL_join_25
set_option maxHeartbeats 4000000 in
set_option maxRecDepth 100000 in
/-- the law's call of oneWith: it throws -/
theorem w_oneWith (l : Launch) (hlt : l.stackTraces = false) (D : va_G) (cy : Nat → ClassId) (h0 : Nat) (vC : Nat) (vP : Nat) (vT : Nat) (vS : Nat) (vF : Nat) (vN : Nat) (vY : Nat) (sS : Nat) (sJ : Nat) (a1 : Int32) (a2 : Int32) (o1 : Nat) (sz : Nat)  : Met l yL_oneWith (wzW yL_oneWith cL_oneWith 5 (some .int) [(0, 10, 13, 19), (0, 10, 17, 21)]) ({ frames := 8, cells := 1, slots := 6, locals := 125 } : Room) (va_Pc [.ref h0, .int a1, .int a2, .ref o1] (zPre vwCl D cy [(h0, .inr (12, [.ref vC, .ref vP, .ref vT, .ref vS, .ref vF, .ref vN, .ref vY, .int 0])), (vC, .inr (3, [.ref sS, .ref sJ, .int 0, .int 0]))] sz)) (va_Qi (fun (r : Int32) (_ : Unit) => r = 1) (fun (u : Unit) t => zPost vwCl D (va_A [(h0, .inr (12, [.ref vC, .ref vP, .ref vT, .ref vS, .ref vF, .ref vN, .ref vY, .int 0])), (vC, .inr (3, [.ref sS, .ref sJ, .int 0, .int 0]))] sz) [] t) (va_A [(h0, .inr (12, [.ref vC, .ref vP, .ref vT, .ref vS, .ref vF, .ref vN, .ref vY, .int 0])), (vC, .inr (3, [.ref sS, .ref sJ, .int 0, .int 0]))] sz)) 1 6 (va_A [(h0, .inr (12, [.ref vC, .ref vP, .ref vT, .ref vS, .ref vF, .ref vN, .ref vY, .int 0])), (vC, .inr (3, [.ref sS, .ref sJ, .int 0, .int 0]))] sz) := by
  refine va_MetW (cc := cL_oneWith) (maxL := 5) (ret := (some .int)) (hh := [(0, 10, 13, 19), (0, 10, 17, 21)]) (by decide) rfl ?_
  intro p e s m args below meth c s₁ B hml hv
  obtain ⟨rfl, hsz, hP, hK, hD0, hX, hY⟩ := hv
  have hx := B.exec
  have hb := B.bytes
  have hr := B.returns
  have hts0 := atoms_spec (ws := wzW yL_oneWith cL_oneWith 5 (some .int) [(0, 10, 13, 19), (0, 10, 17, 21)]) B.pre
  have hts : ∀ w ∈ wAll, w.before _ s = true := fun w h => hts0 w (List.mem_cons_of_mem _ h)
  have hown : s.vm.findClass RL = some m.cls := findClass_of_methodNamed B.named
  have hlocks := B.notSynchronized
  have htab := vx_table (x := yL_oneWith) B (hts0 _ List.mem_cons_self)
  subst hsz
  have hD := hD0.self (sz := s.heap.size)
  generalize hAe : va_A [(h0, .inr (12, [.ref vC, .ref vP, .ref vT, .ref vS, .ref vF, .ref vN, .ref vY, .int 0])), (vC, .inr (3, [.ref sS, .ref sJ, .int 0, .int 0]))] s.heap.size = A at hD hY ⊢
  have hA : ∀ q : Nat, s.heap.size ≤ q → A q := fun q h => by rw [← hAe]; exact Or.inr h
  have hS : va_S A s.heap s.heap [] := va_S.rf
  have hP : va_P D vwCl [(h0, .inr (12, [.ref vC, .ref vP, .ref vT, .ref vS, .ref vF, .ref vN, .ref vY, .int 0])), (vC, .inr (3, [.ref sS, .ref sJ, .int 0, .int 0]))] s.heap := hP
  have hl := lv_entry ([.ref h0, .int a1, .int a2, .ref o1]) (n := 5) (Nat.le_of_ble_eq_true rfl)
  rw [lg_entry_eq]
  generalize (lg_sl ([.ref h0, .int a1, .int a2, .ref o1]) ++ List.replicate (5 - (lg_sl ([.ref h0, .int a1, .int a2, .ref o1])).length) Slot.unset).toArray = ls at hl ⊢
  have hl : lv_has ls 5 [(0, .ref h0), (1, .int a1), (2, .int a2), (3, .ref o1)] := hl
  refine z_anyQ (fun Q hQe => ?_)
  refine lv_aload_n hx hb dL_oneWith_0 rfl (lv_at hl 3 rfl) ?_
  refine lv_iconst (v := 0) hx hb dL_oneWith_1 (by decide) ?_
  refine lv_aload_n hx hb dL_oneWith_2 rfl (lv_at hl 0 rfl) ?_
  refine lv_iload_n hx hb dL_oneWith_3 rfl (lv_at hl 1 rfl) ?_
  refine lv_iload_n hx hb dL_oneWith_4 rfl (lv_at hl 2 rfl) ?_
  refine zx_catch (wc := [(h0, .inr (12, [.ref vC, .ref vP, .ref vT, .ref vS, .ref vF, .ref vN, .ref vY, .int 0])), (vC, .inr (3, [.ref sS, .ref sJ, .int 0, .int 0]))]) (wr := []) (vx_runV (As := [.int a1, .int a2]) (rest := [.int 0, .ref o1]) ⟨hx, hb, hml, hown, hts⟩ (f_oneWith l hlt D cy h0 vC vP vT vS vF vN vY sS sJ a1 a2 s.heap.size ) (cwV 2 hts (gzV (gz q417) q416 q418 q419 q174) rfl rfl rfl vX9_oneWith ⟨Nat.le_of_ble_eq_true rfl, Nat.le_of_ble_eq_true rfl⟩) (zpV (ci := 12) (T := TX9) (N := 8) (q0 := 0) hK hX hY hP hD hS hA [0, 1] (by decide) rfl rfl rfl) rfl rfl hl.1 rfl (lv_room (Nat.le_of_ble_eq_true rfl)) dL_oneWith_5 ⟨Nat.le_of_ble_eq_true rfl, Nat.le_of_ble_eq_true rfl⟩) hP hD hS hA [0, 1] [] rfl rfl (by decide) (by decide) hown [] ⟨0, 10, 13, 19⟩ [⟨0, 10, 17, 21⟩] htab (fun z hz => by cases hz) rfl (by decide) (hts _ q407) hX.1.1.1 (fun q9 H locs hP hD hS => ?_)
  have hP : va_P D vwCl [] H := hP
  have hD : va_D A [] := hD
  refine W.widen (k := 1) (n := 6) (by omega) (by omega) ?_
  refine lv_astore (lv' := [(4, .ref q9), (0, .ref h0), (1, .int a1), (2, .int a2), (3, .ref o1)]) hx hb dL_oneWith_13 hl (by decide) rfl (fun ls hl => ?_)
  refine lv_iconst (v := 1) hx hb dL_oneWith_15 (by decide) ?_
  have hP9 := hP.sub (ws' := []) [] rfl
  have hD9 := hD.sub (ws' := []) [] (by decide) rfl
  refine W.widen (k := 1) (n := 6) (Nat.le_of_ble_eq_true rfl) (Nat.le_of_ble_eq_true rfl) ?_
  rw [hQe]
  exact W.iret (v := 1) hx hb hr (fun t ht hW => ⟨⟨1, (), rfl, rfl, ⟨by rw [ht]; exact hP9, hD9⟩⟩, hS.F ht⟩) hS.2.2 dL_oneWith_16
set_option maxHeartbeats 4000000 in
set_option maxRecDepth 100000 in
/-- the law's call of isHung: it throws -/
theorem w_isHung (l : Launch) (hlt : l.stackTraces = false) (D : va_G) (cy : Nat → ClassId) (h0 : Nat) (vC : Nat) (vP : Nat) (vT : Nat) (vS : Nat) (vF : Nat) (vN : Nat) (vY : Nat) (sS : Nat) (sJ : Nat) (a1 : Int32) (a2 : Int32) (o1 : Nat) (sz : Nat)  : Met l yL_isHung (wzW yL_isHung cL_isHung 5 (some .int) [(0, 17, 20, 19), (0, 17, 24, 21)]) ({ frames := 8, cells := 1, slots := 6, locals := 125 } : Room) (va_Pc [.ref h0, .int a1, .int a2, .ref o1] (zPre vwCl D cy [(h0, .inr (12, [.ref vC, .ref vP, .ref vT, .ref vS, .ref vF, .ref vN, .ref vY, .int 0])), (vC, .inr (3, [.ref sS, .ref sJ, .int 0, .int 0]))] sz)) (va_Qi (fun (r : Int32) (_ : Unit) => r = 1) (fun (u : Unit) t => zPost vwCl D (va_A [(h0, .inr (12, [.ref vC, .ref vP, .ref vT, .ref vS, .ref vF, .ref vN, .ref vY, .int 0])), (vC, .inr (3, [.ref sS, .ref sJ, .int 0, .int 0]))] sz) [] t) (va_A [(h0, .inr (12, [.ref vC, .ref vP, .ref vT, .ref vS, .ref vF, .ref vN, .ref vY, .int 0])), (vC, .inr (3, [.ref sS, .ref sJ, .int 0, .int 0]))] sz)) 1 6 (va_A [(h0, .inr (12, [.ref vC, .ref vP, .ref vT, .ref vS, .ref vF, .ref vN, .ref vY, .int 0])), (vC, .inr (3, [.ref sS, .ref sJ, .int 0, .int 0]))] sz) := by
  refine va_MetW (cc := cL_isHung) (maxL := 5) (ret := (some .int)) (hh := [(0, 17, 20, 19), (0, 17, 24, 21)]) (by decide) rfl ?_
  intro p e s m args below meth c s₁ B hml hv
  obtain ⟨rfl, hsz, hP, hK, hD0, hX, hY⟩ := hv
  have hx := B.exec
  have hb := B.bytes
  have hr := B.returns
  have hts0 := atoms_spec (ws := wzW yL_isHung cL_isHung 5 (some .int) [(0, 17, 20, 19), (0, 17, 24, 21)]) B.pre
  have hts : ∀ w ∈ wAll, w.before _ s = true := fun w h => hts0 w (List.mem_cons_of_mem _ h)
  have hown : s.vm.findClass RL = some m.cls := findClass_of_methodNamed B.named
  have hlocks := B.notSynchronized
  have htab := vx_table (x := yL_isHung) B (hts0 _ List.mem_cons_self)
  subst hsz
  have hD := hD0.self (sz := s.heap.size)
  generalize hAe : va_A [(h0, .inr (12, [.ref vC, .ref vP, .ref vT, .ref vS, .ref vF, .ref vN, .ref vY, .int 0])), (vC, .inr (3, [.ref sS, .ref sJ, .int 0, .int 0]))] s.heap.size = A at hD hY ⊢
  have hA : ∀ q : Nat, s.heap.size ≤ q → A q := fun q h => by rw [← hAe]; exact Or.inr h
  have hS : va_S A s.heap s.heap [] := va_S.rf
  have hP : va_P D vwCl [(h0, .inr (12, [.ref vC, .ref vP, .ref vT, .ref vS, .ref vF, .ref vN, .ref vY, .int 0])), (vC, .inr (3, [.ref sS, .ref sJ, .int 0, .int 0]))] s.heap := hP
  have hl := lv_entry ([.ref h0, .int a1, .int a2, .ref o1]) (n := 5) (Nat.le_of_ble_eq_true rfl)
  rw [lg_entry_eq]
  generalize (lg_sl ([.ref h0, .int a1, .int a2, .ref o1]) ++ List.replicate (5 - (lg_sl ([.ref h0, .int a1, .int a2, .ref o1])).length) Slot.unset).toArray = ls at hl ⊢
  have hl : lv_has ls 5 [(0, .ref h0), (1, .int a1), (2, .int a2), (3, .ref o1)] := hl
  refine z_anyQ (fun Q hQe => ?_)
  refine lv_aload_n hx hb dL_isHung_0 rfl (lv_at hl 3 rfl) ?_
  refine lv_iconst (v := 0) hx hb dL_isHung_1 (by decide) ?_
  refine lv_aload_n hx hb dL_isHung_2 rfl (lv_at hl 0 rfl) ?_
  refine lv_iload_n hx hb dL_isHung_3 rfl (lv_at hl 1 rfl) ?_
  refine lv_iload_n hx hb dL_isHung_4 rfl (lv_at hl 2 rfl) ?_
  refine zx_catch (wc := [(h0, .inr (12, [.ref vC, .ref vP, .ref vT, .ref vS, .ref vF, .ref vN, .ref vY, .int 0])), (vC, .inr (3, [.ref sS, .ref sJ, .int 0, .int 0]))]) (wr := []) (vx_runV (As := [.int a1, .int a2]) (rest := [.int 0, .ref o1]) ⟨hx, hb, hml, hown, hts⟩ (f_isHung l hlt D cy h0 vC vP vT vS vF vN vY sS sJ a1 a2 s.heap.size ) (cwV 2 hts (gzV (gz q421) q420 q422 q423 q174) rfl rfl rfl vX9_isHung ⟨Nat.le_of_ble_eq_true rfl, Nat.le_of_ble_eq_true rfl⟩) (zpV (ci := 12) (T := TX9) (N := 8) (q0 := 0) hK hX hY hP hD hS hA [0, 1] (by decide) rfl rfl rfl) rfl rfl hl.1 rfl (lv_room (Nat.le_of_ble_eq_true rfl)) dL_isHung_5 ⟨Nat.le_of_ble_eq_true rfl, Nat.le_of_ble_eq_true rfl⟩) hP hD hS hA [0, 1] [] rfl rfl (by decide) (by decide) hown [] ⟨0, 17, 20, 19⟩ [⟨0, 17, 24, 21⟩] htab (fun z hz => by cases hz) rfl (by decide) (hts _ q407) hX.1.1.1 (fun q9 H locs hP hD hS => ?_)
  have hP : va_P D vwCl [] H := hP
  have hD : va_D A [] := hD
  refine W.widen (k := 1) (n := 6) (by omega) (by omega) ?_
  refine lv_astore (lv' := [(4, .ref q9), (0, .ref h0), (1, .int a1), (2, .int a2), (3, .ref o1)]) hx hb dL_isHung_20 hl (by decide) rfl (fun ls hl => ?_)
  refine lv_iconst (v := 1) hx hb dL_isHung_22 (by decide) ?_
  have hP9 := hP.sub (ws' := []) [] rfl
  have hD9 := hD.sub (ws' := []) [] (by decide) rfl
  refine W.widen (k := 1) (n := 6) (Nat.le_of_ble_eq_true rfl) (Nat.le_of_ble_eq_true rfl) ?_
  rw [hQe]
  exact W.iret (v := 1) hx hb hr (fun t ht hW => ⟨⟨1, (), rfl, rfl, ⟨by rw [ht]; exact hP9, hD9⟩⟩, hS.F ht⟩) hS.2.2 dL_isHung_23
set_option maxHeartbeats 4000000 in
set_option maxRecDepth 100000 in
/-- the law's call of top: it throws -/
theorem w_top (l : Launch) (hlt : l.stackTraces = false) (D : va_G) (cy : Nat → ClassId) (h0 : Nat) (vC : Nat) (vP : Nat) (vT : Nat) (vS : Nat) (vF : Nat) (vN : Nat) (vY : Nat) (sS : Nat) (sJ : Nat) (a1 : Int32) (a2 : Int32) (a3 : Int32) (o1 : Nat) (sz : Nat)  : Met l yL_top (wzW yL_top cL_top 6 (some .int) [(0, 11, 14, 19), (0, 11, 18, 21), (0, 11, 22, 42)]) ({ frames := 9, cells := 1, slots := 6, locals := 149 } : Room) (va_Pc [.ref h0, .int a1, .int a2, .int a3, .ref o1] (zPre vwCl D cy [(h0, .inr (12, [.ref vC, .ref vP, .ref vT, .ref vS, .ref vF, .ref vN, .ref vY, .int 0])), (vC, .inr (3, [.ref sS, .ref sJ, .int 0, .int 0]))] sz)) (va_Qi (fun (r : Int32) (_ : Unit) => r = 1) (fun (u : Unit) t => zPost vwCl D (va_A [(h0, .inr (12, [.ref vC, .ref vP, .ref vT, .ref vS, .ref vF, .ref vN, .ref vY, .int 0])), (vC, .inr (3, [.ref sS, .ref sJ, .int 0, .int 0]))] sz) [] t) (va_A [(h0, .inr (12, [.ref vC, .ref vP, .ref vT, .ref vS, .ref vF, .ref vN, .ref vY, .int 0])), (vC, .inr (3, [.ref sS, .ref sJ, .int 0, .int 0]))] sz)) 1 6 (va_A [(h0, .inr (12, [.ref vC, .ref vP, .ref vT, .ref vS, .ref vF, .ref vN, .ref vY, .int 0])), (vC, .inr (3, [.ref sS, .ref sJ, .int 0, .int 0]))] sz) := by
  refine va_MetW (cc := cL_top) (maxL := 6) (ret := (some .int)) (hh := [(0, 11, 14, 19), (0, 11, 18, 21), (0, 11, 22, 42)]) (by decide) rfl ?_
  intro p e s m args below meth c s₁ B hml hv
  obtain ⟨rfl, hsz, hP, hK, hD0, hX, hY⟩ := hv
  have hx := B.exec
  have hb := B.bytes
  have hr := B.returns
  have hts0 := atoms_spec (ws := wzW yL_top cL_top 6 (some .int) [(0, 11, 14, 19), (0, 11, 18, 21), (0, 11, 22, 42)]) B.pre
  have hts : ∀ w ∈ wAll, w.before _ s = true := fun w h => hts0 w (List.mem_cons_of_mem _ h)
  have hown : s.vm.findClass RL = some m.cls := findClass_of_methodNamed B.named
  have hlocks := B.notSynchronized
  have htab := vx_table (x := yL_top) B (hts0 _ List.mem_cons_self)
  subst hsz
  have hD := hD0.self (sz := s.heap.size)
  generalize hAe : va_A [(h0, .inr (12, [.ref vC, .ref vP, .ref vT, .ref vS, .ref vF, .ref vN, .ref vY, .int 0])), (vC, .inr (3, [.ref sS, .ref sJ, .int 0, .int 0]))] s.heap.size = A at hD hY ⊢
  have hA : ∀ q : Nat, s.heap.size ≤ q → A q := fun q h => by rw [← hAe]; exact Or.inr h
  have hS : va_S A s.heap s.heap [] := va_S.rf
  have hP : va_P D vwCl [(h0, .inr (12, [.ref vC, .ref vP, .ref vT, .ref vS, .ref vF, .ref vN, .ref vY, .int 0])), (vC, .inr (3, [.ref sS, .ref sJ, .int 0, .int 0]))] s.heap := hP
  have hl := lv_entry ([.ref h0, .int a1, .int a2, .int a3, .ref o1]) (n := 6) (Nat.le_of_ble_eq_true rfl)
  rw [lg_entry_eq]
  generalize (lg_sl ([.ref h0, .int a1, .int a2, .int a3, .ref o1]) ++ List.replicate (6 - (lg_sl ([.ref h0, .int a1, .int a2, .int a3, .ref o1])).length) Slot.unset).toArray = ls at hl ⊢
  have hl : lv_has ls 6 [(0, .ref h0), (1, .int a1), (2, .int a2), (3, .int a3), (4, .ref o1)] := hl
  refine z_anyQ (fun Q hQe => ?_)
  refine lv_aload hx hb dL_top_0 (lv_at hl 4 rfl) ?_
  refine lv_iconst (v := 0) hx hb dL_top_2 (by decide) ?_
  refine lv_aload_n hx hb dL_top_3 rfl (lv_at hl 0 rfl) ?_
  refine lv_iload_n hx hb dL_top_4 rfl (lv_at hl 1 rfl) ?_
  refine lv_iload_n hx hb dL_top_5 rfl (lv_at hl 2 rfl) ?_
  refine lv_iload_n hx hb dL_top_6 rfl (lv_at hl 3 rfl) ?_
  refine zx_catch (wc := [(h0, .inr (12, [.ref vC, .ref vP, .ref vT, .ref vS, .ref vF, .ref vN, .ref vY, .int 0])), (vC, .inr (3, [.ref sS, .ref sJ, .int 0, .int 0]))]) (wr := []) (vx_runV (As := [.int a1, .int a2, .int a3]) (rest := [.int 0, .ref o1]) ⟨hx, hb, hml, hown, hts⟩ (f_top l hlt D cy h0 vC vP vT vS vF vN vY sS sJ a1 a2 a3 s.heap.size ) (cwV 3 hts (gzV (gz q425) q424 q426 q427 q174) rfl rfl rfl vX9_top ⟨Nat.le_of_ble_eq_true rfl, Nat.le_of_ble_eq_true rfl⟩) (zpV (ci := 12) (T := TX9) (N := 8) (q0 := 0) hK hX hY hP hD hS hA [0, 1] (by decide) rfl rfl rfl) rfl rfl hl.1 rfl (lv_room (Nat.le_of_ble_eq_true rfl)) dL_top_7 ⟨Nat.le_of_ble_eq_true rfl, Nat.le_of_ble_eq_true rfl⟩) hP hD hS hA [0, 1] [] rfl rfl (by decide) (by decide) hown [] ⟨0, 11, 14, 19⟩ [⟨0, 11, 18, 21⟩, ⟨0, 11, 22, 42⟩] htab (fun z hz => by cases hz) rfl (by decide) (hts _ q407) hX.1.1.1 (fun q9 H locs hP hD hS => ?_)
  have hP : va_P D vwCl [] H := hP
  have hD : va_D A [] := hD
  refine W.widen (k := 1) (n := 6) (by omega) (by omega) ?_
  refine lv_astore (lv' := [(5, .ref q9), (0, .ref h0), (1, .int a1), (2, .int a2), (3, .int a3), (4, .ref o1)]) hx hb dL_top_14 hl (by decide) rfl (fun ls hl => ?_)
  refine lv_iconst (v := 1) hx hb dL_top_16 (by decide) ?_
  have hP9 := hP.sub (ws' := []) [] rfl
  have hD9 := hD.sub (ws' := []) [] (by decide) rfl
  refine W.widen (k := 1) (n := 6) (Nat.le_of_ble_eq_true rfl) (Nat.le_of_ble_eq_true rfl) ?_
  rw [hQe]
  exact W.iret (v := 1) hx hb hr (fun t ht hW => ⟨⟨1, (), rfl, rfl, ⟨by rw [ht]; exact hP9, hD9⟩⟩, hS.F ht⟩) hS.2.2 dL_top_17
set_option maxHeartbeats 4000000 in
set_option maxRecDepth 100000 in
/-- the law's call of bottom: it throws -/
theorem w_bottom (l : Launch) (hlt : l.stackTraces = false) (D : va_G) (cy : Nat → ClassId) (h0 : Nat) (vC : Nat) (vP : Nat) (vT : Nat) (vS : Nat) (vF : Nat) (vN : Nat) (vY : Nat) (sS : Nat) (sJ : Nat) (a1 : Int32) (a2 : Int32) (a3 : Int32) (o1 : Nat) (sz : Nat)  : Met l yL_bottom (wzW yL_bottom cL_bottom 6 (some .int) [(0, 11, 14, 19), (0, 11, 18, 21), (0, 11, 22, 42)]) ({ frames := 9, cells := 1, slots := 6, locals := 149 } : Room) (va_Pc [.ref h0, .int a1, .int a2, .int a3, .ref o1] (zPre vwCl D cy [(h0, .inr (12, [.ref vC, .ref vP, .ref vT, .ref vS, .ref vF, .ref vN, .ref vY, .int 0])), (vC, .inr (3, [.ref sS, .ref sJ, .int 0, .int 0]))] sz)) (va_Qi (fun (r : Int32) (_ : Unit) => r = 1) (fun (u : Unit) t => zPost vwCl D (va_A [(h0, .inr (12, [.ref vC, .ref vP, .ref vT, .ref vS, .ref vF, .ref vN, .ref vY, .int 0])), (vC, .inr (3, [.ref sS, .ref sJ, .int 0, .int 0]))] sz) [] t) (va_A [(h0, .inr (12, [.ref vC, .ref vP, .ref vT, .ref vS, .ref vF, .ref vN, .ref vY, .int 0])), (vC, .inr (3, [.ref sS, .ref sJ, .int 0, .int 0]))] sz)) 1 6 (va_A [(h0, .inr (12, [.ref vC, .ref vP, .ref vT, .ref vS, .ref vF, .ref vN, .ref vY, .int 0])), (vC, .inr (3, [.ref sS, .ref sJ, .int 0, .int 0]))] sz) := by
  refine va_MetW (cc := cL_bottom) (maxL := 6) (ret := (some .int)) (hh := [(0, 11, 14, 19), (0, 11, 18, 21), (0, 11, 22, 42)]) (by decide) rfl ?_
  intro p e s m args below meth c s₁ B hml hv
  obtain ⟨rfl, hsz, hP, hK, hD0, hX, hY⟩ := hv
  have hx := B.exec
  have hb := B.bytes
  have hr := B.returns
  have hts0 := atoms_spec (ws := wzW yL_bottom cL_bottom 6 (some .int) [(0, 11, 14, 19), (0, 11, 18, 21), (0, 11, 22, 42)]) B.pre
  have hts : ∀ w ∈ wAll, w.before _ s = true := fun w h => hts0 w (List.mem_cons_of_mem _ h)
  have hown : s.vm.findClass RL = some m.cls := findClass_of_methodNamed B.named
  have hlocks := B.notSynchronized
  have htab := vx_table (x := yL_bottom) B (hts0 _ List.mem_cons_self)
  subst hsz
  have hD := hD0.self (sz := s.heap.size)
  generalize hAe : va_A [(h0, .inr (12, [.ref vC, .ref vP, .ref vT, .ref vS, .ref vF, .ref vN, .ref vY, .int 0])), (vC, .inr (3, [.ref sS, .ref sJ, .int 0, .int 0]))] s.heap.size = A at hD hY ⊢
  have hA : ∀ q : Nat, s.heap.size ≤ q → A q := fun q h => by rw [← hAe]; exact Or.inr h
  have hS : va_S A s.heap s.heap [] := va_S.rf
  have hP : va_P D vwCl [(h0, .inr (12, [.ref vC, .ref vP, .ref vT, .ref vS, .ref vF, .ref vN, .ref vY, .int 0])), (vC, .inr (3, [.ref sS, .ref sJ, .int 0, .int 0]))] s.heap := hP
  have hl := lv_entry ([.ref h0, .int a1, .int a2, .int a3, .ref o1]) (n := 6) (Nat.le_of_ble_eq_true rfl)
  rw [lg_entry_eq]
  generalize (lg_sl ([.ref h0, .int a1, .int a2, .int a3, .ref o1]) ++ List.replicate (6 - (lg_sl ([.ref h0, .int a1, .int a2, .int a3, .ref o1])).length) Slot.unset).toArray = ls at hl ⊢
  have hl : lv_has ls 6 [(0, .ref h0), (1, .int a1), (2, .int a2), (3, .int a3), (4, .ref o1)] := hl
  refine z_anyQ (fun Q hQe => ?_)
  refine lv_aload hx hb dL_bottom_0 (lv_at hl 4 rfl) ?_
  refine lv_iconst (v := 0) hx hb dL_bottom_2 (by decide) ?_
  refine lv_aload_n hx hb dL_bottom_3 rfl (lv_at hl 0 rfl) ?_
  refine lv_iload_n hx hb dL_bottom_4 rfl (lv_at hl 1 rfl) ?_
  refine lv_iload_n hx hb dL_bottom_5 rfl (lv_at hl 2 rfl) ?_
  refine lv_iload_n hx hb dL_bottom_6 rfl (lv_at hl 3 rfl) ?_
  refine zx_catch (wc := [(h0, .inr (12, [.ref vC, .ref vP, .ref vT, .ref vS, .ref vF, .ref vN, .ref vY, .int 0])), (vC, .inr (3, [.ref sS, .ref sJ, .int 0, .int 0]))]) (wr := []) (vx_runV (As := [.int a1, .int a2, .int a3]) (rest := [.int 0, .ref o1]) ⟨hx, hb, hml, hown, hts⟩ (f_bottom l hlt D cy h0 vC vP vT vS vF vN vY sS sJ a1 a2 a3 s.heap.size ) (cwV 3 hts (gzV (gz q429) q428 q430 q431 q174) rfl rfl rfl vX9_bottom ⟨Nat.le_of_ble_eq_true rfl, Nat.le_of_ble_eq_true rfl⟩) (zpV (ci := 12) (T := TX9) (N := 8) (q0 := 0) hK hX hY hP hD hS hA [0, 1] (by decide) rfl rfl rfl) rfl rfl hl.1 rfl (lv_room (Nat.le_of_ble_eq_true rfl)) dL_bottom_7 ⟨Nat.le_of_ble_eq_true rfl, Nat.le_of_ble_eq_true rfl⟩) hP hD hS hA [0, 1] [] rfl rfl (by decide) (by decide) hown [] ⟨0, 11, 14, 19⟩ [⟨0, 11, 18, 21⟩, ⟨0, 11, 22, 42⟩] htab (fun z hz => by cases hz) rfl (by decide) (hts _ q407) hX.1.1.1 (fun q9 H locs hP hD hS => ?_)
  have hP : va_P D vwCl [] H := hP
  have hD : va_D A [] := hD
  refine W.widen (k := 1) (n := 6) (by omega) (by omega) ?_
  refine lv_astore (lv' := [(5, .ref q9), (0, .ref h0), (1, .int a1), (2, .int a2), (3, .int a3), (4, .ref o1)]) hx hb dL_bottom_14 hl (by decide) rfl (fun ls hl => ?_)
  refine lv_iconst (v := 1) hx hb dL_bottom_16 (by decide) ?_
  have hP9 := hP.sub (ws' := []) [] rfl
  have hD9 := hD.sub (ws' := []) [] (by decide) rfl
  refine W.widen (k := 1) (n := 6) (Nat.le_of_ble_eq_true rfl) (Nat.le_of_ble_eq_true rfl) ?_
  rw [hQe]
  exact W.iret (v := 1) hx hb hr (fun t ht hW => ⟨⟨1, (), rfl, rfl, ⟨by rw [ht]; exact hP9, hD9⟩⟩, hS.F ht⟩) hS.2.2 dL_bottom_17
set_option maxHeartbeats 4000000 in
set_option maxRecDepth 100000 in
/-- the law's call of fault: it throws -/
theorem w_fault (l : Launch) (hlt : l.stackTraces = false) (D : va_G) (cy : Nat → ClassId) (h0 : Nat) (vC : Nat) (vP : Nat) (vT : Nat) (vS : Nat) (vF : Nat) (vN : Nat) (vY : Nat) (sS : Nat) (sJ : Nat) (a1 : Int32) (a2 : Int32) (o1 : Nat) (sz : Nat)  : Met l yL_fault (wzW yL_fault cL_fault 5 (some .int) [(0, 9, 12, 19), (0, 9, 16, 21), (0, 9, 20, 42)]) ({ frames := 8, cells := 1, slots := 6, locals := 125 } : Room) (va_Pc [.ref h0, .int a1, .int a2, .ref o1] (zPre vwCl D cy [(h0, .inr (12, [.ref vC, .ref vP, .ref vT, .ref vS, .ref vF, .ref vN, .ref vY, .int 0])), (vC, .inr (3, [.ref sS, .ref sJ, .int 0, .int 0]))] sz)) (va_Qi (fun (r : Int32) (_ : Unit) => r = 1) (fun (u : Unit) t => zPost vwCl D (va_A [(h0, .inr (12, [.ref vC, .ref vP, .ref vT, .ref vS, .ref vF, .ref vN, .ref vY, .int 0])), (vC, .inr (3, [.ref sS, .ref sJ, .int 0, .int 0]))] sz) [] t) (va_A [(h0, .inr (12, [.ref vC, .ref vP, .ref vT, .ref vS, .ref vF, .ref vN, .ref vY, .int 0])), (vC, .inr (3, [.ref sS, .ref sJ, .int 0, .int 0]))] sz)) 1 6 (va_A [(h0, .inr (12, [.ref vC, .ref vP, .ref vT, .ref vS, .ref vF, .ref vN, .ref vY, .int 0])), (vC, .inr (3, [.ref sS, .ref sJ, .int 0, .int 0]))] sz) := by
  refine va_MetW (cc := cL_fault) (maxL := 5) (ret := (some .int)) (hh := [(0, 9, 12, 19), (0, 9, 16, 21), (0, 9, 20, 42)]) (by decide) rfl ?_
  intro p e s m args below meth c s₁ B hml hv
  obtain ⟨rfl, hsz, hP, hK, hD0, hX, hY⟩ := hv
  have hx := B.exec
  have hb := B.bytes
  have hr := B.returns
  have hts0 := atoms_spec (ws := wzW yL_fault cL_fault 5 (some .int) [(0, 9, 12, 19), (0, 9, 16, 21), (0, 9, 20, 42)]) B.pre
  have hts : ∀ w ∈ wAll, w.before _ s = true := fun w h => hts0 w (List.mem_cons_of_mem _ h)
  have hown : s.vm.findClass RL = some m.cls := findClass_of_methodNamed B.named
  have hlocks := B.notSynchronized
  have htab := vx_table (x := yL_fault) B (hts0 _ List.mem_cons_self)
  subst hsz
  have hD := hD0.self (sz := s.heap.size)
  generalize hAe : va_A [(h0, .inr (12, [.ref vC, .ref vP, .ref vT, .ref vS, .ref vF, .ref vN, .ref vY, .int 0])), (vC, .inr (3, [.ref sS, .ref sJ, .int 0, .int 0]))] s.heap.size = A at hD hY ⊢
  have hA : ∀ q : Nat, s.heap.size ≤ q → A q := fun q h => by rw [← hAe]; exact Or.inr h
  have hS : va_S A s.heap s.heap [] := va_S.rf
  have hP : va_P D vwCl [(h0, .inr (12, [.ref vC, .ref vP, .ref vT, .ref vS, .ref vF, .ref vN, .ref vY, .int 0])), (vC, .inr (3, [.ref sS, .ref sJ, .int 0, .int 0]))] s.heap := hP
  have hl := lv_entry ([.ref h0, .int a1, .int a2, .ref o1]) (n := 5) (Nat.le_of_ble_eq_true rfl)
  rw [lg_entry_eq]
  generalize (lg_sl ([.ref h0, .int a1, .int a2, .ref o1]) ++ List.replicate (5 - (lg_sl ([.ref h0, .int a1, .int a2, .ref o1])).length) Slot.unset).toArray = ls at hl ⊢
  have hl : lv_has ls 5 [(0, .ref h0), (1, .int a1), (2, .int a2), (3, .ref o1)] := hl
  refine z_anyQ (fun Q hQe => ?_)
  refine lv_aload_n hx hb dL_fault_0 rfl (lv_at hl 3 rfl) ?_
  refine lv_iconst (v := 0) hx hb dL_fault_1 (by decide) ?_
  refine lv_aload_n hx hb dL_fault_2 rfl (lv_at hl 0 rfl) ?_
  refine lv_iload_n hx hb dL_fault_3 rfl (lv_at hl 1 rfl) ?_
  refine lv_iload_n hx hb dL_fault_4 rfl (lv_at hl 2 rfl) ?_
  refine zx_catch (wc := [(h0, .inr (12, [.ref vC, .ref vP, .ref vT, .ref vS, .ref vF, .ref vN, .ref vY, .int 0])), (vC, .inr (3, [.ref sS, .ref sJ, .int 0, .int 0]))]) (wr := []) (vx_runV (As := [.int a1, .int a2]) (rest := [.int 0, .ref o1]) ⟨hx, hb, hml, hown, hts⟩ (f_fault l hlt D cy h0 vC vP vT vS vF vN vY sS sJ a1 a2 s.heap.size ) (cwV 2 hts (gzV (gz q433) q432 q434 q435 q174) rfl rfl rfl vX9_fault ⟨Nat.le_of_ble_eq_true rfl, Nat.le_of_ble_eq_true rfl⟩) (zpV (ci := 12) (T := TX9) (N := 8) (q0 := 0) hK hX hY hP hD hS hA [0, 1] (by decide) rfl rfl rfl) rfl rfl hl.1 rfl (lv_room (Nat.le_of_ble_eq_true rfl)) dL_fault_5 ⟨Nat.le_of_ble_eq_true rfl, Nat.le_of_ble_eq_true rfl⟩) hP hD hS hA [0, 1] [] rfl rfl (by decide) (by decide) hown [] ⟨0, 9, 12, 19⟩ [⟨0, 9, 16, 21⟩, ⟨0, 9, 20, 42⟩] htab (fun z hz => by cases hz) rfl (by decide) (hts _ q407) hX.1.1.1 (fun q9 H locs hP hD hS => ?_)
  have hP : va_P D vwCl [] H := hP
  have hD : va_D A [] := hD
  refine W.widen (k := 1) (n := 6) (by omega) (by omega) ?_
  refine lv_astore (lv' := [(4, .ref q9), (0, .ref h0), (1, .int a1), (2, .int a2), (3, .ref o1)]) hx hb dL_fault_12 hl (by decide) rfl (fun ls hl => ?_)
  refine lv_iconst (v := 1) hx hb dL_fault_14 (by decide) ?_
  have hP9 := hP.sub (ws' := []) [] rfl
  have hD9 := hD.sub (ws' := []) [] (by decide) rfl
  refine W.widen (k := 1) (n := 6) (Nat.le_of_ble_eq_true rfl) (Nat.le_of_ble_eq_true rfl) ?_
  rw [hQe]
  exact W.iret (v := 1) hx hb hr (fun t ht hW => ⟨⟨1, (), rfl, rfl, ⟨by rw [ht]; exact hP9, hD9⟩⟩, hS.F ht⟩) hS.2.2 dL_fault_15
set_option maxHeartbeats 4000000 in
set_option maxRecDepth 100000 in
/-- the law's call of setHeight: it throws -/
theorem w_setHeight (l : Launch) (hlt : l.stackTraces = false) (D : va_G) (cy : Nat → ClassId) (h0 : Nat) (vC : Nat) (vP : Nat) (vT : Nat) (vS : Nat) (vF : Nat) (vN : Nat) (vY : Nat) (sS : Nat) (sJ : Nat) (a1 : Int32) (a2 : Int32) (o1 : Nat) (sz : Nat)  : Met l yL_setHeight (wzW yL_setHeight cL_setHeight 5 (some .int) [(0, 10, 13, 19), (0, 10, 17, 21), (0, 10, 21, 71)]) ({ frames := 8, cells := 1, slots := 6, locals := 126 } : Room) (va_Pc [.ref h0, .int a1, .int a2, .ref o1] (zPre vwCl D cy [(h0, .inr (12, [.ref vC, .ref vP, .ref vT, .ref vS, .ref vF, .ref vN, .ref vY, .int 0])), (vC, .inr (3, [.ref sS, .ref sJ, .int 0, .int 0]))] sz)) (va_Qi (fun (r : Int32) (_ : Unit) => r = 1) (fun (u : Unit) t => zPost vwCl D (va_A [(h0, .inr (12, [.ref vC, .ref vP, .ref vT, .ref vS, .ref vF, .ref vN, .ref vY, .int 0])), (vC, .inr (3, [.ref sS, .ref sJ, .int 0, .int 0]))] sz) [] t) (va_A [(h0, .inr (12, [.ref vC, .ref vP, .ref vT, .ref vS, .ref vF, .ref vN, .ref vY, .int 0])), (vC, .inr (3, [.ref sS, .ref sJ, .int 0, .int 0]))] sz)) 1 6 (va_A [(h0, .inr (12, [.ref vC, .ref vP, .ref vT, .ref vS, .ref vF, .ref vN, .ref vY, .int 0])), (vC, .inr (3, [.ref sS, .ref sJ, .int 0, .int 0]))] sz) := by
  refine va_MetW (cc := cL_setHeight) (maxL := 5) (ret := (some .int)) (hh := [(0, 10, 13, 19), (0, 10, 17, 21), (0, 10, 21, 71)]) (by decide) rfl ?_
  intro p e s m args below meth c s₁ B hml hv
  obtain ⟨rfl, hsz, hP, hK, hD0, hX, hY⟩ := hv
  have hx := B.exec
  have hb := B.bytes
  have hr := B.returns
  have hts0 := atoms_spec (ws := wzW yL_setHeight cL_setHeight 5 (some .int) [(0, 10, 13, 19), (0, 10, 17, 21), (0, 10, 21, 71)]) B.pre
  have hts : ∀ w ∈ wAll, w.before _ s = true := fun w h => hts0 w (List.mem_cons_of_mem _ h)
  have hown : s.vm.findClass RL = some m.cls := findClass_of_methodNamed B.named
  have hlocks := B.notSynchronized
  have htab := vx_table (x := yL_setHeight) B (hts0 _ List.mem_cons_self)
  subst hsz
  have hD := hD0.self (sz := s.heap.size)
  generalize hAe : va_A [(h0, .inr (12, [.ref vC, .ref vP, .ref vT, .ref vS, .ref vF, .ref vN, .ref vY, .int 0])), (vC, .inr (3, [.ref sS, .ref sJ, .int 0, .int 0]))] s.heap.size = A at hD hY ⊢
  have hA : ∀ q : Nat, s.heap.size ≤ q → A q := fun q h => by rw [← hAe]; exact Or.inr h
  have hS : va_S A s.heap s.heap [] := va_S.rf
  have hP : va_P D vwCl [(h0, .inr (12, [.ref vC, .ref vP, .ref vT, .ref vS, .ref vF, .ref vN, .ref vY, .int 0])), (vC, .inr (3, [.ref sS, .ref sJ, .int 0, .int 0]))] s.heap := hP
  have hl := lv_entry ([.ref h0, .int a1, .int a2, .ref o1]) (n := 5) (Nat.le_of_ble_eq_true rfl)
  rw [lg_entry_eq]
  generalize (lg_sl ([.ref h0, .int a1, .int a2, .ref o1]) ++ List.replicate (5 - (lg_sl ([.ref h0, .int a1, .int a2, .ref o1])).length) Slot.unset).toArray = ls at hl ⊢
  have hl : lv_has ls 5 [(0, .ref h0), (1, .int a1), (2, .int a2), (3, .ref o1)] := hl
  refine z_anyQ (fun Q hQe => ?_)
  refine lv_aload_n hx hb dL_setHeight_0 rfl (lv_at hl 3 rfl) ?_
  refine lv_iconst (v := 0) hx hb dL_setHeight_1 (by decide) ?_
  refine lv_aload_n hx hb dL_setHeight_2 rfl (lv_at hl 0 rfl) ?_
  refine lv_iload_n hx hb dL_setHeight_3 rfl (lv_at hl 1 rfl) ?_
  refine lv_iload_n hx hb dL_setHeight_4 rfl (lv_at hl 2 rfl) ?_
  refine zx_catch (wc := [(h0, .inr (12, [.ref vC, .ref vP, .ref vT, .ref vS, .ref vF, .ref vN, .ref vY, .int 0])), (vC, .inr (3, [.ref sS, .ref sJ, .int 0, .int 0]))]) (wr := []) (vx_runV (As := [.int a1, .int a2]) (rest := [.int 0, .ref o1]) ⟨hx, hb, hml, hown, hts⟩ (f_setHeight l hlt D cy h0 vC vP vT vS vF vN vY sS sJ a1 a2 s.heap.size ) (cwV 2 hts (gzV (gz q437) q436 q438 q439 q174) rfl rfl rfl vX9_setHeight ⟨Nat.le_of_ble_eq_true rfl, Nat.le_of_ble_eq_true rfl⟩) (zpV (ci := 12) (T := TX9) (N := 8) (q0 := 0) hK hX hY hP hD hS hA [0, 1] (by decide) rfl rfl rfl) rfl rfl hl.1 rfl (lv_room (Nat.le_of_ble_eq_true rfl)) dL_setHeight_5 ⟨Nat.le_of_ble_eq_true rfl, Nat.le_of_ble_eq_true rfl⟩) hP hD hS hA [0, 1] [] rfl rfl (by decide) (by decide) hown [] ⟨0, 10, 13, 19⟩ [⟨0, 10, 17, 21⟩, ⟨0, 10, 21, 71⟩] htab (fun z hz => by cases hz) rfl (by decide) (hts _ q407) hX.1.1.1 (fun q9 H locs hP hD hS => ?_)
  have hP : va_P D vwCl [] H := hP
  have hD : va_D A [] := hD
  refine W.widen (k := 1) (n := 6) (by omega) (by omega) ?_
  refine lv_astore (lv' := [(4, .ref q9), (0, .ref h0), (1, .int a1), (2, .int a2), (3, .ref o1)]) hx hb dL_setHeight_13 hl (by decide) rfl (fun ls hl => ?_)
  refine lv_iconst (v := 1) hx hb dL_setHeight_15 (by decide) ?_
  have hP9 := hP.sub (ws' := []) [] rfl
  have hD9 := hD.sub (ws' := []) [] (by decide) rfl
  refine W.widen (k := 1) (n := 6) (Nat.le_of_ble_eq_true rfl) (Nat.le_of_ble_eq_true rfl) ?_
  rw [hQe]
  exact W.iret (v := 1) hx hb hr (fun t ht hW => ⟨⟨1, (), rfl, rfl, ⟨by rw [ht]; exact hP9, hD9⟩⟩, hS.F ht⟩) hS.2.2 dL_setHeight_16
set_option maxHeartbeats 4000000 in
set_option maxRecDepth 100000 in
/-- the law's call of conduit: it throws -/
theorem w_conduit (l : Launch) (hlt : l.stackTraces = false) (D : va_G) (cy : Nat → ClassId) (h0 : Nat) (vC : Nat) (vP : Nat) (vT : Nat) (vS : Nat) (vF : Nat) (vN : Nat) (vY : Nat) (sS : Nat) (sJ : Nat) (a1 : Int32) (a2 : Int32) (a3 : Int32) (a4 : Int32) (o1 : Nat) (sz : Nat)  : Met l yL_conduit (wzW yL_conduit cL_conduit 7 (some .int) [(0, 14, 17, 19), (0, 14, 21, 21), (0, 14, 25, 71), (0, 14, 29, 13)]) ({ frames := 8, cells := 1, slots := 6, locals := 127 } : Room) (va_Pc [.ref h0, .int a1, .int a2, .int a3, .int a4, .ref o1] (zPre vwCl D cy [(h0, .inr (12, [.ref vC, .ref vP, .ref vT, .ref vS, .ref vF, .ref vN, .ref vY, .int 0])), (vC, .inr (3, [.ref sS, .ref sJ, .int 0, .int 0]))] sz)) (va_Qi (fun (r : Int32) (_ : Unit) => r = 1) (fun (u : Unit) t => zPost vwCl D (va_A [(h0, .inr (12, [.ref vC, .ref vP, .ref vT, .ref vS, .ref vF, .ref vN, .ref vY, .int 0])), (vC, .inr (3, [.ref sS, .ref sJ, .int 0, .int 0]))] sz) [] t) (va_A [(h0, .inr (12, [.ref vC, .ref vP, .ref vT, .ref vS, .ref vF, .ref vN, .ref vY, .int 0])), (vC, .inr (3, [.ref sS, .ref sJ, .int 0, .int 0]))] sz)) 1 6 (va_A [(h0, .inr (12, [.ref vC, .ref vP, .ref vT, .ref vS, .ref vF, .ref vN, .ref vY, .int 0])), (vC, .inr (3, [.ref sS, .ref sJ, .int 0, .int 0]))] sz) := by
  refine va_MetW (cc := cL_conduit) (maxL := 7) (ret := (some .int)) (hh := [(0, 14, 17, 19), (0, 14, 21, 21), (0, 14, 25, 71), (0, 14, 29, 13)]) (by decide) rfl ?_
  intro p e s m args below meth c s₁ B hml hv
  obtain ⟨rfl, hsz, hP, hK, hD0, hX, hY⟩ := hv
  have hx := B.exec
  have hb := B.bytes
  have hr := B.returns
  have hts0 := atoms_spec (ws := wzW yL_conduit cL_conduit 7 (some .int) [(0, 14, 17, 19), (0, 14, 21, 21), (0, 14, 25, 71), (0, 14, 29, 13)]) B.pre
  have hts : ∀ w ∈ wAll, w.before _ s = true := fun w h => hts0 w (List.mem_cons_of_mem _ h)
  have hown : s.vm.findClass RL = some m.cls := findClass_of_methodNamed B.named
  have hlocks := B.notSynchronized
  have htab := vx_table (x := yL_conduit) B (hts0 _ List.mem_cons_self)
  subst hsz
  have hD := hD0.self (sz := s.heap.size)
  generalize hAe : va_A [(h0, .inr (12, [.ref vC, .ref vP, .ref vT, .ref vS, .ref vF, .ref vN, .ref vY, .int 0])), (vC, .inr (3, [.ref sS, .ref sJ, .int 0, .int 0]))] s.heap.size = A at hD hY ⊢
  have hA : ∀ q : Nat, s.heap.size ≤ q → A q := fun q h => by rw [← hAe]; exact Or.inr h
  have hS : va_S A s.heap s.heap [] := va_S.rf
  have hP : va_P D vwCl [(h0, .inr (12, [.ref vC, .ref vP, .ref vT, .ref vS, .ref vF, .ref vN, .ref vY, .int 0])), (vC, .inr (3, [.ref sS, .ref sJ, .int 0, .int 0]))] s.heap := hP
  have hl := lv_entry ([.ref h0, .int a1, .int a2, .int a3, .int a4, .ref o1]) (n := 7) (Nat.le_of_ble_eq_true rfl)
  rw [lg_entry_eq]
  generalize (lg_sl ([.ref h0, .int a1, .int a2, .int a3, .int a4, .ref o1]) ++ List.replicate (7 - (lg_sl ([.ref h0, .int a1, .int a2, .int a3, .int a4, .ref o1])).length) Slot.unset).toArray = ls at hl ⊢
  have hl : lv_has ls 7 [(0, .ref h0), (1, .int a1), (2, .int a2), (3, .int a3), (4, .int a4), (5, .ref o1)] := hl
  refine z_anyQ (fun Q hQe => ?_)
  refine lv_aload hx hb dL_conduit_0 (lv_at hl 5 rfl) ?_
  refine lv_iconst (v := 0) hx hb dL_conduit_2 (by decide) ?_
  refine lv_aload_n hx hb dL_conduit_3 rfl (lv_at hl 0 rfl) ?_
  refine lv_iload_n hx hb dL_conduit_4 rfl (lv_at hl 1 rfl) ?_
  refine lv_iload_n hx hb dL_conduit_5 rfl (lv_at hl 2 rfl) ?_
  refine lv_iload_n hx hb dL_conduit_6 rfl (lv_at hl 3 rfl) ?_
  refine lv_iload hx hb dL_conduit_7 (lv_at hl 4 rfl) ?_
  refine zx_catch (wc := [(h0, .inr (12, [.ref vC, .ref vP, .ref vT, .ref vS, .ref vF, .ref vN, .ref vY, .int 0])), (vC, .inr (3, [.ref sS, .ref sJ, .int 0, .int 0]))]) (wr := []) (vx_runV (As := [.int a1, .int a2, .int a3, .int a4]) (rest := [.int 0, .ref o1]) ⟨hx, hb, hml, hown, hts⟩ (f_conduit l hlt D cy h0 vC vP vT vS vF vN vY sS sJ a1 a2 a3 a4 s.heap.size ) (cwV 4 hts (gzV (gz q441) q440 q442 q443 q174) rfl rfl rfl vX9_conduit ⟨Nat.le_of_ble_eq_true rfl, Nat.le_of_ble_eq_true rfl⟩) (zpV (ci := 12) (T := TX9) (N := 8) (q0 := 0) hK hX hY hP hD hS hA [0, 1] (by decide) rfl rfl rfl) rfl rfl hl.1 rfl (lv_room (Nat.le_of_ble_eq_true rfl)) dL_conduit_9 ⟨Nat.le_of_ble_eq_true rfl, Nat.le_of_ble_eq_true rfl⟩) hP hD hS hA [0, 1] [] rfl rfl (by decide) (by decide) hown [] ⟨0, 14, 17, 19⟩ [⟨0, 14, 21, 21⟩, ⟨0, 14, 25, 71⟩, ⟨0, 14, 29, 13⟩] htab (fun z hz => by cases hz) rfl (by decide) (hts _ q407) hX.1.1.1 (fun q9 H locs hP hD hS => ?_)
  have hP : va_P D vwCl [] H := hP
  have hD : va_D A [] := hD
  refine W.widen (k := 1) (n := 6) (by omega) (by omega) ?_
  refine lv_astore (lv' := [(6, .ref q9), (0, .ref h0), (1, .int a1), (2, .int a2), (3, .int a3), (4, .int a4), (5, .ref o1)]) hx hb dL_conduit_17 hl (by decide) rfl (fun ls hl => ?_)
  refine lv_iconst (v := 1) hx hb dL_conduit_19 (by decide) ?_
  have hP9 := hP.sub (ws' := []) [] rfl
  have hD9 := hD.sub (ws' := []) [] (by decide) rfl
  refine W.widen (k := 1) (n := 6) (Nat.le_of_ble_eq_true rfl) (Nat.le_of_ble_eq_true rfl) ?_
  rw [hQe]
  exact W.iret (v := 1) hx hb hr (fun t ht hW => ⟨⟨1, (), rfl, rfl, ⟨by rw [ht]; exact hP9, hD9⟩⟩, hS.F ht⟩) hS.2.2 dL_conduit_20
set_option maxHeartbeats 4000000 in
set_option maxRecDepth 100000 in
/-- the law's call of trace: it throws -/
theorem w_trace (l : Launch) (hlt : l.stackTraces = false) (D : va_G) (cy : Nat → ClassId) (h0 : Nat) (vC : Nat) (vP : Nat) (vT : Nat) (vS : Nat) (vF : Nat) (vN : Nat) (vY : Nat) (sS : Nat) (sJ : Nat) (a1 : Int32) (a2 : Int32) (o1 : Nat) (sz : Nat)  : Met l yL_trace (wzW yL_trace cL_trace 5 (some .int) [(0, 10, 13, 19), (0, 10, 17, 21)]) ({ frames := 8, cells := 1, slots := 6, locals := 127 } : Room) (va_Pc [.ref h0, .int a1, .int a2, .ref o1] (zPre vwCl D cy [(h0, .inr (12, [.ref vC, .ref vP, .ref vT, .ref vS, .ref vF, .ref vN, .ref vY, .int 0])), (vC, .inr (3, [.ref sS, .ref sJ, .int 0, .int 0]))] sz)) (va_Qi (fun (r : Int32) (_ : Unit) => r = 1) (fun (u : Unit) t => zPost vwCl D (va_A [(h0, .inr (12, [.ref vC, .ref vP, .ref vT, .ref vS, .ref vF, .ref vN, .ref vY, .int 0])), (vC, .inr (3, [.ref sS, .ref sJ, .int 0, .int 0]))] sz) [] t) (va_A [(h0, .inr (12, [.ref vC, .ref vP, .ref vT, .ref vS, .ref vF, .ref vN, .ref vY, .int 0])), (vC, .inr (3, [.ref sS, .ref sJ, .int 0, .int 0]))] sz)) 1 6 (va_A [(h0, .inr (12, [.ref vC, .ref vP, .ref vT, .ref vS, .ref vF, .ref vN, .ref vY, .int 0])), (vC, .inr (3, [.ref sS, .ref sJ, .int 0, .int 0]))] sz) := by
  refine va_MetW (cc := cL_trace) (maxL := 5) (ret := (some .int)) (hh := [(0, 10, 13, 19), (0, 10, 17, 21)]) (by decide) rfl ?_
  intro p e s m args below meth c s₁ B hml hv
  obtain ⟨rfl, hsz, hP, hK, hD0, hX, hY⟩ := hv
  have hx := B.exec
  have hb := B.bytes
  have hr := B.returns
  have hts0 := atoms_spec (ws := wzW yL_trace cL_trace 5 (some .int) [(0, 10, 13, 19), (0, 10, 17, 21)]) B.pre
  have hts : ∀ w ∈ wAll, w.before _ s = true := fun w h => hts0 w (List.mem_cons_of_mem _ h)
  have hown : s.vm.findClass RL = some m.cls := findClass_of_methodNamed B.named
  have hlocks := B.notSynchronized
  have htab := vx_table (x := yL_trace) B (hts0 _ List.mem_cons_self)
  subst hsz
  have hD := hD0.self (sz := s.heap.size)
  generalize hAe : va_A [(h0, .inr (12, [.ref vC, .ref vP, .ref vT, .ref vS, .ref vF, .ref vN, .ref vY, .int 0])), (vC, .inr (3, [.ref sS, .ref sJ, .int 0, .int 0]))] s.heap.size = A at hD hY ⊢
  have hA : ∀ q : Nat, s.heap.size ≤ q → A q := fun q h => by rw [← hAe]; exact Or.inr h
  have hS : va_S A s.heap s.heap [] := va_S.rf
  have hP : va_P D vwCl [(h0, .inr (12, [.ref vC, .ref vP, .ref vT, .ref vS, .ref vF, .ref vN, .ref vY, .int 0])), (vC, .inr (3, [.ref sS, .ref sJ, .int 0, .int 0]))] s.heap := hP
  have hl := lv_entry ([.ref h0, .int a1, .int a2, .ref o1]) (n := 5) (Nat.le_of_ble_eq_true rfl)
  rw [lg_entry_eq]
  generalize (lg_sl ([.ref h0, .int a1, .int a2, .ref o1]) ++ List.replicate (5 - (lg_sl ([.ref h0, .int a1, .int a2, .ref o1])).length) Slot.unset).toArray = ls at hl ⊢
  have hl : lv_has ls 5 [(0, .ref h0), (1, .int a1), (2, .int a2), (3, .ref o1)] := hl
  refine z_anyQ (fun Q hQe => ?_)
  refine lv_aload_n hx hb dL_trace_0 rfl (lv_at hl 3 rfl) ?_
  refine lv_iconst (v := 0) hx hb dL_trace_1 (by decide) ?_
  refine lv_aload_n hx hb dL_trace_2 rfl (lv_at hl 0 rfl) ?_
  refine lv_iload_n hx hb dL_trace_3 rfl (lv_at hl 1 rfl) ?_
  refine lv_iload_n hx hb dL_trace_4 rfl (lv_at hl 2 rfl) ?_
  refine zx_catch (wc := [(h0, .inr (12, [.ref vC, .ref vP, .ref vT, .ref vS, .ref vF, .ref vN, .ref vY, .int 0])), (vC, .inr (3, [.ref sS, .ref sJ, .int 0, .int 0]))]) (wr := []) (vx_runV (As := [.int a1, .int a2]) (rest := [.int 0, .ref o1]) ⟨hx, hb, hml, hown, hts⟩ (f_trace l hlt D cy h0 vC vP vT vS vF vN vY sS sJ a1 a2 s.heap.size ) (cwV 2 hts (gzV (gz q445) q444 q446 q447 q174) rfl rfl rfl vX9_trace ⟨Nat.le_of_ble_eq_true rfl, Nat.le_of_ble_eq_true rfl⟩) (zpV (ci := 12) (T := TX9) (N := 8) (q0 := 0) hK hX hY hP hD hS hA [0, 1] (by decide) rfl rfl rfl) rfl rfl hl.1 rfl (lv_room (Nat.le_of_ble_eq_true rfl)) dL_trace_5 ⟨Nat.le_of_ble_eq_true rfl, Nat.le_of_ble_eq_true rfl⟩) hP hD hS hA [0, 1] [] rfl rfl (by decide) (by decide) hown [] ⟨0, 10, 13, 19⟩ [⟨0, 10, 17, 21⟩] htab (fun z hz => by cases hz) rfl (by decide) (hts _ q407) hX.1.1.1 (fun q9 H locs hP hD hS => ?_)
  have hP : va_P D vwCl [] H := hP
  have hD : va_D A [] := hD
  refine W.widen (k := 1) (n := 6) (by omega) (by omega) ?_
  refine lv_astore (lv' := [(4, .ref q9), (0, .ref h0), (1, .int a1), (2, .int a2), (3, .ref o1)]) hx hb dL_trace_13 hl (by decide) rfl (fun ls hl => ?_)
  refine lv_iconst (v := 1) hx hb dL_trace_15 (by decide) ?_
  have hP9 := hP.sub (ws' := []) [] rfl
  have hD9 := hD.sub (ws' := []) [] (by decide) rfl
  refine W.widen (k := 1) (n := 6) (Nat.le_of_ble_eq_true rfl) (Nat.le_of_ble_eq_true rfl) ?_
  rw [hQe]
  exact W.iret (v := 1) hx hb hr (fun t ht hW => ⟨⟨1, (), rfl, rfl, ⟨by rw [ht]; exact hP9, hD9⟩⟩, hS.F ht⟩) hS.2.2 dL_trace_16
set_option maxHeartbeats 4000000 in
set_option maxRecDepth 100000 in
/-- the law's call of traced: it throws -/
theorem w_traced (l : Launch) (hlt : l.stackTraces = false) (D : va_G) (cy : Nat → ClassId) (h0 : Nat) (vC : Nat) (vP : Nat) (vT : Nat) (vS : Nat) (vF : Nat) (vN : Nat) (vY : Nat) (sS : Nat) (sJ : Nat) (a1 : Int32) (a2 : Int32) (o1 : Nat) (sz : Nat)  : Met l yL_traced (wzW yL_traced cL_traced 5 (some .int) [(0, 10, 13, 19), (0, 10, 17, 21)]) ({ frames := 8, cells := 1, slots := 6, locals := 125 } : Room) (va_Pc [.ref h0, .int a1, .int a2, .ref o1] (zPre vwCl D cy [(h0, .inr (12, [.ref vC, .ref vP, .ref vT, .ref vS, .ref vF, .ref vN, .ref vY, .int 0])), (vC, .inr (3, [.ref sS, .ref sJ, .int 0, .int 0]))] sz)) (va_Qi (fun (r : Int32) (_ : Unit) => r = 1) (fun (u : Unit) t => zPost vwCl D (va_A [(h0, .inr (12, [.ref vC, .ref vP, .ref vT, .ref vS, .ref vF, .ref vN, .ref vY, .int 0])), (vC, .inr (3, [.ref sS, .ref sJ, .int 0, .int 0]))] sz) [] t) (va_A [(h0, .inr (12, [.ref vC, .ref vP, .ref vT, .ref vS, .ref vF, .ref vN, .ref vY, .int 0])), (vC, .inr (3, [.ref sS, .ref sJ, .int 0, .int 0]))] sz)) 1 6 (va_A [(h0, .inr (12, [.ref vC, .ref vP, .ref vT, .ref vS, .ref vF, .ref vN, .ref vY, .int 0])), (vC, .inr (3, [.ref sS, .ref sJ, .int 0, .int 0]))] sz) := by
  refine va_MetW (cc := cL_traced) (maxL := 5) (ret := (some .int)) (hh := [(0, 10, 13, 19), (0, 10, 17, 21)]) (by decide) rfl ?_
  intro p e s m args below meth c s₁ B hml hv
  obtain ⟨rfl, hsz, hP, hK, hD0, hX, hY⟩ := hv
  have hx := B.exec
  have hb := B.bytes
  have hr := B.returns
  have hts0 := atoms_spec (ws := wzW yL_traced cL_traced 5 (some .int) [(0, 10, 13, 19), (0, 10, 17, 21)]) B.pre
  have hts : ∀ w ∈ wAll, w.before _ s = true := fun w h => hts0 w (List.mem_cons_of_mem _ h)
  have hown : s.vm.findClass RL = some m.cls := findClass_of_methodNamed B.named
  have hlocks := B.notSynchronized
  have htab := vx_table (x := yL_traced) B (hts0 _ List.mem_cons_self)
  subst hsz
  have hD := hD0.self (sz := s.heap.size)
  generalize hAe : va_A [(h0, .inr (12, [.ref vC, .ref vP, .ref vT, .ref vS, .ref vF, .ref vN, .ref vY, .int 0])), (vC, .inr (3, [.ref sS, .ref sJ, .int 0, .int 0]))] s.heap.size = A at hD hY ⊢
  have hA : ∀ q : Nat, s.heap.size ≤ q → A q := fun q h => by rw [← hAe]; exact Or.inr h
  have hS : va_S A s.heap s.heap [] := va_S.rf
  have hP : va_P D vwCl [(h0, .inr (12, [.ref vC, .ref vP, .ref vT, .ref vS, .ref vF, .ref vN, .ref vY, .int 0])), (vC, .inr (3, [.ref sS, .ref sJ, .int 0, .int 0]))] s.heap := hP
  have hl := lv_entry ([.ref h0, .int a1, .int a2, .ref o1]) (n := 5) (Nat.le_of_ble_eq_true rfl)
  rw [lg_entry_eq]
  generalize (lg_sl ([.ref h0, .int a1, .int a2, .ref o1]) ++ List.replicate (5 - (lg_sl ([.ref h0, .int a1, .int a2, .ref o1])).length) Slot.unset).toArray = ls at hl ⊢
  have hl : lv_has ls 5 [(0, .ref h0), (1, .int a1), (2, .int a2), (3, .ref o1)] := hl
  refine z_anyQ (fun Q hQe => ?_)
  refine lv_aload_n hx hb dL_traced_0 rfl (lv_at hl 3 rfl) ?_
  refine lv_iconst (v := 0) hx hb dL_traced_1 (by decide) ?_
  refine lv_aload_n hx hb dL_traced_2 rfl (lv_at hl 0 rfl) ?_
  refine lv_iload_n hx hb dL_traced_3 rfl (lv_at hl 1 rfl) ?_
  refine lv_iload_n hx hb dL_traced_4 rfl (lv_at hl 2 rfl) ?_
  refine zx_catch (wc := [(h0, .inr (12, [.ref vC, .ref vP, .ref vT, .ref vS, .ref vF, .ref vN, .ref vY, .int 0])), (vC, .inr (3, [.ref sS, .ref sJ, .int 0, .int 0]))]) (wr := []) (vx_runV (As := [.int a1, .int a2]) (rest := [.int 0, .ref o1]) ⟨hx, hb, hml, hown, hts⟩ (f_traced l hlt D cy h0 vC vP vT vS vF vN vY sS sJ a1 a2 s.heap.size ) (cwV 2 hts (gzV (gz q449) q448 q450 q451 q174) rfl rfl rfl vX9_traced ⟨Nat.le_of_ble_eq_true rfl, Nat.le_of_ble_eq_true rfl⟩) (zpV (ci := 12) (T := TX9) (N := 8) (q0 := 0) hK hX hY hP hD hS hA [0, 1] (by decide) rfl rfl rfl) rfl rfl hl.1 rfl (lv_room (Nat.le_of_ble_eq_true rfl)) dL_traced_5 ⟨Nat.le_of_ble_eq_true rfl, Nat.le_of_ble_eq_true rfl⟩) hP hD hS hA [0, 1] [] rfl rfl (by decide) (by decide) hown [] ⟨0, 10, 13, 19⟩ [⟨0, 10, 17, 21⟩] htab (fun z hz => by cases hz) rfl (by decide) (hts _ q407) hX.1.1.1 (fun q9 H locs hP hD hS => ?_)
  have hP : va_P D vwCl [] H := hP
  have hD : va_D A [] := hD
  refine W.widen (k := 1) (n := 6) (by omega) (by omega) ?_
  refine lv_astore (lv' := [(4, .ref q9), (0, .ref h0), (1, .int a1), (2, .int a2), (3, .ref o1)]) hx hb dL_traced_13 hl (by decide) rfl (fun ls hl => ?_)
  refine lv_iconst (v := 1) hx hb dL_traced_15 (by decide) ?_
  have hP9 := hP.sub (ws' := []) [] rfl
  have hD9 := hD.sub (ws' := []) [] (by decide) rfl
  refine W.widen (k := 1) (n := 6) (Nat.le_of_ble_eq_true rfl) (Nat.le_of_ble_eq_true rfl) ?_
  rw [hQe]
  exact W.iret (v := 1) hx hb hr (fun t ht hW => ⟨⟨1, (), rfl, rfl, ⟨by rw [ht]; exact hP9, hD9⟩⟩, hS.F ht⟩) hS.2.2 dL_traced_16
set_option maxHeartbeats 4000000 in
set_option maxRecDepth 100000 in
/-- the law's call of peak: it throws -/
theorem w_peak (l : Launch) (hlt : l.stackTraces = false) (D : va_G) (cy : Nat → ClassId) (h0 : Nat) (vC : Nat) (vP : Nat) (vT : Nat) (vS : Nat) (vF : Nat) (vN : Nat) (vY : Nat) (sS : Nat) (sJ : Nat) (a1 : Int32) (o1 : Nat) (sz : Nat)  : Met l yL_peak (wzW yL_peak cL_peak 4 (some .int) [(0, 9, 12, 19), (0, 9, 15, 42)]) ({ frames := 8, cells := 1, slots := 6, locals := 125 } : Room) (va_Pc [.ref h0, .int a1, .ref o1] (zPre vwCl D cy [(h0, .inr (12, [.ref vC, .ref vP, .ref vT, .ref vS, .ref vF, .ref vN, .ref vY, .int 0])), (vC, .inr (3, [.ref sS, .ref sJ, .int 0, .int 0]))] sz)) (va_Qi (fun (r : Int32) (_ : Unit) => r = 1) (fun (u : Unit) t => zPost vwCl D (va_A [(h0, .inr (12, [.ref vC, .ref vP, .ref vT, .ref vS, .ref vF, .ref vN, .ref vY, .int 0])), (vC, .inr (3, [.ref sS, .ref sJ, .int 0, .int 0]))] sz) [] t) (va_A [(h0, .inr (12, [.ref vC, .ref vP, .ref vT, .ref vS, .ref vF, .ref vN, .ref vY, .int 0])), (vC, .inr (3, [.ref sS, .ref sJ, .int 0, .int 0]))] sz)) 1 6 (va_A [(h0, .inr (12, [.ref vC, .ref vP, .ref vT, .ref vS, .ref vF, .ref vN, .ref vY, .int 0])), (vC, .inr (3, [.ref sS, .ref sJ, .int 0, .int 0]))] sz) := by
  refine va_MetW (cc := cL_peak) (maxL := 4) (ret := (some .int)) (hh := [(0, 9, 12, 19), (0, 9, 15, 42)]) (by decide) rfl ?_
  intro p e s m args below meth c s₁ B hml hv
  obtain ⟨rfl, hsz, hP, hK, hD0, hX, hY⟩ := hv
  have hx := B.exec
  have hb := B.bytes
  have hr := B.returns
  have hts0 := atoms_spec (ws := wzW yL_peak cL_peak 4 (some .int) [(0, 9, 12, 19), (0, 9, 15, 42)]) B.pre
  have hts : ∀ w ∈ wAll, w.before _ s = true := fun w h => hts0 w (List.mem_cons_of_mem _ h)
  have hown : s.vm.findClass RL = some m.cls := findClass_of_methodNamed B.named
  have hlocks := B.notSynchronized
  have htab := vx_table (x := yL_peak) B (hts0 _ List.mem_cons_self)
  subst hsz
  have hD := hD0.self (sz := s.heap.size)
  generalize hAe : va_A [(h0, .inr (12, [.ref vC, .ref vP, .ref vT, .ref vS, .ref vF, .ref vN, .ref vY, .int 0])), (vC, .inr (3, [.ref sS, .ref sJ, .int 0, .int 0]))] s.heap.size = A at hD hY ⊢
  have hA : ∀ q : Nat, s.heap.size ≤ q → A q := fun q h => by rw [← hAe]; exact Or.inr h
  have hS : va_S A s.heap s.heap [] := va_S.rf
  have hP : va_P D vwCl [(h0, .inr (12, [.ref vC, .ref vP, .ref vT, .ref vS, .ref vF, .ref vN, .ref vY, .int 0])), (vC, .inr (3, [.ref sS, .ref sJ, .int 0, .int 0]))] s.heap := hP
  have hl := lv_entry ([.ref h0, .int a1, .ref o1]) (n := 4) (Nat.le_of_ble_eq_true rfl)
  rw [lg_entry_eq]
  generalize (lg_sl ([.ref h0, .int a1, .ref o1]) ++ List.replicate (4 - (lg_sl ([.ref h0, .int a1, .ref o1])).length) Slot.unset).toArray = ls at hl ⊢
  have hl : lv_has ls 4 [(0, .ref h0), (1, .int a1), (2, .ref o1)] := hl
  refine z_anyQ (fun Q hQe => ?_)
  refine lv_aload_n hx hb dL_peak_0 rfl (lv_at hl 2 rfl) ?_
  refine lv_iconst (v := 0) hx hb dL_peak_1 (by decide) ?_
  refine lv_aload_n hx hb dL_peak_2 rfl (lv_at hl 0 rfl) ?_
  refine lv_iload_n hx hb dL_peak_3 rfl (lv_at hl 1 rfl) ?_
  refine zx_catch (wc := [(h0, .inr (12, [.ref vC, .ref vP, .ref vT, .ref vS, .ref vF, .ref vN, .ref vY, .int 0])), (vC, .inr (3, [.ref sS, .ref sJ, .int 0, .int 0]))]) (wr := []) (vx_runV (As := [.int a1]) (rest := [.int 0, .ref o1]) ⟨hx, hb, hml, hown, hts⟩ (f_peak l hlt D cy h0 vC vP vT vS vF vN vY sS sJ a1 s.heap.size ) (cwV 1 hts (gzV (gz q453) q452 q454 q455 q174) rfl rfl rfl vX9_peak ⟨Nat.le_of_ble_eq_true rfl, Nat.le_of_ble_eq_true rfl⟩) (zpV (ci := 12) (T := TX9) (N := 8) (q0 := 0) hK hX hY hP hD hS hA [0, 1] (by decide) rfl rfl rfl) rfl rfl hl.1 rfl (lv_room (Nat.le_of_ble_eq_true rfl)) dL_peak_4 ⟨Nat.le_of_ble_eq_true rfl, Nat.le_of_ble_eq_true rfl⟩) hP hD hS hA [0, 1] [] rfl rfl (by decide) (by decide) hown [] ⟨0, 9, 12, 19⟩ [⟨0, 9, 15, 42⟩] htab (fun z hz => by cases hz) rfl (by decide) (hts _ q407) hX.1.1.1 (fun q9 H locs hP hD hS => ?_)
  have hP : va_P D vwCl [] H := hP
  have hD : va_D A [] := hD
  refine W.widen (k := 1) (n := 6) (by omega) (by omega) ?_
  refine lv_astore_n (lv' := [(3, .ref q9), (0, .ref h0), (1, .int a1), (2, .ref o1)]) hx hb dL_peak_12 rfl hl (by decide) rfl (fun ls hl => ?_)
  refine lv_iconst (v := 1) hx hb dL_peak_13 (by decide) ?_
  have hP9 := hP.sub (ws' := []) [] rfl
  have hD9 := hD.sub (ws' := []) [] (by decide) rfl
  refine W.widen (k := 1) (n := 6) (Nat.le_of_ble_eq_true rfl) (Nat.le_of_ble_eq_true rfl) ?_
  rw [hQe]
  exact W.iret (v := 1) hx hb hr (fun t ht hW => ⟨⟨1, (), rfl, rfl, ⟨by rw [ht]; exact hP9, hD9⟩⟩, hS.F ht⟩) hS.2.2 dL_peak_14
set_option maxHeartbeats 4000000 in
set_option maxRecDepth 100000 in
/-- the law's call of sump: it throws -/
theorem w_sump (l : Launch) (hlt : l.stackTraces = false) (D : va_G) (cy : Nat → ClassId) (h0 : Nat) (vC : Nat) (vP : Nat) (vT : Nat) (vS : Nat) (vF : Nat) (vN : Nat) (vY : Nat) (sS : Nat) (sJ : Nat) (a1 : Int32) (a2 : Int32) (o1 : Nat) (sz : Nat)  : Met l yL_sump (wzW yL_sump cL_sump 5 (some .int) [(0, 10, 13, 19), (0, 10, 17, 21)]) ({ frames := 8, cells := 1, slots := 6, locals := 126 } : Room) (va_Pc [.ref h0, .int a1, .int a2, .ref o1] (zPre vwCl D cy [(h0, .inr (12, [.ref vC, .ref vP, .ref vT, .ref vS, .ref vF, .ref vN, .ref vY, .int 0])), (vC, .inr (3, [.ref sS, .ref sJ, .int 0, .int 0]))] sz)) (va_Qi (fun (r : Int32) (_ : Unit) => r = 1) (fun (u : Unit) t => zPost vwCl D (va_A [(h0, .inr (12, [.ref vC, .ref vP, .ref vT, .ref vS, .ref vF, .ref vN, .ref vY, .int 0])), (vC, .inr (3, [.ref sS, .ref sJ, .int 0, .int 0]))] sz) [] t) (va_A [(h0, .inr (12, [.ref vC, .ref vP, .ref vT, .ref vS, .ref vF, .ref vN, .ref vY, .int 0])), (vC, .inr (3, [.ref sS, .ref sJ, .int 0, .int 0]))] sz)) 1 6 (va_A [(h0, .inr (12, [.ref vC, .ref vP, .ref vT, .ref vS, .ref vF, .ref vN, .ref vY, .int 0])), (vC, .inr (3, [.ref sS, .ref sJ, .int 0, .int 0]))] sz) := by
  refine va_MetW (cc := cL_sump) (maxL := 5) (ret := (some .int)) (hh := [(0, 10, 13, 19), (0, 10, 17, 21)]) (by decide) rfl ?_
  intro p e s m args below meth c s₁ B hml hv
  obtain ⟨rfl, hsz, hP, hK, hD0, hX, hY⟩ := hv
  have hx := B.exec
  have hb := B.bytes
  have hr := B.returns
  have hts0 := atoms_spec (ws := wzW yL_sump cL_sump 5 (some .int) [(0, 10, 13, 19), (0, 10, 17, 21)]) B.pre
  have hts : ∀ w ∈ wAll, w.before _ s = true := fun w h => hts0 w (List.mem_cons_of_mem _ h)
  have hown : s.vm.findClass RL = some m.cls := findClass_of_methodNamed B.named
  have hlocks := B.notSynchronized
  have htab := vx_table (x := yL_sump) B (hts0 _ List.mem_cons_self)
  subst hsz
  have hD := hD0.self (sz := s.heap.size)
  generalize hAe : va_A [(h0, .inr (12, [.ref vC, .ref vP, .ref vT, .ref vS, .ref vF, .ref vN, .ref vY, .int 0])), (vC, .inr (3, [.ref sS, .ref sJ, .int 0, .int 0]))] s.heap.size = A at hD hY ⊢
  have hA : ∀ q : Nat, s.heap.size ≤ q → A q := fun q h => by rw [← hAe]; exact Or.inr h
  have hS : va_S A s.heap s.heap [] := va_S.rf
  have hP : va_P D vwCl [(h0, .inr (12, [.ref vC, .ref vP, .ref vT, .ref vS, .ref vF, .ref vN, .ref vY, .int 0])), (vC, .inr (3, [.ref sS, .ref sJ, .int 0, .int 0]))] s.heap := hP
  have hl := lv_entry ([.ref h0, .int a1, .int a2, .ref o1]) (n := 5) (Nat.le_of_ble_eq_true rfl)
  rw [lg_entry_eq]
  generalize (lg_sl ([.ref h0, .int a1, .int a2, .ref o1]) ++ List.replicate (5 - (lg_sl ([.ref h0, .int a1, .int a2, .ref o1])).length) Slot.unset).toArray = ls at hl ⊢
  have hl : lv_has ls 5 [(0, .ref h0), (1, .int a1), (2, .int a2), (3, .ref o1)] := hl
  refine z_anyQ (fun Q hQe => ?_)
  refine lv_aload_n hx hb dL_sump_0 rfl (lv_at hl 3 rfl) ?_
  refine lv_iconst (v := 0) hx hb dL_sump_1 (by decide) ?_
  refine lv_aload_n hx hb dL_sump_2 rfl (lv_at hl 0 rfl) ?_
  refine lv_iload_n hx hb dL_sump_3 rfl (lv_at hl 1 rfl) ?_
  refine lv_iload_n hx hb dL_sump_4 rfl (lv_at hl 2 rfl) ?_
  refine zx_catch (wc := [(h0, .inr (12, [.ref vC, .ref vP, .ref vT, .ref vS, .ref vF, .ref vN, .ref vY, .int 0])), (vC, .inr (3, [.ref sS, .ref sJ, .int 0, .int 0]))]) (wr := []) (vx_runV (As := [.int a1, .int a2]) (rest := [.int 0, .ref o1]) ⟨hx, hb, hml, hown, hts⟩ (f_sump l hlt D cy h0 vC vP vT vS vF vN vY sS sJ a1 a2 s.heap.size ) (cwV 2 hts (gzV (gz q457) q456 q458 q459 q174) rfl rfl rfl vX9_sump ⟨Nat.le_of_ble_eq_true rfl, Nat.le_of_ble_eq_true rfl⟩) (zpV (ci := 12) (T := TX9) (N := 8) (q0 := 0) hK hX hY hP hD hS hA [0, 1] (by decide) rfl rfl rfl) rfl rfl hl.1 rfl (lv_room (Nat.le_of_ble_eq_true rfl)) dL_sump_5 ⟨Nat.le_of_ble_eq_true rfl, Nat.le_of_ble_eq_true rfl⟩) hP hD hS hA [0, 1] [] rfl rfl (by decide) (by decide) hown [] ⟨0, 10, 13, 19⟩ [⟨0, 10, 17, 21⟩] htab (fun z hz => by cases hz) rfl (by decide) (hts _ q407) hX.1.1.1 (fun q9 H locs hP hD hS => ?_)
  have hP : va_P D vwCl [] H := hP
  have hD : va_D A [] := hD
  refine W.widen (k := 1) (n := 6) (by omega) (by omega) ?_
  refine lv_astore (lv' := [(4, .ref q9), (0, .ref h0), (1, .int a1), (2, .int a2), (3, .ref o1)]) hx hb dL_sump_13 hl (by decide) rfl (fun ls hl => ?_)
  refine lv_iconst (v := 1) hx hb dL_sump_15 (by decide) ?_
  have hP9 := hP.sub (ws' := []) [] rfl
  have hD9 := hD.sub (ws' := []) [] (by decide) rfl
  refine W.widen (k := 1) (n := 6) (Nat.le_of_ble_eq_true rfl) (Nat.le_of_ble_eq_true rfl) ?_
  rw [hQe]
  exact W.iret (v := 1) hx hb hr (fun t ht hW => ⟨⟨1, (), rfl, rfl, ⟨by rw [ht]; exact hP9, hD9⟩⟩, hS.F ht⟩) hS.2.2 dL_sump_16
set_option maxHeartbeats 4000000 in
set_option maxRecDepth 100000 in
/-- the law's call of isClosed: it throws -/
theorem w_isClosed (l : Launch) (hlt : l.stackTraces = false) (D : va_G) (cy : Nat → ClassId) (h0 : Nat) (vC : Nat) (vP : Nat) (vT : Nat) (vS : Nat) (vF : Nat) (vN : Nat) (vY : Nat) (sS : Nat) (sJ : Nat) (a1 : Int32) (a2 : Int32) (o1 : Nat) (sz : Nat)  : Met l yL_isClosed (wzW yL_isClosed cL_isClosed 5 (some .int) [(0, 17, 20, 19), (0, 17, 24, 21)]) ({ frames := 8, cells := 1, slots := 6, locals := 125 } : Room) (va_Pc [.ref h0, .int a1, .int a2, .ref o1] (zPre vwCl D cy [(h0, .inr (12, [.ref vC, .ref vP, .ref vT, .ref vS, .ref vF, .ref vN, .ref vY, .int 0])), (vC, .inr (3, [.ref sS, .ref sJ, .int 0, .int 0]))] sz)) (va_Qi (fun (r : Int32) (_ : Unit) => r = 1) (fun (u : Unit) t => zPost vwCl D (va_A [(h0, .inr (12, [.ref vC, .ref vP, .ref vT, .ref vS, .ref vF, .ref vN, .ref vY, .int 0])), (vC, .inr (3, [.ref sS, .ref sJ, .int 0, .int 0]))] sz) [] t) (va_A [(h0, .inr (12, [.ref vC, .ref vP, .ref vT, .ref vS, .ref vF, .ref vN, .ref vY, .int 0])), (vC, .inr (3, [.ref sS, .ref sJ, .int 0, .int 0]))] sz)) 1 6 (va_A [(h0, .inr (12, [.ref vC, .ref vP, .ref vT, .ref vS, .ref vF, .ref vN, .ref vY, .int 0])), (vC, .inr (3, [.ref sS, .ref sJ, .int 0, .int 0]))] sz) := by
  refine va_MetW (cc := cL_isClosed) (maxL := 5) (ret := (some .int)) (hh := [(0, 17, 20, 19), (0, 17, 24, 21)]) (by decide) rfl ?_
  intro p e s m args below meth c s₁ B hml hv
  obtain ⟨rfl, hsz, hP, hK, hD0, hX, hY⟩ := hv
  have hx := B.exec
  have hb := B.bytes
  have hr := B.returns
  have hts0 := atoms_spec (ws := wzW yL_isClosed cL_isClosed 5 (some .int) [(0, 17, 20, 19), (0, 17, 24, 21)]) B.pre
  have hts : ∀ w ∈ wAll, w.before _ s = true := fun w h => hts0 w (List.mem_cons_of_mem _ h)
  have hown : s.vm.findClass RL = some m.cls := findClass_of_methodNamed B.named
  have hlocks := B.notSynchronized
  have htab := vx_table (x := yL_isClosed) B (hts0 _ List.mem_cons_self)
  subst hsz
  have hD := hD0.self (sz := s.heap.size)
  generalize hAe : va_A [(h0, .inr (12, [.ref vC, .ref vP, .ref vT, .ref vS, .ref vF, .ref vN, .ref vY, .int 0])), (vC, .inr (3, [.ref sS, .ref sJ, .int 0, .int 0]))] s.heap.size = A at hD hY ⊢
  have hA : ∀ q : Nat, s.heap.size ≤ q → A q := fun q h => by rw [← hAe]; exact Or.inr h
  have hS : va_S A s.heap s.heap [] := va_S.rf
  have hP : va_P D vwCl [(h0, .inr (12, [.ref vC, .ref vP, .ref vT, .ref vS, .ref vF, .ref vN, .ref vY, .int 0])), (vC, .inr (3, [.ref sS, .ref sJ, .int 0, .int 0]))] s.heap := hP
  have hl := lv_entry ([.ref h0, .int a1, .int a2, .ref o1]) (n := 5) (Nat.le_of_ble_eq_true rfl)
  rw [lg_entry_eq]
  generalize (lg_sl ([.ref h0, .int a1, .int a2, .ref o1]) ++ List.replicate (5 - (lg_sl ([.ref h0, .int a1, .int a2, .ref o1])).length) Slot.unset).toArray = ls at hl ⊢
  have hl : lv_has ls 5 [(0, .ref h0), (1, .int a1), (2, .int a2), (3, .ref o1)] := hl
  refine z_anyQ (fun Q hQe => ?_)
  refine lv_aload_n hx hb dL_isClosed_0 rfl (lv_at hl 3 rfl) ?_
  refine lv_iconst (v := 0) hx hb dL_isClosed_1 (by decide) ?_
  refine lv_aload_n hx hb dL_isClosed_2 rfl (lv_at hl 0 rfl) ?_
  refine lv_iload_n hx hb dL_isClosed_3 rfl (lv_at hl 1 rfl) ?_
  refine lv_iload_n hx hb dL_isClosed_4 rfl (lv_at hl 2 rfl) ?_
  refine zx_catch (wc := [(h0, .inr (12, [.ref vC, .ref vP, .ref vT, .ref vS, .ref vF, .ref vN, .ref vY, .int 0])), (vC, .inr (3, [.ref sS, .ref sJ, .int 0, .int 0]))]) (wr := []) (vx_runV (As := [.int a1, .int a2]) (rest := [.int 0, .ref o1]) ⟨hx, hb, hml, hown, hts⟩ (f_isClosed l hlt D cy h0 vC vP vT vS vF vN vY sS sJ a1 a2 s.heap.size ) (cwV 2 hts (gzV (gz q461) q460 q462 q463 q174) rfl rfl rfl vX9_isClosed ⟨Nat.le_of_ble_eq_true rfl, Nat.le_of_ble_eq_true rfl⟩) (zpV (ci := 12) (T := TX9) (N := 8) (q0 := 0) hK hX hY hP hD hS hA [0, 1] (by decide) rfl rfl rfl) rfl rfl hl.1 rfl (lv_room (Nat.le_of_ble_eq_true rfl)) dL_isClosed_5 ⟨Nat.le_of_ble_eq_true rfl, Nat.le_of_ble_eq_true rfl⟩) hP hD hS hA [0, 1] [] rfl rfl (by decide) (by decide) hown [] ⟨0, 17, 20, 19⟩ [⟨0, 17, 24, 21⟩] htab (fun z hz => by cases hz) rfl (by decide) (hts _ q407) hX.1.1.1 (fun q9 H locs hP hD hS => ?_)
  have hP : va_P D vwCl [] H := hP
  have hD : va_D A [] := hD
  refine W.widen (k := 1) (n := 6) (by omega) (by omega) ?_
  refine lv_astore (lv' := [(4, .ref q9), (0, .ref h0), (1, .int a1), (2, .int a2), (3, .ref o1)]) hx hb dL_isClosed_20 hl (by decide) rfl (fun ls hl => ?_)
  refine lv_iconst (v := 1) hx hb dL_isClosed_22 (by decide) ?_
  have hP9 := hP.sub (ws' := []) [] rfl
  have hD9 := hD.sub (ws' := []) [] (by decide) rfl
  refine W.widen (k := 1) (n := 6) (Nat.le_of_ble_eq_true rfl) (Nat.le_of_ble_eq_true rfl) ?_
  rw [hQe]
  exact W.iret (v := 1) hx hb hr (fun t ht hW => ⟨⟨1, (), rfl, rfl, ⟨by rw [ht]; exact hP9, hD9⟩⟩, hS.F ht⟩) hS.2.2 dL_isClosed_23
set_option maxHeartbeats 4000000 in
set_option maxRecDepth 100000 in
/-- the law's call of party: it throws -/
theorem w_party (l : Launch) (hlt : l.stackTraces = false) (D : va_G) (cy : Nat → ClassId) (h0 : Nat) (vC : Nat) (vP : Nat) (vT : Nat) (vS : Nat) (vF : Nat) (vN : Nat) (vY : Nat) (sS : Nat) (sJ : Nat) (a1 : Int32) (o1 : Nat) (sz : Nat)  : Met l yL_party (wzW yL_party cL_party 4 (some .int) [(0, 9, 12, 19), (0, 9, 15, 13)]) ({ frames := 8, cells := 1, slots := 6, locals := 124 } : Room) (va_Pc [.ref h0, .int a1, .ref o1] (zPre vwCl D cy [(h0, .inr (12, [.ref vC, .ref vP, .ref vT, .ref vS, .ref vF, .ref vN, .ref vY, .int 0])), (vC, .inr (3, [.ref sS, .ref sJ, .int 0, .int 0]))] sz)) (va_Qi (fun (r : Int32) (_ : Unit) => r = 1) (fun (u : Unit) t => zPost vwCl D (va_A [(h0, .inr (12, [.ref vC, .ref vP, .ref vT, .ref vS, .ref vF, .ref vN, .ref vY, .int 0])), (vC, .inr (3, [.ref sS, .ref sJ, .int 0, .int 0]))] sz) [] t) (va_A [(h0, .inr (12, [.ref vC, .ref vP, .ref vT, .ref vS, .ref vF, .ref vN, .ref vY, .int 0])), (vC, .inr (3, [.ref sS, .ref sJ, .int 0, .int 0]))] sz)) 1 6 (va_A [(h0, .inr (12, [.ref vC, .ref vP, .ref vT, .ref vS, .ref vF, .ref vN, .ref vY, .int 0])), (vC, .inr (3, [.ref sS, .ref sJ, .int 0, .int 0]))] sz) := by
  refine va_MetW (cc := cL_party) (maxL := 4) (ret := (some .int)) (hh := [(0, 9, 12, 19), (0, 9, 15, 13)]) (by decide) rfl ?_
  intro p e s m args below meth c s₁ B hml hv
  obtain ⟨rfl, hsz, hP, hK, hD0, hX, hY⟩ := hv
  have hx := B.exec
  have hb := B.bytes
  have hr := B.returns
  have hts0 := atoms_spec (ws := wzW yL_party cL_party 4 (some .int) [(0, 9, 12, 19), (0, 9, 15, 13)]) B.pre
  have hts : ∀ w ∈ wAll, w.before _ s = true := fun w h => hts0 w (List.mem_cons_of_mem _ h)
  have hown : s.vm.findClass RL = some m.cls := findClass_of_methodNamed B.named
  have hlocks := B.notSynchronized
  have htab := vx_table (x := yL_party) B (hts0 _ List.mem_cons_self)
  subst hsz
  have hD := hD0.self (sz := s.heap.size)
  generalize hAe : va_A [(h0, .inr (12, [.ref vC, .ref vP, .ref vT, .ref vS, .ref vF, .ref vN, .ref vY, .int 0])), (vC, .inr (3, [.ref sS, .ref sJ, .int 0, .int 0]))] s.heap.size = A at hD hY ⊢
  have hA : ∀ q : Nat, s.heap.size ≤ q → A q := fun q h => by rw [← hAe]; exact Or.inr h
  have hS : va_S A s.heap s.heap [] := va_S.rf
  have hP : va_P D vwCl [(h0, .inr (12, [.ref vC, .ref vP, .ref vT, .ref vS, .ref vF, .ref vN, .ref vY, .int 0])), (vC, .inr (3, [.ref sS, .ref sJ, .int 0, .int 0]))] s.heap := hP
  have hl := lv_entry ([.ref h0, .int a1, .ref o1]) (n := 4) (Nat.le_of_ble_eq_true rfl)
  rw [lg_entry_eq]
  generalize (lg_sl ([.ref h0, .int a1, .ref o1]) ++ List.replicate (4 - (lg_sl ([.ref h0, .int a1, .ref o1])).length) Slot.unset).toArray = ls at hl ⊢
  have hl : lv_has ls 4 [(0, .ref h0), (1, .int a1), (2, .ref o1)] := hl
  refine z_anyQ (fun Q hQe => ?_)
  refine lv_aload_n hx hb dL_party_0 rfl (lv_at hl 2 rfl) ?_
  refine lv_iconst (v := 0) hx hb dL_party_1 (by decide) ?_
  refine lv_aload_n hx hb dL_party_2 rfl (lv_at hl 0 rfl) ?_
  refine lv_iload_n hx hb dL_party_3 rfl (lv_at hl 1 rfl) ?_
  refine zx_catch (wc := [(h0, .inr (12, [.ref vC, .ref vP, .ref vT, .ref vS, .ref vF, .ref vN, .ref vY, .int 0])), (vC, .inr (3, [.ref sS, .ref sJ, .int 0, .int 0]))]) (wr := []) (vx_runV (As := [.int a1]) (rest := [.int 0, .ref o1]) ⟨hx, hb, hml, hown, hts⟩ (f_party l hlt D cy h0 vC vP vT vS vF vN vY sS sJ a1 s.heap.size ) (cwV 1 hts (gzV (gz q465) q464 q466 q467 q174) rfl rfl rfl vX9_party ⟨Nat.le_of_ble_eq_true rfl, Nat.le_of_ble_eq_true rfl⟩) (zpV (ci := 12) (T := TX9) (N := 8) (q0 := 0) hK hX hY hP hD hS hA [0, 1] (by decide) rfl rfl rfl) rfl rfl hl.1 rfl (lv_room (Nat.le_of_ble_eq_true rfl)) dL_party_4 ⟨Nat.le_of_ble_eq_true rfl, Nat.le_of_ble_eq_true rfl⟩) hP hD hS hA [0, 1] [] rfl rfl (by decide) (by decide) hown [] ⟨0, 9, 12, 19⟩ [⟨0, 9, 15, 13⟩] htab (fun z hz => by cases hz) rfl (by decide) (hts _ q407) hX.1.1.1 (fun q9 H locs hP hD hS => ?_)
  have hP : va_P D vwCl [] H := hP
  have hD : va_D A [] := hD
  refine W.widen (k := 1) (n := 6) (by omega) (by omega) ?_
  refine lv_astore_n (lv' := [(3, .ref q9), (0, .ref h0), (1, .int a1), (2, .ref o1)]) hx hb dL_party_12 rfl hl (by decide) rfl (fun ls hl => ?_)
  refine lv_iconst (v := 1) hx hb dL_party_13 (by decide) ?_
  have hP9 := hP.sub (ws' := []) [] rfl
  have hD9 := hD.sub (ws' := []) [] (by decide) rfl
  refine W.widen (k := 1) (n := 6) (Nat.le_of_ble_eq_true rfl) (Nat.le_of_ble_eq_true rfl) ?_
  rw [hQe]
  exact W.iret (v := 1) hx hb hr (fun t ht hW => ⟨⟨1, (), rfl, rfl, ⟨by rw [ht]; exact hP9, hD9⟩⟩, hS.F ht⟩) hS.2.2 dL_party_14
set_option maxHeartbeats 4000000 in
set_option maxRecDepth 100000 in
/-- the law's call of tell: it throws -/
theorem w_tell (l : Launch) (hlt : l.stackTraces = false) (D : va_G) (cy : Nat → ClassId) (h0 : Nat) (vC : Nat) (vP : Nat) (vT : Nat) (vS : Nat) (vF : Nat) (vN : Nat) (vY : Nat) (a1 : Int32) (a2 : Int32) (o1 : Nat) (sz : Nat)  : Met l yL_tell (wzW yL_tell cL_tell 5 (some .int) [(0, 10, 13, 19)]) ({ frames := 8, cells := 1, slots := 6, locals := 125 } : Room) (va_Pc [.ref h0, .int a1, .int a2, .ref o1] (zPre vwCl D cy [(h0, .inr (12, [.ref vC, .ref vP, .ref vT, .ref vS, .ref vF, .ref vN, .ref vY, .int 0]))] sz)) (va_Qi (fun (r : Int32) (_ : Unit) => r = 1) (fun (u : Unit) t => zPost vwCl D (va_A [(h0, .inr (12, [.ref vC, .ref vP, .ref vT, .ref vS, .ref vF, .ref vN, .ref vY, .int 0]))] sz) [] t) (va_A [(h0, .inr (12, [.ref vC, .ref vP, .ref vT, .ref vS, .ref vF, .ref vN, .ref vY, .int 0]))] sz)) 1 6 (va_A [(h0, .inr (12, [.ref vC, .ref vP, .ref vT, .ref vS, .ref vF, .ref vN, .ref vY, .int 0]))] sz) := by
  refine va_MetW (cc := cL_tell) (maxL := 5) (ret := (some .int)) (hh := [(0, 10, 13, 19)]) (by decide) rfl ?_
  intro p e s m args below meth c s₁ B hml hv
  obtain ⟨rfl, hsz, hP, hK, hD0, hX, hY⟩ := hv
  have hx := B.exec
  have hb := B.bytes
  have hr := B.returns
  have hts0 := atoms_spec (ws := wzW yL_tell cL_tell 5 (some .int) [(0, 10, 13, 19)]) B.pre
  have hts : ∀ w ∈ wAll, w.before _ s = true := fun w h => hts0 w (List.mem_cons_of_mem _ h)
  have hown : s.vm.findClass RL = some m.cls := findClass_of_methodNamed B.named
  have hlocks := B.notSynchronized
  have htab := vx_table (x := yL_tell) B (hts0 _ List.mem_cons_self)
  subst hsz
  have hD := hD0.self (sz := s.heap.size)
  generalize hAe : va_A [(h0, .inr (12, [.ref vC, .ref vP, .ref vT, .ref vS, .ref vF, .ref vN, .ref vY, .int 0]))] s.heap.size = A at hD hY ⊢
  have hA : ∀ q : Nat, s.heap.size ≤ q → A q := fun q h => by rw [← hAe]; exact Or.inr h
  have hS : va_S A s.heap s.heap [] := va_S.rf
  have hP : va_P D vwCl [(h0, .inr (12, [.ref vC, .ref vP, .ref vT, .ref vS, .ref vF, .ref vN, .ref vY, .int 0]))] s.heap := hP
  have hl := lv_entry ([.ref h0, .int a1, .int a2, .ref o1]) (n := 5) (Nat.le_of_ble_eq_true rfl)
  rw [lg_entry_eq]
  generalize (lg_sl ([.ref h0, .int a1, .int a2, .ref o1]) ++ List.replicate (5 - (lg_sl ([.ref h0, .int a1, .int a2, .ref o1])).length) Slot.unset).toArray = ls at hl ⊢
  have hl : lv_has ls 5 [(0, .ref h0), (1, .int a1), (2, .int a2), (3, .ref o1)] := hl
  refine z_anyQ (fun Q hQe => ?_)
  refine lv_aload_n hx hb dL_tell_0 rfl (lv_at hl 3 rfl) ?_
  refine lv_iconst (v := 0) hx hb dL_tell_1 (by decide) ?_
  refine lv_aload_n hx hb dL_tell_2 rfl (lv_at hl 0 rfl) ?_
  refine lv_iload_n hx hb dL_tell_3 rfl (lv_at hl 1 rfl) ?_
  refine lv_iload_n hx hb dL_tell_4 rfl (lv_at hl 2 rfl) ?_
  refine zx_catch (wc := [(h0, .inr (12, [.ref vC, .ref vP, .ref vT, .ref vS, .ref vF, .ref vN, .ref vY, .int 0]))]) (wr := []) (vx_runV (As := [.int a1, .int a2]) (rest := [.int 0, .ref o1]) ⟨hx, hb, hml, hown, hts⟩ (f_tell l hlt D cy h0 vC vP vT vS vF vN vY a1 a2 s.heap.size ) (cwV 2 hts (gzV (gz q469) q468 q470 q471 q174) rfl rfl rfl vX9_tell ⟨Nat.le_of_ble_eq_true rfl, Nat.le_of_ble_eq_true rfl⟩) (zpV (ci := 12) (T := TX9) (N := 8) (q0 := 0) hK hX hY hP hD hS hA [0] (by decide) rfl rfl rfl) rfl rfl hl.1 rfl (lv_room (Nat.le_of_ble_eq_true rfl)) dL_tell_5 ⟨Nat.le_of_ble_eq_true rfl, Nat.le_of_ble_eq_true rfl⟩) hP hD hS hA [0] [] rfl rfl (by decide) (by decide) hown [] ⟨0, 10, 13, 19⟩ [] htab (fun z hz => by cases hz) rfl (by decide) (hts _ q407) hX.1.1.1 (fun q9 H locs hP hD hS => ?_)
  have hP : va_P D vwCl [] H := hP
  have hD : va_D A [] := hD
  refine W.widen (k := 1) (n := 6) (by omega) (by omega) ?_
  refine lv_astore (lv' := [(4, .ref q9), (0, .ref h0), (1, .int a1), (2, .int a2), (3, .ref o1)]) hx hb dL_tell_13 hl (by decide) rfl (fun ls hl => ?_)
  refine lv_iconst (v := 1) hx hb dL_tell_15 (by decide) ?_
  have hP9 := hP.sub (ws' := []) [] rfl
  have hD9 := hD.sub (ws' := []) [] (by decide) rfl
  refine W.widen (k := 1) (n := 6) (Nat.le_of_ble_eq_true rfl) (Nat.le_of_ble_eq_true rfl) ?_
  rw [hQe]
  exact W.iret (v := 1) hx hb hr (fun t ht hW => ⟨⟨1, (), rfl, rfl, ⟨by rw [ht]; exact hP9, hD9⟩⟩, hS.F ht⟩) hS.2.2 dL_tell_16
set_option maxHeartbeats 4000000 in
set_option maxRecDepth 100000 in
/-- the law's call of knows: it throws -/
theorem w_knows (l : Launch) (hlt : l.stackTraces = false) (D : va_G) (cy : Nat → ClassId) (h0 : Nat) (vC : Nat) (vP : Nat) (vT : Nat) (vS : Nat) (vF : Nat) (vN : Nat) (vY : Nat) (a1 : Int32) (a2 : Int32) (o1 : Nat) (sz : Nat)  : Met l yL_knows (wzW yL_knows cL_knows 5 (some .int) [(0, 17, 20, 19)]) ({ frames := 8, cells := 1, slots := 6, locals := 125 } : Room) (va_Pc [.ref h0, .int a1, .int a2, .ref o1] (zPre vwCl D cy [(h0, .inr (12, [.ref vC, .ref vP, .ref vT, .ref vS, .ref vF, .ref vN, .ref vY, .int 0]))] sz)) (va_Qi (fun (r : Int32) (_ : Unit) => r = 1) (fun (u : Unit) t => zPost vwCl D (va_A [(h0, .inr (12, [.ref vC, .ref vP, .ref vT, .ref vS, .ref vF, .ref vN, .ref vY, .int 0]))] sz) [] t) (va_A [(h0, .inr (12, [.ref vC, .ref vP, .ref vT, .ref vS, .ref vF, .ref vN, .ref vY, .int 0]))] sz)) 1 6 (va_A [(h0, .inr (12, [.ref vC, .ref vP, .ref vT, .ref vS, .ref vF, .ref vN, .ref vY, .int 0]))] sz) := by
  refine va_MetW (cc := cL_knows) (maxL := 5) (ret := (some .int)) (hh := [(0, 17, 20, 19)]) (by decide) rfl ?_
  intro p e s m args below meth c s₁ B hml hv
  obtain ⟨rfl, hsz, hP, hK, hD0, hX, hY⟩ := hv
  have hx := B.exec
  have hb := B.bytes
  have hr := B.returns
  have hts0 := atoms_spec (ws := wzW yL_knows cL_knows 5 (some .int) [(0, 17, 20, 19)]) B.pre
  have hts : ∀ w ∈ wAll, w.before _ s = true := fun w h => hts0 w (List.mem_cons_of_mem _ h)
  have hown : s.vm.findClass RL = some m.cls := findClass_of_methodNamed B.named
  have hlocks := B.notSynchronized
  have htab := vx_table (x := yL_knows) B (hts0 _ List.mem_cons_self)
  subst hsz
  have hD := hD0.self (sz := s.heap.size)
  generalize hAe : va_A [(h0, .inr (12, [.ref vC, .ref vP, .ref vT, .ref vS, .ref vF, .ref vN, .ref vY, .int 0]))] s.heap.size = A at hD hY ⊢
  have hA : ∀ q : Nat, s.heap.size ≤ q → A q := fun q h => by rw [← hAe]; exact Or.inr h
  have hS : va_S A s.heap s.heap [] := va_S.rf
  have hP : va_P D vwCl [(h0, .inr (12, [.ref vC, .ref vP, .ref vT, .ref vS, .ref vF, .ref vN, .ref vY, .int 0]))] s.heap := hP
  have hl := lv_entry ([.ref h0, .int a1, .int a2, .ref o1]) (n := 5) (Nat.le_of_ble_eq_true rfl)
  rw [lg_entry_eq]
  generalize (lg_sl ([.ref h0, .int a1, .int a2, .ref o1]) ++ List.replicate (5 - (lg_sl ([.ref h0, .int a1, .int a2, .ref o1])).length) Slot.unset).toArray = ls at hl ⊢
  have hl : lv_has ls 5 [(0, .ref h0), (1, .int a1), (2, .int a2), (3, .ref o1)] := hl
  refine z_anyQ (fun Q hQe => ?_)
  refine lv_aload_n hx hb dL_knows_0 rfl (lv_at hl 3 rfl) ?_
  refine lv_iconst (v := 0) hx hb dL_knows_1 (by decide) ?_
  refine lv_aload_n hx hb dL_knows_2 rfl (lv_at hl 0 rfl) ?_
  refine lv_iload_n hx hb dL_knows_3 rfl (lv_at hl 1 rfl) ?_
  refine lv_iload_n hx hb dL_knows_4 rfl (lv_at hl 2 rfl) ?_
  refine zx_catch (wc := [(h0, .inr (12, [.ref vC, .ref vP, .ref vT, .ref vS, .ref vF, .ref vN, .ref vY, .int 0]))]) (wr := []) (vx_runV (As := [.int a1, .int a2]) (rest := [.int 0, .ref o1]) ⟨hx, hb, hml, hown, hts⟩ (f_knows l hlt D cy h0 vC vP vT vS vF vN vY a1 a2 s.heap.size ) (cwV 2 hts (gzV (gz q473) q472 q474 q475 q174) rfl rfl rfl vX9_knows ⟨Nat.le_of_ble_eq_true rfl, Nat.le_of_ble_eq_true rfl⟩) (zpV (ci := 12) (T := TX9) (N := 8) (q0 := 0) hK hX hY hP hD hS hA [0] (by decide) rfl rfl rfl) rfl rfl hl.1 rfl (lv_room (Nat.le_of_ble_eq_true rfl)) dL_knows_5 ⟨Nat.le_of_ble_eq_true rfl, Nat.le_of_ble_eq_true rfl⟩) hP hD hS hA [0] [] rfl rfl (by decide) (by decide) hown [] ⟨0, 17, 20, 19⟩ [] htab (fun z hz => by cases hz) rfl (by decide) (hts _ q407) hX.1.1.1 (fun q9 H locs hP hD hS => ?_)
  have hP : va_P D vwCl [] H := hP
  have hD : va_D A [] := hD
  refine W.widen (k := 1) (n := 6) (by omega) (by omega) ?_
  refine lv_astore (lv' := [(4, .ref q9), (0, .ref h0), (1, .int a1), (2, .int a2), (3, .ref o1)]) hx hb dL_knows_20 hl (by decide) rfl (fun ls hl => ?_)
  refine lv_iconst (v := 1) hx hb dL_knows_22 (by decide) ?_
  have hP9 := hP.sub (ws' := []) [] rfl
  have hD9 := hD.sub (ws' := []) [] (by decide) rfl
  refine W.widen (k := 1) (n := 6) (Nat.le_of_ble_eq_true rfl) (Nat.le_of_ble_eq_true rfl) ?_
  rw [hQe]
  exact W.iret (v := 1) hx hb hr (fun t ht hW => ⟨⟨1, (), rfl, rfl, ⟨by rw [ht]; exact hP9, hD9⟩⟩, hS.F ht⟩) hS.2.2 dL_knows_23
set_option maxHeartbeats 4000000 in
set_option maxRecDepth 100000 in
/-- the law's call of go: it throws -/
theorem w_go (l : Launch) (hlt : l.stackTraces = false) (D : va_G) (cy : Nat → ClassId) (h0 : Nat) (vC : Nat) (vP : Nat) (vT : Nat) (vS : Nat) (vF : Nat) (vN : Nat) (vY : Nat) (a1 : Int32) (a2 : Int32) (o1 : Nat) (sz : Nat)  : Met l yL_go (wzW yL_go cL_go 5 (some .int) [(0, 10, 13, 19), (0, 10, 17, 71), (0, 10, 21, 13)]) ({ frames := 8, cells := 1, slots := 6, locals := 128 } : Room) (va_Pc [.ref h0, .int a1, .int a2, .ref o1] (zPre vwCl D cy [(h0, .inr (12, [.ref vC, .ref vP, .ref vT, .ref vS, .ref vF, .ref vN, .ref vY, .int 0]))] sz)) (va_Qi (fun (r : Int32) (_ : Unit) => r = 1) (fun (u : Unit) t => zPost vwCl D (va_A [(h0, .inr (12, [.ref vC, .ref vP, .ref vT, .ref vS, .ref vF, .ref vN, .ref vY, .int 0]))] sz) [] t) (va_A [(h0, .inr (12, [.ref vC, .ref vP, .ref vT, .ref vS, .ref vF, .ref vN, .ref vY, .int 0]))] sz)) 1 6 (va_A [(h0, .inr (12, [.ref vC, .ref vP, .ref vT, .ref vS, .ref vF, .ref vN, .ref vY, .int 0]))] sz) := by
  refine va_MetW (cc := cL_go) (maxL := 5) (ret := (some .int)) (hh := [(0, 10, 13, 19), (0, 10, 17, 71), (0, 10, 21, 13)]) (by decide) rfl ?_
  intro p e s m args below meth c s₁ B hml hv
  obtain ⟨rfl, hsz, hP, hK, hD0, hX, hY⟩ := hv
  have hx := B.exec
  have hb := B.bytes
  have hr := B.returns
  have hts0 := atoms_spec (ws := wzW yL_go cL_go 5 (some .int) [(0, 10, 13, 19), (0, 10, 17, 71), (0, 10, 21, 13)]) B.pre
  have hts : ∀ w ∈ wAll, w.before _ s = true := fun w h => hts0 w (List.mem_cons_of_mem _ h)
  have hown : s.vm.findClass RL = some m.cls := findClass_of_methodNamed B.named
  have hlocks := B.notSynchronized
  have htab := vx_table (x := yL_go) B (hts0 _ List.mem_cons_self)
  subst hsz
  have hD := hD0.self (sz := s.heap.size)
  generalize hAe : va_A [(h0, .inr (12, [.ref vC, .ref vP, .ref vT, .ref vS, .ref vF, .ref vN, .ref vY, .int 0]))] s.heap.size = A at hD hY ⊢
  have hA : ∀ q : Nat, s.heap.size ≤ q → A q := fun q h => by rw [← hAe]; exact Or.inr h
  have hS : va_S A s.heap s.heap [] := va_S.rf
  have hP : va_P D vwCl [(h0, .inr (12, [.ref vC, .ref vP, .ref vT, .ref vS, .ref vF, .ref vN, .ref vY, .int 0]))] s.heap := hP
  have hl := lv_entry ([.ref h0, .int a1, .int a2, .ref o1]) (n := 5) (Nat.le_of_ble_eq_true rfl)
  rw [lg_entry_eq]
  generalize (lg_sl ([.ref h0, .int a1, .int a2, .ref o1]) ++ List.replicate (5 - (lg_sl ([.ref h0, .int a1, .int a2, .ref o1])).length) Slot.unset).toArray = ls at hl ⊢
  have hl : lv_has ls 5 [(0, .ref h0), (1, .int a1), (2, .int a2), (3, .ref o1)] := hl
  refine z_anyQ (fun Q hQe => ?_)
  refine lv_aload_n hx hb dL_go_0 rfl (lv_at hl 3 rfl) ?_
  refine lv_iconst (v := 0) hx hb dL_go_1 (by decide) ?_
  refine lv_aload_n hx hb dL_go_2 rfl (lv_at hl 0 rfl) ?_
  refine lv_iload_n hx hb dL_go_3 rfl (lv_at hl 1 rfl) ?_
  refine lv_iload_n hx hb dL_go_4 rfl (lv_at hl 2 rfl) ?_
  refine zx_catch (wc := [(h0, .inr (12, [.ref vC, .ref vP, .ref vT, .ref vS, .ref vF, .ref vN, .ref vY, .int 0]))]) (wr := []) (vx_runV (As := [.int a1, .int a2]) (rest := [.int 0, .ref o1]) ⟨hx, hb, hml, hown, hts⟩ (f_go l hlt D cy h0 vC vP vT vS vF vN vY a1 a2 s.heap.size ) (cwV 2 hts (gzV (gz q477) q476 q478 q479 q174) rfl rfl rfl vX9_go ⟨Nat.le_of_ble_eq_true rfl, Nat.le_of_ble_eq_true rfl⟩) (zpV (ci := 12) (T := TX9) (N := 8) (q0 := 0) hK hX hY hP hD hS hA [0] (by decide) rfl rfl rfl) rfl rfl hl.1 rfl (lv_room (Nat.le_of_ble_eq_true rfl)) dL_go_5 ⟨Nat.le_of_ble_eq_true rfl, Nat.le_of_ble_eq_true rfl⟩) hP hD hS hA [0] [] rfl rfl (by decide) (by decide) hown [] ⟨0, 10, 13, 19⟩ [⟨0, 10, 17, 71⟩, ⟨0, 10, 21, 13⟩] htab (fun z hz => by cases hz) rfl (by decide) (hts _ q407) hX.1.1.1 (fun q9 H locs hP hD hS => ?_)
  have hP : va_P D vwCl [] H := hP
  have hD : va_D A [] := hD
  refine W.widen (k := 1) (n := 6) (by omega) (by omega) ?_
  refine lv_astore (lv' := [(4, .ref q9), (0, .ref h0), (1, .int a1), (2, .int a2), (3, .ref o1)]) hx hb dL_go_13 hl (by decide) rfl (fun ls hl => ?_)
  refine lv_iconst (v := 1) hx hb dL_go_15 (by decide) ?_
  have hP9 := hP.sub (ws' := []) [] rfl
  have hD9 := hD.sub (ws' := []) [] (by decide) rfl
  refine W.widen (k := 1) (n := 6) (Nat.le_of_ble_eq_true rfl) (Nat.le_of_ble_eq_true rfl) ?_
  rw [hQe]
  exact W.iret (v := 1) hx hb hr (fun t ht hW => ⟨⟨1, (), rfl, rfl, ⟨by rw [ht]; exact hP9, hD9⟩⟩, hS.F ht⟩) hS.2.2 dL_go_16
set_option maxHeartbeats 4000000 in
set_option maxRecDepth 100000 in
/-- the law's call of pause: it throws -/
theorem w_pause (l : Launch) (hlt : l.stackTraces = false) (D : va_G) (cy : Nat → ClassId) (h0 : Nat) (vC : Nat) (vP : Nat) (vT : Nat) (vS : Nat) (vF : Nat) (vN : Nat) (vY : Nat) (a1 : Int32) (a2 : Int32) (o1 : Nat) (sz : Nat)  : Met l yL_pause (wzW yL_pause cL_pause 5 (some .int) [(0, 10, 13, 19), (0, 10, 17, 21)]) ({ frames := 8, cells := 1, slots := 6, locals := 125 } : Room) (va_Pc [.ref h0, .int a1, .int a2, .ref o1] (zPre vwCl D cy [(h0, .inr (12, [.ref vC, .ref vP, .ref vT, .ref vS, .ref vF, .ref vN, .ref vY, .int 0]))] sz)) (va_Qi (fun (r : Int32) (_ : Unit) => r = 1) (fun (u : Unit) t => zPost vwCl D (va_A [(h0, .inr (12, [.ref vC, .ref vP, .ref vT, .ref vS, .ref vF, .ref vN, .ref vY, .int 0]))] sz) [] t) (va_A [(h0, .inr (12, [.ref vC, .ref vP, .ref vT, .ref vS, .ref vF, .ref vN, .ref vY, .int 0]))] sz)) 1 6 (va_A [(h0, .inr (12, [.ref vC, .ref vP, .ref vT, .ref vS, .ref vF, .ref vN, .ref vY, .int 0]))] sz) := by
  refine va_MetW (cc := cL_pause) (maxL := 5) (ret := (some .int)) (hh := [(0, 10, 13, 19), (0, 10, 17, 21)]) (by decide) rfl ?_
  intro p e s m args below meth c s₁ B hml hv
  obtain ⟨rfl, hsz, hP, hK, hD0, hX, hY⟩ := hv
  have hx := B.exec
  have hb := B.bytes
  have hr := B.returns
  have hts0 := atoms_spec (ws := wzW yL_pause cL_pause 5 (some .int) [(0, 10, 13, 19), (0, 10, 17, 21)]) B.pre
  have hts : ∀ w ∈ wAll, w.before _ s = true := fun w h => hts0 w (List.mem_cons_of_mem _ h)
  have hown : s.vm.findClass RL = some m.cls := findClass_of_methodNamed B.named
  have hlocks := B.notSynchronized
  have htab := vx_table (x := yL_pause) B (hts0 _ List.mem_cons_self)
  subst hsz
  have hD := hD0.self (sz := s.heap.size)
  generalize hAe : va_A [(h0, .inr (12, [.ref vC, .ref vP, .ref vT, .ref vS, .ref vF, .ref vN, .ref vY, .int 0]))] s.heap.size = A at hD hY ⊢
  have hA : ∀ q : Nat, s.heap.size ≤ q → A q := fun q h => by rw [← hAe]; exact Or.inr h
  have hS : va_S A s.heap s.heap [] := va_S.rf
  have hP : va_P D vwCl [(h0, .inr (12, [.ref vC, .ref vP, .ref vT, .ref vS, .ref vF, .ref vN, .ref vY, .int 0]))] s.heap := hP
  have hl := lv_entry ([.ref h0, .int a1, .int a2, .ref o1]) (n := 5) (Nat.le_of_ble_eq_true rfl)
  rw [lg_entry_eq]
  generalize (lg_sl ([.ref h0, .int a1, .int a2, .ref o1]) ++ List.replicate (5 - (lg_sl ([.ref h0, .int a1, .int a2, .ref o1])).length) Slot.unset).toArray = ls at hl ⊢
  have hl : lv_has ls 5 [(0, .ref h0), (1, .int a1), (2, .int a2), (3, .ref o1)] := hl
  refine z_anyQ (fun Q hQe => ?_)
  refine lv_aload_n hx hb dL_pause_0 rfl (lv_at hl 3 rfl) ?_
  refine lv_iconst (v := 0) hx hb dL_pause_1 (by decide) ?_
  refine lv_aload_n hx hb dL_pause_2 rfl (lv_at hl 0 rfl) ?_
  refine lv_iload_n hx hb dL_pause_3 rfl (lv_at hl 1 rfl) ?_
  refine lv_iload_n hx hb dL_pause_4 rfl (lv_at hl 2 rfl) ?_
  refine zx_catch (wc := [(h0, .inr (12, [.ref vC, .ref vP, .ref vT, .ref vS, .ref vF, .ref vN, .ref vY, .int 0]))]) (wr := []) (vx_runV (As := [.int a1, .int a2]) (rest := [.int 0, .ref o1]) ⟨hx, hb, hml, hown, hts⟩ (f_pause l hlt D cy h0 vC vP vT vS vF vN vY a1 a2 s.heap.size ) (cwV 2 hts (gzV (gz q481) q480 q482 q483 q174) rfl rfl rfl vX9_pause ⟨Nat.le_of_ble_eq_true rfl, Nat.le_of_ble_eq_true rfl⟩) (zpV (ci := 12) (T := TX9) (N := 8) (q0 := 0) hK hX hY hP hD hS hA [0] (by decide) rfl rfl rfl) rfl rfl hl.1 rfl (lv_room (Nat.le_of_ble_eq_true rfl)) dL_pause_5 ⟨Nat.le_of_ble_eq_true rfl, Nat.le_of_ble_eq_true rfl⟩) hP hD hS hA [0] [] rfl rfl (by decide) (by decide) hown [] ⟨0, 10, 13, 19⟩ [⟨0, 10, 17, 21⟩] htab (fun z hz => by cases hz) rfl (by decide) (hts _ q407) hX.1.1.1 (fun q9 H locs hP hD hS => ?_)
  have hP : va_P D vwCl [] H := hP
  have hD : va_D A [] := hD
  refine W.widen (k := 1) (n := 6) (by omega) (by omega) ?_
  refine lv_astore (lv' := [(4, .ref q9), (0, .ref h0), (1, .int a1), (2, .int a2), (3, .ref o1)]) hx hb dL_pause_13 hl (by decide) rfl (fun ls hl => ?_)
  refine lv_iconst (v := 1) hx hb dL_pause_15 (by decide) ?_
  have hP9 := hP.sub (ws' := []) [] rfl
  have hD9 := hD.sub (ws' := []) [] (by decide) rfl
  refine W.widen (k := 1) (n := 6) (Nat.le_of_ble_eq_true rfl) (Nat.le_of_ble_eq_true rfl) ?_
  rw [hQe]
  exact W.iret (v := 1) hx hb hr (fun t ht hW => ⟨⟨1, (), rfl, rfl, ⟨by rw [ht]; exact hP9, hD9⟩⟩, hS.F ht⟩) hS.2.2 dL_pause_16
set_option maxHeartbeats 4000000 in
set_option maxRecDepth 100000 in
/-- the law's call of placeOf: it throws -/
theorem w_placeOf (l : Launch) (hlt : l.stackTraces = false) (D : va_G) (cy : Nat → ClassId) (h0 : Nat) (vC : Nat) (vP : Nat) (vT : Nat) (vS : Nat) (vF : Nat) (vN : Nat) (vY : Nat) (a1 : Int32) (o1 : Nat) (sz : Nat)  : Met l yL_placeOf (wzW yL_placeOf cL_placeOf 4 (some .int) [(0, 9, 12, 19)]) ({ frames := 8, cells := 1, slots := 6, locals := 124 } : Room) (va_Pc [.ref h0, .int a1, .ref o1] (zPre vwCl D cy [(h0, .inr (12, [.ref vC, .ref vP, .ref vT, .ref vS, .ref vF, .ref vN, .ref vY, .int 0]))] sz)) (va_Qi (fun (r : Int32) (_ : Unit) => r = 1) (fun (u : Unit) t => zPost vwCl D (va_A [(h0, .inr (12, [.ref vC, .ref vP, .ref vT, .ref vS, .ref vF, .ref vN, .ref vY, .int 0]))] sz) [] t) (va_A [(h0, .inr (12, [.ref vC, .ref vP, .ref vT, .ref vS, .ref vF, .ref vN, .ref vY, .int 0]))] sz)) 1 6 (va_A [(h0, .inr (12, [.ref vC, .ref vP, .ref vT, .ref vS, .ref vF, .ref vN, .ref vY, .int 0]))] sz) := by
  refine va_MetW (cc := cL_placeOf) (maxL := 4) (ret := (some .int)) (hh := [(0, 9, 12, 19)]) (by decide) rfl ?_
  intro p e s m args below meth c s₁ B hml hv
  obtain ⟨rfl, hsz, hP, hK, hD0, hX, hY⟩ := hv
  have hx := B.exec
  have hb := B.bytes
  have hr := B.returns
  have hts0 := atoms_spec (ws := wzW yL_placeOf cL_placeOf 4 (some .int) [(0, 9, 12, 19)]) B.pre
  have hts : ∀ w ∈ wAll, w.before _ s = true := fun w h => hts0 w (List.mem_cons_of_mem _ h)
  have hown : s.vm.findClass RL = some m.cls := findClass_of_methodNamed B.named
  have hlocks := B.notSynchronized
  have htab := vx_table (x := yL_placeOf) B (hts0 _ List.mem_cons_self)
  subst hsz
  have hD := hD0.self (sz := s.heap.size)
  generalize hAe : va_A [(h0, .inr (12, [.ref vC, .ref vP, .ref vT, .ref vS, .ref vF, .ref vN, .ref vY, .int 0]))] s.heap.size = A at hD hY ⊢
  have hA : ∀ q : Nat, s.heap.size ≤ q → A q := fun q h => by rw [← hAe]; exact Or.inr h
  have hS : va_S A s.heap s.heap [] := va_S.rf
  have hP : va_P D vwCl [(h0, .inr (12, [.ref vC, .ref vP, .ref vT, .ref vS, .ref vF, .ref vN, .ref vY, .int 0]))] s.heap := hP
  have hl := lv_entry ([.ref h0, .int a1, .ref o1]) (n := 4) (Nat.le_of_ble_eq_true rfl)
  rw [lg_entry_eq]
  generalize (lg_sl ([.ref h0, .int a1, .ref o1]) ++ List.replicate (4 - (lg_sl ([.ref h0, .int a1, .ref o1])).length) Slot.unset).toArray = ls at hl ⊢
  have hl : lv_has ls 4 [(0, .ref h0), (1, .int a1), (2, .ref o1)] := hl
  refine z_anyQ (fun Q hQe => ?_)
  refine lv_aload_n hx hb dL_placeOf_0 rfl (lv_at hl 2 rfl) ?_
  refine lv_iconst (v := 0) hx hb dL_placeOf_1 (by decide) ?_
  refine lv_aload_n hx hb dL_placeOf_2 rfl (lv_at hl 0 rfl) ?_
  refine lv_iload_n hx hb dL_placeOf_3 rfl (lv_at hl 1 rfl) ?_
  refine zx_catch (wc := [(h0, .inr (12, [.ref vC, .ref vP, .ref vT, .ref vS, .ref vF, .ref vN, .ref vY, .int 0]))]) (wr := []) (vx_runV (As := [.int a1]) (rest := [.int 0, .ref o1]) ⟨hx, hb, hml, hown, hts⟩ (f_placeOf l hlt D cy h0 vC vP vT vS vF vN vY a1 s.heap.size ) (cwV 1 hts (gzV (gz q485) q484 q486 q487 q174) rfl rfl rfl vX9_placeOf ⟨Nat.le_of_ble_eq_true rfl, Nat.le_of_ble_eq_true rfl⟩) (zpV (ci := 12) (T := TX9) (N := 8) (q0 := 0) hK hX hY hP hD hS hA [0] (by decide) rfl rfl rfl) rfl rfl hl.1 rfl (lv_room (Nat.le_of_ble_eq_true rfl)) dL_placeOf_4 ⟨Nat.le_of_ble_eq_true rfl, Nat.le_of_ble_eq_true rfl⟩) hP hD hS hA [0] [] rfl rfl (by decide) (by decide) hown [] ⟨0, 9, 12, 19⟩ [] htab (fun z hz => by cases hz) rfl (by decide) (hts _ q407) hX.1.1.1 (fun q9 H locs hP hD hS => ?_)
  have hP : va_P D vwCl [] H := hP
  have hD : va_D A [] := hD
  refine W.widen (k := 1) (n := 6) (by omega) (by omega) ?_
  refine lv_astore_n (lv' := [(3, .ref q9), (0, .ref h0), (1, .int a1), (2, .ref o1)]) hx hb dL_placeOf_12 rfl hl (by decide) rfl (fun ls hl => ?_)
  refine lv_iconst (v := 1) hx hb dL_placeOf_13 (by decide) ?_
  have hP9 := hP.sub (ws' := []) [] rfl
  have hD9 := hD.sub (ws' := []) [] (by decide) rfl
  refine W.widen (k := 1) (n := 6) (Nat.le_of_ble_eq_true rfl) (Nat.le_of_ble_eq_true rfl) ?_
  rw [hQe]
  exact W.iret (v := 1) hx hb hr (fun t ht hW => ⟨⟨1, (), rfl, rfl, ⟨by rw [ht]; exact hP9, hD9⟩⟩, hS.F ht⟩) hS.2.2 dL_placeOf_14
set_option maxHeartbeats 4000000 in
set_option maxRecDepth 100000 in
/-- the law's call of hourOf: it throws -/
theorem w_hourOf (l : Launch) (hlt : l.stackTraces = false) (D : va_G) (cy : Nat → ClassId) (h0 : Nat) (vC : Nat) (vP : Nat) (vT : Nat) (vS : Nat) (vF : Nat) (vN : Nat) (vY : Nat) (a1 : Int32) (o1 : Nat) (sz : Nat)  : Met l yL_hourOf (wzW yL_hourOf cL_hourOf 4 (some .int) [(0, 9, 12, 19)]) ({ frames := 8, cells := 1, slots := 6, locals := 124 } : Room) (va_Pc [.ref h0, .int a1, .ref o1] (zPre vwCl D cy [(h0, .inr (12, [.ref vC, .ref vP, .ref vT, .ref vS, .ref vF, .ref vN, .ref vY, .int 0]))] sz)) (va_Qi (fun (r : Int32) (_ : Unit) => r = 1) (fun (u : Unit) t => zPost vwCl D (va_A [(h0, .inr (12, [.ref vC, .ref vP, .ref vT, .ref vS, .ref vF, .ref vN, .ref vY, .int 0]))] sz) [] t) (va_A [(h0, .inr (12, [.ref vC, .ref vP, .ref vT, .ref vS, .ref vF, .ref vN, .ref vY, .int 0]))] sz)) 1 6 (va_A [(h0, .inr (12, [.ref vC, .ref vP, .ref vT, .ref vS, .ref vF, .ref vN, .ref vY, .int 0]))] sz) := by
  refine va_MetW (cc := cL_hourOf) (maxL := 4) (ret := (some .int)) (hh := [(0, 9, 12, 19)]) (by decide) rfl ?_
  intro p e s m args below meth c s₁ B hml hv
  obtain ⟨rfl, hsz, hP, hK, hD0, hX, hY⟩ := hv
  have hx := B.exec
  have hb := B.bytes
  have hr := B.returns
  have hts0 := atoms_spec (ws := wzW yL_hourOf cL_hourOf 4 (some .int) [(0, 9, 12, 19)]) B.pre
  have hts : ∀ w ∈ wAll, w.before _ s = true := fun w h => hts0 w (List.mem_cons_of_mem _ h)
  have hown : s.vm.findClass RL = some m.cls := findClass_of_methodNamed B.named
  have hlocks := B.notSynchronized
  have htab := vx_table (x := yL_hourOf) B (hts0 _ List.mem_cons_self)
  subst hsz
  have hD := hD0.self (sz := s.heap.size)
  generalize hAe : va_A [(h0, .inr (12, [.ref vC, .ref vP, .ref vT, .ref vS, .ref vF, .ref vN, .ref vY, .int 0]))] s.heap.size = A at hD hY ⊢
  have hA : ∀ q : Nat, s.heap.size ≤ q → A q := fun q h => by rw [← hAe]; exact Or.inr h
  have hS : va_S A s.heap s.heap [] := va_S.rf
  have hP : va_P D vwCl [(h0, .inr (12, [.ref vC, .ref vP, .ref vT, .ref vS, .ref vF, .ref vN, .ref vY, .int 0]))] s.heap := hP
  have hl := lv_entry ([.ref h0, .int a1, .ref o1]) (n := 4) (Nat.le_of_ble_eq_true rfl)
  rw [lg_entry_eq]
  generalize (lg_sl ([.ref h0, .int a1, .ref o1]) ++ List.replicate (4 - (lg_sl ([.ref h0, .int a1, .ref o1])).length) Slot.unset).toArray = ls at hl ⊢
  have hl : lv_has ls 4 [(0, .ref h0), (1, .int a1), (2, .ref o1)] := hl
  refine z_anyQ (fun Q hQe => ?_)
  refine lv_aload_n hx hb dL_hourOf_0 rfl (lv_at hl 2 rfl) ?_
  refine lv_iconst (v := 0) hx hb dL_hourOf_1 (by decide) ?_
  refine lv_aload_n hx hb dL_hourOf_2 rfl (lv_at hl 0 rfl) ?_
  refine lv_iload_n hx hb dL_hourOf_3 rfl (lv_at hl 1 rfl) ?_
  refine zx_catch (wc := [(h0, .inr (12, [.ref vC, .ref vP, .ref vT, .ref vS, .ref vF, .ref vN, .ref vY, .int 0]))]) (wr := []) (vx_runV (As := [.int a1]) (rest := [.int 0, .ref o1]) ⟨hx, hb, hml, hown, hts⟩ (f_hourOf l hlt D cy h0 vC vP vT vS vF vN vY a1 s.heap.size ) (cwV 1 hts (gzV (gz q489) q488 q490 q491 q174) rfl rfl rfl vX9_hourOf ⟨Nat.le_of_ble_eq_true rfl, Nat.le_of_ble_eq_true rfl⟩) (zpV (ci := 12) (T := TX9) (N := 8) (q0 := 0) hK hX hY hP hD hS hA [0] (by decide) rfl rfl rfl) rfl rfl hl.1 rfl (lv_room (Nat.le_of_ble_eq_true rfl)) dL_hourOf_4 ⟨Nat.le_of_ble_eq_true rfl, Nat.le_of_ble_eq_true rfl⟩) hP hD hS hA [0] [] rfl rfl (by decide) (by decide) hown [] ⟨0, 9, 12, 19⟩ [] htab (fun z hz => by cases hz) rfl (by decide) (hts _ q407) hX.1.1.1 (fun q9 H locs hP hD hS => ?_)
  have hP : va_P D vwCl [] H := hP
  have hD : va_D A [] := hD
  refine W.widen (k := 1) (n := 6) (by omega) (by omega) ?_
  refine lv_astore_n (lv' := [(3, .ref q9), (0, .ref h0), (1, .int a1), (2, .ref o1)]) hx hb dL_hourOf_12 rfl hl (by decide) rfl (fun ls hl => ?_)
  refine lv_iconst (v := 1) hx hb dL_hourOf_13 (by decide) ?_
  have hP9 := hP.sub (ws' := []) [] rfl
  have hD9 := hD.sub (ws' := []) [] (by decide) rfl
  refine W.widen (k := 1) (n := 6) (Nat.le_of_ble_eq_true rfl) (Nat.le_of_ble_eq_true rfl) ?_
  rw [hQe]
  exact W.iret (v := 1) hx hb hr (fun t ht hW => ⟨⟨1, (), rfl, rfl, ⟨by rw [ht]; exact hP9, hD9⟩⟩, hS.F ht⟩) hS.2.2 dL_hourOf_14
set_option maxHeartbeats 4000000 in
set_option maxRecDepth 100000 in
/-- the law's call of plan: it throws -/
theorem w_plan (l : Launch) (hlt : l.stackTraces = false) (D : va_G) (cy : Nat → ClassId) (h0 : Nat) (vC : Nat) (vP : Nat) (vT : Nat) (vS : Nat) (vF : Nat) (vN : Nat) (vY : Nat) (a1 : Int32) (o1 : Nat) (sz : Nat)  : Met l yL_plan (wzW yL_plan cL_plan 4 (some .int) [(0, 9, 12, 19), (0, 9, 15, 42)]) ({ frames := 9, cells := 1, slots := 6, locals := 145 } : Room) (va_Pc [.ref h0, .int a1, .ref o1] (zPre vwCl D cy [(h0, .inr (12, [.ref vC, .ref vP, .ref vT, .ref vS, .ref vF, .ref vN, .ref vY, .int 0]))] sz)) (va_Qi (fun (r : Int32) (_ : Unit) => r = 1) (fun (u : Unit) t => zPost vwCl D (va_A [(h0, .inr (12, [.ref vC, .ref vP, .ref vT, .ref vS, .ref vF, .ref vN, .ref vY, .int 0]))] sz) [] t) (va_A [(h0, .inr (12, [.ref vC, .ref vP, .ref vT, .ref vS, .ref vF, .ref vN, .ref vY, .int 0]))] sz)) 1 6 (va_A [(h0, .inr (12, [.ref vC, .ref vP, .ref vT, .ref vS, .ref vF, .ref vN, .ref vY, .int 0]))] sz) := by
  refine va_MetW (cc := cL_plan) (maxL := 4) (ret := (some .int)) (hh := [(0, 9, 12, 19), (0, 9, 15, 42)]) (by decide) rfl ?_
  intro p e s m args below meth c s₁ B hml hv
  obtain ⟨rfl, hsz, hP, hK, hD0, hX, hY⟩ := hv
  have hx := B.exec
  have hb := B.bytes
  have hr := B.returns
  have hts0 := atoms_spec (ws := wzW yL_plan cL_plan 4 (some .int) [(0, 9, 12, 19), (0, 9, 15, 42)]) B.pre
  have hts : ∀ w ∈ wAll, w.before _ s = true := fun w h => hts0 w (List.mem_cons_of_mem _ h)
  have hown : s.vm.findClass RL = some m.cls := findClass_of_methodNamed B.named
  have hlocks := B.notSynchronized
  have htab := vx_table (x := yL_plan) B (hts0 _ List.mem_cons_self)
  subst hsz
  have hD := hD0.self (sz := s.heap.size)
  generalize hAe : va_A [(h0, .inr (12, [.ref vC, .ref vP, .ref vT, .ref vS, .ref vF, .ref vN, .ref vY, .int 0]))] s.heap.size = A at hD hY ⊢
  have hA : ∀ q : Nat, s.heap.size ≤ q → A q := fun q h => by rw [← hAe]; exact Or.inr h
  have hS : va_S A s.heap s.heap [] := va_S.rf
  have hP : va_P D vwCl [(h0, .inr (12, [.ref vC, .ref vP, .ref vT, .ref vS, .ref vF, .ref vN, .ref vY, .int 0]))] s.heap := hP
  have hl := lv_entry ([.ref h0, .int a1, .ref o1]) (n := 4) (Nat.le_of_ble_eq_true rfl)
  rw [lg_entry_eq]
  generalize (lg_sl ([.ref h0, .int a1, .ref o1]) ++ List.replicate (4 - (lg_sl ([.ref h0, .int a1, .ref o1])).length) Slot.unset).toArray = ls at hl ⊢
  have hl : lv_has ls 4 [(0, .ref h0), (1, .int a1), (2, .ref o1)] := hl
  refine z_anyQ (fun Q hQe => ?_)
  refine lv_aload_n hx hb dL_plan_0 rfl (lv_at hl 2 rfl) ?_
  refine lv_iconst (v := 0) hx hb dL_plan_1 (by decide) ?_
  refine lv_aload_n hx hb dL_plan_2 rfl (lv_at hl 0 rfl) ?_
  refine lv_iload_n hx hb dL_plan_3 rfl (lv_at hl 1 rfl) ?_
  refine zx_catch (wc := [(h0, .inr (12, [.ref vC, .ref vP, .ref vT, .ref vS, .ref vF, .ref vN, .ref vY, .int 0]))]) (wr := []) (vx_runV (As := [.int a1]) (rest := [.int 0, .ref o1]) ⟨hx, hb, hml, hown, hts⟩ (f_plan l hlt D cy h0 vC vP vT vS vF vN vY a1 s.heap.size ) (cwV 1 hts (gzV (gz q493) q492 q494 q495 q174) rfl rfl rfl vX9_plan ⟨Nat.le_of_ble_eq_true rfl, Nat.le_of_ble_eq_true rfl⟩) (zpV (ci := 12) (T := TX9) (N := 8) (q0 := 0) hK hX hY hP hD hS hA [0] (by decide) rfl rfl rfl) rfl rfl hl.1 rfl (lv_room (Nat.le_of_ble_eq_true rfl)) dL_plan_4 ⟨Nat.le_of_ble_eq_true rfl, Nat.le_of_ble_eq_true rfl⟩) hP hD hS hA [0] [] rfl rfl (by decide) (by decide) hown [] ⟨0, 9, 12, 19⟩ [⟨0, 9, 15, 42⟩] htab (fun z hz => by cases hz) rfl (by decide) (hts _ q407) hX.1.1.1 (fun q9 H locs hP hD hS => ?_)
  have hP : va_P D vwCl [] H := hP
  have hD : va_D A [] := hD
  refine W.widen (k := 1) (n := 6) (by omega) (by omega) ?_
  refine lv_astore_n (lv' := [(3, .ref q9), (0, .ref h0), (1, .int a1), (2, .ref o1)]) hx hb dL_plan_12 rfl hl (by decide) rfl (fun ls hl => ?_)
  refine lv_iconst (v := 1) hx hb dL_plan_13 (by decide) ?_
  have hP9 := hP.sub (ws' := []) [] rfl
  have hD9 := hD.sub (ws' := []) [] (by decide) rfl
  refine W.widen (k := 1) (n := 6) (Nat.le_of_ble_eq_true rfl) (Nat.le_of_ble_eq_true rfl) ?_
  rw [hQe]
  exact W.iret (v := 1) hx hb hr (fun t ht hW => ⟨⟨1, (), rfl, rfl, ⟨by rw [ht]; exact hP9, hD9⟩⟩, hS.F ht⟩) hS.2.2 dL_plan_14
set_option maxHeartbeats 4000000 in
set_option maxRecDepth 100000 in
/-- the law's call of planAt: it throws -/
theorem w_planAt (l : Launch) (hlt : l.stackTraces = false) (D : va_G) (cy : Nat → ClassId) (h0 : Nat) (vC : Nat) (vP : Nat) (vT : Nat) (vS : Nat) (vF : Nat) (vN : Nat) (vY : Nat) (a1 : Int32) (a2 : Int32) (o1 : Nat) (sz : Nat)  : Met l yL_planAt (wzW yL_planAt cL_planAt 5 (some .int) [(0, 10, 13, 19), (0, 10, 17, 42), (0, 10, 21, 21)]) ({ frames := 9, cells := 1, slots := 6, locals := 146 } : Room) (va_Pc [.ref h0, .int a1, .int a2, .ref o1] (zPre vwCl D cy [(h0, .inr (12, [.ref vC, .ref vP, .ref vT, .ref vS, .ref vF, .ref vN, .ref vY, .int 0]))] sz)) (va_Qi (fun (r : Int32) (_ : Unit) => r = 1) (fun (u : Unit) t => zPost vwCl D (va_A [(h0, .inr (12, [.ref vC, .ref vP, .ref vT, .ref vS, .ref vF, .ref vN, .ref vY, .int 0]))] sz) [] t) (va_A [(h0, .inr (12, [.ref vC, .ref vP, .ref vT, .ref vS, .ref vF, .ref vN, .ref vY, .int 0]))] sz)) 1 6 (va_A [(h0, .inr (12, [.ref vC, .ref vP, .ref vT, .ref vS, .ref vF, .ref vN, .ref vY, .int 0]))] sz) := by
  refine va_MetW (cc := cL_planAt) (maxL := 5) (ret := (some .int)) (hh := [(0, 10, 13, 19), (0, 10, 17, 42), (0, 10, 21, 21)]) (by decide) rfl ?_
  intro p e s m args below meth c s₁ B hml hv
  obtain ⟨rfl, hsz, hP, hK, hD0, hX, hY⟩ := hv
  have hx := B.exec
  have hb := B.bytes
  have hr := B.returns
  have hts0 := atoms_spec (ws := wzW yL_planAt cL_planAt 5 (some .int) [(0, 10, 13, 19), (0, 10, 17, 42), (0, 10, 21, 21)]) B.pre
  have hts : ∀ w ∈ wAll, w.before _ s = true := fun w h => hts0 w (List.mem_cons_of_mem _ h)
  have hown : s.vm.findClass RL = some m.cls := findClass_of_methodNamed B.named
  have hlocks := B.notSynchronized
  have htab := vx_table (x := yL_planAt) B (hts0 _ List.mem_cons_self)
  subst hsz
  have hD := hD0.self (sz := s.heap.size)
  generalize hAe : va_A [(h0, .inr (12, [.ref vC, .ref vP, .ref vT, .ref vS, .ref vF, .ref vN, .ref vY, .int 0]))] s.heap.size = A at hD hY ⊢
  have hA : ∀ q : Nat, s.heap.size ≤ q → A q := fun q h => by rw [← hAe]; exact Or.inr h
  have hS : va_S A s.heap s.heap [] := va_S.rf
  have hP : va_P D vwCl [(h0, .inr (12, [.ref vC, .ref vP, .ref vT, .ref vS, .ref vF, .ref vN, .ref vY, .int 0]))] s.heap := hP
  have hl := lv_entry ([.ref h0, .int a1, .int a2, .ref o1]) (n := 5) (Nat.le_of_ble_eq_true rfl)
  rw [lg_entry_eq]
  generalize (lg_sl ([.ref h0, .int a1, .int a2, .ref o1]) ++ List.replicate (5 - (lg_sl ([.ref h0, .int a1, .int a2, .ref o1])).length) Slot.unset).toArray = ls at hl ⊢
  have hl : lv_has ls 5 [(0, .ref h0), (1, .int a1), (2, .int a2), (3, .ref o1)] := hl
  refine z_anyQ (fun Q hQe => ?_)
  refine lv_aload_n hx hb dL_planAt_0 rfl (lv_at hl 3 rfl) ?_
  refine lv_iconst (v := 0) hx hb dL_planAt_1 (by decide) ?_
  refine lv_aload_n hx hb dL_planAt_2 rfl (lv_at hl 0 rfl) ?_
  refine lv_iload_n hx hb dL_planAt_3 rfl (lv_at hl 1 rfl) ?_
  refine lv_iload_n hx hb dL_planAt_4 rfl (lv_at hl 2 rfl) ?_
  refine zx_catch (wc := [(h0, .inr (12, [.ref vC, .ref vP, .ref vT, .ref vS, .ref vF, .ref vN, .ref vY, .int 0]))]) (wr := []) (vx_runV (As := [.int a1, .int a2]) (rest := [.int 0, .ref o1]) ⟨hx, hb, hml, hown, hts⟩ (f_planAt l hlt D cy h0 vC vP vT vS vF vN vY a1 a2 s.heap.size ) (cwV 2 hts (gzV (gz q497) q496 q498 q499 q174) rfl rfl rfl vX9_planAt ⟨Nat.le_of_ble_eq_true rfl, Nat.le_of_ble_eq_true rfl⟩) (zpV (ci := 12) (T := TX9) (N := 8) (q0 := 0) hK hX hY hP hD hS hA [0] (by decide) rfl rfl rfl) rfl rfl hl.1 rfl (lv_room (Nat.le_of_ble_eq_true rfl)) dL_planAt_5 ⟨Nat.le_of_ble_eq_true rfl, Nat.le_of_ble_eq_true rfl⟩) hP hD hS hA [0] [] rfl rfl (by decide) (by decide) hown [] ⟨0, 10, 13, 19⟩ [⟨0, 10, 17, 42⟩, ⟨0, 10, 21, 21⟩] htab (fun z hz => by cases hz) rfl (by decide) (hts _ q407) hX.1.1.1 (fun q9 H locs hP hD hS => ?_)
  have hP : va_P D vwCl [] H := hP
  have hD : va_D A [] := hD
  refine W.widen (k := 1) (n := 6) (by omega) (by omega) ?_
  refine lv_astore (lv' := [(4, .ref q9), (0, .ref h0), (1, .int a1), (2, .int a2), (3, .ref o1)]) hx hb dL_planAt_13 hl (by decide) rfl (fun ls hl => ?_)
  refine lv_iconst (v := 1) hx hb dL_planAt_15 (by decide) ?_
  have hP9 := hP.sub (ws' := []) [] rfl
  have hD9 := hD.sub (ws' := []) [] (by decide) rfl
  refine W.widen (k := 1) (n := 6) (Nat.le_of_ble_eq_true rfl) (Nat.le_of_ble_eq_true rfl) ?_
  rw [hQe]
  exact W.iret (v := 1) hx hb hr (fun t ht hW => ⟨⟨1, (), rfl, rfl, ⟨by rw [ht]; exact hP9, hD9⟩⟩, hS.F ht⟩) hS.2.2 dL_planAt_16
set_option maxHeartbeats 4000000 in
set_option maxRecDepth 100000 in
/-- the law's call of lastChance: it throws -/
theorem w_lastChance (l : Launch) (hlt : l.stackTraces = false) (D : va_G) (cy : Nat → ClassId) (h0 : Nat) (vC : Nat) (vP : Nat) (vT : Nat) (vS : Nat) (vF : Nat) (vN : Nat) (vY : Nat) (a1 : Int32) (o1 : Nat) (sz : Nat)  : Met l yL_lastChance (wzW yL_lastChance cL_lastChance 4 (some .int) [(0, 9, 12, 19), (0, 9, 15, 42)]) ({ frames := 9, cells := 1, slots := 6, locals := 145 } : Room) (va_Pc [.ref h0, .int a1, .ref o1] (zPre vwCl D cy [(h0, .inr (12, [.ref vC, .ref vP, .ref vT, .ref vS, .ref vF, .ref vN, .ref vY, .int 0]))] sz)) (va_Qi (fun (r : Int32) (_ : Unit) => r = 1) (fun (u : Unit) t => zPost vwCl D (va_A [(h0, .inr (12, [.ref vC, .ref vP, .ref vT, .ref vS, .ref vF, .ref vN, .ref vY, .int 0]))] sz) [] t) (va_A [(h0, .inr (12, [.ref vC, .ref vP, .ref vT, .ref vS, .ref vF, .ref vN, .ref vY, .int 0]))] sz)) 1 6 (va_A [(h0, .inr (12, [.ref vC, .ref vP, .ref vT, .ref vS, .ref vF, .ref vN, .ref vY, .int 0]))] sz) := by
  refine va_MetW (cc := cL_lastChance) (maxL := 4) (ret := (some .int)) (hh := [(0, 9, 12, 19), (0, 9, 15, 42)]) (by decide) rfl ?_
  intro p e s m args below meth c s₁ B hml hv
  obtain ⟨rfl, hsz, hP, hK, hD0, hX, hY⟩ := hv
  have hx := B.exec
  have hb := B.bytes
  have hr := B.returns
  have hts0 := atoms_spec (ws := wzW yL_lastChance cL_lastChance 4 (some .int) [(0, 9, 12, 19), (0, 9, 15, 42)]) B.pre
  have hts : ∀ w ∈ wAll, w.before _ s = true := fun w h => hts0 w (List.mem_cons_of_mem _ h)
  have hown : s.vm.findClass RL = some m.cls := findClass_of_methodNamed B.named
  have hlocks := B.notSynchronized
  have htab := vx_table (x := yL_lastChance) B (hts0 _ List.mem_cons_self)
  subst hsz
  have hD := hD0.self (sz := s.heap.size)
  generalize hAe : va_A [(h0, .inr (12, [.ref vC, .ref vP, .ref vT, .ref vS, .ref vF, .ref vN, .ref vY, .int 0]))] s.heap.size = A at hD hY ⊢
  have hA : ∀ q : Nat, s.heap.size ≤ q → A q := fun q h => by rw [← hAe]; exact Or.inr h
  have hS : va_S A s.heap s.heap [] := va_S.rf
  have hP : va_P D vwCl [(h0, .inr (12, [.ref vC, .ref vP, .ref vT, .ref vS, .ref vF, .ref vN, .ref vY, .int 0]))] s.heap := hP
  have hl := lv_entry ([.ref h0, .int a1, .ref o1]) (n := 4) (Nat.le_of_ble_eq_true rfl)
  rw [lg_entry_eq]
  generalize (lg_sl ([.ref h0, .int a1, .ref o1]) ++ List.replicate (4 - (lg_sl ([.ref h0, .int a1, .ref o1])).length) Slot.unset).toArray = ls at hl ⊢
  have hl : lv_has ls 4 [(0, .ref h0), (1, .int a1), (2, .ref o1)] := hl
  refine z_anyQ (fun Q hQe => ?_)
  refine lv_aload_n hx hb dL_lastChance_0 rfl (lv_at hl 2 rfl) ?_
  refine lv_iconst (v := 0) hx hb dL_lastChance_1 (by decide) ?_
  refine lv_aload_n hx hb dL_lastChance_2 rfl (lv_at hl 0 rfl) ?_
  refine lv_iload_n hx hb dL_lastChance_3 rfl (lv_at hl 1 rfl) ?_
  refine zx_catch (wc := [(h0, .inr (12, [.ref vC, .ref vP, .ref vT, .ref vS, .ref vF, .ref vN, .ref vY, .int 0]))]) (wr := []) (vx_runV (As := [.int a1]) (rest := [.int 0, .ref o1]) ⟨hx, hb, hml, hown, hts⟩ (f_lastChance l hlt D cy h0 vC vP vT vS vF vN vY a1 s.heap.size ) (cwV 1 hts (gzV (gz q501) q500 q502 q503 q174) rfl rfl rfl vX9_lastChance ⟨Nat.le_of_ble_eq_true rfl, Nat.le_of_ble_eq_true rfl⟩) (zpV (ci := 12) (T := TX9) (N := 8) (q0 := 0) hK hX hY hP hD hS hA [0] (by decide) rfl rfl rfl) rfl rfl hl.1 rfl (lv_room (Nat.le_of_ble_eq_true rfl)) dL_lastChance_4 ⟨Nat.le_of_ble_eq_true rfl, Nat.le_of_ble_eq_true rfl⟩) hP hD hS hA [0] [] rfl rfl (by decide) (by decide) hown [] ⟨0, 9, 12, 19⟩ [⟨0, 9, 15, 42⟩] htab (fun z hz => by cases hz) rfl (by decide) (hts _ q407) hX.1.1.1 (fun q9 H locs hP hD hS => ?_)
  have hP : va_P D vwCl [] H := hP
  have hD : va_D A [] := hD
  refine W.widen (k := 1) (n := 6) (by omega) (by omega) ?_
  refine lv_astore_n (lv' := [(3, .ref q9), (0, .ref h0), (1, .int a1), (2, .ref o1)]) hx hb dL_lastChance_12 rfl hl (by decide) rfl (fun ls hl => ?_)
  refine lv_iconst (v := 1) hx hb dL_lastChance_13 (by decide) ?_
  have hP9 := hP.sub (ws' := []) [] rfl
  have hD9 := hD.sub (ws' := []) [] (by decide) rfl
  refine W.widen (k := 1) (n := 6) (Nat.le_of_ble_eq_true rfl) (Nat.le_of_ble_eq_true rfl) ?_
  rw [hQe]
  exact W.iret (v := 1) hx hb hr (fun t ht hW => ⟨⟨1, (), rfl, rfl, ⟨by rw [ht]; exact hP9, hD9⟩⟩, hS.F ht⟩) hS.2.2 dL_lastChance_14
set_option maxHeartbeats 4000000 in
set_option maxRecDepth 100000 in
/-- the law's call of station: it answers -/
theorem w_station (l : Launch) (hlt : l.stackTraces = false) (D : va_G) (cy : Nat → ClassId) (h0 : Nat) (vC : Nat) (vP : Nat) (vT : Nat) (vS : Nat) (vF : Nat) (vN : Nat) (vY : Nat) (sS : Nat) (sJ : Nat) (o1 : Nat) (sz : Nat)  : Met l yL_station (wzW yL_station cL_station 3 (some .int) [(0, 8, 11, 13)]) ({ frames := 1, cells := 0, slots := 0, locals := 20 } : Room) (va_Pc [.ref h0, .ref o1] (zPre vwCl D cy [(h0, .inr (12, [.ref vC, .ref vP, .ref vT, .ref vS, .ref vF, .ref vN, .ref vY, .int 0])), (vC, .inr (3, [.ref sS, .ref sJ, .int 0, .int 0])), (o1, .inl (cy 1, 1, .inr (.inl (fun _ => 0))))] sz)) (va_Qi (fun (r : Int32) (_ : Unit) => r = 0) (fun (u : Unit) t => zPost vwCl D (va_A [(h0, .inr (12, [.ref vC, .ref vP, .ref vT, .ref vS, .ref vF, .ref vN, .ref vY, .int 0])), (vC, .inr (3, [.ref sS, .ref sJ, .int 0, .int 0])), (o1, .inl (cy 1, 1, .inr (.inl (fun _ => 0))))] sz) [(o1, .inl (cy 1, 1, .inr (.inl (fun _ => 0))))] t) (va_A [(h0, .inr (12, [.ref vC, .ref vP, .ref vT, .ref vS, .ref vF, .ref vN, .ref vY, .int 0])), (vC, .inr (3, [.ref sS, .ref sJ, .int 0, .int 0])), (o1, .inl (cy 1, 1, .inr (.inl (fun _ => 0))))] sz)) 0 0 (va_A [(h0, .inr (12, [.ref vC, .ref vP, .ref vT, .ref vS, .ref vF, .ref vN, .ref vY, .int 0])), (vC, .inr (3, [.ref sS, .ref sJ, .int 0, .int 0])), (o1, .inl (cy 1, 1, .inr (.inl (fun _ => 0))))] sz) := by
  refine va_MetW (cc := cL_station) (maxL := 3) (ret := (some .int)) (hh := [(0, 8, 11, 13)]) (by decide) rfl ?_
  intro p e s m args below meth c s₁ B hml hv
  obtain ⟨rfl, hsz, hP, hK, hD0, hX, hY⟩ := hv
  have hx := B.exec
  have hb := B.bytes
  have hr := B.returns
  have hts0 := atoms_spec (ws := wzW yL_station cL_station 3 (some .int) [(0, 8, 11, 13)]) B.pre
  have hts : ∀ w ∈ wAll, w.before _ s = true := fun w h => hts0 w (List.mem_cons_of_mem _ h)
  have hown : s.vm.findClass RL = some m.cls := findClass_of_methodNamed B.named
  have hlocks := B.notSynchronized
  have htab := vx_table (x := yL_station) B (hts0 _ List.mem_cons_self)
  subst hsz
  have hD := hD0.self (sz := s.heap.size)
  generalize hAe : va_A [(h0, .inr (12, [.ref vC, .ref vP, .ref vT, .ref vS, .ref vF, .ref vN, .ref vY, .int 0])), (vC, .inr (3, [.ref sS, .ref sJ, .int 0, .int 0])), (o1, .inl (cy 1, 1, .inr (.inl (fun _ => 0))))] s.heap.size = A at hD hY ⊢
  have hA : ∀ q : Nat, s.heap.size ≤ q → A q := fun q h => by rw [← hAe]; exact Or.inr h
  have hS : va_S A s.heap s.heap [] := va_S.rf
  have hP : va_P D vwCl [(h0, .inr (12, [.ref vC, .ref vP, .ref vT, .ref vS, .ref vF, .ref vN, .ref vY, .int 0])), (vC, .inr (3, [.ref sS, .ref sJ, .int 0, .int 0])), (o1, .inl (cy 1, 1, .inr (.inl (fun _ => 0))))] s.heap := hP
  have hl := lv_entry ([.ref h0, .ref o1]) (n := 3) (Nat.le_of_ble_eq_true rfl)
  rw [lg_entry_eq]
  generalize (lg_sl ([.ref h0, .ref o1]) ++ List.replicate (3 - (lg_sl ([.ref h0, .ref o1])).length) Slot.unset).toArray = ls at hl ⊢
  have hl : lv_has ls 3 [(0, .ref h0), (1, .ref o1)] := hl
  refine z_anyQ (fun Q hQe => ?_)
  refine lv_aload_n hx hb dL_station_0 rfl (lv_at hl 1 rfl) ?_
  refine lv_iconst (v := 0) hx hb dL_station_1 (by decide) ?_
  refine lv_aload_n hx hb dL_station_2 rfl (lv_at hl 0 rfl) ?_
  refine zq_i (wc := [(h0, .inr (12, [.ref vC, .ref vP, .ref vT, .ref vS, .ref vF, .ref vN, .ref vY, .int 0])), (vC, .inr (3, [.ref sS, .ref sJ, .int 0, .int 0]))]) (wr := [(o1, .inl (cy 1, 1, .inr (.inl (fun _ => 0))))]) (va_runV (As := []) (rest := [.int 0, .ref o1]) ⟨hx, hb, hml, hown, hts⟩ (f_station l D cy h0 vC vP vT vS vF vN vY sS sJ s.heap.size ) (cwV 0 hts (gzV (gz q505) q504 q506 q507 q174) rfl rfl rfl vX9_station ⟨Nat.le_of_ble_eq_true rfl, Nat.le_of_ble_eq_true rfl⟩) (zpV (ci := 12) (T := TX9) (N := 8) (q0 := 0) hK hX hY hP hD hS hA [0, 1] (by decide) rfl rfl rfl) rfl rfl hl.1 rfl (lv_room (Nat.le_of_ble_eq_true rfl)) dL_station_3 ⟨Nat.le_of_ble_eq_true rfl, Nat.le_of_ble_eq_true rfl⟩) hP hD hS hA [0, 1] [2] rfl rfl (by decide) (by decide) (fun x2 u1 H locs hw hP hD hS => ?_)
  obtain rfl : x2 = 0 := hw
  have hP : va_P D vwCl [(o1, .inl (cy 1, 1, .inr (.inl (fun _ => 0))))] H := hP
  have hD : va_D A [(o1, .inl (cy 1, 1, .inr (.inl (fun _ => 0))))] := hD
  refine lv_i2l (v := 0) hx hb dL_station_6 (by decide) ?_
  refine va_last hx hb hK hP hD hS 0 1 rfl rfl (z_in 0 (by decide) (by decide)) dL_station_7 (fun H locs hP hD hS => ?_)
  have hP : va_P D vwCl [(o1, .inl (cy 1, 1, .inr (.inl (vp_updL (fun _ => 0) (0 : Int32).toNatClampNeg 0))))] H := hP
  have hD : va_D A [(o1, .inl (cy 1, 1, .inr (.inl (vp_updL (fun _ => 0) (0 : Int32).toNatClampNeg 0))))] := hD
  refine lv_goto (tgt := 14) hx hb dL_station_8 (by decide) ?_
  obtain ⟨hP, hD⟩ := zP_l (fun _ => 0) hP hD (q := 0) rfl (z_one rfl)
  have hP : va_P D vwCl [(o1, .inl (cy 1, 1, .inr (.inl (fun _ => 0))))] H := hP
  have hD : va_D A [(o1, .inl (cy 1, 1, .inr (.inl (fun _ => 0))))] := hD
  refine lv_iconst (v := 0) hx hb dL_station_14 (by decide) ?_
  have hP9 := hP.sub (ws' := [(o1, .inl (cy 1, 1, .inr (.inl (fun _ => 0))))]) [0] rfl
  have hD9 := hD.sub (ws' := [(o1, .inl (cy 1, 1, .inr (.inl (fun _ => 0))))]) [0] (by decide) rfl
  refine W.widen (k := 0) (n := 0) (Nat.le_of_ble_eq_true rfl) (Nat.le_of_ble_eq_true rfl) ?_
  rw [hQe]
  exact W.iret (v := 0) hx hb hr (fun t ht hW => ⟨⟨0, (), rfl, rfl, ⟨by rw [ht]; exact hP9, hD9⟩⟩, hS.F ht⟩) hS.2.2 dL_station_15
set_option maxHeartbeats 4000000 in
set_option maxRecDepth 100000 in
/-- the law's call of loops: it throws -/
theorem w_loops_no (l : Launch) (hlt : l.stackTraces = false) (D : va_G) (cy : Nat → ClassId) (h0 : Nat) (vC : Nat) (vP : Nat) (vT : Nat) (vS : Nat) (vF : Nat) (vN : Nat) (vY : Nat) (d : Int32) (o1 : Nat) (sz : Nat) (hd : zNoDay d) : Met l yL_loops (wzW yL_loops cL_loops 4 (some .int) [(0, 9, 12, 21)]) ({ frames := 8, cells := 1, slots := 6, locals := 123 } : Room) (va_Pc [.ref h0, .int d, .ref o1] (zPre vwCl D cy [(h0, .inr (12, [.ref vC, .ref vP, .ref vT, .ref vS, .ref vF, .ref vN, .ref vY, .int 0]))] sz)) (va_Qi (fun (r : Int32) (_ : Unit) => r = 1) (fun (u : Unit) t => zPost vwCl D (va_A [(h0, .inr (12, [.ref vC, .ref vP, .ref vT, .ref vS, .ref vF, .ref vN, .ref vY, .int 0]))] sz) [] t) (va_A [(h0, .inr (12, [.ref vC, .ref vP, .ref vT, .ref vS, .ref vF, .ref vN, .ref vY, .int 0]))] sz)) 1 6 (va_A [(h0, .inr (12, [.ref vC, .ref vP, .ref vT, .ref vS, .ref vF, .ref vN, .ref vY, .int 0]))] sz) := by
  refine va_MetW (cc := cL_loops) (maxL := 4) (ret := (some .int)) (hh := [(0, 9, 12, 21)]) (by decide) rfl ?_
  intro p e s m args below meth c s₁ B hml hv
  obtain ⟨rfl, hsz, hP, hK, hD0, hX, hY⟩ := hv
  have hx := B.exec
  have hb := B.bytes
  have hr := B.returns
  have hts0 := atoms_spec (ws := wzW yL_loops cL_loops 4 (some .int) [(0, 9, 12, 21)]) B.pre
  have hts : ∀ w ∈ wAll, w.before _ s = true := fun w h => hts0 w (List.mem_cons_of_mem _ h)
  have hown : s.vm.findClass RL = some m.cls := findClass_of_methodNamed B.named
  have hlocks := B.notSynchronized
  have htab := vx_table (x := yL_loops) B (hts0 _ List.mem_cons_self)
  subst hsz
  have hD := hD0.self (sz := s.heap.size)
  generalize hAe : va_A [(h0, .inr (12, [.ref vC, .ref vP, .ref vT, .ref vS, .ref vF, .ref vN, .ref vY, .int 0]))] s.heap.size = A at hD hY ⊢
  have hA : ∀ q : Nat, s.heap.size ≤ q → A q := fun q h => by rw [← hAe]; exact Or.inr h
  have hS : va_S A s.heap s.heap [] := va_S.rf
  have hP : va_P D vwCl [(h0, .inr (12, [.ref vC, .ref vP, .ref vT, .ref vS, .ref vF, .ref vN, .ref vY, .int 0]))] s.heap := hP
  have hl := lv_entry ([.ref h0, .int d, .ref o1]) (n := 4) (Nat.le_of_ble_eq_true rfl)
  rw [lg_entry_eq]
  generalize (lg_sl ([.ref h0, .int d, .ref o1]) ++ List.replicate (4 - (lg_sl ([.ref h0, .int d, .ref o1])).length) Slot.unset).toArray = ls at hl ⊢
  have hl : lv_has ls 4 [(0, .ref h0), (1, .int d), (2, .ref o1)] := hl
  refine z_anyQ (fun Q hQe => ?_)
  refine lv_aload_n hx hb dL_loops_0 rfl (lv_at hl 2 rfl) ?_
  refine lv_iconst (v := 0) hx hb dL_loops_1 (by decide) ?_
  refine lv_aload_n hx hb dL_loops_2 rfl (lv_at hl 0 rfl) ?_
  refine lv_iload_n hx hb dL_loops_3 rfl (lv_at hl 1 rfl) ?_
  refine zx_catch (wc := [(h0, .inr (12, [.ref vC, .ref vP, .ref vT, .ref vS, .ref vF, .ref vN, .ref vY, .int 0]))]) (wr := []) (vx_runV (As := [.int d]) (rest := [.int 0, .ref o1]) ⟨hx, hb, hml, hown, hts⟩ (f_loops_no l hlt D cy h0 vC vP vT vS vF vN vY d s.heap.size hd) (cwV 1 hts (gzV (gz q509) q508 q510 q511 q174) rfl rfl rfl vX9_loops ⟨Nat.le_of_ble_eq_true rfl, Nat.le_of_ble_eq_true rfl⟩) (zpV (ci := 12) (T := TX9) (N := 8) (q0 := 0) hK hX hY hP hD hS hA [0] (by decide) rfl rfl rfl) rfl rfl hl.1 rfl (lv_room (Nat.le_of_ble_eq_true rfl)) dL_loops_4 ⟨Nat.le_of_ble_eq_true rfl, Nat.le_of_ble_eq_true rfl⟩) hP hD hS hA [0] [] rfl rfl (by decide) (by decide) hown [] ⟨0, 9, 12, 21⟩ [] htab (fun z hz => by cases hz) rfl (by decide) (hts _ q512) hX.1.1.2.1 (fun q9 H locs hP hD hS => ?_)
  have hP : va_P D vwCl [] H := hP
  have hD : va_D A [] := hD
  refine W.widen (k := 1) (n := 6) (by omega) (by omega) ?_
  refine lv_astore_n (lv' := [(3, .ref q9), (0, .ref h0), (1, .int d), (2, .ref o1)]) hx hb dL_loops_12 rfl hl (by decide) rfl (fun ls hl => ?_)
  refine lv_iconst (v := 1) hx hb dL_loops_13 (by decide) ?_
  have hP9 := hP.sub (ws' := []) [] rfl
  have hD9 := hD.sub (ws' := []) [] (by decide) rfl
  refine W.widen (k := 1) (n := 6) (Nat.le_of_ble_eq_true rfl) (Nat.le_of_ble_eq_true rfl) ?_
  rw [hQe]
  exact W.iret (v := 1) hx hb hr (fun t ht hW => ⟨⟨1, (), rfl, rfl, ⟨by rw [ht]; exact hP9, hD9⟩⟩, hS.F ht⟩) hS.2.2 dL_loops_14
set_option maxHeartbeats 4000000 in
set_option maxRecDepth 100000 in
/-- the law's call of allFaults: it throws -/
theorem w_allFaults_no (l : Launch) (hlt : l.stackTraces = false) (D : va_G) (cy : Nat → ClassId) (h0 : Nat) (vC : Nat) (vP : Nat) (vT : Nat) (vS : Nat) (vF : Nat) (vN : Nat) (vY : Nat) (d : Int32) (o1 : Nat) (sz : Nat) (hd : zNoDay d) : Met l yL_allFaults (wzW yL_allFaults cL_allFaults 4 (some .int) [(0, 8, 11, 21)]) ({ frames := 8, cells := 1, slots := 6, locals := 123 } : Room) (va_Pc [.ref h0, .int d, .ref o1] (zPre vwCl D cy [(h0, .inr (12, [.ref vC, .ref vP, .ref vT, .ref vS, .ref vF, .ref vN, .ref vY, .int 0]))] sz)) (va_Qi (fun (r : Int32) (_ : Unit) => r = 1) (fun (u : Unit) t => zPost vwCl D (va_A [(h0, .inr (12, [.ref vC, .ref vP, .ref vT, .ref vS, .ref vF, .ref vN, .ref vY, .int 0]))] sz) [] t) (va_A [(h0, .inr (12, [.ref vC, .ref vP, .ref vT, .ref vS, .ref vF, .ref vN, .ref vY, .int 0]))] sz)) 1 6 (va_A [(h0, .inr (12, [.ref vC, .ref vP, .ref vT, .ref vS, .ref vF, .ref vN, .ref vY, .int 0]))] sz) := by
  refine va_MetW (cc := cL_allFaults) (maxL := 4) (ret := (some .int)) (hh := [(0, 8, 11, 21)]) (by decide) rfl ?_
  intro p e s m args below meth c s₁ B hml hv
  obtain ⟨rfl, hsz, hP, hK, hD0, hX, hY⟩ := hv
  have hx := B.exec
  have hb := B.bytes
  have hr := B.returns
  have hts0 := atoms_spec (ws := wzW yL_allFaults cL_allFaults 4 (some .int) [(0, 8, 11, 21)]) B.pre
  have hts : ∀ w ∈ wAll, w.before _ s = true := fun w h => hts0 w (List.mem_cons_of_mem _ h)
  have hown : s.vm.findClass RL = some m.cls := findClass_of_methodNamed B.named
  have hlocks := B.notSynchronized
  have htab := vx_table (x := yL_allFaults) B (hts0 _ List.mem_cons_self)
  subst hsz
  have hD := hD0.self (sz := s.heap.size)
  generalize hAe : va_A [(h0, .inr (12, [.ref vC, .ref vP, .ref vT, .ref vS, .ref vF, .ref vN, .ref vY, .int 0]))] s.heap.size = A at hD hY ⊢
  have hA : ∀ q : Nat, s.heap.size ≤ q → A q := fun q h => by rw [← hAe]; exact Or.inr h
  have hS : va_S A s.heap s.heap [] := va_S.rf
  have hP : va_P D vwCl [(h0, .inr (12, [.ref vC, .ref vP, .ref vT, .ref vS, .ref vF, .ref vN, .ref vY, .int 0]))] s.heap := hP
  have hl := lv_entry ([.ref h0, .int d, .ref o1]) (n := 4) (Nat.le_of_ble_eq_true rfl)
  rw [lg_entry_eq]
  generalize (lg_sl ([.ref h0, .int d, .ref o1]) ++ List.replicate (4 - (lg_sl ([.ref h0, .int d, .ref o1])).length) Slot.unset).toArray = ls at hl ⊢
  have hl : lv_has ls 4 [(0, .ref h0), (1, .int d), (2, .ref o1)] := hl
  refine z_anyQ (fun Q hQe => ?_)
  refine lv_aload_n hx hb dL_allFaults_0 rfl (lv_at hl 2 rfl) ?_
  refine lv_iconst (v := 0) hx hb dL_allFaults_1 (by decide) ?_
  refine lv_aload_n hx hb dL_allFaults_2 rfl (lv_at hl 0 rfl) ?_
  refine lv_iload_n hx hb dL_allFaults_3 rfl (lv_at hl 1 rfl) ?_
  refine zx_catch (wc := [(h0, .inr (12, [.ref vC, .ref vP, .ref vT, .ref vS, .ref vF, .ref vN, .ref vY, .int 0]))]) (wr := []) (vx_runV (As := [.int d]) (rest := [.int 0, .ref o1]) ⟨hx, hb, hml, hown, hts⟩ (f_allFaults_no l hlt D cy h0 vC vP vT vS vF vN vY d s.heap.size hd) (cwV 1 hts (gzV (gz q514) q513 q515 q516 q174) rfl rfl rfl vX9_allFaults ⟨Nat.le_of_ble_eq_true rfl, Nat.le_of_ble_eq_true rfl⟩) (zpV (ci := 12) (T := TX9) (N := 8) (q0 := 0) hK hX hY hP hD hS hA [0] (by decide) rfl rfl rfl) rfl rfl hl.1 rfl (lv_room (Nat.le_of_ble_eq_true rfl)) dL_allFaults_4 ⟨Nat.le_of_ble_eq_true rfl, Nat.le_of_ble_eq_true rfl⟩) hP hD hS hA [0] [] rfl rfl (by decide) (by decide) hown [] ⟨0, 8, 11, 21⟩ [] htab (fun z hz => by cases hz) rfl (by decide) (hts _ q512) hX.1.1.2.1 (fun q9 H locs hP hD hS => ?_)
  have hP : va_P D vwCl [] H := hP
  have hD : va_D A [] := hD
  refine W.widen (k := 1) (n := 6) (by omega) (by omega) ?_
  refine lv_astore_n (lv' := [(3, .ref q9), (0, .ref h0), (1, .int d), (2, .ref o1)]) hx hb dL_allFaults_11 rfl hl (by decide) rfl (fun ls hl => ?_)
  refine lv_iconst (v := 1) hx hb dL_allFaults_12 (by decide) ?_
  have hP9 := hP.sub (ws' := []) [] rfl
  have hD9 := hD.sub (ws' := []) [] (by decide) rfl
  refine W.widen (k := 1) (n := 6) (Nat.le_of_ble_eq_true rfl) (Nat.le_of_ble_eq_true rfl) ?_
  rw [hQe]
  exact W.iret (v := 1) hx hb hr (fun t ht hW => ⟨⟨1, (), rfl, rfl, ⟨by rw [ht]; exact hP9, hD9⟩⟩, hS.F ht⟩) hS.2.2 dL_allFaults_13
set_option maxHeartbeats 4000000 in
set_option maxRecDepth 100000 in
/-- the law's call of blunder: it throws -/
theorem w_blunder_no (l : Launch) (hlt : l.stackTraces = false) (D : va_G) (cy : Nat → ClassId) (h0 : Nat) (vC : Nat) (vP : Nat) (vT : Nat) (vS : Nat) (vF : Nat) (vN : Nat) (vY : Nat) (d : Int32) (o1 : Nat) (sz : Nat) (hd : zNoDay d) : Met l yL_blunder (wzW yL_blunder cL_blunder 4 (some .int) [(0, 9, 12, 21), (0, 9, 15, 42)]) ({ frames := 8, cells := 1, slots := 6, locals := 124 } : Room) (va_Pc [.ref h0, .int d, .ref o1] (zPre vwCl D cy [(h0, .inr (12, [.ref vC, .ref vP, .ref vT, .ref vS, .ref vF, .ref vN, .ref vY, .int 0]))] sz)) (va_Qi (fun (r : Int32) (_ : Unit) => r = 1) (fun (u : Unit) t => zPost vwCl D (va_A [(h0, .inr (12, [.ref vC, .ref vP, .ref vT, .ref vS, .ref vF, .ref vN, .ref vY, .int 0]))] sz) [] t) (va_A [(h0, .inr (12, [.ref vC, .ref vP, .ref vT, .ref vS, .ref vF, .ref vN, .ref vY, .int 0]))] sz)) 1 6 (va_A [(h0, .inr (12, [.ref vC, .ref vP, .ref vT, .ref vS, .ref vF, .ref vN, .ref vY, .int 0]))] sz) := by
  refine va_MetW (cc := cL_blunder) (maxL := 4) (ret := (some .int)) (hh := [(0, 9, 12, 21), (0, 9, 15, 42)]) (by decide) rfl ?_
  intro p e s m args below meth c s₁ B hml hv
  obtain ⟨rfl, hsz, hP, hK, hD0, hX, hY⟩ := hv
  have hx := B.exec
  have hb := B.bytes
  have hr := B.returns
  have hts0 := atoms_spec (ws := wzW yL_blunder cL_blunder 4 (some .int) [(0, 9, 12, 21), (0, 9, 15, 42)]) B.pre
  have hts : ∀ w ∈ wAll, w.before _ s = true := fun w h => hts0 w (List.mem_cons_of_mem _ h)
  have hown : s.vm.findClass RL = some m.cls := findClass_of_methodNamed B.named
  have hlocks := B.notSynchronized
  have htab := vx_table (x := yL_blunder) B (hts0 _ List.mem_cons_self)
  subst hsz
  have hD := hD0.self (sz := s.heap.size)
  generalize hAe : va_A [(h0, .inr (12, [.ref vC, .ref vP, .ref vT, .ref vS, .ref vF, .ref vN, .ref vY, .int 0]))] s.heap.size = A at hD hY ⊢
  have hA : ∀ q : Nat, s.heap.size ≤ q → A q := fun q h => by rw [← hAe]; exact Or.inr h
  have hS : va_S A s.heap s.heap [] := va_S.rf
  have hP : va_P D vwCl [(h0, .inr (12, [.ref vC, .ref vP, .ref vT, .ref vS, .ref vF, .ref vN, .ref vY, .int 0]))] s.heap := hP
  have hl := lv_entry ([.ref h0, .int d, .ref o1]) (n := 4) (Nat.le_of_ble_eq_true rfl)
  rw [lg_entry_eq]
  generalize (lg_sl ([.ref h0, .int d, .ref o1]) ++ List.replicate (4 - (lg_sl ([.ref h0, .int d, .ref o1])).length) Slot.unset).toArray = ls at hl ⊢
  have hl : lv_has ls 4 [(0, .ref h0), (1, .int d), (2, .ref o1)] := hl
  refine z_anyQ (fun Q hQe => ?_)
  refine lv_aload_n hx hb dL_blunder_0 rfl (lv_at hl 2 rfl) ?_
  refine lv_iconst (v := 0) hx hb dL_blunder_1 (by decide) ?_
  refine lv_aload_n hx hb dL_blunder_2 rfl (lv_at hl 0 rfl) ?_
  refine lv_iload_n hx hb dL_blunder_3 rfl (lv_at hl 1 rfl) ?_
  refine zx_catch (wc := [(h0, .inr (12, [.ref vC, .ref vP, .ref vT, .ref vS, .ref vF, .ref vN, .ref vY, .int 0]))]) (wr := []) (vx_runV (As := [.int d]) (rest := [.int 0, .ref o1]) ⟨hx, hb, hml, hown, hts⟩ (f_blunder_no l hlt D cy h0 vC vP vT vS vF vN vY d s.heap.size hd) (cwV 1 hts (gzV (gz q518) q517 q519 q520 q174) rfl rfl rfl vX9_blunder ⟨Nat.le_of_ble_eq_true rfl, Nat.le_of_ble_eq_true rfl⟩) (zpV (ci := 12) (T := TX9) (N := 8) (q0 := 0) hK hX hY hP hD hS hA [0] (by decide) rfl rfl rfl) rfl rfl hl.1 rfl (lv_room (Nat.le_of_ble_eq_true rfl)) dL_blunder_4 ⟨Nat.le_of_ble_eq_true rfl, Nat.le_of_ble_eq_true rfl⟩) hP hD hS hA [0] [] rfl rfl (by decide) (by decide) hown [] ⟨0, 9, 12, 21⟩ [⟨0, 9, 15, 42⟩] htab (fun z hz => by cases hz) rfl (by decide) (hts _ q512) hX.1.1.2.1 (fun q9 H locs hP hD hS => ?_)
  have hP : va_P D vwCl [] H := hP
  have hD : va_D A [] := hD
  refine W.widen (k := 1) (n := 6) (by omega) (by omega) ?_
  refine lv_astore_n (lv' := [(3, .ref q9), (0, .ref h0), (1, .int d), (2, .ref o1)]) hx hb dL_blunder_12 rfl hl (by decide) rfl (fun ls hl => ?_)
  refine lv_iconst (v := 1) hx hb dL_blunder_13 (by decide) ?_
  have hP9 := hP.sub (ws' := []) [] rfl
  have hD9 := hD.sub (ws' := []) [] (by decide) rfl
  refine W.widen (k := 1) (n := 6) (Nat.le_of_ble_eq_true rfl) (Nat.le_of_ble_eq_true rfl) ?_
  rw [hQe]
  exact W.iret (v := 1) hx hb hr (fun t ht hW => ⟨⟨1, (), rfl, rfl, ⟨by rw [ht]; exact hP9, hD9⟩⟩, hS.F ht⟩) hS.2.2 dL_blunder_14
set_option maxHeartbeats 4000000 in
set_option maxRecDepth 100000 in
/-- the law's call of length: it throws -/
theorem w_length_no (l : Launch) (hlt : l.stackTraces = false) (D : va_G) (cy : Nat → ClassId) (h0 : Nat) (vC : Nat) (vP : Nat) (vT : Nat) (vS : Nat) (vF : Nat) (vN : Nat) (vY : Nat) (d : Int32) (o1 : Nat) (sz : Nat) (hd : zNoDay d) : Met l yL_length (wzW yL_length cL_length 4 (some .int) [(0, 9, 12, 21)]) ({ frames := 8, cells := 1, slots := 6, locals := 125 } : Room) (va_Pc [.ref h0, .int d, .ref o1] (zPre vwCl D cy [(h0, .inr (12, [.ref vC, .ref vP, .ref vT, .ref vS, .ref vF, .ref vN, .ref vY, .int 0]))] sz)) (va_Qi (fun (r : Int32) (_ : Unit) => r = 1) (fun (u : Unit) t => zPost vwCl D (va_A [(h0, .inr (12, [.ref vC, .ref vP, .ref vT, .ref vS, .ref vF, .ref vN, .ref vY, .int 0]))] sz) [] t) (va_A [(h0, .inr (12, [.ref vC, .ref vP, .ref vT, .ref vS, .ref vF, .ref vN, .ref vY, .int 0]))] sz)) 1 6 (va_A [(h0, .inr (12, [.ref vC, .ref vP, .ref vT, .ref vS, .ref vF, .ref vN, .ref vY, .int 0]))] sz) := by
  refine va_MetW (cc := cL_length) (maxL := 4) (ret := (some .int)) (hh := [(0, 9, 12, 21)]) (by decide) rfl ?_
  intro p e s m args below meth c s₁ B hml hv
  obtain ⟨rfl, hsz, hP, hK, hD0, hX, hY⟩ := hv
  have hx := B.exec
  have hb := B.bytes
  have hr := B.returns
  have hts0 := atoms_spec (ws := wzW yL_length cL_length 4 (some .int) [(0, 9, 12, 21)]) B.pre
  have hts : ∀ w ∈ wAll, w.before _ s = true := fun w h => hts0 w (List.mem_cons_of_mem _ h)
  have hown : s.vm.findClass RL = some m.cls := findClass_of_methodNamed B.named
  have hlocks := B.notSynchronized
  have htab := vx_table (x := yL_length) B (hts0 _ List.mem_cons_self)
  subst hsz
  have hD := hD0.self (sz := s.heap.size)
  generalize hAe : va_A [(h0, .inr (12, [.ref vC, .ref vP, .ref vT, .ref vS, .ref vF, .ref vN, .ref vY, .int 0]))] s.heap.size = A at hD hY ⊢
  have hA : ∀ q : Nat, s.heap.size ≤ q → A q := fun q h => by rw [← hAe]; exact Or.inr h
  have hS : va_S A s.heap s.heap [] := va_S.rf
  have hP : va_P D vwCl [(h0, .inr (12, [.ref vC, .ref vP, .ref vT, .ref vS, .ref vF, .ref vN, .ref vY, .int 0]))] s.heap := hP
  have hl := lv_entry ([.ref h0, .int d, .ref o1]) (n := 4) (Nat.le_of_ble_eq_true rfl)
  rw [lg_entry_eq]
  generalize (lg_sl ([.ref h0, .int d, .ref o1]) ++ List.replicate (4 - (lg_sl ([.ref h0, .int d, .ref o1])).length) Slot.unset).toArray = ls at hl ⊢
  have hl : lv_has ls 4 [(0, .ref h0), (1, .int d), (2, .ref o1)] := hl
  refine z_anyQ (fun Q hQe => ?_)
  refine lv_aload_n hx hb dL_length_0 rfl (lv_at hl 2 rfl) ?_
  refine lv_iconst (v := 0) hx hb dL_length_1 (by decide) ?_
  refine lv_aload_n hx hb dL_length_2 rfl (lv_at hl 0 rfl) ?_
  refine lv_iload_n hx hb dL_length_3 rfl (lv_at hl 1 rfl) ?_
  refine zx_catch (wc := [(h0, .inr (12, [.ref vC, .ref vP, .ref vT, .ref vS, .ref vF, .ref vN, .ref vY, .int 0]))]) (wr := []) (vx_runV (As := [.int d]) (rest := [.int 0, .ref o1]) ⟨hx, hb, hml, hown, hts⟩ (f_length_no l hlt D cy h0 vC vP vT vS vF vN vY d s.heap.size hd) (cwV 1 hts (gzV (gz q522) q521 q523 q524 q174) rfl rfl rfl vX9_length ⟨Nat.le_of_ble_eq_true rfl, Nat.le_of_ble_eq_true rfl⟩) (zpV (ci := 12) (T := TX9) (N := 8) (q0 := 0) hK hX hY hP hD hS hA [0] (by decide) rfl rfl rfl) rfl rfl hl.1 rfl (lv_room (Nat.le_of_ble_eq_true rfl)) dL_length_4 ⟨Nat.le_of_ble_eq_true rfl, Nat.le_of_ble_eq_true rfl⟩) hP hD hS hA [0] [] rfl rfl (by decide) (by decide) hown [] ⟨0, 9, 12, 21⟩ [] htab (fun z hz => by cases hz) rfl (by decide) (hts _ q512) hX.1.1.2.1 (fun q9 H locs hP hD hS => ?_)
  have hP : va_P D vwCl [] H := hP
  have hD : va_D A [] := hD
  refine W.widen (k := 1) (n := 6) (by omega) (by omega) ?_
  refine lv_astore_n (lv' := [(3, .ref q9), (0, .ref h0), (1, .int d), (2, .ref o1)]) hx hb dL_length_12 rfl hl (by decide) rfl (fun ls hl => ?_)
  refine lv_iconst (v := 1) hx hb dL_length_13 (by decide) ?_
  have hP9 := hP.sub (ws' := []) [] rfl
  have hD9 := hD.sub (ws' := []) [] (by decide) rfl
  refine W.widen (k := 1) (n := 6) (Nat.le_of_ble_eq_true rfl) (Nat.le_of_ble_eq_true rfl) ?_
  rw [hQe]
  exact W.iret (v := 1) hx hb hr (fun t ht hW => ⟨⟨1, (), rfl, rfl, ⟨by rw [ht]; exact hP9, hD9⟩⟩, hS.F ht⟩) hS.2.2 dL_length_14
set_option maxHeartbeats 4000000 in
set_option maxRecDepth 100000 in
/-- the law's call of depth: it throws -/
theorem w_depth_no (l : Launch) (hlt : l.stackTraces = false) (D : va_G) (cy : Nat → ClassId) (h0 : Nat) (vC : Nat) (vP : Nat) (vT : Nat) (vS : Nat) (vF : Nat) (vN : Nat) (vY : Nat) (d : Int32) (o1 : Nat) (sz : Nat) (hd : zNoDay d) : Met l yL_depth (wzW yL_depth cL_depth 4 (some .int) [(0, 8, 11, 21)]) ({ frames := 8, cells := 1, slots := 6, locals := 123 } : Room) (va_Pc [.ref h0, .int d, .ref o1] (zPre vwCl D cy [(h0, .inr (12, [.ref vC, .ref vP, .ref vT, .ref vS, .ref vF, .ref vN, .ref vY, .int 0]))] sz)) (va_Qi (fun (r : Int32) (_ : Unit) => r = 1) (fun (u : Unit) t => zPost vwCl D (va_A [(h0, .inr (12, [.ref vC, .ref vP, .ref vT, .ref vS, .ref vF, .ref vN, .ref vY, .int 0]))] sz) [] t) (va_A [(h0, .inr (12, [.ref vC, .ref vP, .ref vT, .ref vS, .ref vF, .ref vN, .ref vY, .int 0]))] sz)) 1 6 (va_A [(h0, .inr (12, [.ref vC, .ref vP, .ref vT, .ref vS, .ref vF, .ref vN, .ref vY, .int 0]))] sz) := by
  refine va_MetW (cc := cL_depth) (maxL := 4) (ret := (some .int)) (hh := [(0, 8, 11, 21)]) (by decide) rfl ?_
  intro p e s m args below meth c s₁ B hml hv
  obtain ⟨rfl, hsz, hP, hK, hD0, hX, hY⟩ := hv
  have hx := B.exec
  have hb := B.bytes
  have hr := B.returns
  have hts0 := atoms_spec (ws := wzW yL_depth cL_depth 4 (some .int) [(0, 8, 11, 21)]) B.pre
  have hts : ∀ w ∈ wAll, w.before _ s = true := fun w h => hts0 w (List.mem_cons_of_mem _ h)
  have hown : s.vm.findClass RL = some m.cls := findClass_of_methodNamed B.named
  have hlocks := B.notSynchronized
  have htab := vx_table (x := yL_depth) B (hts0 _ List.mem_cons_self)
  subst hsz
  have hD := hD0.self (sz := s.heap.size)
  generalize hAe : va_A [(h0, .inr (12, [.ref vC, .ref vP, .ref vT, .ref vS, .ref vF, .ref vN, .ref vY, .int 0]))] s.heap.size = A at hD hY ⊢
  have hA : ∀ q : Nat, s.heap.size ≤ q → A q := fun q h => by rw [← hAe]; exact Or.inr h
  have hS : va_S A s.heap s.heap [] := va_S.rf
  have hP : va_P D vwCl [(h0, .inr (12, [.ref vC, .ref vP, .ref vT, .ref vS, .ref vF, .ref vN, .ref vY, .int 0]))] s.heap := hP
  have hl := lv_entry ([.ref h0, .int d, .ref o1]) (n := 4) (Nat.le_of_ble_eq_true rfl)
  rw [lg_entry_eq]
  generalize (lg_sl ([.ref h0, .int d, .ref o1]) ++ List.replicate (4 - (lg_sl ([.ref h0, .int d, .ref o1])).length) Slot.unset).toArray = ls at hl ⊢
  have hl : lv_has ls 4 [(0, .ref h0), (1, .int d), (2, .ref o1)] := hl
  refine z_anyQ (fun Q hQe => ?_)
  refine lv_aload_n hx hb dL_depth_0 rfl (lv_at hl 2 rfl) ?_
  refine lv_iconst (v := 0) hx hb dL_depth_1 (by decide) ?_
  refine lv_aload_n hx hb dL_depth_2 rfl (lv_at hl 0 rfl) ?_
  refine lv_iload_n hx hb dL_depth_3 rfl (lv_at hl 1 rfl) ?_
  refine zx_catch (wc := [(h0, .inr (12, [.ref vC, .ref vP, .ref vT, .ref vS, .ref vF, .ref vN, .ref vY, .int 0]))]) (wr := []) (vx_runV (As := [.int d]) (rest := [.int 0, .ref o1]) ⟨hx, hb, hml, hown, hts⟩ (f_depth_no l hlt D cy h0 vC vP vT vS vF vN vY d s.heap.size hd) (cwV 1 hts (gzV (gz q526) q525 q527 q528 q174) rfl rfl rfl vX9_depth ⟨Nat.le_of_ble_eq_true rfl, Nat.le_of_ble_eq_true rfl⟩) (zpV (ci := 12) (T := TX9) (N := 8) (q0 := 0) hK hX hY hP hD hS hA [0] (by decide) rfl rfl rfl) rfl rfl hl.1 rfl (lv_room (Nat.le_of_ble_eq_true rfl)) dL_depth_4 ⟨Nat.le_of_ble_eq_true rfl, Nat.le_of_ble_eq_true rfl⟩) hP hD hS hA [0] [] rfl rfl (by decide) (by decide) hown [] ⟨0, 8, 11, 21⟩ [] htab (fun z hz => by cases hz) rfl (by decide) (hts _ q512) hX.1.1.2.1 (fun q9 H locs hP hD hS => ?_)
  have hP : va_P D vwCl [] H := hP
  have hD : va_D A [] := hD
  refine W.widen (k := 1) (n := 6) (by omega) (by omega) ?_
  refine lv_astore_n (lv' := [(3, .ref q9), (0, .ref h0), (1, .int d), (2, .ref o1)]) hx hb dL_depth_11 rfl hl (by decide) rfl (fun ls hl => ?_)
  refine lv_iconst (v := 1) hx hb dL_depth_12 (by decide) ?_
  have hP9 := hP.sub (ws' := []) [] rfl
  have hD9 := hD.sub (ws' := []) [] (by decide) rfl
  refine W.widen (k := 1) (n := 6) (Nat.le_of_ble_eq_true rfl) (Nat.le_of_ble_eq_true rfl) ?_
  rw [hQe]
  exact W.iret (v := 1) hx hb hr (fun t ht hW => ⟨⟨1, (), rfl, rfl, ⟨by rw [ht]; exact hP9, hD9⟩⟩, hS.F ht⟩) hS.2.2 dL_depth_13
set_option maxHeartbeats 4000000 in
set_option maxRecDepth 100000 in
/-- the law's call of hungShare: it throws -/
theorem w_hungShare_no (l : Launch) (hlt : l.stackTraces = false) (D : va_G) (cy : Nat → ClassId) (h0 : Nat) (vC : Nat) (vP : Nat) (vT : Nat) (vS : Nat) (vF : Nat) (vN : Nat) (vY : Nat) (d : Int32) (o2 : Nat) (sz : Nat) (hd : zNoDay d) : Met l yL_hungShare (wzW yL_hungShare cL_hungShare 4 (some .int) [(0, 9, 12, 21), (0, 9, 15, 132)]) ({ frames := 8, cells := 1, slots := 6, locals := 123 } : Room) (va_Pc [.ref h0, .int d, .ref o2] (zPre vwCl D cy [(h0, .inr (12, [.ref vC, .ref vP, .ref vT, .ref vS, .ref vF, .ref vN, .ref vY, .int 0]))] sz)) (va_Qi (fun (r : Int32) (_ : Unit) => r = 1) (fun (u : Unit) t => zPost vwCl D (va_A [(h0, .inr (12, [.ref vC, .ref vP, .ref vT, .ref vS, .ref vF, .ref vN, .ref vY, .int 0]))] sz) [] t) (va_A [(h0, .inr (12, [.ref vC, .ref vP, .ref vT, .ref vS, .ref vF, .ref vN, .ref vY, .int 0]))] sz)) 1 6 (va_A [(h0, .inr (12, [.ref vC, .ref vP, .ref vT, .ref vS, .ref vF, .ref vN, .ref vY, .int 0]))] sz) := by
  refine va_MetW (cc := cL_hungShare) (maxL := 4) (ret := (some .int)) (hh := [(0, 9, 12, 21), (0, 9, 15, 132)]) (by decide) rfl ?_
  intro p e s m args below meth c s₁ B hml hv
  obtain ⟨rfl, hsz, hP, hK, hD0, hX, hY⟩ := hv
  have hx := B.exec
  have hb := B.bytes
  have hr := B.returns
  have hts0 := atoms_spec (ws := wzW yL_hungShare cL_hungShare 4 (some .int) [(0, 9, 12, 21), (0, 9, 15, 132)]) B.pre
  have hts : ∀ w ∈ wAll, w.before _ s = true := fun w h => hts0 w (List.mem_cons_of_mem _ h)
  have hown : s.vm.findClass RL = some m.cls := findClass_of_methodNamed B.named
  have hlocks := B.notSynchronized
  have htab := vx_table (x := yL_hungShare) B (hts0 _ List.mem_cons_self)
  subst hsz
  have hD := hD0.self (sz := s.heap.size)
  generalize hAe : va_A [(h0, .inr (12, [.ref vC, .ref vP, .ref vT, .ref vS, .ref vF, .ref vN, .ref vY, .int 0]))] s.heap.size = A at hD hY ⊢
  have hA : ∀ q : Nat, s.heap.size ≤ q → A q := fun q h => by rw [← hAe]; exact Or.inr h
  have hS : va_S A s.heap s.heap [] := va_S.rf
  have hP : va_P D vwCl [(h0, .inr (12, [.ref vC, .ref vP, .ref vT, .ref vS, .ref vF, .ref vN, .ref vY, .int 0]))] s.heap := hP
  have hl := lv_entry ([.ref h0, .int d, .ref o2]) (n := 4) (Nat.le_of_ble_eq_true rfl)
  rw [lg_entry_eq]
  generalize (lg_sl ([.ref h0, .int d, .ref o2]) ++ List.replicate (4 - (lg_sl ([.ref h0, .int d, .ref o2])).length) Slot.unset).toArray = ls at hl ⊢
  have hl : lv_has ls 4 [(0, .ref h0), (1, .int d), (2, .ref o2)] := hl
  refine z_anyQ (fun Q hQe => ?_)
  refine lv_aload_n hx hb dL_hungShare_0 rfl (lv_at hl 2 rfl) ?_
  refine lv_iconst (v := 0) hx hb dL_hungShare_1 (by decide) ?_
  refine lv_aload_n hx hb dL_hungShare_2 rfl (lv_at hl 0 rfl) ?_
  refine lv_iload_n hx hb dL_hungShare_3 rfl (lv_at hl 1 rfl) ?_
  refine zx_catch (wc := [(h0, .inr (12, [.ref vC, .ref vP, .ref vT, .ref vS, .ref vF, .ref vN, .ref vY, .int 0]))]) (wr := []) (vx_runV (As := [.int d]) (rest := [.int 0, .ref o2]) ⟨hx, hb, hml, hown, hts⟩ (f_hungShare_no l hlt D cy h0 vC vP vT vS vF vN vY d s.heap.size hd) (cwV 1 hts (gzV (gz q530) q529 q531 q532 q174) rfl rfl rfl vX9_hungShare ⟨Nat.le_of_ble_eq_true rfl, Nat.le_of_ble_eq_true rfl⟩) (zpV (ci := 12) (T := TX9) (N := 8) (q0 := 0) hK hX hY hP hD hS hA [0] (by decide) rfl rfl rfl) rfl rfl hl.1 rfl (lv_room (Nat.le_of_ble_eq_true rfl)) dL_hungShare_4 ⟨Nat.le_of_ble_eq_true rfl, Nat.le_of_ble_eq_true rfl⟩) hP hD hS hA [0] [] rfl rfl (by decide) (by decide) hown [] ⟨0, 9, 12, 21⟩ [⟨0, 9, 15, 132⟩] htab (fun z hz => by cases hz) rfl (by decide) (hts _ q512) hX.1.1.2.1 (fun q9 H locs hP hD hS => ?_)
  have hP : va_P D vwCl [] H := hP
  have hD : va_D A [] := hD
  refine W.widen (k := 1) (n := 6) (by omega) (by omega) ?_
  refine lv_astore_n (lv' := [(3, .ref q9), (0, .ref h0), (1, .int d), (2, .ref o2)]) hx hb dL_hungShare_12 rfl hl (by decide) rfl (fun ls hl => ?_)
  refine lv_iconst (v := 1) hx hb dL_hungShare_13 (by decide) ?_
  have hP9 := hP.sub (ws' := []) [] rfl
  have hD9 := hD.sub (ws' := []) [] (by decide) rfl
  refine W.widen (k := 1) (n := 6) (Nat.le_of_ble_eq_true rfl) (Nat.le_of_ble_eq_true rfl) ?_
  rw [hQe]
  exact W.iret (v := 1) hx hb hr (fun t ht hW => ⟨⟨1, (), rfl, rfl, ⟨by rw [ht]; exact hP9, hD9⟩⟩, hS.F ht⟩) hS.2.2 dL_hungShare_14
set_option maxHeartbeats 4000000 in
set_option maxRecDepth 100000 in
/-- the law's call of isSound: it throws -/
theorem w_isSound_no (l : Launch) (hlt : l.stackTraces = false) (D : va_G) (cy : Nat → ClassId) (h0 : Nat) (vC : Nat) (vP : Nat) (vT : Nat) (vS : Nat) (vF : Nat) (vN : Nat) (vY : Nat) (d : Int32) (o1 : Nat) (sz : Nat) (hd : zNoDay d) : Met l yL_isSound (wzW yL_isSound cL_isSound 4 (some .int) [(0, 16, 19, 21)]) ({ frames := 8, cells := 1, slots := 6, locals := 124 } : Room) (va_Pc [.ref h0, .int d, .ref o1] (zPre vwCl D cy [(h0, .inr (12, [.ref vC, .ref vP, .ref vT, .ref vS, .ref vF, .ref vN, .ref vY, .int 0]))] sz)) (va_Qi (fun (r : Int32) (_ : Unit) => r = 1) (fun (u : Unit) t => zPost vwCl D (va_A [(h0, .inr (12, [.ref vC, .ref vP, .ref vT, .ref vS, .ref vF, .ref vN, .ref vY, .int 0]))] sz) [] t) (va_A [(h0, .inr (12, [.ref vC, .ref vP, .ref vT, .ref vS, .ref vF, .ref vN, .ref vY, .int 0]))] sz)) 1 6 (va_A [(h0, .inr (12, [.ref vC, .ref vP, .ref vT, .ref vS, .ref vF, .ref vN, .ref vY, .int 0]))] sz) := by
  refine va_MetW (cc := cL_isSound) (maxL := 4) (ret := (some .int)) (hh := [(0, 16, 19, 21)]) (by decide) rfl ?_
  intro p e s m args below meth c s₁ B hml hv
  obtain ⟨rfl, hsz, hP, hK, hD0, hX, hY⟩ := hv
  have hx := B.exec
  have hb := B.bytes
  have hr := B.returns
  have hts0 := atoms_spec (ws := wzW yL_isSound cL_isSound 4 (some .int) [(0, 16, 19, 21)]) B.pre
  have hts : ∀ w ∈ wAll, w.before _ s = true := fun w h => hts0 w (List.mem_cons_of_mem _ h)
  have hown : s.vm.findClass RL = some m.cls := findClass_of_methodNamed B.named
  have hlocks := B.notSynchronized
  have htab := vx_table (x := yL_isSound) B (hts0 _ List.mem_cons_self)
  subst hsz
  have hD := hD0.self (sz := s.heap.size)
  generalize hAe : va_A [(h0, .inr (12, [.ref vC, .ref vP, .ref vT, .ref vS, .ref vF, .ref vN, .ref vY, .int 0]))] s.heap.size = A at hD hY ⊢
  have hA : ∀ q : Nat, s.heap.size ≤ q → A q := fun q h => by rw [← hAe]; exact Or.inr h
  have hS : va_S A s.heap s.heap [] := va_S.rf
  have hP : va_P D vwCl [(h0, .inr (12, [.ref vC, .ref vP, .ref vT, .ref vS, .ref vF, .ref vN, .ref vY, .int 0]))] s.heap := hP
  have hl := lv_entry ([.ref h0, .int d, .ref o1]) (n := 4) (Nat.le_of_ble_eq_true rfl)
  rw [lg_entry_eq]
  generalize (lg_sl ([.ref h0, .int d, .ref o1]) ++ List.replicate (4 - (lg_sl ([.ref h0, .int d, .ref o1])).length) Slot.unset).toArray = ls at hl ⊢
  have hl : lv_has ls 4 [(0, .ref h0), (1, .int d), (2, .ref o1)] := hl
  refine z_anyQ (fun Q hQe => ?_)
  refine lv_aload_n hx hb dL_isSound_0 rfl (lv_at hl 2 rfl) ?_
  refine lv_iconst (v := 0) hx hb dL_isSound_1 (by decide) ?_
  refine lv_aload_n hx hb dL_isSound_2 rfl (lv_at hl 0 rfl) ?_
  refine lv_iload_n hx hb dL_isSound_3 rfl (lv_at hl 1 rfl) ?_
  refine zx_catch (wc := [(h0, .inr (12, [.ref vC, .ref vP, .ref vT, .ref vS, .ref vF, .ref vN, .ref vY, .int 0]))]) (wr := []) (vx_runV (As := [.int d]) (rest := [.int 0, .ref o1]) ⟨hx, hb, hml, hown, hts⟩ (f_isSound_no l hlt D cy h0 vC vP vT vS vF vN vY d s.heap.size hd) (cwV 1 hts (gzV (gz q534) q533 q535 q536 q174) rfl rfl rfl vX9_isSound ⟨Nat.le_of_ble_eq_true rfl, Nat.le_of_ble_eq_true rfl⟩) (zpV (ci := 12) (T := TX9) (N := 8) (q0 := 0) hK hX hY hP hD hS hA [0] (by decide) rfl rfl rfl) rfl rfl hl.1 rfl (lv_room (Nat.le_of_ble_eq_true rfl)) dL_isSound_4 ⟨Nat.le_of_ble_eq_true rfl, Nat.le_of_ble_eq_true rfl⟩) hP hD hS hA [0] [] rfl rfl (by decide) (by decide) hown [] ⟨0, 16, 19, 21⟩ [] htab (fun z hz => by cases hz) rfl (by decide) (hts _ q512) hX.1.1.2.1 (fun q9 H locs hP hD hS => ?_)
  have hP : va_P D vwCl [] H := hP
  have hD : va_D A [] := hD
  refine W.widen (k := 1) (n := 6) (by omega) (by omega) ?_
  refine lv_astore_n (lv' := [(3, .ref q9), (0, .ref h0), (1, .int d), (2, .ref o1)]) hx hb dL_isSound_19 rfl hl (by decide) rfl (fun ls hl => ?_)
  refine lv_iconst (v := 1) hx hb dL_isSound_20 (by decide) ?_
  have hP9 := hP.sub (ws' := []) [] rfl
  have hD9 := hD.sub (ws' := []) [] (by decide) rfl
  refine W.widen (k := 1) (n := 6) (Nat.le_of_ble_eq_true rfl) (Nat.le_of_ble_eq_true rfl) ?_
  rw [hQe]
  exact W.iret (v := 1) hx hb hr (fun t ht hW => ⟨⟨1, (), rfl, rfl, ⟨by rw [ht]; exact hP9, hD9⟩⟩, hS.F ht⟩) hS.2.2 dL_isSound_21
set_option maxHeartbeats 4000000 in
set_option maxRecDepth 100000 in
/-- the law's call of loops: it answers -/
theorem w_loops_in (l : Launch) (hlt : l.stackTraces = false) (D : va_G) (cy : Nat → ClassId) (h0 : Nat) (vC : Nat) (vP : Nat) (vT : Nat) (vS : Nat) (vF : Nat) (vN : Nat) (vY : Nat) (sS : Nat) (sJ : Nat) (j1 : Nat) (j2 : Nat) (j3 : Nat) (jL : Nat) (p1 : Nat) (p2 : Nat) (p3 : Nat) (p4 : Nat) (p5 : Nat) (p6 : Nat) (p7 : Nat) (p8 : Nat) (d : Int32) (o1 : Nat) (sz : Nat) (hd : zDay d) : Met l yL_loops (wzW yL_loops cL_loops 4 (some .int) [(0, 9, 12, 21)]) ({ frames := 3, cells := 0, slots := 0, locals := 69 } : Room) (va_Pc [.ref h0, .int d, .ref o1] (zPre vwCl D cy [(h0, .inr (12, [.ref vC, .ref vP, .ref vT, .ref vS, .ref vF, .ref vN, .ref vY, .int 0])), (vC, .inr (3, [.ref sS, .ref sJ, .int 0, .int 0])), (sJ, .inr (5, [.ref j1, .ref j2, .ref j3, .ref jL, .int 0])), (jL, .inl (cy 0, 9, .inl (fun _ => 0))), (vP, .inr (7, [.ref vC, .ref p1, .ref p2, .ref p3, .ref p4, .ref p5, .ref p6, .ref p7, .int 0, .long 0, .ref p8, .int 0, .int 0, .long 1])), (p1, .inl (cy 0, 9, .inl (fun _ => 0))), (p2, .inl (cy 2, 9, .inl (fun _ => 0))), (p8, .inl (cy 2, 24, .inl (fun _ => 0))), (o1, .inl (cy 1, 1, .inr (.inl (fun _ => 0))))] sz)) (va_Qi (fun (r : Int32) (_ : Unit) => r = 0) (fun (u : Unit) t => zPost vwCl D (va_A [(h0, .inr (12, [.ref vC, .ref vP, .ref vT, .ref vS, .ref vF, .ref vN, .ref vY, .int 0])), (vC, .inr (3, [.ref sS, .ref sJ, .int 0, .int 0])), (sJ, .inr (5, [.ref j1, .ref j2, .ref j3, .ref jL, .int 0])), (jL, .inl (cy 0, 9, .inl (fun _ => 0))), (vP, .inr (7, [.ref vC, .ref p1, .ref p2, .ref p3, .ref p4, .ref p5, .ref p6, .ref p7, .int 0, .long 0, .ref p8, .int 0, .int 0, .long 1])), (p1, .inl (cy 0, 9, .inl (fun _ => 0))), (p2, .inl (cy 2, 9, .inl (fun _ => 0))), (p8, .inl (cy 2, 24, .inl (fun _ => 0))), (o1, .inl (cy 1, 1, .inr (.inl (fun _ => 0))))] sz) [(o1, .inl (cy 1, 1, .inr (.inl (fun _ => 0))))] t) (va_A [(h0, .inr (12, [.ref vC, .ref vP, .ref vT, .ref vS, .ref vF, .ref vN, .ref vY, .int 0])), (vC, .inr (3, [.ref sS, .ref sJ, .int 0, .int 0])), (sJ, .inr (5, [.ref j1, .ref j2, .ref j3, .ref jL, .int 0])), (jL, .inl (cy 0, 9, .inl (fun _ => 0))), (vP, .inr (7, [.ref vC, .ref p1, .ref p2, .ref p3, .ref p4, .ref p5, .ref p6, .ref p7, .int 0, .long 0, .ref p8, .int 0, .int 0, .long 1])), (p1, .inl (cy 0, 9, .inl (fun _ => 0))), (p2, .inl (cy 2, 9, .inl (fun _ => 0))), (p8, .inl (cy 2, 24, .inl (fun _ => 0))), (o1, .inl (cy 1, 1, .inr (.inl (fun _ => 0))))] sz)) 0 0 (va_A [(h0, .inr (12, [.ref vC, .ref vP, .ref vT, .ref vS, .ref vF, .ref vN, .ref vY, .int 0])), (vC, .inr (3, [.ref sS, .ref sJ, .int 0, .int 0])), (sJ, .inr (5, [.ref j1, .ref j2, .ref j3, .ref jL, .int 0])), (jL, .inl (cy 0, 9, .inl (fun _ => 0))), (vP, .inr (7, [.ref vC, .ref p1, .ref p2, .ref p3, .ref p4, .ref p5, .ref p6, .ref p7, .int 0, .long 0, .ref p8, .int 0, .int 0, .long 1])), (p1, .inl (cy 0, 9, .inl (fun _ => 0))), (p2, .inl (cy 2, 9, .inl (fun _ => 0))), (p8, .inl (cy 2, 24, .inl (fun _ => 0))), (o1, .inl (cy 1, 1, .inr (.inl (fun _ => 0))))] sz) := by
  refine va_MetW (cc := cL_loops) (maxL := 4) (ret := (some .int)) (hh := [(0, 9, 12, 21)]) (by decide) rfl ?_
  intro p e s m args below meth c s₁ B hml hv
  obtain ⟨rfl, hsz, hP, hK, hD0, hX, hY⟩ := hv
  have hx := B.exec
  have hb := B.bytes
  have hr := B.returns
  have hts0 := atoms_spec (ws := wzW yL_loops cL_loops 4 (some .int) [(0, 9, 12, 21)]) B.pre
  have hts : ∀ w ∈ wAll, w.before _ s = true := fun w h => hts0 w (List.mem_cons_of_mem _ h)
  have hown : s.vm.findClass RL = some m.cls := findClass_of_methodNamed B.named
  have hlocks := B.notSynchronized
  have htab := vx_table (x := yL_loops) B (hts0 _ List.mem_cons_self)
  subst hsz
  have hD := hD0.self (sz := s.heap.size)
  generalize hAe : va_A [(h0, .inr (12, [.ref vC, .ref vP, .ref vT, .ref vS, .ref vF, .ref vN, .ref vY, .int 0])), (vC, .inr (3, [.ref sS, .ref sJ, .int 0, .int 0])), (sJ, .inr (5, [.ref j1, .ref j2, .ref j3, .ref jL, .int 0])), (jL, .inl (cy 0, 9, .inl (fun _ => 0))), (vP, .inr (7, [.ref vC, .ref p1, .ref p2, .ref p3, .ref p4, .ref p5, .ref p6, .ref p7, .int 0, .long 0, .ref p8, .int 0, .int 0, .long 1])), (p1, .inl (cy 0, 9, .inl (fun _ => 0))), (p2, .inl (cy 2, 9, .inl (fun _ => 0))), (p8, .inl (cy 2, 24, .inl (fun _ => 0))), (o1, .inl (cy 1, 1, .inr (.inl (fun _ => 0))))] s.heap.size = A at hD hY ⊢
  have hA : ∀ q : Nat, s.heap.size ≤ q → A q := fun q h => by rw [← hAe]; exact Or.inr h
  have hS : va_S A s.heap s.heap [] := va_S.rf
  have hP : va_P D vwCl [(h0, .inr (12, [.ref vC, .ref vP, .ref vT, .ref vS, .ref vF, .ref vN, .ref vY, .int 0])), (vC, .inr (3, [.ref sS, .ref sJ, .int 0, .int 0])), (sJ, .inr (5, [.ref j1, .ref j2, .ref j3, .ref jL, .int 0])), (jL, .inl (cy 0, 9, .inl (fun _ => 0))), (vP, .inr (7, [.ref vC, .ref p1, .ref p2, .ref p3, .ref p4, .ref p5, .ref p6, .ref p7, .int 0, .long 0, .ref p8, .int 0, .int 0, .long 1])), (p1, .inl (cy 0, 9, .inl (fun _ => 0))), (p2, .inl (cy 2, 9, .inl (fun _ => 0))), (p8, .inl (cy 2, 24, .inl (fun _ => 0))), (o1, .inl (cy 1, 1, .inr (.inl (fun _ => 0))))] s.heap := hP
  have hl := lv_entry ([.ref h0, .int d, .ref o1]) (n := 4) (Nat.le_of_ble_eq_true rfl)
  rw [lg_entry_eq]
  generalize (lg_sl ([.ref h0, .int d, .ref o1]) ++ List.replicate (4 - (lg_sl ([.ref h0, .int d, .ref o1])).length) Slot.unset).toArray = ls at hl ⊢
  have hl : lv_has ls 4 [(0, .ref h0), (1, .int d), (2, .ref o1)] := hl
  refine z_anyQ (fun Q hQe => ?_)
  refine lv_aload_n hx hb dL_loops_0 rfl (lv_at hl 2 rfl) ?_
  refine lv_iconst (v := 0) hx hb dL_loops_1 (by decide) ?_
  refine lv_aload_n hx hb dL_loops_2 rfl (lv_at hl 0 rfl) ?_
  refine lv_iload_n hx hb dL_loops_3 rfl (lv_at hl 1 rfl) ?_
  refine zq_i (wc := [(h0, .inr (12, [.ref vC, .ref vP, .ref vT, .ref vS, .ref vF, .ref vN, .ref vY, .int 0])), (vC, .inr (3, [.ref sS, .ref sJ, .int 0, .int 0])), (sJ, .inr (5, [.ref j1, .ref j2, .ref j3, .ref jL, .int 0])), (jL, .inl (cy 0, 9, .inl (fun _ => 0))), (vP, .inr (7, [.ref vC, .ref p1, .ref p2, .ref p3, .ref p4, .ref p5, .ref p6, .ref p7, .int 0, .long 0, .ref p8, .int 0, .int 0, .long 1])), (p1, .inl (cy 0, 9, .inl (fun _ => 0))), (p2, .inl (cy 2, 9, .inl (fun _ => 0))), (p8, .inl (cy 2, 24, .inl (fun _ => 0)))]) (wr := [(o1, .inl (cy 1, 1, .inr (.inl (fun _ => 0))))]) (va_runV (As := [.int d]) (rest := [.int 0, .ref o1]) ⟨hx, hb, hml, hown, hts⟩ (f_loops_in l D cy h0 vC vP vT vS vF vN vY sS sJ j1 j2 j3 jL p1 p2 p3 p4 p5 p6 p7 p8 d s.heap.size hd) (cwV 1 hts (gzV (gz q509) q508 q510 q511 q174) rfl rfl rfl vX9_loops ⟨Nat.le_of_ble_eq_true rfl, Nat.le_of_ble_eq_true rfl⟩) (zpV (ci := 12) (T := TX9) (N := 8) (q0 := 0) hK hX hY hP hD hS hA [0, 1, 2, 3, 4, 5, 6, 7] (by decide) rfl rfl rfl) rfl rfl hl.1 rfl (lv_room (Nat.le_of_ble_eq_true rfl)) dL_loops_4 ⟨Nat.le_of_ble_eq_true rfl, Nat.le_of_ble_eq_true rfl⟩) hP hD hS hA [0, 1, 2, 3, 4, 5, 6, 7] [8] rfl rfl (by decide) (by decide) (fun x2 u1 H locs hw hP hD hS => ?_)
  obtain rfl : x2 = 0 := hw
  have hP : va_P D vwCl [(o1, .inl (cy 1, 1, .inr (.inl (fun _ => 0))))] H := hP
  have hD : va_D A [(o1, .inl (cy 1, 1, .inr (.inl (fun _ => 0))))] := hD
  refine lv_i2l (v := 0) hx hb dL_loops_7 (by decide) ?_
  refine va_last hx hb hK hP hD hS 0 1 rfl rfl (z_in 0 (by decide) (by decide)) dL_loops_8 (fun H locs hP hD hS => ?_)
  have hP : va_P D vwCl [(o1, .inl (cy 1, 1, .inr (.inl (vp_updL (fun _ => 0) (0 : Int32).toNatClampNeg 0))))] H := hP
  have hD : va_D A [(o1, .inl (cy 1, 1, .inr (.inl (vp_updL (fun _ => 0) (0 : Int32).toNatClampNeg 0))))] := hD
  refine lv_goto (tgt := 15) hx hb dL_loops_9 (by decide) ?_
  obtain ⟨hP, hD⟩ := zP_l (fun _ => 0) hP hD (q := 0) rfl (z_one rfl)
  have hP : va_P D vwCl [(o1, .inl (cy 1, 1, .inr (.inl (fun _ => 0))))] H := hP
  have hD : va_D A [(o1, .inl (cy 1, 1, .inr (.inl (fun _ => 0))))] := hD
  refine lv_iconst (v := 0) hx hb dL_loops_15 (by decide) ?_
  have hP9 := hP.sub (ws' := [(o1, .inl (cy 1, 1, .inr (.inl (fun _ => 0))))]) [0] rfl
  have hD9 := hD.sub (ws' := [(o1, .inl (cy 1, 1, .inr (.inl (fun _ => 0))))]) [0] (by decide) rfl
  refine W.widen (k := 0) (n := 0) (Nat.le_of_ble_eq_true rfl) (Nat.le_of_ble_eq_true rfl) ?_
  rw [hQe]
  exact W.iret (v := 0) hx hb hr (fun t ht hW => ⟨⟨0, (), rfl, rfl, ⟨by rw [ht]; exact hP9, hD9⟩⟩, hS.F ht⟩) hS.2.2 dL_loops_16
set_option maxHeartbeats 4000000 in
set_option maxRecDepth 100000 in
/-- the law's call of length: it answers -/
theorem w_length_in (l : Launch) (hlt : l.stackTraces = false) (D : va_G) (cy : Nat → ClassId) (h0 : Nat) (vC : Nat) (vP : Nat) (vT : Nat) (vS : Nat) (vF : Nat) (vN : Nat) (vY : Nat) (sS : Nat) (sJ : Nat) (j1 : Nat) (j2 : Nat) (j3 : Nat) (jL : Nat) (p1 : Nat) (p2 : Nat) (p3 : Nat) (p4 : Nat) (p5 : Nat) (p6 : Nat) (p7 : Nat) (p8 : Nat) (d : Int32) (o1 : Nat) (sz : Nat) (hd : zDay d) : Met l yL_length (wzW yL_length cL_length 4 (some .int) [(0, 9, 12, 21)]) ({ frames := 3, cells := 0, slots := 0, locals := 71 } : Room) (va_Pc [.ref h0, .int d, .ref o1] (zPre vwCl D cy [(h0, .inr (12, [.ref vC, .ref vP, .ref vT, .ref vS, .ref vF, .ref vN, .ref vY, .int 0])), (vC, .inr (3, [.ref sS, .ref sJ, .int 0, .int 0])), (sJ, .inr (5, [.ref j1, .ref j2, .ref j3, .ref jL, .int 0])), (jL, .inl (cy 0, 9, .inl (fun _ => 0))), (vP, .inr (7, [.ref vC, .ref p1, .ref p2, .ref p3, .ref p4, .ref p5, .ref p6, .ref p7, .int 0, .long 0, .ref p8, .int 0, .int 0, .long 1])), (p1, .inl (cy 0, 9, .inl (fun _ => 0))), (p2, .inl (cy 2, 9, .inl (fun _ => 0))), (p8, .inl (cy 2, 24, .inl (fun _ => 0))), (o1, .inl (cy 1, 1, .inr (.inl (fun _ => 0))))] sz)) (va_Qi (fun (r : Int32) (_ : Unit) => r = 0) (fun (u : Unit) t => zPost vwCl D (va_A [(h0, .inr (12, [.ref vC, .ref vP, .ref vT, .ref vS, .ref vF, .ref vN, .ref vY, .int 0])), (vC, .inr (3, [.ref sS, .ref sJ, .int 0, .int 0])), (sJ, .inr (5, [.ref j1, .ref j2, .ref j3, .ref jL, .int 0])), (jL, .inl (cy 0, 9, .inl (fun _ => 0))), (vP, .inr (7, [.ref vC, .ref p1, .ref p2, .ref p3, .ref p4, .ref p5, .ref p6, .ref p7, .int 0, .long 0, .ref p8, .int 0, .int 0, .long 1])), (p1, .inl (cy 0, 9, .inl (fun _ => 0))), (p2, .inl (cy 2, 9, .inl (fun _ => 0))), (p8, .inl (cy 2, 24, .inl (fun _ => 0))), (o1, .inl (cy 1, 1, .inr (.inl (fun _ => 0))))] sz) [(o1, .inl (cy 1, 1, .inr (.inl (fun _ => 0))))] t) (va_A [(h0, .inr (12, [.ref vC, .ref vP, .ref vT, .ref vS, .ref vF, .ref vN, .ref vY, .int 0])), (vC, .inr (3, [.ref sS, .ref sJ, .int 0, .int 0])), (sJ, .inr (5, [.ref j1, .ref j2, .ref j3, .ref jL, .int 0])), (jL, .inl (cy 0, 9, .inl (fun _ => 0))), (vP, .inr (7, [.ref vC, .ref p1, .ref p2, .ref p3, .ref p4, .ref p5, .ref p6, .ref p7, .int 0, .long 0, .ref p8, .int 0, .int 0, .long 1])), (p1, .inl (cy 0, 9, .inl (fun _ => 0))), (p2, .inl (cy 2, 9, .inl (fun _ => 0))), (p8, .inl (cy 2, 24, .inl (fun _ => 0))), (o1, .inl (cy 1, 1, .inr (.inl (fun _ => 0))))] sz)) 0 0 (va_A [(h0, .inr (12, [.ref vC, .ref vP, .ref vT, .ref vS, .ref vF, .ref vN, .ref vY, .int 0])), (vC, .inr (3, [.ref sS, .ref sJ, .int 0, .int 0])), (sJ, .inr (5, [.ref j1, .ref j2, .ref j3, .ref jL, .int 0])), (jL, .inl (cy 0, 9, .inl (fun _ => 0))), (vP, .inr (7, [.ref vC, .ref p1, .ref p2, .ref p3, .ref p4, .ref p5, .ref p6, .ref p7, .int 0, .long 0, .ref p8, .int 0, .int 0, .long 1])), (p1, .inl (cy 0, 9, .inl (fun _ => 0))), (p2, .inl (cy 2, 9, .inl (fun _ => 0))), (p8, .inl (cy 2, 24, .inl (fun _ => 0))), (o1, .inl (cy 1, 1, .inr (.inl (fun _ => 0))))] sz) := by
  refine va_MetW (cc := cL_length) (maxL := 4) (ret := (some .int)) (hh := [(0, 9, 12, 21)]) (by decide) rfl ?_
  intro p e s m args below meth c s₁ B hml hv
  obtain ⟨rfl, hsz, hP, hK, hD0, hX, hY⟩ := hv
  have hx := B.exec
  have hb := B.bytes
  have hr := B.returns
  have hts0 := atoms_spec (ws := wzW yL_length cL_length 4 (some .int) [(0, 9, 12, 21)]) B.pre
  have hts : ∀ w ∈ wAll, w.before _ s = true := fun w h => hts0 w (List.mem_cons_of_mem _ h)
  have hown : s.vm.findClass RL = some m.cls := findClass_of_methodNamed B.named
  have hlocks := B.notSynchronized
  have htab := vx_table (x := yL_length) B (hts0 _ List.mem_cons_self)
  subst hsz
  have hD := hD0.self (sz := s.heap.size)
  generalize hAe : va_A [(h0, .inr (12, [.ref vC, .ref vP, .ref vT, .ref vS, .ref vF, .ref vN, .ref vY, .int 0])), (vC, .inr (3, [.ref sS, .ref sJ, .int 0, .int 0])), (sJ, .inr (5, [.ref j1, .ref j2, .ref j3, .ref jL, .int 0])), (jL, .inl (cy 0, 9, .inl (fun _ => 0))), (vP, .inr (7, [.ref vC, .ref p1, .ref p2, .ref p3, .ref p4, .ref p5, .ref p6, .ref p7, .int 0, .long 0, .ref p8, .int 0, .int 0, .long 1])), (p1, .inl (cy 0, 9, .inl (fun _ => 0))), (p2, .inl (cy 2, 9, .inl (fun _ => 0))), (p8, .inl (cy 2, 24, .inl (fun _ => 0))), (o1, .inl (cy 1, 1, .inr (.inl (fun _ => 0))))] s.heap.size = A at hD hY ⊢
  have hA : ∀ q : Nat, s.heap.size ≤ q → A q := fun q h => by rw [← hAe]; exact Or.inr h
  have hS : va_S A s.heap s.heap [] := va_S.rf
  have hP : va_P D vwCl [(h0, .inr (12, [.ref vC, .ref vP, .ref vT, .ref vS, .ref vF, .ref vN, .ref vY, .int 0])), (vC, .inr (3, [.ref sS, .ref sJ, .int 0, .int 0])), (sJ, .inr (5, [.ref j1, .ref j2, .ref j3, .ref jL, .int 0])), (jL, .inl (cy 0, 9, .inl (fun _ => 0))), (vP, .inr (7, [.ref vC, .ref p1, .ref p2, .ref p3, .ref p4, .ref p5, .ref p6, .ref p7, .int 0, .long 0, .ref p8, .int 0, .int 0, .long 1])), (p1, .inl (cy 0, 9, .inl (fun _ => 0))), (p2, .inl (cy 2, 9, .inl (fun _ => 0))), (p8, .inl (cy 2, 24, .inl (fun _ => 0))), (o1, .inl (cy 1, 1, .inr (.inl (fun _ => 0))))] s.heap := hP
  have hl := lv_entry ([.ref h0, .int d, .ref o1]) (n := 4) (Nat.le_of_ble_eq_true rfl)
  rw [lg_entry_eq]
  generalize (lg_sl ([.ref h0, .int d, .ref o1]) ++ List.replicate (4 - (lg_sl ([.ref h0, .int d, .ref o1])).length) Slot.unset).toArray = ls at hl ⊢
  have hl : lv_has ls 4 [(0, .ref h0), (1, .int d), (2, .ref o1)] := hl
  refine z_anyQ (fun Q hQe => ?_)
  refine lv_aload_n hx hb dL_length_0 rfl (lv_at hl 2 rfl) ?_
  refine lv_iconst (v := 0) hx hb dL_length_1 (by decide) ?_
  refine lv_aload_n hx hb dL_length_2 rfl (lv_at hl 0 rfl) ?_
  refine lv_iload_n hx hb dL_length_3 rfl (lv_at hl 1 rfl) ?_
  refine zq_i (wc := [(h0, .inr (12, [.ref vC, .ref vP, .ref vT, .ref vS, .ref vF, .ref vN, .ref vY, .int 0])), (vC, .inr (3, [.ref sS, .ref sJ, .int 0, .int 0])), (sJ, .inr (5, [.ref j1, .ref j2, .ref j3, .ref jL, .int 0])), (jL, .inl (cy 0, 9, .inl (fun _ => 0))), (vP, .inr (7, [.ref vC, .ref p1, .ref p2, .ref p3, .ref p4, .ref p5, .ref p6, .ref p7, .int 0, .long 0, .ref p8, .int 0, .int 0, .long 1])), (p1, .inl (cy 0, 9, .inl (fun _ => 0))), (p2, .inl (cy 2, 9, .inl (fun _ => 0))), (p8, .inl (cy 2, 24, .inl (fun _ => 0)))]) (wr := [(o1, .inl (cy 1, 1, .inr (.inl (fun _ => 0))))]) (va_runV (As := [.int d]) (rest := [.int 0, .ref o1]) ⟨hx, hb, hml, hown, hts⟩ (f_length_in l D cy h0 vC vP vT vS vF vN vY sS sJ j1 j2 j3 jL p1 p2 p3 p4 p5 p6 p7 p8 d s.heap.size hd) (cwV 1 hts (gzV (gz q522) q521 q523 q524 q174) rfl rfl rfl vX9_length ⟨Nat.le_of_ble_eq_true rfl, Nat.le_of_ble_eq_true rfl⟩) (zpV (ci := 12) (T := TX9) (N := 8) (q0 := 0) hK hX hY hP hD hS hA [0, 1, 2, 3, 4, 5, 6, 7] (by decide) rfl rfl rfl) rfl rfl hl.1 rfl (lv_room (Nat.le_of_ble_eq_true rfl)) dL_length_4 ⟨Nat.le_of_ble_eq_true rfl, Nat.le_of_ble_eq_true rfl⟩) hP hD hS hA [0, 1, 2, 3, 4, 5, 6, 7] [8] rfl rfl (by decide) (by decide) (fun x2 u1 H locs hw hP hD hS => ?_)
  obtain rfl : x2 = 0 := hw
  have hP : va_P D vwCl [(o1, .inl (cy 1, 1, .inr (.inl (fun _ => 0))))] H := hP
  have hD : va_D A [(o1, .inl (cy 1, 1, .inr (.inl (fun _ => 0))))] := hD
  refine lv_i2l (v := 0) hx hb dL_length_7 (by decide) ?_
  refine va_last hx hb hK hP hD hS 0 1 rfl rfl (z_in 0 (by decide) (by decide)) dL_length_8 (fun H locs hP hD hS => ?_)
  have hP : va_P D vwCl [(o1, .inl (cy 1, 1, .inr (.inl (vp_updL (fun _ => 0) (0 : Int32).toNatClampNeg 0))))] H := hP
  have hD : va_D A [(o1, .inl (cy 1, 1, .inr (.inl (vp_updL (fun _ => 0) (0 : Int32).toNatClampNeg 0))))] := hD
  refine lv_goto (tgt := 15) hx hb dL_length_9 (by decide) ?_
  obtain ⟨hP, hD⟩ := zP_l (fun _ => 0) hP hD (q := 0) rfl (z_one rfl)
  have hP : va_P D vwCl [(o1, .inl (cy 1, 1, .inr (.inl (fun _ => 0))))] H := hP
  have hD : va_D A [(o1, .inl (cy 1, 1, .inr (.inl (fun _ => 0))))] := hD
  refine lv_iconst (v := 0) hx hb dL_length_15 (by decide) ?_
  have hP9 := hP.sub (ws' := [(o1, .inl (cy 1, 1, .inr (.inl (fun _ => 0))))]) [0] rfl
  have hD9 := hD.sub (ws' := [(o1, .inl (cy 1, 1, .inr (.inl (fun _ => 0))))]) [0] (by decide) rfl
  refine W.widen (k := 0) (n := 0) (Nat.le_of_ble_eq_true rfl) (Nat.le_of_ble_eq_true rfl) ?_
  rw [hQe]
  exact W.iret (v := 0) hx hb hr (fun t ht hW => ⟨⟨0, (), rfl, rfl, ⟨by rw [ht]; exact hP9, hD9⟩⟩, hS.F ht⟩) hS.2.2 dL_length_16
set_option maxHeartbeats 4000000 in
set_option maxRecDepth 100000 in
/-- the law's call of allFaults: it answers -/
theorem w_allFaults_in (l : Launch) (hlt : l.stackTraces = false) (D : va_G) (cy : Nat → ClassId) (h0 : Nat) (vC : Nat) (vP : Nat) (vT : Nat) (vS : Nat) (vF : Nat) (vN : Nat) (vY : Nat) (sS : Nat) (sJ : Nat) (j1 : Nat) (j2 : Nat) (j3 : Nat) (jL : Nat) (p1 : Nat) (p2 : Nat) (p3 : Nat) (p4 : Nat) (p5 : Nat) (p6 : Nat) (p7 : Nat) (p8 : Nat) (rn : Nat → Nat) (rt : Nat → Nat) (d : Int32) (o1 : Nat) (sz : Nat) (hd : zDay d) : Met l yL_allFaults (wzW yL_allFaults cL_allFaults 4 (some .int) [(0, 8, 11, 21)]) ({ frames := 5, cells := 0, slots := 0, locals := 106 } : Room) (va_Pc [.ref h0, .int d, .ref o1] (zPre vwCl D cy [(h0, .inr (12, [.ref vC, .ref vP, .ref vT, .ref vS, .ref vF, .ref vN, .ref vY, .int 0])), (vC, .inr (3, [.ref sS, .ref sJ, .int 0, .int 0])), (sJ, .inr (5, [.ref j1, .ref j2, .ref j3, .ref jL, .int 0])), (jL, .inl (cy 0, 9, .inl (fun _ => 0))), (vP, .inr (7, [.ref vC, .ref p1, .ref p2, .ref p3, .ref p4, .ref p5, .ref p6, .ref p7, .int 0, .long 0, .ref p8, .int 0, .int 0, .long 1])), (p1, .inl (cy 0, 9, .inl (fun _ => 0))), (p2, .inl (cy 2, 9, .inl (fun _ => 0))), (p8, .inl (cy 2, 24, .inl (fun _ => 0))), (p3, .inl (cy 0, 9, .inl (fun _ => 0))), (p4, .inl (cy 3, 8, .inr (.inr (.inr (.inr (fun k9 => if k9 < 8 then some (rn k9) else none)))))), ((rn 0), .inl (cy 1, 11, .inr (.inl (fun _ => 0)))), ((rn 1), .inl (cy 1, 11, .inr (.inl (fun _ => 0)))), ((rn 2), .inl (cy 1, 11, .inr (.inl (fun _ => 0)))), ((rn 3), .inl (cy 1, 11, .inr (.inl (fun _ => 0)))), ((rn 4), .inl (cy 1, 11, .inr (.inl (fun _ => 0)))), ((rn 5), .inl (cy 1, 11, .inr (.inl (fun _ => 0)))), ((rn 6), .inl (cy 1, 11, .inr (.inl (fun _ => 0)))), ((rn 7), .inl (cy 1, 11, .inr (.inl (fun _ => 0)))), (p5, .inl (cy 3, 9, .inr (.inr (.inr (.inr (fun k9 => if k9 < 9 then some (rt k9) else none)))))), ((rt 0), .inl (cy 1, 3, .inr (.inl (fun _ => 0)))), ((rt 1), .inl (cy 1, 3, .inr (.inl (fun _ => 0)))), ((rt 2), .inl (cy 1, 3, .inr (.inl (fun _ => 0)))), ((rt 3), .inl (cy 1, 3, .inr (.inl (fun _ => 0)))), ((rt 4), .inl (cy 1, 3, .inr (.inl (fun _ => 0)))), ((rt 5), .inl (cy 1, 3, .inr (.inl (fun _ => 0)))), ((rt 6), .inl (cy 1, 3, .inr (.inl (fun _ => 0)))), ((rt 7), .inl (cy 1, 3, .inr (.inl (fun _ => 0)))), ((rt 8), .inl (cy 1, 3, .inr (.inl (fun _ => 0)))), (o1, .inl (cy 1, 1, .inr (.inl (fun _ => 0))))] sz)) (va_Qi (fun (r : Int32) (_ : Unit) => r = 0) (fun (u : Unit) t => zPost vwCl D (va_A [(h0, .inr (12, [.ref vC, .ref vP, .ref vT, .ref vS, .ref vF, .ref vN, .ref vY, .int 0])), (vC, .inr (3, [.ref sS, .ref sJ, .int 0, .int 0])), (sJ, .inr (5, [.ref j1, .ref j2, .ref j3, .ref jL, .int 0])), (jL, .inl (cy 0, 9, .inl (fun _ => 0))), (vP, .inr (7, [.ref vC, .ref p1, .ref p2, .ref p3, .ref p4, .ref p5, .ref p6, .ref p7, .int 0, .long 0, .ref p8, .int 0, .int 0, .long 1])), (p1, .inl (cy 0, 9, .inl (fun _ => 0))), (p2, .inl (cy 2, 9, .inl (fun _ => 0))), (p8, .inl (cy 2, 24, .inl (fun _ => 0))), (p3, .inl (cy 0, 9, .inl (fun _ => 0))), (p4, .inl (cy 3, 8, .inr (.inr (.inr (.inr (fun k9 => if k9 < 8 then some (rn k9) else none)))))), ((rn 0), .inl (cy 1, 11, .inr (.inl (fun _ => 0)))), ((rn 1), .inl (cy 1, 11, .inr (.inl (fun _ => 0)))), ((rn 2), .inl (cy 1, 11, .inr (.inl (fun _ => 0)))), ((rn 3), .inl (cy 1, 11, .inr (.inl (fun _ => 0)))), ((rn 4), .inl (cy 1, 11, .inr (.inl (fun _ => 0)))), ((rn 5), .inl (cy 1, 11, .inr (.inl (fun _ => 0)))), ((rn 6), .inl (cy 1, 11, .inr (.inl (fun _ => 0)))), ((rn 7), .inl (cy 1, 11, .inr (.inl (fun _ => 0)))), (p5, .inl (cy 3, 9, .inr (.inr (.inr (.inr (fun k9 => if k9 < 9 then some (rt k9) else none)))))), ((rt 0), .inl (cy 1, 3, .inr (.inl (fun _ => 0)))), ((rt 1), .inl (cy 1, 3, .inr (.inl (fun _ => 0)))), ((rt 2), .inl (cy 1, 3, .inr (.inl (fun _ => 0)))), ((rt 3), .inl (cy 1, 3, .inr (.inl (fun _ => 0)))), ((rt 4), .inl (cy 1, 3, .inr (.inl (fun _ => 0)))), ((rt 5), .inl (cy 1, 3, .inr (.inl (fun _ => 0)))), ((rt 6), .inl (cy 1, 3, .inr (.inl (fun _ => 0)))), ((rt 7), .inl (cy 1, 3, .inr (.inl (fun _ => 0)))), ((rt 8), .inl (cy 1, 3, .inr (.inl (fun _ => 0)))), (o1, .inl (cy 1, 1, .inr (.inl (fun _ => 0))))] sz) [(o1, .inl (cy 1, 1, .inr (.inl (fun _ => 0))))] t) (va_A [(h0, .inr (12, [.ref vC, .ref vP, .ref vT, .ref vS, .ref vF, .ref vN, .ref vY, .int 0])), (vC, .inr (3, [.ref sS, .ref sJ, .int 0, .int 0])), (sJ, .inr (5, [.ref j1, .ref j2, .ref j3, .ref jL, .int 0])), (jL, .inl (cy 0, 9, .inl (fun _ => 0))), (vP, .inr (7, [.ref vC, .ref p1, .ref p2, .ref p3, .ref p4, .ref p5, .ref p6, .ref p7, .int 0, .long 0, .ref p8, .int 0, .int 0, .long 1])), (p1, .inl (cy 0, 9, .inl (fun _ => 0))), (p2, .inl (cy 2, 9, .inl (fun _ => 0))), (p8, .inl (cy 2, 24, .inl (fun _ => 0))), (p3, .inl (cy 0, 9, .inl (fun _ => 0))), (p4, .inl (cy 3, 8, .inr (.inr (.inr (.inr (fun k9 => if k9 < 8 then some (rn k9) else none)))))), ((rn 0), .inl (cy 1, 11, .inr (.inl (fun _ => 0)))), ((rn 1), .inl (cy 1, 11, .inr (.inl (fun _ => 0)))), ((rn 2), .inl (cy 1, 11, .inr (.inl (fun _ => 0)))), ((rn 3), .inl (cy 1, 11, .inr (.inl (fun _ => 0)))), ((rn 4), .inl (cy 1, 11, .inr (.inl (fun _ => 0)))), ((rn 5), .inl (cy 1, 11, .inr (.inl (fun _ => 0)))), ((rn 6), .inl (cy 1, 11, .inr (.inl (fun _ => 0)))), ((rn 7), .inl (cy 1, 11, .inr (.inl (fun _ => 0)))), (p5, .inl (cy 3, 9, .inr (.inr (.inr (.inr (fun k9 => if k9 < 9 then some (rt k9) else none)))))), ((rt 0), .inl (cy 1, 3, .inr (.inl (fun _ => 0)))), ((rt 1), .inl (cy 1, 3, .inr (.inl (fun _ => 0)))), ((rt 2), .inl (cy 1, 3, .inr (.inl (fun _ => 0)))), ((rt 3), .inl (cy 1, 3, .inr (.inl (fun _ => 0)))), ((rt 4), .inl (cy 1, 3, .inr (.inl (fun _ => 0)))), ((rt 5), .inl (cy 1, 3, .inr (.inl (fun _ => 0)))), ((rt 6), .inl (cy 1, 3, .inr (.inl (fun _ => 0)))), ((rt 7), .inl (cy 1, 3, .inr (.inl (fun _ => 0)))), ((rt 8), .inl (cy 1, 3, .inr (.inl (fun _ => 0)))), (o1, .inl (cy 1, 1, .inr (.inl (fun _ => 0))))] sz)) 0 0 (va_A [(h0, .inr (12, [.ref vC, .ref vP, .ref vT, .ref vS, .ref vF, .ref vN, .ref vY, .int 0])), (vC, .inr (3, [.ref sS, .ref sJ, .int 0, .int 0])), (sJ, .inr (5, [.ref j1, .ref j2, .ref j3, .ref jL, .int 0])), (jL, .inl (cy 0, 9, .inl (fun _ => 0))), (vP, .inr (7, [.ref vC, .ref p1, .ref p2, .ref p3, .ref p4, .ref p5, .ref p6, .ref p7, .int 0, .long 0, .ref p8, .int 0, .int 0, .long 1])), (p1, .inl (cy 0, 9, .inl (fun _ => 0))), (p2, .inl (cy 2, 9, .inl (fun _ => 0))), (p8, .inl (cy 2, 24, .inl (fun _ => 0))), (p3, .inl (cy 0, 9, .inl (fun _ => 0))), (p4, .inl (cy 3, 8, .inr (.inr (.inr (.inr (fun k9 => if k9 < 8 then some (rn k9) else none)))))), ((rn 0), .inl (cy 1, 11, .inr (.inl (fun _ => 0)))), ((rn 1), .inl (cy 1, 11, .inr (.inl (fun _ => 0)))), ((rn 2), .inl (cy 1, 11, .inr (.inl (fun _ => 0)))), ((rn 3), .inl (cy 1, 11, .inr (.inl (fun _ => 0)))), ((rn 4), .inl (cy 1, 11, .inr (.inl (fun _ => 0)))), ((rn 5), .inl (cy 1, 11, .inr (.inl (fun _ => 0)))), ((rn 6), .inl (cy 1, 11, .inr (.inl (fun _ => 0)))), ((rn 7), .inl (cy 1, 11, .inr (.inl (fun _ => 0)))), (p5, .inl (cy 3, 9, .inr (.inr (.inr (.inr (fun k9 => if k9 < 9 then some (rt k9) else none)))))), ((rt 0), .inl (cy 1, 3, .inr (.inl (fun _ => 0)))), ((rt 1), .inl (cy 1, 3, .inr (.inl (fun _ => 0)))), ((rt 2), .inl (cy 1, 3, .inr (.inl (fun _ => 0)))), ((rt 3), .inl (cy 1, 3, .inr (.inl (fun _ => 0)))), ((rt 4), .inl (cy 1, 3, .inr (.inl (fun _ => 0)))), ((rt 5), .inl (cy 1, 3, .inr (.inl (fun _ => 0)))), ((rt 6), .inl (cy 1, 3, .inr (.inl (fun _ => 0)))), ((rt 7), .inl (cy 1, 3, .inr (.inl (fun _ => 0)))), ((rt 8), .inl (cy 1, 3, .inr (.inl (fun _ => 0)))), (o1, .inl (cy 1, 1, .inr (.inl (fun _ => 0))))] sz) := by
  refine va_MetW (cc := cL_allFaults) (maxL := 4) (ret := (some .int)) (hh := [(0, 8, 11, 21)]) (by decide) rfl ?_
  intro p e s m args below meth c s₁ B hml hv
  obtain ⟨rfl, hsz, hP, hK, hD0, hX, hY⟩ := hv
  have hx := B.exec
  have hb := B.bytes
  have hr := B.returns
  have hts0 := atoms_spec (ws := wzW yL_allFaults cL_allFaults 4 (some .int) [(0, 8, 11, 21)]) B.pre
  have hts : ∀ w ∈ wAll, w.before _ s = true := fun w h => hts0 w (List.mem_cons_of_mem _ h)
  have hown : s.vm.findClass RL = some m.cls := findClass_of_methodNamed B.named
  have hlocks := B.notSynchronized
  have htab := vx_table (x := yL_allFaults) B (hts0 _ List.mem_cons_self)
  subst hsz
  have hD := hD0.self (sz := s.heap.size)
  generalize hAe : va_A [(h0, .inr (12, [.ref vC, .ref vP, .ref vT, .ref vS, .ref vF, .ref vN, .ref vY, .int 0])), (vC, .inr (3, [.ref sS, .ref sJ, .int 0, .int 0])), (sJ, .inr (5, [.ref j1, .ref j2, .ref j3, .ref jL, .int 0])), (jL, .inl (cy 0, 9, .inl (fun _ => 0))), (vP, .inr (7, [.ref vC, .ref p1, .ref p2, .ref p3, .ref p4, .ref p5, .ref p6, .ref p7, .int 0, .long 0, .ref p8, .int 0, .int 0, .long 1])), (p1, .inl (cy 0, 9, .inl (fun _ => 0))), (p2, .inl (cy 2, 9, .inl (fun _ => 0))), (p8, .inl (cy 2, 24, .inl (fun _ => 0))), (p3, .inl (cy 0, 9, .inl (fun _ => 0))), (p4, .inl (cy 3, 8, .inr (.inr (.inr (.inr (fun k9 => if k9 < 8 then some (rn k9) else none)))))), ((rn 0), .inl (cy 1, 11, .inr (.inl (fun _ => 0)))), ((rn 1), .inl (cy 1, 11, .inr (.inl (fun _ => 0)))), ((rn 2), .inl (cy 1, 11, .inr (.inl (fun _ => 0)))), ((rn 3), .inl (cy 1, 11, .inr (.inl (fun _ => 0)))), ((rn 4), .inl (cy 1, 11, .inr (.inl (fun _ => 0)))), ((rn 5), .inl (cy 1, 11, .inr (.inl (fun _ => 0)))), ((rn 6), .inl (cy 1, 11, .inr (.inl (fun _ => 0)))), ((rn 7), .inl (cy 1, 11, .inr (.inl (fun _ => 0)))), (p5, .inl (cy 3, 9, .inr (.inr (.inr (.inr (fun k9 => if k9 < 9 then some (rt k9) else none)))))), ((rt 0), .inl (cy 1, 3, .inr (.inl (fun _ => 0)))), ((rt 1), .inl (cy 1, 3, .inr (.inl (fun _ => 0)))), ((rt 2), .inl (cy 1, 3, .inr (.inl (fun _ => 0)))), ((rt 3), .inl (cy 1, 3, .inr (.inl (fun _ => 0)))), ((rt 4), .inl (cy 1, 3, .inr (.inl (fun _ => 0)))), ((rt 5), .inl (cy 1, 3, .inr (.inl (fun _ => 0)))), ((rt 6), .inl (cy 1, 3, .inr (.inl (fun _ => 0)))), ((rt 7), .inl (cy 1, 3, .inr (.inl (fun _ => 0)))), ((rt 8), .inl (cy 1, 3, .inr (.inl (fun _ => 0)))), (o1, .inl (cy 1, 1, .inr (.inl (fun _ => 0))))] s.heap.size = A at hD hY ⊢
  have hA : ∀ q : Nat, s.heap.size ≤ q → A q := fun q h => by rw [← hAe]; exact Or.inr h
  have hS : va_S A s.heap s.heap [] := va_S.rf
  have hP : va_P D vwCl [(h0, .inr (12, [.ref vC, .ref vP, .ref vT, .ref vS, .ref vF, .ref vN, .ref vY, .int 0])), (vC, .inr (3, [.ref sS, .ref sJ, .int 0, .int 0])), (sJ, .inr (5, [.ref j1, .ref j2, .ref j3, .ref jL, .int 0])), (jL, .inl (cy 0, 9, .inl (fun _ => 0))), (vP, .inr (7, [.ref vC, .ref p1, .ref p2, .ref p3, .ref p4, .ref p5, .ref p6, .ref p7, .int 0, .long 0, .ref p8, .int 0, .int 0, .long 1])), (p1, .inl (cy 0, 9, .inl (fun _ => 0))), (p2, .inl (cy 2, 9, .inl (fun _ => 0))), (p8, .inl (cy 2, 24, .inl (fun _ => 0))), (p3, .inl (cy 0, 9, .inl (fun _ => 0))), (p4, .inl (cy 3, 8, .inr (.inr (.inr (.inr (fun k9 => if k9 < 8 then some (rn k9) else none)))))), ((rn 0), .inl (cy 1, 11, .inr (.inl (fun _ => 0)))), ((rn 1), .inl (cy 1, 11, .inr (.inl (fun _ => 0)))), ((rn 2), .inl (cy 1, 11, .inr (.inl (fun _ => 0)))), ((rn 3), .inl (cy 1, 11, .inr (.inl (fun _ => 0)))), ((rn 4), .inl (cy 1, 11, .inr (.inl (fun _ => 0)))), ((rn 5), .inl (cy 1, 11, .inr (.inl (fun _ => 0)))), ((rn 6), .inl (cy 1, 11, .inr (.inl (fun _ => 0)))), ((rn 7), .inl (cy 1, 11, .inr (.inl (fun _ => 0)))), (p5, .inl (cy 3, 9, .inr (.inr (.inr (.inr (fun k9 => if k9 < 9 then some (rt k9) else none)))))), ((rt 0), .inl (cy 1, 3, .inr (.inl (fun _ => 0)))), ((rt 1), .inl (cy 1, 3, .inr (.inl (fun _ => 0)))), ((rt 2), .inl (cy 1, 3, .inr (.inl (fun _ => 0)))), ((rt 3), .inl (cy 1, 3, .inr (.inl (fun _ => 0)))), ((rt 4), .inl (cy 1, 3, .inr (.inl (fun _ => 0)))), ((rt 5), .inl (cy 1, 3, .inr (.inl (fun _ => 0)))), ((rt 6), .inl (cy 1, 3, .inr (.inl (fun _ => 0)))), ((rt 7), .inl (cy 1, 3, .inr (.inl (fun _ => 0)))), ((rt 8), .inl (cy 1, 3, .inr (.inl (fun _ => 0)))), (o1, .inl (cy 1, 1, .inr (.inl (fun _ => 0))))] s.heap := hP
  have hl := lv_entry ([.ref h0, .int d, .ref o1]) (n := 4) (Nat.le_of_ble_eq_true rfl)
  rw [lg_entry_eq]
  generalize (lg_sl ([.ref h0, .int d, .ref o1]) ++ List.replicate (4 - (lg_sl ([.ref h0, .int d, .ref o1])).length) Slot.unset).toArray = ls at hl ⊢
  have hl : lv_has ls 4 [(0, .ref h0), (1, .int d), (2, .ref o1)] := hl
  refine z_anyQ (fun Q hQe => ?_)
  refine lv_aload_n hx hb dL_allFaults_0 rfl (lv_at hl 2 rfl) ?_
  refine lv_iconst (v := 0) hx hb dL_allFaults_1 (by decide) ?_
  refine lv_aload_n hx hb dL_allFaults_2 rfl (lv_at hl 0 rfl) ?_
  refine lv_iload_n hx hb dL_allFaults_3 rfl (lv_at hl 1 rfl) ?_
  refine zq_l (wc := [(h0, .inr (12, [.ref vC, .ref vP, .ref vT, .ref vS, .ref vF, .ref vN, .ref vY, .int 0])), (vC, .inr (3, [.ref sS, .ref sJ, .int 0, .int 0])), (sJ, .inr (5, [.ref j1, .ref j2, .ref j3, .ref jL, .int 0])), (jL, .inl (cy 0, 9, .inl (fun _ => 0))), (vP, .inr (7, [.ref vC, .ref p1, .ref p2, .ref p3, .ref p4, .ref p5, .ref p6, .ref p7, .int 0, .long 0, .ref p8, .int 0, .int 0, .long 1])), (p1, .inl (cy 0, 9, .inl (fun _ => 0))), (p2, .inl (cy 2, 9, .inl (fun _ => 0))), (p8, .inl (cy 2, 24, .inl (fun _ => 0))), (p3, .inl (cy 0, 9, .inl (fun _ => 0))), (p4, .inl (cy 3, 8, .inr (.inr (.inr (.inr (fun k9 => if k9 < 8 then some (rn k9) else none)))))), ((rn 0), .inl (cy 1, 11, .inr (.inl (fun _ => 0)))), ((rn 1), .inl (cy 1, 11, .inr (.inl (fun _ => 0)))), ((rn 2), .inl (cy 1, 11, .inr (.inl (fun _ => 0)))), ((rn 3), .inl (cy 1, 11, .inr (.inl (fun _ => 0)))), ((rn 4), .inl (cy 1, 11, .inr (.inl (fun _ => 0)))), ((rn 5), .inl (cy 1, 11, .inr (.inl (fun _ => 0)))), ((rn 6), .inl (cy 1, 11, .inr (.inl (fun _ => 0)))), ((rn 7), .inl (cy 1, 11, .inr (.inl (fun _ => 0)))), (p5, .inl (cy 3, 9, .inr (.inr (.inr (.inr (fun k9 => if k9 < 9 then some (rt k9) else none)))))), ((rt 0), .inl (cy 1, 3, .inr (.inl (fun _ => 0)))), ((rt 1), .inl (cy 1, 3, .inr (.inl (fun _ => 0)))), ((rt 2), .inl (cy 1, 3, .inr (.inl (fun _ => 0)))), ((rt 3), .inl (cy 1, 3, .inr (.inl (fun _ => 0)))), ((rt 4), .inl (cy 1, 3, .inr (.inl (fun _ => 0)))), ((rt 5), .inl (cy 1, 3, .inr (.inl (fun _ => 0)))), ((rt 6), .inl (cy 1, 3, .inr (.inl (fun _ => 0)))), ((rt 7), .inl (cy 1, 3, .inr (.inl (fun _ => 0)))), ((rt 8), .inl (cy 1, 3, .inr (.inl (fun _ => 0))))]) (wr := [(o1, .inl (cy 1, 1, .inr (.inl (fun _ => 0))))]) (va_runV (As := [.int d]) (rest := [.int 0, .ref o1]) ⟨hx, hb, hml, hown, hts⟩ (f_allFaults_in l D cy h0 vC vP vT vS vF vN vY sS sJ j1 j2 j3 jL p1 p2 p3 p4 p5 p6 p7 p8 rn rt d s.heap.size hd) (cwV 1 hts (gzV (gz q514) q513 q515 q516 q174) rfl rfl rfl vX9_allFaults ⟨Nat.le_of_ble_eq_true rfl, Nat.le_of_ble_eq_true rfl⟩) (zpV (ci := 12) (T := TX9) (N := 8) (q0 := 0) hK hX hY hP hD hS hA [0, 1, 2, 3, 4, 5, 6, 7, 8, 9, 10, 11, 12, 13, 14, 15, 16, 17, 18, 19, 20, 21, 22, 23, 24, 25, 26, 27] (by decide) rfl rfl rfl) rfl rfl hl.1 rfl (lv_room (Nat.le_of_ble_eq_true rfl)) dL_allFaults_4 ⟨Nat.le_of_ble_eq_true rfl, Nat.le_of_ble_eq_true rfl⟩) hP hD hS hA [0, 1, 2, 3, 4, 5, 6, 7, 8, 9, 10, 11, 12, 13, 14, 15, 16, 17, 18, 19, 20, 21, 22, 23, 24, 25, 26, 27] [28] rfl rfl (by decide) (by decide) (fun x2 u1 H locs hw hP hD hS => ?_)
  obtain rfl : x2 = 0 := hw
  have hP : va_P D vwCl [(o1, .inl (cy 1, 1, .inr (.inl (fun _ => 0))))] H := hP
  have hD : va_D A [(o1, .inl (cy 1, 1, .inr (.inl (fun _ => 0))))] := hD
  refine va_last hx hb hK hP hD hS 0 1 rfl rfl (z_in 0 (by decide) (by decide)) dL_allFaults_7 (fun H locs hP hD hS => ?_)
  have hP : va_P D vwCl [(o1, .inl (cy 1, 1, .inr (.inl (vp_updL (fun _ => 0) (0 : Int32).toNatClampNeg 0))))] H := hP
  have hD : va_D A [(o1, .inl (cy 1, 1, .inr (.inl (vp_updL (fun _ => 0) (0 : Int32).toNatClampNeg 0))))] := hD
  refine lv_goto (tgt := 14) hx hb dL_allFaults_8 (by decide) ?_
  obtain ⟨hP, hD⟩ := zP_l (fun _ => 0) hP hD (q := 0) rfl (z_one rfl)
  have hP : va_P D vwCl [(o1, .inl (cy 1, 1, .inr (.inl (fun _ => 0))))] H := hP
  have hD : va_D A [(o1, .inl (cy 1, 1, .inr (.inl (fun _ => 0))))] := hD
  refine lv_iconst (v := 0) hx hb dL_allFaults_14 (by decide) ?_
  have hP9 := hP.sub (ws' := [(o1, .inl (cy 1, 1, .inr (.inl (fun _ => 0))))]) [0] rfl
  have hD9 := hD.sub (ws' := [(o1, .inl (cy 1, 1, .inr (.inl (fun _ => 0))))]) [0] (by decide) rfl
  refine W.widen (k := 0) (n := 0) (Nat.le_of_ble_eq_true rfl) (Nat.le_of_ble_eq_true rfl) ?_
  rw [hQe]
  exact W.iret (v := 0) hx hb hr (fun t ht hW => ⟨⟨0, (), rfl, rfl, ⟨by rw [ht]; exact hP9, hD9⟩⟩, hS.F ht⟩) hS.2.2 dL_allFaults_15
set_option maxHeartbeats 4000000 in
set_option maxRecDepth 100000 in
/-- the law's call of depth: it answers -/
theorem w_depth_in (l : Launch) (hlt : l.stackTraces = false) (D : va_G) (cy : Nat → ClassId) (h0 : Nat) (vC : Nat) (vP : Nat) (vT : Nat) (vS : Nat) (vF : Nat) (vN : Nat) (vY : Nat) (sS : Nat) (sJ : Nat) (j1 : Nat) (j2 : Nat) (j3 : Nat) (jL : Nat) (p1 : Nat) (p2 : Nat) (p3 : Nat) (p4 : Nat) (p5 : Nat) (p6 : Nat) (p7 : Nat) (p8 : Nat) (rn : Nat → Nat) (rt : Nat → Nat) (d : Int32) (o1 : Nat) (sz : Nat) (hd : zDay d) : Met l yL_depth (wzW yL_depth cL_depth 4 (some .int) [(0, 8, 11, 21)]) ({ frames := 5, cells := 0, slots := 0, locals := 106 } : Room) (va_Pc [.ref h0, .int d, .ref o1] (zPre vwCl D cy [(h0, .inr (12, [.ref vC, .ref vP, .ref vT, .ref vS, .ref vF, .ref vN, .ref vY, .int 0])), (vC, .inr (3, [.ref sS, .ref sJ, .int 0, .int 0])), (sJ, .inr (5, [.ref j1, .ref j2, .ref j3, .ref jL, .int 0])), (jL, .inl (cy 0, 9, .inl (fun _ => 0))), (vP, .inr (7, [.ref vC, .ref p1, .ref p2, .ref p3, .ref p4, .ref p5, .ref p6, .ref p7, .int 0, .long 0, .ref p8, .int 0, .int 0, .long 1])), (p1, .inl (cy 0, 9, .inl (fun _ => 0))), (p2, .inl (cy 2, 9, .inl (fun _ => 0))), (p8, .inl (cy 2, 24, .inl (fun _ => 0))), (p3, .inl (cy 0, 9, .inl (fun _ => 0))), (p4, .inl (cy 3, 8, .inr (.inr (.inr (.inr (fun k9 => if k9 < 8 then some (rn k9) else none)))))), ((rn 0), .inl (cy 1, 11, .inr (.inl (fun _ => 0)))), ((rn 1), .inl (cy 1, 11, .inr (.inl (fun _ => 0)))), ((rn 2), .inl (cy 1, 11, .inr (.inl (fun _ => 0)))), ((rn 3), .inl (cy 1, 11, .inr (.inl (fun _ => 0)))), ((rn 4), .inl (cy 1, 11, .inr (.inl (fun _ => 0)))), ((rn 5), .inl (cy 1, 11, .inr (.inl (fun _ => 0)))), ((rn 6), .inl (cy 1, 11, .inr (.inl (fun _ => 0)))), ((rn 7), .inl (cy 1, 11, .inr (.inl (fun _ => 0)))), (p5, .inl (cy 3, 9, .inr (.inr (.inr (.inr (fun k9 => if k9 < 9 then some (rt k9) else none)))))), ((rt 0), .inl (cy 1, 3, .inr (.inl (fun _ => 0)))), ((rt 1), .inl (cy 1, 3, .inr (.inl (fun _ => 0)))), ((rt 2), .inl (cy 1, 3, .inr (.inl (fun _ => 0)))), ((rt 3), .inl (cy 1, 3, .inr (.inl (fun _ => 0)))), ((rt 4), .inl (cy 1, 3, .inr (.inl (fun _ => 0)))), ((rt 5), .inl (cy 1, 3, .inr (.inl (fun _ => 0)))), ((rt 6), .inl (cy 1, 3, .inr (.inl (fun _ => 0)))), ((rt 7), .inl (cy 1, 3, .inr (.inl (fun _ => 0)))), ((rt 8), .inl (cy 1, 3, .inr (.inl (fun _ => 0)))), (o1, .inl (cy 1, 1, .inr (.inl (fun _ => 0))))] sz)) (va_Qi (fun (r : Int32) (_ : Unit) => r = 0) (fun (u : Unit) t => zPost vwCl D (va_A [(h0, .inr (12, [.ref vC, .ref vP, .ref vT, .ref vS, .ref vF, .ref vN, .ref vY, .int 0])), (vC, .inr (3, [.ref sS, .ref sJ, .int 0, .int 0])), (sJ, .inr (5, [.ref j1, .ref j2, .ref j3, .ref jL, .int 0])), (jL, .inl (cy 0, 9, .inl (fun _ => 0))), (vP, .inr (7, [.ref vC, .ref p1, .ref p2, .ref p3, .ref p4, .ref p5, .ref p6, .ref p7, .int 0, .long 0, .ref p8, .int 0, .int 0, .long 1])), (p1, .inl (cy 0, 9, .inl (fun _ => 0))), (p2, .inl (cy 2, 9, .inl (fun _ => 0))), (p8, .inl (cy 2, 24, .inl (fun _ => 0))), (p3, .inl (cy 0, 9, .inl (fun _ => 0))), (p4, .inl (cy 3, 8, .inr (.inr (.inr (.inr (fun k9 => if k9 < 8 then some (rn k9) else none)))))), ((rn 0), .inl (cy 1, 11, .inr (.inl (fun _ => 0)))), ((rn 1), .inl (cy 1, 11, .inr (.inl (fun _ => 0)))), ((rn 2), .inl (cy 1, 11, .inr (.inl (fun _ => 0)))), ((rn 3), .inl (cy 1, 11, .inr (.inl (fun _ => 0)))), ((rn 4), .inl (cy 1, 11, .inr (.inl (fun _ => 0)))), ((rn 5), .inl (cy 1, 11, .inr (.inl (fun _ => 0)))), ((rn 6), .inl (cy 1, 11, .inr (.inl (fun _ => 0)))), ((rn 7), .inl (cy 1, 11, .inr (.inl (fun _ => 0)))), (p5, .inl (cy 3, 9, .inr (.inr (.inr (.inr (fun k9 => if k9 < 9 then some (rt k9) else none)))))), ((rt 0), .inl (cy 1, 3, .inr (.inl (fun _ => 0)))), ((rt 1), .inl (cy 1, 3, .inr (.inl (fun _ => 0)))), ((rt 2), .inl (cy 1, 3, .inr (.inl (fun _ => 0)))), ((rt 3), .inl (cy 1, 3, .inr (.inl (fun _ => 0)))), ((rt 4), .inl (cy 1, 3, .inr (.inl (fun _ => 0)))), ((rt 5), .inl (cy 1, 3, .inr (.inl (fun _ => 0)))), ((rt 6), .inl (cy 1, 3, .inr (.inl (fun _ => 0)))), ((rt 7), .inl (cy 1, 3, .inr (.inl (fun _ => 0)))), ((rt 8), .inl (cy 1, 3, .inr (.inl (fun _ => 0)))), (o1, .inl (cy 1, 1, .inr (.inl (fun _ => 0))))] sz) [(o1, .inl (cy 1, 1, .inr (.inl (fun _ => 0))))] t) (va_A [(h0, .inr (12, [.ref vC, .ref vP, .ref vT, .ref vS, .ref vF, .ref vN, .ref vY, .int 0])), (vC, .inr (3, [.ref sS, .ref sJ, .int 0, .int 0])), (sJ, .inr (5, [.ref j1, .ref j2, .ref j3, .ref jL, .int 0])), (jL, .inl (cy 0, 9, .inl (fun _ => 0))), (vP, .inr (7, [.ref vC, .ref p1, .ref p2, .ref p3, .ref p4, .ref p5, .ref p6, .ref p7, .int 0, .long 0, .ref p8, .int 0, .int 0, .long 1])), (p1, .inl (cy 0, 9, .inl (fun _ => 0))), (p2, .inl (cy 2, 9, .inl (fun _ => 0))), (p8, .inl (cy 2, 24, .inl (fun _ => 0))), (p3, .inl (cy 0, 9, .inl (fun _ => 0))), (p4, .inl (cy 3, 8, .inr (.inr (.inr (.inr (fun k9 => if k9 < 8 then some (rn k9) else none)))))), ((rn 0), .inl (cy 1, 11, .inr (.inl (fun _ => 0)))), ((rn 1), .inl (cy 1, 11, .inr (.inl (fun _ => 0)))), ((rn 2), .inl (cy 1, 11, .inr (.inl (fun _ => 0)))), ((rn 3), .inl (cy 1, 11, .inr (.inl (fun _ => 0)))), ((rn 4), .inl (cy 1, 11, .inr (.inl (fun _ => 0)))), ((rn 5), .inl (cy 1, 11, .inr (.inl (fun _ => 0)))), ((rn 6), .inl (cy 1, 11, .inr (.inl (fun _ => 0)))), ((rn 7), .inl (cy 1, 11, .inr (.inl (fun _ => 0)))), (p5, .inl (cy 3, 9, .inr (.inr (.inr (.inr (fun k9 => if k9 < 9 then some (rt k9) else none)))))), ((rt 0), .inl (cy 1, 3, .inr (.inl (fun _ => 0)))), ((rt 1), .inl (cy 1, 3, .inr (.inl (fun _ => 0)))), ((rt 2), .inl (cy 1, 3, .inr (.inl (fun _ => 0)))), ((rt 3), .inl (cy 1, 3, .inr (.inl (fun _ => 0)))), ((rt 4), .inl (cy 1, 3, .inr (.inl (fun _ => 0)))), ((rt 5), .inl (cy 1, 3, .inr (.inl (fun _ => 0)))), ((rt 6), .inl (cy 1, 3, .inr (.inl (fun _ => 0)))), ((rt 7), .inl (cy 1, 3, .inr (.inl (fun _ => 0)))), ((rt 8), .inl (cy 1, 3, .inr (.inl (fun _ => 0)))), (o1, .inl (cy 1, 1, .inr (.inl (fun _ => 0))))] sz)) 0 0 (va_A [(h0, .inr (12, [.ref vC, .ref vP, .ref vT, .ref vS, .ref vF, .ref vN, .ref vY, .int 0])), (vC, .inr (3, [.ref sS, .ref sJ, .int 0, .int 0])), (sJ, .inr (5, [.ref j1, .ref j2, .ref j3, .ref jL, .int 0])), (jL, .inl (cy 0, 9, .inl (fun _ => 0))), (vP, .inr (7, [.ref vC, .ref p1, .ref p2, .ref p3, .ref p4, .ref p5, .ref p6, .ref p7, .int 0, .long 0, .ref p8, .int 0, .int 0, .long 1])), (p1, .inl (cy 0, 9, .inl (fun _ => 0))), (p2, .inl (cy 2, 9, .inl (fun _ => 0))), (p8, .inl (cy 2, 24, .inl (fun _ => 0))), (p3, .inl (cy 0, 9, .inl (fun _ => 0))), (p4, .inl (cy 3, 8, .inr (.inr (.inr (.inr (fun k9 => if k9 < 8 then some (rn k9) else none)))))), ((rn 0), .inl (cy 1, 11, .inr (.inl (fun _ => 0)))), ((rn 1), .inl (cy 1, 11, .inr (.inl (fun _ => 0)))), ((rn 2), .inl (cy 1, 11, .inr (.inl (fun _ => 0)))), ((rn 3), .inl (cy 1, 11, .inr (.inl (fun _ => 0)))), ((rn 4), .inl (cy 1, 11, .inr (.inl (fun _ => 0)))), ((rn 5), .inl (cy 1, 11, .inr (.inl (fun _ => 0)))), ((rn 6), .inl (cy 1, 11, .inr (.inl (fun _ => 0)))), ((rn 7), .inl (cy 1, 11, .inr (.inl (fun _ => 0)))), (p5, .inl (cy 3, 9, .inr (.inr (.inr (.inr (fun k9 => if k9 < 9 then some (rt k9) else none)))))), ((rt 0), .inl (cy 1, 3, .inr (.inl (fun _ => 0)))), ((rt 1), .inl (cy 1, 3, .inr (.inl (fun _ => 0)))), ((rt 2), .inl (cy 1, 3, .inr (.inl (fun _ => 0)))), ((rt 3), .inl (cy 1, 3, .inr (.inl (fun _ => 0)))), ((rt 4), .inl (cy 1, 3, .inr (.inl (fun _ => 0)))), ((rt 5), .inl (cy 1, 3, .inr (.inl (fun _ => 0)))), ((rt 6), .inl (cy 1, 3, .inr (.inl (fun _ => 0)))), ((rt 7), .inl (cy 1, 3, .inr (.inl (fun _ => 0)))), ((rt 8), .inl (cy 1, 3, .inr (.inl (fun _ => 0)))), (o1, .inl (cy 1, 1, .inr (.inl (fun _ => 0))))] sz) := by
  refine va_MetW (cc := cL_depth) (maxL := 4) (ret := (some .int)) (hh := [(0, 8, 11, 21)]) (by decide) rfl ?_
  intro p e s m args below meth c s₁ B hml hv
  obtain ⟨rfl, hsz, hP, hK, hD0, hX, hY⟩ := hv
  have hx := B.exec
  have hb := B.bytes
  have hr := B.returns
  have hts0 := atoms_spec (ws := wzW yL_depth cL_depth 4 (some .int) [(0, 8, 11, 21)]) B.pre
  have hts : ∀ w ∈ wAll, w.before _ s = true := fun w h => hts0 w (List.mem_cons_of_mem _ h)
  have hown : s.vm.findClass RL = some m.cls := findClass_of_methodNamed B.named
  have hlocks := B.notSynchronized
  have htab := vx_table (x := yL_depth) B (hts0 _ List.mem_cons_self)
  subst hsz
  have hD := hD0.self (sz := s.heap.size)
  generalize hAe : va_A [(h0, .inr (12, [.ref vC, .ref vP, .ref vT, .ref vS, .ref vF, .ref vN, .ref vY, .int 0])), (vC, .inr (3, [.ref sS, .ref sJ, .int 0, .int 0])), (sJ, .inr (5, [.ref j1, .ref j2, .ref j3, .ref jL, .int 0])), (jL, .inl (cy 0, 9, .inl (fun _ => 0))), (vP, .inr (7, [.ref vC, .ref p1, .ref p2, .ref p3, .ref p4, .ref p5, .ref p6, .ref p7, .int 0, .long 0, .ref p8, .int 0, .int 0, .long 1])), (p1, .inl (cy 0, 9, .inl (fun _ => 0))), (p2, .inl (cy 2, 9, .inl (fun _ => 0))), (p8, .inl (cy 2, 24, .inl (fun _ => 0))), (p3, .inl (cy 0, 9, .inl (fun _ => 0))), (p4, .inl (cy 3, 8, .inr (.inr (.inr (.inr (fun k9 => if k9 < 8 then some (rn k9) else none)))))), ((rn 0), .inl (cy 1, 11, .inr (.inl (fun _ => 0)))), ((rn 1), .inl (cy 1, 11, .inr (.inl (fun _ => 0)))), ((rn 2), .inl (cy 1, 11, .inr (.inl (fun _ => 0)))), ((rn 3), .inl (cy 1, 11, .inr (.inl (fun _ => 0)))), ((rn 4), .inl (cy 1, 11, .inr (.inl (fun _ => 0)))), ((rn 5), .inl (cy 1, 11, .inr (.inl (fun _ => 0)))), ((rn 6), .inl (cy 1, 11, .inr (.inl (fun _ => 0)))), ((rn 7), .inl (cy 1, 11, .inr (.inl (fun _ => 0)))), (p5, .inl (cy 3, 9, .inr (.inr (.inr (.inr (fun k9 => if k9 < 9 then some (rt k9) else none)))))), ((rt 0), .inl (cy 1, 3, .inr (.inl (fun _ => 0)))), ((rt 1), .inl (cy 1, 3, .inr (.inl (fun _ => 0)))), ((rt 2), .inl (cy 1, 3, .inr (.inl (fun _ => 0)))), ((rt 3), .inl (cy 1, 3, .inr (.inl (fun _ => 0)))), ((rt 4), .inl (cy 1, 3, .inr (.inl (fun _ => 0)))), ((rt 5), .inl (cy 1, 3, .inr (.inl (fun _ => 0)))), ((rt 6), .inl (cy 1, 3, .inr (.inl (fun _ => 0)))), ((rt 7), .inl (cy 1, 3, .inr (.inl (fun _ => 0)))), ((rt 8), .inl (cy 1, 3, .inr (.inl (fun _ => 0)))), (o1, .inl (cy 1, 1, .inr (.inl (fun _ => 0))))] s.heap.size = A at hD hY ⊢
  have hA : ∀ q : Nat, s.heap.size ≤ q → A q := fun q h => by rw [← hAe]; exact Or.inr h
  have hS : va_S A s.heap s.heap [] := va_S.rf
  have hP : va_P D vwCl [(h0, .inr (12, [.ref vC, .ref vP, .ref vT, .ref vS, .ref vF, .ref vN, .ref vY, .int 0])), (vC, .inr (3, [.ref sS, .ref sJ, .int 0, .int 0])), (sJ, .inr (5, [.ref j1, .ref j2, .ref j3, .ref jL, .int 0])), (jL, .inl (cy 0, 9, .inl (fun _ => 0))), (vP, .inr (7, [.ref vC, .ref p1, .ref p2, .ref p3, .ref p4, .ref p5, .ref p6, .ref p7, .int 0, .long 0, .ref p8, .int 0, .int 0, .long 1])), (p1, .inl (cy 0, 9, .inl (fun _ => 0))), (p2, .inl (cy 2, 9, .inl (fun _ => 0))), (p8, .inl (cy 2, 24, .inl (fun _ => 0))), (p3, .inl (cy 0, 9, .inl (fun _ => 0))), (p4, .inl (cy 3, 8, .inr (.inr (.inr (.inr (fun k9 => if k9 < 8 then some (rn k9) else none)))))), ((rn 0), .inl (cy 1, 11, .inr (.inl (fun _ => 0)))), ((rn 1), .inl (cy 1, 11, .inr (.inl (fun _ => 0)))), ((rn 2), .inl (cy 1, 11, .inr (.inl (fun _ => 0)))), ((rn 3), .inl (cy 1, 11, .inr (.inl (fun _ => 0)))), ((rn 4), .inl (cy 1, 11, .inr (.inl (fun _ => 0)))), ((rn 5), .inl (cy 1, 11, .inr (.inl (fun _ => 0)))), ((rn 6), .inl (cy 1, 11, .inr (.inl (fun _ => 0)))), ((rn 7), .inl (cy 1, 11, .inr (.inl (fun _ => 0)))), (p5, .inl (cy 3, 9, .inr (.inr (.inr (.inr (fun k9 => if k9 < 9 then some (rt k9) else none)))))), ((rt 0), .inl (cy 1, 3, .inr (.inl (fun _ => 0)))), ((rt 1), .inl (cy 1, 3, .inr (.inl (fun _ => 0)))), ((rt 2), .inl (cy 1, 3, .inr (.inl (fun _ => 0)))), ((rt 3), .inl (cy 1, 3, .inr (.inl (fun _ => 0)))), ((rt 4), .inl (cy 1, 3, .inr (.inl (fun _ => 0)))), ((rt 5), .inl (cy 1, 3, .inr (.inl (fun _ => 0)))), ((rt 6), .inl (cy 1, 3, .inr (.inl (fun _ => 0)))), ((rt 7), .inl (cy 1, 3, .inr (.inl (fun _ => 0)))), ((rt 8), .inl (cy 1, 3, .inr (.inl (fun _ => 0)))), (o1, .inl (cy 1, 1, .inr (.inl (fun _ => 0))))] s.heap := hP
  have hl := lv_entry ([.ref h0, .int d, .ref o1]) (n := 4) (Nat.le_of_ble_eq_true rfl)
  rw [lg_entry_eq]
  generalize (lg_sl ([.ref h0, .int d, .ref o1]) ++ List.replicate (4 - (lg_sl ([.ref h0, .int d, .ref o1])).length) Slot.unset).toArray = ls at hl ⊢
  have hl : lv_has ls 4 [(0, .ref h0), (1, .int d), (2, .ref o1)] := hl
  refine z_anyQ (fun Q hQe => ?_)
  refine lv_aload_n hx hb dL_depth_0 rfl (lv_at hl 2 rfl) ?_
  refine lv_iconst (v := 0) hx hb dL_depth_1 (by decide) ?_
  refine lv_aload_n hx hb dL_depth_2 rfl (lv_at hl 0 rfl) ?_
  refine lv_iload_n hx hb dL_depth_3 rfl (lv_at hl 1 rfl) ?_
  refine zq_l (wc := [(h0, .inr (12, [.ref vC, .ref vP, .ref vT, .ref vS, .ref vF, .ref vN, .ref vY, .int 0])), (vC, .inr (3, [.ref sS, .ref sJ, .int 0, .int 0])), (sJ, .inr (5, [.ref j1, .ref j2, .ref j3, .ref jL, .int 0])), (jL, .inl (cy 0, 9, .inl (fun _ => 0))), (vP, .inr (7, [.ref vC, .ref p1, .ref p2, .ref p3, .ref p4, .ref p5, .ref p6, .ref p7, .int 0, .long 0, .ref p8, .int 0, .int 0, .long 1])), (p1, .inl (cy 0, 9, .inl (fun _ => 0))), (p2, .inl (cy 2, 9, .inl (fun _ => 0))), (p8, .inl (cy 2, 24, .inl (fun _ => 0))), (p3, .inl (cy 0, 9, .inl (fun _ => 0))), (p4, .inl (cy 3, 8, .inr (.inr (.inr (.inr (fun k9 => if k9 < 8 then some (rn k9) else none)))))), ((rn 0), .inl (cy 1, 11, .inr (.inl (fun _ => 0)))), ((rn 1), .inl (cy 1, 11, .inr (.inl (fun _ => 0)))), ((rn 2), .inl (cy 1, 11, .inr (.inl (fun _ => 0)))), ((rn 3), .inl (cy 1, 11, .inr (.inl (fun _ => 0)))), ((rn 4), .inl (cy 1, 11, .inr (.inl (fun _ => 0)))), ((rn 5), .inl (cy 1, 11, .inr (.inl (fun _ => 0)))), ((rn 6), .inl (cy 1, 11, .inr (.inl (fun _ => 0)))), ((rn 7), .inl (cy 1, 11, .inr (.inl (fun _ => 0)))), (p5, .inl (cy 3, 9, .inr (.inr (.inr (.inr (fun k9 => if k9 < 9 then some (rt k9) else none)))))), ((rt 0), .inl (cy 1, 3, .inr (.inl (fun _ => 0)))), ((rt 1), .inl (cy 1, 3, .inr (.inl (fun _ => 0)))), ((rt 2), .inl (cy 1, 3, .inr (.inl (fun _ => 0)))), ((rt 3), .inl (cy 1, 3, .inr (.inl (fun _ => 0)))), ((rt 4), .inl (cy 1, 3, .inr (.inl (fun _ => 0)))), ((rt 5), .inl (cy 1, 3, .inr (.inl (fun _ => 0)))), ((rt 6), .inl (cy 1, 3, .inr (.inl (fun _ => 0)))), ((rt 7), .inl (cy 1, 3, .inr (.inl (fun _ => 0)))), ((rt 8), .inl (cy 1, 3, .inr (.inl (fun _ => 0))))]) (wr := [(o1, .inl (cy 1, 1, .inr (.inl (fun _ => 0))))]) (va_runV (As := [.int d]) (rest := [.int 0, .ref o1]) ⟨hx, hb, hml, hown, hts⟩ (f_depth_in l D cy h0 vC vP vT vS vF vN vY sS sJ j1 j2 j3 jL p1 p2 p3 p4 p5 p6 p7 p8 rn rt d s.heap.size hd) (cwV 1 hts (gzV (gz q526) q525 q527 q528 q174) rfl rfl rfl vX9_depth ⟨Nat.le_of_ble_eq_true rfl, Nat.le_of_ble_eq_true rfl⟩) (zpV (ci := 12) (T := TX9) (N := 8) (q0 := 0) hK hX hY hP hD hS hA [0, 1, 2, 3, 4, 5, 6, 7, 8, 9, 10, 11, 12, 13, 14, 15, 16, 17, 18, 19, 20, 21, 22, 23, 24, 25, 26, 27] (by decide) rfl rfl rfl) rfl rfl hl.1 rfl (lv_room (Nat.le_of_ble_eq_true rfl)) dL_depth_4 ⟨Nat.le_of_ble_eq_true rfl, Nat.le_of_ble_eq_true rfl⟩) hP hD hS hA [0, 1, 2, 3, 4, 5, 6, 7, 8, 9, 10, 11, 12, 13, 14, 15, 16, 17, 18, 19, 20, 21, 22, 23, 24, 25, 26, 27] [28] rfl rfl (by decide) (by decide) (fun x2 u1 H locs hw hP hD hS => ?_)
  obtain rfl : x2 = 0 := hw
  have hP : va_P D vwCl [(o1, .inl (cy 1, 1, .inr (.inl (fun _ => 0))))] H := hP
  have hD : va_D A [(o1, .inl (cy 1, 1, .inr (.inl (fun _ => 0))))] := hD
  refine va_last hx hb hK hP hD hS 0 1 rfl rfl (z_in 0 (by decide) (by decide)) dL_depth_7 (fun H locs hP hD hS => ?_)
  have hP : va_P D vwCl [(o1, .inl (cy 1, 1, .inr (.inl (vp_updL (fun _ => 0) (0 : Int32).toNatClampNeg 0))))] H := hP
  have hD : va_D A [(o1, .inl (cy 1, 1, .inr (.inl (vp_updL (fun _ => 0) (0 : Int32).toNatClampNeg 0))))] := hD
  refine lv_goto (tgt := 14) hx hb dL_depth_8 (by decide) ?_
  obtain ⟨hP, hD⟩ := zP_l (fun _ => 0) hP hD (q := 0) rfl (z_one rfl)
  have hP : va_P D vwCl [(o1, .inl (cy 1, 1, .inr (.inl (fun _ => 0))))] H := hP
  have hD : va_D A [(o1, .inl (cy 1, 1, .inr (.inl (fun _ => 0))))] := hD
  refine lv_iconst (v := 0) hx hb dL_depth_14 (by decide) ?_
  have hP9 := hP.sub (ws' := [(o1, .inl (cy 1, 1, .inr (.inl (fun _ => 0))))]) [0] rfl
  have hD9 := hD.sub (ws' := [(o1, .inl (cy 1, 1, .inr (.inl (fun _ => 0))))]) [0] (by decide) rfl
  refine W.widen (k := 0) (n := 0) (Nat.le_of_ble_eq_true rfl) (Nat.le_of_ble_eq_true rfl) ?_
  rw [hQe]
  exact W.iret (v := 0) hx hb hr (fun t ht hW => ⟨⟨0, (), rfl, rfl, ⟨by rw [ht]; exact hP9, hD9⟩⟩, hS.F ht⟩) hS.2.2 dL_depth_15
set_option maxHeartbeats 4000000 in
set_option maxRecDepth 100000 in
/-- the law's call of blunder: it throws -/
theorem w_blunder_in (l : Launch) (hlt : l.stackTraces = false) (D : va_G) (cy : Nat → ClassId) (h0 : Nat) (vC : Nat) (vP : Nat) (vT : Nat) (vS : Nat) (vF : Nat) (vN : Nat) (vY : Nat) (sS : Nat) (sJ : Nat) (j1 : Nat) (j2 : Nat) (j3 : Nat) (jL : Nat) (p1 : Nat) (p2 : Nat) (p3 : Nat) (p4 : Nat) (p5 : Nat) (p6 : Nat) (p7 : Nat) (p8 : Nat) (rn : Nat → Nat) (rt : Nat → Nat) (d : Int32) (o1 : Nat) (sz : Nat) (hd : zDay d) : Met l yL_blunder (wzW yL_blunder cL_blunder 4 (some .int) [(0, 9, 12, 21), (0, 9, 15, 42)]) ({ frames := 7, cells := 1, slots := 6, locals := 107 } : Room) (va_Pc [.ref h0, .int d, .ref o1] (zPre vwCl D cy [(h0, .inr (12, [.ref vC, .ref vP, .ref vT, .ref vS, .ref vF, .ref vN, .ref vY, .int 0])), (vC, .inr (3, [.ref sS, .ref sJ, .int 0, .int 0])), (sJ, .inr (5, [.ref j1, .ref j2, .ref j3, .ref jL, .int 0])), (jL, .inl (cy 0, 9, .inl (fun _ => 0))), (vP, .inr (7, [.ref vC, .ref p1, .ref p2, .ref p3, .ref p4, .ref p5, .ref p6, .ref p7, .int 0, .long 0, .ref p8, .int 0, .int 0, .long 1])), (p1, .inl (cy 0, 9, .inl (fun _ => 0))), (p2, .inl (cy 2, 9, .inl (fun _ => 0))), (p8, .inl (cy 2, 24, .inl (fun _ => 0))), (p3, .inl (cy 0, 9, .inl (fun _ => 0))), (p4, .inl (cy 3, 8, .inr (.inr (.inr (.inr (fun k9 => if k9 < 8 then some (rn k9) else none)))))), ((rn 0), .inl (cy 1, 11, .inr (.inl (fun _ => 0)))), ((rn 1), .inl (cy 1, 11, .inr (.inl (fun _ => 0)))), ((rn 2), .inl (cy 1, 11, .inr (.inl (fun _ => 0)))), ((rn 3), .inl (cy 1, 11, .inr (.inl (fun _ => 0)))), ((rn 4), .inl (cy 1, 11, .inr (.inl (fun _ => 0)))), ((rn 5), .inl (cy 1, 11, .inr (.inl (fun _ => 0)))), ((rn 6), .inl (cy 1, 11, .inr (.inl (fun _ => 0)))), ((rn 7), .inl (cy 1, 11, .inr (.inl (fun _ => 0)))), (p5, .inl (cy 3, 9, .inr (.inr (.inr (.inr (fun k9 => if k9 < 9 then some (rt k9) else none)))))), ((rt 0), .inl (cy 1, 3, .inr (.inl (fun _ => 0)))), ((rt 1), .inl (cy 1, 3, .inr (.inl (fun _ => 0)))), ((rt 2), .inl (cy 1, 3, .inr (.inl (fun _ => 0)))), ((rt 3), .inl (cy 1, 3, .inr (.inl (fun _ => 0)))), ((rt 4), .inl (cy 1, 3, .inr (.inl (fun _ => 0)))), ((rt 5), .inl (cy 1, 3, .inr (.inl (fun _ => 0)))), ((rt 6), .inl (cy 1, 3, .inr (.inl (fun _ => 0)))), ((rt 7), .inl (cy 1, 3, .inr (.inl (fun _ => 0)))), ((rt 8), .inl (cy 1, 3, .inr (.inl (fun _ => 0))))] sz)) (va_Qi (fun (r : Int32) (_ : Unit) => r = 2) (fun (u : Unit) t => zPost vwCl D (va_A [(h0, .inr (12, [.ref vC, .ref vP, .ref vT, .ref vS, .ref vF, .ref vN, .ref vY, .int 0])), (vC, .inr (3, [.ref sS, .ref sJ, .int 0, .int 0])), (sJ, .inr (5, [.ref j1, .ref j2, .ref j3, .ref jL, .int 0])), (jL, .inl (cy 0, 9, .inl (fun _ => 0))), (vP, .inr (7, [.ref vC, .ref p1, .ref p2, .ref p3, .ref p4, .ref p5, .ref p6, .ref p7, .int 0, .long 0, .ref p8, .int 0, .int 0, .long 1])), (p1, .inl (cy 0, 9, .inl (fun _ => 0))), (p2, .inl (cy 2, 9, .inl (fun _ => 0))), (p8, .inl (cy 2, 24, .inl (fun _ => 0))), (p3, .inl (cy 0, 9, .inl (fun _ => 0))), (p4, .inl (cy 3, 8, .inr (.inr (.inr (.inr (fun k9 => if k9 < 8 then some (rn k9) else none)))))), ((rn 0), .inl (cy 1, 11, .inr (.inl (fun _ => 0)))), ((rn 1), .inl (cy 1, 11, .inr (.inl (fun _ => 0)))), ((rn 2), .inl (cy 1, 11, .inr (.inl (fun _ => 0)))), ((rn 3), .inl (cy 1, 11, .inr (.inl (fun _ => 0)))), ((rn 4), .inl (cy 1, 11, .inr (.inl (fun _ => 0)))), ((rn 5), .inl (cy 1, 11, .inr (.inl (fun _ => 0)))), ((rn 6), .inl (cy 1, 11, .inr (.inl (fun _ => 0)))), ((rn 7), .inl (cy 1, 11, .inr (.inl (fun _ => 0)))), (p5, .inl (cy 3, 9, .inr (.inr (.inr (.inr (fun k9 => if k9 < 9 then some (rt k9) else none)))))), ((rt 0), .inl (cy 1, 3, .inr (.inl (fun _ => 0)))), ((rt 1), .inl (cy 1, 3, .inr (.inl (fun _ => 0)))), ((rt 2), .inl (cy 1, 3, .inr (.inl (fun _ => 0)))), ((rt 3), .inl (cy 1, 3, .inr (.inl (fun _ => 0)))), ((rt 4), .inl (cy 1, 3, .inr (.inl (fun _ => 0)))), ((rt 5), .inl (cy 1, 3, .inr (.inl (fun _ => 0)))), ((rt 6), .inl (cy 1, 3, .inr (.inl (fun _ => 0)))), ((rt 7), .inl (cy 1, 3, .inr (.inl (fun _ => 0)))), ((rt 8), .inl (cy 1, 3, .inr (.inl (fun _ => 0))))] sz) [] t) (va_A [(h0, .inr (12, [.ref vC, .ref vP, .ref vT, .ref vS, .ref vF, .ref vN, .ref vY, .int 0])), (vC, .inr (3, [.ref sS, .ref sJ, .int 0, .int 0])), (sJ, .inr (5, [.ref j1, .ref j2, .ref j3, .ref jL, .int 0])), (jL, .inl (cy 0, 9, .inl (fun _ => 0))), (vP, .inr (7, [.ref vC, .ref p1, .ref p2, .ref p3, .ref p4, .ref p5, .ref p6, .ref p7, .int 0, .long 0, .ref p8, .int 0, .int 0, .long 1])), (p1, .inl (cy 0, 9, .inl (fun _ => 0))), (p2, .inl (cy 2, 9, .inl (fun _ => 0))), (p8, .inl (cy 2, 24, .inl (fun _ => 0))), (p3, .inl (cy 0, 9, .inl (fun _ => 0))), (p4, .inl (cy 3, 8, .inr (.inr (.inr (.inr (fun k9 => if k9 < 8 then some (rn k9) else none)))))), ((rn 0), .inl (cy 1, 11, .inr (.inl (fun _ => 0)))), ((rn 1), .inl (cy 1, 11, .inr (.inl (fun _ => 0)))), ((rn 2), .inl (cy 1, 11, .inr (.inl (fun _ => 0)))), ((rn 3), .inl (cy 1, 11, .inr (.inl (fun _ => 0)))), ((rn 4), .inl (cy 1, 11, .inr (.inl (fun _ => 0)))), ((rn 5), .inl (cy 1, 11, .inr (.inl (fun _ => 0)))), ((rn 6), .inl (cy 1, 11, .inr (.inl (fun _ => 0)))), ((rn 7), .inl (cy 1, 11, .inr (.inl (fun _ => 0)))), (p5, .inl (cy 3, 9, .inr (.inr (.inr (.inr (fun k9 => if k9 < 9 then some (rt k9) else none)))))), ((rt 0), .inl (cy 1, 3, .inr (.inl (fun _ => 0)))), ((rt 1), .inl (cy 1, 3, .inr (.inl (fun _ => 0)))), ((rt 2), .inl (cy 1, 3, .inr (.inl (fun _ => 0)))), ((rt 3), .inl (cy 1, 3, .inr (.inl (fun _ => 0)))), ((rt 4), .inl (cy 1, 3, .inr (.inl (fun _ => 0)))), ((rt 5), .inl (cy 1, 3, .inr (.inl (fun _ => 0)))), ((rt 6), .inl (cy 1, 3, .inr (.inl (fun _ => 0)))), ((rt 7), .inl (cy 1, 3, .inr (.inl (fun _ => 0)))), ((rt 8), .inl (cy 1, 3, .inr (.inl (fun _ => 0))))] sz)) 1 6 (va_A [(h0, .inr (12, [.ref vC, .ref vP, .ref vT, .ref vS, .ref vF, .ref vN, .ref vY, .int 0])), (vC, .inr (3, [.ref sS, .ref sJ, .int 0, .int 0])), (sJ, .inr (5, [.ref j1, .ref j2, .ref j3, .ref jL, .int 0])), (jL, .inl (cy 0, 9, .inl (fun _ => 0))), (vP, .inr (7, [.ref vC, .ref p1, .ref p2, .ref p3, .ref p4, .ref p5, .ref p6, .ref p7, .int 0, .long 0, .ref p8, .int 0, .int 0, .long 1])), (p1, .inl (cy 0, 9, .inl (fun _ => 0))), (p2, .inl (cy 2, 9, .inl (fun _ => 0))), (p8, .inl (cy 2, 24, .inl (fun _ => 0))), (p3, .inl (cy 0, 9, .inl (fun _ => 0))), (p4, .inl (cy 3, 8, .inr (.inr (.inr (.inr (fun k9 => if k9 < 8 then some (rn k9) else none)))))), ((rn 0), .inl (cy 1, 11, .inr (.inl (fun _ => 0)))), ((rn 1), .inl (cy 1, 11, .inr (.inl (fun _ => 0)))), ((rn 2), .inl (cy 1, 11, .inr (.inl (fun _ => 0)))), ((rn 3), .inl (cy 1, 11, .inr (.inl (fun _ => 0)))), ((rn 4), .inl (cy 1, 11, .inr (.inl (fun _ => 0)))), ((rn 5), .inl (cy 1, 11, .inr (.inl (fun _ => 0)))), ((rn 6), .inl (cy 1, 11, .inr (.inl (fun _ => 0)))), ((rn 7), .inl (cy 1, 11, .inr (.inl (fun _ => 0)))), (p5, .inl (cy 3, 9, .inr (.inr (.inr (.inr (fun k9 => if k9 < 9 then some (rt k9) else none)))))), ((rt 0), .inl (cy 1, 3, .inr (.inl (fun _ => 0)))), ((rt 1), .inl (cy 1, 3, .inr (.inl (fun _ => 0)))), ((rt 2), .inl (cy 1, 3, .inr (.inl (fun _ => 0)))), ((rt 3), .inl (cy 1, 3, .inr (.inl (fun _ => 0)))), ((rt 4), .inl (cy 1, 3, .inr (.inl (fun _ => 0)))), ((rt 5), .inl (cy 1, 3, .inr (.inl (fun _ => 0)))), ((rt 6), .inl (cy 1, 3, .inr (.inl (fun _ => 0)))), ((rt 7), .inl (cy 1, 3, .inr (.inl (fun _ => 0)))), ((rt 8), .inl (cy 1, 3, .inr (.inl (fun _ => 0))))] sz) := by
  refine va_MetW (cc := cL_blunder) (maxL := 4) (ret := (some .int)) (hh := [(0, 9, 12, 21), (0, 9, 15, 42)]) (by decide) rfl ?_
  intro p e s m args below meth c s₁ B hml hv
  obtain ⟨rfl, hsz, hP, hK, hD0, hX, hY⟩ := hv
  have hx := B.exec
  have hb := B.bytes
  have hr := B.returns
  have hts0 := atoms_spec (ws := wzW yL_blunder cL_blunder 4 (some .int) [(0, 9, 12, 21), (0, 9, 15, 42)]) B.pre
  have hts : ∀ w ∈ wAll, w.before _ s = true := fun w h => hts0 w (List.mem_cons_of_mem _ h)
  have hown : s.vm.findClass RL = some m.cls := findClass_of_methodNamed B.named
  have hlocks := B.notSynchronized
  have htab := vx_table (x := yL_blunder) B (hts0 _ List.mem_cons_self)
  subst hsz
  have hD := hD0.self (sz := s.heap.size)
  generalize hAe : va_A [(h0, .inr (12, [.ref vC, .ref vP, .ref vT, .ref vS, .ref vF, .ref vN, .ref vY, .int 0])), (vC, .inr (3, [.ref sS, .ref sJ, .int 0, .int 0])), (sJ, .inr (5, [.ref j1, .ref j2, .ref j3, .ref jL, .int 0])), (jL, .inl (cy 0, 9, .inl (fun _ => 0))), (vP, .inr (7, [.ref vC, .ref p1, .ref p2, .ref p3, .ref p4, .ref p5, .ref p6, .ref p7, .int 0, .long 0, .ref p8, .int 0, .int 0, .long 1])), (p1, .inl (cy 0, 9, .inl (fun _ => 0))), (p2, .inl (cy 2, 9, .inl (fun _ => 0))), (p8, .inl (cy 2, 24, .inl (fun _ => 0))), (p3, .inl (cy 0, 9, .inl (fun _ => 0))), (p4, .inl (cy 3, 8, .inr (.inr (.inr (.inr (fun k9 => if k9 < 8 then some (rn k9) else none)))))), ((rn 0), .inl (cy 1, 11, .inr (.inl (fun _ => 0)))), ((rn 1), .inl (cy 1, 11, .inr (.inl (fun _ => 0)))), ((rn 2), .inl (cy 1, 11, .inr (.inl (fun _ => 0)))), ((rn 3), .inl (cy 1, 11, .inr (.inl (fun _ => 0)))), ((rn 4), .inl (cy 1, 11, .inr (.inl (fun _ => 0)))), ((rn 5), .inl (cy 1, 11, .inr (.inl (fun _ => 0)))), ((rn 6), .inl (cy 1, 11, .inr (.inl (fun _ => 0)))), ((rn 7), .inl (cy 1, 11, .inr (.inl (fun _ => 0)))), (p5, .inl (cy 3, 9, .inr (.inr (.inr (.inr (fun k9 => if k9 < 9 then some (rt k9) else none)))))), ((rt 0), .inl (cy 1, 3, .inr (.inl (fun _ => 0)))), ((rt 1), .inl (cy 1, 3, .inr (.inl (fun _ => 0)))), ((rt 2), .inl (cy 1, 3, .inr (.inl (fun _ => 0)))), ((rt 3), .inl (cy 1, 3, .inr (.inl (fun _ => 0)))), ((rt 4), .inl (cy 1, 3, .inr (.inl (fun _ => 0)))), ((rt 5), .inl (cy 1, 3, .inr (.inl (fun _ => 0)))), ((rt 6), .inl (cy 1, 3, .inr (.inl (fun _ => 0)))), ((rt 7), .inl (cy 1, 3, .inr (.inl (fun _ => 0)))), ((rt 8), .inl (cy 1, 3, .inr (.inl (fun _ => 0))))] s.heap.size = A at hD hY ⊢
  have hA : ∀ q : Nat, s.heap.size ≤ q → A q := fun q h => by rw [← hAe]; exact Or.inr h
  have hS : va_S A s.heap s.heap [] := va_S.rf
  have hP : va_P D vwCl [(h0, .inr (12, [.ref vC, .ref vP, .ref vT, .ref vS, .ref vF, .ref vN, .ref vY, .int 0])), (vC, .inr (3, [.ref sS, .ref sJ, .int 0, .int 0])), (sJ, .inr (5, [.ref j1, .ref j2, .ref j3, .ref jL, .int 0])), (jL, .inl (cy 0, 9, .inl (fun _ => 0))), (vP, .inr (7, [.ref vC, .ref p1, .ref p2, .ref p3, .ref p4, .ref p5, .ref p6, .ref p7, .int 0, .long 0, .ref p8, .int 0, .int 0, .long 1])), (p1, .inl (cy 0, 9, .inl (fun _ => 0))), (p2, .inl (cy 2, 9, .inl (fun _ => 0))), (p8, .inl (cy 2, 24, .inl (fun _ => 0))), (p3, .inl (cy 0, 9, .inl (fun _ => 0))), (p4, .inl (cy 3, 8, .inr (.inr (.inr (.inr (fun k9 => if k9 < 8 then some (rn k9) else none)))))), ((rn 0), .inl (cy 1, 11, .inr (.inl (fun _ => 0)))), ((rn 1), .inl (cy 1, 11, .inr (.inl (fun _ => 0)))), ((rn 2), .inl (cy 1, 11, .inr (.inl (fun _ => 0)))), ((rn 3), .inl (cy 1, 11, .inr (.inl (fun _ => 0)))), ((rn 4), .inl (cy 1, 11, .inr (.inl (fun _ => 0)))), ((rn 5), .inl (cy 1, 11, .inr (.inl (fun _ => 0)))), ((rn 6), .inl (cy 1, 11, .inr (.inl (fun _ => 0)))), ((rn 7), .inl (cy 1, 11, .inr (.inl (fun _ => 0)))), (p5, .inl (cy 3, 9, .inr (.inr (.inr (.inr (fun k9 => if k9 < 9 then some (rt k9) else none)))))), ((rt 0), .inl (cy 1, 3, .inr (.inl (fun _ => 0)))), ((rt 1), .inl (cy 1, 3, .inr (.inl (fun _ => 0)))), ((rt 2), .inl (cy 1, 3, .inr (.inl (fun _ => 0)))), ((rt 3), .inl (cy 1, 3, .inr (.inl (fun _ => 0)))), ((rt 4), .inl (cy 1, 3, .inr (.inl (fun _ => 0)))), ((rt 5), .inl (cy 1, 3, .inr (.inl (fun _ => 0)))), ((rt 6), .inl (cy 1, 3, .inr (.inl (fun _ => 0)))), ((rt 7), .inl (cy 1, 3, .inr (.inl (fun _ => 0)))), ((rt 8), .inl (cy 1, 3, .inr (.inl (fun _ => 0))))] s.heap := hP
  have hl := lv_entry ([.ref h0, .int d, .ref o1]) (n := 4) (Nat.le_of_ble_eq_true rfl)
  rw [lg_entry_eq]
  generalize (lg_sl ([.ref h0, .int d, .ref o1]) ++ List.replicate (4 - (lg_sl ([.ref h0, .int d, .ref o1])).length) Slot.unset).toArray = ls at hl ⊢
  have hl : lv_has ls 4 [(0, .ref h0), (1, .int d), (2, .ref o1)] := hl
  refine z_anyQ (fun Q hQe => ?_)
  refine lv_aload_n hx hb dL_blunder_0 rfl (lv_at hl 2 rfl) ?_
  refine lv_iconst (v := 0) hx hb dL_blunder_1 (by decide) ?_
  refine lv_aload_n hx hb dL_blunder_2 rfl (lv_at hl 0 rfl) ?_
  refine lv_iload_n hx hb dL_blunder_3 rfl (lv_at hl 1 rfl) ?_
  refine zx_catch (wc := [(h0, .inr (12, [.ref vC, .ref vP, .ref vT, .ref vS, .ref vF, .ref vN, .ref vY, .int 0])), (vC, .inr (3, [.ref sS, .ref sJ, .int 0, .int 0])), (sJ, .inr (5, [.ref j1, .ref j2, .ref j3, .ref jL, .int 0])), (jL, .inl (cy 0, 9, .inl (fun _ => 0))), (vP, .inr (7, [.ref vC, .ref p1, .ref p2, .ref p3, .ref p4, .ref p5, .ref p6, .ref p7, .int 0, .long 0, .ref p8, .int 0, .int 0, .long 1])), (p1, .inl (cy 0, 9, .inl (fun _ => 0))), (p2, .inl (cy 2, 9, .inl (fun _ => 0))), (p8, .inl (cy 2, 24, .inl (fun _ => 0))), (p3, .inl (cy 0, 9, .inl (fun _ => 0))), (p4, .inl (cy 3, 8, .inr (.inr (.inr (.inr (fun k9 => if k9 < 8 then some (rn k9) else none)))))), ((rn 0), .inl (cy 1, 11, .inr (.inl (fun _ => 0)))), ((rn 1), .inl (cy 1, 11, .inr (.inl (fun _ => 0)))), ((rn 2), .inl (cy 1, 11, .inr (.inl (fun _ => 0)))), ((rn 3), .inl (cy 1, 11, .inr (.inl (fun _ => 0)))), ((rn 4), .inl (cy 1, 11, .inr (.inl (fun _ => 0)))), ((rn 5), .inl (cy 1, 11, .inr (.inl (fun _ => 0)))), ((rn 6), .inl (cy 1, 11, .inr (.inl (fun _ => 0)))), ((rn 7), .inl (cy 1, 11, .inr (.inl (fun _ => 0)))), (p5, .inl (cy 3, 9, .inr (.inr (.inr (.inr (fun k9 => if k9 < 9 then some (rt k9) else none)))))), ((rt 0), .inl (cy 1, 3, .inr (.inl (fun _ => 0)))), ((rt 1), .inl (cy 1, 3, .inr (.inl (fun _ => 0)))), ((rt 2), .inl (cy 1, 3, .inr (.inl (fun _ => 0)))), ((rt 3), .inl (cy 1, 3, .inr (.inl (fun _ => 0)))), ((rt 4), .inl (cy 1, 3, .inr (.inl (fun _ => 0)))), ((rt 5), .inl (cy 1, 3, .inr (.inl (fun _ => 0)))), ((rt 6), .inl (cy 1, 3, .inr (.inl (fun _ => 0)))), ((rt 7), .inl (cy 1, 3, .inr (.inl (fun _ => 0)))), ((rt 8), .inl (cy 1, 3, .inr (.inl (fun _ => 0))))]) (wr := []) (vx_runV (As := [.int d]) (rest := [.int 0, .ref o1]) ⟨hx, hb, hml, hown, hts⟩ (f_blunder_in l hlt D cy h0 vC vP vT vS vF vN vY sS sJ j1 j2 j3 jL p1 p2 p3 p4 p5 p6 p7 p8 rn rt d s.heap.size hd) (cwV 1 hts (gzV (gz q518) q517 q519 q520 q174) rfl rfl rfl vX9_blunder ⟨Nat.le_of_ble_eq_true rfl, Nat.le_of_ble_eq_true rfl⟩) (zpV (ci := 12) (T := TX9) (N := 8) (q0 := 0) hK hX hY hP hD hS hA [0, 1, 2, 3, 4, 5, 6, 7, 8, 9, 10, 11, 12, 13, 14, 15, 16, 17, 18, 19, 20, 21, 22, 23, 24, 25, 26, 27] (by decide) rfl rfl rfl) rfl rfl hl.1 rfl (lv_room (Nat.le_of_ble_eq_true rfl)) dL_blunder_4 ⟨Nat.le_of_ble_eq_true rfl, Nat.le_of_ble_eq_true rfl⟩) hP hD hS hA [0, 1, 2, 3, 4, 5, 6, 7, 8, 9, 10, 11, 12, 13, 14, 15, 16, 17, 18, 19, 20, 21, 22, 23, 24, 25, 26, 27] [] rfl rfl (by decide) (by decide) hown [⟨0, 9, 12, 21⟩] ⟨0, 9, 15, 42⟩ [] htab (fun z hz => by rw [List.mem_singleton.mp hz]; exact Or.inr ⟨by decide, _, hts _ q512, hX.1.2.1⟩) rfl (by decide) (hts _ q537) hX.1.1.2.2.1 (fun q9 H locs hP hD hS => ?_)
  have hP : va_P D vwCl [] H := hP
  have hD : va_D A [] := hD
  refine W.widen (k := 1) (n := 6) (by omega) (by omega) ?_
  refine lv_astore_n (lv' := [(3, .ref q9), (0, .ref h0), (1, .int d), (2, .ref o1)]) hx hb dL_blunder_15 rfl hl (by decide) rfl (fun ls hl => ?_)
  refine lv_iconst (v := 2) hx hb dL_blunder_16 (by decide) ?_
  have hP9 := hP.sub (ws' := []) [] rfl
  have hD9 := hD.sub (ws' := []) [] (by decide) rfl
  refine W.widen (k := 1) (n := 6) (Nat.le_of_ble_eq_true rfl) (Nat.le_of_ble_eq_true rfl) ?_
  rw [hQe]
  exact W.iret (v := 2) hx hb hr (fun t ht hW => ⟨⟨2, (), rfl, rfl, ⟨by rw [ht]; exact hP9, hD9⟩⟩, hS.F ht⟩) hS.2.2 dL_blunder_17
set_option maxHeartbeats 4000000 in
set_option maxRecDepth 100000 in
/-- the law's call of hungShare: it throws -/
theorem w_hungShare_in (l : Launch) (hlt : l.stackTraces = false) (D : va_G) (cy : Nat → ClassId) (h0 : Nat) (vC : Nat) (vP : Nat) (vT : Nat) (vS : Nat) (vF : Nat) (vN : Nat) (vY : Nat) (sS : Nat) (sJ : Nat) (d : Int32) (o2 : Nat) (sz : Nat) (hd : zDay d) : Met l yL_hungShare (wzW yL_hungShare cL_hungShare 4 (some .int) [(0, 9, 12, 21), (0, 9, 15, 132)]) ({ frames := 7, cells := 1, slots := 6, locals := 103 } : Room) (va_Pc [.ref h0, .int d, .ref o2] (zPre vwCl D cy [(h0, .inr (12, [.ref vC, .ref vP, .ref vT, .ref vS, .ref vF, .ref vN, .ref vY, .int 0])), (vC, .inr (3, [.ref sS, .ref sJ, .int 0, .int 0]))] sz)) (va_Qi (fun (r : Int32) (_ : Unit) => r = 2) (fun (u : Unit) t => zPost vwCl D (va_A [(h0, .inr (12, [.ref vC, .ref vP, .ref vT, .ref vS, .ref vF, .ref vN, .ref vY, .int 0])), (vC, .inr (3, [.ref sS, .ref sJ, .int 0, .int 0]))] sz) [] t) (va_A [(h0, .inr (12, [.ref vC, .ref vP, .ref vT, .ref vS, .ref vF, .ref vN, .ref vY, .int 0])), (vC, .inr (3, [.ref sS, .ref sJ, .int 0, .int 0]))] sz)) 1 6 (va_A [(h0, .inr (12, [.ref vC, .ref vP, .ref vT, .ref vS, .ref vF, .ref vN, .ref vY, .int 0])), (vC, .inr (3, [.ref sS, .ref sJ, .int 0, .int 0]))] sz) := by
  refine va_MetW (cc := cL_hungShare) (maxL := 4) (ret := (some .int)) (hh := [(0, 9, 12, 21), (0, 9, 15, 132)]) (by decide) rfl ?_
  intro p e s m args below meth c s₁ B hml hv
  obtain ⟨rfl, hsz, hP, hK, hD0, hX, hY⟩ := hv
  have hx := B.exec
  have hb := B.bytes
  have hr := B.returns
  have hts0 := atoms_spec (ws := wzW yL_hungShare cL_hungShare 4 (some .int) [(0, 9, 12, 21), (0, 9, 15, 132)]) B.pre
  have hts : ∀ w ∈ wAll, w.before _ s = true := fun w h => hts0 w (List.mem_cons_of_mem _ h)
  have hown : s.vm.findClass RL = some m.cls := findClass_of_methodNamed B.named
  have hlocks := B.notSynchronized
  have htab := vx_table (x := yL_hungShare) B (hts0 _ List.mem_cons_self)
  subst hsz
  have hD := hD0.self (sz := s.heap.size)
  generalize hAe : va_A [(h0, .inr (12, [.ref vC, .ref vP, .ref vT, .ref vS, .ref vF, .ref vN, .ref vY, .int 0])), (vC, .inr (3, [.ref sS, .ref sJ, .int 0, .int 0]))] s.heap.size = A at hD hY ⊢
  have hA : ∀ q : Nat, s.heap.size ≤ q → A q := fun q h => by rw [← hAe]; exact Or.inr h
  have hS : va_S A s.heap s.heap [] := va_S.rf
  have hP : va_P D vwCl [(h0, .inr (12, [.ref vC, .ref vP, .ref vT, .ref vS, .ref vF, .ref vN, .ref vY, .int 0])), (vC, .inr (3, [.ref sS, .ref sJ, .int 0, .int 0]))] s.heap := hP
  have hl := lv_entry ([.ref h0, .int d, .ref o2]) (n := 4) (Nat.le_of_ble_eq_true rfl)
  rw [lg_entry_eq]
  generalize (lg_sl ([.ref h0, .int d, .ref o2]) ++ List.replicate (4 - (lg_sl ([.ref h0, .int d, .ref o2])).length) Slot.unset).toArray = ls at hl ⊢
  have hl : lv_has ls 4 [(0, .ref h0), (1, .int d), (2, .ref o2)] := hl
  refine z_anyQ (fun Q hQe => ?_)
  refine lv_aload_n hx hb dL_hungShare_0 rfl (lv_at hl 2 rfl) ?_
  refine lv_iconst (v := 0) hx hb dL_hungShare_1 (by decide) ?_
  refine lv_aload_n hx hb dL_hungShare_2 rfl (lv_at hl 0 rfl) ?_
  refine lv_iload_n hx hb dL_hungShare_3 rfl (lv_at hl 1 rfl) ?_
  refine zx_catch (wc := [(h0, .inr (12, [.ref vC, .ref vP, .ref vT, .ref vS, .ref vF, .ref vN, .ref vY, .int 0])), (vC, .inr (3, [.ref sS, .ref sJ, .int 0, .int 0]))]) (wr := []) (vx_runV (As := [.int d]) (rest := [.int 0, .ref o2]) ⟨hx, hb, hml, hown, hts⟩ (f_hungShare_in l hlt D cy h0 vC vP vT vS vF vN vY sS sJ d s.heap.size hd) (cwV 1 hts (gzV (gz q530) q529 q531 q532 q174) rfl rfl rfl vX9_hungShare ⟨Nat.le_of_ble_eq_true rfl, Nat.le_of_ble_eq_true rfl⟩) (zpV (ci := 12) (T := TX9) (N := 8) (q0 := 0) hK hX hY hP hD hS hA [0, 1] (by decide) rfl rfl rfl) rfl rfl hl.1 rfl (lv_room (Nat.le_of_ble_eq_true rfl)) dL_hungShare_4 ⟨Nat.le_of_ble_eq_true rfl, Nat.le_of_ble_eq_true rfl⟩) hP hD hS hA [0, 1] [] rfl rfl (by decide) (by decide) hown [⟨0, 9, 12, 21⟩] ⟨0, 9, 15, 132⟩ [] htab (fun z hz => by rw [List.mem_singleton.mp hz]; exact Or.inr ⟨by decide, _, hts _ q512, hX.1.2.2⟩) rfl (by decide) (hts _ q538) hX.1.1.2.2.2 (fun q9 H locs hP hD hS => ?_)
  have hP : va_P D vwCl [] H := hP
  have hD : va_D A [] := hD
  refine W.widen (k := 1) (n := 6) (by omega) (by omega) ?_
  refine lv_astore_n (lv' := [(3, .ref q9), (0, .ref h0), (1, .int d), (2, .ref o2)]) hx hb dL_hungShare_15 rfl hl (by decide) rfl (fun ls hl => ?_)
  refine lv_iconst (v := 2) hx hb dL_hungShare_16 (by decide) ?_
  have hP9 := hP.sub (ws' := []) [] rfl
  have hD9 := hD.sub (ws' := []) [] (by decide) rfl
  refine W.widen (k := 1) (n := 6) (Nat.le_of_ble_eq_true rfl) (Nat.le_of_ble_eq_true rfl) ?_
  rw [hQe]
  exact W.iret (v := 2) hx hb hr (fun t ht hW => ⟨⟨2, (), rfl, rfl, ⟨by rw [ht]; exact hP9, hD9⟩⟩, hS.F ht⟩) hS.2.2 dL_hungShare_17
set_option maxHeartbeats 4000000 in
set_option maxRecDepth 100000 in
/-- the law's call of isSound: it answers -/
theorem w_isSound_in (l : Launch) (hlt : l.stackTraces = false) (D : va_G) (cy : Nat → ClassId) (h0 : Nat) (vC : Nat) (vP : Nat) (vT : Nat) (vS : Nat) (vF : Nat) (vN : Nat) (vY : Nat) (sS : Nat) (sJ : Nat) (j1 : Nat) (j2 : Nat) (j3 : Nat) (jL : Nat) (p1 : Nat) (p2 : Nat) (p3 : Nat) (p4 : Nat) (p5 : Nat) (p6 : Nat) (p7 : Nat) (p8 : Nat) (rn : Nat → Nat) (rt : Nat → Nat) (t1 : Nat) (t2 : Nat) (t3 : Nat) (t4 : Nat) (t5 : Nat) (t6 : Nat) (t7 : Nat) (t8 : Nat) (rn2 : Nat → Nat) (rt2 : Nat → Nat) (d : Int32) (o1 : Nat) (sz : Nat) (hd : zDay d) : Met l yL_isSound (wzW yL_isSound cL_isSound 4 (some .int) [(0, 16, 19, 21)]) ({ frames := 5, cells := 0, slots := 0, locals := 107 } : Room) (va_Pc [.ref h0, .int d, .ref o1] (zPre vwCl D cy ((h0, .inr (12, [.ref vC, .ref vP, .ref vT, .ref vS, .ref vF, .ref vN, .ref vY, .int 0])) :: (vC, .inr (3, [.ref sS, .ref sJ, .int 0, .int 0])) :: (sJ, .inr (5, [.ref j1, .ref j2, .ref j3, .ref jL, .int 0])) :: (jL, .inl (cy 0, 9, .inl (fun _ => 0))) :: (vP, .inr (7, [.ref vC, .ref p1, .ref p2, .ref p3, .ref p4, .ref p5, .ref p6, .ref p7, .int 0, .long 0, .ref p8, .int 0, .int 0, .long 1])) :: (p1, .inl (cy 0, 9, .inl (fun _ => 0))) :: (p2, .inl (cy 2, 9, .inl (fun _ => 0))) :: (p8, .inl (cy 2, 24, .inl (fun _ => 0))) :: (p3, .inl (cy 0, 9, .inl (fun _ => 0))) :: (p4, .inl (cy 3, 8, .inr (.inr (.inr (.inr (fun k9 => if k9 < 8 then some (rn k9) else none)))))) :: ((rn 0), .inl (cy 1, 11, .inr (.inl (fun _ => 0)))) :: ((rn 1), .inl (cy 1, 11, .inr (.inl (fun _ => 0)))) :: ((rn 2), .inl (cy 1, 11, .inr (.inl (fun _ => 0)))) :: ((rn 3), .inl (cy 1, 11, .inr (.inl (fun _ => 0)))) :: ((rn 4), .inl (cy 1, 11, .inr (.inl (fun _ => 0)))) :: ((rn 5), .inl (cy 1, 11, .inr (.inl (fun _ => 0)))) :: ((rn 6), .inl (cy 1, 11, .inr (.inl (fun _ => 0)))) :: ((rn 7), .inl (cy 1, 11, .inr (.inl (fun _ => 0)))) :: (p5, .inl (cy 3, 9, .inr (.inr (.inr (.inr (fun k9 => if k9 < 9 then some (rt k9) else none)))))) :: ((rt 0), .inl (cy 1, 3, .inr (.inl (fun _ => 0)))) :: ((rt 1), .inl (cy 1, 3, .inr (.inl (fun _ => 0)))) :: ((rt 2), .inl (cy 1, 3, .inr (.inl (fun _ => 0)))) :: ((rt 3), .inl (cy 1, 3, .inr (.inl (fun _ => 0)))) :: ((rt 4), .inl (cy 1, 3, .inr (.inl (fun _ => 0)))) :: ((rt 5), .inl (cy 1, 3, .inr (.inl (fun _ => 0)))) :: ((rt 6), .inl (cy 1, 3, .inr (.inl (fun _ => 0)))) :: ((rt 7), .inl (cy 1, 3, .inr (.inl (fun _ => 0)))) :: ((rt 8), .inl (cy 1, 3, .inr (.inl (fun _ => 0)))) :: (vT, .inr (7, [.ref vC, .ref t1, .ref t2, .ref t3, .ref t4, .ref t5, .ref t6, .ref t7, .int 0, .long 0, .ref t8, .int 0, .int 0, .long 1])) :: (t1, .inl (cy 0, 9, .inl (fun _ => 0))) :: (t2, .inl (cy 2, 9, .inl (fun _ => 0))) :: (t8, .inl (cy 2, 24, .inl (fun _ => 0))) :: (t3, .inl (cy 0, 9, .inl (fun _ => 0))) :: (t4, .inl (cy 3, 8, .inr (.inr (.inr (.inr (fun k9 => if k9 < 8 then some (rn2 k9) else none)))))) :: ((rn2 0), .inl (cy 1, 11, .inr (.inl (fun _ => 0)))) :: ((rn2 1), .inl (cy 1, 11, .inr (.inl (fun _ => 0)))) :: ((rn2 2), .inl (cy 1, 11, .inr (.inl (fun _ => 0)))) :: ((rn2 3), .inl (cy 1, 11, .inr (.inl (fun _ => 0)))) :: ((rn2 4), .inl (cy 1, 11, .inr (.inl (fun _ => 0)))) :: ((rn2 5), .inl (cy 1, 11, .inr (.inl (fun _ => 0)))) :: ((rn2 6), .inl (cy 1, 11, .inr (.inl (fun _ => 0)))) :: ((rn2 7), .inl (cy 1, 11, .inr (.inl (fun _ => 0)))) :: (t5, .inl (cy 3, 9, .inr (.inr (.inr (.inr (fun k9 => if k9 < 9 then some (rt2 k9) else none)))))) :: ((rt2 0), .inl (cy 1, 3, .inr (.inl (fun _ => 0)))) :: ((rt2 1), .inl (cy 1, 3, .inr (.inl (fun _ => 0)))) :: ((rt2 2), .inl (cy 1, 3, .inr (.inl (fun _ => 0)))) :: ((rt2 3), .inl (cy 1, 3, .inr (.inl (fun _ => 0)))) :: ((rt2 4), .inl (cy 1, 3, .inr (.inl (fun _ => 0)))) :: ((rt2 5), .inl (cy 1, 3, .inr (.inl (fun _ => 0)))) :: ((rt2 6), .inl (cy 1, 3, .inr (.inl (fun _ => 0)))) :: ((rt2 7), .inl (cy 1, 3, .inr (.inl (fun _ => 0)))) :: ((rt2 8), .inl (cy 1, 3, .inr (.inl (fun _ => 0)))) :: (o1, .inl (cy 1, 1, .inr (.inl (fun _ => 0)))) :: []) sz)) (va_Qi (fun (r : Int32) (_ : Unit) => r = 0) (fun (u : Unit) t => zPost vwCl D (va_A ((h0, .inr (12, [.ref vC, .ref vP, .ref vT, .ref vS, .ref vF, .ref vN, .ref vY, .int 0])) :: (vC, .inr (3, [.ref sS, .ref sJ, .int 0, .int 0])) :: (sJ, .inr (5, [.ref j1, .ref j2, .ref j3, .ref jL, .int 0])) :: (jL, .inl (cy 0, 9, .inl (fun _ => 0))) :: (vP, .inr (7, [.ref vC, .ref p1, .ref p2, .ref p3, .ref p4, .ref p5, .ref p6, .ref p7, .int 0, .long 0, .ref p8, .int 0, .int 0, .long 1])) :: (p1, .inl (cy 0, 9, .inl (fun _ => 0))) :: (p2, .inl (cy 2, 9, .inl (fun _ => 0))) :: (p8, .inl (cy 2, 24, .inl (fun _ => 0))) :: (p3, .inl (cy 0, 9, .inl (fun _ => 0))) :: (p4, .inl (cy 3, 8, .inr (.inr (.inr (.inr (fun k9 => if k9 < 8 then some (rn k9) else none)))))) :: ((rn 0), .inl (cy 1, 11, .inr (.inl (fun _ => 0)))) :: ((rn 1), .inl (cy 1, 11, .inr (.inl (fun _ => 0)))) :: ((rn 2), .inl (cy 1, 11, .inr (.inl (fun _ => 0)))) :: ((rn 3), .inl (cy 1, 11, .inr (.inl (fun _ => 0)))) :: ((rn 4), .inl (cy 1, 11, .inr (.inl (fun _ => 0)))) :: ((rn 5), .inl (cy 1, 11, .inr (.inl (fun _ => 0)))) :: ((rn 6), .inl (cy 1, 11, .inr (.inl (fun _ => 0)))) :: ((rn 7), .inl (cy 1, 11, .inr (.inl (fun _ => 0)))) :: (p5, .inl (cy 3, 9, .inr (.inr (.inr (.inr (fun k9 => if k9 < 9 then some (rt k9) else none)))))) :: ((rt 0), .inl (cy 1, 3, .inr (.inl (fun _ => 0)))) :: ((rt 1), .inl (cy 1, 3, .inr (.inl (fun _ => 0)))) :: ((rt 2), .inl (cy 1, 3, .inr (.inl (fun _ => 0)))) :: ((rt 3), .inl (cy 1, 3, .inr (.inl (fun _ => 0)))) :: ((rt 4), .inl (cy 1, 3, .inr (.inl (fun _ => 0)))) :: ((rt 5), .inl (cy 1, 3, .inr (.inl (fun _ => 0)))) :: ((rt 6), .inl (cy 1, 3, .inr (.inl (fun _ => 0)))) :: ((rt 7), .inl (cy 1, 3, .inr (.inl (fun _ => 0)))) :: ((rt 8), .inl (cy 1, 3, .inr (.inl (fun _ => 0)))) :: (vT, .inr (7, [.ref vC, .ref t1, .ref t2, .ref t3, .ref t4, .ref t5, .ref t6, .ref t7, .int 0, .long 0, .ref t8, .int 0, .int 0, .long 1])) :: (t1, .inl (cy 0, 9, .inl (fun _ => 0))) :: (t2, .inl (cy 2, 9, .inl (fun _ => 0))) :: (t8, .inl (cy 2, 24, .inl (fun _ => 0))) :: (t3, .inl (cy 0, 9, .inl (fun _ => 0))) :: (t4, .inl (cy 3, 8, .inr (.inr (.inr (.inr (fun k9 => if k9 < 8 then some (rn2 k9) else none)))))) :: ((rn2 0), .inl (cy 1, 11, .inr (.inl (fun _ => 0)))) :: ((rn2 1), .inl (cy 1, 11, .inr (.inl (fun _ => 0)))) :: ((rn2 2), .inl (cy 1, 11, .inr (.inl (fun _ => 0)))) :: ((rn2 3), .inl (cy 1, 11, .inr (.inl (fun _ => 0)))) :: ((rn2 4), .inl (cy 1, 11, .inr (.inl (fun _ => 0)))) :: ((rn2 5), .inl (cy 1, 11, .inr (.inl (fun _ => 0)))) :: ((rn2 6), .inl (cy 1, 11, .inr (.inl (fun _ => 0)))) :: ((rn2 7), .inl (cy 1, 11, .inr (.inl (fun _ => 0)))) :: (t5, .inl (cy 3, 9, .inr (.inr (.inr (.inr (fun k9 => if k9 < 9 then some (rt2 k9) else none)))))) :: ((rt2 0), .inl (cy 1, 3, .inr (.inl (fun _ => 0)))) :: ((rt2 1), .inl (cy 1, 3, .inr (.inl (fun _ => 0)))) :: ((rt2 2), .inl (cy 1, 3, .inr (.inl (fun _ => 0)))) :: ((rt2 3), .inl (cy 1, 3, .inr (.inl (fun _ => 0)))) :: ((rt2 4), .inl (cy 1, 3, .inr (.inl (fun _ => 0)))) :: ((rt2 5), .inl (cy 1, 3, .inr (.inl (fun _ => 0)))) :: ((rt2 6), .inl (cy 1, 3, .inr (.inl (fun _ => 0)))) :: ((rt2 7), .inl (cy 1, 3, .inr (.inl (fun _ => 0)))) :: ((rt2 8), .inl (cy 1, 3, .inr (.inl (fun _ => 0)))) :: (o1, .inl (cy 1, 1, .inr (.inl (fun _ => 0)))) :: []) sz) [(o1, .inl (cy 1, 1, .inr (.inl (fun _ => 1))))] t) (va_A ((h0, .inr (12, [.ref vC, .ref vP, .ref vT, .ref vS, .ref vF, .ref vN, .ref vY, .int 0])) :: (vC, .inr (3, [.ref sS, .ref sJ, .int 0, .int 0])) :: (sJ, .inr (5, [.ref j1, .ref j2, .ref j3, .ref jL, .int 0])) :: (jL, .inl (cy 0, 9, .inl (fun _ => 0))) :: (vP, .inr (7, [.ref vC, .ref p1, .ref p2, .ref p3, .ref p4, .ref p5, .ref p6, .ref p7, .int 0, .long 0, .ref p8, .int 0, .int 0, .long 1])) :: (p1, .inl (cy 0, 9, .inl (fun _ => 0))) :: (p2, .inl (cy 2, 9, .inl (fun _ => 0))) :: (p8, .inl (cy 2, 24, .inl (fun _ => 0))) :: (p3, .inl (cy 0, 9, .inl (fun _ => 0))) :: (p4, .inl (cy 3, 8, .inr (.inr (.inr (.inr (fun k9 => if k9 < 8 then some (rn k9) else none)))))) :: ((rn 0), .inl (cy 1, 11, .inr (.inl (fun _ => 0)))) :: ((rn 1), .inl (cy 1, 11, .inr (.inl (fun _ => 0)))) :: ((rn 2), .inl (cy 1, 11, .inr (.inl (fun _ => 0)))) :: ((rn 3), .inl (cy 1, 11, .inr (.inl (fun _ => 0)))) :: ((rn 4), .inl (cy 1, 11, .inr (.inl (fun _ => 0)))) :: ((rn 5), .inl (cy 1, 11, .inr (.inl (fun _ => 0)))) :: ((rn 6), .inl (cy 1, 11, .inr (.inl (fun _ => 0)))) :: ((rn 7), .inl (cy 1, 11, .inr (.inl (fun _ => 0)))) :: (p5, .inl (cy 3, 9, .inr (.inr (.inr (.inr (fun k9 => if k9 < 9 then some (rt k9) else none)))))) :: ((rt 0), .inl (cy 1, 3, .inr (.inl (fun _ => 0)))) :: ((rt 1), .inl (cy 1, 3, .inr (.inl (fun _ => 0)))) :: ((rt 2), .inl (cy 1, 3, .inr (.inl (fun _ => 0)))) :: ((rt 3), .inl (cy 1, 3, .inr (.inl (fun _ => 0)))) :: ((rt 4), .inl (cy 1, 3, .inr (.inl (fun _ => 0)))) :: ((rt 5), .inl (cy 1, 3, .inr (.inl (fun _ => 0)))) :: ((rt 6), .inl (cy 1, 3, .inr (.inl (fun _ => 0)))) :: ((rt 7), .inl (cy 1, 3, .inr (.inl (fun _ => 0)))) :: ((rt 8), .inl (cy 1, 3, .inr (.inl (fun _ => 0)))) :: (vT, .inr (7, [.ref vC, .ref t1, .ref t2, .ref t3, .ref t4, .ref t5, .ref t6, .ref t7, .int 0, .long 0, .ref t8, .int 0, .int 0, .long 1])) :: (t1, .inl (cy 0, 9, .inl (fun _ => 0))) :: (t2, .inl (cy 2, 9, .inl (fun _ => 0))) :: (t8, .inl (cy 2, 24, .inl (fun _ => 0))) :: (t3, .inl (cy 0, 9, .inl (fun _ => 0))) :: (t4, .inl (cy 3, 8, .inr (.inr (.inr (.inr (fun k9 => if k9 < 8 then some (rn2 k9) else none)))))) :: ((rn2 0), .inl (cy 1, 11, .inr (.inl (fun _ => 0)))) :: ((rn2 1), .inl (cy 1, 11, .inr (.inl (fun _ => 0)))) :: ((rn2 2), .inl (cy 1, 11, .inr (.inl (fun _ => 0)))) :: ((rn2 3), .inl (cy 1, 11, .inr (.inl (fun _ => 0)))) :: ((rn2 4), .inl (cy 1, 11, .inr (.inl (fun _ => 0)))) :: ((rn2 5), .inl (cy 1, 11, .inr (.inl (fun _ => 0)))) :: ((rn2 6), .inl (cy 1, 11, .inr (.inl (fun _ => 0)))) :: ((rn2 7), .inl (cy 1, 11, .inr (.inl (fun _ => 0)))) :: (t5, .inl (cy 3, 9, .inr (.inr (.inr (.inr (fun k9 => if k9 < 9 then some (rt2 k9) else none)))))) :: ((rt2 0), .inl (cy 1, 3, .inr (.inl (fun _ => 0)))) :: ((rt2 1), .inl (cy 1, 3, .inr (.inl (fun _ => 0)))) :: ((rt2 2), .inl (cy 1, 3, .inr (.inl (fun _ => 0)))) :: ((rt2 3), .inl (cy 1, 3, .inr (.inl (fun _ => 0)))) :: ((rt2 4), .inl (cy 1, 3, .inr (.inl (fun _ => 0)))) :: ((rt2 5), .inl (cy 1, 3, .inr (.inl (fun _ => 0)))) :: ((rt2 6), .inl (cy 1, 3, .inr (.inl (fun _ => 0)))) :: ((rt2 7), .inl (cy 1, 3, .inr (.inl (fun _ => 0)))) :: ((rt2 8), .inl (cy 1, 3, .inr (.inl (fun _ => 0)))) :: (o1, .inl (cy 1, 1, .inr (.inl (fun _ => 0)))) :: []) sz)) 0 0 (va_A ((h0, .inr (12, [.ref vC, .ref vP, .ref vT, .ref vS, .ref vF, .ref vN, .ref vY, .int 0])) :: (vC, .inr (3, [.ref sS, .ref sJ, .int 0, .int 0])) :: (sJ, .inr (5, [.ref j1, .ref j2, .ref j3, .ref jL, .int 0])) :: (jL, .inl (cy 0, 9, .inl (fun _ => 0))) :: (vP, .inr (7, [.ref vC, .ref p1, .ref p2, .ref p3, .ref p4, .ref p5, .ref p6, .ref p7, .int 0, .long 0, .ref p8, .int 0, .int 0, .long 1])) :: (p1, .inl (cy 0, 9, .inl (fun _ => 0))) :: (p2, .inl (cy 2, 9, .inl (fun _ => 0))) :: (p8, .inl (cy 2, 24, .inl (fun _ => 0))) :: (p3, .inl (cy 0, 9, .inl (fun _ => 0))) :: (p4, .inl (cy 3, 8, .inr (.inr (.inr (.inr (fun k9 => if k9 < 8 then some (rn k9) else none)))))) :: ((rn 0), .inl (cy 1, 11, .inr (.inl (fun _ => 0)))) :: ((rn 1), .inl (cy 1, 11, .inr (.inl (fun _ => 0)))) :: ((rn 2), .inl (cy 1, 11, .inr (.inl (fun _ => 0)))) :: ((rn 3), .inl (cy 1, 11, .inr (.inl (fun _ => 0)))) :: ((rn 4), .inl (cy 1, 11, .inr (.inl (fun _ => 0)))) :: ((rn 5), .inl (cy 1, 11, .inr (.inl (fun _ => 0)))) :: ((rn 6), .inl (cy 1, 11, .inr (.inl (fun _ => 0)))) :: ((rn 7), .inl (cy 1, 11, .inr (.inl (fun _ => 0)))) :: (p5, .inl (cy 3, 9, .inr (.inr (.inr (.inr (fun k9 => if k9 < 9 then some (rt k9) else none)))))) :: ((rt 0), .inl (cy 1, 3, .inr (.inl (fun _ => 0)))) :: ((rt 1), .inl (cy 1, 3, .inr (.inl (fun _ => 0)))) :: ((rt 2), .inl (cy 1, 3, .inr (.inl (fun _ => 0)))) :: ((rt 3), .inl (cy 1, 3, .inr (.inl (fun _ => 0)))) :: ((rt 4), .inl (cy 1, 3, .inr (.inl (fun _ => 0)))) :: ((rt 5), .inl (cy 1, 3, .inr (.inl (fun _ => 0)))) :: ((rt 6), .inl (cy 1, 3, .inr (.inl (fun _ => 0)))) :: ((rt 7), .inl (cy 1, 3, .inr (.inl (fun _ => 0)))) :: ((rt 8), .inl (cy 1, 3, .inr (.inl (fun _ => 0)))) :: (vT, .inr (7, [.ref vC, .ref t1, .ref t2, .ref t3, .ref t4, .ref t5, .ref t6, .ref t7, .int 0, .long 0, .ref t8, .int 0, .int 0, .long 1])) :: (t1, .inl (cy 0, 9, .inl (fun _ => 0))) :: (t2, .inl (cy 2, 9, .inl (fun _ => 0))) :: (t8, .inl (cy 2, 24, .inl (fun _ => 0))) :: (t3, .inl (cy 0, 9, .inl (fun _ => 0))) :: (t4, .inl (cy 3, 8, .inr (.inr (.inr (.inr (fun k9 => if k9 < 8 then some (rn2 k9) else none)))))) :: ((rn2 0), .inl (cy 1, 11, .inr (.inl (fun _ => 0)))) :: ((rn2 1), .inl (cy 1, 11, .inr (.inl (fun _ => 0)))) :: ((rn2 2), .inl (cy 1, 11, .inr (.inl (fun _ => 0)))) :: ((rn2 3), .inl (cy 1, 11, .inr (.inl (fun _ => 0)))) :: ((rn2 4), .inl (cy 1, 11, .inr (.inl (fun _ => 0)))) :: ((rn2 5), .inl (cy 1, 11, .inr (.inl (fun _ => 0)))) :: ((rn2 6), .inl (cy 1, 11, .inr (.inl (fun _ => 0)))) :: ((rn2 7), .inl (cy 1, 11, .inr (.inl (fun _ => 0)))) :: (t5, .inl (cy 3, 9, .inr (.inr (.inr (.inr (fun k9 => if k9 < 9 then some (rt2 k9) else none)))))) :: ((rt2 0), .inl (cy 1, 3, .inr (.inl (fun _ => 0)))) :: ((rt2 1), .inl (cy 1, 3, .inr (.inl (fun _ => 0)))) :: ((rt2 2), .inl (cy 1, 3, .inr (.inl (fun _ => 0)))) :: ((rt2 3), .inl (cy 1, 3, .inr (.inl (fun _ => 0)))) :: ((rt2 4), .inl (cy 1, 3, .inr (.inl (fun _ => 0)))) :: ((rt2 5), .inl (cy 1, 3, .inr (.inl (fun _ => 0)))) :: ((rt2 6), .inl (cy 1, 3, .inr (.inl (fun _ => 0)))) :: ((rt2 7), .inl (cy 1, 3, .inr (.inl (fun _ => 0)))) :: ((rt2 8), .inl (cy 1, 3, .inr (.inl (fun _ => 0)))) :: (o1, .inl (cy 1, 1, .inr (.inl (fun _ => 0)))) :: []) sz) := by
  refine va_MetW (cc := cL_isSound) (maxL := 4) (ret := (some .int)) (hh := [(0, 16, 19, 21)]) (by decide) rfl ?_
  intro p e s m args below meth c s₁ B hml hv
  obtain ⟨rfl, hsz, hP, hK, hD0, hX, hY⟩ := hv
  have hx := B.exec
  have hb := B.bytes
  have hr := B.returns
  have hts0 := atoms_spec (ws := wzW yL_isSound cL_isSound 4 (some .int) [(0, 16, 19, 21)]) B.pre
  have hts : ∀ w ∈ wAll, w.before _ s = true := fun w h => hts0 w (List.mem_cons_of_mem _ h)
  have hown : s.vm.findClass RL = some m.cls := findClass_of_methodNamed B.named
  have hlocks := B.notSynchronized
  have htab := vx_table (x := yL_isSound) B (hts0 _ List.mem_cons_self)
  subst hsz
  have hD := hD0.self (sz := s.heap.size)
  generalize hAe : va_A ((h0, .inr (12, [.ref vC, .ref vP, .ref vT, .ref vS, .ref vF, .ref vN, .ref vY, .int 0])) :: (vC, .inr (3, [.ref sS, .ref sJ, .int 0, .int 0])) :: (sJ, .inr (5, [.ref j1, .ref j2, .ref j3, .ref jL, .int 0])) :: (jL, .inl (cy 0, 9, .inl (fun _ => 0))) :: (vP, .inr (7, [.ref vC, .ref p1, .ref p2, .ref p3, .ref p4, .ref p5, .ref p6, .ref p7, .int 0, .long 0, .ref p8, .int 0, .int 0, .long 1])) :: (p1, .inl (cy 0, 9, .inl (fun _ => 0))) :: (p2, .inl (cy 2, 9, .inl (fun _ => 0))) :: (p8, .inl (cy 2, 24, .inl (fun _ => 0))) :: (p3, .inl (cy 0, 9, .inl (fun _ => 0))) :: (p4, .inl (cy 3, 8, .inr (.inr (.inr (.inr (fun k9 => if k9 < 8 then some (rn k9) else none)))))) :: ((rn 0), .inl (cy 1, 11, .inr (.inl (fun _ => 0)))) :: ((rn 1), .inl (cy 1, 11, .inr (.inl (fun _ => 0)))) :: ((rn 2), .inl (cy 1, 11, .inr (.inl (fun _ => 0)))) :: ((rn 3), .inl (cy 1, 11, .inr (.inl (fun _ => 0)))) :: ((rn 4), .inl (cy 1, 11, .inr (.inl (fun _ => 0)))) :: ((rn 5), .inl (cy 1, 11, .inr (.inl (fun _ => 0)))) :: ((rn 6), .inl (cy 1, 11, .inr (.inl (fun _ => 0)))) :: ((rn 7), .inl (cy 1, 11, .inr (.inl (fun _ => 0)))) :: (p5, .inl (cy 3, 9, .inr (.inr (.inr (.inr (fun k9 => if k9 < 9 then some (rt k9) else none)))))) :: ((rt 0), .inl (cy 1, 3, .inr (.inl (fun _ => 0)))) :: ((rt 1), .inl (cy 1, 3, .inr (.inl (fun _ => 0)))) :: ((rt 2), .inl (cy 1, 3, .inr (.inl (fun _ => 0)))) :: ((rt 3), .inl (cy 1, 3, .inr (.inl (fun _ => 0)))) :: ((rt 4), .inl (cy 1, 3, .inr (.inl (fun _ => 0)))) :: ((rt 5), .inl (cy 1, 3, .inr (.inl (fun _ => 0)))) :: ((rt 6), .inl (cy 1, 3, .inr (.inl (fun _ => 0)))) :: ((rt 7), .inl (cy 1, 3, .inr (.inl (fun _ => 0)))) :: ((rt 8), .inl (cy 1, 3, .inr (.inl (fun _ => 0)))) :: (vT, .inr (7, [.ref vC, .ref t1, .ref t2, .ref t3, .ref t4, .ref t5, .ref t6, .ref t7, .int 0, .long 0, .ref t8, .int 0, .int 0, .long 1])) :: (t1, .inl (cy 0, 9, .inl (fun _ => 0))) :: (t2, .inl (cy 2, 9, .inl (fun _ => 0))) :: (t8, .inl (cy 2, 24, .inl (fun _ => 0))) :: (t3, .inl (cy 0, 9, .inl (fun _ => 0))) :: (t4, .inl (cy 3, 8, .inr (.inr (.inr (.inr (fun k9 => if k9 < 8 then some (rn2 k9) else none)))))) :: ((rn2 0), .inl (cy 1, 11, .inr (.inl (fun _ => 0)))) :: ((rn2 1), .inl (cy 1, 11, .inr (.inl (fun _ => 0)))) :: ((rn2 2), .inl (cy 1, 11, .inr (.inl (fun _ => 0)))) :: ((rn2 3), .inl (cy 1, 11, .inr (.inl (fun _ => 0)))) :: ((rn2 4), .inl (cy 1, 11, .inr (.inl (fun _ => 0)))) :: ((rn2 5), .inl (cy 1, 11, .inr (.inl (fun _ => 0)))) :: ((rn2 6), .inl (cy 1, 11, .inr (.inl (fun _ => 0)))) :: ((rn2 7), .inl (cy 1, 11, .inr (.inl (fun _ => 0)))) :: (t5, .inl (cy 3, 9, .inr (.inr (.inr (.inr (fun k9 => if k9 < 9 then some (rt2 k9) else none)))))) :: ((rt2 0), .inl (cy 1, 3, .inr (.inl (fun _ => 0)))) :: ((rt2 1), .inl (cy 1, 3, .inr (.inl (fun _ => 0)))) :: ((rt2 2), .inl (cy 1, 3, .inr (.inl (fun _ => 0)))) :: ((rt2 3), .inl (cy 1, 3, .inr (.inl (fun _ => 0)))) :: ((rt2 4), .inl (cy 1, 3, .inr (.inl (fun _ => 0)))) :: ((rt2 5), .inl (cy 1, 3, .inr (.inl (fun _ => 0)))) :: ((rt2 6), .inl (cy 1, 3, .inr (.inl (fun _ => 0)))) :: ((rt2 7), .inl (cy 1, 3, .inr (.inl (fun _ => 0)))) :: ((rt2 8), .inl (cy 1, 3, .inr (.inl (fun _ => 0)))) :: (o1, .inl (cy 1, 1, .inr (.inl (fun _ => 0)))) :: []) s.heap.size = A at hD hY ⊢
  have hA : ∀ q : Nat, s.heap.size ≤ q → A q := fun q h => by rw [← hAe]; exact Or.inr h
  have hS : va_S A s.heap s.heap [] := va_S.rf
  have hP : va_P D vwCl ((h0, .inr (12, [.ref vC, .ref vP, .ref vT, .ref vS, .ref vF, .ref vN, .ref vY, .int 0])) :: (vC, .inr (3, [.ref sS, .ref sJ, .int 0, .int 0])) :: (sJ, .inr (5, [.ref j1, .ref j2, .ref j3, .ref jL, .int 0])) :: (jL, .inl (cy 0, 9, .inl (fun _ => 0))) :: (vP, .inr (7, [.ref vC, .ref p1, .ref p2, .ref p3, .ref p4, .ref p5, .ref p6, .ref p7, .int 0, .long 0, .ref p8, .int 0, .int 0, .long 1])) :: (p1, .inl (cy 0, 9, .inl (fun _ => 0))) :: (p2, .inl (cy 2, 9, .inl (fun _ => 0))) :: (p8, .inl (cy 2, 24, .inl (fun _ => 0))) :: (p3, .inl (cy 0, 9, .inl (fun _ => 0))) :: (p4, .inl (cy 3, 8, .inr (.inr (.inr (.inr (fun k9 => if k9 < 8 then some (rn k9) else none)))))) :: ((rn 0), .inl (cy 1, 11, .inr (.inl (fun _ => 0)))) :: ((rn 1), .inl (cy 1, 11, .inr (.inl (fun _ => 0)))) :: ((rn 2), .inl (cy 1, 11, .inr (.inl (fun _ => 0)))) :: ((rn 3), .inl (cy 1, 11, .inr (.inl (fun _ => 0)))) :: ((rn 4), .inl (cy 1, 11, .inr (.inl (fun _ => 0)))) :: ((rn 5), .inl (cy 1, 11, .inr (.inl (fun _ => 0)))) :: ((rn 6), .inl (cy 1, 11, .inr (.inl (fun _ => 0)))) :: ((rn 7), .inl (cy 1, 11, .inr (.inl (fun _ => 0)))) :: (p5, .inl (cy 3, 9, .inr (.inr (.inr (.inr (fun k9 => if k9 < 9 then some (rt k9) else none)))))) :: ((rt 0), .inl (cy 1, 3, .inr (.inl (fun _ => 0)))) :: ((rt 1), .inl (cy 1, 3, .inr (.inl (fun _ => 0)))) :: ((rt 2), .inl (cy 1, 3, .inr (.inl (fun _ => 0)))) :: ((rt 3), .inl (cy 1, 3, .inr (.inl (fun _ => 0)))) :: ((rt 4), .inl (cy 1, 3, .inr (.inl (fun _ => 0)))) :: ((rt 5), .inl (cy 1, 3, .inr (.inl (fun _ => 0)))) :: ((rt 6), .inl (cy 1, 3, .inr (.inl (fun _ => 0)))) :: ((rt 7), .inl (cy 1, 3, .inr (.inl (fun _ => 0)))) :: ((rt 8), .inl (cy 1, 3, .inr (.inl (fun _ => 0)))) :: (vT, .inr (7, [.ref vC, .ref t1, .ref t2, .ref t3, .ref t4, .ref t5, .ref t6, .ref t7, .int 0, .long 0, .ref t8, .int 0, .int 0, .long 1])) :: (t1, .inl (cy 0, 9, .inl (fun _ => 0))) :: (t2, .inl (cy 2, 9, .inl (fun _ => 0))) :: (t8, .inl (cy 2, 24, .inl (fun _ => 0))) :: (t3, .inl (cy 0, 9, .inl (fun _ => 0))) :: (t4, .inl (cy 3, 8, .inr (.inr (.inr (.inr (fun k9 => if k9 < 8 then some (rn2 k9) else none)))))) :: ((rn2 0), .inl (cy 1, 11, .inr (.inl (fun _ => 0)))) :: ((rn2 1), .inl (cy 1, 11, .inr (.inl (fun _ => 0)))) :: ((rn2 2), .inl (cy 1, 11, .inr (.inl (fun _ => 0)))) :: ((rn2 3), .inl (cy 1, 11, .inr (.inl (fun _ => 0)))) :: ((rn2 4), .inl (cy 1, 11, .inr (.inl (fun _ => 0)))) :: ((rn2 5), .inl (cy 1, 11, .inr (.inl (fun _ => 0)))) :: ((rn2 6), .inl (cy 1, 11, .inr (.inl (fun _ => 0)))) :: ((rn2 7), .inl (cy 1, 11, .inr (.inl (fun _ => 0)))) :: (t5, .inl (cy 3, 9, .inr (.inr (.inr (.inr (fun k9 => if k9 < 9 then some (rt2 k9) else none)))))) :: ((rt2 0), .inl (cy 1, 3, .inr (.inl (fun _ => 0)))) :: ((rt2 1), .inl (cy 1, 3, .inr (.inl (fun _ => 0)))) :: ((rt2 2), .inl (cy 1, 3, .inr (.inl (fun _ => 0)))) :: ((rt2 3), .inl (cy 1, 3, .inr (.inl (fun _ => 0)))) :: ((rt2 4), .inl (cy 1, 3, .inr (.inl (fun _ => 0)))) :: ((rt2 5), .inl (cy 1, 3, .inr (.inl (fun _ => 0)))) :: ((rt2 6), .inl (cy 1, 3, .inr (.inl (fun _ => 0)))) :: ((rt2 7), .inl (cy 1, 3, .inr (.inl (fun _ => 0)))) :: ((rt2 8), .inl (cy 1, 3, .inr (.inl (fun _ => 0)))) :: (o1, .inl (cy 1, 1, .inr (.inl (fun _ => 0)))) :: []) s.heap := hP
  have hl := lv_entry ([.ref h0, .int d, .ref o1]) (n := 4) (Nat.le_of_ble_eq_true rfl)
  rw [lg_entry_eq]
  generalize (lg_sl ([.ref h0, .int d, .ref o1]) ++ List.replicate (4 - (lg_sl ([.ref h0, .int d, .ref o1])).length) Slot.unset).toArray = ls at hl ⊢
  have hl : lv_has ls 4 [(0, .ref h0), (1, .int d), (2, .ref o1)] := hl
  refine z_anyQ (fun Q hQe => ?_)
  refine lv_aload_n hx hb dL_isSound_0 rfl (lv_at hl 2 rfl) ?_
  refine lv_iconst (v := 0) hx hb dL_isSound_1 (by decide) ?_
  refine lv_aload_n hx hb dL_isSound_2 rfl (lv_at hl 0 rfl) ?_
  refine lv_iload_n hx hb dL_isSound_3 rfl (lv_at hl 1 rfl) ?_
  refine zq_i (wc := ((h0, .inr (12, [.ref vC, .ref vP, .ref vT, .ref vS, .ref vF, .ref vN, .ref vY, .int 0])) :: (vC, .inr (3, [.ref sS, .ref sJ, .int 0, .int 0])) :: (sJ, .inr (5, [.ref j1, .ref j2, .ref j3, .ref jL, .int 0])) :: (jL, .inl (cy 0, 9, .inl (fun _ => 0))) :: (vP, .inr (7, [.ref vC, .ref p1, .ref p2, .ref p3, .ref p4, .ref p5, .ref p6, .ref p7, .int 0, .long 0, .ref p8, .int 0, .int 0, .long 1])) :: (p1, .inl (cy 0, 9, .inl (fun _ => 0))) :: (p2, .inl (cy 2, 9, .inl (fun _ => 0))) :: (p8, .inl (cy 2, 24, .inl (fun _ => 0))) :: (p3, .inl (cy 0, 9, .inl (fun _ => 0))) :: (p4, .inl (cy 3, 8, .inr (.inr (.inr (.inr (fun k9 => if k9 < 8 then some (rn k9) else none)))))) :: ((rn 0), .inl (cy 1, 11, .inr (.inl (fun _ => 0)))) :: ((rn 1), .inl (cy 1, 11, .inr (.inl (fun _ => 0)))) :: ((rn 2), .inl (cy 1, 11, .inr (.inl (fun _ => 0)))) :: ((rn 3), .inl (cy 1, 11, .inr (.inl (fun _ => 0)))) :: ((rn 4), .inl (cy 1, 11, .inr (.inl (fun _ => 0)))) :: ((rn 5), .inl (cy 1, 11, .inr (.inl (fun _ => 0)))) :: ((rn 6), .inl (cy 1, 11, .inr (.inl (fun _ => 0)))) :: ((rn 7), .inl (cy 1, 11, .inr (.inl (fun _ => 0)))) :: (p5, .inl (cy 3, 9, .inr (.inr (.inr (.inr (fun k9 => if k9 < 9 then some (rt k9) else none)))))) :: ((rt 0), .inl (cy 1, 3, .inr (.inl (fun _ => 0)))) :: ((rt 1), .inl (cy 1, 3, .inr (.inl (fun _ => 0)))) :: ((rt 2), .inl (cy 1, 3, .inr (.inl (fun _ => 0)))) :: ((rt 3), .inl (cy 1, 3, .inr (.inl (fun _ => 0)))) :: ((rt 4), .inl (cy 1, 3, .inr (.inl (fun _ => 0)))) :: ((rt 5), .inl (cy 1, 3, .inr (.inl (fun _ => 0)))) :: ((rt 6), .inl (cy 1, 3, .inr (.inl (fun _ => 0)))) :: ((rt 7), .inl (cy 1, 3, .inr (.inl (fun _ => 0)))) :: ((rt 8), .inl (cy 1, 3, .inr (.inl (fun _ => 0)))) :: (vT, .inr (7, [.ref vC, .ref t1, .ref t2, .ref t3, .ref t4, .ref t5, .ref t6, .ref t7, .int 0, .long 0, .ref t8, .int 0, .int 0, .long 1])) :: (t1, .inl (cy 0, 9, .inl (fun _ => 0))) :: (t2, .inl (cy 2, 9, .inl (fun _ => 0))) :: (t8, .inl (cy 2, 24, .inl (fun _ => 0))) :: (t3, .inl (cy 0, 9, .inl (fun _ => 0))) :: (t4, .inl (cy 3, 8, .inr (.inr (.inr (.inr (fun k9 => if k9 < 8 then some (rn2 k9) else none)))))) :: ((rn2 0), .inl (cy 1, 11, .inr (.inl (fun _ => 0)))) :: ((rn2 1), .inl (cy 1, 11, .inr (.inl (fun _ => 0)))) :: ((rn2 2), .inl (cy 1, 11, .inr (.inl (fun _ => 0)))) :: ((rn2 3), .inl (cy 1, 11, .inr (.inl (fun _ => 0)))) :: ((rn2 4), .inl (cy 1, 11, .inr (.inl (fun _ => 0)))) :: ((rn2 5), .inl (cy 1, 11, .inr (.inl (fun _ => 0)))) :: ((rn2 6), .inl (cy 1, 11, .inr (.inl (fun _ => 0)))) :: ((rn2 7), .inl (cy 1, 11, .inr (.inl (fun _ => 0)))) :: (t5, .inl (cy 3, 9, .inr (.inr (.inr (.inr (fun k9 => if k9 < 9 then some (rt2 k9) else none)))))) :: ((rt2 0), .inl (cy 1, 3, .inr (.inl (fun _ => 0)))) :: ((rt2 1), .inl (cy 1, 3, .inr (.inl (fun _ => 0)))) :: ((rt2 2), .inl (cy 1, 3, .inr (.inl (fun _ => 0)))) :: ((rt2 3), .inl (cy 1, 3, .inr (.inl (fun _ => 0)))) :: ((rt2 4), .inl (cy 1, 3, .inr (.inl (fun _ => 0)))) :: ((rt2 5), .inl (cy 1, 3, .inr (.inl (fun _ => 0)))) :: ((rt2 6), .inl (cy 1, 3, .inr (.inl (fun _ => 0)))) :: ((rt2 7), .inl (cy 1, 3, .inr (.inl (fun _ => 0)))) :: ((rt2 8), .inl (cy 1, 3, .inr (.inl (fun _ => 0)))) :: [])) (wr := [(o1, .inl (cy 1, 1, .inr (.inl (fun _ => 0))))]) (va_runV (As := [.int d]) (rest := [.int 0, .ref o1]) ⟨hx, hb, hml, hown, hts⟩ (f_isSound_in l D cy h0 vC vP vT vS vF vN vY sS sJ j1 j2 j3 jL p1 p2 p3 p4 p5 p6 p7 p8 rn rt t1 t2 t3 t4 t5 t6 t7 t8 rn2 rt2 d s.heap.size hd) (cwV 1 hts (gzV (gz q534) q533 q535 q536 q174) rfl rfl rfl vX9_isSound ⟨Nat.le_of_ble_eq_true rfl, Nat.le_of_ble_eq_true rfl⟩) (zpV (ci := 12) (T := TX9) (N := 8) (q0 := 0) hK hX hY hP hD hS hA (0 :: 1 :: 2 :: 3 :: 4 :: 5 :: 6 :: 7 :: 8 :: 9 :: 10 :: 11 :: 12 :: 13 :: 14 :: 15 :: 16 :: 17 :: 18 :: 19 :: 20 :: 21 :: 22 :: 23 :: 24 :: 25 :: 26 :: 27 :: 28 :: 29 :: 30 :: 31 :: 32 :: 33 :: 34 :: 35 :: 36 :: 37 :: 38 :: 39 :: 40 :: 41 :: 42 :: 43 :: 44 :: 45 :: 46 :: 47 :: 48 :: 49 :: 50 :: 51 :: []) (by decide) rfl rfl rfl) rfl rfl hl.1 rfl (lv_room (Nat.le_of_ble_eq_true rfl)) dL_isSound_4 ⟨Nat.le_of_ble_eq_true rfl, Nat.le_of_ble_eq_true rfl⟩) hP hD hS hA (0 :: 1 :: 2 :: 3 :: 4 :: 5 :: 6 :: 7 :: 8 :: 9 :: 10 :: 11 :: 12 :: 13 :: 14 :: 15 :: 16 :: 17 :: 18 :: 19 :: 20 :: 21 :: 22 :: 23 :: 24 :: 25 :: 26 :: 27 :: 28 :: 29 :: 30 :: 31 :: 32 :: 33 :: 34 :: 35 :: 36 :: 37 :: 38 :: 39 :: 40 :: 41 :: 42 :: 43 :: 44 :: 45 :: 46 :: 47 :: 48 :: 49 :: 50 :: 51 :: []) [52] rfl rfl (by decide) (by decide) (fun x2 u1 H locs hw hP hD hS => ?_)
  obtain rfl : x2 = 1 := hw
  have hP : va_P D vwCl [(o1, .inl (cy 1, 1, .inr (.inl (fun _ => 0))))] H := hP
  have hD : va_D A [(o1, .inl (cy 1, 1, .inr (.inl (fun _ => 0))))] := hD
  refine lv_if_eq (tgt := 14) hx hb dL_isSound_7 (by decide) (fun c_7_2 => absurd c_7_2 (by decide +kernel)) (fun _ => ?_)
  refine lv_lconst (v := 1) hx hb dL_isSound_10 rfl ?_
  refine lv_goto (tgt := 15) hx hb dL_isSound_11 (by decide) ?_
  refine va_last hx hb hK hP hD hS 0 1 rfl rfl (z_in 0 (by decide) (by decide)) dL_isSound_15 (fun H locs hP hD hS => ?_)
  have hP : va_P D vwCl [(o1, .inl (cy 1, 1, .inr (.inl (vp_updL (fun _ => 0) (0 : Int32).toNatClampNeg 1))))] H := hP
  have hD : va_D A [(o1, .inl (cy 1, 1, .inr (.inl (vp_updL (fun _ => 0) (0 : Int32).toNatClampNeg 1))))] := hD
  refine lv_goto (tgt := 22) hx hb dL_isSound_16 (by decide) ?_
  obtain ⟨hP, hD⟩ := zP_l (fun _ => 1) hP hD (q := 0) rfl (z_one rfl)
  have hP : va_P D vwCl [(o1, .inl (cy 1, 1, .inr (.inl (fun _ => 1))))] H := hP
  have hD : va_D A [(o1, .inl (cy 1, 1, .inr (.inl (fun _ => 1))))] := hD
  refine lv_iconst (v := 0) hx hb dL_isSound_22 (by decide) ?_
  have hP9 := hP.sub (ws' := [(o1, .inl (cy 1, 1, .inr (.inl (fun _ => 1))))]) [0] rfl
  have hD9 := hD.sub (ws' := [(o1, .inl (cy 1, 1, .inr (.inl (fun _ => 1))))]) [0] (by decide) rfl
  refine W.widen (k := 0) (n := 0) (Nat.le_of_ble_eq_true rfl) (Nat.le_of_ble_eq_true rfl) ?_
  rw [hQe]
  exact W.iret (v := 0) hx hb hr (fun t ht hW => ⟨⟨0, (), rfl, rfl, ⟨by rw [ht]; exact hP9, hD9⟩⟩, hS.F ht⟩) hS.2.2 dL_isSound_23
set_option maxHeartbeats 4000000 in
set_option maxRecDepth 100000 in
/-- the law's call of meanRain: it throws -/
theorem w_meanRain (l : Launch) (hlt : l.stackTraces = false) (D : va_G) (cy : Nat → ClassId) (h0 : Nat) (vC : Nat) (vP : Nat) (vT : Nat) (vS : Nat) (vF : Nat) (vN : Nat) (vY : Nat) (l1 : Nat) (l2 : Nat) (o2 : Nat) (sz : Nat)  : Met l yL_meanRain (wzW yL_meanRain cL_meanRain 3 (some .int) [(0, 7, 10, 132)]) ({ frames := 7, cells := 1, slots := 6, locals := 105 } : Room) (va_Pc [.ref h0, .ref o2] (zPre vwCl D cy [(h0, .inr (12, [.ref vC, .ref vP, .ref vT, .ref vS, .ref vF, .ref vN, .ref vY, .int 0])), (vF, .inr (4, [.ref l1, .ref l2])), (l1, .inl (cy 0, 200, .inl (fun _ => 0))), (l2, .inl (cy 0, 401, .inl (fun _ => 0)))] sz)) (va_Qi (fun (r : Int32) (_ : Unit) => r = 1) (fun (u : Unit) t => zPost vwCl D (va_A [(h0, .inr (12, [.ref vC, .ref vP, .ref vT, .ref vS, .ref vF, .ref vN, .ref vY, .int 0])), (vF, .inr (4, [.ref l1, .ref l2])), (l1, .inl (cy 0, 200, .inl (fun _ => 0))), (l2, .inl (cy 0, 401, .inl (fun _ => 0)))] sz) [] t) (va_A [(h0, .inr (12, [.ref vC, .ref vP, .ref vT, .ref vS, .ref vF, .ref vN, .ref vY, .int 0])), (vF, .inr (4, [.ref l1, .ref l2])), (l1, .inl (cy 0, 200, .inl (fun _ => 0))), (l2, .inl (cy 0, 401, .inl (fun _ => 0)))] sz)) 1 6 (va_A [(h0, .inr (12, [.ref vC, .ref vP, .ref vT, .ref vS, .ref vF, .ref vN, .ref vY, .int 0])), (vF, .inr (4, [.ref l1, .ref l2])), (l1, .inl (cy 0, 200, .inl (fun _ => 0))), (l2, .inl (cy 0, 401, .inl (fun _ => 0)))] sz) := by
  refine va_MetW (cc := cL_meanRain) (maxL := 3) (ret := (some .int)) (hh := [(0, 7, 10, 132)]) (by decide) rfl ?_
  intro p e s m args below meth c s₁ B hml hv
  obtain ⟨rfl, hsz, hP, hK, hD0, hX, hY⟩ := hv
  have hx := B.exec
  have hb := B.bytes
  have hr := B.returns
  have hts0 := atoms_spec (ws := wzW yL_meanRain cL_meanRain 3 (some .int) [(0, 7, 10, 132)]) B.pre
  have hts : ∀ w ∈ wAll, w.before _ s = true := fun w h => hts0 w (List.mem_cons_of_mem _ h)
  have hown : s.vm.findClass RL = some m.cls := findClass_of_methodNamed B.named
  have hlocks := B.notSynchronized
  have htab := vx_table (x := yL_meanRain) B (hts0 _ List.mem_cons_self)
  subst hsz
  have hD := hD0.self (sz := s.heap.size)
  generalize hAe : va_A [(h0, .inr (12, [.ref vC, .ref vP, .ref vT, .ref vS, .ref vF, .ref vN, .ref vY, .int 0])), (vF, .inr (4, [.ref l1, .ref l2])), (l1, .inl (cy 0, 200, .inl (fun _ => 0))), (l2, .inl (cy 0, 401, .inl (fun _ => 0)))] s.heap.size = A at hD hY ⊢
  have hA : ∀ q : Nat, s.heap.size ≤ q → A q := fun q h => by rw [← hAe]; exact Or.inr h
  have hS : va_S A s.heap s.heap [] := va_S.rf
  have hP : va_P D vwCl [(h0, .inr (12, [.ref vC, .ref vP, .ref vT, .ref vS, .ref vF, .ref vN, .ref vY, .int 0])), (vF, .inr (4, [.ref l1, .ref l2])), (l1, .inl (cy 0, 200, .inl (fun _ => 0))), (l2, .inl (cy 0, 401, .inl (fun _ => 0)))] s.heap := hP
  have hl := lv_entry ([.ref h0, .ref o2]) (n := 3) (Nat.le_of_ble_eq_true rfl)
  rw [lg_entry_eq]
  generalize (lg_sl ([.ref h0, .ref o2]) ++ List.replicate (3 - (lg_sl ([.ref h0, .ref o2])).length) Slot.unset).toArray = ls at hl ⊢
  have hl : lv_has ls 3 [(0, .ref h0), (1, .ref o2)] := hl
  refine z_anyQ (fun Q hQe => ?_)
  refine lv_aload_n hx hb dL_meanRain_0 rfl (lv_at hl 1 rfl) ?_
  refine lv_iconst (v := 0) hx hb dL_meanRain_1 (by decide) ?_
  refine lv_aload_n hx hb dL_meanRain_2 rfl (lv_at hl 0 rfl) ?_
  refine zx_catch (wc := [(h0, .inr (12, [.ref vC, .ref vP, .ref vT, .ref vS, .ref vF, .ref vN, .ref vY, .int 0])), (vF, .inr (4, [.ref l1, .ref l2])), (l1, .inl (cy 0, 200, .inl (fun _ => 0))), (l2, .inl (cy 0, 401, .inl (fun _ => 0)))]) (wr := []) (vx_runV (As := []) (rest := [.int 0, .ref o2]) ⟨hx, hb, hml, hown, hts⟩ (f_meanRain l hlt D cy h0 vC vP vT vS vF vN vY l1 l2 s.heap.size ) (cwV 0 hts (gzV (gz q540) q539 q541 q542 q174) rfl rfl rfl vX9_meanRain ⟨Nat.le_of_ble_eq_true rfl, Nat.le_of_ble_eq_true rfl⟩) (zpV (ci := 12) (T := TX9) (N := 8) (q0 := 0) hK hX hY hP hD hS hA [0, 1, 2, 3] (by decide) rfl rfl rfl) rfl rfl hl.1 rfl (lv_room (Nat.le_of_ble_eq_true rfl)) dL_meanRain_3 ⟨Nat.le_of_ble_eq_true rfl, Nat.le_of_ble_eq_true rfl⟩) hP hD hS hA [0, 1, 2, 3] [] rfl rfl (by decide) (by decide) hown [] ⟨0, 7, 10, 132⟩ [] htab (fun z hz => by cases hz) rfl (by decide) (hts _ q538) hX.1.1.2.2.2 (fun q9 H locs hP hD hS => ?_)
  have hP : va_P D vwCl [] H := hP
  have hD : va_D A [] := hD
  refine W.widen (k := 1) (n := 6) (by omega) (by omega) ?_
  refine lv_astore_n (lv' := [(2, .ref q9), (0, .ref h0), (1, .ref o2)]) hx hb dL_meanRain_10 rfl hl (by decide) rfl (fun ls hl => ?_)
  refine lv_iconst (v := 1) hx hb dL_meanRain_11 (by decide) ?_
  have hP9 := hP.sub (ws' := []) [] rfl
  have hD9 := hD.sub (ws' := []) [] (by decide) rfl
  refine W.widen (k := 1) (n := 6) (Nat.le_of_ble_eq_true rfl) (Nat.le_of_ble_eq_true rfl) ?_
  rw [hQe]
  exact W.iret (v := 1) hx hb hr (fun t ht hW => ⟨⟨1, (), rfl, rfl, ⟨by rw [ht]; exact hP9, hD9⟩⟩, hS.F ht⟩) hS.2.2 dL_meanRain_12
set_option maxHeartbeats 4000000 in
set_option maxRecDepth 100000 in
/-- the law's call of rain: it answers -/
theorem w_rain_ok (l : Launch) (hlt : l.stackTraces = false) (D : va_G) (cy : Nat → ClassId) (h0 : Nat) (vC : Nat) (vP : Nat) (vT : Nat) (vS : Nat) (vF : Nat) (vN : Nat) (vY : Nat) (l1 : Nat) (l2 : Nat) (k : Nat) (r : Int32) (o1 : Nat) (sz : Nat) (hk : k < 200) (h1 : ¬ r < 0) (h2 : r ≤ 99) : Met l yL_rain (wzW yL_rain cL_rain 5 (some .int) [(0, 10, 13, 21)]) ({ frames := 3, cells := 0, slots := 0, locals := 63 } : Room) (va_Pc [.ref h0, .int (nI k), .int r, .ref o1] (zPre vwCl D cy [(h0, .inr (12, [.ref vC, .ref vP, .ref vT, .ref vS, .ref vF, .ref vN, .ref vY, .int 0])), (vF, .inr (4, [.ref l1, .ref l2])), (l1, .inl (cy 0, 200, .inl (fun _ => 0))), (l2, .inl (cy 0, 401, .inl (fun _ => 0))), (o1, .inl (cy 1, 1, .inr (.inl (fun _ => 0))))] sz)) (va_Qi (fun (r : Int32) (_ : Unit) => r = 0) (fun (u : Unit) t => zPost vwCl D (va_A [(h0, .inr (12, [.ref vC, .ref vP, .ref vT, .ref vS, .ref vF, .ref vN, .ref vY, .int 0])), (vF, .inr (4, [.ref l1, .ref l2])), (l1, .inl (cy 0, 200, .inl (fun _ => 0))), (l2, .inl (cy 0, 401, .inl (fun _ => 0))), (o1, .inl (cy 1, 1, .inr (.inl (fun _ => 0))))] sz) [(o1, .inl (cy 1, 1, .inr (.inl (fun _ => 0))))] t) (va_A [(h0, .inr (12, [.ref vC, .ref vP, .ref vT, .ref vS, .ref vF, .ref vN, .ref vY, .int 0])), (vF, .inr (4, [.ref l1, .ref l2])), (l1, .inl (cy 0, 200, .inl (fun _ => 0))), (l2, .inl (cy 0, 401, .inl (fun _ => 0))), (o1, .inl (cy 1, 1, .inr (.inl (fun _ => 0))))] sz)) 0 0 (va_A [(h0, .inr (12, [.ref vC, .ref vP, .ref vT, .ref vS, .ref vF, .ref vN, .ref vY, .int 0])), (vF, .inr (4, [.ref l1, .ref l2])), (l1, .inl (cy 0, 200, .inl (fun _ => 0))), (l2, .inl (cy 0, 401, .inl (fun _ => 0))), (o1, .inl (cy 1, 1, .inr (.inl (fun _ => 0))))] sz) := by
  refine va_MetW (cc := cL_rain) (maxL := 5) (ret := (some .int)) (hh := [(0, 10, 13, 21)]) (by decide) rfl ?_
  intro p e s m args below meth c s₁ B hml hv
  obtain ⟨rfl, hsz, hP, hK, hD0, hX, hY⟩ := hv
  have hx := B.exec
  have hb := B.bytes
  have hr := B.returns
  have hts0 := atoms_spec (ws := wzW yL_rain cL_rain 5 (some .int) [(0, 10, 13, 21)]) B.pre
  have hts : ∀ w ∈ wAll, w.before _ s = true := fun w h => hts0 w (List.mem_cons_of_mem _ h)
  have hown : s.vm.findClass RL = some m.cls := findClass_of_methodNamed B.named
  have hlocks := B.notSynchronized
  have htab := vx_table (x := yL_rain) B (hts0 _ List.mem_cons_self)
  subst hsz
  have hD := hD0.self (sz := s.heap.size)
  generalize hAe : va_A [(h0, .inr (12, [.ref vC, .ref vP, .ref vT, .ref vS, .ref vF, .ref vN, .ref vY, .int 0])), (vF, .inr (4, [.ref l1, .ref l2])), (l1, .inl (cy 0, 200, .inl (fun _ => 0))), (l2, .inl (cy 0, 401, .inl (fun _ => 0))), (o1, .inl (cy 1, 1, .inr (.inl (fun _ => 0))))] s.heap.size = A at hD hY ⊢
  have hA : ∀ q : Nat, s.heap.size ≤ q → A q := fun q h => by rw [← hAe]; exact Or.inr h
  have hS : va_S A s.heap s.heap [] := va_S.rf
  have hP : va_P D vwCl [(h0, .inr (12, [.ref vC, .ref vP, .ref vT, .ref vS, .ref vF, .ref vN, .ref vY, .int 0])), (vF, .inr (4, [.ref l1, .ref l2])), (l1, .inl (cy 0, 200, .inl (fun _ => 0))), (l2, .inl (cy 0, 401, .inl (fun _ => 0))), (o1, .inl (cy 1, 1, .inr (.inl (fun _ => 0))))] s.heap := hP
  have hl := lv_entry ([.ref h0, .int (nI k), .int r, .ref o1]) (n := 5) (Nat.le_of_ble_eq_true rfl)
  rw [lg_entry_eq]
  generalize (lg_sl ([.ref h0, .int (nI k), .int r, .ref o1]) ++ List.replicate (5 - (lg_sl ([.ref h0, .int (nI k), .int r, .ref o1])).length) Slot.unset).toArray = ls at hl ⊢
  have hl : lv_has ls 5 [(0, .ref h0), (1, .int (nI k)), (2, .int r), (3, .ref o1)] := hl
  refine z_anyQ (fun Q hQe => ?_)
  refine lv_aload_n hx hb dL_rain_0 rfl (lv_at hl 3 rfl) ?_
  refine lv_iconst (v := 0) hx hb dL_rain_1 (by decide) ?_
  refine lv_aload_n hx hb dL_rain_2 rfl (lv_at hl 0 rfl) ?_
  refine lv_iload_n hx hb dL_rain_3 rfl (lv_at hl 1 rfl) ?_
  refine lv_iload_n hx hb dL_rain_4 rfl (lv_at hl 2 rfl) ?_
  refine zq_i (wc := [(h0, .inr (12, [.ref vC, .ref vP, .ref vT, .ref vS, .ref vF, .ref vN, .ref vY, .int 0])), (vF, .inr (4, [.ref l1, .ref l2])), (l1, .inl (cy 0, 200, .inl (fun _ => 0))), (l2, .inl (cy 0, 401, .inl (fun _ => 0)))]) (wr := [(o1, .inl (cy 1, 1, .inr (.inl (fun _ => 0))))]) (va_runV (As := [.int (nI k), .int r]) (rest := [.int 0, .ref o1]) ⟨hx, hb, hml, hown, hts⟩ (f_rain_ok l D cy h0 vC vP vT vS vF vN vY l1 l2 k r s.heap.size hk h1 h2) (cwV 2 hts (gzV (gz q544) q543 q545 q546 q174) rfl rfl rfl vX9_rain ⟨Nat.le_of_ble_eq_true rfl, Nat.le_of_ble_eq_true rfl⟩) (zpV (ci := 12) (T := TX9) (N := 8) (q0 := 0) hK hX hY hP hD hS hA [0, 1, 2, 3] (by decide) rfl rfl rfl) rfl rfl hl.1 rfl (lv_room (Nat.le_of_ble_eq_true rfl)) dL_rain_5 ⟨Nat.le_of_ble_eq_true rfl, Nat.le_of_ble_eq_true rfl⟩) hP hD hS hA [0, 1, 2, 3] [4] rfl rfl (by decide) (by decide) (fun x2 u1 H locs hw hP hD hS => ?_)
  obtain rfl : x2 = 0 := hw
  have hP : va_P D vwCl [(o1, .inl (cy 1, 1, .inr (.inl (fun _ => 0))))] H := hP
  have hD : va_D A [(o1, .inl (cy 1, 1, .inr (.inl (fun _ => 0))))] := hD
  refine lv_i2l (v := 0) hx hb dL_rain_8 (by decide) ?_
  refine va_last hx hb hK hP hD hS 0 1 rfl rfl (z_in 0 (by decide) (by decide)) dL_rain_9 (fun H locs hP hD hS => ?_)
  have hP : va_P D vwCl [(o1, .inl (cy 1, 1, .inr (.inl (vp_updL (fun _ => 0) (0 : Int32).toNatClampNeg 0))))] H := hP
  have hD : va_D A [(o1, .inl (cy 1, 1, .inr (.inl (vp_updL (fun _ => 0) (0 : Int32).toNatClampNeg 0))))] := hD
  refine lv_goto (tgt := 17) hx hb dL_rain_10 (by decide) ?_
  obtain ⟨hP, hD⟩ := zP_l (fun _ => 0) hP hD (q := 0) rfl (z_one rfl)
  have hP : va_P D vwCl [(o1, .inl (cy 1, 1, .inr (.inl (fun _ => 0))))] H := hP
  have hD : va_D A [(o1, .inl (cy 1, 1, .inr (.inl (fun _ => 0))))] := hD
  refine lv_iconst (v := 0) hx hb dL_rain_17 (by decide) ?_
  have hP9 := hP.sub (ws' := [(o1, .inl (cy 1, 1, .inr (.inl (fun _ => 0))))]) [0] rfl
  have hD9 := hD.sub (ws' := [(o1, .inl (cy 1, 1, .inr (.inl (fun _ => 0))))]) [0] (by decide) rfl
  refine W.widen (k := 0) (n := 0) (Nat.le_of_ble_eq_true rfl) (Nat.le_of_ble_eq_true rfl) ?_
  rw [hQe]
  exact W.iret (v := 0) hx hb hr (fun t ht hW => ⟨⟨0, (), rfl, rfl, ⟨by rw [ht]; exact hP9, hD9⟩⟩, hS.F ht⟩) hS.2.2 dL_rain_18
set_option maxHeartbeats 4000000 in
set_option maxRecDepth 100000 in
/-- the law's call of rain: it throws -/
theorem w_rain_no1 (l : Launch) (hlt : l.stackTraces = false) (D : va_G) (cy : Nat → ClassId) (h0 : Nat) (vC : Nat) (vP : Nat) (vT : Nat) (vS : Nat) (vF : Nat) (vN : Nat) (vY : Nat) (a1 : Int32) (a2 : Int32) (o1 : Nat) (sz : Nat) (hq0 : a1 < 0 ∨ ¬ a1 ≤ 199) : Met l yL_rain (wzW yL_rain cL_rain 5 (some .int) [(0, 10, 13, 21)]) ({ frames := 8, cells := 1, slots := 6, locals := 127 } : Room) (va_Pc [.ref h0, .int a1, .int a2, .ref o1] (zPre vwCl D cy [(h0, .inr (12, [.ref vC, .ref vP, .ref vT, .ref vS, .ref vF, .ref vN, .ref vY, .int 0]))] sz)) (va_Qi (fun (r : Int32) (_ : Unit) => r = 1) (fun (u : Unit) t => zPost vwCl D (va_A [(h0, .inr (12, [.ref vC, .ref vP, .ref vT, .ref vS, .ref vF, .ref vN, .ref vY, .int 0]))] sz) [] t) (va_A [(h0, .inr (12, [.ref vC, .ref vP, .ref vT, .ref vS, .ref vF, .ref vN, .ref vY, .int 0]))] sz)) 1 6 (va_A [(h0, .inr (12, [.ref vC, .ref vP, .ref vT, .ref vS, .ref vF, .ref vN, .ref vY, .int 0]))] sz) := by
  refine va_MetW (cc := cL_rain) (maxL := 5) (ret := (some .int)) (hh := [(0, 10, 13, 21)]) (by decide) rfl ?_
  intro p e s m args below meth c s₁ B hml hv
  obtain ⟨rfl, hsz, hP, hK, hD0, hX, hY⟩ := hv
  have hx := B.exec
  have hb := B.bytes
  have hr := B.returns
  have hts0 := atoms_spec (ws := wzW yL_rain cL_rain 5 (some .int) [(0, 10, 13, 21)]) B.pre
  have hts : ∀ w ∈ wAll, w.before _ s = true := fun w h => hts0 w (List.mem_cons_of_mem _ h)
  have hown : s.vm.findClass RL = some m.cls := findClass_of_methodNamed B.named
  have hlocks := B.notSynchronized
  have htab := vx_table (x := yL_rain) B (hts0 _ List.mem_cons_self)
  subst hsz
  have hD := hD0.self (sz := s.heap.size)
  generalize hAe : va_A [(h0, .inr (12, [.ref vC, .ref vP, .ref vT, .ref vS, .ref vF, .ref vN, .ref vY, .int 0]))] s.heap.size = A at hD hY ⊢
  have hA : ∀ q : Nat, s.heap.size ≤ q → A q := fun q h => by rw [← hAe]; exact Or.inr h
  have hS : va_S A s.heap s.heap [] := va_S.rf
  have hP : va_P D vwCl [(h0, .inr (12, [.ref vC, .ref vP, .ref vT, .ref vS, .ref vF, .ref vN, .ref vY, .int 0]))] s.heap := hP
  have hl := lv_entry ([.ref h0, .int a1, .int a2, .ref o1]) (n := 5) (Nat.le_of_ble_eq_true rfl)
  rw [lg_entry_eq]
  generalize (lg_sl ([.ref h0, .int a1, .int a2, .ref o1]) ++ List.replicate (5 - (lg_sl ([.ref h0, .int a1, .int a2, .ref o1])).length) Slot.unset).toArray = ls at hl ⊢
  have hl : lv_has ls 5 [(0, .ref h0), (1, .int a1), (2, .int a2), (3, .ref o1)] := hl
  refine z_anyQ (fun Q hQe => ?_)
  refine lv_aload_n hx hb dL_rain_0 rfl (lv_at hl 3 rfl) ?_
  refine lv_iconst (v := 0) hx hb dL_rain_1 (by decide) ?_
  refine lv_aload_n hx hb dL_rain_2 rfl (lv_at hl 0 rfl) ?_
  refine lv_iload_n hx hb dL_rain_3 rfl (lv_at hl 1 rfl) ?_
  refine lv_iload_n hx hb dL_rain_4 rfl (lv_at hl 2 rfl) ?_
  refine zx_catch (wc := [(h0, .inr (12, [.ref vC, .ref vP, .ref vT, .ref vS, .ref vF, .ref vN, .ref vY, .int 0]))]) (wr := []) (vx_runV (As := [.int a1, .int a2]) (rest := [.int 0, .ref o1]) ⟨hx, hb, hml, hown, hts⟩ (f_rain_no1 l hlt D cy h0 vC vP vT vS vF vN vY a1 a2 s.heap.size hq0) (cwV 2 hts (gzV (gz q544) q543 q545 q546 q174) rfl rfl rfl vX9_rain ⟨Nat.le_of_ble_eq_true rfl, Nat.le_of_ble_eq_true rfl⟩) (zpV (ci := 12) (T := TX9) (N := 8) (q0 := 0) hK hX hY hP hD hS hA [0] (by decide) rfl rfl rfl) rfl rfl hl.1 rfl (lv_room (Nat.le_of_ble_eq_true rfl)) dL_rain_5 ⟨Nat.le_of_ble_eq_true rfl, Nat.le_of_ble_eq_true rfl⟩) hP hD hS hA [0] [] rfl rfl (by decide) (by decide) hown [] ⟨0, 10, 13, 21⟩ [] htab (fun z hz => by cases hz) rfl (by decide) (hts _ q512) hX.1.1.2.1 (fun q9 H locs hP hD hS => ?_)
  have hP : va_P D vwCl [] H := hP
  have hD : va_D A [] := hD
  refine W.widen (k := 1) (n := 6) (by omega) (by omega) ?_
  refine lv_astore (lv' := [(4, .ref q9), (0, .ref h0), (1, .int a1), (2, .int a2), (3, .ref o1)]) hx hb dL_rain_13 hl (by decide) rfl (fun ls hl => ?_)
  refine lv_iconst (v := 1) hx hb dL_rain_15 (by decide) ?_
  have hP9 := hP.sub (ws' := []) [] rfl
  have hD9 := hD.sub (ws' := []) [] (by decide) rfl
  refine W.widen (k := 1) (n := 6) (Nat.le_of_ble_eq_true rfl) (Nat.le_of_ble_eq_true rfl) ?_
  rw [hQe]
  exact W.iret (v := 1) hx hb hr (fun t ht hW => ⟨⟨1, (), rfl, rfl, ⟨by rw [ht]; exact hP9, hD9⟩⟩, hS.F ht⟩) hS.2.2 dL_rain_16
set_option maxHeartbeats 4000000 in
set_option maxRecDepth 100000 in
/-- the law's call of rain: it throws -/
theorem w_rain_no2 (l : Launch) (hlt : l.stackTraces = false) (D : va_G) (cy : Nat → ClassId) (h0 : Nat) (vC : Nat) (vP : Nat) (vT : Nat) (vS : Nat) (vF : Nat) (vN : Nat) (vY : Nat) (a1 : Int32) (a2 : Int32) (o1 : Nat) (sz : Nat) (h1 : ¬ a1 < 0) (h2 : a1 ≤ 199) (hq0 : a2 < 0 ∨ ¬ a2 ≤ 99) : Met l yL_rain (wzW yL_rain cL_rain 5 (some .int) [(0, 10, 13, 21)]) ({ frames := 8, cells := 1, slots := 6, locals := 127 } : Room) (va_Pc [.ref h0, .int a1, .int a2, .ref o1] (zPre vwCl D cy [(h0, .inr (12, [.ref vC, .ref vP, .ref vT, .ref vS, .ref vF, .ref vN, .ref vY, .int 0]))] sz)) (va_Qi (fun (r : Int32) (_ : Unit) => r = 1) (fun (u : Unit) t => zPost vwCl D (va_A [(h0, .inr (12, [.ref vC, .ref vP, .ref vT, .ref vS, .ref vF, .ref vN, .ref vY, .int 0]))] sz) [] t) (va_A [(h0, .inr (12, [.ref vC, .ref vP, .ref vT, .ref vS, .ref vF, .ref vN, .ref vY, .int 0]))] sz)) 1 6 (va_A [(h0, .inr (12, [.ref vC, .ref vP, .ref vT, .ref vS, .ref vF, .ref vN, .ref vY, .int 0]))] sz) := by
  refine va_MetW (cc := cL_rain) (maxL := 5) (ret := (some .int)) (hh := [(0, 10, 13, 21)]) (by decide) rfl ?_
  intro p e s m args below meth c s₁ B hml hv
  obtain ⟨rfl, hsz, hP, hK, hD0, hX, hY⟩ := hv
  have hx := B.exec
  have hb := B.bytes
  have hr := B.returns
  have hts0 := atoms_spec (ws := wzW yL_rain cL_rain 5 (some .int) [(0, 10, 13, 21)]) B.pre
  have hts : ∀ w ∈ wAll, w.before _ s = true := fun w h => hts0 w (List.mem_cons_of_mem _ h)
  have hown : s.vm.findClass RL = some m.cls := findClass_of_methodNamed B.named
  have hlocks := B.notSynchronized
  have htab := vx_table (x := yL_rain) B (hts0 _ List.mem_cons_self)
  subst hsz
  have hD := hD0.self (sz := s.heap.size)
  generalize hAe : va_A [(h0, .inr (12, [.ref vC, .ref vP, .ref vT, .ref vS, .ref vF, .ref vN, .ref vY, .int 0]))] s.heap.size = A at hD hY ⊢
  have hA : ∀ q : Nat, s.heap.size ≤ q → A q := fun q h => by rw [← hAe]; exact Or.inr h
  have hS : va_S A s.heap s.heap [] := va_S.rf
  have hP : va_P D vwCl [(h0, .inr (12, [.ref vC, .ref vP, .ref vT, .ref vS, .ref vF, .ref vN, .ref vY, .int 0]))] s.heap := hP
  have hl := lv_entry ([.ref h0, .int a1, .int a2, .ref o1]) (n := 5) (Nat.le_of_ble_eq_true rfl)
  rw [lg_entry_eq]
  generalize (lg_sl ([.ref h0, .int a1, .int a2, .ref o1]) ++ List.replicate (5 - (lg_sl ([.ref h0, .int a1, .int a2, .ref o1])).length) Slot.unset).toArray = ls at hl ⊢
  have hl : lv_has ls 5 [(0, .ref h0), (1, .int a1), (2, .int a2), (3, .ref o1)] := hl
  refine z_anyQ (fun Q hQe => ?_)
  refine lv_aload_n hx hb dL_rain_0 rfl (lv_at hl 3 rfl) ?_
  refine lv_iconst (v := 0) hx hb dL_rain_1 (by decide) ?_
  refine lv_aload_n hx hb dL_rain_2 rfl (lv_at hl 0 rfl) ?_
  refine lv_iload_n hx hb dL_rain_3 rfl (lv_at hl 1 rfl) ?_
  refine lv_iload_n hx hb dL_rain_4 rfl (lv_at hl 2 rfl) ?_
  refine zx_catch (wc := [(h0, .inr (12, [.ref vC, .ref vP, .ref vT, .ref vS, .ref vF, .ref vN, .ref vY, .int 0]))]) (wr := []) (vx_runV (As := [.int a1, .int a2]) (rest := [.int 0, .ref o1]) ⟨hx, hb, hml, hown, hts⟩ (f_rain_no2 l hlt D cy h0 vC vP vT vS vF vN vY a1 a2 s.heap.size h1 h2 hq0) (cwV 2 hts (gzV (gz q544) q543 q545 q546 q174) rfl rfl rfl vX9_rain ⟨Nat.le_of_ble_eq_true rfl, Nat.le_of_ble_eq_true rfl⟩) (zpV (ci := 12) (T := TX9) (N := 8) (q0 := 0) hK hX hY hP hD hS hA [0] (by decide) rfl rfl rfl) rfl rfl hl.1 rfl (lv_room (Nat.le_of_ble_eq_true rfl)) dL_rain_5 ⟨Nat.le_of_ble_eq_true rfl, Nat.le_of_ble_eq_true rfl⟩) hP hD hS hA [0] [] rfl rfl (by decide) (by decide) hown [] ⟨0, 10, 13, 21⟩ [] htab (fun z hz => by cases hz) rfl (by decide) (hts _ q512) hX.1.1.2.1 (fun q9 H locs hP hD hS => ?_)
  have hP : va_P D vwCl [] H := hP
  have hD : va_D A [] := hD
  refine W.widen (k := 1) (n := 6) (by omega) (by omega) ?_
  refine lv_astore (lv' := [(4, .ref q9), (0, .ref h0), (1, .int a1), (2, .int a2), (3, .ref o1)]) hx hb dL_rain_13 hl (by decide) rfl (fun ls hl => ?_)
  refine lv_iconst (v := 1) hx hb dL_rain_15 (by decide) ?_
  have hP9 := hP.sub (ws' := []) [] rfl
  have hD9 := hD.sub (ws' := []) [] (by decide) rfl
  refine W.widen (k := 1) (n := 6) (Nat.le_of_ble_eq_true rfl) (Nat.le_of_ble_eq_true rfl) ?_
  rw [hQe]
  exact W.iret (v := 1) hx hb hr (fun t ht hW => ⟨⟨1, (), rfl, rfl, ⟨by rw [ht]; exact hP9, hD9⟩⟩, hS.F ht⟩) hS.2.2 dL_rain_16
set_option maxHeartbeats 4000000 in
set_option maxRecDepth 100000 in
/-- the law's call of water: it answers -/
theorem w_water_ok (l : Launch) (hlt : l.stackTraces = false) (D : va_G) (cy : Nat → ClassId) (h0 : Nat) (vC : Nat) (vP : Nat) (vT : Nat) (vS : Nat) (vF : Nat) (vN : Nat) (vY : Nat) (l1 : Nat) (l2 : Nat) (k : Nat) (o1 : Nat) (sz : Nat) (hk : k < 401) : Met l yL_water (wzW yL_water cL_water 4 (some .int) [(0, 9, 12, 21)]) ({ frames := 2, cells := 0, slots := 0, locals := 43 } : Room) (va_Pc [.ref h0, .int (nI k), .ref o1] (zPre vwCl D cy [(h0, .inr (12, [.ref vC, .ref vP, .ref vT, .ref vS, .ref vF, .ref vN, .ref vY, .int 0])), (vF, .inr (4, [.ref l1, .ref l2])), (l1, .inl (cy 0, 200, .inl (fun _ => 0))), (l2, .inl (cy 0, 401, .inl (fun _ => 0))), (o1, .inl (cy 1, 1, .inr (.inl (fun _ => 0))))] sz)) (va_Qi (fun (r : Int32) (_ : Unit) => r = 0) (fun (u : Unit) t => zPost vwCl D (va_A [(h0, .inr (12, [.ref vC, .ref vP, .ref vT, .ref vS, .ref vF, .ref vN, .ref vY, .int 0])), (vF, .inr (4, [.ref l1, .ref l2])), (l1, .inl (cy 0, 200, .inl (fun _ => 0))), (l2, .inl (cy 0, 401, .inl (fun _ => 0))), (o1, .inl (cy 1, 1, .inr (.inl (fun _ => 0))))] sz) [(o1, .inl (cy 1, 1, .inr (.inl (fun _ => 0))))] t) (va_A [(h0, .inr (12, [.ref vC, .ref vP, .ref vT, .ref vS, .ref vF, .ref vN, .ref vY, .int 0])), (vF, .inr (4, [.ref l1, .ref l2])), (l1, .inl (cy 0, 200, .inl (fun _ => 0))), (l2, .inl (cy 0, 401, .inl (fun _ => 0))), (o1, .inl (cy 1, 1, .inr (.inl (fun _ => 0))))] sz)) 0 0 (va_A [(h0, .inr (12, [.ref vC, .ref vP, .ref vT, .ref vS, .ref vF, .ref vN, .ref vY, .int 0])), (vF, .inr (4, [.ref l1, .ref l2])), (l1, .inl (cy 0, 200, .inl (fun _ => 0))), (l2, .inl (cy 0, 401, .inl (fun _ => 0))), (o1, .inl (cy 1, 1, .inr (.inl (fun _ => 0))))] sz) := by
  refine va_MetW (cc := cL_water) (maxL := 4) (ret := (some .int)) (hh := [(0, 9, 12, 21)]) (by decide) rfl ?_
  intro p e s m args below meth c s₁ B hml hv
  obtain ⟨rfl, hsz, hP, hK, hD0, hX, hY⟩ := hv
  have hx := B.exec
  have hb := B.bytes
  have hr := B.returns
  have hts0 := atoms_spec (ws := wzW yL_water cL_water 4 (some .int) [(0, 9, 12, 21)]) B.pre
  have hts : ∀ w ∈ wAll, w.before _ s = true := fun w h => hts0 w (List.mem_cons_of_mem _ h)
  have hown : s.vm.findClass RL = some m.cls := findClass_of_methodNamed B.named
  have hlocks := B.notSynchronized
  have htab := vx_table (x := yL_water) B (hts0 _ List.mem_cons_self)
  subst hsz
  have hD := hD0.self (sz := s.heap.size)
  generalize hAe : va_A [(h0, .inr (12, [.ref vC, .ref vP, .ref vT, .ref vS, .ref vF, .ref vN, .ref vY, .int 0])), (vF, .inr (4, [.ref l1, .ref l2])), (l1, .inl (cy 0, 200, .inl (fun _ => 0))), (l2, .inl (cy 0, 401, .inl (fun _ => 0))), (o1, .inl (cy 1, 1, .inr (.inl (fun _ => 0))))] s.heap.size = A at hD hY ⊢
  have hA : ∀ q : Nat, s.heap.size ≤ q → A q := fun q h => by rw [← hAe]; exact Or.inr h
  have hS : va_S A s.heap s.heap [] := va_S.rf
  have hP : va_P D vwCl [(h0, .inr (12, [.ref vC, .ref vP, .ref vT, .ref vS, .ref vF, .ref vN, .ref vY, .int 0])), (vF, .inr (4, [.ref l1, .ref l2])), (l1, .inl (cy 0, 200, .inl (fun _ => 0))), (l2, .inl (cy 0, 401, .inl (fun _ => 0))), (o1, .inl (cy 1, 1, .inr (.inl (fun _ => 0))))] s.heap := hP
  have hl := lv_entry ([.ref h0, .int (nI k), .ref o1]) (n := 4) (Nat.le_of_ble_eq_true rfl)
  rw [lg_entry_eq]
  generalize (lg_sl ([.ref h0, .int (nI k), .ref o1]) ++ List.replicate (4 - (lg_sl ([.ref h0, .int (nI k), .ref o1])).length) Slot.unset).toArray = ls at hl ⊢
  have hl : lv_has ls 4 [(0, .ref h0), (1, .int (nI k)), (2, .ref o1)] := hl
  refine z_anyQ (fun Q hQe => ?_)
  refine lv_aload_n hx hb dL_water_0 rfl (lv_at hl 2 rfl) ?_
  refine lv_iconst (v := 0) hx hb dL_water_1 (by decide) ?_
  refine lv_aload_n hx hb dL_water_2 rfl (lv_at hl 0 rfl) ?_
  refine lv_iload_n hx hb dL_water_3 rfl (lv_at hl 1 rfl) ?_
  refine zq_i (wc := [(h0, .inr (12, [.ref vC, .ref vP, .ref vT, .ref vS, .ref vF, .ref vN, .ref vY, .int 0])), (vF, .inr (4, [.ref l1, .ref l2])), (l1, .inl (cy 0, 200, .inl (fun _ => 0))), (l2, .inl (cy 0, 401, .inl (fun _ => 0)))]) (wr := [(o1, .inl (cy 1, 1, .inr (.inl (fun _ => 0))))]) (va_runV (As := [.int (nI k)]) (rest := [.int 0, .ref o1]) ⟨hx, hb, hml, hown, hts⟩ (f_water_ok l D cy h0 vC vP vT vS vF vN vY l1 l2 k s.heap.size hk) (cwV 1 hts (gzV (gz q548) q547 q549 q550 q174) rfl rfl rfl vX9_water ⟨Nat.le_of_ble_eq_true rfl, Nat.le_of_ble_eq_true rfl⟩) (zpV (ci := 12) (T := TX9) (N := 8) (q0 := 0) hK hX hY hP hD hS hA [0, 1, 2, 3] (by decide) rfl rfl rfl) rfl rfl hl.1 rfl (lv_room (Nat.le_of_ble_eq_true rfl)) dL_water_4 ⟨Nat.le_of_ble_eq_true rfl, Nat.le_of_ble_eq_true rfl⟩) hP hD hS hA [0, 1, 2, 3] [4] rfl rfl (by decide) (by decide) (fun x2 u1 H locs hw hP hD hS => ?_)
  obtain rfl : x2 = 0 := hw
  have hP : va_P D vwCl [(o1, .inl (cy 1, 1, .inr (.inl (fun _ => 0))))] H := hP
  have hD : va_D A [(o1, .inl (cy 1, 1, .inr (.inl (fun _ => 0))))] := hD
  refine lv_i2l (v := 0) hx hb dL_water_7 (by decide) ?_
  refine va_last hx hb hK hP hD hS 0 1 rfl rfl (z_in 0 (by decide) (by decide)) dL_water_8 (fun H locs hP hD hS => ?_)
  have hP : va_P D vwCl [(o1, .inl (cy 1, 1, .inr (.inl (vp_updL (fun _ => 0) (0 : Int32).toNatClampNeg 0))))] H := hP
  have hD : va_D A [(o1, .inl (cy 1, 1, .inr (.inl (vp_updL (fun _ => 0) (0 : Int32).toNatClampNeg 0))))] := hD
  refine lv_goto (tgt := 15) hx hb dL_water_9 (by decide) ?_
  obtain ⟨hP, hD⟩ := zP_l (fun _ => 0) hP hD (q := 0) rfl (z_one rfl)
  have hP : va_P D vwCl [(o1, .inl (cy 1, 1, .inr (.inl (fun _ => 0))))] H := hP
  have hD : va_D A [(o1, .inl (cy 1, 1, .inr (.inl (fun _ => 0))))] := hD
  refine lv_iconst (v := 0) hx hb dL_water_15 (by decide) ?_
  have hP9 := hP.sub (ws' := [(o1, .inl (cy 1, 1, .inr (.inl (fun _ => 0))))]) [0] rfl
  have hD9 := hD.sub (ws' := [(o1, .inl (cy 1, 1, .inr (.inl (fun _ => 0))))]) [0] (by decide) rfl
  refine W.widen (k := 0) (n := 0) (Nat.le_of_ble_eq_true rfl) (Nat.le_of_ble_eq_true rfl) ?_
  rw [hQe]
  exact W.iret (v := 0) hx hb hr (fun t ht hW => ⟨⟨0, (), rfl, rfl, ⟨by rw [ht]; exact hP9, hD9⟩⟩, hS.F ht⟩) hS.2.2 dL_water_16
set_option maxHeartbeats 4000000 in
set_option maxRecDepth 100000 in
/-- the law's call of water: it throws -/
theorem w_water_no (l : Launch) (hlt : l.stackTraces = false) (D : va_G) (cy : Nat → ClassId) (h0 : Nat) (vC : Nat) (vP : Nat) (vT : Nat) (vS : Nat) (vF : Nat) (vN : Nat) (vY : Nat) (a1 : Int32) (o1 : Nat) (sz : Nat) (hq0 : a1 < 0 ∨ ¬ a1 ≤ 400) : Met l yL_water (wzW yL_water cL_water 4 (some .int) [(0, 9, 12, 21)]) ({ frames := 8, cells := 1, slots := 6, locals := 125 } : Room) (va_Pc [.ref h0, .int a1, .ref o1] (zPre vwCl D cy [(h0, .inr (12, [.ref vC, .ref vP, .ref vT, .ref vS, .ref vF, .ref vN, .ref vY, .int 0]))] sz)) (va_Qi (fun (r : Int32) (_ : Unit) => r = 1) (fun (u : Unit) t => zPost vwCl D (va_A [(h0, .inr (12, [.ref vC, .ref vP, .ref vT, .ref vS, .ref vF, .ref vN, .ref vY, .int 0]))] sz) [] t) (va_A [(h0, .inr (12, [.ref vC, .ref vP, .ref vT, .ref vS, .ref vF, .ref vN, .ref vY, .int 0]))] sz)) 1 6 (va_A [(h0, .inr (12, [.ref vC, .ref vP, .ref vT, .ref vS, .ref vF, .ref vN, .ref vY, .int 0]))] sz) := by
  refine va_MetW (cc := cL_water) (maxL := 4) (ret := (some .int)) (hh := [(0, 9, 12, 21)]) (by decide) rfl ?_
  intro p e s m args below meth c s₁ B hml hv
  obtain ⟨rfl, hsz, hP, hK, hD0, hX, hY⟩ := hv
  have hx := B.exec
  have hb := B.bytes
  have hr := B.returns
  have hts0 := atoms_spec (ws := wzW yL_water cL_water 4 (some .int) [(0, 9, 12, 21)]) B.pre
  have hts : ∀ w ∈ wAll, w.before _ s = true := fun w h => hts0 w (List.mem_cons_of_mem _ h)
  have hown : s.vm.findClass RL = some m.cls := findClass_of_methodNamed B.named
  have hlocks := B.notSynchronized
  have htab := vx_table (x := yL_water) B (hts0 _ List.mem_cons_self)
  subst hsz
  have hD := hD0.self (sz := s.heap.size)
  generalize hAe : va_A [(h0, .inr (12, [.ref vC, .ref vP, .ref vT, .ref vS, .ref vF, .ref vN, .ref vY, .int 0]))] s.heap.size = A at hD hY ⊢
  have hA : ∀ q : Nat, s.heap.size ≤ q → A q := fun q h => by rw [← hAe]; exact Or.inr h
  have hS : va_S A s.heap s.heap [] := va_S.rf
  have hP : va_P D vwCl [(h0, .inr (12, [.ref vC, .ref vP, .ref vT, .ref vS, .ref vF, .ref vN, .ref vY, .int 0]))] s.heap := hP
  have hl := lv_entry ([.ref h0, .int a1, .ref o1]) (n := 4) (Nat.le_of_ble_eq_true rfl)
  rw [lg_entry_eq]
  generalize (lg_sl ([.ref h0, .int a1, .ref o1]) ++ List.replicate (4 - (lg_sl ([.ref h0, .int a1, .ref o1])).length) Slot.unset).toArray = ls at hl ⊢
  have hl : lv_has ls 4 [(0, .ref h0), (1, .int a1), (2, .ref o1)] := hl
  refine z_anyQ (fun Q hQe => ?_)
  refine lv_aload_n hx hb dL_water_0 rfl (lv_at hl 2 rfl) ?_
  refine lv_iconst (v := 0) hx hb dL_water_1 (by decide) ?_
  refine lv_aload_n hx hb dL_water_2 rfl (lv_at hl 0 rfl) ?_
  refine lv_iload_n hx hb dL_water_3 rfl (lv_at hl 1 rfl) ?_
  refine zx_catch (wc := [(h0, .inr (12, [.ref vC, .ref vP, .ref vT, .ref vS, .ref vF, .ref vN, .ref vY, .int 0]))]) (wr := []) (vx_runV (As := [.int a1]) (rest := [.int 0, .ref o1]) ⟨hx, hb, hml, hown, hts⟩ (f_water_no l hlt D cy h0 vC vP vT vS vF vN vY a1 s.heap.size hq0) (cwV 1 hts (gzV (gz q548) q547 q549 q550 q174) rfl rfl rfl vX9_water ⟨Nat.le_of_ble_eq_true rfl, Nat.le_of_ble_eq_true rfl⟩) (zpV (ci := 12) (T := TX9) (N := 8) (q0 := 0) hK hX hY hP hD hS hA [0] (by decide) rfl rfl rfl) rfl rfl hl.1 rfl (lv_room (Nat.le_of_ble_eq_true rfl)) dL_water_4 ⟨Nat.le_of_ble_eq_true rfl, Nat.le_of_ble_eq_true rfl⟩) hP hD hS hA [0] [] rfl rfl (by decide) (by decide) hown [] ⟨0, 9, 12, 21⟩ [] htab (fun z hz => by cases hz) rfl (by decide) (hts _ q512) hX.1.1.2.1 (fun q9 H locs hP hD hS => ?_)
  have hP : va_P D vwCl [] H := hP
  have hD : va_D A [] := hD
  refine W.widen (k := 1) (n := 6) (by omega) (by omega) ?_
  refine lv_astore_n (lv' := [(3, .ref q9), (0, .ref h0), (1, .int a1), (2, .ref o1)]) hx hb dL_water_12 rfl hl (by decide) rfl (fun ls hl => ?_)
  refine lv_iconst (v := 1) hx hb dL_water_13 (by decide) ?_
  have hP9 := hP.sub (ws' := []) [] rfl
  have hD9 := hD.sub (ws' := []) [] (by decide) rfl
  refine W.widen (k := 1) (n := 6) (Nat.le_of_ble_eq_true rfl) (Nat.le_of_ble_eq_true rfl) ?_
  rw [hQe]
  exact W.iret (v := 1) hx hb hr (fun t ht hW => ⟨⟨1, (), rfl, rfl, ⟨by rw [ht]; exact hP9, hD9⟩⟩, hS.F ht⟩) hS.2.2 dL_water_14
