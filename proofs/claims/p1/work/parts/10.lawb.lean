theorem vL_go : yL_go.cls = RL ∧ yL_go.cls ≠ "java/lang/invoke/MethodHandle" ∧ yL_go.cls ≠ "java/lang/invoke/VarHandle" ∧ (parseMethodDescriptor yL_go.desc).map (fun d => d.parameters.length) = some 4 := by decide +kernel
theorem vL_hourOf : yL_hourOf.cls = RL ∧ yL_hourOf.cls ≠ "java/lang/invoke/MethodHandle" ∧ yL_hourOf.cls ≠ "java/lang/invoke/VarHandle" ∧ (parseMethodDescriptor yL_hourOf.desc).map (fun d => d.parameters.length) = some 3 := by decide +kernel
theorem vL_hungShare : yL_hungShare.cls = RL ∧ yL_hungShare.cls ≠ "java/lang/invoke/MethodHandle" ∧ yL_hungShare.cls ≠ "java/lang/invoke/VarHandle" ∧ (parseMethodDescriptor yL_hungShare.desc).map (fun d => d.parameters.length) = some 3 := by decide +kernel
theorem vL_isClosed : yL_isClosed.cls = RL ∧ yL_isClosed.cls ≠ "java/lang/invoke/MethodHandle" ∧ yL_isClosed.cls ≠ "java/lang/invoke/VarHandle" ∧ (parseMethodDescriptor yL_isClosed.desc).map (fun d => d.parameters.length) = some 4 := by decide +kernel
theorem vL_isSound : yL_isSound.cls = RL ∧ yL_isSound.cls ≠ "java/lang/invoke/MethodHandle" ∧ yL_isSound.cls ≠ "java/lang/invoke/VarHandle" ∧ (parseMethodDescriptor yL_isSound.desc).map (fun d => d.parameters.length) = some 3 := by decide +kernel
theorem vL_knows : yL_knows.cls = RL ∧ yL_knows.cls ≠ "java/lang/invoke/MethodHandle" ∧ yL_knows.cls ≠ "java/lang/invoke/VarHandle" ∧ (parseMethodDescriptor yL_knows.desc).map (fun d => d.parameters.length) = some 4 := by decide +kernel
theorem vL_lastChance : yL_lastChance.cls = RL ∧ yL_lastChance.cls ≠ "java/lang/invoke/MethodHandle" ∧ yL_lastChance.cls ≠ "java/lang/invoke/VarHandle" ∧ (parseMethodDescriptor yL_lastChance.desc).map (fun d => d.parameters.length) = some 3 := by decide +kernel
theorem vL_meanRain : yL_meanRain.cls = RL ∧ yL_meanRain.cls ≠ "java/lang/invoke/MethodHandle" ∧ yL_meanRain.cls ≠ "java/lang/invoke/VarHandle" ∧ (parseMethodDescriptor yL_meanRain.desc).map (fun d => d.parameters.length) = some 2 := by decide +kernel
theorem vL_party : yL_party.cls = RL ∧ yL_party.cls ≠ "java/lang/invoke/MethodHandle" ∧ yL_party.cls ≠ "java/lang/invoke/VarHandle" ∧ (parseMethodDescriptor yL_party.desc).map (fun d => d.parameters.length) = some 3 := by decide +kernel
theorem vL_pause : yL_pause.cls = RL ∧ yL_pause.cls ≠ "java/lang/invoke/MethodHandle" ∧ yL_pause.cls ≠ "java/lang/invoke/VarHandle" ∧ (parseMethodDescriptor yL_pause.desc).map (fun d => d.parameters.length) = some 4 := by decide +kernel
theorem vL_peak : yL_peak.cls = RL ∧ yL_peak.cls ≠ "java/lang/invoke/MethodHandle" ∧ yL_peak.cls ≠ "java/lang/invoke/VarHandle" ∧ (parseMethodDescriptor yL_peak.desc).map (fun d => d.parameters.length) = some 3 := by decide +kernel
theorem vL_placeOf : yL_placeOf.cls = RL ∧ yL_placeOf.cls ≠ "java/lang/invoke/MethodHandle" ∧ yL_placeOf.cls ≠ "java/lang/invoke/VarHandle" ∧ (parseMethodDescriptor yL_placeOf.desc).map (fun d => d.parameters.length) = some 3 := by decide +kernel
theorem vL_plan : yL_plan.cls = RL ∧ yL_plan.cls ≠ "java/lang/invoke/MethodHandle" ∧ yL_plan.cls ≠ "java/lang/invoke/VarHandle" ∧ (parseMethodDescriptor yL_plan.desc).map (fun d => d.parameters.length) = some 3 := by decide +kernel
theorem vL_planAt : yL_planAt.cls = RL ∧ yL_planAt.cls ≠ "java/lang/invoke/MethodHandle" ∧ yL_planAt.cls ≠ "java/lang/invoke/VarHandle" ∧ (parseMethodDescriptor yL_planAt.desc).map (fun d => d.parameters.length) = some 4 := by decide +kernel
theorem vL_rain : yL_rain.cls = RL ∧ yL_rain.cls ≠ "java/lang/invoke/MethodHandle" ∧ yL_rain.cls ≠ "java/lang/invoke/VarHandle" ∧ (parseMethodDescriptor yL_rain.desc).map (fun d => d.parameters.length) = some 4 := by decide +kernel
theorem vL_sump : yL_sump.cls = RL ∧ yL_sump.cls ≠ "java/lang/invoke/MethodHandle" ∧ yL_sump.cls ≠ "java/lang/invoke/VarHandle" ∧ (parseMethodDescriptor yL_sump.desc).map (fun d => d.parameters.length) = some 4 := by decide +kernel
theorem vL_tell : yL_tell.cls = RL ∧ yL_tell.cls ≠ "java/lang/invoke/MethodHandle" ∧ yL_tell.cls ≠ "java/lang/invoke/VarHandle" ∧ (parseMethodDescriptor yL_tell.desc).map (fun d => d.parameters.length) = some 4 := by decide +kernel
theorem vL_water : yL_water.cls = RL ∧ yL_water.cls ≠ "java/lang/invoke/MethodHandle" ∧ yL_water.cls ≠ "java/lang/invoke/VarHandle" ∧ (parseMethodDescriptor yL_water.desc).map (fun d => d.parameters.length) = some 3 := by decide +kernel
theorem vX14_allSteps : yX14_allSteps.cls = RX14 ∧ yX14_allSteps.cls ≠ "java/lang/invoke/MethodHandle" ∧ yX14_allSteps.cls ≠ "java/lang/invoke/VarHandle" ∧ (parseMethodDescriptor yX14_allSteps.desc).map (fun d => d.parameters.length) = some 0 := by decide +kernel
theorem vX14_go : yX14_go.cls = RX14 ∧ yX14_go.cls ≠ "java/lang/invoke/MethodHandle" ∧ yX14_go.cls ≠ "java/lang/invoke/VarHandle" ∧ (parseMethodDescriptor yX14_go.desc).map (fun d => d.parameters.length) = some 2 := by decide +kernel
theorem vX14_hourOf : yX14_hourOf.cls = RX14 ∧ yX14_hourOf.cls ≠ "java/lang/invoke/MethodHandle" ∧ yX14_hourOf.cls ≠ "java/lang/invoke/VarHandle" ∧ (parseMethodDescriptor yX14_hourOf.desc).map (fun d => d.parameters.length) = some 1 := by decide +kernel
theorem vX14_hungShare : yX14_hungShare.cls = RX14 ∧ yX14_hungShare.cls ≠ "java/lang/invoke/MethodHandle" ∧ yX14_hungShare.cls ≠ "java/lang/invoke/VarHandle" ∧ (parseMethodDescriptor yX14_hungShare.desc).map (fun d => d.parameters.length) = some 1 := by decide +kernel
theorem vX14_isClosed : yX14_isClosed.cls = RX14 ∧ yX14_isClosed.cls ≠ "java/lang/invoke/MethodHandle" ∧ yX14_isClosed.cls ≠ "java/lang/invoke/VarHandle" ∧ (parseMethodDescriptor yX14_isClosed.desc).map (fun d => d.parameters.length) = some 2 := by decide +kernel
theorem vX14_isSound : yX14_isSound.cls = RX14 ∧ yX14_isSound.cls ≠ "java/lang/invoke/MethodHandle" ∧ yX14_isSound.cls ≠ "java/lang/invoke/VarHandle" ∧ (parseMethodDescriptor yX14_isSound.desc).map (fun d => d.parameters.length) = some 1 := by decide +kernel
theorem vX14_knows : yX14_knows.cls = RX14 ∧ yX14_knows.cls ≠ "java/lang/invoke/MethodHandle" ∧ yX14_knows.cls ≠ "java/lang/invoke/VarHandle" ∧ (parseMethodDescriptor yX14_knows.desc).map (fun d => d.parameters.length) = some 2 := by decide +kernel
theorem vX14_lastChance : yX14_lastChance.cls = RX14 ∧ yX14_lastChance.cls ≠ "java/lang/invoke/MethodHandle" ∧ yX14_lastChance.cls ≠ "java/lang/invoke/VarHandle" ∧ (parseMethodDescriptor yX14_lastChance.desc).map (fun d => d.parameters.length) = some 1 := by decide +kernel
theorem vX14_meanRain : yX14_meanRain.cls = RX14 ∧ yX14_meanRain.cls ≠ "java/lang/invoke/MethodHandle" ∧ yX14_meanRain.cls ≠ "java/lang/invoke/VarHandle" ∧ (parseMethodDescriptor yX14_meanRain.desc).map (fun d => d.parameters.length) = some 0 := by decide +kernel
theorem vX14_party : yX14_party.cls = RX14 ∧ yX14_party.cls ≠ "java/lang/invoke/MethodHandle" ∧ yX14_party.cls ≠ "java/lang/invoke/VarHandle" ∧ (parseMethodDescriptor yX14_party.desc).map (fun d => d.parameters.length) = some 1 := by decide +kernel
theorem vX14_pause : yX14_pause.cls = RX14 ∧ yX14_pause.cls ≠ "java/lang/invoke/MethodHandle" ∧ yX14_pause.cls ≠ "java/lang/invoke/VarHandle" ∧ (parseMethodDescriptor yX14_pause.desc).map (fun d => d.parameters.length) = some 2 := by decide +kernel
theorem vX14_peak : yX14_peak.cls = RX14 ∧ yX14_peak.cls ≠ "java/lang/invoke/MethodHandle" ∧ yX14_peak.cls ≠ "java/lang/invoke/VarHandle" ∧ (parseMethodDescriptor yX14_peak.desc).map (fun d => d.parameters.length) = some 1 := by decide +kernel
theorem vX14_placeOf : yX14_placeOf.cls = RX14 ∧ yX14_placeOf.cls ≠ "java/lang/invoke/MethodHandle" ∧ yX14_placeOf.cls ≠ "java/lang/invoke/VarHandle" ∧ (parseMethodDescriptor yX14_placeOf.desc).map (fun d => d.parameters.length) = some 1 := by decide +kernel
theorem vX14_plan : yX14_plan.cls = RX14 ∧ yX14_plan.cls ≠ "java/lang/invoke/MethodHandle" ∧ yX14_plan.cls ≠ "java/lang/invoke/VarHandle" ∧ (parseMethodDescriptor yX14_plan.desc).map (fun d => d.parameters.length) = some 1 := by decide +kernel
theorem vX14_planAt : yX14_planAt.cls = RX14 ∧ yX14_planAt.cls ≠ "java/lang/invoke/MethodHandle" ∧ yX14_planAt.cls ≠ "java/lang/invoke/VarHandle" ∧ (parseMethodDescriptor yX14_planAt.desc).map (fun d => d.parameters.length) = some 2 := by decide +kernel
theorem vX14_rain : yX14_rain.cls = RX14 ∧ yX14_rain.cls ≠ "java/lang/invoke/MethodHandle" ∧ yX14_rain.cls ≠ "java/lang/invoke/VarHandle" ∧ (parseMethodDescriptor yX14_rain.desc).map (fun d => d.parameters.length) = some 2 := by decide +kernel
theorem vX14_shots : yX14_shots.cls = RX14 ∧ yX14_shots.cls ≠ "java/lang/invoke/MethodHandle" ∧ yX14_shots.cls ≠ "java/lang/invoke/VarHandle" ∧ (parseMethodDescriptor yX14_shots.desc).map (fun d => d.parameters.length) = some 0 := by decide +kernel
theorem vX14_stations : yX14_stations.cls = RX14 ∧ yX14_stations.cls ≠ "java/lang/invoke/MethodHandle" ∧ yX14_stations.cls ≠ "java/lang/invoke/VarHandle" ∧ (parseMethodDescriptor yX14_stations.desc).map (fun d => d.parameters.length) = some 0 := by decide +kernel
theorem vX14_sump : yX14_sump.cls = RX14 ∧ yX14_sump.cls ≠ "java/lang/invoke/MethodHandle" ∧ yX14_sump.cls ≠ "java/lang/invoke/VarHandle" ∧ (parseMethodDescriptor yX14_sump.desc).map (fun d => d.parameters.length) = some 2 := by decide +kernel
theorem vX14_tell : yX14_tell.cls = RX14 ∧ yX14_tell.cls ≠ "java/lang/invoke/MethodHandle" ∧ yX14_tell.cls ≠ "java/lang/invoke/VarHandle" ∧ (parseMethodDescriptor yX14_tell.desc).map (fun d => d.parameters.length) = some 2 := by decide +kernel
theorem vX14_water : yX14_water.cls = RX14 ∧ yX14_water.cls ≠ "java/lang/invoke/MethodHandle" ∧ yX14_water.cls ≠ "java/lang/invoke/VarHandle" ∧ (parseMethodDescriptor yX14_water.desc).map (fun d => d.parameters.length) = some 1 := by decide +kernel
theorem vX9_allSteps : yX9_allSteps.cls = RX9 ∧ yX9_allSteps.cls ≠ "java/lang/invoke/MethodHandle" ∧ yX9_allSteps.cls ≠ "java/lang/invoke/VarHandle" ∧ (parseMethodDescriptor yX9_allSteps.desc).map (fun d => d.parameters.length) = some 0 := by decide +kernel
theorem vX9_shots : yX9_shots.cls = RX9 ∧ yX9_shots.cls ≠ "java/lang/invoke/MethodHandle" ∧ yX9_shots.cls ≠ "java/lang/invoke/VarHandle" ∧ (parseMethodDescriptor yX9_shots.desc).map (fun d => d.parameters.length) = some 0 := by decide +kernel
theorem vX9_stations : yX9_stations.cls = RX9 ∧ yX9_stations.cls ≠ "java/lang/invoke/MethodHandle" ∧ yX9_stations.cls ≠ "java/lang/invoke/VarHandle" ∧ (parseMethodDescriptor yX9_stations.desc).map (fun d => d.parameters.length) = some 0 := by decide +kernel
theorem q693 : Cond.methodLink RL 211 yL_peak ∈ wAll := wIn (wT4 (List.mem_of_getElem? (i := 165) rfl)) rfl
theorem q694 : Cond.codeWith yL_peak cL_peak 4 (some .int) [(0, 9, 12, 19), (0, 9, 15, 42)] ∈ wAll := wIn (wT4 (List.mem_of_getElem? (i := 167) rfl)) rfl
theorem q695 : Cond.static yL_peak ∈ wAll := wIn (wT4 (List.mem_of_getElem? (i := 166) rfl)) rfl
theorem q696 : Cond.methodLink RL 213 yX14_peak ∈ wAll := wIn (wT7 (List.mem_of_getElem? (i := 156) rfl)) rfl
theorem q697 : Cond.code yX14_peak cX14_peak 2 (some .int) ∈ wAll := wIn (wT7 (List.mem_of_getElem? (i := 159) rfl)) rfl
theorem q698 : Cond.instanceMethod yX14_peak ∈ wAll := wIn (wT7 (List.mem_of_getElem? (i := 157) rfl)) rfl
theorem q699 : Cond.selects RX14 yX14_peak yX14_peak ∈ wAll := wIn (wT7 (List.mem_of_getElem? (i := 158) rfl)) rfl
theorem q700 : Cond.methodLink RL 214 yL_rain ∈ wAll := wIn (wT4 (List.mem_of_getElem? (i := 173) rfl)) rfl
theorem q701 : Cond.codeWith yL_rain cL_rain 5 (some .int) [(0, 10, 13, 21)] ∈ wAll := wIn (wT4 (List.mem_of_getElem? (i := 175) rfl)) rfl
theorem q702 : Cond.static yL_rain ∈ wAll := wIn (wT4 (List.mem_of_getElem? (i := 174) rfl)) rfl
theorem q703 : Cond.methodLink RL 216 yX14_rain ∈ wAll := wIn (wT7 (List.mem_of_getElem? (i := 160) rfl)) rfl
theorem q704 : Cond.code yX14_rain cX14_rain 4 (some .int) ∈ wAll := wIn (wT7 (List.mem_of_getElem? (i := 163) rfl)) rfl
theorem q705 : Cond.instanceMethod yX14_rain ∈ wAll := wIn (wT7 (List.mem_of_getElem? (i := 161) rfl)) rfl
theorem q706 : Cond.selects RX14 yX14_rain yX14_rain ∈ wAll := wIn (wT7 (List.mem_of_getElem? (i := 162) rfl)) rfl
theorem q707 : Cond.methodLink RL 217 yL_water ∈ wAll := wIn (wT4 (List.mem_of_getElem? (i := 185) rfl)) rfl
theorem q708 : Cond.codeWith yL_water cL_water 4 (some .int) [(0, 9, 12, 21)] ∈ wAll := wIn (wT4 (List.mem_of_getElem? (i := 187) rfl)) rfl
theorem q709 : Cond.static yL_water ∈ wAll := wIn (wT4 (List.mem_of_getElem? (i := 186) rfl)) rfl
theorem q710 : Cond.methodLink RL 219 yX14_water ∈ wAll := wIn (wT7 (List.mem_of_getElem? (i := 165) rfl)) rfl
theorem q711 : Cond.code yX14_water cX14_water 2 (some .int) ∈ wAll := wIn (wT7 (List.mem_of_getElem? (i := 168) rfl)) rfl
theorem q712 : Cond.instanceMethod yX14_water ∈ wAll := wIn (wT7 (List.mem_of_getElem? (i := 166) rfl)) rfl
theorem q713 : Cond.selects RX14 yX14_water yX14_water ∈ wAll := wIn (wT7 (List.mem_of_getElem? (i := 167) rfl)) rfl
theorem q714 : Cond.methodLink RL 220 yL_sump ∈ wAll := wIn (wT4 (List.mem_of_getElem? (i := 192) rfl)) rfl
theorem q715 : Cond.codeWith yL_sump cL_sump 5 (some .int) [(0, 10, 13, 19), (0, 10, 17, 21)] ∈ wAll := wIn (wT4 (List.mem_of_getElem? (i := 194) rfl)) rfl
theorem q716 : Cond.static yL_sump ∈ wAll := wIn (wT4 (List.mem_of_getElem? (i := 193) rfl)) rfl
theorem q717 : Cond.methodLink RL 222 yX14_sump ∈ wAll := wIn (wT7 (List.mem_of_getElem? (i := 174) rfl)) rfl
theorem q718 : Cond.code yX14_sump cX14_sump 4 (some .int) ∈ wAll := wIn (wT7 (List.mem_of_getElem? (i := 177) rfl)) rfl
theorem q719 : Cond.instanceMethod yX14_sump ∈ wAll := wIn (wT7 (List.mem_of_getElem? (i := 175) rfl)) rfl
theorem q720 : Cond.selects RX14 yX14_sump yX14_sump ∈ wAll := wIn (wT7 (List.mem_of_getElem? (i := 176) rfl)) rfl
theorem q721 : Cond.methodLink RL 223 yL_isClosed ∈ wAll := wIn (wT4 (List.mem_of_getElem? (i := 199) rfl)) rfl
theorem q722 : Cond.codeWith yL_isClosed cL_isClosed 5 (some .int) [(0, 17, 20, 19), (0, 17, 24, 21)] ∈ wAll := wIn (wT4 (List.mem_of_getElem? (i := 201) rfl)) rfl
theorem q723 : Cond.static yL_isClosed ∈ wAll := wIn (wT4 (List.mem_of_getElem? (i := 200) rfl)) rfl
theorem q724 : Cond.methodLink RL 225 yX14_isClosed ∈ wAll := wIn (wT7 (List.mem_of_getElem? (i := 178) rfl)) rfl
theorem q725 : Cond.code yX14_isClosed cX14_isClosed 3 (some .boolean) ∈ wAll := wIn (wT7 (List.mem_of_getElem? (i := 181) rfl)) rfl
theorem q726 : Cond.instanceMethod yX14_isClosed ∈ wAll := wIn (wT7 (List.mem_of_getElem? (i := 179) rfl)) rfl
theorem q727 : Cond.selects RX14 yX14_isClosed yX14_isClosed ∈ wAll := wIn (wT7 (List.mem_of_getElem? (i := 180) rfl)) rfl
theorem q728 : Cond.methodLink RL 226 yL_party ∈ wAll := wIn (wT4 (List.mem_of_getElem? (i := 210) rfl)) rfl
theorem q729 : Cond.codeWith yL_party cL_party 4 (some .int) [(0, 9, 12, 19), (0, 9, 15, 13)] ∈ wAll := wIn (wT4 (List.mem_of_getElem? (i := 212) rfl)) rfl
theorem q730 : Cond.static yL_party ∈ wAll := wIn (wT4 (List.mem_of_getElem? (i := 211) rfl)) rfl
theorem q731 : Cond.methodLink RL 228 yX14_party ∈ wAll := wIn (wT7 (List.mem_of_getElem? (i := 186) rfl)) rfl
theorem q732 : Cond.code yX14_party cX14_party 3 (some .int) ∈ wAll := wIn (wT7 (List.mem_of_getElem? (i := 189) rfl)) rfl
theorem q733 : Cond.instanceMethod yX14_party ∈ wAll := wIn (wT7 (List.mem_of_getElem? (i := 187) rfl)) rfl
theorem q734 : Cond.selects RX14 yX14_party yX14_party ∈ wAll := wIn (wT7 (List.mem_of_getElem? (i := 188) rfl)) rfl
theorem q735 : Cond.methodLink RL 229 yL_tell ∈ wAll := wIn (wT4 (List.mem_of_getElem? (i := 218) rfl)) rfl
theorem q736 : Cond.codeWith yL_tell cL_tell 5 (some .int) [(0, 10, 13, 19)] ∈ wAll := wIn (wT4 (List.mem_of_getElem? (i := 220) rfl)) rfl
theorem q737 : Cond.static yL_tell ∈ wAll := wIn (wT4 (List.mem_of_getElem? (i := 219) rfl)) rfl
theorem q738 : Cond.methodLink RL 231 yX14_tell ∈ wAll := wIn (wT7 (List.mem_of_getElem? (i := 207) rfl)) rfl
theorem q739 : Cond.code yX14_tell cX14_tell 3 (some .int) ∈ wAll := wIn (wT7 (List.mem_of_getElem? (i := 210) rfl)) rfl
theorem q740 : Cond.instanceMethod yX14_tell ∈ wAll := wIn (wT7 (List.mem_of_getElem? (i := 208) rfl)) rfl
theorem q741 : Cond.selects RX14 yX14_tell yX14_tell ∈ wAll := wIn (wT7 (List.mem_of_getElem? (i := 209) rfl)) rfl
theorem q742 : Cond.methodLink RL 232 yL_knows ∈ wAll := wIn (wT5 (List.mem_of_getElem? (i := 0) rfl)) rfl
theorem q743 : Cond.codeWith yL_knows cL_knows 5 (some .int) [(0, 17, 20, 19)] ∈ wAll := wIn (wT5 (List.mem_of_getElem? (i := 2) rfl)) rfl
theorem q744 : Cond.static yL_knows ∈ wAll := wIn (wT5 (List.mem_of_getElem? (i := 1) rfl)) rfl
theorem q745 : Cond.methodLink RL 234 yX14_knows ∈ wAll := wIn (wT7 (List.mem_of_getElem? (i := 219) rfl)) rfl
theorem q746 : Cond.code yX14_knows cX14_knows 3 (some .boolean) ∈ wAll := wIn (wT7 (List.mem_of_getElem? (i := 222) rfl)) rfl
theorem q747 : Cond.instanceMethod yX14_knows ∈ wAll := wIn (wT7 (List.mem_of_getElem? (i := 220) rfl)) rfl
theorem q748 : Cond.selects RX14 yX14_knows yX14_knows ∈ wAll := wIn (wT7 (List.mem_of_getElem? (i := 221) rfl)) rfl
theorem q749 : Cond.methodLink RL 235 yL_go ∈ wAll := wIn (wT5 (List.mem_of_getElem? (i := 11) rfl)) rfl
theorem q750 : Cond.codeWith yL_go cL_go 5 (some .int) [(0, 10, 13, 19), (0, 10, 17, 71), (0, 10, 21, 13)] ∈ wAll := wIn (wT5 (List.mem_of_getElem? (i := 13) rfl)) rfl
theorem q751 : Cond.static yL_go ∈ wAll := wIn (wT5 (List.mem_of_getElem? (i := 12) rfl)) rfl
theorem q752 : Cond.methodLink RL 237 yX14_go ∈ wAll := wIn (wT7 (List.mem_of_getElem? (i := 223) rfl)) rfl
theorem q753 : Cond.code yX14_go cX14_go 5 (some .int) ∈ wAll := wIn (wT7 (List.mem_of_getElem? (i := 226) rfl)) rfl
theorem q754 : Cond.instanceMethod yX14_go ∈ wAll := wIn (wT7 (List.mem_of_getElem? (i := 224) rfl)) rfl
theorem q755 : Cond.selects RX14 yX14_go yX14_go ∈ wAll := wIn (wT7 (List.mem_of_getElem? (i := 225) rfl)) rfl
theorem q756 : Cond.methodLink RL 238 yL_pause ∈ wAll := wIn (wT5 (List.mem_of_getElem? (i := 31) rfl)) rfl
theorem q757 : Cond.codeWith yL_pause cL_pause 5 (some .int) [(0, 10, 13, 19), (0, 10, 17, 21)] ∈ wAll := wIn (wT5 (List.mem_of_getElem? (i := 33) rfl)) rfl
theorem q758 : Cond.static yL_pause ∈ wAll := wIn (wT5 (List.mem_of_getElem? (i := 32) rfl)) rfl
theorem q759 : Cond.methodLink RL 240 yX14_pause ∈ wAll := wIn (wT7 (List.mem_of_getElem? (i := 231) rfl)) rfl
theorem q760 : Cond.code yX14_pause cX14_pause 3 (some .int) ∈ wAll := wIn (wT7 (List.mem_of_getElem? (i := 234) rfl)) rfl
theorem q761 : Cond.instanceMethod yX14_pause ∈ wAll := wIn (wT7 (List.mem_of_getElem? (i := 232) rfl)) rfl
theorem q762 : Cond.selects RX14 yX14_pause yX14_pause ∈ wAll := wIn (wT7 (List.mem_of_getElem? (i := 233) rfl)) rfl
theorem q763 : Cond.methodLink RL 241 yL_placeOf ∈ wAll := wIn (wT5 (List.mem_of_getElem? (i := 38) rfl)) rfl
theorem q764 : Cond.codeWith yL_placeOf cL_placeOf 4 (some .int) [(0, 9, 12, 19)] ∈ wAll := wIn (wT5 (List.mem_of_getElem? (i := 40) rfl)) rfl
theorem q765 : Cond.static yL_placeOf ∈ wAll := wIn (wT5 (List.mem_of_getElem? (i := 39) rfl)) rfl
theorem q766 : Cond.methodLink RL 243 yX14_placeOf ∈ wAll := wIn (wT7 (List.mem_of_getElem? (i := 236) rfl)) rfl
theorem q767 : Cond.code yX14_placeOf cX14_placeOf 2 (some .int) ∈ wAll := wIn (wT7 (List.mem_of_getElem? (i := 239) rfl)) rfl
theorem q768 : Cond.instanceMethod yX14_placeOf ∈ wAll := wIn (wT7 (List.mem_of_getElem? (i := 237) rfl)) rfl
theorem q769 : Cond.selects RX14 yX14_placeOf yX14_placeOf ∈ wAll := wIn (wT7 (List.mem_of_getElem? (i := 238) rfl)) rfl
theorem q770 : Cond.methodLink RL 244 yL_hourOf ∈ wAll := wIn (wT5 (List.mem_of_getElem? (i := 45) rfl)) rfl
theorem q771 : Cond.codeWith yL_hourOf cL_hourOf 4 (some .int) [(0, 9, 12, 19)] ∈ wAll := wIn (wT5 (List.mem_of_getElem? (i := 47) rfl)) rfl
theorem q772 : Cond.static yL_hourOf ∈ wAll := wIn (wT5 (List.mem_of_getElem? (i := 46) rfl)) rfl
theorem q773 : Cond.methodLink RL 246 yX14_hourOf ∈ wAll := wIn (wT8 (List.mem_of_getElem? (i := 0) rfl)) rfl
theorem q774 : Cond.code yX14_hourOf cX14_hourOf 2 (some .int) ∈ wAll := wIn (wT8 (List.mem_of_getElem? (i := 3) rfl)) rfl
theorem q775 : Cond.instanceMethod yX14_hourOf ∈ wAll := wIn (wT8 (List.mem_of_getElem? (i := 1) rfl)) rfl
theorem q776 : Cond.selects RX14 yX14_hourOf yX14_hourOf ∈ wAll := wIn (wT8 (List.mem_of_getElem? (i := 2) rfl)) rfl
theorem q777 : Cond.methodLink RL 247 yL_plan ∈ wAll := wIn (wT5 (List.mem_of_getElem? (i := 52) rfl)) rfl
theorem q778 : Cond.codeWith yL_plan cL_plan 4 (some .int) [(0, 9, 12, 19), (0, 9, 15, 42)] ∈ wAll := wIn (wT5 (List.mem_of_getElem? (i := 54) rfl)) rfl
theorem q779 : Cond.static yL_plan ∈ wAll := wIn (wT5 (List.mem_of_getElem? (i := 53) rfl)) rfl
theorem q780 : Cond.methodLink RL 249 yX14_plan ∈ wAll := wIn (wT8 (List.mem_of_getElem? (i := 4) rfl)) rfl
theorem q781 : Cond.code yX14_plan cX14_plan 2 (some .int) ∈ wAll := wIn (wT8 (List.mem_of_getElem? (i := 7) rfl)) rfl
theorem q782 : Cond.instanceMethod yX14_plan ∈ wAll := wIn (wT8 (List.mem_of_getElem? (i := 5) rfl)) rfl
theorem q783 : Cond.selects RX14 yX14_plan yX14_plan ∈ wAll := wIn (wT8 (List.mem_of_getElem? (i := 6) rfl)) rfl
theorem q784 : Cond.methodLink RL 250 yL_planAt ∈ wAll := wIn (wT5 (List.mem_of_getElem? (i := 86) rfl)) rfl
theorem q785 : Cond.codeWith yL_planAt cL_planAt 5 (some .int) [(0, 10, 13, 19), (0, 10, 17, 42), (0, 10, 21, 21)] ∈ wAll := wIn (wT5 (List.mem_of_getElem? (i := 88) rfl)) rfl
theorem q786 : Cond.static yL_planAt ∈ wAll := wIn (wT5 (List.mem_of_getElem? (i := 87) rfl)) rfl
theorem q787 : Cond.methodLink RL 252 yX14_planAt ∈ wAll := wIn (wT8 (List.mem_of_getElem? (i := 23) rfl)) rfl
theorem q788 : Cond.code yX14_planAt cX14_planAt 11 (some .int) ∈ wAll := wIn (wT8 (List.mem_of_getElem? (i := 26) rfl)) rfl
theorem q789 : Cond.instanceMethod yX14_planAt ∈ wAll := wIn (wT8 (List.mem_of_getElem? (i := 24) rfl)) rfl
theorem q790 : Cond.selects RX14 yX14_planAt yX14_planAt ∈ wAll := wIn (wT8 (List.mem_of_getElem? (i := 25) rfl)) rfl
theorem q791 : Cond.methodLink RL 253 yL_lastChance ∈ wAll := wIn (wT5 (List.mem_of_getElem? (i := 94) rfl)) rfl
theorem q792 : Cond.codeWith yL_lastChance cL_lastChance 4 (some .int) [(0, 9, 12, 19), (0, 9, 15, 42)] ∈ wAll := wIn (wT5 (List.mem_of_getElem? (i := 96) rfl)) rfl
theorem q793 : Cond.static yL_lastChance ∈ wAll := wIn (wT5 (List.mem_of_getElem? (i := 95) rfl)) rfl
theorem q794 : Cond.methodLink RL 255 yX14_lastChance ∈ wAll := wIn (wT8 (List.mem_of_getElem? (i := 27) rfl)) rfl
theorem q795 : Cond.code yX14_lastChance cX14_lastChance 4 (some .int) ∈ wAll := wIn (wT8 (List.mem_of_getElem? (i := 30) rfl)) rfl
theorem q796 : Cond.instanceMethod yX14_lastChance ∈ wAll := wIn (wT8 (List.mem_of_getElem? (i := 28) rfl)) rfl
theorem q797 : Cond.selects RX14 yX14_lastChance yX14_lastChance ∈ wAll := wIn (wT8 (List.mem_of_getElem? (i := 29) rfl)) rfl
theorem q798 : Cond.methodLink RL 256 yX9_stations ∈ wAll := wIn (wT2 (List.mem_of_getElem? (i := 99) rfl)) rfl
theorem q799 : Cond.code yX9_stations cX9_stations 1 (some .int) ∈ wAll := wIn (wT2 (List.mem_of_getElem? (i := 102) rfl)) rfl
theorem q800 : Cond.instanceMethod yX9_stations ∈ wAll := wIn (wT2 (List.mem_of_getElem? (i := 100) rfl)) rfl
theorem q801 : Cond.selects RX9 yX9_stations yX9_stations ∈ wAll := wIn (wT2 (List.mem_of_getElem? (i := 101) rfl)) rfl
theorem q802 : Cond.methodLink RL 259 yX14_stations ∈ wAll := wIn (wT8 (List.mem_of_getElem? (i := 31) rfl)) rfl
theorem q803 : Cond.code yX14_stations cX14_stations 1 (some .int) ∈ wAll := wIn (wT8 (List.mem_of_getElem? (i := 34) rfl)) rfl
theorem q804 : Cond.instanceMethod yX14_stations ∈ wAll := wIn (wT8 (List.mem_of_getElem? (i := 32) rfl)) rfl
theorem q805 : Cond.selects RX14 yX14_stations yX14_stations ∈ wAll := wIn (wT8 (List.mem_of_getElem? (i := 33) rfl)) rfl
theorem q806 : Cond.methodLink RL 260 yX9_shots ∈ wAll := wIn (wT2 (List.mem_of_getElem? (i := 103) rfl)) rfl
theorem q807 : Cond.code yX9_shots cX9_shots 1 (some .int) ∈ wAll := wIn (wT2 (List.mem_of_getElem? (i := 106) rfl)) rfl
theorem q808 : Cond.instanceMethod yX9_shots ∈ wAll := wIn (wT2 (List.mem_of_getElem? (i := 104) rfl)) rfl
theorem q809 : Cond.selects RX9 yX9_shots yX9_shots ∈ wAll := wIn (wT2 (List.mem_of_getElem? (i := 105) rfl)) rfl
theorem q810 : Cond.methodLink RL 263 yX14_shots ∈ wAll := wIn (wT8 (List.mem_of_getElem? (i := 35) rfl)) rfl
theorem q811 : Cond.code yX14_shots cX14_shots 1 (some .int) ∈ wAll := wIn (wT8 (List.mem_of_getElem? (i := 38) rfl)) rfl
theorem q812 : Cond.instanceMethod yX14_shots ∈ wAll := wIn (wT8 (List.mem_of_getElem? (i := 36) rfl)) rfl
theorem q813 : Cond.selects RX14 yX14_shots yX14_shots ∈ wAll := wIn (wT8 (List.mem_of_getElem? (i := 37) rfl)) rfl
theorem q814 : Cond.methodLink RL 264 yX9_allSteps ∈ wAll := wIn (wT2 (List.mem_of_getElem? (i := 107) rfl)) rfl
theorem q815 : Cond.code yX9_allSteps cX9_allSteps 5 (some .long) ∈ wAll := wIn (wT2 (List.mem_of_getElem? (i := 110) rfl)) rfl
theorem q816 : Cond.instanceMethod yX9_allSteps ∈ wAll := wIn (wT2 (List.mem_of_getElem? (i := 108) rfl)) rfl
theorem q817 : Cond.selects RX9 yX9_allSteps yX9_allSteps ∈ wAll := wIn (wT2 (List.mem_of_getElem? (i := 109) rfl)) rfl
theorem q818 : Cond.methodLink RL 268 yX14_allSteps ∈ wAll := wIn (wT8 (List.mem_of_getElem? (i := 39) rfl)) rfl
theorem q819 : Cond.code yX14_allSteps cX14_allSteps 4 (some .long) ∈ wAll := wIn (wT8 (List.mem_of_getElem? (i := 42) rfl)) rfl
theorem q820 : Cond.instanceMethod yX14_allSteps ∈ wAll := wIn (wT8 (List.mem_of_getElem? (i := 40) rfl)) rfl
theorem q821 : Cond.selects RX14 yX14_allSteps yX14_allSteps ∈ wAll := wIn (wT8 (List.mem_of_getElem? (i := 41) rfl)) rfl
theorem q822 : Cond.methodLink RL 269 yL_hungShare ∈ wAll := wIn (wT5 (List.mem_of_getElem? (i := 105) rfl)) rfl
theorem q823 : Cond.codeWith yL_hungShare cL_hungShare 4 (some .int) [(0, 9, 12, 21), (0, 9, 15, 132)] ∈ wAll := wIn (wT5 (List.mem_of_getElem? (i := 107) rfl)) rfl
theorem q824 : Cond.static yL_hungShare ∈ wAll := wIn (wT5 (List.mem_of_getElem? (i := 106) rfl)) rfl
theorem q825 : Cond.methodLink RL 272 yX14_hungShare ∈ wAll := wIn (wT8 (List.mem_of_getElem? (i := 43) rfl)) rfl
theorem q826 : Cond.code yX14_hungShare cX14_hungShare 4 (some .float) ∈ wAll := wIn (wT8 (List.mem_of_getElem? (i := 46) rfl)) rfl
theorem q827 : Cond.instanceMethod yX14_hungShare ∈ wAll := wIn (wT8 (List.mem_of_getElem? (i := 44) rfl)) rfl
theorem q828 : Cond.selects RX14 yX14_hungShare yX14_hungShare ∈ wAll := wIn (wT8 (List.mem_of_getElem? (i := 45) rfl)) rfl
theorem q829 : Cond.methodLink RL 273 yL_meanRain ∈ wAll := wIn (wT5 (List.mem_of_getElem? (i := 133) rfl)) rfl
theorem q830 : Cond.codeWith yL_meanRain cL_meanRain 3 (some .int) [(0, 7, 10, 132)] ∈ wAll := wIn (wT5 (List.mem_of_getElem? (i := 135) rfl)) rfl
theorem q831 : Cond.static yL_meanRain ∈ wAll := wIn (wT5 (List.mem_of_getElem? (i := 134) rfl)) rfl
theorem q832 : Cond.methodLink RL 276 yX14_meanRain ∈ wAll := wIn (wT8 (List.mem_of_getElem? (i := 47) rfl)) rfl
theorem q833 : Cond.code yX14_meanRain cX14_meanRain 4 (some .double) ∈ wAll := wIn (wT8 (List.mem_of_getElem? (i := 50) rfl)) rfl
theorem q834 : Cond.instanceMethod yX14_meanRain ∈ wAll := wIn (wT8 (List.mem_of_getElem? (i := 48) rfl)) rfl
theorem q835 : Cond.selects RX14 yX14_meanRain yX14_meanRain ∈ wAll := wIn (wT8 (List.mem_of_getElem? (i := 49) rfl)) rfl
theorem q836 : Cond.methodLink RL 277 yL_isSound ∈ wAll := wIn (wT5 (List.mem_of_getElem? (i := 141) rfl)) rfl
theorem q837 : Cond.codeWith yL_isSound cL_isSound 4 (some .int) [(0, 16, 19, 21)] ∈ wAll := wIn (wT5 (List.mem_of_getElem? (i := 143) rfl)) rfl
theorem q838 : Cond.static yL_isSound ∈ wAll := wIn (wT5 (List.mem_of_getElem? (i := 142) rfl)) rfl
theorem q839 : Cond.methodLink RL 279 yX14_isSound ∈ wAll := wIn (wT8 (List.mem_of_getElem? (i := 51) rfl)) rfl
theorem q840 : Cond.code yX14_isSound cX14_isSound 2 (some .boolean) ∈ wAll := wIn (wT8 (List.mem_of_getElem? (i := 54) rfl)) rfl
theorem q841 : Cond.instanceMethod yX14_isSound ∈ wAll := wIn (wT8 (List.mem_of_getElem? (i := 52) rfl)) rfl
theorem q842 : Cond.selects RX14 yX14_isSound yX14_isSound ∈ wAll := wIn (wT8 (List.mem_of_getElem? (i := 53) rfl)) rfl
theorem dL_law_1510 : decode cL_law 1510 = .ok (.aload_n 1, 1) := by decide +kernel
theorem dL_law_1511 : decode cL_law 1511 = .ok (.aload_n 0, 1) := by decide +kernel
theorem dL_law_1512 : decode cL_law 1512 = .ok (.iload 5, 2) := by decide +kernel
theorem dL_law_1514 : decode cL_law 1514 = .ok (.iconst 1, 1) := by decide +kernel
theorem dL_law_1515 : decode cL_law 1515 = .ok (.iadd, 1) := by decide +kernel
theorem dL_law_1516 : decode cL_law 1516 = .ok (.iaload, 1) := by decide +kernel
theorem dL_law_1517 : decode cL_law 1517 = .ok (.aload_n 3, 1) := by decide +kernel
theorem dL_law_1518 : decode cL_law 1518 = .ok (.invokestatic 211, 3) := by decide +kernel
theorem dL_law_1521 : decode cL_law 1521 = .ok (.istore 6, 2) := by decide +kernel
theorem dL_law_1523 : decode cL_law 1523 = .ok (.aload_n 2, 1) := by decide +kernel
theorem dL_law_1524 : decode cL_law 1524 = .ok (.aload_n 0, 1) := by decide +kernel
theorem dL_law_1525 : decode cL_law 1525 = .ok (.iload 5, 2) := by decide +kernel
theorem dL_law_1527 : decode cL_law 1527 = .ok (.iconst 1, 1) := by decide +kernel
theorem dL_law_1528 : decode cL_law 1528 = .ok (.iadd, 1) := by decide +kernel
theorem dL_law_1529 : decode cL_law 1529 = .ok (.iaload, 1) := by decide +kernel
theorem dL_law_1530 : decode cL_law 1530 = .ok (.invokevirtual 213, 3) := by decide +kernel
theorem dL_law_1533 : decode cL_law 1533 = .ok (.istore 7, 2) := by decide +kernel
theorem dL_law_1535 : decode cL_law 1535 = .ok (.aload_n 2, 1) := by decide +kernel
theorem dL_law_1536 : decode cL_law 1536 = .ok (.invokevirtual 152, 3) := by decide +kernel
theorem dL_law_1539 : decode cL_law 1539 = .ok (.iload 6, 2) := by decide +kernel
theorem dL_law_1541 : decode cL_law 1541 = .ok (.if_icmp .eq 5, 3) := by decide +kernel
theorem dL_law_1546 : decode cL_law 1546 = .ok (.iload 6, 2) := by decide +kernel
theorem dL_law_1548 : decode cL_law 1548 = .ok (.ifCond .ne 15, 3) := by decide +kernel
theorem dL_law_1563 : decode cL_law 1563 = .ok (.goto 1143, 3) := by decide +kernel
theorem dL_law_1566 : decode cL_law 1566 = .ok (.aload_n 1, 1) := by decide +kernel
theorem dL_law_1567 : decode cL_law 1567 = .ok (.aload_n 0, 1) := by decide +kernel
theorem dL_law_1568 : decode cL_law 1568 = .ok (.iload 5, 2) := by decide +kernel
theorem dL_law_1570 : decode cL_law 1570 = .ok (.iconst 1, 1) := by decide +kernel
theorem dL_law_1571 : decode cL_law 1571 = .ok (.iadd, 1) := by decide +kernel
theorem dL_law_1572 : decode cL_law 1572 = .ok (.iaload, 1) := by decide +kernel
theorem dL_law_1573 : decode cL_law 1573 = .ok (.aload_n 0, 1) := by decide +kernel
theorem dL_law_1574 : decode cL_law 1574 = .ok (.iload 5, 2) := by decide +kernel
theorem dL_law_1576 : decode cL_law 1576 = .ok (.iconst 2, 1) := by decide +kernel
theorem dL_law_1577 : decode cL_law 1577 = .ok (.iadd, 1) := by decide +kernel
theorem dL_law_1578 : decode cL_law 1578 = .ok (.iaload, 1) := by decide +kernel
theorem dL_law_1579 : decode cL_law 1579 = .ok (.aload_n 3, 1) := by decide +kernel
theorem dL_law_1580 : decode cL_law 1580 = .ok (.invokestatic 214, 3) := by decide +kernel
theorem dL_law_1583 : decode cL_law 1583 = .ok (.istore 6, 2) := by decide +kernel
theorem dL_law_1585 : decode cL_law 1585 = .ok (.aload_n 2, 1) := by decide +kernel
theorem dL_law_1586 : decode cL_law 1586 = .ok (.aload_n 0, 1) := by decide +kernel
theorem dL_law_1587 : decode cL_law 1587 = .ok (.iload 5, 2) := by decide +kernel
theorem dL_law_1589 : decode cL_law 1589 = .ok (.iconst 1, 1) := by decide +kernel
theorem dL_law_1590 : decode cL_law 1590 = .ok (.iadd, 1) := by decide +kernel
theorem dL_law_1591 : decode cL_law 1591 = .ok (.iaload, 1) := by decide +kernel
theorem dL_law_1592 : decode cL_law 1592 = .ok (.aload_n 0, 1) := by decide +kernel
theorem dL_law_1593 : decode cL_law 1593 = .ok (.iload 5, 2) := by decide +kernel
theorem dL_law_1595 : decode cL_law 1595 = .ok (.iconst 2, 1) := by decide +kernel
theorem dL_law_1596 : decode cL_law 1596 = .ok (.iadd, 1) := by decide +kernel
theorem dL_law_1597 : decode cL_law 1597 = .ok (.iaload, 1) := by decide +kernel
theorem dL_law_1598 : decode cL_law 1598 = .ok (.invokevirtual 216, 3) := by decide +kernel
theorem dL_law_1601 : decode cL_law 1601 = .ok (.istore 7, 2) := by decide +kernel
theorem dL_law_1603 : decode cL_law 1603 = .ok (.aload_n 2, 1) := by decide +kernel
theorem dL_law_1604 : decode cL_law 1604 = .ok (.invokevirtual 152, 3) := by decide +kernel
theorem dL_law_1607 : decode cL_law 1607 = .ok (.iload 6, 2) := by decide +kernel
theorem dL_law_1609 : decode cL_law 1609 = .ok (.if_icmp .eq 5, 3) := by decide +kernel
theorem dL_law_1614 : decode cL_law 1614 = .ok (.iload 6, 2) := by decide +kernel
theorem dL_law_1616 : decode cL_law 1616 = .ok (.ifCond .ne 15, 3) := by decide +kernel
theorem dL_law_1619 : decode cL_law 1619 = .ok (.aload_n 3, 1) := by decide +kernel
theorem dL_law_1620 : decode cL_law 1620 = .ok (.iconst 0, 1) := by decide +kernel
theorem dL_law_1621 : decode cL_law 1621 = .ok (.laload, 1) := by decide +kernel
theorem dL_law_1622 : decode cL_law 1622 = .ok (.iload 7, 2) := by decide +kernel
theorem dL_law_1624 : decode cL_law 1624 = .ok (.i2l, 1) := by decide +kernel
theorem dL_law_1625 : decode cL_law 1625 = .ok (.lcmp, 1) := by decide +kernel
theorem dL_law_1626 : decode cL_law 1626 = .ok (.ifCond .eq 5, 3) := by decide +kernel
theorem dL_law_1631 : decode cL_law 1631 = .ok (.goto 1075, 3) := by decide +kernel
theorem dL_law_1634 : decode cL_law 1634 = .ok (.aload_n 1, 1) := by decide +kernel
theorem dL_law_1635 : decode cL_law 1635 = .ok (.aload_n 0, 1) := by decide +kernel
theorem dL_law_1636 : decode cL_law 1636 = .ok (.iload 5, 2) := by decide +kernel
theorem dL_law_1638 : decode cL_law 1638 = .ok (.iconst 1, 1) := by decide +kernel
theorem dL_law_1639 : decode cL_law 1639 = .ok (.iadd, 1) := by decide +kernel
theorem dL_law_1640 : decode cL_law 1640 = .ok (.iaload, 1) := by decide +kernel
theorem dL_law_1641 : decode cL_law 1641 = .ok (.aload_n 3, 1) := by decide +kernel
theorem dL_law_1642 : decode cL_law 1642 = .ok (.invokestatic 217, 3) := by decide +kernel
theorem dL_law_1645 : decode cL_law 1645 = .ok (.istore 6, 2) := by decide +kernel
theorem dL_law_1647 : decode cL_law 1647 = .ok (.aload_n 2, 1) := by decide +kernel
theorem dL_law_1648 : decode cL_law 1648 = .ok (.aload_n 0, 1) := by decide +kernel
theorem dL_law_1649 : decode cL_law 1649 = .ok (.iload 5, 2) := by decide +kernel
theorem dL_law_1651 : decode cL_law 1651 = .ok (.iconst 1, 1) := by decide +kernel
theorem dL_law_1652 : decode cL_law 1652 = .ok (.iadd, 1) := by decide +kernel
theorem dL_law_1653 : decode cL_law 1653 = .ok (.iaload, 1) := by decide +kernel
theorem dL_law_1654 : decode cL_law 1654 = .ok (.invokevirtual 219, 3) := by decide +kernel
theorem dL_law_1657 : decode cL_law 1657 = .ok (.istore 7, 2) := by decide +kernel
theorem dL_law_1659 : decode cL_law 1659 = .ok (.aload_n 2, 1) := by decide +kernel
theorem dL_law_1660 : decode cL_law 1660 = .ok (.invokevirtual 152, 3) := by decide +kernel
theorem dL_law_1663 : decode cL_law 1663 = .ok (.iload 6, 2) := by decide +kernel
theorem dL_law_1665 : decode cL_law 1665 = .ok (.if_icmp .eq 5, 3) := by decide +kernel
theorem dL_law_1670 : decode cL_law 1670 = .ok (.iload 6, 2) := by decide +kernel
theorem dL_law_1672 : decode cL_law 1672 = .ok (.ifCond .ne 15, 3) := by decide +kernel
theorem dL_law_1675 : decode cL_law 1675 = .ok (.aload_n 3, 1) := by decide +kernel
theorem dL_law_1676 : decode cL_law 1676 = .ok (.iconst 0, 1) := by decide +kernel
theorem dL_law_1677 : decode cL_law 1677 = .ok (.laload, 1) := by decide +kernel
theorem dL_law_1678 : decode cL_law 1678 = .ok (.iload 7, 2) := by decide +kernel
theorem dL_law_1680 : decode cL_law 1680 = .ok (.i2l, 1) := by decide +kernel
theorem dL_law_1681 : decode cL_law 1681 = .ok (.lcmp, 1) := by decide +kernel
theorem dL_law_1682 : decode cL_law 1682 = .ok (.ifCond .eq 5, 3) := by decide +kernel
theorem dL_law_1687 : decode cL_law 1687 = .ok (.goto 1019, 3) := by decide +kernel
theorem dL_law_1690 : decode cL_law 1690 = .ok (.aload_n 1, 1) := by decide +kernel
theorem dL_law_1691 : decode cL_law 1691 = .ok (.aload_n 0, 1) := by decide +kernel
theorem dL_law_1692 : decode cL_law 1692 = .ok (.iload 5, 2) := by decide +kernel
theorem dL_law_1694 : decode cL_law 1694 = .ok (.iconst 1, 1) := by decide +kernel
theorem dL_law_1695 : decode cL_law 1695 = .ok (.iadd, 1) := by decide +kernel
theorem dL_law_1696 : decode cL_law 1696 = .ok (.iaload, 1) := by decide +kernel
theorem dL_law_1697 : decode cL_law 1697 = .ok (.aload_n 0, 1) := by decide +kernel
theorem dL_law_1698 : decode cL_law 1698 = .ok (.iload 5, 2) := by decide +kernel
theorem dL_law_1700 : decode cL_law 1700 = .ok (.iconst 2, 1) := by decide +kernel
theorem dL_law_1701 : decode cL_law 1701 = .ok (.iadd, 1) := by decide +kernel
theorem dL_law_1702 : decode cL_law 1702 = .ok (.iaload, 1) := by decide +kernel
theorem dL_law_1703 : decode cL_law 1703 = .ok (.aload_n 3, 1) := by decide +kernel
theorem dL_law_1704 : decode cL_law 1704 = .ok (.invokestatic 220, 3) := by decide +kernel
theorem dL_law_1707 : decode cL_law 1707 = .ok (.istore 6, 2) := by decide +kernel
theorem dL_law_1709 : decode cL_law 1709 = .ok (.aload_n 2, 1) := by decide +kernel
theorem dL_law_1710 : decode cL_law 1710 = .ok (.aload_n 0, 1) := by decide +kernel
theorem dL_law_1711 : decode cL_law 1711 = .ok (.iload 5, 2) := by decide +kernel
theorem dL_law_1713 : decode cL_law 1713 = .ok (.iconst 1, 1) := by decide +kernel
theorem dL_law_1714 : decode cL_law 1714 = .ok (.iadd, 1) := by decide +kernel
theorem dL_law_1715 : decode cL_law 1715 = .ok (.iaload, 1) := by decide +kernel
theorem dL_law_1716 : decode cL_law 1716 = .ok (.aload_n 0, 1) := by decide +kernel
theorem dL_law_1717 : decode cL_law 1717 = .ok (.iload 5, 2) := by decide +kernel
theorem dL_law_1719 : decode cL_law 1719 = .ok (.iconst 2, 1) := by decide +kernel
theorem dL_law_1720 : decode cL_law 1720 = .ok (.iadd, 1) := by decide +kernel
theorem dL_law_1721 : decode cL_law 1721 = .ok (.iaload, 1) := by decide +kernel
theorem dL_law_1722 : decode cL_law 1722 = .ok (.invokevirtual 222, 3) := by decide +kernel
theorem dL_law_1725 : decode cL_law 1725 = .ok (.istore 7, 2) := by decide +kernel
theorem dL_law_1727 : decode cL_law 1727 = .ok (.aload_n 2, 1) := by decide +kernel
theorem dL_law_1728 : decode cL_law 1728 = .ok (.invokevirtual 152, 3) := by decide +kernel
theorem dL_law_1731 : decode cL_law 1731 = .ok (.iload 6, 2) := by decide +kernel
theorem dL_law_1733 : decode cL_law 1733 = .ok (.if_icmp .eq 5, 3) := by decide +kernel
theorem dL_law_1738 : decode cL_law 1738 = .ok (.iload 6, 2) := by decide +kernel
theorem dL_law_1740 : decode cL_law 1740 = .ok (.ifCond .ne 15, 3) := by decide +kernel
theorem dL_law_1755 : decode cL_law 1755 = .ok (.goto 951, 3) := by decide +kernel
theorem dL_law_1758 : decode cL_law 1758 = .ok (.aload_n 1, 1) := by decide +kernel
theorem dL_law_1759 : decode cL_law 1759 = .ok (.aload_n 0, 1) := by decide +kernel
theorem dL_law_1760 : decode cL_law 1760 = .ok (.iload 5, 2) := by decide +kernel
theorem dL_law_1762 : decode cL_law 1762 = .ok (.iconst 1, 1) := by decide +kernel
theorem dL_law_1763 : decode cL_law 1763 = .ok (.iadd, 1) := by decide +kernel
theorem dL_law_1764 : decode cL_law 1764 = .ok (.iaload, 1) := by decide +kernel
theorem dL_law_1765 : decode cL_law 1765 = .ok (.aload_n 0, 1) := by decide +kernel
theorem dL_law_1766 : decode cL_law 1766 = .ok (.iload 5, 2) := by decide +kernel
theorem dL_law_1768 : decode cL_law 1768 = .ok (.iconst 2, 1) := by decide +kernel
theorem dL_law_1769 : decode cL_law 1769 = .ok (.iadd, 1) := by decide +kernel
theorem dL_law_1770 : decode cL_law 1770 = .ok (.iaload, 1) := by decide +kernel
theorem dL_law_1771 : decode cL_law 1771 = .ok (.aload_n 3, 1) := by decide +kernel
theorem dL_law_1772 : decode cL_law 1772 = .ok (.invokestatic 223, 3) := by decide +kernel
theorem dL_law_1775 : decode cL_law 1775 = .ok (.istore 6, 2) := by decide +kernel
theorem dL_law_1777 : decode cL_law 1777 = .ok (.aload_n 2, 1) := by decide +kernel
theorem dL_law_1778 : decode cL_law 1778 = .ok (.aload_n 0, 1) := by decide +kernel
theorem dL_law_1779 : decode cL_law 1779 = .ok (.iload 5, 2) := by decide +kernel
theorem dL_law_1781 : decode cL_law 1781 = .ok (.iconst 1, 1) := by decide +kernel
theorem dL_law_1782 : decode cL_law 1782 = .ok (.iadd, 1) := by decide +kernel
theorem dL_law_1783 : decode cL_law 1783 = .ok (.iaload, 1) := by decide +kernel
theorem dL_law_1784 : decode cL_law 1784 = .ok (.aload_n 0, 1) := by decide +kernel
theorem dL_law_1785 : decode cL_law 1785 = .ok (.iload 5, 2) := by decide +kernel
theorem dL_law_1787 : decode cL_law 1787 = .ok (.iconst 2, 1) := by decide +kernel
theorem dL_law_1788 : decode cL_law 1788 = .ok (.iadd, 1) := by decide +kernel
theorem dL_law_1789 : decode cL_law 1789 = .ok (.iaload, 1) := by decide +kernel
theorem dL_law_1790 : decode cL_law 1790 = .ok (.invokevirtual 225, 3) := by decide +kernel
theorem dL_law_1793 : decode cL_law 1793 = .ok (.istore 7, 2) := by decide +kernel
theorem dL_law_1795 : decode cL_law 1795 = .ok (.aload_n 2, 1) := by decide +kernel
theorem dL_law_1796 : decode cL_law 1796 = .ok (.invokevirtual 152, 3) := by decide +kernel
theorem dL_law_1799 : decode cL_law 1799 = .ok (.iload 6, 2) := by decide +kernel
theorem dL_law_1801 : decode cL_law 1801 = .ok (.if_icmp .eq 5, 3) := by decide +kernel
theorem dL_law_1806 : decode cL_law 1806 = .ok (.iload 6, 2) := by decide +kernel
theorem dL_law_1808 : decode cL_law 1808 = .ok (.ifCond .ne 22, 3) := by decide +kernel
theorem dL_law_1830 : decode cL_law 1830 = .ok (.goto 876, 3) := by decide +kernel
theorem dL_law_1833 : decode cL_law 1833 = .ok (.aload_n 1, 1) := by decide +kernel
theorem dL_law_1834 : decode cL_law 1834 = .ok (.aload_n 0, 1) := by decide +kernel
theorem dL_law_1835 : decode cL_law 1835 = .ok (.iload 5, 2) := by decide +kernel
theorem dL_law_1837 : decode cL_law 1837 = .ok (.iconst 1, 1) := by decide +kernel
theorem dL_law_1838 : decode cL_law 1838 = .ok (.iadd, 1) := by decide +kernel
theorem dL_law_1839 : decode cL_law 1839 = .ok (.iaload, 1) := by decide +kernel
theorem dL_law_1840 : decode cL_law 1840 = .ok (.aload_n 3, 1) := by decide +kernel
theorem dL_law_1841 : decode cL_law 1841 = .ok (.invokestatic 226, 3) := by decide +kernel
theorem dL_law_1844 : decode cL_law 1844 = .ok (.istore 6, 2) := by decide +kernel
theorem dL_law_1846 : decode cL_law 1846 = .ok (.aload_n 2, 1) := by decide +kernel
theorem dL_law_1847 : decode cL_law 1847 = .ok (.aload_n 0, 1) := by decide +kernel
theorem dL_law_1848 : decode cL_law 1848 = .ok (.iload 5, 2) := by decide +kernel
theorem dL_law_1850 : decode cL_law 1850 = .ok (.iconst 1, 1) := by decide +kernel
theorem dL_law_1851 : decode cL_law 1851 = .ok (.iadd, 1) := by decide +kernel
theorem dL_law_1852 : decode cL_law 1852 = .ok (.iaload, 1) := by decide +kernel
theorem dL_law_1853 : decode cL_law 1853 = .ok (.invokevirtual 228, 3) := by decide +kernel
theorem dL_law_1856 : decode cL_law 1856 = .ok (.istore 7, 2) := by decide +kernel
theorem dL_law_1858 : decode cL_law 1858 = .ok (.aload_n 2, 1) := by decide +kernel
theorem dL_law_1859 : decode cL_law 1859 = .ok (.invokevirtual 152, 3) := by decide +kernel
theorem dL_law_1862 : decode cL_law 1862 = .ok (.iload 6, 2) := by decide +kernel
theorem dL_law_1864 : decode cL_law 1864 = .ok (.if_icmp .eq 5, 3) := by decide +kernel
theorem dL_law_1869 : decode cL_law 1869 = .ok (.iload 6, 2) := by decide +kernel
theorem dL_law_1871 : decode cL_law 1871 = .ok (.ifCond .ne 15, 3) := by decide +kernel
theorem dL_law_1886 : decode cL_law 1886 = .ok (.goto 820, 3) := by decide +kernel
theorem dL_law_1889 : decode cL_law 1889 = .ok (.aload_n 1, 1) := by decide +kernel
theorem dL_law_1890 : decode cL_law 1890 = .ok (.aload_n 0, 1) := by decide +kernel
theorem dL_law_1891 : decode cL_law 1891 = .ok (.iload 5, 2) := by decide +kernel
theorem dL_law_1893 : decode cL_law 1893 = .ok (.iconst 1, 1) := by decide +kernel
theorem dL_law_1894 : decode cL_law 1894 = .ok (.iadd, 1) := by decide +kernel
theorem dL_law_1895 : decode cL_law 1895 = .ok (.iaload, 1) := by decide +kernel
theorem dL_law_1896 : decode cL_law 1896 = .ok (.aload_n 0, 1) := by decide +kernel
theorem dL_law_1897 : decode cL_law 1897 = .ok (.iload 5, 2) := by decide +kernel
theorem dL_law_1899 : decode cL_law 1899 = .ok (.iconst 2, 1) := by decide +kernel
theorem dL_law_1900 : decode cL_law 1900 = .ok (.iadd, 1) := by decide +kernel
theorem dL_law_1901 : decode cL_law 1901 = .ok (.iaload, 1) := by decide +kernel
theorem dL_law_1902 : decode cL_law 1902 = .ok (.aload_n 3, 1) := by decide +kernel
theorem dL_law_1903 : decode cL_law 1903 = .ok (.invokestatic 229, 3) := by decide +kernel
theorem dL_law_1906 : decode cL_law 1906 = .ok (.istore 6, 2) := by decide +kernel
theorem dL_law_1908 : decode cL_law 1908 = .ok (.aload_n 2, 1) := by decide +kernel
theorem dL_law_1909 : decode cL_law 1909 = .ok (.aload_n 0, 1) := by decide +kernel
theorem dL_law_1910 : decode cL_law 1910 = .ok (.iload 5, 2) := by decide +kernel
theorem dL_law_1912 : decode cL_law 1912 = .ok (.iconst 1, 1) := by decide +kernel
theorem dL_law_1913 : decode cL_law 1913 = .ok (.iadd, 1) := by decide +kernel
theorem dL_law_1914 : decode cL_law 1914 = .ok (.iaload, 1) := by decide +kernel
theorem dL_law_1915 : decode cL_law 1915 = .ok (.aload_n 0, 1) := by decide +kernel
theorem dL_law_1916 : decode cL_law 1916 = .ok (.iload 5, 2) := by decide +kernel
theorem dL_law_1918 : decode cL_law 1918 = .ok (.iconst 2, 1) := by decide +kernel
theorem dL_law_1919 : decode cL_law 1919 = .ok (.iadd, 1) := by decide +kernel
theorem dL_law_1920 : decode cL_law 1920 = .ok (.iaload, 1) := by decide +kernel
theorem dL_law_1921 : decode cL_law 1921 = .ok (.invokevirtual 231, 3) := by decide +kernel
theorem dL_law_1924 : decode cL_law 1924 = .ok (.istore 7, 2) := by decide +kernel
theorem dL_law_1926 : decode cL_law 1926 = .ok (.aload_n 2, 1) := by decide +kernel
theorem dL_law_1927 : decode cL_law 1927 = .ok (.invokevirtual 152, 3) := by decide +kernel
theorem dL_law_1930 : decode cL_law 1930 = .ok (.iload 6, 2) := by decide +kernel
theorem dL_law_1932 : decode cL_law 1932 = .ok (.if_icmp .eq 5, 3) := by decide +kernel
theorem dL_law_1937 : decode cL_law 1937 = .ok (.iload 6, 2) := by decide +kernel
theorem dL_law_1939 : decode cL_law 1939 = .ok (.ifCond .ne 15, 3) := by decide +kernel
theorem dL_law_1954 : decode cL_law 1954 = .ok (.goto 752, 3) := by decide +kernel
theorem dL_law_1957 : decode cL_law 1957 = .ok (.aload_n 1, 1) := by decide +kernel
theorem dL_law_1958 : decode cL_law 1958 = .ok (.aload_n 0, 1) := by decide +kernel
theorem dL_law_1959 : decode cL_law 1959 = .ok (.iload 5, 2) := by decide +kernel
theorem dL_law_1961 : decode cL_law 1961 = .ok (.iconst 1, 1) := by decide +kernel
theorem dL_law_1962 : decode cL_law 1962 = .ok (.iadd, 1) := by decide +kernel
theorem dL_law_1963 : decode cL_law 1963 = .ok (.iaload, 1) := by decide +kernel
theorem dL_law_1964 : decode cL_law 1964 = .ok (.aload_n 0, 1) := by decide +kernel
theorem dL_law_1965 : decode cL_law 1965 = .ok (.iload 5, 2) := by decide +kernel
theorem dL_law_1967 : decode cL_law 1967 = .ok (.iconst 2, 1) := by decide +kernel
theorem dL_law_1968 : decode cL_law 1968 = .ok (.iadd, 1) := by decide +kernel
theorem dL_law_1969 : decode cL_law 1969 = .ok (.iaload, 1) := by decide +kernel
theorem dL_law_1970 : decode cL_law 1970 = .ok (.aload_n 3, 1) := by decide +kernel
theorem dL_law_1971 : decode cL_law 1971 = .ok (.invokestatic 232, 3) := by decide +kernel
theorem dL_law_1974 : decode cL_law 1974 = .ok (.istore 6, 2) := by decide +kernel
theorem dL_law_1976 : decode cL_law 1976 = .ok (.aload_n 2, 1) := by decide +kernel
theorem dL_law_1977 : decode cL_law 1977 = .ok (.aload_n 0, 1) := by decide +kernel
theorem dL_law_1978 : decode cL_law 1978 = .ok (.iload 5, 2) := by decide +kernel
theorem dL_law_1980 : decode cL_law 1980 = .ok (.iconst 1, 1) := by decide +kernel
theorem dL_law_1981 : decode cL_law 1981 = .ok (.iadd, 1) := by decide +kernel
theorem dL_law_1982 : decode cL_law 1982 = .ok (.iaload, 1) := by decide +kernel
theorem dL_law_1983 : decode cL_law 1983 = .ok (.aload_n 0, 1) := by decide +kernel
theorem dL_law_1984 : decode cL_law 1984 = .ok (.iload 5, 2) := by decide +kernel
theorem dL_law_1986 : decode cL_law 1986 = .ok (.iconst 2, 1) := by decide +kernel
theorem dL_law_1987 : decode cL_law 1987 = .ok (.iadd, 1) := by decide +kernel
theorem dL_law_1988 : decode cL_law 1988 = .ok (.iaload, 1) := by decide +kernel
theorem dL_law_1989 : decode cL_law 1989 = .ok (.invokevirtual 234, 3) := by decide +kernel
theorem dL_law_1992 : decode cL_law 1992 = .ok (.istore 7, 2) := by decide +kernel
theorem dL_law_1994 : decode cL_law 1994 = .ok (.aload_n 2, 1) := by decide +kernel
theorem dL_law_1995 : decode cL_law 1995 = .ok (.invokevirtual 152, 3) := by decide +kernel
theorem dL_law_1998 : decode cL_law 1998 = .ok (.iload 6, 2) := by decide +kernel
theorem dL_law_2000 : decode cL_law 2000 = .ok (.if_icmp .eq 5, 3) := by decide +kernel
theorem dL_law_2005 : decode cL_law 2005 = .ok (.iload 6, 2) := by decide +kernel
theorem dL_law_2007 : decode cL_law 2007 = .ok (.ifCond .ne 22, 3) := by decide +kernel
theorem dL_law_2029 : decode cL_law 2029 = .ok (.goto 677, 3) := by decide +kernel
theorem dL_law_2032 : decode cL_law 2032 = .ok (.aload_n 1, 1) := by decide +kernel
theorem dL_law_2033 : decode cL_law 2033 = .ok (.aload_n 0, 1) := by decide +kernel
theorem dL_law_2034 : decode cL_law 2034 = .ok (.iload 5, 2) := by decide +kernel
theorem dL_law_2036 : decode cL_law 2036 = .ok (.iconst 1, 1) := by decide +kernel
theorem dL_law_2037 : decode cL_law 2037 = .ok (.iadd, 1) := by decide +kernel
theorem dL_law_2038 : decode cL_law 2038 = .ok (.iaload, 1) := by decide +kernel
theorem dL_law_2039 : decode cL_law 2039 = .ok (.aload_n 0, 1) := by decide +kernel
theorem dL_law_2040 : decode cL_law 2040 = .ok (.iload 5, 2) := by decide +kernel
theorem dL_law_2042 : decode cL_law 2042 = .ok (.iconst 2, 1) := by decide +kernel
theorem dL_law_2043 : decode cL_law 2043 = .ok (.iadd, 1) := by decide +kernel
theorem dL_law_2044 : decode cL_law 2044 = .ok (.iaload, 1) := by decide +kernel
theorem dL_law_2045 : decode cL_law 2045 = .ok (.aload_n 3, 1) := by decide +kernel
theorem dL_law_2046 : decode cL_law 2046 = .ok (.invokestatic 235, 3) := by decide +kernel
theorem dL_law_2049 : decode cL_law 2049 = .ok (.istore 6, 2) := by decide +kernel
theorem dL_law_2051 : decode cL_law 2051 = .ok (.aload_n 2, 1) := by decide +kernel
theorem dL_law_2052 : decode cL_law 2052 = .ok (.aload_n 0, 1) := by decide +kernel
theorem dL_law_2053 : decode cL_law 2053 = .ok (.iload 5, 2) := by decide +kernel
theorem dL_law_2055 : decode cL_law 2055 = .ok (.iconst 1, 1) := by decide +kernel
theorem dL_law_2056 : decode cL_law 2056 = .ok (.iadd, 1) := by decide +kernel
theorem dL_law_2057 : decode cL_law 2057 = .ok (.iaload, 1) := by decide +kernel
theorem dL_law_2058 : decode cL_law 2058 = .ok (.aload_n 0, 1) := by decide +kernel
theorem dL_law_2059 : decode cL_law 2059 = .ok (.iload 5, 2) := by decide +kernel
theorem dL_law_2061 : decode cL_law 2061 = .ok (.iconst 2, 1) := by decide +kernel
theorem dL_law_2062 : decode cL_law 2062 = .ok (.iadd, 1) := by decide +kernel
theorem dL_law_2063 : decode cL_law 2063 = .ok (.iaload, 1) := by decide +kernel
theorem dL_law_2064 : decode cL_law 2064 = .ok (.invokevirtual 237, 3) := by decide +kernel
theorem dL_law_2067 : decode cL_law 2067 = .ok (.istore 7, 2) := by decide +kernel
theorem dL_law_2069 : decode cL_law 2069 = .ok (.aload_n 2, 1) := by decide +kernel
theorem dL_law_2070 : decode cL_law 2070 = .ok (.invokevirtual 152, 3) := by decide +kernel
theorem dL_law_2073 : decode cL_law 2073 = .ok (.iload 6, 2) := by decide +kernel
theorem dL_law_2075 : decode cL_law 2075 = .ok (.if_icmp .eq 5, 3) := by decide +kernel
theorem dL_law_2080 : decode cL_law 2080 = .ok (.iload 6, 2) := by decide +kernel
theorem dL_law_2082 : decode cL_law 2082 = .ok (.ifCond .ne 15, 3) := by decide +kernel
theorem dL_law_2097 : decode cL_law 2097 = .ok (.goto 609, 3) := by decide +kernel
theorem dL_law_2100 : decode cL_law 2100 = .ok (.aload_n 1, 1) := by decide +kernel
theorem dL_law_2101 : decode cL_law 2101 = .ok (.aload_n 0, 1) := by decide +kernel
theorem dL_law_2102 : decode cL_law 2102 = .ok (.iload 5, 2) := by decide +kernel
theorem dL_law_2104 : decode cL_law 2104 = .ok (.iconst 1, 1) := by decide +kernel
theorem dL_law_2105 : decode cL_law 2105 = .ok (.iadd, 1) := by decide +kernel
theorem dL_law_2106 : decode cL_law 2106 = .ok (.iaload, 1) := by decide +kernel
theorem dL_law_2107 : decode cL_law 2107 = .ok (.aload_n 0, 1) := by decide +kernel
theorem dL_law_2108 : decode cL_law 2108 = .ok (.iload 5, 2) := by decide +kernel
theorem dL_law_2110 : decode cL_law 2110 = .ok (.iconst 2, 1) := by decide +kernel
theorem dL_law_2111 : decode cL_law 2111 = .ok (.iadd, 1) := by decide +kernel
theorem dL_law_2112 : decode cL_law 2112 = .ok (.iaload, 1) := by decide +kernel
theorem dL_law_2113 : decode cL_law 2113 = .ok (.aload_n 3, 1) := by decide +kernel
theorem dL_law_2114 : decode cL_law 2114 = .ok (.invokestatic 238, 3) := by decide +kernel
theorem dL_law_2117 : decode cL_law 2117 = .ok (.istore 6, 2) := by decide +kernel
theorem dL_law_2119 : decode cL_law 2119 = .ok (.aload_n 2, 1) := by decide +kernel
theorem dL_law_2120 : decode cL_law 2120 = .ok (.aload_n 0, 1) := by decide +kernel
theorem dL_law_2121 : decode cL_law 2121 = .ok (.iload 5, 2) := by decide +kernel
theorem dL_law_2123 : decode cL_law 2123 = .ok (.iconst 1, 1) := by decide +kernel
theorem dL_law_2124 : decode cL_law 2124 = .ok (.iadd, 1) := by decide +kernel
theorem dL_law_2125 : decode cL_law 2125 = .ok (.iaload, 1) := by decide +kernel
theorem dL_law_2126 : decode cL_law 2126 = .ok (.aload_n 0, 1) := by decide +kernel
theorem dL_law_2127 : decode cL_law 2127 = .ok (.iload 5, 2) := by decide +kernel
theorem dL_law_2129 : decode cL_law 2129 = .ok (.iconst 2, 1) := by decide +kernel
theorem dL_law_2130 : decode cL_law 2130 = .ok (.iadd, 1) := by decide +kernel
theorem dL_law_2131 : decode cL_law 2131 = .ok (.iaload, 1) := by decide +kernel
theorem dL_law_2132 : decode cL_law 2132 = .ok (.invokevirtual 240, 3) := by decide +kernel
theorem dL_law_2135 : decode cL_law 2135 = .ok (.istore 7, 2) := by decide +kernel
theorem dL_law_2137 : decode cL_law 2137 = .ok (.aload_n 2, 1) := by decide +kernel
theorem dL_law_2138 : decode cL_law 2138 = .ok (.invokevirtual 152, 3) := by decide +kernel
theorem dL_law_2141 : decode cL_law 2141 = .ok (.iload 6, 2) := by decide +kernel
theorem dL_law_2143 : decode cL_law 2143 = .ok (.if_icmp .eq 5, 3) := by decide +kernel
theorem dL_law_2148 : decode cL_law 2148 = .ok (.iload 6, 2) := by decide +kernel
theorem dL_law_2150 : decode cL_law 2150 = .ok (.ifCond .ne 15, 3) := by decide +kernel
theorem dL_law_2165 : decode cL_law 2165 = .ok (.goto 541, 3) := by decide +kernel
theorem dL_law_2168 : decode cL_law 2168 = .ok (.aload_n 1, 1) := by decide +kernel
theorem dL_law_2169 : decode cL_law 2169 = .ok (.aload_n 0, 1) := by decide +kernel
theorem dL_law_2170 : decode cL_law 2170 = .ok (.iload 5, 2) := by decide +kernel
theorem dL_law_2172 : decode cL_law 2172 = .ok (.iconst 1, 1) := by decide +kernel
theorem dL_law_2173 : decode cL_law 2173 = .ok (.iadd, 1) := by decide +kernel
theorem dL_law_2174 : decode cL_law 2174 = .ok (.iaload, 1) := by decide +kernel
theorem dL_law_2175 : decode cL_law 2175 = .ok (.aload_n 3, 1) := by decide +kernel
theorem dL_law_2176 : decode cL_law 2176 = .ok (.invokestatic 241, 3) := by decide +kernel
theorem dL_law_2179 : decode cL_law 2179 = .ok (.istore 6, 2) := by decide +kernel
theorem dL_law_2181 : decode cL_law 2181 = .ok (.aload_n 2, 1) := by decide +kernel
theorem dL_law_2182 : decode cL_law 2182 = .ok (.aload_n 0, 1) := by decide +kernel
theorem dL_law_2183 : decode cL_law 2183 = .ok (.iload 5, 2) := by decide +kernel
theorem dL_law_2185 : decode cL_law 2185 = .ok (.iconst 1, 1) := by decide +kernel
theorem dL_law_2186 : decode cL_law 2186 = .ok (.iadd, 1) := by decide +kernel
theorem dL_law_2187 : decode cL_law 2187 = .ok (.iaload, 1) := by decide +kernel
theorem dL_law_2188 : decode cL_law 2188 = .ok (.invokevirtual 243, 3) := by decide +kernel
theorem dL_law_2191 : decode cL_law 2191 = .ok (.istore 7, 2) := by decide +kernel
theorem dL_law_2193 : decode cL_law 2193 = .ok (.aload_n 2, 1) := by decide +kernel
theorem dL_law_2194 : decode cL_law 2194 = .ok (.invokevirtual 152, 3) := by decide +kernel
theorem dL_law_2197 : decode cL_law 2197 = .ok (.iload 6, 2) := by decide +kernel
theorem dL_law_2199 : decode cL_law 2199 = .ok (.if_icmp .eq 5, 3) := by decide +kernel
theorem dL_law_2204 : decode cL_law 2204 = .ok (.iload 6, 2) := by decide +kernel
theorem dL_law_2206 : decode cL_law 2206 = .ok (.ifCond .ne 15, 3) := by decide +kernel
theorem dL_law_2221 : decode cL_law 2221 = .ok (.goto 485, 3) := by decide +kernel
theorem dL_law_2224 : decode cL_law 2224 = .ok (.aload_n 1, 1) := by decide +kernel
theorem dL_law_2225 : decode cL_law 2225 = .ok (.aload_n 0, 1) := by decide +kernel
theorem dL_law_2226 : decode cL_law 2226 = .ok (.iload 5, 2) := by decide +kernel
theorem dL_law_2228 : decode cL_law 2228 = .ok (.iconst 1, 1) := by decide +kernel
theorem dL_law_2229 : decode cL_law 2229 = .ok (.iadd, 1) := by decide +kernel
theorem dL_law_2230 : decode cL_law 2230 = .ok (.iaload, 1) := by decide +kernel
theorem dL_law_2231 : decode cL_law 2231 = .ok (.aload_n 3, 1) := by decide +kernel
theorem dL_law_2232 : decode cL_law 2232 = .ok (.invokestatic 244, 3) := by decide +kernel
theorem dL_law_2235 : decode cL_law 2235 = .ok (.istore 6, 2) := by decide +kernel
theorem dL_law_2237 : decode cL_law 2237 = .ok (.aload_n 2, 1) := by decide +kernel
theorem dL_law_2238 : decode cL_law 2238 = .ok (.aload_n 0, 1) := by decide +kernel
theorem dL_law_2239 : decode cL_law 2239 = .ok (.iload 5, 2) := by decide +kernel
theorem dL_law_2241 : decode cL_law 2241 = .ok (.iconst 1, 1) := by decide +kernel
theorem dL_law_2242 : decode cL_law 2242 = .ok (.iadd, 1) := by decide +kernel
theorem dL_law_2243 : decode cL_law 2243 = .ok (.iaload, 1) := by decide +kernel
theorem dL_law_2244 : decode cL_law 2244 = .ok (.invokevirtual 246, 3) := by decide +kernel
theorem dL_law_2247 : decode cL_law 2247 = .ok (.istore 7, 2) := by decide +kernel
theorem dL_law_2249 : decode cL_law 2249 = .ok (.aload_n 2, 1) := by decide +kernel
theorem dL_law_2250 : decode cL_law 2250 = .ok (.invokevirtual 152, 3) := by decide +kernel
theorem dL_law_2253 : decode cL_law 2253 = .ok (.iload 6, 2) := by decide +kernel
theorem dL_law_2255 : decode cL_law 2255 = .ok (.if_icmp .eq 5, 3) := by decide +kernel
theorem dL_law_2260 : decode cL_law 2260 = .ok (.iload 6, 2) := by decide +kernel
theorem dL_law_2262 : decode cL_law 2262 = .ok (.ifCond .ne 15, 3) := by decide +kernel
theorem dL_law_2277 : decode cL_law 2277 = .ok (.goto 429, 3) := by decide +kernel
theorem dL_law_2280 : decode cL_law 2280 = .ok (.aload_n 1, 1) := by decide +kernel
theorem dL_law_2281 : decode cL_law 2281 = .ok (.aload_n 0, 1) := by decide +kernel
theorem dL_law_2282 : decode cL_law 2282 = .ok (.iload 5, 2) := by decide +kernel
theorem dL_law_2284 : decode cL_law 2284 = .ok (.iconst 1, 1) := by decide +kernel
theorem dL_law_2285 : decode cL_law 2285 = .ok (.iadd, 1) := by decide +kernel
theorem dL_law_2286 : decode cL_law 2286 = .ok (.iaload, 1) := by decide +kernel
theorem dL_law_2287 : decode cL_law 2287 = .ok (.aload_n 3, 1) := by decide +kernel
theorem dL_law_2288 : decode cL_law 2288 = .ok (.invokestatic 247, 3) := by decide +kernel
theorem dL_law_2291 : decode cL_law 2291 = .ok (.istore 6, 2) := by decide +kernel
theorem dL_law_2293 : decode cL_law 2293 = .ok (.aload_n 2, 1) := by decide +kernel
theorem dL_law_2294 : decode cL_law 2294 = .ok (.aload_n 0, 1) := by decide +kernel
theorem dL_law_2295 : decode cL_law 2295 = .ok (.iload 5, 2) := by decide +kernel
theorem dL_law_2297 : decode cL_law 2297 = .ok (.iconst 1, 1) := by decide +kernel
theorem dL_law_2298 : decode cL_law 2298 = .ok (.iadd, 1) := by decide +kernel
theorem dL_law_2299 : decode cL_law 2299 = .ok (.iaload, 1) := by decide +kernel
theorem dL_law_2300 : decode cL_law 2300 = .ok (.invokevirtual 249, 3) := by decide +kernel
theorem dL_law_2303 : decode cL_law 2303 = .ok (.istore 7, 2) := by decide +kernel
theorem dL_law_2305 : decode cL_law 2305 = .ok (.aload_n 2, 1) := by decide +kernel
theorem dL_law_2306 : decode cL_law 2306 = .ok (.invokevirtual 152, 3) := by decide +kernel
theorem dL_law_2309 : decode cL_law 2309 = .ok (.iload 6, 2) := by decide +kernel
theorem dL_law_2311 : decode cL_law 2311 = .ok (.if_icmp .eq 5, 3) := by decide +kernel
theorem dL_law_2316 : decode cL_law 2316 = .ok (.iload 6, 2) := by decide +kernel
theorem dL_law_2318 : decode cL_law 2318 = .ok (.ifCond .ne 15, 3) := by decide +kernel
theorem dL_law_2333 : decode cL_law 2333 = .ok (.goto 373, 3) := by decide +kernel
theorem dL_law_2336 : decode cL_law 2336 = .ok (.aload_n 1, 1) := by decide +kernel
theorem dL_law_2337 : decode cL_law 2337 = .ok (.aload_n 0, 1) := by decide +kernel
theorem dL_law_2338 : decode cL_law 2338 = .ok (.iload 5, 2) := by decide +kernel
theorem dL_law_2340 : decode cL_law 2340 = .ok (.iconst 1, 1) := by decide +kernel
theorem dL_law_2341 : decode cL_law 2341 = .ok (.iadd, 1) := by decide +kernel
theorem dL_law_2342 : decode cL_law 2342 = .ok (.iaload, 1) := by decide +kernel
theorem dL_law_2343 : decode cL_law 2343 = .ok (.aload_n 0, 1) := by decide +kernel
theorem dL_law_2344 : decode cL_law 2344 = .ok (.iload 5, 2) := by decide +kernel
theorem dL_law_2346 : decode cL_law 2346 = .ok (.iconst 2, 1) := by decide +kernel
theorem dL_law_2347 : decode cL_law 2347 = .ok (.iadd, 1) := by decide +kernel
theorem dL_law_2348 : decode cL_law 2348 = .ok (.iaload, 1) := by decide +kernel
theorem dL_law_2349 : decode cL_law 2349 = .ok (.aload_n 3, 1) := by decide +kernel
theorem dL_law_2350 : decode cL_law 2350 = .ok (.invokestatic 250, 3) := by decide +kernel
theorem dL_law_2353 : decode cL_law 2353 = .ok (.istore 6, 2) := by decide +kernel
theorem dL_law_2355 : decode cL_law 2355 = .ok (.aload_n 2, 1) := by decide +kernel
theorem dL_law_2356 : decode cL_law 2356 = .ok (.aload_n 0, 1) := by decide +kernel
theorem dL_law_2357 : decode cL_law 2357 = .ok (.iload 5, 2) := by decide +kernel
theorem dL_law_2359 : decode cL_law 2359 = .ok (.iconst 1, 1) := by decide +kernel
theorem dL_law_2360 : decode cL_law 2360 = .ok (.iadd, 1) := by decide +kernel
theorem dL_law_2361 : decode cL_law 2361 = .ok (.iaload, 1) := by decide +kernel
theorem dL_law_2362 : decode cL_law 2362 = .ok (.aload_n 0, 1) := by decide +kernel
theorem dL_law_2363 : decode cL_law 2363 = .ok (.iload 5, 2) := by decide +kernel
theorem dL_law_2365 : decode cL_law 2365 = .ok (.iconst 2, 1) := by decide +kernel
theorem dL_law_2366 : decode cL_law 2366 = .ok (.iadd, 1) := by decide +kernel
theorem dL_law_2367 : decode cL_law 2367 = .ok (.iaload, 1) := by decide +kernel
theorem dL_law_2368 : decode cL_law 2368 = .ok (.invokevirtual 252, 3) := by decide +kernel
theorem dL_law_2371 : decode cL_law 2371 = .ok (.istore 7, 2) := by decide +kernel
theorem dL_law_2373 : decode cL_law 2373 = .ok (.aload_n 2, 1) := by decide +kernel
theorem dL_law_2374 : decode cL_law 2374 = .ok (.invokevirtual 152, 3) := by decide +kernel
theorem dL_law_2377 : decode cL_law 2377 = .ok (.iload 6, 2) := by decide +kernel
theorem dL_law_2379 : decode cL_law 2379 = .ok (.if_icmp .eq 5, 3) := by decide +kernel
theorem dL_law_2384 : decode cL_law 2384 = .ok (.iload 6, 2) := by decide +kernel
theorem dL_law_2386 : decode cL_law 2386 = .ok (.ifCond .ne 15, 3) := by decide +kernel
theorem dL_law_2401 : decode cL_law 2401 = .ok (.goto 305, 3) := by decide +kernel
theorem dL_law_2404 : decode cL_law 2404 = .ok (.aload_n 1, 1) := by decide +kernel
theorem dL_law_2405 : decode cL_law 2405 = .ok (.aload_n 0, 1) := by decide +kernel
theorem dL_law_2406 : decode cL_law 2406 = .ok (.iload 5, 2) := by decide +kernel
theorem dL_law_2408 : decode cL_law 2408 = .ok (.iconst 1, 1) := by decide +kernel
theorem dL_law_2409 : decode cL_law 2409 = .ok (.iadd, 1) := by decide +kernel
theorem dL_law_2410 : decode cL_law 2410 = .ok (.iaload, 1) := by decide +kernel
theorem dL_law_2411 : decode cL_law 2411 = .ok (.aload_n 3, 1) := by decide +kernel
theorem dL_law_2412 : decode cL_law 2412 = .ok (.invokestatic 253, 3) := by decide +kernel
theorem dL_law_2415 : decode cL_law 2415 = .ok (.istore 6, 2) := by decide +kernel
theorem dL_law_2417 : decode cL_law 2417 = .ok (.aload_n 2, 1) := by decide +kernel
theorem dL_law_2418 : decode cL_law 2418 = .ok (.aload_n 0, 1) := by decide +kernel
theorem dL_law_2419 : decode cL_law 2419 = .ok (.iload 5, 2) := by decide +kernel
theorem dL_law_2421 : decode cL_law 2421 = .ok (.iconst 1, 1) := by decide +kernel
theorem dL_law_2422 : decode cL_law 2422 = .ok (.iadd, 1) := by decide +kernel
theorem dL_law_2423 : decode cL_law 2423 = .ok (.iaload, 1) := by decide +kernel
theorem dL_law_2424 : decode cL_law 2424 = .ok (.invokevirtual 255, 3) := by decide +kernel
theorem dL_law_2427 : decode cL_law 2427 = .ok (.istore 7, 2) := by decide +kernel
theorem dL_law_2429 : decode cL_law 2429 = .ok (.aload_n 2, 1) := by decide +kernel
theorem dL_law_2430 : decode cL_law 2430 = .ok (.invokevirtual 152, 3) := by decide +kernel
theorem dL_law_2433 : decode cL_law 2433 = .ok (.iload 6, 2) := by decide +kernel
theorem dL_law_2435 : decode cL_law 2435 = .ok (.if_icmp .eq 5, 3) := by decide +kernel
theorem dL_law_2440 : decode cL_law 2440 = .ok (.iload 6, 2) := by decide +kernel
theorem dL_law_2442 : decode cL_law 2442 = .ok (.ifCond .ne 15, 3) := by decide +kernel
theorem dL_law_2457 : decode cL_law 2457 = .ok (.goto 249, 3) := by decide +kernel
theorem dL_law_2460 : decode cL_law 2460 = .ok (.aload_n 1, 1) := by decide +kernel
theorem dL_law_2461 : decode cL_law 2461 = .ok (.invokevirtual 256, 3) := by decide +kernel
theorem dL_law_2464 : decode cL_law 2464 = .ok (.aload_n 2, 1) := by decide +kernel
theorem dL_law_2465 : decode cL_law 2465 = .ok (.invokevirtual 259, 3) := by decide +kernel
theorem dL_law_2468 : decode cL_law 2468 = .ok (.if_icmp .eq 238, 3) := by decide +kernel
theorem dL_law_2473 : decode cL_law 2473 = .ok (.aload_n 1, 1) := by decide +kernel
theorem dL_law_2474 : decode cL_law 2474 = .ok (.invokevirtual 260, 3) := by decide +kernel
theorem dL_law_2477 : decode cL_law 2477 = .ok (.aload_n 2, 1) := by decide +kernel
theorem dL_law_2478 : decode cL_law 2478 = .ok (.invokevirtual 263, 3) := by decide +kernel
theorem dL_law_2481 : decode cL_law 2481 = .ok (.if_icmp .eq 225, 3) := by decide +kernel
theorem dL_law_2486 : decode cL_law 2486 = .ok (.aload_n 1, 1) := by decide +kernel
theorem dL_law_2487 : decode cL_law 2487 = .ok (.invokevirtual 264, 3) := by decide +kernel
theorem dL_law_2490 : decode cL_law 2490 = .ok (.aload_n 2, 1) := by decide +kernel
theorem dL_law_2491 : decode cL_law 2491 = .ok (.invokevirtual 268, 3) := by decide +kernel
theorem dL_law_2494 : decode cL_law 2494 = .ok (.lcmp, 1) := by decide +kernel
theorem dL_law_2495 : decode cL_law 2495 = .ok (.ifCond .eq 211, 3) := by decide +kernel
theorem dL_law_2500 : decode cL_law 2500 = .ok (.aload_n 1, 1) := by decide +kernel
theorem dL_law_2501 : decode cL_law 2501 = .ok (.aload_n 0, 1) := by decide +kernel
theorem dL_law_2502 : decode cL_law 2502 = .ok (.iload 5, 2) := by decide +kernel
theorem dL_law_2504 : decode cL_law 2504 = .ok (.iconst 1, 1) := by decide +kernel
theorem dL_law_2505 : decode cL_law 2505 = .ok (.iadd, 1) := by decide +kernel
theorem dL_law_2506 : decode cL_law 2506 = .ok (.iaload, 1) := by decide +kernel
theorem dL_law_2507 : decode cL_law 2507 = .ok (.aload 4, 2) := by decide +kernel
theorem dL_law_2509 : decode cL_law 2509 = .ok (.invokestatic 269, 3) := by decide +kernel
theorem dL_law_2512 : decode cL_law 2512 = .ok (.istore 6, 2) := by decide +kernel
theorem dL_law_2514 : decode cL_law 2514 = .ok (.aload_n 2, 1) := by decide +kernel
theorem dL_law_2515 : decode cL_law 2515 = .ok (.aload_n 0, 1) := by decide +kernel
theorem dL_law_2516 : decode cL_law 2516 = .ok (.iload 5, 2) := by decide +kernel
theorem dL_law_2518 : decode cL_law 2518 = .ok (.iconst 1, 1) := by decide +kernel
theorem dL_law_2519 : decode cL_law 2519 = .ok (.iadd, 1) := by decide +kernel
theorem dL_law_2520 : decode cL_law 2520 = .ok (.iaload, 1) := by decide +kernel
theorem dL_law_2521 : decode cL_law 2521 = .ok (.invokevirtual 272, 3) := by decide +kernel
theorem dL_law_2524 : decode cL_law 2524 = .ok (.fstore 7, 2) := by decide +kernel
theorem dL_law_2526 : decode cL_law 2526 = .ok (.aload_n 2, 1) := by decide +kernel
theorem dL_law_2527 : decode cL_law 2527 = .ok (.invokevirtual 152, 3) := by decide +kernel
theorem dL_law_2530 : decode cL_law 2530 = .ok (.iload 6, 2) := by decide +kernel
theorem dL_law_2532 : decode cL_law 2532 = .ok (.if_icmp .eq 5, 3) := by decide +kernel
theorem dL_law_2537 : decode cL_law 2537 = .ok (.iload 6, 2) := by decide +kernel
theorem dL_law_2539 : decode cL_law 2539 = .ok (.ifCond .ne 36, 3) := by decide +kernel
theorem dL_law_2575 : decode cL_law 2575 = .ok (.goto 131, 3) := by decide +kernel
theorem dL_law_2578 : decode cL_law 2578 = .ok (.aload_n 1, 1) := by decide +kernel
theorem dL_law_2579 : decode cL_law 2579 = .ok (.aload 4, 2) := by decide +kernel
theorem dL_law_2581 : decode cL_law 2581 = .ok (.invokestatic 273, 3) := by decide +kernel
theorem dL_law_2584 : decode cL_law 2584 = .ok (.istore 6, 2) := by decide +kernel
theorem dL_law_2586 : decode cL_law 2586 = .ok (.aload_n 2, 1) := by decide +kernel
theorem dL_law_2587 : decode cL_law 2587 = .ok (.invokevirtual 276, 3) := by decide +kernel
theorem dL_law_2590 : decode cL_law 2590 = .ok (.dstore 7, 2) := by decide +kernel
theorem dL_law_2592 : decode cL_law 2592 = .ok (.aload_n 2, 1) := by decide +kernel
theorem dL_law_2593 : decode cL_law 2593 = .ok (.invokevirtual 152, 3) := by decide +kernel
theorem dL_law_2596 : decode cL_law 2596 = .ok (.iload 6, 2) := by decide +kernel
theorem dL_law_2598 : decode cL_law 2598 = .ok (.if_icmp .eq 5, 3) := by decide +kernel
theorem dL_law_2603 : decode cL_law 2603 = .ok (.iload 6, 2) := by decide +kernel
theorem dL_law_2605 : decode cL_law 2605 = .ok (.ifCond .ne 35, 3) := by decide +kernel
theorem dL_law_2640 : decode cL_law 2640 = .ok (.goto 66, 3) := by decide +kernel
theorem dL_law_2643 : decode cL_law 2643 = .ok (.aload_n 1, 1) := by decide +kernel
theorem dL_law_2644 : decode cL_law 2644 = .ok (.aload_n 0, 1) := by decide +kernel
theorem dL_law_2645 : decode cL_law 2645 = .ok (.iload 5, 2) := by decide +kernel
theorem dL_law_2647 : decode cL_law 2647 = .ok (.iconst 1, 1) := by decide +kernel
theorem dL_law_2648 : decode cL_law 2648 = .ok (.iadd, 1) := by decide +kernel
theorem dL_law_2649 : decode cL_law 2649 = .ok (.iaload, 1) := by decide +kernel
theorem dL_law_2650 : decode cL_law 2650 = .ok (.aload_n 3, 1) := by decide +kernel
theorem dL_law_2651 : decode cL_law 2651 = .ok (.invokestatic 277, 3) := by decide +kernel
theorem dL_law_2654 : decode cL_law 2654 = .ok (.istore 6, 2) := by decide +kernel
theorem dL_law_2656 : decode cL_law 2656 = .ok (.aload_n 2, 1) := by decide +kernel
theorem dL_law_2657 : decode cL_law 2657 = .ok (.aload_n 0, 1) := by decide +kernel
theorem dL_law_2658 : decode cL_law 2658 = .ok (.iload 5, 2) := by decide +kernel
theorem dL_law_2660 : decode cL_law 2660 = .ok (.iconst 1, 1) := by decide +kernel
theorem dL_law_2661 : decode cL_law 2661 = .ok (.iadd, 1) := by decide +kernel
theorem dL_law_2662 : decode cL_law 2662 = .ok (.iaload, 1) := by decide +kernel
theorem dL_law_2663 : decode cL_law 2663 = .ok (.invokevirtual 279, 3) := by decide +kernel
theorem dL_law_2666 : decode cL_law 2666 = .ok (.istore 7, 2) := by decide +kernel
theorem dL_law_2668 : decode cL_law 2668 = .ok (.aload_n 2, 1) := by decide +kernel
theorem dL_law_2669 : decode cL_law 2669 = .ok (.invokevirtual 152, 3) := by decide +kernel
theorem dL_law_2672 : decode cL_law 2672 = .ok (.iload 6, 2) := by decide +kernel
theorem dL_law_2674 : decode cL_law 2674 = .ok (.if_icmp .eq 5, 3) := by decide +kernel
theorem dL_law_2679 : decode cL_law 2679 = .ok (.iload 6, 2) := by decide +kernel
theorem dL_law_2681 : decode cL_law 2681 = .ok (.ifCond .ne 22, 3) := by decide +kernel
theorem dL_law_2684 : decode cL_law 2684 = .ok (.aload_n 3, 1) := by decide +kernel
theorem dL_law_2685 : decode cL_law 2685 = .ok (.iconst 0, 1) := by decide +kernel
theorem dL_law_2686 : decode cL_law 2686 = .ok (.laload, 1) := by decide +kernel
theorem dL_law_2687 : decode cL_law 2687 = .ok (.iload 7, 2) := by decide +kernel
theorem dL_law_2689 : decode cL_law 2689 = .ok (.ifCond .eq 7, 3) := by decide +kernel
theorem dL_law_2692 : decode cL_law 2692 = .ok (.lconst 1, 1) := by decide +kernel
theorem dL_law_2693 : decode cL_law 2693 = .ok (.goto 4, 3) := by decide +kernel
theorem dL_law_2697 : decode cL_law 2697 = .ok (.lcmp, 1) := by decide +kernel
theorem dL_law_2698 : decode cL_law 2698 = .ok (.ifCond .eq 5, 3) := by decide +kernel
theorem dL_law_2703 : decode cL_law 2703 = .ok (.goto 3, 3) := by decide +kernel
set_option maxHeartbeats 4000000 in
set_option maxRecDepth 100000 in
theorem c_peak (l : Launch) {p : Program} {e : Env} {s : State} {m : MethodId} {below : List Frame} {meth : Method} {c : Code} {D : va_G} {cy : Nat → ClassId} {A : Nat → Prop} {b : Nat} {xs : Nat → Int32} {Q : State → Prop} {H : Heap} {locs : List Loc} {ls : Array Slot} (Z : zLaw l p s m c D cy A b 9 xs) (x0 : Nat) (g0 : Nat) (o1 : Nat) (o2 : Nat) (vC : Nat) (vP : Nat) (vT : Nat) (vS : Nat) (vF : Nat) (vN : Nat) (vY : Nat) (sS : Nat) (sJ : Nat) (m0 : Nat) (m1 : Nat) (m2 : Nat) (m3 : Nat) (m4 : Nat) (m5 : Nat) (m6 : Nat) (m7 : Nat) (m8 : Nat) (m9 : Nat) (m10 : Nat) (m11 : Nat) (m12 : Nat) (m13 : Nat) (m14 : Nat) (m15 : Nat) (m16 : Nat) (m17 : Nat) (m18 : Nat) (m19 : Nat) (m20 : Nat)  (hP : va_P D vwCl [(x0, .inr (12, [.ref vC, .ref vP, .ref vT, .ref vS, .ref vF, .ref vN, .ref vY, .int 0])), (vC, .inr (3, [.ref sS, .ref sJ, .int 0, .int 0])), (g0, .inr (17, [.ref m0, .ref m1, .ref m2, .ref m3, .ref m4, .ref m5, .ref m6, .ref m7, .ref m8, .ref m9, .ref m10, .ref m11, .ref m12, .ref m13, .ref m14, .ref m15, .ref m16, .ref m17, .ref m18, .ref m19, .ref m20, .int 0, .int 0, .int 0, .int 0, .long 0, .int 0]))] H) (hD : va_D A [(x0, .inr (12, [.ref vC, .ref vP, .ref vT, .ref vS, .ref vF, .ref vN, .ref vY, .int 0])), (vC, .inr (3, [.ref sS, .ref sJ, .int 0, .int 0])), (g0, .inr (17, [.ref m0, .ref m1, .ref m2, .ref m3, .ref m4, .ref m5, .ref m6, .ref m7, .ref m8, .ref m9, .ref m10, .ref m11, .ref m12, .ref m13, .ref m14, .ref m15, .ref m16, .ref m17, .ref m18, .ref m19, .ref m20, .int 0, .int 0, .int 0, .int 0, .long 0, .int 0]))]) (hS : va_S A s.heap H locs) (hl : lv_has ls 9 [(0, .ref b), (1, .ref x0), (2, .ref g0), (3, .ref o1), (4, .ref o2), (5, .int 0)]) (kt : ∀ (H : Heap) (locs : List Loc) (ls : Array Slot), va_S A s.heap H locs → lv_has ls 9 [(0, .ref b), (5, .int 0)] → W p l e room_1 s m #[Value.ref b] below meth c H locs 600006 7302040 Q (F0 m 2706 ls [])) : W p l e room_1 s m #[Value.ref b] below meth c H locs 213 25112 Q (F0 m 1510 ls []) := by
  obtain ⟨hx, hb, hml, hown, hts, hK, hX, hY, hA, hXs, hbl, hbA, hlt⟩ := id Z
  refine lv_aload_n hx hb dL_law_1510 rfl (lv_at hl 1 rfl) ?_
  refine lv_aload_n hx hb dL_law_1511 rfl (lv_at hl 0 rfl) ?_
  refine lv_iload hx hb dL_law_1512 (lv_at hl 5 rfl) ?_
  refine lv_iconst (v := 1) hx hb dL_law_1514 (by decide) ?_
  refine lv_iadd hx hb dL_law_1515 ?_
  refine lv_topi (fun y1 ey1 => ?_)
  obtain rfl : y1 = 1 := ey1.trans (by decide +kernel)
  refine va_sld hx hb hXs hbl hbA hS (z_in 1 (by decide) (by decide)) dL_law_1516 ?_
  refine lv_topi (fun y2 ey2 => ?_)
  obtain rfl : y2 = (xs 1) := ey2.trans rfl
  refine lv_aload_n hx hb dL_law_1517 rfl (lv_at hl 3 rfl) ?_
  refine zq_i (wc := [(x0, .inr (12, [.ref vC, .ref vP, .ref vT, .ref vS, .ref vF, .ref vN, .ref vY, .int 0])), (vC, .inr (3, [.ref sS, .ref sJ, .int 0, .int 0]))]) (wr := [(g0, .inr (17, [.ref m0, .ref m1, .ref m2, .ref m3, .ref m4, .ref m5, .ref m6, .ref m7, .ref m8, .ref m9, .ref m10, .ref m11, .ref m12, .ref m13, .ref m14, .ref m15, .ref m16, .ref m17, .ref m18, .ref m19, .ref m20, .int 0, .int 0, .int 0, .int 0, .long 0, .int 0]))]) (vx_runSW (As := [.ref x0, .int (xs 1), .ref o1]) (rest := []) ⟨hx, hb, hml, hown, hts⟩ (w_peak l hlt D cy x0 vC vP vT vS vF vN vY sS sJ (xs 1) o1 H.size ) (vx_cwSW 3 hts (gzS (gzW q694) q693 q695 q565) rfl rfl rfl vL_peak.2 ⟨Nat.le_of_ble_eq_true rfl, Nat.le_of_ble_eq_true rfl⟩) (zpS hK hX hY hP hD hS hA [0, 1] (by decide) rfl) rfl rfl hl.1 rfl (lv_room (Nat.le_of_ble_eq_true rfl)) dL_law_1518 ⟨Nat.le_of_ble_eq_true rfl, Nat.le_of_ble_eq_true rfl⟩) hP hD hS hA [0, 1] [2] rfl rfl (by decide) (by decide) (fun x4 u3 H locs hw hP hD hS => ?_)
  obtain rfl : x4 = 1 := hw
  have hP : va_P D vwCl [(g0, .inr (17, [.ref m0, .ref m1, .ref m2, .ref m3, .ref m4, .ref m5, .ref m6, .ref m7, .ref m8, .ref m9, .ref m10, .ref m11, .ref m12, .ref m13, .ref m14, .ref m15, .ref m16, .ref m17, .ref m18, .ref m19, .ref m20, .int 0, .int 0, .int 0, .int 0, .long 0, .int 0]))] H := hP
  have hD : va_D A [(g0, .inr (17, [.ref m0, .ref m1, .ref m2, .ref m3, .ref m4, .ref m5, .ref m6, .ref m7, .ref m8, .ref m9, .ref m10, .ref m11, .ref m12, .ref m13, .ref m14, .ref m15, .ref m16, .ref m17, .ref m18, .ref m19, .ref m20, .int 0, .int 0, .int 0, .int 0, .long 0, .int 0]))] := hD
  refine W.widen (k := 214) (n := 25118) (by omega) (by omega) ?_
  refine lv_istore (lv' := [(6, .int 1), (0, .ref b), (1, .ref x0), (2, .ref g0), (3, .ref o1), (4, .ref o2), (5, .int 0)]) hx hb dL_law_1521 hl (by decide) rfl (fun ls hl => ?_)
  refine lv_aload_n hx hb dL_law_1523 rfl (lv_at hl 3 rfl) ?_
  refine lv_aload_n hx hb dL_law_1524 rfl (lv_at hl 1 rfl) ?_
  refine lv_iload hx hb dL_law_1525 (lv_at hl 6 rfl) ?_
  refine lv_iconst (v := 1) hx hb dL_law_1527 (by decide) ?_
  refine lv_iadd hx hb dL_law_1528 ?_
  refine lv_topi (fun y5 ey5 => ?_)
  obtain rfl : y5 = 1 := ey5.trans (by decide +kernel)
  refine va_sld hx hb hXs hbl hbA hS (z_in 1 (by decide) (by decide)) dL_law_1529 ?_
  refine lv_topi (fun y6 ey6 => ?_)
  obtain rfl : y6 = (xs 1) := ey6.trans rfl
  refine zq_i (wc := [(g0, .inr (17, [.ref m0, .ref m1, .ref m2, .ref m3, .ref m4, .ref m5, .ref m6, .ref m7, .ref m8, .ref m9, .ref m10, .ref m11, .ref m12, .ref m13, .ref m14, .ref m15, .ref m16, .ref m17, .ref m18, .ref m19, .ref m20, .int 0, .int 0, .int 0, .int 0, .long 0, .int 0]))]) (wr := []) (va_runV (As := [.int (xs 1)]) (rest := []) ⟨hx, hb, hml, hown, hts⟩ (g_peak l D cy g0 m0 m1 m2 m3 m4 m5 m6 m7 m8 m9 m10 m11 m12 m13 m14 m15 m16 m17 m18 m19 m20 (xs 1) H.size ) (cwV 1 hts (gzV (gz q697) q696 q698 q699 q285) rfl rfl rfl vX14_peak ⟨Nat.le_of_ble_eq_true rfl, Nat.le_of_ble_eq_true rfl⟩) (zpV (ci := 17) (T := TX14) (N := 27) (q0 := 0) hK hX hY hP hD hS hA [0] (by decide) rfl rfl rfl) rfl rfl hl.1 rfl (lv_room (Nat.le_of_ble_eq_true rfl)) dL_law_1530 ⟨Nat.le_of_ble_eq_true rfl, Nat.le_of_ble_eq_true rfl⟩) hP hD hS hA [0] [] rfl rfl (by decide) (by decide) (fun x8 u7 H locs hw hP hD hS => ?_)
  obtain rfl : x8 = 0 := hw
  have hP : va_P D vwCl [(g0, .inr (17, [.ref m0, .ref m1, .ref m2, .ref m3, .ref m4, .ref m5, .ref m6, .ref m7, .ref m8, .ref m9, .ref m10, .ref m11, .ref m12, .ref m13, .ref m14, .ref m15, .ref m16, .ref m17, .ref m18, .ref m19, .ref m20, .int 1, .int 0, .int 0, .int 0, .long 0, .int 0]))] H := hP
  have hD : va_D A [(g0, .inr (17, [.ref m0, .ref m1, .ref m2, .ref m3, .ref m4, .ref m5, .ref m6, .ref m7, .ref m8, .ref m9, .ref m10, .ref m11, .ref m12, .ref m13, .ref m14, .ref m15, .ref m16, .ref m17, .ref m18, .ref m19, .ref m20, .int 1, .int 0, .int 0, .int 0, .long 0, .int 0]))] := hD
  refine lv_istore (lv' := [(7, .int 0), (6, .int 1), (0, .ref b), (1, .ref x0), (2, .ref g0), (3, .ref o1), (4, .ref o2), (5, .int 0)]) hx hb dL_law_1533 hl (by decide) rfl (fun ls hl => ?_)
  refine lv_aload_n hx hb dL_law_1535 rfl (lv_at hl 4 rfl) ?_
  refine zq_i (wc := [(g0, .inr (17, [.ref m0, .ref m1, .ref m2, .ref m3, .ref m4, .ref m5, .ref m6, .ref m7, .ref m8, .ref m9, .ref m10, .ref m11, .ref m12, .ref m13, .ref m14, .ref m15, .ref m16, .ref m17, .ref m18, .ref m19, .ref m20, .int 1, .int 0, .int 0, .int 0, .long 0, .int 0]))]) (wr := []) (va_runV (As := []) (rest := []) ⟨hx, hb, hml, hown, hts⟩ (k_thrown l D cy g0 m0 m1 m2 m3 m4 m5 m6 m7 m8 m9 m10 m11 m12 m13 m14 m15 m16 m17 m18 m19 m20 1 0 0 0 0 0 H.size ) (cwV 0 hts (gzV (gz q571) q570 q572 q573 q285) rfl rfl rfl vX14_thrown ⟨Nat.le_of_ble_eq_true rfl, Nat.le_of_ble_eq_true rfl⟩) (zpV (ci := 17) (T := TX14) (N := 27) (q0 := 0) hK hX hY hP hD hS hA [0] (by decide) rfl rfl rfl) rfl rfl hl.1 rfl (lv_room (Nat.le_of_ble_eq_true rfl)) dL_law_1536 ⟨Nat.le_of_ble_eq_true rfl, Nat.le_of_ble_eq_true rfl⟩) hP hD hS hA [0] [] rfl rfl (by decide) (by decide) (fun x10 u9 H locs hw hP hD hS => ?_)
  obtain rfl : x10 = 1 := hw
  have hP : va_P D vwCl [(g0, .inr (17, [.ref m0, .ref m1, .ref m2, .ref m3, .ref m4, .ref m5, .ref m6, .ref m7, .ref m8, .ref m9, .ref m10, .ref m11, .ref m12, .ref m13, .ref m14, .ref m15, .ref m16, .ref m17, .ref m18, .ref m19, .ref m20, .int 1, .int 0, .int 0, .int 0, .long 0, .int 0]))] H := hP
  have hD : va_D A [(g0, .inr (17, [.ref m0, .ref m1, .ref m2, .ref m3, .ref m4, .ref m5, .ref m6, .ref m7, .ref m8, .ref m9, .ref m10, .ref m11, .ref m12, .ref m13, .ref m14, .ref m15, .ref m16, .ref m17, .ref m18, .ref m19, .ref m20, .int 1, .int 0, .int 0, .int 0, .long 0, .int 0]))] := hD
  refine lv_iload hx hb dL_law_1539 (lv_at hl 1 rfl) ?_
  refine lv_icmp_eq (tgt := 1546) hx hb dL_law_1541 (by decide) (fun _ => ?_) (fun c_1541_10 => absurd (by decide +kernel) c_1541_10)
  refine lv_iload hx hb dL_law_1546 (lv_at hl 1 rfl) ?_
  refine lv_if_ne (tgt := 1563) hx hb dL_law_1548 (by decide) (fun _ => ?_) (fun c_1548_11 => absurd c_1548_11 (by decide +kernel))
  refine lv_goto (tgt := 2706) hx hb dL_law_1563 (by decide) ?_
  exact W.widen (k := 600006) (n := 7302040) (Nat.le_of_ble_eq_true rfl) (Nat.le_of_ble_eq_true rfl) (kt _ _ _ hS (lv_sub hl [2, 7] rfl))
set_option maxHeartbeats 4000000 in
set_option maxRecDepth 100000 in
theorem c_rain_no1 (l : Launch) {p : Program} {e : Env} {s : State} {m : MethodId} {below : List Frame} {meth : Method} {c : Code} {D : va_G} {cy : Nat → ClassId} {A : Nat → Prop} {b : Nat} {xs : Nat → Int32} {Q : State → Prop} {H : Heap} {locs : List Loc} {ls : Array Slot} (Z : zLaw l p s m c D cy A b 9 xs) (x0 : Nat) (g0 : Nat) (o1 : Nat) (o2 : Nat) (vC : Nat) (vP : Nat) (vT : Nat) (vS : Nat) (vF : Nat) (vN : Nat) (vY : Nat) (m0 : Nat) (m1 : Nat) (m2 : Nat) (m3 : Nat) (m4 : Nat) (m5 : Nat) (m6 : Nat) (m7 : Nat) (m8 : Nat) (m9 : Nat) (m10 : Nat) (m11 : Nat) (m12 : Nat) (m13 : Nat) (m14 : Nat) (m15 : Nat) (m16 : Nat) (m17 : Nat) (m18 : Nat) (m19 : Nat) (m20 : Nat) (hq0 : (xs 1) < 0 ∨ ¬ (xs 1) ≤ 199) (hP : va_P D vwCl [(x0, .inr (12, [.ref vC, .ref vP, .ref vT, .ref vS, .ref vF, .ref vN, .ref vY, .int 0])), (g0, .inr (17, [.ref m0, .ref m1, .ref m2, .ref m3, .ref m4, .ref m5, .ref m6, .ref m7, .ref m8, .ref m9, .ref m10, .ref m11, .ref m12, .ref m13, .ref m14, .ref m15, .ref m16, .ref m17, .ref m18, .ref m19, .ref m20, .int 0, .int 0, .int 0, .int 0, .long 0, .int 0]))] H) (hD : va_D A [(x0, .inr (12, [.ref vC, .ref vP, .ref vT, .ref vS, .ref vF, .ref vN, .ref vY, .int 0])), (g0, .inr (17, [.ref m0, .ref m1, .ref m2, .ref m3, .ref m4, .ref m5, .ref m6, .ref m7, .ref m8, .ref m9, .ref m10, .ref m11, .ref m12, .ref m13, .ref m14, .ref m15, .ref m16, .ref m17, .ref m18, .ref m19, .ref m20, .int 0, .int 0, .int 0, .int 0, .long 0, .int 0]))]) (hS : va_S A s.heap H locs) (hl : lv_has ls 9 [(0, .ref b), (1, .ref x0), (2, .ref g0), (3, .ref o1), (4, .ref o2), (5, .int 0)]) (kt : ∀ (H : Heap) (locs : List Loc) (ls : Array Slot), va_S A s.heap H locs → lv_has ls 9 [(0, .ref b), (5, .int 0)] → W p l e room_1 s m #[Value.ref b] below meth c H locs 600006 7302040 Q (F0 m 2706 ls [])) : W p l e room_1 s m #[Value.ref b] below meth c H locs 213 25112 Q (F0 m 1566 ls []) := by
  obtain ⟨hx, hb, hml, hown, hts, hK, hX, hY, hA, hXs, hbl, hbA, hlt⟩ := id Z
  refine lv_aload_n hx hb dL_law_1566 rfl (lv_at hl 1 rfl) ?_
  refine lv_aload_n hx hb dL_law_1567 rfl (lv_at hl 0 rfl) ?_
  refine lv_iload hx hb dL_law_1568 (lv_at hl 5 rfl) ?_
  refine lv_iconst (v := 1) hx hb dL_law_1570 (by decide) ?_
  refine lv_iadd hx hb dL_law_1571 ?_
  refine lv_topi (fun y1 ey1 => ?_)
  obtain rfl : y1 = 1 := ey1.trans (by decide +kernel)
  refine va_sld hx hb hXs hbl hbA hS (z_in 1 (by decide) (by decide)) dL_law_1572 ?_
  refine lv_topi (fun y2 ey2 => ?_)
  obtain rfl : y2 = (xs 1) := ey2.trans rfl
  refine lv_aload_n hx hb dL_law_1573 rfl (lv_at hl 0 rfl) ?_
  refine lv_iload hx hb dL_law_1574 (lv_at hl 5 rfl) ?_
  refine lv_iconst (v := 2) hx hb dL_law_1576 (by decide) ?_
  refine lv_iadd hx hb dL_law_1577 ?_
  refine lv_topi (fun y3 ey3 => ?_)
  obtain rfl : y3 = 2 := ey3.trans (by decide +kernel)
  refine va_sld hx hb hXs hbl hbA hS (z_in 2 (by decide) (by decide)) dL_law_1578 ?_
  refine lv_topi (fun y4 ey4 => ?_)
  obtain rfl : y4 = (xs 2) := ey4.trans rfl
  refine lv_aload_n hx hb dL_law_1579 rfl (lv_at hl 3 rfl) ?_
  refine zq_i (wc := [(x0, .inr (12, [.ref vC, .ref vP, .ref vT, .ref vS, .ref vF, .ref vN, .ref vY, .int 0]))]) (wr := [(g0, .inr (17, [.ref m0, .ref m1, .ref m2, .ref m3, .ref m4, .ref m5, .ref m6, .ref m7, .ref m8, .ref m9, .ref m10, .ref m11, .ref m12, .ref m13, .ref m14, .ref m15, .ref m16, .ref m17, .ref m18, .ref m19, .ref m20, .int 0, .int 0, .int 0, .int 0, .long 0, .int 0]))]) (vx_runSW (As := [.ref x0, .int (xs 1), .int (xs 2), .ref o1]) (rest := []) ⟨hx, hb, hml, hown, hts⟩ (w_rain_no1 l hlt D cy x0 vC vP vT vS vF vN vY (xs 1) (xs 2) o1 H.size hq0) (vx_cwSW 4 hts (gzS (gzW q701) q700 q702 q565) rfl rfl rfl vL_rain.2 ⟨Nat.le_of_ble_eq_true rfl, Nat.le_of_ble_eq_true rfl⟩) (zpS hK hX hY hP hD hS hA [0] (by decide) rfl) rfl rfl hl.1 rfl (lv_room (Nat.le_of_ble_eq_true rfl)) dL_law_1580 ⟨Nat.le_of_ble_eq_true rfl, Nat.le_of_ble_eq_true rfl⟩) hP hD hS hA [0] [1] rfl rfl (by decide) (by decide) (fun x6 u5 H locs hw hP hD hS => ?_)
  obtain rfl : x6 = 1 := hw
  have hP : va_P D vwCl [(g0, .inr (17, [.ref m0, .ref m1, .ref m2, .ref m3, .ref m4, .ref m5, .ref m6, .ref m7, .ref m8, .ref m9, .ref m10, .ref m11, .ref m12, .ref m13, .ref m14, .ref m15, .ref m16, .ref m17, .ref m18, .ref m19, .ref m20, .int 0, .int 0, .int 0, .int 0, .long 0, .int 0]))] H := hP
  have hD : va_D A [(g0, .inr (17, [.ref m0, .ref m1, .ref m2, .ref m3, .ref m4, .ref m5, .ref m6, .ref m7, .ref m8, .ref m9, .ref m10, .ref m11, .ref m12, .ref m13, .ref m14, .ref m15, .ref m16, .ref m17, .ref m18, .ref m19, .ref m20, .int 0, .int 0, .int 0, .int 0, .long 0, .int 0]))] := hD
  refine W.widen (k := 214) (n := 25118) (by omega) (by omega) ?_
  refine lv_istore (lv' := [(6, .int 1), (0, .ref b), (1, .ref x0), (2, .ref g0), (3, .ref o1), (4, .ref o2), (5, .int 0)]) hx hb dL_law_1583 hl (by decide) rfl (fun ls hl => ?_)
  refine lv_aload_n hx hb dL_law_1585 rfl (lv_at hl 3 rfl) ?_
  refine lv_aload_n hx hb dL_law_1586 rfl (lv_at hl 1 rfl) ?_
  refine lv_iload hx hb dL_law_1587 (lv_at hl 6 rfl) ?_
  refine lv_iconst (v := 1) hx hb dL_law_1589 (by decide) ?_
  refine lv_iadd hx hb dL_law_1590 ?_
  refine lv_topi (fun y7 ey7 => ?_)
  obtain rfl : y7 = 1 := ey7.trans (by decide +kernel)
  refine va_sld hx hb hXs hbl hbA hS (z_in 1 (by decide) (by decide)) dL_law_1591 ?_
  refine lv_topi (fun y8 ey8 => ?_)
  obtain rfl : y8 = (xs 1) := ey8.trans rfl
  refine lv_aload_n hx hb dL_law_1592 rfl (lv_at hl 1 rfl) ?_
  refine lv_iload hx hb dL_law_1593 (lv_at hl 6 rfl) ?_
  refine lv_iconst (v := 2) hx hb dL_law_1595 (by decide) ?_
  refine lv_iadd hx hb dL_law_1596 ?_
  refine lv_topi (fun y9 ey9 => ?_)
  obtain rfl : y9 = 2 := ey9.trans (by decide +kernel)
  refine va_sld hx hb hXs hbl hbA hS (z_in 2 (by decide) (by decide)) dL_law_1597 ?_
  refine lv_topi (fun y10 ey10 => ?_)
  obtain rfl : y10 = (xs 2) := ey10.trans rfl
  refine zq_i (wc := [(g0, .inr (17, [.ref m0, .ref m1, .ref m2, .ref m3, .ref m4, .ref m5, .ref m6, .ref m7, .ref m8, .ref m9, .ref m10, .ref m11, .ref m12, .ref m13, .ref m14, .ref m15, .ref m16, .ref m17, .ref m18, .ref m19, .ref m20, .int 0, .int 0, .int 0, .int 0, .long 0, .int 0]))]) (wr := []) (va_runV (As := [.int (xs 1), .int (xs 2)]) (rest := []) ⟨hx, hb, hml, hown, hts⟩ (g_rain_no1 l D cy g0 m0 m1 m2 m3 m4 m5 m6 m7 m8 m9 m10 m11 m12 m13 m14 m15 m16 m17 m18 m19 m20 (xs 1) (xs 2) H.size hq0) (cwV 2 hts (gzV (gz q704) q703 q705 q706 q285) rfl rfl rfl vX14_rain ⟨Nat.le_of_ble_eq_true rfl, Nat.le_of_ble_eq_true rfl⟩) (zpV (ci := 17) (T := TX14) (N := 27) (q0 := 0) hK hX hY hP hD hS hA [0] (by decide) rfl rfl rfl) rfl rfl hl.1 rfl (lv_room (Nat.le_of_ble_eq_true rfl)) dL_law_1598 ⟨Nat.le_of_ble_eq_true rfl, Nat.le_of_ble_eq_true rfl⟩) hP hD hS hA [0] [] rfl rfl (by decide) (by decide) (fun x12 u11 H locs hw hP hD hS => ?_)
  obtain rfl : x12 = 0 := hw
  have hP : va_P D vwCl [(g0, .inr (17, [.ref m0, .ref m1, .ref m2, .ref m3, .ref m4, .ref m5, .ref m6, .ref m7, .ref m8, .ref m9, .ref m10, .ref m11, .ref m12, .ref m13, .ref m14, .ref m15, .ref m16, .ref m17, .ref m18, .ref m19, .ref m20, .int 1, .int 0, .int 0, .int 0, .long 0, .int 0]))] H := hP
  have hD : va_D A [(g0, .inr (17, [.ref m0, .ref m1, .ref m2, .ref m3, .ref m4, .ref m5, .ref m6, .ref m7, .ref m8, .ref m9, .ref m10, .ref m11, .ref m12, .ref m13, .ref m14, .ref m15, .ref m16, .ref m17, .ref m18, .ref m19, .ref m20, .int 1, .int 0, .int 0, .int 0, .long 0, .int 0]))] := hD
  refine lv_istore (lv' := [(7, .int 0), (6, .int 1), (0, .ref b), (1, .ref x0), (2, .ref g0), (3, .ref o1), (4, .ref o2), (5, .int 0)]) hx hb dL_law_1601 hl (by decide) rfl (fun ls hl => ?_)
  refine lv_aload_n hx hb dL_law_1603 rfl (lv_at hl 4 rfl) ?_
  refine zq_i (wc := [(g0, .inr (17, [.ref m0, .ref m1, .ref m2, .ref m3, .ref m4, .ref m5, .ref m6, .ref m7, .ref m8, .ref m9, .ref m10, .ref m11, .ref m12, .ref m13, .ref m14, .ref m15, .ref m16, .ref m17, .ref m18, .ref m19, .ref m20, .int 1, .int 0, .int 0, .int 0, .long 0, .int 0]))]) (wr := []) (va_runV (As := []) (rest := []) ⟨hx, hb, hml, hown, hts⟩ (k_thrown l D cy g0 m0 m1 m2 m3 m4 m5 m6 m7 m8 m9 m10 m11 m12 m13 m14 m15 m16 m17 m18 m19 m20 1 0 0 0 0 0 H.size ) (cwV 0 hts (gzV (gz q571) q570 q572 q573 q285) rfl rfl rfl vX14_thrown ⟨Nat.le_of_ble_eq_true rfl, Nat.le_of_ble_eq_true rfl⟩) (zpV (ci := 17) (T := TX14) (N := 27) (q0 := 0) hK hX hY hP hD hS hA [0] (by decide) rfl rfl rfl) rfl rfl hl.1 rfl (lv_room (Nat.le_of_ble_eq_true rfl)) dL_law_1604 ⟨Nat.le_of_ble_eq_true rfl, Nat.le_of_ble_eq_true rfl⟩) hP hD hS hA [0] [] rfl rfl (by decide) (by decide) (fun x14 u13 H locs hw hP hD hS => ?_)
  obtain rfl : x14 = 1 := hw
  have hP : va_P D vwCl [(g0, .inr (17, [.ref m0, .ref m1, .ref m2, .ref m3, .ref m4, .ref m5, .ref m6, .ref m7, .ref m8, .ref m9, .ref m10, .ref m11, .ref m12, .ref m13, .ref m14, .ref m15, .ref m16, .ref m17, .ref m18, .ref m19, .ref m20, .int 1, .int 0, .int 0, .int 0, .long 0, .int 0]))] H := hP
  have hD : va_D A [(g0, .inr (17, [.ref m0, .ref m1, .ref m2, .ref m3, .ref m4, .ref m5, .ref m6, .ref m7, .ref m8, .ref m9, .ref m10, .ref m11, .ref m12, .ref m13, .ref m14, .ref m15, .ref m16, .ref m17, .ref m18, .ref m19, .ref m20, .int 1, .int 0, .int 0, .int 0, .long 0, .int 0]))] := hD
  refine lv_iload hx hb dL_law_1607 (lv_at hl 1 rfl) ?_
  refine lv_icmp_eq (tgt := 1614) hx hb dL_law_1609 (by decide) (fun _ => ?_) (fun c_1609_14 => absurd (by decide +kernel) c_1609_14)
  refine lv_iload hx hb dL_law_1614 (lv_at hl 1 rfl) ?_
  refine lv_if_ne (tgt := 1631) hx hb dL_law_1616 (by decide) (fun _ => ?_) (fun c_1616_15 => absurd c_1616_15 (by decide +kernel))
  refine lv_goto (tgt := 2706) hx hb dL_law_1631 (by decide) ?_
  exact W.widen (k := 600006) (n := 7302040) (Nat.le_of_ble_eq_true rfl) (Nat.le_of_ble_eq_true rfl) (kt _ _ _ hS (lv_sub hl [2, 7] rfl))
set_option maxHeartbeats 4000000 in
set_option maxRecDepth 100000 in
theorem c_rain_no2 (l : Launch) {p : Program} {e : Env} {s : State} {m : MethodId} {below : List Frame} {meth : Method} {c : Code} {D : va_G} {cy : Nat → ClassId} {A : Nat → Prop} {b : Nat} {xs : Nat → Int32} {Q : State → Prop} {H : Heap} {locs : List Loc} {ls : Array Slot} (Z : zLaw l p s m c D cy A b 9 xs) (x0 : Nat) (g0 : Nat) (o1 : Nat) (o2 : Nat) (vC : Nat) (vP : Nat) (vT : Nat) (vS : Nat) (vF : Nat) (vN : Nat) (vY : Nat) (m0 : Nat) (m1 : Nat) (m2 : Nat) (m3 : Nat) (m4 : Nat) (m5 : Nat) (m6 : Nat) (m7 : Nat) (m8 : Nat) (m9 : Nat) (m10 : Nat) (m11 : Nat) (m12 : Nat) (m13 : Nat) (m14 : Nat) (m15 : Nat) (m16 : Nat) (m17 : Nat) (m18 : Nat) (m19 : Nat) (m20 : Nat) (h1 : ¬ (xs 1) < 0) (h2 : (xs 1) ≤ 199) (hq0 : (xs 2) < 0 ∨ ¬ (xs 2) ≤ 99) (hP : va_P D vwCl [(x0, .inr (12, [.ref vC, .ref vP, .ref vT, .ref vS, .ref vF, .ref vN, .ref vY, .int 0])), (g0, .inr (17, [.ref m0, .ref m1, .ref m2, .ref m3, .ref m4, .ref m5, .ref m6, .ref m7, .ref m8, .ref m9, .ref m10, .ref m11, .ref m12, .ref m13, .ref m14, .ref m15, .ref m16, .ref m17, .ref m18, .ref m19, .ref m20, .int 0, .int 0, .int 0, .int 0, .long 0, .int 0]))] H) (hD : va_D A [(x0, .inr (12, [.ref vC, .ref vP, .ref vT, .ref vS, .ref vF, .ref vN, .ref vY, .int 0])), (g0, .inr (17, [.ref m0, .ref m1, .ref m2, .ref m3, .ref m4, .ref m5, .ref m6, .ref m7, .ref m8, .ref m9, .ref m10, .ref m11, .ref m12, .ref m13, .ref m14, .ref m15, .ref m16, .ref m17, .ref m18, .ref m19, .ref m20, .int 0, .int 0, .int 0, .int 0, .long 0, .int 0]))]) (hS : va_S A s.heap H locs) (hl : lv_has ls 9 [(0, .ref b), (1, .ref x0), (2, .ref g0), (3, .ref o1), (4, .ref o2), (5, .int 0)]) (kt : ∀ (H : Heap) (locs : List Loc) (ls : Array Slot), va_S A s.heap H locs → lv_has ls 9 [(0, .ref b), (5, .int 0)] → W p l e room_1 s m #[Value.ref b] below meth c H locs 600006 7302040 Q (F0 m 2706 ls [])) : W p l e room_1 s m #[Value.ref b] below meth c H locs 213 25112 Q (F0 m 1566 ls []) := by
  obtain ⟨hx, hb, hml, hown, hts, hK, hX, hY, hA, hXs, hbl, hbA, hlt⟩ := id Z
  refine lv_aload_n hx hb dL_law_1566 rfl (lv_at hl 1 rfl) ?_
  refine lv_aload_n hx hb dL_law_1567 rfl (lv_at hl 0 rfl) ?_
  refine lv_iload hx hb dL_law_1568 (lv_at hl 5 rfl) ?_
  refine lv_iconst (v := 1) hx hb dL_law_1570 (by decide) ?_
  refine lv_iadd hx hb dL_law_1571 ?_
  refine lv_topi (fun y1 ey1 => ?_)
  obtain rfl : y1 = 1 := ey1.trans (by decide +kernel)
  refine va_sld hx hb hXs hbl hbA hS (z_in 1 (by decide) (by decide)) dL_law_1572 ?_
  refine lv_topi (fun y2 ey2 => ?_)
  obtain rfl : y2 = (xs 1) := ey2.trans rfl
  refine lv_aload_n hx hb dL_law_1573 rfl (lv_at hl 0 rfl) ?_
  refine lv_iload hx hb dL_law_1574 (lv_at hl 5 rfl) ?_
  refine lv_iconst (v := 2) hx hb dL_law_1576 (by decide) ?_
  refine lv_iadd hx hb dL_law_1577 ?_
  refine lv_topi (fun y3 ey3 => ?_)
  obtain rfl : y3 = 2 := ey3.trans (by decide +kernel)
  refine va_sld hx hb hXs hbl hbA hS (z_in 2 (by decide) (by decide)) dL_law_1578 ?_
  refine lv_topi (fun y4 ey4 => ?_)
  obtain rfl : y4 = (xs 2) := ey4.trans rfl
  refine lv_aload_n hx hb dL_law_1579 rfl (lv_at hl 3 rfl) ?_
  refine zq_i (wc := [(x0, .inr (12, [.ref vC, .ref vP, .ref vT, .ref vS, .ref vF, .ref vN, .ref vY, .int 0]))]) (wr := [(g0, .inr (17, [.ref m0, .ref m1, .ref m2, .ref m3, .ref m4, .ref m5, .ref m6, .ref m7, .ref m8, .ref m9, .ref m10, .ref m11, .ref m12, .ref m13, .ref m14, .ref m15, .ref m16, .ref m17, .ref m18, .ref m19, .ref m20, .int 0, .int 0, .int 0, .int 0, .long 0, .int 0]))]) (vx_runSW (As := [.ref x0, .int (xs 1), .int (xs 2), .ref o1]) (rest := []) ⟨hx, hb, hml, hown, hts⟩ (w_rain_no2 l hlt D cy x0 vC vP vT vS vF vN vY (xs 1) (xs 2) o1 H.size h1 h2 hq0) (vx_cwSW 4 hts (gzS (gzW q701) q700 q702 q565) rfl rfl rfl vL_rain.2 ⟨Nat.le_of_ble_eq_true rfl, Nat.le_of_ble_eq_true rfl⟩) (zpS hK hX hY hP hD hS hA [0] (by decide) rfl) rfl rfl hl.1 rfl (lv_room (Nat.le_of_ble_eq_true rfl)) dL_law_1580 ⟨Nat.le_of_ble_eq_true rfl, Nat.le_of_ble_eq_true rfl⟩) hP hD hS hA [0] [1] rfl rfl (by decide) (by decide) (fun x6 u5 H locs hw hP hD hS => ?_)
  obtain rfl : x6 = 1 := hw
  have hP : va_P D vwCl [(g0, .inr (17, [.ref m0, .ref m1, .ref m2, .ref m3, .ref m4, .ref m5, .ref m6, .ref m7, .ref m8, .ref m9, .ref m10, .ref m11, .ref m12, .ref m13, .ref m14, .ref m15, .ref m16, .ref m17, .ref m18, .ref m19, .ref m20, .int 0, .int 0, .int 0, .int 0, .long 0, .int 0]))] H := hP
  have hD : va_D A [(g0, .inr (17, [.ref m0, .ref m1, .ref m2, .ref m3, .ref m4, .ref m5, .ref m6, .ref m7, .ref m8, .ref m9, .ref m10, .ref m11, .ref m12, .ref m13, .ref m14, .ref m15, .ref m16, .ref m17, .ref m18, .ref m19, .ref m20, .int 0, .int 0, .int 0, .int 0, .long 0, .int 0]))] := hD
  refine W.widen (k := 214) (n := 25118) (by omega) (by omega) ?_
  refine lv_istore (lv' := [(6, .int 1), (0, .ref b), (1, .ref x0), (2, .ref g0), (3, .ref o1), (4, .ref o2), (5, .int 0)]) hx hb dL_law_1583 hl (by decide) rfl (fun ls hl => ?_)
  refine lv_aload_n hx hb dL_law_1585 rfl (lv_at hl 3 rfl) ?_
  refine lv_aload_n hx hb dL_law_1586 rfl (lv_at hl 1 rfl) ?_
  refine lv_iload hx hb dL_law_1587 (lv_at hl 6 rfl) ?_
  refine lv_iconst (v := 1) hx hb dL_law_1589 (by decide) ?_
  refine lv_iadd hx hb dL_law_1590 ?_
  refine lv_topi (fun y7 ey7 => ?_)
  obtain rfl : y7 = 1 := ey7.trans (by decide +kernel)
  refine va_sld hx hb hXs hbl hbA hS (z_in 1 (by decide) (by decide)) dL_law_1591 ?_
  refine lv_topi (fun y8 ey8 => ?_)
  obtain rfl : y8 = (xs 1) := ey8.trans rfl
  refine lv_aload_n hx hb dL_law_1592 rfl (lv_at hl 1 rfl) ?_
  refine lv_iload hx hb dL_law_1593 (lv_at hl 6 rfl) ?_
  refine lv_iconst (v := 2) hx hb dL_law_1595 (by decide) ?_
  refine lv_iadd hx hb dL_law_1596 ?_
  refine lv_topi (fun y9 ey9 => ?_)
  obtain rfl : y9 = 2 := ey9.trans (by decide +kernel)
  refine va_sld hx hb hXs hbl hbA hS (z_in 2 (by decide) (by decide)) dL_law_1597 ?_
  refine lv_topi (fun y10 ey10 => ?_)
  obtain rfl : y10 = (xs 2) := ey10.trans rfl
  refine zq_i (wc := [(g0, .inr (17, [.ref m0, .ref m1, .ref m2, .ref m3, .ref m4, .ref m5, .ref m6, .ref m7, .ref m8, .ref m9, .ref m10, .ref m11, .ref m12, .ref m13, .ref m14, .ref m15, .ref m16, .ref m17, .ref m18, .ref m19, .ref m20, .int 0, .int 0, .int 0, .int 0, .long 0, .int 0]))]) (wr := []) (va_runV (As := [.int (xs 1), .int (xs 2)]) (rest := []) ⟨hx, hb, hml, hown, hts⟩ (g_rain_no2 l D cy g0 m0 m1 m2 m3 m4 m5 m6 m7 m8 m9 m10 m11 m12 m13 m14 m15 m16 m17 m18 m19 m20 (xs 1) (xs 2) H.size h1 h2 hq0) (cwV 2 hts (gzV (gz q704) q703 q705 q706 q285) rfl rfl rfl vX14_rain ⟨Nat.le_of_ble_eq_true rfl, Nat.le_of_ble_eq_true rfl⟩) (zpV (ci := 17) (T := TX14) (N := 27) (q0 := 0) hK hX hY hP hD hS hA [0] (by decide) rfl rfl rfl) rfl rfl hl.1 rfl (lv_room (Nat.le_of_ble_eq_true rfl)) dL_law_1598 ⟨Nat.le_of_ble_eq_true rfl, Nat.le_of_ble_eq_true rfl⟩) hP hD hS hA [0] [] rfl rfl (by decide) (by decide) (fun x12 u11 H locs hw hP hD hS => ?_)
  obtain rfl : x12 = 0 := hw
  have hP : va_P D vwCl [(g0, .inr (17, [.ref m0, .ref m1, .ref m2, .ref m3, .ref m4, .ref m5, .ref m6, .ref m7, .ref m8, .ref m9, .ref m10, .ref m11, .ref m12, .ref m13, .ref m14, .ref m15, .ref m16, .ref m17, .ref m18, .ref m19, .ref m20, .int 1, .int 0, .int 0, .int 0, .long 0, .int 0]))] H := hP
  have hD : va_D A [(g0, .inr (17, [.ref m0, .ref m1, .ref m2, .ref m3, .ref m4, .ref m5, .ref m6, .ref m7, .ref m8, .ref m9, .ref m10, .ref m11, .ref m12, .ref m13, .ref m14, .ref m15, .ref m16, .ref m17, .ref m18, .ref m19, .ref m20, .int 1, .int 0, .int 0, .int 0, .long 0, .int 0]))] := hD
  refine lv_istore (lv' := [(7, .int 0), (6, .int 1), (0, .ref b), (1, .ref x0), (2, .ref g0), (3, .ref o1), (4, .ref o2), (5, .int 0)]) hx hb dL_law_1601 hl (by decide) rfl (fun ls hl => ?_)
  refine lv_aload_n hx hb dL_law_1603 rfl (lv_at hl 4 rfl) ?_
  refine zq_i (wc := [(g0, .inr (17, [.ref m0, .ref m1, .ref m2, .ref m3, .ref m4, .ref m5, .ref m6, .ref m7, .ref m8, .ref m9, .ref m10, .ref m11, .ref m12, .ref m13, .ref m14, .ref m15, .ref m16, .ref m17, .ref m18, .ref m19, .ref m20, .int 1, .int 0, .int 0, .int 0, .long 0, .int 0]))]) (wr := []) (va_runV (As := []) (rest := []) ⟨hx, hb, hml, hown, hts⟩ (k_thrown l D cy g0 m0 m1 m2 m3 m4 m5 m6 m7 m8 m9 m10 m11 m12 m13 m14 m15 m16 m17 m18 m19 m20 1 0 0 0 0 0 H.size ) (cwV 0 hts (gzV (gz q571) q570 q572 q573 q285) rfl rfl rfl vX14_thrown ⟨Nat.le_of_ble_eq_true rfl, Nat.le_of_ble_eq_true rfl⟩) (zpV (ci := 17) (T := TX14) (N := 27) (q0 := 0) hK hX hY hP hD hS hA [0] (by decide) rfl rfl rfl) rfl rfl hl.1 rfl (lv_room (Nat.le_of_ble_eq_true rfl)) dL_law_1604 ⟨Nat.le_of_ble_eq_true rfl, Nat.le_of_ble_eq_true rfl⟩) hP hD hS hA [0] [] rfl rfl (by decide) (by decide) (fun x14 u13 H locs hw hP hD hS => ?_)
  obtain rfl : x14 = 1 := hw
  have hP : va_P D vwCl [(g0, .inr (17, [.ref m0, .ref m1, .ref m2, .ref m3, .ref m4, .ref m5, .ref m6, .ref m7, .ref m8, .ref m9, .ref m10, .ref m11, .ref m12, .ref m13, .ref m14, .ref m15, .ref m16, .ref m17, .ref m18, .ref m19, .ref m20, .int 1, .int 0, .int 0, .int 0, .long 0, .int 0]))] H := hP
  have hD : va_D A [(g0, .inr (17, [.ref m0, .ref m1, .ref m2, .ref m3, .ref m4, .ref m5, .ref m6, .ref m7, .ref m8, .ref m9, .ref m10, .ref m11, .ref m12, .ref m13, .ref m14, .ref m15, .ref m16, .ref m17, .ref m18, .ref m19, .ref m20, .int 1, .int 0, .int 0, .int 0, .long 0, .int 0]))] := hD
  refine lv_iload hx hb dL_law_1607 (lv_at hl 1 rfl) ?_
  refine lv_icmp_eq (tgt := 1614) hx hb dL_law_1609 (by decide) (fun _ => ?_) (fun c_1609_14 => absurd (by decide +kernel) c_1609_14)
  refine lv_iload hx hb dL_law_1614 (lv_at hl 1 rfl) ?_
  refine lv_if_ne (tgt := 1631) hx hb dL_law_1616 (by decide) (fun _ => ?_) (fun c_1616_15 => absurd c_1616_15 (by decide +kernel))
  refine lv_goto (tgt := 2706) hx hb dL_law_1631 (by decide) ?_
  exact W.widen (k := 600006) (n := 7302040) (Nat.le_of_ble_eq_true rfl) (Nat.le_of_ble_eq_true rfl) (kt _ _ _ hS (lv_sub hl [2, 7] rfl))
set_option maxHeartbeats 4000000 in
set_option maxRecDepth 100000 in
theorem c_rain_ok (l : Launch) {p : Program} {e : Env} {s : State} {m : MethodId} {below : List Frame} {meth : Method} {c : Code} {D : va_G} {cy : Nat → ClassId} {A : Nat → Prop} {b : Nat} {xs : Nat → Int32} {Q : State → Prop} {H : Heap} {locs : List Loc} {ls : Array Slot} (Z : zLaw l p s m c D cy A b 9 xs) (x0 : Nat) (g0 : Nat) (o1 : Nat) (o2 : Nat) (vC : Nat) (vP : Nat) (vT : Nat) (vS : Nat) (vF : Nat) (vN : Nat) (vY : Nat) (l1 : Nat) (l2 : Nat) (m0 : Nat) (m1 : Nat) (m2 : Nat) (m3 : Nat) (m4 : Nat) (m5 : Nat) (m6 : Nat) (m7 : Nat) (m8 : Nat) (m9 : Nat) (m10 : Nat) (m11 : Nat) (m12 : Nat) (m13 : Nat) (m14 : Nat) (m15 : Nat) (m16 : Nat) (m17 : Nat) (m18 : Nat) (m19 : Nat) (m20 : Nat) (k : Nat) (hk : k < 200) (h1 : ¬ (xs 2) < 0) (h2 : (xs 2) ≤ 99) (e1 : (xs 1) = (nI k)) (hP : va_P D vwCl [(x0, .inr (12, [.ref vC, .ref vP, .ref vT, .ref vS, .ref vF, .ref vN, .ref vY, .int 0])), (vF, .inr (4, [.ref l1, .ref l2])), (l1, .inl (cy 0, 200, .inl (fun _ => 0))), (l2, .inl (cy 0, 401, .inl (fun _ => 0))), (o1, .inl (cy 1, 1, .inr (.inl (fun _ => 0)))), (g0, .inr (17, [.ref m0, .ref m1, .ref m2, .ref m3, .ref m4, .ref m5, .ref m6, .ref m7, .ref m8, .ref m9, .ref m10, .ref m11, .ref m12, .ref m13, .ref m14, .ref m15, .ref m16, .ref m17, .ref m18, .ref m19, .ref m20, .int 0, .int 0, .int 0, .int 0, .long 0, .int 0])), (m7, .inl (cy 0, 200, .inl (fun _ => 0)))] H) (hD : va_D A [(x0, .inr (12, [.ref vC, .ref vP, .ref vT, .ref vS, .ref vF, .ref vN, .ref vY, .int 0])), (vF, .inr (4, [.ref l1, .ref l2])), (l1, .inl (cy 0, 200, .inl (fun _ => 0))), (l2, .inl (cy 0, 401, .inl (fun _ => 0))), (o1, .inl (cy 1, 1, .inr (.inl (fun _ => 0)))), (g0, .inr (17, [.ref m0, .ref m1, .ref m2, .ref m3, .ref m4, .ref m5, .ref m6, .ref m7, .ref m8, .ref m9, .ref m10, .ref m11, .ref m12, .ref m13, .ref m14, .ref m15, .ref m16, .ref m17, .ref m18, .ref m19, .ref m20, .int 0, .int 0, .int 0, .int 0, .long 0, .int 0])), (m7, .inl (cy 0, 200, .inl (fun _ => 0)))]) (hS : va_S A s.heap H locs) (hl : lv_has ls 9 [(0, .ref b), (1, .ref x0), (2, .ref g0), (3, .ref o1), (4, .ref o2), (5, .int 0)]) (kt : ∀ (H : Heap) (locs : List Loc) (ls : Array Slot), va_S A s.heap H locs → lv_has ls 9 [(0, .ref b), (5, .int 0)] → W p l e room_1 s m #[Value.ref b] below meth c H locs 600006 7302040 Q (F0 m 2706 ls [])) : W p l e room_1 s m #[Value.ref b] below meth c H locs 213 25112 Q (F0 m 1566 ls []) := by
  obtain ⟨hx, hb, hml, hown, hts, hK, hX, hY, hA, hXs, hbl, hbA, hlt⟩ := id Z
  refine lv_aload_n hx hb dL_law_1566 rfl (lv_at hl 1 rfl) ?_
  refine lv_aload_n hx hb dL_law_1567 rfl (lv_at hl 0 rfl) ?_
  refine lv_iload hx hb dL_law_1568 (lv_at hl 5 rfl) ?_
  refine lv_iconst (v := 1) hx hb dL_law_1570 (by decide) ?_
  refine lv_iadd hx hb dL_law_1571 ?_
  refine lv_topi (fun y1 ey1 => ?_)
  obtain rfl : y1 = 1 := ey1.trans (by decide +kernel)
  refine va_sld hx hb hXs hbl hbA hS (z_in 1 (by decide) (by decide)) dL_law_1572 ?_
  refine lv_topi (fun y2 ey2 => ?_)
  obtain rfl : y2 = (nI k) := ey2.trans e1
  refine lv_aload_n hx hb dL_law_1573 rfl (lv_at hl 0 rfl) ?_
  refine lv_iload hx hb dL_law_1574 (lv_at hl 5 rfl) ?_
  refine lv_iconst (v := 2) hx hb dL_law_1576 (by decide) ?_
  refine lv_iadd hx hb dL_law_1577 ?_
  refine lv_topi (fun y3 ey3 => ?_)
  obtain rfl : y3 = 2 := ey3.trans (by decide +kernel)
  refine va_sld hx hb hXs hbl hbA hS (z_in 2 (by decide) (by decide)) dL_law_1578 ?_
  refine lv_topi (fun y4 ey4 => ?_)
  obtain rfl : y4 = (xs 2) := ey4.trans rfl
  refine lv_aload_n hx hb dL_law_1579 rfl (lv_at hl 3 rfl) ?_
  refine zq_i (wc := [(x0, .inr (12, [.ref vC, .ref vP, .ref vT, .ref vS, .ref vF, .ref vN, .ref vY, .int 0])), (vF, .inr (4, [.ref l1, .ref l2])), (l1, .inl (cy 0, 200, .inl (fun _ => 0))), (l2, .inl (cy 0, 401, .inl (fun _ => 0))), (o1, .inl (cy 1, 1, .inr (.inl (fun _ => 0))))]) (wr := [(g0, .inr (17, [.ref m0, .ref m1, .ref m2, .ref m3, .ref m4, .ref m5, .ref m6, .ref m7, .ref m8, .ref m9, .ref m10, .ref m11, .ref m12, .ref m13, .ref m14, .ref m15, .ref m16, .ref m17, .ref m18, .ref m19, .ref m20, .int 0, .int 0, .int 0, .int 0, .long 0, .int 0])), (m7, .inl (cy 0, 200, .inl (fun _ => 0)))]) (vx_runSW (As := [.ref x0, .int (nI k), .int (xs 2), .ref o1]) (rest := []) ⟨hx, hb, hml, hown, hts⟩ (w_rain_ok l hlt D cy x0 vC vP vT vS vF vN vY l1 l2 k (xs 2) o1 H.size hk h1 h2) (vx_cwSW 4 hts (gzS (gzW q701) q700 q702 q565) rfl rfl rfl vL_rain.2 ⟨Nat.le_of_ble_eq_true rfl, Nat.le_of_ble_eq_true rfl⟩) (zpS hK hX hY hP hD hS hA [0, 1, 2, 3, 4] (by decide) rfl) rfl rfl hl.1 rfl (lv_room (Nat.le_of_ble_eq_true rfl)) dL_law_1580 ⟨Nat.le_of_ble_eq_true rfl, Nat.le_of_ble_eq_true rfl⟩) hP hD hS hA [0, 1, 2, 3, 4] [5, 6] rfl rfl (by decide) (by decide) (fun x6 u5 H locs hw hP hD hS => ?_)
  obtain rfl : x6 = 0 := hw
  have hP : va_P D vwCl [(g0, .inr (17, [.ref m0, .ref m1, .ref m2, .ref m3, .ref m4, .ref m5, .ref m6, .ref m7, .ref m8, .ref m9, .ref m10, .ref m11, .ref m12, .ref m13, .ref m14, .ref m15, .ref m16, .ref m17, .ref m18, .ref m19, .ref m20, .int 0, .int 0, .int 0, .int 0, .long 0, .int 0])), (m7, .inl (cy 0, 200, .inl (fun _ => 0))), (o1, .inl (cy 1, 1, .inr (.inl (fun _ => 0))))] H := hP
  have hD : va_D A [(g0, .inr (17, [.ref m0, .ref m1, .ref m2, .ref m3, .ref m4, .ref m5, .ref m6, .ref m7, .ref m8, .ref m9, .ref m10, .ref m11, .ref m12, .ref m13, .ref m14, .ref m15, .ref m16, .ref m17, .ref m18, .ref m19, .ref m20, .int 0, .int 0, .int 0, .int 0, .long 0, .int 0])), (m7, .inl (cy 0, 200, .inl (fun _ => 0))), (o1, .inl (cy 1, 1, .inr (.inl (fun _ => 0))))] := hD
  refine lv_istore (lv' := [(6, .int 0), (0, .ref b), (1, .ref x0), (2, .ref g0), (3, .ref o1), (4, .ref o2), (5, .int 0)]) hx hb dL_law_1583 hl (by decide) rfl (fun ls hl => ?_)
  refine lv_aload_n hx hb dL_law_1585 rfl (lv_at hl 3 rfl) ?_
  refine lv_aload_n hx hb dL_law_1586 rfl (lv_at hl 1 rfl) ?_
  refine lv_iload hx hb dL_law_1587 (lv_at hl 6 rfl) ?_
  refine lv_iconst (v := 1) hx hb dL_law_1589 (by decide) ?_
  refine lv_iadd hx hb dL_law_1590 ?_
  refine lv_topi (fun y7 ey7 => ?_)
  obtain rfl : y7 = 1 := ey7.trans (by decide +kernel)
  refine va_sld hx hb hXs hbl hbA hS (z_in 1 (by decide) (by decide)) dL_law_1591 ?_
  refine lv_topi (fun y8 ey8 => ?_)
  obtain rfl : y8 = (nI k) := ey8.trans e1
  refine lv_aload_n hx hb dL_law_1592 rfl (lv_at hl 1 rfl) ?_
  refine lv_iload hx hb dL_law_1593 (lv_at hl 6 rfl) ?_
  refine lv_iconst (v := 2) hx hb dL_law_1595 (by decide) ?_
  refine lv_iadd hx hb dL_law_1596 ?_
  refine lv_topi (fun y9 ey9 => ?_)
  obtain rfl : y9 = 2 := ey9.trans (by decide +kernel)
  refine va_sld hx hb hXs hbl hbA hS (z_in 2 (by decide) (by decide)) dL_law_1597 ?_
  refine lv_topi (fun y10 ey10 => ?_)
  obtain rfl : y10 = (xs 2) := ey10.trans rfl
  refine zq_i (wc := [(g0, .inr (17, [.ref m0, .ref m1, .ref m2, .ref m3, .ref m4, .ref m5, .ref m6, .ref m7, .ref m8, .ref m9, .ref m10, .ref m11, .ref m12, .ref m13, .ref m14, .ref m15, .ref m16, .ref m17, .ref m18, .ref m19, .ref m20, .int 0, .int 0, .int 0, .int 0, .long 0, .int 0])), (m7, .inl (cy 0, 200, .inl (fun _ => 0)))]) (wr := [(o1, .inl (cy 1, 1, .inr (.inl (fun _ => 0))))]) (va_runV (As := [.int (nI k), .int (xs 2)]) (rest := []) ⟨hx, hb, hml, hown, hts⟩ (g_rain_ok l D cy g0 m0 m1 m2 m3 m4 m5 m6 m7 m8 m9 m10 m11 m12 m13 m14 m15 m16 m17 m18 m19 m20 k (xs 2) H.size hk h1 h2) (cwV 2 hts (gzV (gz q704) q703 q705 q706 q285) rfl rfl rfl vX14_rain ⟨Nat.le_of_ble_eq_true rfl, Nat.le_of_ble_eq_true rfl⟩) (zpV (ci := 17) (T := TX14) (N := 27) (q0 := 0) hK hX hY hP hD hS hA [0, 1] (by decide) rfl rfl rfl) rfl rfl hl.1 rfl (lv_room (Nat.le_of_ble_eq_true rfl)) dL_law_1598 ⟨Nat.le_of_ble_eq_true rfl, Nat.le_of_ble_eq_true rfl⟩) hP hD hS hA [0, 1] [2] rfl rfl (by decide) (by decide) (fun x12 u11 H locs hw hP hD hS => ?_)
  obtain rfl : x12 = 0 := hw
  have hP : va_P D vwCl [(o1, .inl (cy 1, 1, .inr (.inl (fun _ => 0)))), (g0, .inr (17, [.ref m0, .ref m1, .ref m2, .ref m3, .ref m4, .ref m5, .ref m6, .ref m7, .ref m8, .ref m9, .ref m10, .ref m11, .ref m12, .ref m13, .ref m14, .ref m15, .ref m16, .ref m17, .ref m18, .ref m19, .ref m20, .int 0, .int 0, .int 0, .int 0, .long 0, .int 0]))] H := hP
  have hD : va_D A [(o1, .inl (cy 1, 1, .inr (.inl (fun _ => 0)))), (g0, .inr (17, [.ref m0, .ref m1, .ref m2, .ref m3, .ref m4, .ref m5, .ref m6, .ref m7, .ref m8, .ref m9, .ref m10, .ref m11, .ref m12, .ref m13, .ref m14, .ref m15, .ref m16, .ref m17, .ref m18, .ref m19, .ref m20, .int 0, .int 0, .int 0, .int 0, .long 0, .int 0]))] := hD
  refine lv_istore (lv' := [(7, .int 0), (6, .int 0), (0, .ref b), (1, .ref x0), (2, .ref g0), (3, .ref o1), (4, .ref o2), (5, .int 0)]) hx hb dL_law_1601 hl (by decide) rfl (fun ls hl => ?_)
  refine lv_aload_n hx hb dL_law_1603 rfl (lv_at hl 4 rfl) ?_
  refine zq_i (wc := [(g0, .inr (17, [.ref m0, .ref m1, .ref m2, .ref m3, .ref m4, .ref m5, .ref m6, .ref m7, .ref m8, .ref m9, .ref m10, .ref m11, .ref m12, .ref m13, .ref m14, .ref m15, .ref m16, .ref m17, .ref m18, .ref m19, .ref m20, .int 0, .int 0, .int 0, .int 0, .long 0, .int 0]))]) (wr := [(o1, .inl (cy 1, 1, .inr (.inl (fun _ => 0))))]) (va_runV (As := []) (rest := []) ⟨hx, hb, hml, hown, hts⟩ (k_thrown l D cy g0 m0 m1 m2 m3 m4 m5 m6 m7 m8 m9 m10 m11 m12 m13 m14 m15 m16 m17 m18 m19 m20 0 0 0 0 0 0 H.size ) (cwV 0 hts (gzV (gz q571) q570 q572 q573 q285) rfl rfl rfl vX14_thrown ⟨Nat.le_of_ble_eq_true rfl, Nat.le_of_ble_eq_true rfl⟩) (zpV (ci := 17) (T := TX14) (N := 27) (q0 := 0) hK hX hY hP hD hS hA [1] (by decide) rfl rfl rfl) rfl rfl hl.1 rfl (lv_room (Nat.le_of_ble_eq_true rfl)) dL_law_1604 ⟨Nat.le_of_ble_eq_true rfl, Nat.le_of_ble_eq_true rfl⟩) hP hD hS hA [1] [0] rfl rfl (by decide) (by decide) (fun x14 u13 H locs hw hP hD hS => ?_)
  obtain rfl : x14 = 0 := hw
  have hP : va_P D vwCl [(o1, .inl (cy 1, 1, .inr (.inl (fun _ => 0)))), (g0, .inr (17, [.ref m0, .ref m1, .ref m2, .ref m3, .ref m4, .ref m5, .ref m6, .ref m7, .ref m8, .ref m9, .ref m10, .ref m11, .ref m12, .ref m13, .ref m14, .ref m15, .ref m16, .ref m17, .ref m18, .ref m19, .ref m20, .int 0, .int 0, .int 0, .int 0, .long 0, .int 0]))] H := hP
  have hD : va_D A [(o1, .inl (cy 1, 1, .inr (.inl (fun _ => 0)))), (g0, .inr (17, [.ref m0, .ref m1, .ref m2, .ref m3, .ref m4, .ref m5, .ref m6, .ref m7, .ref m8, .ref m9, .ref m10, .ref m11, .ref m12, .ref m13, .ref m14, .ref m15, .ref m16, .ref m17, .ref m18, .ref m19, .ref m20, .int 0, .int 0, .int 0, .int 0, .long 0, .int 0]))] := hD
  refine lv_iload hx hb dL_law_1607 (lv_at hl 1 rfl) ?_
  refine lv_icmp_eq (tgt := 1614) hx hb dL_law_1609 (by decide) (fun _ => ?_) (fun c_1609_14 => absurd (by decide +kernel) c_1609_14)
  refine lv_iload hx hb dL_law_1614 (lv_at hl 1 rfl) ?_
  refine lv_if_ne (tgt := 1631) hx hb dL_law_1616 (by decide) (fun c_1616_15 => absurd (by decide +kernel) c_1616_15) (fun _ => ?_)
  refine lv_aload_n hx hb dL_law_1619 rfl (lv_at hl 5 rfl) ?_
  refine lv_iconst (v := 0) hx hb dL_law_1620 (by decide) ?_
  refine va_lald hx hb hK hP 0 1 rfl rfl (z_in 0 (by decide) (by decide)) dL_law_1621 ?_
  refine lv_topl (fun y17 ey17 => ?_)
  obtain rfl : y17 = 0 := ey17.trans rfl
  refine lv_iload hx hb dL_law_1622 (lv_at hl 0 rfl) ?_
  refine lv_i2l (v := 0) hx hb dL_law_1624 (by decide) ?_
  refine W.lcmp hx hb dL_law_1625 ?_
  refine lv_topi (fun y18 ey18 => ?_)
  obtain rfl : y18 = 0 := ey18.trans (by decide +kernel)
  refine lv_if_eq (tgt := 1631) hx hb dL_law_1626 (by decide) (fun _ => ?_) (fun c_1626_18 => absurd (by decide +kernel) c_1626_18)
  refine lv_goto (tgt := 2706) hx hb dL_law_1631 (by decide) ?_
  exact W.widen (k := 600006) (n := 7302040) (Nat.le_of_ble_eq_true rfl) (Nat.le_of_ble_eq_true rfl) (kt _ _ _ hS (lv_sub hl [2, 7] rfl))
set_option maxHeartbeats 4000000 in
set_option maxRecDepth 100000 in
theorem c_water_no (l : Launch) {p : Program} {e : Env} {s : State} {m : MethodId} {below : List Frame} {meth : Method} {c : Code} {D : va_G} {cy : Nat → ClassId} {A : Nat → Prop} {b : Nat} {xs : Nat → Int32} {Q : State → Prop} {H : Heap} {locs : List Loc} {ls : Array Slot} (Z : zLaw l p s m c D cy A b 9 xs) (x0 : Nat) (g0 : Nat) (o1 : Nat) (o2 : Nat) (vC : Nat) (vP : Nat) (vT : Nat) (vS : Nat) (vF : Nat) (vN : Nat) (vY : Nat) (m0 : Nat) (m1 : Nat) (m2 : Nat) (m3 : Nat) (m4 : Nat) (m5 : Nat) (m6 : Nat) (m7 : Nat) (m8 : Nat) (m9 : Nat) (m10 : Nat) (m11 : Nat) (m12 : Nat) (m13 : Nat) (m14 : Nat) (m15 : Nat) (m16 : Nat) (m17 : Nat) (m18 : Nat) (m19 : Nat) (m20 : Nat) (hq0 : (xs 1) < 0 ∨ ¬ (xs 1) ≤ 400) (hP : va_P D vwCl [(x0, .inr (12, [.ref vC, .ref vP, .ref vT, .ref vS, .ref vF, .ref vN, .ref vY, .int 0])), (g0, .inr (17, [.ref m0, .ref m1, .ref m2, .ref m3, .ref m4, .ref m5, .ref m6, .ref m7, .ref m8, .ref m9, .ref m10, .ref m11, .ref m12, .ref m13, .ref m14, .ref m15, .ref m16, .ref m17, .ref m18, .ref m19, .ref m20, .int 0, .int 0, .int 0, .int 0, .long 0, .int 0]))] H) (hD : va_D A [(x0, .inr (12, [.ref vC, .ref vP, .ref vT, .ref vS, .ref vF, .ref vN, .ref vY, .int 0])), (g0, .inr (17, [.ref m0, .ref m1, .ref m2, .ref m3, .ref m4, .ref m5, .ref m6, .ref m7, .ref m8, .ref m9, .ref m10, .ref m11, .ref m12, .ref m13, .ref m14, .ref m15, .ref m16, .ref m17, .ref m18, .ref m19, .ref m20, .int 0, .int 0, .int 0, .int 0, .long 0, .int 0]))]) (hS : va_S A s.heap H locs) (hl : lv_has ls 9 [(0, .ref b), (1, .ref x0), (2, .ref g0), (3, .ref o1), (4, .ref o2), (5, .int 0)]) (kt : ∀ (H : Heap) (locs : List Loc) (ls : Array Slot), va_S A s.heap H locs → lv_has ls 9 [(0, .ref b), (5, .int 0)] → W p l e room_1 s m #[Value.ref b] below meth c H locs 600006 7302040 Q (F0 m 2706 ls [])) : W p l e room_1 s m #[Value.ref b] below meth c H locs 213 25112 Q (F0 m 1634 ls []) := by
  obtain ⟨hx, hb, hml, hown, hts, hK, hX, hY, hA, hXs, hbl, hbA, hlt⟩ := id Z
  refine lv_aload_n hx hb dL_law_1634 rfl (lv_at hl 1 rfl) ?_
  refine lv_aload_n hx hb dL_law_1635 rfl (lv_at hl 0 rfl) ?_
  refine lv_iload hx hb dL_law_1636 (lv_at hl 5 rfl) ?_
  refine lv_iconst (v := 1) hx hb dL_law_1638 (by decide) ?_
  refine lv_iadd hx hb dL_law_1639 ?_
  refine lv_topi (fun y1 ey1 => ?_)
  obtain rfl : y1 = 1 := ey1.trans (by decide +kernel)
  refine va_sld hx hb hXs hbl hbA hS (z_in 1 (by decide) (by decide)) dL_law_1640 ?_
  refine lv_topi (fun y2 ey2 => ?_)
  obtain rfl : y2 = (xs 1) := ey2.trans rfl
  refine lv_aload_n hx hb dL_law_1641 rfl (lv_at hl 3 rfl) ?_
  refine zq_i (wc := [(x0, .inr (12, [.ref vC, .ref vP, .ref vT, .ref vS, .ref vF, .ref vN, .ref vY, .int 0]))]) (wr := [(g0, .inr (17, [.ref m0, .ref m1, .ref m2, .ref m3, .ref m4, .ref m5, .ref m6, .ref m7, .ref m8, .ref m9, .ref m10, .ref m11, .ref m12, .ref m13, .ref m14, .ref m15, .ref m16, .ref m17, .ref m18, .ref m19, .ref m20, .int 0, .int 0, .int 0, .int 0, .long 0, .int 0]))]) (vx_runSW (As := [.ref x0, .int (xs 1), .ref o1]) (rest := []) ⟨hx, hb, hml, hown, hts⟩ (w_water_no l hlt D cy x0 vC vP vT vS vF vN vY (xs 1) o1 H.size hq0) (vx_cwSW 3 hts (gzS (gzW q708) q707 q709 q565) rfl rfl rfl vL_water.2 ⟨Nat.le_of_ble_eq_true rfl, Nat.le_of_ble_eq_true rfl⟩) (zpS hK hX hY hP hD hS hA [0] (by decide) rfl) rfl rfl hl.1 rfl (lv_room (Nat.le_of_ble_eq_true rfl)) dL_law_1642 ⟨Nat.le_of_ble_eq_true rfl, Nat.le_of_ble_eq_true rfl⟩) hP hD hS hA [0] [1] rfl rfl (by decide) (by decide) (fun x4 u3 H locs hw hP hD hS => ?_)
  obtain rfl : x4 = 1 := hw
  have hP : va_P D vwCl [(g0, .inr (17, [.ref m0, .ref m1, .ref m2, .ref m3, .ref m4, .ref m5, .ref m6, .ref m7, .ref m8, .ref m9, .ref m10, .ref m11, .ref m12, .ref m13, .ref m14, .ref m15, .ref m16, .ref m17, .ref m18, .ref m19, .ref m20, .int 0, .int 0, .int 0, .int 0, .long 0, .int 0]))] H := hP
  have hD : va_D A [(g0, .inr (17, [.ref m0, .ref m1, .ref m2, .ref m3, .ref m4, .ref m5, .ref m6, .ref m7, .ref m8, .ref m9, .ref m10, .ref m11, .ref m12, .ref m13, .ref m14, .ref m15, .ref m16, .ref m17, .ref m18, .ref m19, .ref m20, .int 0, .int 0, .int 0, .int 0, .long 0, .int 0]))] := hD
  refine W.widen (k := 214) (n := 25118) (by omega) (by omega) ?_
  refine lv_istore (lv' := [(6, .int 1), (0, .ref b), (1, .ref x0), (2, .ref g0), (3, .ref o1), (4, .ref o2), (5, .int 0)]) hx hb dL_law_1645 hl (by decide) rfl (fun ls hl => ?_)
  refine lv_aload_n hx hb dL_law_1647 rfl (lv_at hl 3 rfl) ?_
  refine lv_aload_n hx hb dL_law_1648 rfl (lv_at hl 1 rfl) ?_
  refine lv_iload hx hb dL_law_1649 (lv_at hl 6 rfl) ?_
  refine lv_iconst (v := 1) hx hb dL_law_1651 (by decide) ?_
  refine lv_iadd hx hb dL_law_1652 ?_
  refine lv_topi (fun y5 ey5 => ?_)
  obtain rfl : y5 = 1 := ey5.trans (by decide +kernel)
  refine va_sld hx hb hXs hbl hbA hS (z_in 1 (by decide) (by decide)) dL_law_1653 ?_
  refine lv_topi (fun y6 ey6 => ?_)
  obtain rfl : y6 = (xs 1) := ey6.trans rfl
  refine zq_i (wc := [(g0, .inr (17, [.ref m0, .ref m1, .ref m2, .ref m3, .ref m4, .ref m5, .ref m6, .ref m7, .ref m8, .ref m9, .ref m10, .ref m11, .ref m12, .ref m13, .ref m14, .ref m15, .ref m16, .ref m17, .ref m18, .ref m19, .ref m20, .int 0, .int 0, .int 0, .int 0, .long 0, .int 0]))]) (wr := []) (va_runV (As := [.int (xs 1)]) (rest := []) ⟨hx, hb, hml, hown, hts⟩ (g_water_no l D cy g0 m0 m1 m2 m3 m4 m5 m6 m7 m8 m9 m10 m11 m12 m13 m14 m15 m16 m17 m18 m19 m20 (xs 1) H.size hq0) (cwV 1 hts (gzV (gz q711) q710 q712 q713 q285) rfl rfl rfl vX14_water ⟨Nat.le_of_ble_eq_true rfl, Nat.le_of_ble_eq_true rfl⟩) (zpV (ci := 17) (T := TX14) (N := 27) (q0 := 0) hK hX hY hP hD hS hA [0] (by decide) rfl rfl rfl) rfl rfl hl.1 rfl (lv_room (Nat.le_of_ble_eq_true rfl)) dL_law_1654 ⟨Nat.le_of_ble_eq_true rfl, Nat.le_of_ble_eq_true rfl⟩) hP hD hS hA [0] [] rfl rfl (by decide) (by decide) (fun x8 u7 H locs hw hP hD hS => ?_)
  obtain rfl : x8 = 0 := hw
  have hP : va_P D vwCl [(g0, .inr (17, [.ref m0, .ref m1, .ref m2, .ref m3, .ref m4, .ref m5, .ref m6, .ref m7, .ref m8, .ref m9, .ref m10, .ref m11, .ref m12, .ref m13, .ref m14, .ref m15, .ref m16, .ref m17, .ref m18, .ref m19, .ref m20, .int 1, .int 0, .int 0, .int 0, .long 0, .int 0]))] H := hP
  have hD : va_D A [(g0, .inr (17, [.ref m0, .ref m1, .ref m2, .ref m3, .ref m4, .ref m5, .ref m6, .ref m7, .ref m8, .ref m9, .ref m10, .ref m11, .ref m12, .ref m13, .ref m14, .ref m15, .ref m16, .ref m17, .ref m18, .ref m19, .ref m20, .int 1, .int 0, .int 0, .int 0, .long 0, .int 0]))] := hD
  refine lv_istore (lv' := [(7, .int 0), (6, .int 1), (0, .ref b), (1, .ref x0), (2, .ref g0), (3, .ref o1), (4, .ref o2), (5, .int 0)]) hx hb dL_law_1657 hl (by decide) rfl (fun ls hl => ?_)
  refine lv_aload_n hx hb dL_law_1659 rfl (lv_at hl 4 rfl) ?_
  refine zq_i (wc := [(g0, .inr (17, [.ref m0, .ref m1, .ref m2, .ref m3, .ref m4, .ref m5, .ref m6, .ref m7, .ref m8, .ref m9, .ref m10, .ref m11, .ref m12, .ref m13, .ref m14, .ref m15, .ref m16, .ref m17, .ref m18, .ref m19, .ref m20, .int 1, .int 0, .int 0, .int 0, .long 0, .int 0]))]) (wr := []) (va_runV (As := []) (rest := []) ⟨hx, hb, hml, hown, hts⟩ (k_thrown l D cy g0 m0 m1 m2 m3 m4 m5 m6 m7 m8 m9 m10 m11 m12 m13 m14 m15 m16 m17 m18 m19 m20 1 0 0 0 0 0 H.size ) (cwV 0 hts (gzV (gz q571) q570 q572 q573 q285) rfl rfl rfl vX14_thrown ⟨Nat.le_of_ble_eq_true rfl, Nat.le_of_ble_eq_true rfl⟩) (zpV (ci := 17) (T := TX14) (N := 27) (q0 := 0) hK hX hY hP hD hS hA [0] (by decide) rfl rfl rfl) rfl rfl hl.1 rfl (lv_room (Nat.le_of_ble_eq_true rfl)) dL_law_1660 ⟨Nat.le_of_ble_eq_true rfl, Nat.le_of_ble_eq_true rfl⟩) hP hD hS hA [0] [] rfl rfl (by decide) (by decide) (fun x10 u9 H locs hw hP hD hS => ?_)
  obtain rfl : x10 = 1 := hw
  have hP : va_P D vwCl [(g0, .inr (17, [.ref m0, .ref m1, .ref m2, .ref m3, .ref m4, .ref m5, .ref m6, .ref m7, .ref m8, .ref m9, .ref m10, .ref m11, .ref m12, .ref m13, .ref m14, .ref m15, .ref m16, .ref m17, .ref m18, .ref m19, .ref m20, .int 1, .int 0, .int 0, .int 0, .long 0, .int 0]))] H := hP
  have hD : va_D A [(g0, .inr (17, [.ref m0, .ref m1, .ref m2, .ref m3, .ref m4, .ref m5, .ref m6, .ref m7, .ref m8, .ref m9, .ref m10, .ref m11, .ref m12, .ref m13, .ref m14, .ref m15, .ref m16, .ref m17, .ref m18, .ref m19, .ref m20, .int 1, .int 0, .int 0, .int 0, .long 0, .int 0]))] := hD
  refine lv_iload hx hb dL_law_1663 (lv_at hl 1 rfl) ?_
  refine lv_icmp_eq (tgt := 1670) hx hb dL_law_1665 (by decide) (fun _ => ?_) (fun c_1665_10 => absurd (by decide +kernel) c_1665_10)
  refine lv_iload hx hb dL_law_1670 (lv_at hl 1 rfl) ?_
  refine lv_if_ne (tgt := 1687) hx hb dL_law_1672 (by decide) (fun _ => ?_) (fun c_1672_11 => absurd c_1672_11 (by decide +kernel))
  refine lv_goto (tgt := 2706) hx hb dL_law_1687 (by decide) ?_
  exact W.widen (k := 600006) (n := 7302040) (Nat.le_of_ble_eq_true rfl) (Nat.le_of_ble_eq_true rfl) (kt _ _ _ hS (lv_sub hl [2, 7] rfl))
set_option maxHeartbeats 4000000 in
set_option maxRecDepth 100000 in
theorem c_water_ok (l : Launch) {p : Program} {e : Env} {s : State} {m : MethodId} {below : List Frame} {meth : Method} {c : Code} {D : va_G} {cy : Nat → ClassId} {A : Nat → Prop} {b : Nat} {xs : Nat → Int32} {Q : State → Prop} {H : Heap} {locs : List Loc} {ls : Array Slot} (Z : zLaw l p s m c D cy A b 9 xs) (x0 : Nat) (g0 : Nat) (o1 : Nat) (o2 : Nat) (vC : Nat) (vP : Nat) (vT : Nat) (vS : Nat) (vF : Nat) (vN : Nat) (vY : Nat) (l1 : Nat) (l2 : Nat) (m0 : Nat) (m1 : Nat) (m2 : Nat) (m3 : Nat) (m4 : Nat) (m5 : Nat) (m6 : Nat) (m7 : Nat) (m8 : Nat) (m9 : Nat) (m10 : Nat) (m11 : Nat) (m12 : Nat) (m13 : Nat) (m14 : Nat) (m15 : Nat) (m16 : Nat) (m17 : Nat) (m18 : Nat) (m19 : Nat) (m20 : Nat) (k : Nat) (hk : k < 401) (e1 : (xs 1) = (nI k)) (hP : va_P D vwCl [(x0, .inr (12, [.ref vC, .ref vP, .ref vT, .ref vS, .ref vF, .ref vN, .ref vY, .int 0])), (vF, .inr (4, [.ref l1, .ref l2])), (l1, .inl (cy 0, 200, .inl (fun _ => 0))), (l2, .inl (cy 0, 401, .inl (fun _ => 0))), (o1, .inl (cy 1, 1, .inr (.inl (fun _ => 0)))), (g0, .inr (17, [.ref m0, .ref m1, .ref m2, .ref m3, .ref m4, .ref m5, .ref m6, .ref m7, .ref m8, .ref m9, .ref m10, .ref m11, .ref m12, .ref m13, .ref m14, .ref m15, .ref m16, .ref m17, .ref m18, .ref m19, .ref m20, .int 0, .int 0, .int 0, .int 0, .long 0, .int 0])), (m8, .inl (cy 0, 401, .inl (fun _ => 0))), (m7, .inl (cy 0, 200, .inl (fun _ => 0)))] H) (hD : va_D A [(x0, .inr (12, [.ref vC, .ref vP, .ref vT, .ref vS, .ref vF, .ref vN, .ref vY, .int 0])), (vF, .inr (4, [.ref l1, .ref l2])), (l1, .inl (cy 0, 200, .inl (fun _ => 0))), (l2, .inl (cy 0, 401, .inl (fun _ => 0))), (o1, .inl (cy 1, 1, .inr (.inl (fun _ => 0)))), (g0, .inr (17, [.ref m0, .ref m1, .ref m2, .ref m3, .ref m4, .ref m5, .ref m6, .ref m7, .ref m8, .ref m9, .ref m10, .ref m11, .ref m12, .ref m13, .ref m14, .ref m15, .ref m16, .ref m17, .ref m18, .ref m19, .ref m20, .int 0, .int 0, .int 0, .int 0, .long 0, .int 0])), (m8, .inl (cy 0, 401, .inl (fun _ => 0))), (m7, .inl (cy 0, 200, .inl (fun _ => 0)))]) (hS : va_S A s.heap H locs) (hl : lv_has ls 9 [(0, .ref b), (1, .ref x0), (2, .ref g0), (3, .ref o1), (4, .ref o2), (5, .int 0)]) (kt : ∀ (H : Heap) (locs : List Loc) (ls : Array Slot), va_S A s.heap H locs → lv_has ls 9 [(0, .ref b), (5, .int 0)] → W p l e room_1 s m #[Value.ref b] below meth c H locs 600006 7302040 Q (F0 m 2706 ls [])) : W p l e room_1 s m #[Value.ref b] below meth c H locs 213 25112 Q (F0 m 1634 ls []) := by
  obtain ⟨hx, hb, hml, hown, hts, hK, hX, hY, hA, hXs, hbl, hbA, hlt⟩ := id Z
  refine lv_aload_n hx hb dL_law_1634 rfl (lv_at hl 1 rfl) ?_
  refine lv_aload_n hx hb dL_law_1635 rfl (lv_at hl 0 rfl) ?_
  refine lv_iload hx hb dL_law_1636 (lv_at hl 5 rfl) ?_
  refine lv_iconst (v := 1) hx hb dL_law_1638 (by decide) ?_
  refine lv_iadd hx hb dL_law_1639 ?_
  refine lv_topi (fun y1 ey1 => ?_)
  obtain rfl : y1 = 1 := ey1.trans (by decide +kernel)
  refine va_sld hx hb hXs hbl hbA hS (z_in 1 (by decide) (by decide)) dL_law_1640 ?_
  refine lv_topi (fun y2 ey2 => ?_)
  obtain rfl : y2 = (nI k) := ey2.trans e1
  refine lv_aload_n hx hb dL_law_1641 rfl (lv_at hl 3 rfl) ?_
  refine zq_i (wc := [(x0, .inr (12, [.ref vC, .ref vP, .ref vT, .ref vS, .ref vF, .ref vN, .ref vY, .int 0])), (vF, .inr (4, [.ref l1, .ref l2])), (l1, .inl (cy 0, 200, .inl (fun _ => 0))), (l2, .inl (cy 0, 401, .inl (fun _ => 0))), (o1, .inl (cy 1, 1, .inr (.inl (fun _ => 0))))]) (wr := [(g0, .inr (17, [.ref m0, .ref m1, .ref m2, .ref m3, .ref m4, .ref m5, .ref m6, .ref m7, .ref m8, .ref m9, .ref m10, .ref m11, .ref m12, .ref m13, .ref m14, .ref m15, .ref m16, .ref m17, .ref m18, .ref m19, .ref m20, .int 0, .int 0, .int 0, .int 0, .long 0, .int 0])), (m8, .inl (cy 0, 401, .inl (fun _ => 0))), (m7, .inl (cy 0, 200, .inl (fun _ => 0)))]) (vx_runSW (As := [.ref x0, .int (nI k), .ref o1]) (rest := []) ⟨hx, hb, hml, hown, hts⟩ (w_water_ok l hlt D cy x0 vC vP vT vS vF vN vY l1 l2 k o1 H.size hk) (vx_cwSW 3 hts (gzS (gzW q708) q707 q709 q565) rfl rfl rfl vL_water.2 ⟨Nat.le_of_ble_eq_true rfl, Nat.le_of_ble_eq_true rfl⟩) (zpS hK hX hY hP hD hS hA [0, 1, 2, 3, 4] (by decide) rfl) rfl rfl hl.1 rfl (lv_room (Nat.le_of_ble_eq_true rfl)) dL_law_1642 ⟨Nat.le_of_ble_eq_true rfl, Nat.le_of_ble_eq_true rfl⟩) hP hD hS hA [0, 1, 2, 3, 4] [5, 6, 7] rfl rfl (by decide) (by decide) (fun x4 u3 H locs hw hP hD hS => ?_)
  obtain rfl : x4 = 0 := hw
  have hP : va_P D vwCl [(g0, .inr (17, [.ref m0, .ref m1, .ref m2, .ref m3, .ref m4, .ref m5, .ref m6, .ref m7, .ref m8, .ref m9, .ref m10, .ref m11, .ref m12, .ref m13, .ref m14, .ref m15, .ref m16, .ref m17, .ref m18, .ref m19, .ref m20, .int 0, .int 0, .int 0, .int 0, .long 0, .int 0])), (m8, .inl (cy 0, 401, .inl (fun _ => 0))), (m7, .inl (cy 0, 200, .inl (fun _ => 0))), (o1, .inl (cy 1, 1, .inr (.inl (fun _ => 0))))] H := hP
  have hD : va_D A [(g0, .inr (17, [.ref m0, .ref m1, .ref m2, .ref m3, .ref m4, .ref m5, .ref m6, .ref m7, .ref m8, .ref m9, .ref m10, .ref m11, .ref m12, .ref m13, .ref m14, .ref m15, .ref m16, .ref m17, .ref m18, .ref m19, .ref m20, .int 0, .int 0, .int 0, .int 0, .long 0, .int 0])), (m8, .inl (cy 0, 401, .inl (fun _ => 0))), (m7, .inl (cy 0, 200, .inl (fun _ => 0))), (o1, .inl (cy 1, 1, .inr (.inl (fun _ => 0))))] := hD
  refine lv_istore (lv' := [(6, .int 0), (0, .ref b), (1, .ref x0), (2, .ref g0), (3, .ref o1), (4, .ref o2), (5, .int 0)]) hx hb dL_law_1645 hl (by decide) rfl (fun ls hl => ?_)
  refine lv_aload_n hx hb dL_law_1647 rfl (lv_at hl 3 rfl) ?_
  refine lv_aload_n hx hb dL_law_1648 rfl (lv_at hl 1 rfl) ?_
  refine lv_iload hx hb dL_law_1649 (lv_at hl 6 rfl) ?_
  refine lv_iconst (v := 1) hx hb dL_law_1651 (by decide) ?_
  refine lv_iadd hx hb dL_law_1652 ?_
  refine lv_topi (fun y5 ey5 => ?_)
  obtain rfl : y5 = 1 := ey5.trans (by decide +kernel)
  refine va_sld hx hb hXs hbl hbA hS (z_in 1 (by decide) (by decide)) dL_law_1653 ?_
  refine lv_topi (fun y6 ey6 => ?_)
  obtain rfl : y6 = (nI k) := ey6.trans e1
  refine zq_i (wc := [(g0, .inr (17, [.ref m0, .ref m1, .ref m2, .ref m3, .ref m4, .ref m5, .ref m6, .ref m7, .ref m8, .ref m9, .ref m10, .ref m11, .ref m12, .ref m13, .ref m14, .ref m15, .ref m16, .ref m17, .ref m18, .ref m19, .ref m20, .int 0, .int 0, .int 0, .int 0, .long 0, .int 0])), (m8, .inl (cy 0, 401, .inl (fun _ => 0))), (m7, .inl (cy 0, 200, .inl (fun _ => 0)))]) (wr := [(o1, .inl (cy 1, 1, .inr (.inl (fun _ => 0))))]) (va_runV (As := [.int (nI k)]) (rest := []) ⟨hx, hb, hml, hown, hts⟩ (g_water_ok l D cy g0 m0 m1 m2 m3 m4 m5 m6 m7 m8 m9 m10 m11 m12 m13 m14 m15 m16 m17 m18 m19 m20 k H.size hk) (cwV 1 hts (gzV (gz q711) q710 q712 q713 q285) rfl rfl rfl vX14_water ⟨Nat.le_of_ble_eq_true rfl, Nat.le_of_ble_eq_true rfl⟩) (zpV (ci := 17) (T := TX14) (N := 27) (q0 := 0) hK hX hY hP hD hS hA [0, 1, 2] (by decide) rfl rfl rfl) rfl rfl hl.1 rfl (lv_room (Nat.le_of_ble_eq_true rfl)) dL_law_1654 ⟨Nat.le_of_ble_eq_true rfl, Nat.le_of_ble_eq_true rfl⟩) hP hD hS hA [0, 1, 2] [3] rfl rfl (by decide) (by decide) (fun x8 u7 H locs hw hP hD hS => ?_)
  obtain rfl : x8 = 0 := hw
  have hP : va_P D vwCl [(o1, .inl (cy 1, 1, .inr (.inl (fun _ => 0)))), (g0, .inr (17, [.ref m0, .ref m1, .ref m2, .ref m3, .ref m4, .ref m5, .ref m6, .ref m7, .ref m8, .ref m9, .ref m10, .ref m11, .ref m12, .ref m13, .ref m14, .ref m15, .ref m16, .ref m17, .ref m18, .ref m19, .ref m20, .int 0, .int 0, .int 0, .int 0, .long 0, .int 1]))] H := hP
  have hD : va_D A [(o1, .inl (cy 1, 1, .inr (.inl (fun _ => 0)))), (g0, .inr (17, [.ref m0, .ref m1, .ref m2, .ref m3, .ref m4, .ref m5, .ref m6, .ref m7, .ref m8, .ref m9, .ref m10, .ref m11, .ref m12, .ref m13, .ref m14, .ref m15, .ref m16, .ref m17, .ref m18, .ref m19, .ref m20, .int 0, .int 0, .int 0, .int 0, .long 0, .int 1]))] := hD
  refine lv_istore (lv' := [(7, .int 0), (6, .int 0), (0, .ref b), (1, .ref x0), (2, .ref g0), (3, .ref o1), (4, .ref o2), (5, .int 0)]) hx hb dL_law_1657 hl (by decide) rfl (fun ls hl => ?_)
  refine lv_aload_n hx hb dL_law_1659 rfl (lv_at hl 4 rfl) ?_
  refine zq_i (wc := [(g0, .inr (17, [.ref m0, .ref m1, .ref m2, .ref m3, .ref m4, .ref m5, .ref m6, .ref m7, .ref m8, .ref m9, .ref m10, .ref m11, .ref m12, .ref m13, .ref m14, .ref m15, .ref m16, .ref m17, .ref m18, .ref m19, .ref m20, .int 0, .int 0, .int 0, .int 0, .long 0, .int 1]))]) (wr := [(o1, .inl (cy 1, 1, .inr (.inl (fun _ => 0))))]) (va_runV (As := []) (rest := []) ⟨hx, hb, hml, hown, hts⟩ (k_thrown l D cy g0 m0 m1 m2 m3 m4 m5 m6 m7 m8 m9 m10 m11 m12 m13 m14 m15 m16 m17 m18 m19 m20 0 0 0 0 0 1 H.size ) (cwV 0 hts (gzV (gz q571) q570 q572 q573 q285) rfl rfl rfl vX14_thrown ⟨Nat.le_of_ble_eq_true rfl, Nat.le_of_ble_eq_true rfl⟩) (zpV (ci := 17) (T := TX14) (N := 27) (q0 := 0) hK hX hY hP hD hS hA [1] (by decide) rfl rfl rfl) rfl rfl hl.1 rfl (lv_room (Nat.le_of_ble_eq_true rfl)) dL_law_1660 ⟨Nat.le_of_ble_eq_true rfl, Nat.le_of_ble_eq_true rfl⟩) hP hD hS hA [1] [0] rfl rfl (by decide) (by decide) (fun x10 u9 H locs hw hP hD hS => ?_)
  obtain rfl : x10 = 0 := hw
  have hP : va_P D vwCl [(o1, .inl (cy 1, 1, .inr (.inl (fun _ => 0)))), (g0, .inr (17, [.ref m0, .ref m1, .ref m2, .ref m3, .ref m4, .ref m5, .ref m6, .ref m7, .ref m8, .ref m9, .ref m10, .ref m11, .ref m12, .ref m13, .ref m14, .ref m15, .ref m16, .ref m17, .ref m18, .ref m19, .ref m20, .int 0, .int 0, .int 0, .int 0, .long 0, .int 1]))] H := hP
  have hD : va_D A [(o1, .inl (cy 1, 1, .inr (.inl (fun _ => 0)))), (g0, .inr (17, [.ref m0, .ref m1, .ref m2, .ref m3, .ref m4, .ref m5, .ref m6, .ref m7, .ref m8, .ref m9, .ref m10, .ref m11, .ref m12, .ref m13, .ref m14, .ref m15, .ref m16, .ref m17, .ref m18, .ref m19, .ref m20, .int 0, .int 0, .int 0, .int 0, .long 0, .int 1]))] := hD
  refine lv_iload hx hb dL_law_1663 (lv_at hl 1 rfl) ?_
  refine lv_icmp_eq (tgt := 1670) hx hb dL_law_1665 (by decide) (fun _ => ?_) (fun c_1665_10 => absurd (by decide +kernel) c_1665_10)
  refine lv_iload hx hb dL_law_1670 (lv_at hl 1 rfl) ?_
  refine lv_if_ne (tgt := 1687) hx hb dL_law_1672 (by decide) (fun c_1672_11 => absurd (by decide +kernel) c_1672_11) (fun _ => ?_)
  refine lv_aload_n hx hb dL_law_1675 rfl (lv_at hl 5 rfl) ?_
  refine lv_iconst (v := 0) hx hb dL_law_1676 (by decide) ?_
  refine va_lald hx hb hK hP 0 1 rfl rfl (z_in 0 (by decide) (by decide)) dL_law_1677 ?_
  refine lv_topl (fun y13 ey13 => ?_)
  obtain rfl : y13 = 0 := ey13.trans rfl
  refine lv_iload hx hb dL_law_1678 (lv_at hl 0 rfl) ?_
  refine lv_i2l (v := 0) hx hb dL_law_1680 (by decide) ?_
  refine W.lcmp hx hb dL_law_1681 ?_
  refine lv_topi (fun y14 ey14 => ?_)
  obtain rfl : y14 = 0 := ey14.trans (by decide +kernel)
  refine lv_if_eq (tgt := 1687) hx hb dL_law_1682 (by decide) (fun _ => ?_) (fun c_1682_14 => absurd (by decide +kernel) c_1682_14)
  refine lv_goto (tgt := 2706) hx hb dL_law_1687 (by decide) ?_
  exact W.widen (k := 600006) (n := 7302040) (Nat.le_of_ble_eq_true rfl) (Nat.le_of_ble_eq_true rfl) (kt _ _ _ hS (lv_sub hl [2, 7] rfl))
set_option maxHeartbeats 4000000 in
set_option maxRecDepth 100000 in
theorem c_sump (l : Launch) {p : Program} {e : Env} {s : State} {m : MethodId} {below : List Frame} {meth : Method} {c : Code} {D : va_G} {cy : Nat → ClassId} {A : Nat → Prop} {b : Nat} {xs : Nat → Int32} {Q : State → Prop} {H : Heap} {locs : List Loc} {ls : Array Slot} (Z : zLaw l p s m c D cy A b 9 xs) (x0 : Nat) (g0 : Nat) (o1 : Nat) (o2 : Nat) (vC : Nat) (vP : Nat) (vT : Nat) (vS : Nat) (vF : Nat) (vN : Nat) (vY : Nat) (sS : Nat) (sJ : Nat) (m0 : Nat) (m1 : Nat) (m2 : Nat) (m3 : Nat) (m4 : Nat) (m5 : Nat) (m6 : Nat) (m7 : Nat) (m8 : Nat) (m9 : Nat) (m10 : Nat) (m11 : Nat) (m12 : Nat) (m13 : Nat) (m14 : Nat) (m15 : Nat) (m16 : Nat) (m17 : Nat) (m18 : Nat) (m19 : Nat) (m20 : Nat) (b1 : Nat)  (hP : va_P D vwCl [(x0, .inr (12, [.ref vC, .ref vP, .ref vT, .ref vS, .ref vF, .ref vN, .ref vY, .int 0])), (vC, .inr (3, [.ref sS, .ref sJ, .int 0, .int 0])), (g0, .inr (17, [.ref m0, .ref m1, .ref m2, .ref m3, .ref m4, .ref m5, .ref m6, .ref m7, .ref m8, .ref m9, .ref m10, .ref m11, .ref m12, .ref m13, .ref m14, .ref m15, .ref m16, .ref m17, .ref m18, .ref m19, .ref m20, .int 0, .int 0, .int 0, .int 0, .long 0, .int 0])), (m0, .inr (2, [.int 0, .ref b1, .int 0]))] H) (hD : va_D A [(x0, .inr (12, [.ref vC, .ref vP, .ref vT, .ref vS, .ref vF, .ref vN, .ref vY, .int 0])), (vC, .inr (3, [.ref sS, .ref sJ, .int 0, .int 0])), (g0, .inr (17, [.ref m0, .ref m1, .ref m2, .ref m3, .ref m4, .ref m5, .ref m6, .ref m7, .ref m8, .ref m9, .ref m10, .ref m11, .ref m12, .ref m13, .ref m14, .ref m15, .ref m16, .ref m17, .ref m18, .ref m19, .ref m20, .int 0, .int 0, .int 0, .int 0, .long 0, .int 0])), (m0, .inr (2, [.int 0, .ref b1, .int 0]))]) (hS : va_S A s.heap H locs) (hl : lv_has ls 9 [(0, .ref b), (1, .ref x0), (2, .ref g0), (3, .ref o1), (4, .ref o2), (5, .int 0)]) (kt : ∀ (H : Heap) (locs : List Loc) (ls : Array Slot), va_S A s.heap H locs → lv_has ls 9 [(0, .ref b), (5, .int 0)] → W p l e room_1 s m #[Value.ref b] below meth c H locs 600006 7302040 Q (F0 m 2706 ls [])) : W p l e room_1 s m #[Value.ref b] below meth c H locs 213 25112 Q (F0 m 1690 ls []) := by
  obtain ⟨hx, hb, hml, hown, hts, hK, hX, hY, hA, hXs, hbl, hbA, hlt⟩ := id Z
  refine lv_aload_n hx hb dL_law_1690 rfl (lv_at hl 1 rfl) ?_
  refine lv_aload_n hx hb dL_law_1691 rfl (lv_at hl 0 rfl) ?_
  refine lv_iload hx hb dL_law_1692 (lv_at hl 5 rfl) ?_
  refine lv_iconst (v := 1) hx hb dL_law_1694 (by decide) ?_
  refine lv_iadd hx hb dL_law_1695 ?_
  refine lv_topi (fun y1 ey1 => ?_)
  obtain rfl : y1 = 1 := ey1.trans (by decide +kernel)
  refine va_sld hx hb hXs hbl hbA hS (z_in 1 (by decide) (by decide)) dL_law_1696 ?_
  refine lv_topi (fun y2 ey2 => ?_)
  obtain rfl : y2 = (xs 1) := ey2.trans rfl
  refine lv_aload_n hx hb dL_law_1697 rfl (lv_at hl 0 rfl) ?_
  refine lv_iload hx hb dL_law_1698 (lv_at hl 5 rfl) ?_
  refine lv_iconst (v := 2) hx hb dL_law_1700 (by decide) ?_
  refine lv_iadd hx hb dL_law_1701 ?_
  refine lv_topi (fun y3 ey3 => ?_)
  obtain rfl : y3 = 2 := ey3.trans (by decide +kernel)
  refine va_sld hx hb hXs hbl hbA hS (z_in 2 (by decide) (by decide)) dL_law_1702 ?_
  refine lv_topi (fun y4 ey4 => ?_)
  obtain rfl : y4 = (xs 2) := ey4.trans rfl
  refine lv_aload_n hx hb dL_law_1703 rfl (lv_at hl 3 rfl) ?_
  refine zq_i (wc := [(x0, .inr (12, [.ref vC, .ref vP, .ref vT, .ref vS, .ref vF, .ref vN, .ref vY, .int 0])), (vC, .inr (3, [.ref sS, .ref sJ, .int 0, .int 0]))]) (wr := [(g0, .inr (17, [.ref m0, .ref m1, .ref m2, .ref m3, .ref m4, .ref m5, .ref m6, .ref m7, .ref m8, .ref m9, .ref m10, .ref m11, .ref m12, .ref m13, .ref m14, .ref m15, .ref m16, .ref m17, .ref m18, .ref m19, .ref m20, .int 0, .int 0, .int 0, .int 0, .long 0, .int 0])), (m0, .inr (2, [.int 0, .ref b1, .int 0]))]) (vx_runSW (As := [.ref x0, .int (xs 1), .int (xs 2), .ref o1]) (rest := []) ⟨hx, hb, hml, hown, hts⟩ (w_sump l hlt D cy x0 vC vP vT vS vF vN vY sS sJ (xs 1) (xs 2) o1 H.size ) (vx_cwSW 4 hts (gzS (gzW q715) q714 q716 q565) rfl rfl rfl vL_sump.2 ⟨Nat.le_of_ble_eq_true rfl, Nat.le_of_ble_eq_true rfl⟩) (zpS hK hX hY hP hD hS hA [0, 1] (by decide) rfl) rfl rfl hl.1 rfl (lv_room (Nat.le_of_ble_eq_true rfl)) dL_law_1704 ⟨Nat.le_of_ble_eq_true rfl, Nat.le_of_ble_eq_true rfl⟩) hP hD hS hA [0, 1] [2, 3] rfl rfl (by decide) (by decide) (fun x6 u5 H locs hw hP hD hS => ?_)
  obtain rfl : x6 = 1 := hw
  have hP : va_P D vwCl [(g0, .inr (17, [.ref m0, .ref m1, .ref m2, .ref m3, .ref m4, .ref m5, .ref m6, .ref m7, .ref m8, .ref m9, .ref m10, .ref m11, .ref m12, .ref m13, .ref m14, .ref m15, .ref m16, .ref m17, .ref m18, .ref m19, .ref m20, .int 0, .int 0, .int 0, .int 0, .long 0, .int 0])), (m0, .inr (2, [.int 0, .ref b1, .int 0]))] H := hP
  have hD : va_D A [(g0, .inr (17, [.ref m0, .ref m1, .ref m2, .ref m3, .ref m4, .ref m5, .ref m6, .ref m7, .ref m8, .ref m9, .ref m10, .ref m11, .ref m12, .ref m13, .ref m14, .ref m15, .ref m16, .ref m17, .ref m18, .ref m19, .ref m20, .int 0, .int 0, .int 0, .int 0, .long 0, .int 0])), (m0, .inr (2, [.int 0, .ref b1, .int 0]))] := hD
  refine W.widen (k := 214) (n := 25118) (by omega) (by omega) ?_
  refine lv_istore (lv' := [(6, .int 1), (0, .ref b), (1, .ref x0), (2, .ref g0), (3, .ref o1), (4, .ref o2), (5, .int 0)]) hx hb dL_law_1707 hl (by decide) rfl (fun ls hl => ?_)
  refine lv_aload_n hx hb dL_law_1709 rfl (lv_at hl 3 rfl) ?_
  refine lv_aload_n hx hb dL_law_1710 rfl (lv_at hl 1 rfl) ?_
  refine lv_iload hx hb dL_law_1711 (lv_at hl 6 rfl) ?_
  refine lv_iconst (v := 1) hx hb dL_law_1713 (by decide) ?_
  refine lv_iadd hx hb dL_law_1714 ?_
  refine lv_topi (fun y7 ey7 => ?_)
  obtain rfl : y7 = 1 := ey7.trans (by decide +kernel)
  refine va_sld hx hb hXs hbl hbA hS (z_in 1 (by decide) (by decide)) dL_law_1715 ?_
  refine lv_topi (fun y8 ey8 => ?_)
  obtain rfl : y8 = (xs 1) := ey8.trans rfl
  refine lv_aload_n hx hb dL_law_1716 rfl (lv_at hl 1 rfl) ?_
  refine lv_iload hx hb dL_law_1717 (lv_at hl 6 rfl) ?_
  refine lv_iconst (v := 2) hx hb dL_law_1719 (by decide) ?_
  refine lv_iadd hx hb dL_law_1720 ?_
  refine lv_topi (fun y9 ey9 => ?_)
  obtain rfl : y9 = 2 := ey9.trans (by decide +kernel)
  refine va_sld hx hb hXs hbl hbA hS (z_in 2 (by decide) (by decide)) dL_law_1721 ?_
  refine lv_topi (fun y10 ey10 => ?_)
  obtain rfl : y10 = (xs 2) := ey10.trans rfl
  refine zq_i (wc := [(g0, .inr (17, [.ref m0, .ref m1, .ref m2, .ref m3, .ref m4, .ref m5, .ref m6, .ref m7, .ref m8, .ref m9, .ref m10, .ref m11, .ref m12, .ref m13, .ref m14, .ref m15, .ref m16, .ref m17, .ref m18, .ref m19, .ref m20, .int 0, .int 0, .int 0, .int 0, .long 0, .int 0])), (m0, .inr (2, [.int 0, .ref b1, .int 0]))]) (wr := []) (va_runV (As := [.int (xs 1), .int (xs 2)]) (rest := []) ⟨hx, hb, hml, hown, hts⟩ (g_sump l D cy g0 m0 m1 m2 m3 m4 m5 m6 m7 m8 m9 m10 m11 m12 m13 m14 m15 m16 m17 m18 m19 m20 b1 (xs 1) (xs 2) H.size ) (cwV 2 hts (gzV (gz q718) q717 q719 q720 q285) rfl rfl rfl vX14_sump ⟨Nat.le_of_ble_eq_true rfl, Nat.le_of_ble_eq_true rfl⟩) (zpV (ci := 17) (T := TX14) (N := 27) (q0 := 0) hK hX hY hP hD hS hA [0, 1] (by decide) rfl rfl rfl) rfl rfl hl.1 rfl (lv_room (Nat.le_of_ble_eq_true rfl)) dL_law_1722 ⟨Nat.le_of_ble_eq_true rfl, Nat.le_of_ble_eq_true rfl⟩) hP hD hS hA [0, 1] [] rfl rfl (by decide) (by decide) (fun x12 u11 H locs hw hP hD hS => ?_)
  obtain rfl : x12 = 0 := hw
  have hP : va_P D vwCl [(g0, .inr (17, [.ref m0, .ref m1, .ref m2, .ref m3, .ref m4, .ref m5, .ref m6, .ref m7, .ref m8, .ref m9, .ref m10, .ref m11, .ref m12, .ref m13, .ref m14, .ref m15, .ref m16, .ref m17, .ref m18, .ref m19, .ref m20, .int 1, .int 0, .int 0, .int 0, .long 0, .int 0]))] H := hP
  have hD : va_D A [(g0, .inr (17, [.ref m0, .ref m1, .ref m2, .ref m3, .ref m4, .ref m5, .ref m6, .ref m7, .ref m8, .ref m9, .ref m10, .ref m11, .ref m12, .ref m13, .ref m14, .ref m15, .ref m16, .ref m17, .ref m18, .ref m19, .ref m20, .int 1, .int 0, .int 0, .int 0, .long 0, .int 0]))] := hD
  refine lv_istore (lv' := [(7, .int 0), (6, .int 1), (0, .ref b), (1, .ref x0), (2, .ref g0), (3, .ref o1), (4, .ref o2), (5, .int 0)]) hx hb dL_law_1725 hl (by decide) rfl (fun ls hl => ?_)
  refine lv_aload_n hx hb dL_law_1727 rfl (lv_at hl 4 rfl) ?_
  refine zq_i (wc := [(g0, .inr (17, [.ref m0, .ref m1, .ref m2, .ref m3, .ref m4, .ref m5, .ref m6, .ref m7, .ref m8, .ref m9, .ref m10, .ref m11, .ref m12, .ref m13, .ref m14, .ref m15, .ref m16, .ref m17, .ref m18, .ref m19, .ref m20, .int 1, .int 0, .int 0, .int 0, .long 0, .int 0]))]) (wr := []) (va_runV (As := []) (rest := []) ⟨hx, hb, hml, hown, hts⟩ (k_thrown l D cy g0 m0 m1 m2 m3 m4 m5 m6 m7 m8 m9 m10 m11 m12 m13 m14 m15 m16 m17 m18 m19 m20 1 0 0 0 0 0 H.size ) (cwV 0 hts (gzV (gz q571) q570 q572 q573 q285) rfl rfl rfl vX14_thrown ⟨Nat.le_of_ble_eq_true rfl, Nat.le_of_ble_eq_true rfl⟩) (zpV (ci := 17) (T := TX14) (N := 27) (q0 := 0) hK hX hY hP hD hS hA [0] (by decide) rfl rfl rfl) rfl rfl hl.1 rfl (lv_room (Nat.le_of_ble_eq_true rfl)) dL_law_1728 ⟨Nat.le_of_ble_eq_true rfl, Nat.le_of_ble_eq_true rfl⟩) hP hD hS hA [0] [] rfl rfl (by decide) (by decide) (fun x14 u13 H locs hw hP hD hS => ?_)
  obtain rfl : x14 = 1 := hw
  have hP : va_P D vwCl [(g0, .inr (17, [.ref m0, .ref m1, .ref m2, .ref m3, .ref m4, .ref m5, .ref m6, .ref m7, .ref m8, .ref m9, .ref m10, .ref m11, .ref m12, .ref m13, .ref m14, .ref m15, .ref m16, .ref m17, .ref m18, .ref m19, .ref m20, .int 1, .int 0, .int 0, .int 0, .long 0, .int 0]))] H := hP
  have hD : va_D A [(g0, .inr (17, [.ref m0, .ref m1, .ref m2, .ref m3, .ref m4, .ref m5, .ref m6, .ref m7, .ref m8, .ref m9, .ref m10, .ref m11, .ref m12, .ref m13, .ref m14, .ref m15, .ref m16, .ref m17, .ref m18, .ref m19, .ref m20, .int 1, .int 0, .int 0, .int 0, .long 0, .int 0]))] := hD
  refine lv_iload hx hb dL_law_1731 (lv_at hl 1 rfl) ?_
  refine lv_icmp_eq (tgt := 1738) hx hb dL_law_1733 (by decide) (fun _ => ?_) (fun c_1733_14 => absurd (by decide +kernel) c_1733_14)
  refine lv_iload hx hb dL_law_1738 (lv_at hl 1 rfl) ?_
  refine lv_if_ne (tgt := 1755) hx hb dL_law_1740 (by decide) (fun _ => ?_) (fun c_1740_15 => absurd c_1740_15 (by decide +kernel))
  refine lv_goto (tgt := 2706) hx hb dL_law_1755 (by decide) ?_
  exact W.widen (k := 600006) (n := 7302040) (Nat.le_of_ble_eq_true rfl) (Nat.le_of_ble_eq_true rfl) (kt _ _ _ hS (lv_sub hl [2, 7] rfl))
set_option maxHeartbeats 4000000 in
set_option maxRecDepth 100000 in
theorem c_isClosed (l : Launch) {p : Program} {e : Env} {s : State} {m : MethodId} {below : List Frame} {meth : Method} {c : Code} {D : va_G} {cy : Nat → ClassId} {A : Nat → Prop} {b : Nat} {xs : Nat → Int32} {Q : State → Prop} {H : Heap} {locs : List Loc} {ls : Array Slot} (Z : zLaw l p s m c D cy A b 9 xs) (x0 : Nat) (g0 : Nat) (o1 : Nat) (o2 : Nat) (vC : Nat) (vP : Nat) (vT : Nat) (vS : Nat) (vF : Nat) (vN : Nat) (vY : Nat) (sS : Nat) (sJ : Nat) (m0 : Nat) (m1 : Nat) (m2 : Nat) (m3 : Nat) (m4 : Nat) (m5 : Nat) (m6 : Nat) (m7 : Nat) (m8 : Nat) (m9 : Nat) (m10 : Nat) (m11 : Nat) (m12 : Nat) (m13 : Nat) (m14 : Nat) (m15 : Nat) (m16 : Nat) (m17 : Nat) (m18 : Nat) (m19 : Nat) (m20 : Nat) (b1 : Nat)  (hP : va_P D vwCl [(x0, .inr (12, [.ref vC, .ref vP, .ref vT, .ref vS, .ref vF, .ref vN, .ref vY, .int 0])), (vC, .inr (3, [.ref sS, .ref sJ, .int 0, .int 0])), (g0, .inr (17, [.ref m0, .ref m1, .ref m2, .ref m3, .ref m4, .ref m5, .ref m6, .ref m7, .ref m8, .ref m9, .ref m10, .ref m11, .ref m12, .ref m13, .ref m14, .ref m15, .ref m16, .ref m17, .ref m18, .ref m19, .ref m20, .int 0, .int 0, .int 0, .int 0, .long 0, .int 0])), (m0, .inr (2, [.int 0, .ref b1, .int 0]))] H) (hD : va_D A [(x0, .inr (12, [.ref vC, .ref vP, .ref vT, .ref vS, .ref vF, .ref vN, .ref vY, .int 0])), (vC, .inr (3, [.ref sS, .ref sJ, .int 0, .int 0])), (g0, .inr (17, [.ref m0, .ref m1, .ref m2, .ref m3, .ref m4, .ref m5, .ref m6, .ref m7, .ref m8, .ref m9, .ref m10, .ref m11, .ref m12, .ref m13, .ref m14, .ref m15, .ref m16, .ref m17, .ref m18, .ref m19, .ref m20, .int 0, .int 0, .int 0, .int 0, .long 0, .int 0])), (m0, .inr (2, [.int 0, .ref b1, .int 0]))]) (hS : va_S A s.heap H locs) (hl : lv_has ls 9 [(0, .ref b), (1, .ref x0), (2, .ref g0), (3, .ref o1), (4, .ref o2), (5, .int 0)]) (kt : ∀ (H : Heap) (locs : List Loc) (ls : Array Slot), va_S A s.heap H locs → lv_has ls 9 [(0, .ref b), (5, .int 0)] → W p l e room_1 s m #[Value.ref b] below meth c H locs 600006 7302040 Q (F0 m 2706 ls [])) : W p l e room_1 s m #[Value.ref b] below meth c H locs 213 25112 Q (F0 m 1758 ls []) := by
  obtain ⟨hx, hb, hml, hown, hts, hK, hX, hY, hA, hXs, hbl, hbA, hlt⟩ := id Z
  refine lv_aload_n hx hb dL_law_1758 rfl (lv_at hl 1 rfl) ?_
  refine lv_aload_n hx hb dL_law_1759 rfl (lv_at hl 0 rfl) ?_
  refine lv_iload hx hb dL_law_1760 (lv_at hl 5 rfl) ?_
  refine lv_iconst (v := 1) hx hb dL_law_1762 (by decide) ?_
  refine lv_iadd hx hb dL_law_1763 ?_
  refine lv_topi (fun y1 ey1 => ?_)
  obtain rfl : y1 = 1 := ey1.trans (by decide +kernel)
  refine va_sld hx hb hXs hbl hbA hS (z_in 1 (by decide) (by decide)) dL_law_1764 ?_
  refine lv_topi (fun y2 ey2 => ?_)
  obtain rfl : y2 = (xs 1) := ey2.trans rfl
  refine lv_aload_n hx hb dL_law_1765 rfl (lv_at hl 0 rfl) ?_
  refine lv_iload hx hb dL_law_1766 (lv_at hl 5 rfl) ?_
  refine lv_iconst (v := 2) hx hb dL_law_1768 (by decide) ?_
  refine lv_iadd hx hb dL_law_1769 ?_
  refine lv_topi (fun y3 ey3 => ?_)
  obtain rfl : y3 = 2 := ey3.trans (by decide +kernel)
  refine va_sld hx hb hXs hbl hbA hS (z_in 2 (by decide) (by decide)) dL_law_1770 ?_
  refine lv_topi (fun y4 ey4 => ?_)
  obtain rfl : y4 = (xs 2) := ey4.trans rfl
  refine lv_aload_n hx hb dL_law_1771 rfl (lv_at hl 3 rfl) ?_
  refine zq_i (wc := [(x0, .inr (12, [.ref vC, .ref vP, .ref vT, .ref vS, .ref vF, .ref vN, .ref vY, .int 0])), (vC, .inr (3, [.ref sS, .ref sJ, .int 0, .int 0]))]) (wr := [(g0, .inr (17, [.ref m0, .ref m1, .ref m2, .ref m3, .ref m4, .ref m5, .ref m6, .ref m7, .ref m8, .ref m9, .ref m10, .ref m11, .ref m12, .ref m13, .ref m14, .ref m15, .ref m16, .ref m17, .ref m18, .ref m19, .ref m20, .int 0, .int 0, .int 0, .int 0, .long 0, .int 0])), (m0, .inr (2, [.int 0, .ref b1, .int 0]))]) (vx_runSW (As := [.ref x0, .int (xs 1), .int (xs 2), .ref o1]) (rest := []) ⟨hx, hb, hml, hown, hts⟩ (w_isClosed l hlt D cy x0 vC vP vT vS vF vN vY sS sJ (xs 1) (xs 2) o1 H.size ) (vx_cwSW 4 hts (gzS (gzW q722) q721 q723 q565) rfl rfl rfl vL_isClosed.2 ⟨Nat.le_of_ble_eq_true rfl, Nat.le_of_ble_eq_true rfl⟩) (zpS hK hX hY hP hD hS hA [0, 1] (by decide) rfl) rfl rfl hl.1 rfl (lv_room (Nat.le_of_ble_eq_true rfl)) dL_law_1772 ⟨Nat.le_of_ble_eq_true rfl, Nat.le_of_ble_eq_true rfl⟩) hP hD hS hA [0, 1] [2, 3] rfl rfl (by decide) (by decide) (fun x6 u5 H locs hw hP hD hS => ?_)
  obtain rfl : x6 = 1 := hw
  have hP : va_P D vwCl [(g0, .inr (17, [.ref m0, .ref m1, .ref m2, .ref m3, .ref m4, .ref m5, .ref m6, .ref m7, .ref m8, .ref m9, .ref m10, .ref m11, .ref m12, .ref m13, .ref m14, .ref m15, .ref m16, .ref m17, .ref m18, .ref m19, .ref m20, .int 0, .int 0, .int 0, .int 0, .long 0, .int 0])), (m0, .inr (2, [.int 0, .ref b1, .int 0]))] H := hP
  have hD : va_D A [(g0, .inr (17, [.ref m0, .ref m1, .ref m2, .ref m3, .ref m4, .ref m5, .ref m6, .ref m7, .ref m8, .ref m9, .ref m10, .ref m11, .ref m12, .ref m13, .ref m14, .ref m15, .ref m16, .ref m17, .ref m18, .ref m19, .ref m20, .int 0, .int 0, .int 0, .int 0, .long 0, .int 0])), (m0, .inr (2, [.int 0, .ref b1, .int 0]))] := hD
  refine W.widen (k := 214) (n := 25118) (by omega) (by omega) ?_
  refine lv_istore (lv' := [(6, .int 1), (0, .ref b), (1, .ref x0), (2, .ref g0), (3, .ref o1), (4, .ref o2), (5, .int 0)]) hx hb dL_law_1775 hl (by decide) rfl (fun ls hl => ?_)
  refine lv_aload_n hx hb dL_law_1777 rfl (lv_at hl 3 rfl) ?_
  refine lv_aload_n hx hb dL_law_1778 rfl (lv_at hl 1 rfl) ?_
  refine lv_iload hx hb dL_law_1779 (lv_at hl 6 rfl) ?_
  refine lv_iconst (v := 1) hx hb dL_law_1781 (by decide) ?_
  refine lv_iadd hx hb dL_law_1782 ?_
  refine lv_topi (fun y7 ey7 => ?_)
  obtain rfl : y7 = 1 := ey7.trans (by decide +kernel)
  refine va_sld hx hb hXs hbl hbA hS (z_in 1 (by decide) (by decide)) dL_law_1783 ?_
  refine lv_topi (fun y8 ey8 => ?_)
  obtain rfl : y8 = (xs 1) := ey8.trans rfl
  refine lv_aload_n hx hb dL_law_1784 rfl (lv_at hl 1 rfl) ?_
  refine lv_iload hx hb dL_law_1785 (lv_at hl 6 rfl) ?_
  refine lv_iconst (v := 2) hx hb dL_law_1787 (by decide) ?_
  refine lv_iadd hx hb dL_law_1788 ?_
  refine lv_topi (fun y9 ey9 => ?_)
  obtain rfl : y9 = 2 := ey9.trans (by decide +kernel)
  refine va_sld hx hb hXs hbl hbA hS (z_in 2 (by decide) (by decide)) dL_law_1789 ?_
  refine lv_topi (fun y10 ey10 => ?_)
  obtain rfl : y10 = (xs 2) := ey10.trans rfl
  refine zq_i (wc := [(g0, .inr (17, [.ref m0, .ref m1, .ref m2, .ref m3, .ref m4, .ref m5, .ref m6, .ref m7, .ref m8, .ref m9, .ref m10, .ref m11, .ref m12, .ref m13, .ref m14, .ref m15, .ref m16, .ref m17, .ref m18, .ref m19, .ref m20, .int 0, .int 0, .int 0, .int 0, .long 0, .int 0])), (m0, .inr (2, [.int 0, .ref b1, .int 0]))]) (wr := []) (va_runV (As := [.int (xs 1), .int (xs 2)]) (rest := []) ⟨hx, hb, hml, hown, hts⟩ (g_isClosed l D cy g0 m0 m1 m2 m3 m4 m5 m6 m7 m8 m9 m10 m11 m12 m13 m14 m15 m16 m17 m18 m19 m20 b1 (xs 1) (xs 2) H.size ) (cwV 2 hts (gzV (gz q725) q724 q726 q727 q285) rfl rfl rfl vX14_isClosed ⟨Nat.le_of_ble_eq_true rfl, Nat.le_of_ble_eq_true rfl⟩) (zpV (ci := 17) (T := TX14) (N := 27) (q0 := 0) hK hX hY hP hD hS hA [0, 1] (by decide) rfl rfl rfl) rfl rfl hl.1 rfl (lv_room (Nat.le_of_ble_eq_true rfl)) dL_law_1790 ⟨Nat.le_of_ble_eq_true rfl, Nat.le_of_ble_eq_true rfl⟩) hP hD hS hA [0, 1] [] rfl rfl (by decide) (by decide) (fun x12 u11 H locs hw hP hD hS => ?_)
  obtain rfl : x12 = 0 := hw
  have hP : va_P D vwCl [(g0, .inr (17, [.ref m0, .ref m1, .ref m2, .ref m3, .ref m4, .ref m5, .ref m6, .ref m7, .ref m8, .ref m9, .ref m10, .ref m11, .ref m12, .ref m13, .ref m14, .ref m15, .ref m16, .ref m17, .ref m18, .ref m19, .ref m20, .int 1, .int 0, .int 0, .int 0, .long 0, .int 0]))] H := hP
  have hD : va_D A [(g0, .inr (17, [.ref m0, .ref m1, .ref m2, .ref m3, .ref m4, .ref m5, .ref m6, .ref m7, .ref m8, .ref m9, .ref m10, .ref m11, .ref m12, .ref m13, .ref m14, .ref m15, .ref m16, .ref m17, .ref m18, .ref m19, .ref m20, .int 1, .int 0, .int 0, .int 0, .long 0, .int 0]))] := hD
  refine lv_istore (lv' := [(7, .int 0), (6, .int 1), (0, .ref b), (1, .ref x0), (2, .ref g0), (3, .ref o1), (4, .ref o2), (5, .int 0)]) hx hb dL_law_1793 hl (by decide) rfl (fun ls hl => ?_)
  refine lv_aload_n hx hb dL_law_1795 rfl (lv_at hl 4 rfl) ?_
  refine zq_i (wc := [(g0, .inr (17, [.ref m0, .ref m1, .ref m2, .ref m3, .ref m4, .ref m5, .ref m6, .ref m7, .ref m8, .ref m9, .ref m10, .ref m11, .ref m12, .ref m13, .ref m14, .ref m15, .ref m16, .ref m17, .ref m18, .ref m19, .ref m20, .int 1, .int 0, .int 0, .int 0, .long 0, .int 0]))]) (wr := []) (va_runV (As := []) (rest := []) ⟨hx, hb, hml, hown, hts⟩ (k_thrown l D cy g0 m0 m1 m2 m3 m4 m5 m6 m7 m8 m9 m10 m11 m12 m13 m14 m15 m16 m17 m18 m19 m20 1 0 0 0 0 0 H.size ) (cwV 0 hts (gzV (gz q571) q570 q572 q573 q285) rfl rfl rfl vX14_thrown ⟨Nat.le_of_ble_eq_true rfl, Nat.le_of_ble_eq_true rfl⟩) (zpV (ci := 17) (T := TX14) (N := 27) (q0 := 0) hK hX hY hP hD hS hA [0] (by decide) rfl rfl rfl) rfl rfl hl.1 rfl (lv_room (Nat.le_of_ble_eq_true rfl)) dL_law_1796 ⟨Nat.le_of_ble_eq_true rfl, Nat.le_of_ble_eq_true rfl⟩) hP hD hS hA [0] [] rfl rfl (by decide) (by decide) (fun x14 u13 H locs hw hP hD hS => ?_)
  obtain rfl : x14 = 1 := hw
  have hP : va_P D vwCl [(g0, .inr (17, [.ref m0, .ref m1, .ref m2, .ref m3, .ref m4, .ref m5, .ref m6, .ref m7, .ref m8, .ref m9, .ref m10, .ref m11, .ref m12, .ref m13, .ref m14, .ref m15, .ref m16, .ref m17, .ref m18, .ref m19, .ref m20, .int 1, .int 0, .int 0, .int 0, .long 0, .int 0]))] H := hP
  have hD : va_D A [(g0, .inr (17, [.ref m0, .ref m1, .ref m2, .ref m3, .ref m4, .ref m5, .ref m6, .ref m7, .ref m8, .ref m9, .ref m10, .ref m11, .ref m12, .ref m13, .ref m14, .ref m15, .ref m16, .ref m17, .ref m18, .ref m19, .ref m20, .int 1, .int 0, .int 0, .int 0, .long 0, .int 0]))] := hD
  refine lv_iload hx hb dL_law_1799 (lv_at hl 1 rfl) ?_
  refine lv_icmp_eq (tgt := 1806) hx hb dL_law_1801 (by decide) (fun _ => ?_) (fun c_1801_14 => absurd (by decide +kernel) c_1801_14)
  refine lv_iload hx hb dL_law_1806 (lv_at hl 1 rfl) ?_
  refine lv_if_ne (tgt := 1830) hx hb dL_law_1808 (by decide) (fun _ => ?_) (fun c_1808_15 => absurd c_1808_15 (by decide +kernel))
  refine lv_goto (tgt := 2706) hx hb dL_law_1830 (by decide) ?_
  exact W.widen (k := 600006) (n := 7302040) (Nat.le_of_ble_eq_true rfl) (Nat.le_of_ble_eq_true rfl) (kt _ _ _ hS (lv_sub hl [2, 7] rfl))
set_option maxHeartbeats 4000000 in
set_option maxRecDepth 100000 in
theorem c_party (l : Launch) {p : Program} {e : Env} {s : State} {m : MethodId} {below : List Frame} {meth : Method} {c : Code} {D : va_G} {cy : Nat → ClassId} {A : Nat → Prop} {b : Nat} {xs : Nat → Int32} {Q : State → Prop} {H : Heap} {locs : List Loc} {ls : Array Slot} (Z : zLaw l p s m c D cy A b 9 xs) (x0 : Nat) (g0 : Nat) (o1 : Nat) (o2 : Nat) (vC : Nat) (vP : Nat) (vT : Nat) (vS : Nat) (vF : Nat) (vN : Nat) (vY : Nat) (sS : Nat) (sJ : Nat) (m0 : Nat) (m1 : Nat) (m2 : Nat) (m3 : Nat) (m4 : Nat) (m5 : Nat) (m6 : Nat) (m7 : Nat) (m8 : Nat) (m9 : Nat) (m10 : Nat) (m11 : Nat) (m12 : Nat) (m13 : Nat) (m14 : Nat) (m15 : Nat) (m16 : Nat) (m17 : Nat) (m18 : Nat) (m19 : Nat) (m20 : Nat)  (hP : va_P D vwCl [(x0, .inr (12, [.ref vC, .ref vP, .ref vT, .ref vS, .ref vF, .ref vN, .ref vY, .int 0])), (vC, .inr (3, [.ref sS, .ref sJ, .int 0, .int 0])), (g0, .inr (17, [.ref m0, .ref m1, .ref m2, .ref m3, .ref m4, .ref m5, .ref m6, .ref m7, .ref m8, .ref m9, .ref m10, .ref m11, .ref m12, .ref m13, .ref m14, .ref m15, .ref m16, .ref m17, .ref m18, .ref m19, .ref m20, .int 0, .int 0, .int 0, .int 0, .long 0, .int 0]))] H) (hD : va_D A [(x0, .inr (12, [.ref vC, .ref vP, .ref vT, .ref vS, .ref vF, .ref vN, .ref vY, .int 0])), (vC, .inr (3, [.ref sS, .ref sJ, .int 0, .int 0])), (g0, .inr (17, [.ref m0, .ref m1, .ref m2, .ref m3, .ref m4, .ref m5, .ref m6, .ref m7, .ref m8, .ref m9, .ref m10, .ref m11, .ref m12, .ref m13, .ref m14, .ref m15, .ref m16, .ref m17, .ref m18, .ref m19, .ref m20, .int 0, .int 0, .int 0, .int 0, .long 0, .int 0]))]) (hS : va_S A s.heap H locs) (hl : lv_has ls 9 [(0, .ref b), (1, .ref x0), (2, .ref g0), (3, .ref o1), (4, .ref o2), (5, .int 0)]) (kt : ∀ (H : Heap) (locs : List Loc) (ls : Array Slot), va_S A s.heap H locs → lv_has ls 9 [(0, .ref b), (5, .int 0)] → W p l e room_1 s m #[Value.ref b] below meth c H locs 600006 7302040 Q (F0 m 2706 ls [])) : W p l e room_1 s m #[Value.ref b] below meth c H locs 213 25112 Q (F0 m 1833 ls []) := by
  obtain ⟨hx, hb, hml, hown, hts, hK, hX, hY, hA, hXs, hbl, hbA, hlt⟩ := id Z
  refine lv_aload_n hx hb dL_law_1833 rfl (lv_at hl 1 rfl) ?_
  refine lv_aload_n hx hb dL_law_1834 rfl (lv_at hl 0 rfl) ?_
  refine lv_iload hx hb dL_law_1835 (lv_at hl 5 rfl) ?_
  refine lv_iconst (v := 1) hx hb dL_law_1837 (by decide) ?_
  refine lv_iadd hx hb dL_law_1838 ?_
  refine lv_topi (fun y1 ey1 => ?_)
  obtain rfl : y1 = 1 := ey1.trans (by decide +kernel)
  refine va_sld hx hb hXs hbl hbA hS (z_in 1 (by decide) (by decide)) dL_law_1839 ?_
  refine lv_topi (fun y2 ey2 => ?_)
  obtain rfl : y2 = (xs 1) := ey2.trans rfl
  refine lv_aload_n hx hb dL_law_1840 rfl (lv_at hl 3 rfl) ?_
  refine zq_i (wc := [(x0, .inr (12, [.ref vC, .ref vP, .ref vT, .ref vS, .ref vF, .ref vN, .ref vY, .int 0])), (vC, .inr (3, [.ref sS, .ref sJ, .int 0, .int 0]))]) (wr := [(g0, .inr (17, [.ref m0, .ref m1, .ref m2, .ref m3, .ref m4, .ref m5, .ref m6, .ref m7, .ref m8, .ref m9, .ref m10, .ref m11, .ref m12, .ref m13, .ref m14, .ref m15, .ref m16, .ref m17, .ref m18, .ref m19, .ref m20, .int 0, .int 0, .int 0, .int 0, .long 0, .int 0]))]) (vx_runSW (As := [.ref x0, .int (xs 1), .ref o1]) (rest := []) ⟨hx, hb, hml, hown, hts⟩ (w_party l hlt D cy x0 vC vP vT vS vF vN vY sS sJ (xs 1) o1 H.size ) (vx_cwSW 3 hts (gzS (gzW q729) q728 q730 q565) rfl rfl rfl vL_party.2 ⟨Nat.le_of_ble_eq_true rfl, Nat.le_of_ble_eq_true rfl⟩) (zpS hK hX hY hP hD hS hA [0, 1] (by decide) rfl) rfl rfl hl.1 rfl (lv_room (Nat.le_of_ble_eq_true rfl)) dL_law_1841 ⟨Nat.le_of_ble_eq_true rfl, Nat.le_of_ble_eq_true rfl⟩) hP hD hS hA [0, 1] [2] rfl rfl (by decide) (by decide) (fun x4 u3 H locs hw hP hD hS => ?_)
  obtain rfl : x4 = 1 := hw
  have hP : va_P D vwCl [(g0, .inr (17, [.ref m0, .ref m1, .ref m2, .ref m3, .ref m4, .ref m5, .ref m6, .ref m7, .ref m8, .ref m9, .ref m10, .ref m11, .ref m12, .ref m13, .ref m14, .ref m15, .ref m16, .ref m17, .ref m18, .ref m19, .ref m20, .int 0, .int 0, .int 0, .int 0, .long 0, .int 0]))] H := hP
  have hD : va_D A [(g0, .inr (17, [.ref m0, .ref m1, .ref m2, .ref m3, .ref m4, .ref m5, .ref m6, .ref m7, .ref m8, .ref m9, .ref m10, .ref m11, .ref m12, .ref m13, .ref m14, .ref m15, .ref m16, .ref m17, .ref m18, .ref m19, .ref m20, .int 0, .int 0, .int 0, .int 0, .long 0, .int 0]))] := hD
  refine W.widen (k := 214) (n := 25118) (by omega) (by omega) ?_
  refine lv_istore (lv' := [(6, .int 1), (0, .ref b), (1, .ref x0), (2, .ref g0), (3, .ref o1), (4, .ref o2), (5, .int 0)]) hx hb dL_law_1844 hl (by decide) rfl (fun ls hl => ?_)
  refine lv_aload_n hx hb dL_law_1846 rfl (lv_at hl 3 rfl) ?_
  refine lv_aload_n hx hb dL_law_1847 rfl (lv_at hl 1 rfl) ?_
  refine lv_iload hx hb dL_law_1848 (lv_at hl 6 rfl) ?_
  refine lv_iconst (v := 1) hx hb dL_law_1850 (by decide) ?_
  refine lv_iadd hx hb dL_law_1851 ?_
  refine lv_topi (fun y5 ey5 => ?_)
  obtain rfl : y5 = 1 := ey5.trans (by decide +kernel)
  refine va_sld hx hb hXs hbl hbA hS (z_in 1 (by decide) (by decide)) dL_law_1852 ?_
  refine lv_topi (fun y6 ey6 => ?_)
  obtain rfl : y6 = (xs 1) := ey6.trans rfl
  refine zq_i (wc := [(g0, .inr (17, [.ref m0, .ref m1, .ref m2, .ref m3, .ref m4, .ref m5, .ref m6, .ref m7, .ref m8, .ref m9, .ref m10, .ref m11, .ref m12, .ref m13, .ref m14, .ref m15, .ref m16, .ref m17, .ref m18, .ref m19, .ref m20, .int 0, .int 0, .int 0, .int 0, .long 0, .int 0]))]) (wr := []) (va_runV (As := [.int (xs 1)]) (rest := []) ⟨hx, hb, hml, hown, hts⟩ (g_party l D cy g0 m0 m1 m2 m3 m4 m5 m6 m7 m8 m9 m10 m11 m12 m13 m14 m15 m16 m17 m18 m19 m20 (xs 1) H.size ) (cwV 1 hts (gzV (gz q732) q731 q733 q734 q285) rfl rfl rfl vX14_party ⟨Nat.le_of_ble_eq_true rfl, Nat.le_of_ble_eq_true rfl⟩) (zpV (ci := 17) (T := TX14) (N := 27) (q0 := 0) hK hX hY hP hD hS hA [0] (by decide) rfl rfl rfl) rfl rfl hl.1 rfl (lv_room (Nat.le_of_ble_eq_true rfl)) dL_law_1853 ⟨Nat.le_of_ble_eq_true rfl, Nat.le_of_ble_eq_true rfl⟩) hP hD hS hA [0] [] rfl rfl (by decide) (by decide) (fun x8 u7 H locs hw hP hD hS => ?_)
  obtain rfl : x8 = 0 := hw
  have hP : va_P D vwCl [(g0, .inr (17, [.ref m0, .ref m1, .ref m2, .ref m3, .ref m4, .ref m5, .ref m6, .ref m7, .ref m8, .ref m9, .ref m10, .ref m11, .ref m12, .ref m13, .ref m14, .ref m15, .ref m16, .ref m17, .ref m18, .ref m19, .ref m20, .int 1, .int 0, .int 0, .int 0, .long 0, .int 0]))] H := hP
  have hD : va_D A [(g0, .inr (17, [.ref m0, .ref m1, .ref m2, .ref m3, .ref m4, .ref m5, .ref m6, .ref m7, .ref m8, .ref m9, .ref m10, .ref m11, .ref m12, .ref m13, .ref m14, .ref m15, .ref m16, .ref m17, .ref m18, .ref m19, .ref m20, .int 1, .int 0, .int 0, .int 0, .long 0, .int 0]))] := hD
  refine lv_istore (lv' := [(7, .int 0), (6, .int 1), (0, .ref b), (1, .ref x0), (2, .ref g0), (3, .ref o1), (4, .ref o2), (5, .int 0)]) hx hb dL_law_1856 hl (by decide) rfl (fun ls hl => ?_)
  refine lv_aload_n hx hb dL_law_1858 rfl (lv_at hl 4 rfl) ?_
  refine zq_i (wc := [(g0, .inr (17, [.ref m0, .ref m1, .ref m2, .ref m3, .ref m4, .ref m5, .ref m6, .ref m7, .ref m8, .ref m9, .ref m10, .ref m11, .ref m12, .ref m13, .ref m14, .ref m15, .ref m16, .ref m17, .ref m18, .ref m19, .ref m20, .int 1, .int 0, .int 0, .int 0, .long 0, .int 0]))]) (wr := []) (va_runV (As := []) (rest := []) ⟨hx, hb, hml, hown, hts⟩ (k_thrown l D cy g0 m0 m1 m2 m3 m4 m5 m6 m7 m8 m9 m10 m11 m12 m13 m14 m15 m16 m17 m18 m19 m20 1 0 0 0 0 0 H.size ) (cwV 0 hts (gzV (gz q571) q570 q572 q573 q285) rfl rfl rfl vX14_thrown ⟨Nat.le_of_ble_eq_true rfl, Nat.le_of_ble_eq_true rfl⟩) (zpV (ci := 17) (T := TX14) (N := 27) (q0 := 0) hK hX hY hP hD hS hA [0] (by decide) rfl rfl rfl) rfl rfl hl.1 rfl (lv_room (Nat.le_of_ble_eq_true rfl)) dL_law_1859 ⟨Nat.le_of_ble_eq_true rfl, Nat.le_of_ble_eq_true rfl⟩) hP hD hS hA [0] [] rfl rfl (by decide) (by decide) (fun x10 u9 H locs hw hP hD hS => ?_)
  obtain rfl : x10 = 1 := hw
  have hP : va_P D vwCl [(g0, .inr (17, [.ref m0, .ref m1, .ref m2, .ref m3, .ref m4, .ref m5, .ref m6, .ref m7, .ref m8, .ref m9, .ref m10, .ref m11, .ref m12, .ref m13, .ref m14, .ref m15, .ref m16, .ref m17, .ref m18, .ref m19, .ref m20, .int 1, .int 0, .int 0, .int 0, .long 0, .int 0]))] H := hP
  have hD : va_D A [(g0, .inr (17, [.ref m0, .ref m1, .ref m2, .ref m3, .ref m4, .ref m5, .ref m6, .ref m7, .ref m8, .ref m9, .ref m10, .ref m11, .ref m12, .ref m13, .ref m14, .ref m15, .ref m16, .ref m17, .ref m18, .ref m19, .ref m20, .int 1, .int 0, .int 0, .int 0, .long 0, .int 0]))] := hD
  refine lv_iload hx hb dL_law_1862 (lv_at hl 1 rfl) ?_
  refine lv_icmp_eq (tgt := 1869) hx hb dL_law_1864 (by decide) (fun _ => ?_) (fun c_1864_10 => absurd (by decide +kernel) c_1864_10)
  refine lv_iload hx hb dL_law_1869 (lv_at hl 1 rfl) ?_
  refine lv_if_ne (tgt := 1886) hx hb dL_law_1871 (by decide) (fun _ => ?_) (fun c_1871_11 => absurd c_1871_11 (by decide +kernel))
  refine lv_goto (tgt := 2706) hx hb dL_law_1886 (by decide) ?_
  exact W.widen (k := 600006) (n := 7302040) (Nat.le_of_ble_eq_true rfl) (Nat.le_of_ble_eq_true rfl) (kt _ _ _ hS (lv_sub hl [2, 7] rfl))
set_option maxHeartbeats 4000000 in
set_option maxRecDepth 100000 in
theorem c_tell (l : Launch) {p : Program} {e : Env} {s : State} {m : MethodId} {below : List Frame} {meth : Method} {c : Code} {D : va_G} {cy : Nat → ClassId} {A : Nat → Prop} {b : Nat} {xs : Nat → Int32} {Q : State → Prop} {H : Heap} {locs : List Loc} {ls : Array Slot} (Z : zLaw l p s m c D cy A b 9 xs) (x0 : Nat) (g0 : Nat) (o1 : Nat) (o2 : Nat) (vC : Nat) (vP : Nat) (vT : Nat) (vS : Nat) (vF : Nat) (vN : Nat) (vY : Nat) (m0 : Nat) (m1 : Nat) (m2 : Nat) (m3 : Nat) (m4 : Nat) (m5 : Nat) (m6 : Nat) (m7 : Nat) (m8 : Nat) (m9 : Nat) (m10 : Nat) (m11 : Nat) (m12 : Nat) (m13 : Nat) (m14 : Nat) (m15 : Nat) (m16 : Nat) (m17 : Nat) (m18 : Nat) (m19 : Nat) (m20 : Nat) (b2 : Nat)  (hP : va_P D vwCl [(x0, .inr (12, [.ref vC, .ref vP, .ref vT, .ref vS, .ref vF, .ref vN, .ref vY, .int 0])), (g0, .inr (17, [.ref m0, .ref m1, .ref m2, .ref m3, .ref m4, .ref m5, .ref m6, .ref m7, .ref m8, .ref m9, .ref m10, .ref m11, .ref m12, .ref m13, .ref m14, .ref m15, .ref m16, .ref m17, .ref m18, .ref m19, .ref m20, .int 0, .int 0, .int 0, .int 0, .long 0, .int 0])), (m2, .inr (2, [.int 0, .ref b2, .int 0]))] H) (hD : va_D A [(x0, .inr (12, [.ref vC, .ref vP, .ref vT, .ref vS, .ref vF, .ref vN, .ref vY, .int 0])), (g0, .inr (17, [.ref m0, .ref m1, .ref m2, .ref m3, .ref m4, .ref m5, .ref m6, .ref m7, .ref m8, .ref m9, .ref m10, .ref m11, .ref m12, .ref m13, .ref m14, .ref m15, .ref m16, .ref m17, .ref m18, .ref m19, .ref m20, .int 0, .int 0, .int 0, .int 0, .long 0, .int 0])), (m2, .inr (2, [.int 0, .ref b2, .int 0]))]) (hS : va_S A s.heap H locs) (hl : lv_has ls 9 [(0, .ref b), (1, .ref x0), (2, .ref g0), (3, .ref o1), (4, .ref o2), (5, .int 0)]) (kt : ∀ (H : Heap) (locs : List Loc) (ls : Array Slot), va_S A s.heap H locs → lv_has ls 9 [(0, .ref b), (5, .int 0)] → W p l e room_1 s m #[Value.ref b] below meth c H locs 600006 7302040 Q (F0 m 2706 ls [])) : W p l e room_1 s m #[Value.ref b] below meth c H locs 213 25112 Q (F0 m 1889 ls []) := by
  obtain ⟨hx, hb, hml, hown, hts, hK, hX, hY, hA, hXs, hbl, hbA, hlt⟩ := id Z
  refine lv_aload_n hx hb dL_law_1889 rfl (lv_at hl 1 rfl) ?_
  refine lv_aload_n hx hb dL_law_1890 rfl (lv_at hl 0 rfl) ?_
  refine lv_iload hx hb dL_law_1891 (lv_at hl 5 rfl) ?_
  refine lv_iconst (v := 1) hx hb dL_law_1893 (by decide) ?_
  refine lv_iadd hx hb dL_law_1894 ?_
  refine lv_topi (fun y1 ey1 => ?_)
  obtain rfl : y1 = 1 := ey1.trans (by decide +kernel)
  refine va_sld hx hb hXs hbl hbA hS (z_in 1 (by decide) (by decide)) dL_law_1895 ?_
  refine lv_topi (fun y2 ey2 => ?_)
  obtain rfl : y2 = (xs 1) := ey2.trans rfl
  refine lv_aload_n hx hb dL_law_1896 rfl (lv_at hl 0 rfl) ?_
  refine lv_iload hx hb dL_law_1897 (lv_at hl 5 rfl) ?_
  refine lv_iconst (v := 2) hx hb dL_law_1899 (by decide) ?_
  refine lv_iadd hx hb dL_law_1900 ?_
  refine lv_topi (fun y3 ey3 => ?_)
  obtain rfl : y3 = 2 := ey3.trans (by decide +kernel)
  refine va_sld hx hb hXs hbl hbA hS (z_in 2 (by decide) (by decide)) dL_law_1901 ?_
  refine lv_topi (fun y4 ey4 => ?_)
  obtain rfl : y4 = (xs 2) := ey4.trans rfl
  refine lv_aload_n hx hb dL_law_1902 rfl (lv_at hl 3 rfl) ?_
  refine zq_i (wc := [(x0, .inr (12, [.ref vC, .ref vP, .ref vT, .ref vS, .ref vF, .ref vN, .ref vY, .int 0]))]) (wr := [(g0, .inr (17, [.ref m0, .ref m1, .ref m2, .ref m3, .ref m4, .ref m5, .ref m6, .ref m7, .ref m8, .ref m9, .ref m10, .ref m11, .ref m12, .ref m13, .ref m14, .ref m15, .ref m16, .ref m17, .ref m18, .ref m19, .ref m20, .int 0, .int 0, .int 0, .int 0, .long 0, .int 0])), (m2, .inr (2, [.int 0, .ref b2, .int 0]))]) (vx_runSW (As := [.ref x0, .int (xs 1), .int (xs 2), .ref o1]) (rest := []) ⟨hx, hb, hml, hown, hts⟩ (w_tell l hlt D cy x0 vC vP vT vS vF vN vY (xs 1) (xs 2) o1 H.size ) (vx_cwSW 4 hts (gzS (gzW q736) q735 q737 q565) rfl rfl rfl vL_tell.2 ⟨Nat.le_of_ble_eq_true rfl, Nat.le_of_ble_eq_true rfl⟩) (zpS hK hX hY hP hD hS hA [0] (by decide) rfl) rfl rfl hl.1 rfl (lv_room (Nat.le_of_ble_eq_true rfl)) dL_law_1903 ⟨Nat.le_of_ble_eq_true rfl, Nat.le_of_ble_eq_true rfl⟩) hP hD hS hA [0] [1, 2] rfl rfl (by decide) (by decide) (fun x6 u5 H locs hw hP hD hS => ?_)
  obtain rfl : x6 = 1 := hw
  have hP : va_P D vwCl [(g0, .inr (17, [.ref m0, .ref m1, .ref m2, .ref m3, .ref m4, .ref m5, .ref m6, .ref m7, .ref m8, .ref m9, .ref m10, .ref m11, .ref m12, .ref m13, .ref m14, .ref m15, .ref m16, .ref m17, .ref m18, .ref m19, .ref m20, .int 0, .int 0, .int 0, .int 0, .long 0, .int 0])), (m2, .inr (2, [.int 0, .ref b2, .int 0]))] H := hP
  have hD : va_D A [(g0, .inr (17, [.ref m0, .ref m1, .ref m2, .ref m3, .ref m4, .ref m5, .ref m6, .ref m7, .ref m8, .ref m9, .ref m10, .ref m11, .ref m12, .ref m13, .ref m14, .ref m15, .ref m16, .ref m17, .ref m18, .ref m19, .ref m20, .int 0, .int 0, .int 0, .int 0, .long 0, .int 0])), (m2, .inr (2, [.int 0, .ref b2, .int 0]))] := hD
  refine W.widen (k := 214) (n := 25118) (by omega) (by omega) ?_
  refine lv_istore (lv' := [(6, .int 1), (0, .ref b), (1, .ref x0), (2, .ref g0), (3, .ref o1), (4, .ref o2), (5, .int 0)]) hx hb dL_law_1906 hl (by decide) rfl (fun ls hl => ?_)
  refine lv_aload_n hx hb dL_law_1908 rfl (lv_at hl 3 rfl) ?_
  refine lv_aload_n hx hb dL_law_1909 rfl (lv_at hl 1 rfl) ?_
  refine lv_iload hx hb dL_law_1910 (lv_at hl 6 rfl) ?_
  refine lv_iconst (v := 1) hx hb dL_law_1912 (by decide) ?_
  refine lv_iadd hx hb dL_law_1913 ?_
  refine lv_topi (fun y7 ey7 => ?_)
  obtain rfl : y7 = 1 := ey7.trans (by decide +kernel)
  refine va_sld hx hb hXs hbl hbA hS (z_in 1 (by decide) (by decide)) dL_law_1914 ?_
  refine lv_topi (fun y8 ey8 => ?_)
  obtain rfl : y8 = (xs 1) := ey8.trans rfl
  refine lv_aload_n hx hb dL_law_1915 rfl (lv_at hl 1 rfl) ?_
  refine lv_iload hx hb dL_law_1916 (lv_at hl 6 rfl) ?_
  refine lv_iconst (v := 2) hx hb dL_law_1918 (by decide) ?_
  refine lv_iadd hx hb dL_law_1919 ?_
  refine lv_topi (fun y9 ey9 => ?_)
  obtain rfl : y9 = 2 := ey9.trans (by decide +kernel)
  refine va_sld hx hb hXs hbl hbA hS (z_in 2 (by decide) (by decide)) dL_law_1920 ?_
  refine lv_topi (fun y10 ey10 => ?_)
  obtain rfl : y10 = (xs 2) := ey10.trans rfl
  refine zq_i (wc := [(g0, .inr (17, [.ref m0, .ref m1, .ref m2, .ref m3, .ref m4, .ref m5, .ref m6, .ref m7, .ref m8, .ref m9, .ref m10, .ref m11, .ref m12, .ref m13, .ref m14, .ref m15, .ref m16, .ref m17, .ref m18, .ref m19, .ref m20, .int 0, .int 0, .int 0, .int 0, .long 0, .int 0])), (m2, .inr (2, [.int 0, .ref b2, .int 0]))]) (wr := []) (va_runV (As := [.int (xs 1), .int (xs 2)]) (rest := []) ⟨hx, hb, hml, hown, hts⟩ (g_tell l D cy g0 m0 m1 m2 m3 m4 m5 m6 m7 m8 m9 m10 m11 m12 m13 m14 m15 m16 m17 m18 m19 m20 b2 (xs 1) (xs 2) H.size ) (cwV 2 hts (gzV (gz q739) q738 q740 q741 q285) rfl rfl rfl vX14_tell ⟨Nat.le_of_ble_eq_true rfl, Nat.le_of_ble_eq_true rfl⟩) (zpV (ci := 17) (T := TX14) (N := 27) (q0 := 0) hK hX hY hP hD hS hA [0, 1] (by decide) rfl rfl rfl) rfl rfl hl.1 rfl (lv_room (Nat.le_of_ble_eq_true rfl)) dL_law_1921 ⟨Nat.le_of_ble_eq_true rfl, Nat.le_of_ble_eq_true rfl⟩) hP hD hS hA [0, 1] [] rfl rfl (by decide) (by decide) (fun x12 u11 H locs hw hP hD hS => ?_)
  obtain rfl : x12 = 0 := hw
  have hP : va_P D vwCl [(g0, .inr (17, [.ref m0, .ref m1, .ref m2, .ref m3, .ref m4, .ref m5, .ref m6, .ref m7, .ref m8, .ref m9, .ref m10, .ref m11, .ref m12, .ref m13, .ref m14, .ref m15, .ref m16, .ref m17, .ref m18, .ref m19, .ref m20, .int 1, .int 0, .int 0, .int 0, .long 0, .int 0]))] H := hP
  have hD : va_D A [(g0, .inr (17, [.ref m0, .ref m1, .ref m2, .ref m3, .ref m4, .ref m5, .ref m6, .ref m7, .ref m8, .ref m9, .ref m10, .ref m11, .ref m12, .ref m13, .ref m14, .ref m15, .ref m16, .ref m17, .ref m18, .ref m19, .ref m20, .int 1, .int 0, .int 0, .int 0, .long 0, .int 0]))] := hD
  refine lv_istore (lv' := [(7, .int 0), (6, .int 1), (0, .ref b), (1, .ref x0), (2, .ref g0), (3, .ref o1), (4, .ref o2), (5, .int 0)]) hx hb dL_law_1924 hl (by decide) rfl (fun ls hl => ?_)
  refine lv_aload_n hx hb dL_law_1926 rfl (lv_at hl 4 rfl) ?_
  refine zq_i (wc := [(g0, .inr (17, [.ref m0, .ref m1, .ref m2, .ref m3, .ref m4, .ref m5, .ref m6, .ref m7, .ref m8, .ref m9, .ref m10, .ref m11, .ref m12, .ref m13, .ref m14, .ref m15, .ref m16, .ref m17, .ref m18, .ref m19, .ref m20, .int 1, .int 0, .int 0, .int 0, .long 0, .int 0]))]) (wr := []) (va_runV (As := []) (rest := []) ⟨hx, hb, hml, hown, hts⟩ (k_thrown l D cy g0 m0 m1 m2 m3 m4 m5 m6 m7 m8 m9 m10 m11 m12 m13 m14 m15 m16 m17 m18 m19 m20 1 0 0 0 0 0 H.size ) (cwV 0 hts (gzV (gz q571) q570 q572 q573 q285) rfl rfl rfl vX14_thrown ⟨Nat.le_of_ble_eq_true rfl, Nat.le_of_ble_eq_true rfl⟩) (zpV (ci := 17) (T := TX14) (N := 27) (q0 := 0) hK hX hY hP hD hS hA [0] (by decide) rfl rfl rfl) rfl rfl hl.1 rfl (lv_room (Nat.le_of_ble_eq_true rfl)) dL_law_1927 ⟨Nat.le_of_ble_eq_true rfl, Nat.le_of_ble_eq_true rfl⟩) hP hD hS hA [0] [] rfl rfl (by decide) (by decide) (fun x14 u13 H locs hw hP hD hS => ?_)
  obtain rfl : x14 = 1 := hw
  have hP : va_P D vwCl [(g0, .inr (17, [.ref m0, .ref m1, .ref m2, .ref m3, .ref m4, .ref m5, .ref m6, .ref m7, .ref m8, .ref m9, .ref m10, .ref m11, .ref m12, .ref m13, .ref m14, .ref m15, .ref m16, .ref m17, .ref m18, .ref m19, .ref m20, .int 1, .int 0, .int 0, .int 0, .long 0, .int 0]))] H := hP
  have hD : va_D A [(g0, .inr (17, [.ref m0, .ref m1, .ref m2, .ref m3, .ref m4, .ref m5, .ref m6, .ref m7, .ref m8, .ref m9, .ref m10, .ref m11, .ref m12, .ref m13, .ref m14, .ref m15, .ref m16, .ref m17, .ref m18, .ref m19, .ref m20, .int 1, .int 0, .int 0, .int 0, .long 0, .int 0]))] := hD
  refine lv_iload hx hb dL_law_1930 (lv_at hl 1 rfl) ?_
  refine lv_icmp_eq (tgt := 1937) hx hb dL_law_1932 (by decide) (fun _ => ?_) (fun c_1932_14 => absurd (by decide +kernel) c_1932_14)
  refine lv_iload hx hb dL_law_1937 (lv_at hl 1 rfl) ?_
  refine lv_if_ne (tgt := 1954) hx hb dL_law_1939 (by decide) (fun _ => ?_) (fun c_1939_15 => absurd c_1939_15 (by decide +kernel))
  refine lv_goto (tgt := 2706) hx hb dL_law_1954 (by decide) ?_
  exact W.widen (k := 600006) (n := 7302040) (Nat.le_of_ble_eq_true rfl) (Nat.le_of_ble_eq_true rfl) (kt _ _ _ hS (lv_sub hl [2, 7] rfl))
set_option maxHeartbeats 4000000 in
set_option maxRecDepth 100000 in
theorem c_knows (l : Launch) {p : Program} {e : Env} {s : State} {m : MethodId} {below : List Frame} {meth : Method} {c : Code} {D : va_G} {cy : Nat → ClassId} {A : Nat → Prop} {b : Nat} {xs : Nat → Int32} {Q : State → Prop} {H : Heap} {locs : List Loc} {ls : Array Slot} (Z : zLaw l p s m c D cy A b 9 xs) (x0 : Nat) (g0 : Nat) (o1 : Nat) (o2 : Nat) (vC : Nat) (vP : Nat) (vT : Nat) (vS : Nat) (vF : Nat) (vN : Nat) (vY : Nat) (m0 : Nat) (m1 : Nat) (m2 : Nat) (m3 : Nat) (m4 : Nat) (m5 : Nat) (m6 : Nat) (m7 : Nat) (m8 : Nat) (m9 : Nat) (m10 : Nat) (m11 : Nat) (m12 : Nat) (m13 : Nat) (m14 : Nat) (m15 : Nat) (m16 : Nat) (m17 : Nat) (m18 : Nat) (m19 : Nat) (m20 : Nat) (b2 : Nat)  (hP : va_P D vwCl [(x0, .inr (12, [.ref vC, .ref vP, .ref vT, .ref vS, .ref vF, .ref vN, .ref vY, .int 0])), (g0, .inr (17, [.ref m0, .ref m1, .ref m2, .ref m3, .ref m4, .ref m5, .ref m6, .ref m7, .ref m8, .ref m9, .ref m10, .ref m11, .ref m12, .ref m13, .ref m14, .ref m15, .ref m16, .ref m17, .ref m18, .ref m19, .ref m20, .int 0, .int 0, .int 0, .int 0, .long 0, .int 0])), (m2, .inr (2, [.int 0, .ref b2, .int 0]))] H) (hD : va_D A [(x0, .inr (12, [.ref vC, .ref vP, .ref vT, .ref vS, .ref vF, .ref vN, .ref vY, .int 0])), (g0, .inr (17, [.ref m0, .ref m1, .ref m2, .ref m3, .ref m4, .ref m5, .ref m6, .ref m7, .ref m8, .ref m9, .ref m10, .ref m11, .ref m12, .ref m13, .ref m14, .ref m15, .ref m16, .ref m17, .ref m18, .ref m19, .ref m20, .int 0, .int 0, .int 0, .int 0, .long 0, .int 0])), (m2, .inr (2, [.int 0, .ref b2, .int 0]))]) (hS : va_S A s.heap H locs) (hl : lv_has ls 9 [(0, .ref b), (1, .ref x0), (2, .ref g0), (3, .ref o1), (4, .ref o2), (5, .int 0)]) (kt : ∀ (H : Heap) (locs : List Loc) (ls : Array Slot), va_S A s.heap H locs → lv_has ls 9 [(0, .ref b), (5, .int 0)] → W p l e room_1 s m #[Value.ref b] below meth c H locs 600006 7302040 Q (F0 m 2706 ls [])) : W p l e room_1 s m #[Value.ref b] below meth c H locs 213 25112 Q (F0 m 1957 ls []) := by
  obtain ⟨hx, hb, hml, hown, hts, hK, hX, hY, hA, hXs, hbl, hbA, hlt⟩ := id Z
  refine lv_aload_n hx hb dL_law_1957 rfl (lv_at hl 1 rfl) ?_
  refine lv_aload_n hx hb dL_law_1958 rfl (lv_at hl 0 rfl) ?_
  refine lv_iload hx hb dL_law_1959 (lv_at hl 5 rfl) ?_
  refine lv_iconst (v := 1) hx hb dL_law_1961 (by decide) ?_
  refine lv_iadd hx hb dL_law_1962 ?_
  refine lv_topi (fun y1 ey1 => ?_)
  obtain rfl : y1 = 1 := ey1.trans (by decide +kernel)
  refine va_sld hx hb hXs hbl hbA hS (z_in 1 (by decide) (by decide)) dL_law_1963 ?_
  refine lv_topi (fun y2 ey2 => ?_)
  obtain rfl : y2 = (xs 1) := ey2.trans rfl
  refine lv_aload_n hx hb dL_law_1964 rfl (lv_at hl 0 rfl) ?_
  refine lv_iload hx hb dL_law_1965 (lv_at hl 5 rfl) ?_
  refine lv_iconst (v := 2) hx hb dL_law_1967 (by decide) ?_
  refine lv_iadd hx hb dL_law_1968 ?_
  refine lv_topi (fun y3 ey3 => ?_)
  obtain rfl : y3 = 2 := ey3.trans (by decide +kernel)
  refine va_sld hx hb hXs hbl hbA hS (z_in 2 (by decide) (by decide)) dL_law_1969 ?_
  refine lv_topi (fun y4 ey4 => ?_)
  obtain rfl : y4 = (xs 2) := ey4.trans rfl
  refine lv_aload_n hx hb dL_law_1970 rfl (lv_at hl 3 rfl) ?_
  refine zq_i (wc := [(x0, .inr (12, [.ref vC, .ref vP, .ref vT, .ref vS, .ref vF, .ref vN, .ref vY, .int 0]))]) (wr := [(g0, .inr (17, [.ref m0, .ref m1, .ref m2, .ref m3, .ref m4, .ref m5, .ref m6, .ref m7, .ref m8, .ref m9, .ref m10, .ref m11, .ref m12, .ref m13, .ref m14, .ref m15, .ref m16, .ref m17, .ref m18, .ref m19, .ref m20, .int 0, .int 0, .int 0, .int 0, .long 0, .int 0])), (m2, .inr (2, [.int 0, .ref b2, .int 0]))]) (vx_runSW (As := [.ref x0, .int (xs 1), .int (xs 2), .ref o1]) (rest := []) ⟨hx, hb, hml, hown, hts⟩ (w_knows l hlt D cy x0 vC vP vT vS vF vN vY (xs 1) (xs 2) o1 H.size ) (vx_cwSW 4 hts (gzS (gzW q743) q742 q744 q565) rfl rfl rfl vL_knows.2 ⟨Nat.le_of_ble_eq_true rfl, Nat.le_of_ble_eq_true rfl⟩) (zpS hK hX hY hP hD hS hA [0] (by decide) rfl) rfl rfl hl.1 rfl (lv_room (Nat.le_of_ble_eq_true rfl)) dL_law_1971 ⟨Nat.le_of_ble_eq_true rfl, Nat.le_of_ble_eq_true rfl⟩) hP hD hS hA [0] [1, 2] rfl rfl (by decide) (by decide) (fun x6 u5 H locs hw hP hD hS => ?_)
  obtain rfl : x6 = 1 := hw
  have hP : va_P D vwCl [(g0, .inr (17, [.ref m0, .ref m1, .ref m2, .ref m3, .ref m4, .ref m5, .ref m6, .ref m7, .ref m8, .ref m9, .ref m10, .ref m11, .ref m12, .ref m13, .ref m14, .ref m15, .ref m16, .ref m17, .ref m18, .ref m19, .ref m20, .int 0, .int 0, .int 0, .int 0, .long 0, .int 0])), (m2, .inr (2, [.int 0, .ref b2, .int 0]))] H := hP
  have hD : va_D A [(g0, .inr (17, [.ref m0, .ref m1, .ref m2, .ref m3, .ref m4, .ref m5, .ref m6, .ref m7, .ref m8, .ref m9, .ref m10, .ref m11, .ref m12, .ref m13, .ref m14, .ref m15, .ref m16, .ref m17, .ref m18, .ref m19, .ref m20, .int 0, .int 0, .int 0, .int 0, .long 0, .int 0])), (m2, .inr (2, [.int 0, .ref b2, .int 0]))] := hD
  refine W.widen (k := 214) (n := 25118) (by omega) (by omega) ?_
  refine lv_istore (lv' := [(6, .int 1), (0, .ref b), (1, .ref x0), (2, .ref g0), (3, .ref o1), (4, .ref o2), (5, .int 0)]) hx hb dL_law_1974 hl (by decide) rfl (fun ls hl => ?_)
  refine lv_aload_n hx hb dL_law_1976 rfl (lv_at hl 3 rfl) ?_
  refine lv_aload_n hx hb dL_law_1977 rfl (lv_at hl 1 rfl) ?_
  refine lv_iload hx hb dL_law_1978 (lv_at hl 6 rfl) ?_
  refine lv_iconst (v := 1) hx hb dL_law_1980 (by decide) ?_
  refine lv_iadd hx hb dL_law_1981 ?_
  refine lv_topi (fun y7 ey7 => ?_)
  obtain rfl : y7 = 1 := ey7.trans (by decide +kernel)
  refine va_sld hx hb hXs hbl hbA hS (z_in 1 (by decide) (by decide)) dL_law_1982 ?_
  refine lv_topi (fun y8 ey8 => ?_)
  obtain rfl : y8 = (xs 1) := ey8.trans rfl
  refine lv_aload_n hx hb dL_law_1983 rfl (lv_at hl 1 rfl) ?_
  refine lv_iload hx hb dL_law_1984 (lv_at hl 6 rfl) ?_
  refine lv_iconst (v := 2) hx hb dL_law_1986 (by decide) ?_
  refine lv_iadd hx hb dL_law_1987 ?_
  refine lv_topi (fun y9 ey9 => ?_)
  obtain rfl : y9 = 2 := ey9.trans (by decide +kernel)
  refine va_sld hx hb hXs hbl hbA hS (z_in 2 (by decide) (by decide)) dL_law_1988 ?_
  refine lv_topi (fun y10 ey10 => ?_)
  obtain rfl : y10 = (xs 2) := ey10.trans rfl
  refine zq_i (wc := [(g0, .inr (17, [.ref m0, .ref m1, .ref m2, .ref m3, .ref m4, .ref m5, .ref m6, .ref m7, .ref m8, .ref m9, .ref m10, .ref m11, .ref m12, .ref m13, .ref m14, .ref m15, .ref m16, .ref m17, .ref m18, .ref m19, .ref m20, .int 0, .int 0, .int 0, .int 0, .long 0, .int 0])), (m2, .inr (2, [.int 0, .ref b2, .int 0]))]) (wr := []) (va_runV (As := [.int (xs 1), .int (xs 2)]) (rest := []) ⟨hx, hb, hml, hown, hts⟩ (g_knows l D cy g0 m0 m1 m2 m3 m4 m5 m6 m7 m8 m9 m10 m11 m12 m13 m14 m15 m16 m17 m18 m19 m20 b2 (xs 1) (xs 2) H.size ) (cwV 2 hts (gzV (gz q746) q745 q747 q748 q285) rfl rfl rfl vX14_knows ⟨Nat.le_of_ble_eq_true rfl, Nat.le_of_ble_eq_true rfl⟩) (zpV (ci := 17) (T := TX14) (N := 27) (q0 := 0) hK hX hY hP hD hS hA [0, 1] (by decide) rfl rfl rfl) rfl rfl hl.1 rfl (lv_room (Nat.le_of_ble_eq_true rfl)) dL_law_1989 ⟨Nat.le_of_ble_eq_true rfl, Nat.le_of_ble_eq_true rfl⟩) hP hD hS hA [0, 1] [] rfl rfl (by decide) (by decide) (fun x12 u11 H locs hw hP hD hS => ?_)
  obtain rfl : x12 = 0 := hw
  have hP : va_P D vwCl [(g0, .inr (17, [.ref m0, .ref m1, .ref m2, .ref m3, .ref m4, .ref m5, .ref m6, .ref m7, .ref m8, .ref m9, .ref m10, .ref m11, .ref m12, .ref m13, .ref m14, .ref m15, .ref m16, .ref m17, .ref m18, .ref m19, .ref m20, .int 1, .int 0, .int 0, .int 0, .long 0, .int 0]))] H := hP
  have hD : va_D A [(g0, .inr (17, [.ref m0, .ref m1, .ref m2, .ref m3, .ref m4, .ref m5, .ref m6, .ref m7, .ref m8, .ref m9, .ref m10, .ref m11, .ref m12, .ref m13, .ref m14, .ref m15, .ref m16, .ref m17, .ref m18, .ref m19, .ref m20, .int 1, .int 0, .int 0, .int 0, .long 0, .int 0]))] := hD
  refine lv_istore (lv' := [(7, .int 0), (6, .int 1), (0, .ref b), (1, .ref x0), (2, .ref g0), (3, .ref o1), (4, .ref o2), (5, .int 0)]) hx hb dL_law_1992 hl (by decide) rfl (fun ls hl => ?_)
  refine lv_aload_n hx hb dL_law_1994 rfl (lv_at hl 4 rfl) ?_
  refine zq_i (wc := [(g0, .inr (17, [.ref m0, .ref m1, .ref m2, .ref m3, .ref m4, .ref m5, .ref m6, .ref m7, .ref m8, .ref m9, .ref m10, .ref m11, .ref m12, .ref m13, .ref m14, .ref m15, .ref m16, .ref m17, .ref m18, .ref m19, .ref m20, .int 1, .int 0, .int 0, .int 0, .long 0, .int 0]))]) (wr := []) (va_runV (As := []) (rest := []) ⟨hx, hb, hml, hown, hts⟩ (k_thrown l D cy g0 m0 m1 m2 m3 m4 m5 m6 m7 m8 m9 m10 m11 m12 m13 m14 m15 m16 m17 m18 m19 m20 1 0 0 0 0 0 H.size ) (cwV 0 hts (gzV (gz q571) q570 q572 q573 q285) rfl rfl rfl vX14_thrown ⟨Nat.le_of_ble_eq_true rfl, Nat.le_of_ble_eq_true rfl⟩) (zpV (ci := 17) (T := TX14) (N := 27) (q0 := 0) hK hX hY hP hD hS hA [0] (by decide) rfl rfl rfl) rfl rfl hl.1 rfl (lv_room (Nat.le_of_ble_eq_true rfl)) dL_law_1995 ⟨Nat.le_of_ble_eq_true rfl, Nat.le_of_ble_eq_true rfl⟩) hP hD hS hA [0] [] rfl rfl (by decide) (by decide) (fun x14 u13 H locs hw hP hD hS => ?_)
  obtain rfl : x14 = 1 := hw
  have hP : va_P D vwCl [(g0, .inr (17, [.ref m0, .ref m1, .ref m2, .ref m3, .ref m4, .ref m5, .ref m6, .ref m7, .ref m8, .ref m9, .ref m10, .ref m11, .ref m12, .ref m13, .ref m14, .ref m15, .ref m16, .ref m17, .ref m18, .ref m19, .ref m20, .int 1, .int 0, .int 0, .int 0, .long 0, .int 0]))] H := hP
  have hD : va_D A [(g0, .inr (17, [.ref m0, .ref m1, .ref m2, .ref m3, .ref m4, .ref m5, .ref m6, .ref m7, .ref m8, .ref m9, .ref m10, .ref m11, .ref m12, .ref m13, .ref m14, .ref m15, .ref m16, .ref m17, .ref m18, .ref m19, .ref m20, .int 1, .int 0, .int 0, .int 0, .long 0, .int 0]))] := hD
  refine lv_iload hx hb dL_law_1998 (lv_at hl 1 rfl) ?_
  refine lv_icmp_eq (tgt := 2005) hx hb dL_law_2000 (by decide) (fun _ => ?_) (fun c_2000_14 => absurd (by decide +kernel) c_2000_14)
  refine lv_iload hx hb dL_law_2005 (lv_at hl 1 rfl) ?_
  refine lv_if_ne (tgt := 2029) hx hb dL_law_2007 (by decide) (fun _ => ?_) (fun c_2007_15 => absurd c_2007_15 (by decide +kernel))
  refine lv_goto (tgt := 2706) hx hb dL_law_2029 (by decide) ?_
  exact W.widen (k := 600006) (n := 7302040) (Nat.le_of_ble_eq_true rfl) (Nat.le_of_ble_eq_true rfl) (kt _ _ _ hS (lv_sub hl [2, 7] rfl))
set_option maxHeartbeats 4000000 in
set_option maxRecDepth 100000 in
theorem c_go (l : Launch) {p : Program} {e : Env} {s : State} {m : MethodId} {below : List Frame} {meth : Method} {c : Code} {D : va_G} {cy : Nat → ClassId} {A : Nat → Prop} {b : Nat} {xs : Nat → Int32} {Q : State → Prop} {H : Heap} {locs : List Loc} {ls : Array Slot} (Z : zLaw l p s m c D cy A b 9 xs) (x0 : Nat) (g0 : Nat) (o1 : Nat) (o2 : Nat) (vC : Nat) (vP : Nat) (vT : Nat) (vS : Nat) (vF : Nat) (vN : Nat) (vY : Nat) (m0 : Nat) (m1 : Nat) (m2 : Nat) (m3 : Nat) (m4 : Nat) (m5 : Nat) (m6 : Nat) (m7 : Nat) (m8 : Nat) (m9 : Nat) (m10 : Nat) (m11 : Nat) (m12 : Nat) (m13 : Nat) (m14 : Nat) (m15 : Nat) (m16 : Nat) (m17 : Nat) (m18 : Nat) (m19 : Nat) (m20 : Nat) (b2 : Nat)  (hP : va_P D vwCl [(x0, .inr (12, [.ref vC, .ref vP, .ref vT, .ref vS, .ref vF, .ref vN, .ref vY, .int 0])), (g0, .inr (17, [.ref m0, .ref m1, .ref m2, .ref m3, .ref m4, .ref m5, .ref m6, .ref m7, .ref m8, .ref m9, .ref m10, .ref m11, .ref m12, .ref m13, .ref m14, .ref m15, .ref m16, .ref m17, .ref m18, .ref m19, .ref m20, .int 0, .int 0, .int 0, .int 0, .long 0, .int 0])), (m2, .inr (2, [.int 0, .ref b2, .int 0]))] H) (hD : va_D A [(x0, .inr (12, [.ref vC, .ref vP, .ref vT, .ref vS, .ref vF, .ref vN, .ref vY, .int 0])), (g0, .inr (17, [.ref m0, .ref m1, .ref m2, .ref m3, .ref m4, .ref m5, .ref m6, .ref m7, .ref m8, .ref m9, .ref m10, .ref m11, .ref m12, .ref m13, .ref m14, .ref m15, .ref m16, .ref m17, .ref m18, .ref m19, .ref m20, .int 0, .int 0, .int 0, .int 0, .long 0, .int 0])), (m2, .inr (2, [.int 0, .ref b2, .int 0]))]) (hS : va_S A s.heap H locs) (hl : lv_has ls 9 [(0, .ref b), (1, .ref x0), (2, .ref g0), (3, .ref o1), (4, .ref o2), (5, .int 0)]) (kt : ∀ (H : Heap) (locs : List Loc) (ls : Array Slot), va_S A s.heap H locs → lv_has ls 9 [(0, .ref b), (5, .int 0)] → W p l e room_1 s m #[Value.ref b] below meth c H locs 600006 7302040 Q (F0 m 2706 ls [])) : W p l e room_1 s m #[Value.ref b] below meth c H locs 213 25112 Q (F0 m 2032 ls []) := by
  obtain ⟨hx, hb, hml, hown, hts, hK, hX, hY, hA, hXs, hbl, hbA, hlt⟩ := id Z
  refine lv_aload_n hx hb dL_law_2032 rfl (lv_at hl 1 rfl) ?_
  refine lv_aload_n hx hb dL_law_2033 rfl (lv_at hl 0 rfl) ?_
  refine lv_iload hx hb dL_law_2034 (lv_at hl 5 rfl) ?_
  refine lv_iconst (v := 1) hx hb dL_law_2036 (by decide) ?_
  refine lv_iadd hx hb dL_law_2037 ?_
  refine lv_topi (fun y1 ey1 => ?_)
  obtain rfl : y1 = 1 := ey1.trans (by decide +kernel)
  refine va_sld hx hb hXs hbl hbA hS (z_in 1 (by decide) (by decide)) dL_law_2038 ?_
  refine lv_topi (fun y2 ey2 => ?_)
  obtain rfl : y2 = (xs 1) := ey2.trans rfl
  refine lv_aload_n hx hb dL_law_2039 rfl (lv_at hl 0 rfl) ?_
  refine lv_iload hx hb dL_law_2040 (lv_at hl 5 rfl) ?_
  refine lv_iconst (v := 2) hx hb dL_law_2042 (by decide) ?_
  refine lv_iadd hx hb dL_law_2043 ?_
  refine lv_topi (fun y3 ey3 => ?_)
  obtain rfl : y3 = 2 := ey3.trans (by decide +kernel)
  refine va_sld hx hb hXs hbl hbA hS (z_in 2 (by decide) (by decide)) dL_law_2044 ?_
  refine lv_topi (fun y4 ey4 => ?_)
  obtain rfl : y4 = (xs 2) := ey4.trans rfl
  refine lv_aload_n hx hb dL_law_2045 rfl (lv_at hl 3 rfl) ?_
  refine zq_i (wc := [(x0, .inr (12, [.ref vC, .ref vP, .ref vT, .ref vS, .ref vF, .ref vN, .ref vY, .int 0]))]) (wr := [(g0, .inr (17, [.ref m0, .ref m1, .ref m2, .ref m3, .ref m4, .ref m5, .ref m6, .ref m7, .ref m8, .ref m9, .ref m10, .ref m11, .ref m12, .ref m13, .ref m14, .ref m15, .ref m16, .ref m17, .ref m18, .ref m19, .ref m20, .int 0, .int 0, .int 0, .int 0, .long 0, .int 0])), (m2, .inr (2, [.int 0, .ref b2, .int 0]))]) (vx_runSW (As := [.ref x0, .int (xs 1), .int (xs 2), .ref o1]) (rest := []) ⟨hx, hb, hml, hown, hts⟩ (w_go l hlt D cy x0 vC vP vT vS vF vN vY (xs 1) (xs 2) o1 H.size ) (vx_cwSW 4 hts (gzS (gzW q750) q749 q751 q565) rfl rfl rfl vL_go.2 ⟨Nat.le_of_ble_eq_true rfl, Nat.le_of_ble_eq_true rfl⟩) (zpS hK hX hY hP hD hS hA [0] (by decide) rfl) rfl rfl hl.1 rfl (lv_room (Nat.le_of_ble_eq_true rfl)) dL_law_2046 ⟨Nat.le_of_ble_eq_true rfl, Nat.le_of_ble_eq_true rfl⟩) hP hD hS hA [0] [1, 2] rfl rfl (by decide) (by decide) (fun x6 u5 H locs hw hP hD hS => ?_)
  obtain rfl : x6 = 1 := hw
  have hP : va_P D vwCl [(g0, .inr (17, [.ref m0, .ref m1, .ref m2, .ref m3, .ref m4, .ref m5, .ref m6, .ref m7, .ref m8, .ref m9, .ref m10, .ref m11, .ref m12, .ref m13, .ref m14, .ref m15, .ref m16, .ref m17, .ref m18, .ref m19, .ref m20, .int 0, .int 0, .int 0, .int 0, .long 0, .int 0])), (m2, .inr (2, [.int 0, .ref b2, .int 0]))] H := hP
  have hD : va_D A [(g0, .inr (17, [.ref m0, .ref m1, .ref m2, .ref m3, .ref m4, .ref m5, .ref m6, .ref m7, .ref m8, .ref m9, .ref m10, .ref m11, .ref m12, .ref m13, .ref m14, .ref m15, .ref m16, .ref m17, .ref m18, .ref m19, .ref m20, .int 0, .int 0, .int 0, .int 0, .long 0, .int 0])), (m2, .inr (2, [.int 0, .ref b2, .int 0]))] := hD
  refine W.widen (k := 214) (n := 25118) (by omega) (by omega) ?_
  refine lv_istore (lv' := [(6, .int 1), (0, .ref b), (1, .ref x0), (2, .ref g0), (3, .ref o1), (4, .ref o2), (5, .int 0)]) hx hb dL_law_2049 hl (by decide) rfl (fun ls hl => ?_)
  refine lv_aload_n hx hb dL_law_2051 rfl (lv_at hl 3 rfl) ?_
  refine lv_aload_n hx hb dL_law_2052 rfl (lv_at hl 1 rfl) ?_
  refine lv_iload hx hb dL_law_2053 (lv_at hl 6 rfl) ?_
  refine lv_iconst (v := 1) hx hb dL_law_2055 (by decide) ?_
  refine lv_iadd hx hb dL_law_2056 ?_
  refine lv_topi (fun y7 ey7 => ?_)
  obtain rfl : y7 = 1 := ey7.trans (by decide +kernel)
  refine va_sld hx hb hXs hbl hbA hS (z_in 1 (by decide) (by decide)) dL_law_2057 ?_
  refine lv_topi (fun y8 ey8 => ?_)
  obtain rfl : y8 = (xs 1) := ey8.trans rfl
  refine lv_aload_n hx hb dL_law_2058 rfl (lv_at hl 1 rfl) ?_
  refine lv_iload hx hb dL_law_2059 (lv_at hl 6 rfl) ?_
  refine lv_iconst (v := 2) hx hb dL_law_2061 (by decide) ?_
  refine lv_iadd hx hb dL_law_2062 ?_
  refine lv_topi (fun y9 ey9 => ?_)
  obtain rfl : y9 = 2 := ey9.trans (by decide +kernel)
  refine va_sld hx hb hXs hbl hbA hS (z_in 2 (by decide) (by decide)) dL_law_2063 ?_
  refine lv_topi (fun y10 ey10 => ?_)
  obtain rfl : y10 = (xs 2) := ey10.trans rfl
  refine zq_i (wc := [(g0, .inr (17, [.ref m0, .ref m1, .ref m2, .ref m3, .ref m4, .ref m5, .ref m6, .ref m7, .ref m8, .ref m9, .ref m10, .ref m11, .ref m12, .ref m13, .ref m14, .ref m15, .ref m16, .ref m17, .ref m18, .ref m19, .ref m20, .int 0, .int 0, .int 0, .int 0, .long 0, .int 0])), (m2, .inr (2, [.int 0, .ref b2, .int 0]))]) (wr := []) (va_runV (As := [.int (xs 1), .int (xs 2)]) (rest := []) ⟨hx, hb, hml, hown, hts⟩ (g_go l D cy g0 m0 m1 m2 m3 m4 m5 m6 m7 m8 m9 m10 m11 m12 m13 m14 m15 m16 m17 m18 m19 m20 b2 (xs 1) (xs 2) H.size ) (cwV 2 hts (gzV (gz q753) q752 q754 q755 q285) rfl rfl rfl vX14_go ⟨Nat.le_of_ble_eq_true rfl, Nat.le_of_ble_eq_true rfl⟩) (zpV (ci := 17) (T := TX14) (N := 27) (q0 := 0) hK hX hY hP hD hS hA [0, 1] (by decide) rfl rfl rfl) rfl rfl hl.1 rfl (lv_room (Nat.le_of_ble_eq_true rfl)) dL_law_2064 ⟨Nat.le_of_ble_eq_true rfl, Nat.le_of_ble_eq_true rfl⟩) hP hD hS hA [0, 1] [] rfl rfl (by decide) (by decide) (fun x12 u11 H locs hw hP hD hS => ?_)
  obtain rfl : x12 = 0 := hw
  have hP : va_P D vwCl [(g0, .inr (17, [.ref m0, .ref m1, .ref m2, .ref m3, .ref m4, .ref m5, .ref m6, .ref m7, .ref m8, .ref m9, .ref m10, .ref m11, .ref m12, .ref m13, .ref m14, .ref m15, .ref m16, .ref m17, .ref m18, .ref m19, .ref m20, .int 1, .int 0, .int 0, .int 0, .long 0, .int 0]))] H := hP
  have hD : va_D A [(g0, .inr (17, [.ref m0, .ref m1, .ref m2, .ref m3, .ref m4, .ref m5, .ref m6, .ref m7, .ref m8, .ref m9, .ref m10, .ref m11, .ref m12, .ref m13, .ref m14, .ref m15, .ref m16, .ref m17, .ref m18, .ref m19, .ref m20, .int 1, .int 0, .int 0, .int 0, .long 0, .int 0]))] := hD
  refine lv_istore (lv' := [(7, .int 0), (6, .int 1), (0, .ref b), (1, .ref x0), (2, .ref g0), (3, .ref o1), (4, .ref o2), (5, .int 0)]) hx hb dL_law_2067 hl (by decide) rfl (fun ls hl => ?_)
  refine lv_aload_n hx hb dL_law_2069 rfl (lv_at hl 4 rfl) ?_
  refine zq_i (wc := [(g0, .inr (17, [.ref m0, .ref m1, .ref m2, .ref m3, .ref m4, .ref m5, .ref m6, .ref m7, .ref m8, .ref m9, .ref m10, .ref m11, .ref m12, .ref m13, .ref m14, .ref m15, .ref m16, .ref m17, .ref m18, .ref m19, .ref m20, .int 1, .int 0, .int 0, .int 0, .long 0, .int 0]))]) (wr := []) (va_runV (As := []) (rest := []) ⟨hx, hb, hml, hown, hts⟩ (k_thrown l D cy g0 m0 m1 m2 m3 m4 m5 m6 m7 m8 m9 m10 m11 m12 m13 m14 m15 m16 m17 m18 m19 m20 1 0 0 0 0 0 H.size ) (cwV 0 hts (gzV (gz q571) q570 q572 q573 q285) rfl rfl rfl vX14_thrown ⟨Nat.le_of_ble_eq_true rfl, Nat.le_of_ble_eq_true rfl⟩) (zpV (ci := 17) (T := TX14) (N := 27) (q0 := 0) hK hX hY hP hD hS hA [0] (by decide) rfl rfl rfl) rfl rfl hl.1 rfl (lv_room (Nat.le_of_ble_eq_true rfl)) dL_law_2070 ⟨Nat.le_of_ble_eq_true rfl, Nat.le_of_ble_eq_true rfl⟩) hP hD hS hA [0] [] rfl rfl (by decide) (by decide) (fun x14 u13 H locs hw hP hD hS => ?_)
  obtain rfl : x14 = 1 := hw
  have hP : va_P D vwCl [(g0, .inr (17, [.ref m0, .ref m1, .ref m2, .ref m3, .ref m4, .ref m5, .ref m6, .ref m7, .ref m8, .ref m9, .ref m10, .ref m11, .ref m12, .ref m13, .ref m14, .ref m15, .ref m16, .ref m17, .ref m18, .ref m19, .ref m20, .int 1, .int 0, .int 0, .int 0, .long 0, .int 0]))] H := hP
  have hD : va_D A [(g0, .inr (17, [.ref m0, .ref m1, .ref m2, .ref m3, .ref m4, .ref m5, .ref m6, .ref m7, .ref m8, .ref m9, .ref m10, .ref m11, .ref m12, .ref m13, .ref m14, .ref m15, .ref m16, .ref m17, .ref m18, .ref m19, .ref m20, .int 1, .int 0, .int 0, .int 0, .long 0, .int 0]))] := hD
  refine lv_iload hx hb dL_law_2073 (lv_at hl 1 rfl) ?_
  refine lv_icmp_eq (tgt := 2080) hx hb dL_law_2075 (by decide) (fun _ => ?_) (fun c_2075_14 => absurd (by decide +kernel) c_2075_14)
  refine lv_iload hx hb dL_law_2080 (lv_at hl 1 rfl) ?_
  refine lv_if_ne (tgt := 2097) hx hb dL_law_2082 (by decide) (fun _ => ?_) (fun c_2082_15 => absurd c_2082_15 (by decide +kernel))
  refine lv_goto (tgt := 2706) hx hb dL_law_2097 (by decide) ?_
  exact W.widen (k := 600006) (n := 7302040) (Nat.le_of_ble_eq_true rfl) (Nat.le_of_ble_eq_true rfl) (kt _ _ _ hS (lv_sub hl [2, 7] rfl))
set_option maxHeartbeats 4000000 in
set_option maxRecDepth 100000 in
theorem c_pause (l : Launch) {p : Program} {e : Env} {s : State} {m : MethodId} {below : List Frame} {meth : Method} {c : Code} {D : va_G} {cy : Nat → ClassId} {A : Nat → Prop} {b : Nat} {xs : Nat → Int32} {Q : State → Prop} {H : Heap} {locs : List Loc} {ls : Array Slot} (Z : zLaw l p s m c D cy A b 9 xs) (x0 : Nat) (g0 : Nat) (o1 : Nat) (o2 : Nat) (vC : Nat) (vP : Nat) (vT : Nat) (vS : Nat) (vF : Nat) (vN : Nat) (vY : Nat) (m0 : Nat) (m1 : Nat) (m2 : Nat) (m3 : Nat) (m4 : Nat) (m5 : Nat) (m6 : Nat) (m7 : Nat) (m8 : Nat) (m9 : Nat) (m10 : Nat) (m11 : Nat) (m12 : Nat) (m13 : Nat) (m14 : Nat) (m15 : Nat) (m16 : Nat) (m17 : Nat) (m18 : Nat) (m19 : Nat) (m20 : Nat) (b2 : Nat)  (hP : va_P D vwCl [(x0, .inr (12, [.ref vC, .ref vP, .ref vT, .ref vS, .ref vF, .ref vN, .ref vY, .int 0])), (g0, .inr (17, [.ref m0, .ref m1, .ref m2, .ref m3, .ref m4, .ref m5, .ref m6, .ref m7, .ref m8, .ref m9, .ref m10, .ref m11, .ref m12, .ref m13, .ref m14, .ref m15, .ref m16, .ref m17, .ref m18, .ref m19, .ref m20, .int 0, .int 0, .int 0, .int 0, .long 0, .int 0])), (m2, .inr (2, [.int 0, .ref b2, .int 0]))] H) (hD : va_D A [(x0, .inr (12, [.ref vC, .ref vP, .ref vT, .ref vS, .ref vF, .ref vN, .ref vY, .int 0])), (g0, .inr (17, [.ref m0, .ref m1, .ref m2, .ref m3, .ref m4, .ref m5, .ref m6, .ref m7, .ref m8, .ref m9, .ref m10, .ref m11, .ref m12, .ref m13, .ref m14, .ref m15, .ref m16, .ref m17, .ref m18, .ref m19, .ref m20, .int 0, .int 0, .int 0, .int 0, .long 0, .int 0])), (m2, .inr (2, [.int 0, .ref b2, .int 0]))]) (hS : va_S A s.heap H locs) (hl : lv_has ls 9 [(0, .ref b), (1, .ref x0), (2, .ref g0), (3, .ref o1), (4, .ref o2), (5, .int 0)]) (kt : ∀ (H : Heap) (locs : List Loc) (ls : Array Slot), va_S A s.heap H locs → lv_has ls 9 [(0, .ref b), (5, .int 0)] → W p l e room_1 s m #[Value.ref b] below meth c H locs 600006 7302040 Q (F0 m 2706 ls [])) : W p l e room_1 s m #[Value.ref b] below meth c H locs 213 25112 Q (F0 m 2100 ls []) := by
  obtain ⟨hx, hb, hml, hown, hts, hK, hX, hY, hA, hXs, hbl, hbA, hlt⟩ := id Z
  refine lv_aload_n hx hb dL_law_2100 rfl (lv_at hl 1 rfl) ?_
  refine lv_aload_n hx hb dL_law_2101 rfl (lv_at hl 0 rfl) ?_
  refine lv_iload hx hb dL_law_2102 (lv_at hl 5 rfl) ?_
  refine lv_iconst (v := 1) hx hb dL_law_2104 (by decide) ?_
  refine lv_iadd hx hb dL_law_2105 ?_
  refine lv_topi (fun y1 ey1 => ?_)
  obtain rfl : y1 = 1 := ey1.trans (by decide +kernel)
  refine va_sld hx hb hXs hbl hbA hS (z_in 1 (by decide) (by decide)) dL_law_2106 ?_
  refine lv_topi (fun y2 ey2 => ?_)
  obtain rfl : y2 = (xs 1) := ey2.trans rfl
  refine lv_aload_n hx hb dL_law_2107 rfl (lv_at hl 0 rfl) ?_
  refine lv_iload hx hb dL_law_2108 (lv_at hl 5 rfl) ?_
  refine lv_iconst (v := 2) hx hb dL_law_2110 (by decide) ?_
  refine lv_iadd hx hb dL_law_2111 ?_
  refine lv_topi (fun y3 ey3 => ?_)
  obtain rfl : y3 = 2 := ey3.trans (by decide +kernel)
  refine va_sld hx hb hXs hbl hbA hS (z_in 2 (by decide) (by decide)) dL_law_2112 ?_
  refine lv_topi (fun y4 ey4 => ?_)
  obtain rfl : y4 = (xs 2) := ey4.trans rfl
  refine lv_aload_n hx hb dL_law_2113 rfl (lv_at hl 3 rfl) ?_
  refine zq_i (wc := [(x0, .inr (12, [.ref vC, .ref vP, .ref vT, .ref vS, .ref vF, .ref vN, .ref vY, .int 0]))]) (wr := [(g0, .inr (17, [.ref m0, .ref m1, .ref m2, .ref m3, .ref m4, .ref m5, .ref m6, .ref m7, .ref m8, .ref m9, .ref m10, .ref m11, .ref m12, .ref m13, .ref m14, .ref m15, .ref m16, .ref m17, .ref m18, .ref m19, .ref m20, .int 0, .int 0, .int 0, .int 0, .long 0, .int 0])), (m2, .inr (2, [.int 0, .ref b2, .int 0]))]) (vx_runSW (As := [.ref x0, .int (xs 1), .int (xs 2), .ref o1]) (rest := []) ⟨hx, hb, hml, hown, hts⟩ (w_pause l hlt D cy x0 vC vP vT vS vF vN vY (xs 1) (xs 2) o1 H.size ) (vx_cwSW 4 hts (gzS (gzW q757) q756 q758 q565) rfl rfl rfl vL_pause.2 ⟨Nat.le_of_ble_eq_true rfl, Nat.le_of_ble_eq_true rfl⟩) (zpS hK hX hY hP hD hS hA [0] (by decide) rfl) rfl rfl hl.1 rfl (lv_room (Nat.le_of_ble_eq_true rfl)) dL_law_2114 ⟨Nat.le_of_ble_eq_true rfl, Nat.le_of_ble_eq_true rfl⟩) hP hD hS hA [0] [1, 2] rfl rfl (by decide) (by decide) (fun x6 u5 H locs hw hP hD hS => ?_)
  obtain rfl : x6 = 1 := hw
  have hP : va_P D vwCl [(g0, .inr (17, [.ref m0, .ref m1, .ref m2, .ref m3, .ref m4, .ref m5, .ref m6, .ref m7, .ref m8, .ref m9, .ref m10, .ref m11, .ref m12, .ref m13, .ref m14, .ref m15, .ref m16, .ref m17, .ref m18, .ref m19, .ref m20, .int 0, .int 0, .int 0, .int 0, .long 0, .int 0])), (m2, .inr (2, [.int 0, .ref b2, .int 0]))] H := hP
  have hD : va_D A [(g0, .inr (17, [.ref m0, .ref m1, .ref m2, .ref m3, .ref m4, .ref m5, .ref m6, .ref m7, .ref m8, .ref m9, .ref m10, .ref m11, .ref m12, .ref m13, .ref m14, .ref m15, .ref m16, .ref m17, .ref m18, .ref m19, .ref m20, .int 0, .int 0, .int 0, .int 0, .long 0, .int 0])), (m2, .inr (2, [.int 0, .ref b2, .int 0]))] := hD
  refine W.widen (k := 214) (n := 25118) (by omega) (by omega) ?_
  refine lv_istore (lv' := [(6, .int 1), (0, .ref b), (1, .ref x0), (2, .ref g0), (3, .ref o1), (4, .ref o2), (5, .int 0)]) hx hb dL_law_2117 hl (by decide) rfl (fun ls hl => ?_)
  refine lv_aload_n hx hb dL_law_2119 rfl (lv_at hl 3 rfl) ?_
  refine lv_aload_n hx hb dL_law_2120 rfl (lv_at hl 1 rfl) ?_
  refine lv_iload hx hb dL_law_2121 (lv_at hl 6 rfl) ?_
  refine lv_iconst (v := 1) hx hb dL_law_2123 (by decide) ?_
  refine lv_iadd hx hb dL_law_2124 ?_
  refine lv_topi (fun y7 ey7 => ?_)
  obtain rfl : y7 = 1 := ey7.trans (by decide +kernel)
  refine va_sld hx hb hXs hbl hbA hS (z_in 1 (by decide) (by decide)) dL_law_2125 ?_
  refine lv_topi (fun y8 ey8 => ?_)
  obtain rfl : y8 = (xs 1) := ey8.trans rfl
  refine lv_aload_n hx hb dL_law_2126 rfl (lv_at hl 1 rfl) ?_
  refine lv_iload hx hb dL_law_2127 (lv_at hl 6 rfl) ?_
  refine lv_iconst (v := 2) hx hb dL_law_2129 (by decide) ?_
  refine lv_iadd hx hb dL_law_2130 ?_
  refine lv_topi (fun y9 ey9 => ?_)
  obtain rfl : y9 = 2 := ey9.trans (by decide +kernel)
  refine va_sld hx hb hXs hbl hbA hS (z_in 2 (by decide) (by decide)) dL_law_2131 ?_
  refine lv_topi (fun y10 ey10 => ?_)
  obtain rfl : y10 = (xs 2) := ey10.trans rfl
  refine zq_i (wc := [(g0, .inr (17, [.ref m0, .ref m1, .ref m2, .ref m3, .ref m4, .ref m5, .ref m6, .ref m7, .ref m8, .ref m9, .ref m10, .ref m11, .ref m12, .ref m13, .ref m14, .ref m15, .ref m16, .ref m17, .ref m18, .ref m19, .ref m20, .int 0, .int 0, .int 0, .int 0, .long 0, .int 0])), (m2, .inr (2, [.int 0, .ref b2, .int 0]))]) (wr := []) (va_runV (As := [.int (xs 1), .int (xs 2)]) (rest := []) ⟨hx, hb, hml, hown, hts⟩ (g_pause l D cy g0 m0 m1 m2 m3 m4 m5 m6 m7 m8 m9 m10 m11 m12 m13 m14 m15 m16 m17 m18 m19 m20 b2 (xs 1) (xs 2) H.size ) (cwV 2 hts (gzV (gz q760) q759 q761 q762 q285) rfl rfl rfl vX14_pause ⟨Nat.le_of_ble_eq_true rfl, Nat.le_of_ble_eq_true rfl⟩) (zpV (ci := 17) (T := TX14) (N := 27) (q0 := 0) hK hX hY hP hD hS hA [0, 1] (by decide) rfl rfl rfl) rfl rfl hl.1 rfl (lv_room (Nat.le_of_ble_eq_true rfl)) dL_law_2132 ⟨Nat.le_of_ble_eq_true rfl, Nat.le_of_ble_eq_true rfl⟩) hP hD hS hA [0, 1] [] rfl rfl (by decide) (by decide) (fun x12 u11 H locs hw hP hD hS => ?_)
  obtain rfl : x12 = 0 := hw
  have hP : va_P D vwCl [(g0, .inr (17, [.ref m0, .ref m1, .ref m2, .ref m3, .ref m4, .ref m5, .ref m6, .ref m7, .ref m8, .ref m9, .ref m10, .ref m11, .ref m12, .ref m13, .ref m14, .ref m15, .ref m16, .ref m17, .ref m18, .ref m19, .ref m20, .int 1, .int 0, .int 0, .int 0, .long 0, .int 0]))] H := hP
  have hD : va_D A [(g0, .inr (17, [.ref m0, .ref m1, .ref m2, .ref m3, .ref m4, .ref m5, .ref m6, .ref m7, .ref m8, .ref m9, .ref m10, .ref m11, .ref m12, .ref m13, .ref m14, .ref m15, .ref m16, .ref m17, .ref m18, .ref m19, .ref m20, .int 1, .int 0, .int 0, .int 0, .long 0, .int 0]))] := hD
  refine lv_istore (lv' := [(7, .int 0), (6, .int 1), (0, .ref b), (1, .ref x0), (2, .ref g0), (3, .ref o1), (4, .ref o2), (5, .int 0)]) hx hb dL_law_2135 hl (by decide) rfl (fun ls hl => ?_)
  refine lv_aload_n hx hb dL_law_2137 rfl (lv_at hl 4 rfl) ?_
  refine zq_i (wc := [(g0, .inr (17, [.ref m0, .ref m1, .ref m2, .ref m3, .ref m4, .ref m5, .ref m6, .ref m7, .ref m8, .ref m9, .ref m10, .ref m11, .ref m12, .ref m13, .ref m14, .ref m15, .ref m16, .ref m17, .ref m18, .ref m19, .ref m20, .int 1, .int 0, .int 0, .int 0, .long 0, .int 0]))]) (wr := []) (va_runV (As := []) (rest := []) ⟨hx, hb, hml, hown, hts⟩ (k_thrown l D cy g0 m0 m1 m2 m3 m4 m5 m6 m7 m8 m9 m10 m11 m12 m13 m14 m15 m16 m17 m18 m19 m20 1 0 0 0 0 0 H.size ) (cwV 0 hts (gzV (gz q571) q570 q572 q573 q285) rfl rfl rfl vX14_thrown ⟨Nat.le_of_ble_eq_true rfl, Nat.le_of_ble_eq_true rfl⟩) (zpV (ci := 17) (T := TX14) (N := 27) (q0 := 0) hK hX hY hP hD hS hA [0] (by decide) rfl rfl rfl) rfl rfl hl.1 rfl (lv_room (Nat.le_of_ble_eq_true rfl)) dL_law_2138 ⟨Nat.le_of_ble_eq_true rfl, Nat.le_of_ble_eq_true rfl⟩) hP hD hS hA [0] [] rfl rfl (by decide) (by decide) (fun x14 u13 H locs hw hP hD hS => ?_)
  obtain rfl : x14 = 1 := hw
  have hP : va_P D vwCl [(g0, .inr (17, [.ref m0, .ref m1, .ref m2, .ref m3, .ref m4, .ref m5, .ref m6, .ref m7, .ref m8, .ref m9, .ref m10, .ref m11, .ref m12, .ref m13, .ref m14, .ref m15, .ref m16, .ref m17, .ref m18, .ref m19, .ref m20, .int 1, .int 0, .int 0, .int 0, .long 0, .int 0]))] H := hP
  have hD : va_D A [(g0, .inr (17, [.ref m0, .ref m1, .ref m2, .ref m3, .ref m4, .ref m5, .ref m6, .ref m7, .ref m8, .ref m9, .ref m10, .ref m11, .ref m12, .ref m13, .ref m14, .ref m15, .ref m16, .ref m17, .ref m18, .ref m19, .ref m20, .int 1, .int 0, .int 0, .int 0, .long 0, .int 0]))] := hD
  refine lv_iload hx hb dL_law_2141 (lv_at hl 1 rfl) ?_
  refine lv_icmp_eq (tgt := 2148) hx hb dL_law_2143 (by decide) (fun _ => ?_) (fun c_2143_14 => absurd (by decide +kernel) c_2143_14)
  refine lv_iload hx hb dL_law_2148 (lv_at hl 1 rfl) ?_
  refine lv_if_ne (tgt := 2165) hx hb dL_law_2150 (by decide) (fun _ => ?_) (fun c_2150_15 => absurd c_2150_15 (by decide +kernel))
  refine lv_goto (tgt := 2706) hx hb dL_law_2165 (by decide) ?_
  exact W.widen (k := 600006) (n := 7302040) (Nat.le_of_ble_eq_true rfl) (Nat.le_of_ble_eq_true rfl) (kt _ _ _ hS (lv_sub hl [2, 7] rfl))
set_option maxHeartbeats 4000000 in
set_option maxRecDepth 100000 in
theorem c_placeOf (l : Launch) {p : Program} {e : Env} {s : State} {m : MethodId} {below : List Frame} {meth : Method} {c : Code} {D : va_G} {cy : Nat → ClassId} {A : Nat → Prop} {b : Nat} {xs : Nat → Int32} {Q : State → Prop} {H : Heap} {locs : List Loc} {ls : Array Slot} (Z : zLaw l p s m c D cy A b 9 xs) (x0 : Nat) (g0 : Nat) (o1 : Nat) (o2 : Nat) (vC : Nat) (vP : Nat) (vT : Nat) (vS : Nat) (vF : Nat) (vN : Nat) (vY : Nat) (m0 : Nat) (m1 : Nat) (m2 : Nat) (m3 : Nat) (m4 : Nat) (m5 : Nat) (m6 : Nat) (m7 : Nat) (m8 : Nat) (m9 : Nat) (m10 : Nat) (m11 : Nat) (m12 : Nat) (m13 : Nat) (m14 : Nat) (m15 : Nat) (m16 : Nat) (m17 : Nat) (m18 : Nat) (m19 : Nat) (m20 : Nat) (b2 : Nat)  (hP : va_P D vwCl [(x0, .inr (12, [.ref vC, .ref vP, .ref vT, .ref vS, .ref vF, .ref vN, .ref vY, .int 0])), (g0, .inr (17, [.ref m0, .ref m1, .ref m2, .ref m3, .ref m4, .ref m5, .ref m6, .ref m7, .ref m8, .ref m9, .ref m10, .ref m11, .ref m12, .ref m13, .ref m14, .ref m15, .ref m16, .ref m17, .ref m18, .ref m19, .ref m20, .int 0, .int 0, .int 0, .int 0, .long 0, .int 0])), (m2, .inr (2, [.int 0, .ref b2, .int 0]))] H) (hD : va_D A [(x0, .inr (12, [.ref vC, .ref vP, .ref vT, .ref vS, .ref vF, .ref vN, .ref vY, .int 0])), (g0, .inr (17, [.ref m0, .ref m1, .ref m2, .ref m3, .ref m4, .ref m5, .ref m6, .ref m7, .ref m8, .ref m9, .ref m10, .ref m11, .ref m12, .ref m13, .ref m14, .ref m15, .ref m16, .ref m17, .ref m18, .ref m19, .ref m20, .int 0, .int 0, .int 0, .int 0, .long 0, .int 0])), (m2, .inr (2, [.int 0, .ref b2, .int 0]))]) (hS : va_S A s.heap H locs) (hl : lv_has ls 9 [(0, .ref b), (1, .ref x0), (2, .ref g0), (3, .ref o1), (4, .ref o2), (5, .int 0)]) (kt : ∀ (H : Heap) (locs : List Loc) (ls : Array Slot), va_S A s.heap H locs → lv_has ls 9 [(0, .ref b), (5, .int 0)] → W p l e room_1 s m #[Value.ref b] below meth c H locs 600006 7302040 Q (F0 m 2706 ls [])) : W p l e room_1 s m #[Value.ref b] below meth c H locs 213 25112 Q (F0 m 2168 ls []) := by
  obtain ⟨hx, hb, hml, hown, hts, hK, hX, hY, hA, hXs, hbl, hbA, hlt⟩ := id Z
  refine lv_aload_n hx hb dL_law_2168 rfl (lv_at hl 1 rfl) ?_
  refine lv_aload_n hx hb dL_law_2169 rfl (lv_at hl 0 rfl) ?_
  refine lv_iload hx hb dL_law_2170 (lv_at hl 5 rfl) ?_
  refine lv_iconst (v := 1) hx hb dL_law_2172 (by decide) ?_
  refine lv_iadd hx hb dL_law_2173 ?_
  refine lv_topi (fun y1 ey1 => ?_)
  obtain rfl : y1 = 1 := ey1.trans (by decide +kernel)
  refine va_sld hx hb hXs hbl hbA hS (z_in 1 (by decide) (by decide)) dL_law_2174 ?_
  refine lv_topi (fun y2 ey2 => ?_)
  obtain rfl : y2 = (xs 1) := ey2.trans rfl
  refine lv_aload_n hx hb dL_law_2175 rfl (lv_at hl 3 rfl) ?_
  refine zq_i (wc := [(x0, .inr (12, [.ref vC, .ref vP, .ref vT, .ref vS, .ref vF, .ref vN, .ref vY, .int 0]))]) (wr := [(g0, .inr (17, [.ref m0, .ref m1, .ref m2, .ref m3, .ref m4, .ref m5, .ref m6, .ref m7, .ref m8, .ref m9, .ref m10, .ref m11, .ref m12, .ref m13, .ref m14, .ref m15, .ref m16, .ref m17, .ref m18, .ref m19, .ref m20, .int 0, .int 0, .int 0, .int 0, .long 0, .int 0])), (m2, .inr (2, [.int 0, .ref b2, .int 0]))]) (vx_runSW (As := [.ref x0, .int (xs 1), .ref o1]) (rest := []) ⟨hx, hb, hml, hown, hts⟩ (w_placeOf l hlt D cy x0 vC vP vT vS vF vN vY (xs 1) o1 H.size ) (vx_cwSW 3 hts (gzS (gzW q764) q763 q765 q565) rfl rfl rfl vL_placeOf.2 ⟨Nat.le_of_ble_eq_true rfl, Nat.le_of_ble_eq_true rfl⟩) (zpS hK hX hY hP hD hS hA [0] (by decide) rfl) rfl rfl hl.1 rfl (lv_room (Nat.le_of_ble_eq_true rfl)) dL_law_2176 ⟨Nat.le_of_ble_eq_true rfl, Nat.le_of_ble_eq_true rfl⟩) hP hD hS hA [0] [1, 2] rfl rfl (by decide) (by decide) (fun x4 u3 H locs hw hP hD hS => ?_)
  obtain rfl : x4 = 1 := hw
  have hP : va_P D vwCl [(g0, .inr (17, [.ref m0, .ref m1, .ref m2, .ref m3, .ref m4, .ref m5, .ref m6, .ref m7, .ref m8, .ref m9, .ref m10, .ref m11, .ref m12, .ref m13, .ref m14, .ref m15, .ref m16, .ref m17, .ref m18, .ref m19, .ref m20, .int 0, .int 0, .int 0, .int 0, .long 0, .int 0])), (m2, .inr (2, [.int 0, .ref b2, .int 0]))] H := hP
  have hD : va_D A [(g0, .inr (17, [.ref m0, .ref m1, .ref m2, .ref m3, .ref m4, .ref m5, .ref m6, .ref m7, .ref m8, .ref m9, .ref m10, .ref m11, .ref m12, .ref m13, .ref m14, .ref m15, .ref m16, .ref m17, .ref m18, .ref m19, .ref m20, .int 0, .int 0, .int 0, .int 0, .long 0, .int 0])), (m2, .inr (2, [.int 0, .ref b2, .int 0]))] := hD
  refine W.widen (k := 214) (n := 25118) (by omega) (by omega) ?_
  refine lv_istore (lv' := [(6, .int 1), (0, .ref b), (1, .ref x0), (2, .ref g0), (3, .ref o1), (4, .ref o2), (5, .int 0)]) hx hb dL_law_2179 hl (by decide) rfl (fun ls hl => ?_)
  refine lv_aload_n hx hb dL_law_2181 rfl (lv_at hl 3 rfl) ?_
  refine lv_aload_n hx hb dL_law_2182 rfl (lv_at hl 1 rfl) ?_
  refine lv_iload hx hb dL_law_2183 (lv_at hl 6 rfl) ?_
  refine lv_iconst (v := 1) hx hb dL_law_2185 (by decide) ?_
  refine lv_iadd hx hb dL_law_2186 ?_
  refine lv_topi (fun y5 ey5 => ?_)
  obtain rfl : y5 = 1 := ey5.trans (by decide +kernel)
  refine va_sld hx hb hXs hbl hbA hS (z_in 1 (by decide) (by decide)) dL_law_2187 ?_
  refine lv_topi (fun y6 ey6 => ?_)
  obtain rfl : y6 = (xs 1) := ey6.trans rfl
  refine zq_i (wc := [(g0, .inr (17, [.ref m0, .ref m1, .ref m2, .ref m3, .ref m4, .ref m5, .ref m6, .ref m7, .ref m8, .ref m9, .ref m10, .ref m11, .ref m12, .ref m13, .ref m14, .ref m15, .ref m16, .ref m17, .ref m18, .ref m19, .ref m20, .int 0, .int 0, .int 0, .int 0, .long 0, .int 0])), (m2, .inr (2, [.int 0, .ref b2, .int 0]))]) (wr := []) (va_runV (As := [.int (xs 1)]) (rest := []) ⟨hx, hb, hml, hown, hts⟩ (g_placeOf l D cy g0 m0 m1 m2 m3 m4 m5 m6 m7 m8 m9 m10 m11 m12 m13 m14 m15 m16 m17 m18 m19 m20 b2 (xs 1) H.size ) (cwV 1 hts (gzV (gz q767) q766 q768 q769 q285) rfl rfl rfl vX14_placeOf ⟨Nat.le_of_ble_eq_true rfl, Nat.le_of_ble_eq_true rfl⟩) (zpV (ci := 17) (T := TX14) (N := 27) (q0 := 0) hK hX hY hP hD hS hA [0, 1] (by decide) rfl rfl rfl) rfl rfl hl.1 rfl (lv_room (Nat.le_of_ble_eq_true rfl)) dL_law_2188 ⟨Nat.le_of_ble_eq_true rfl, Nat.le_of_ble_eq_true rfl⟩) hP hD hS hA [0, 1] [] rfl rfl (by decide) (by decide) (fun x8 u7 H locs hw hP hD hS => ?_)
  obtain rfl : x8 = 0 := hw
  have hP : va_P D vwCl [(g0, .inr (17, [.ref m0, .ref m1, .ref m2, .ref m3, .ref m4, .ref m5, .ref m6, .ref m7, .ref m8, .ref m9, .ref m10, .ref m11, .ref m12, .ref m13, .ref m14, .ref m15, .ref m16, .ref m17, .ref m18, .ref m19, .ref m20, .int 1, .int 0, .int 0, .int 0, .long 0, .int 0]))] H := hP
  have hD : va_D A [(g0, .inr (17, [.ref m0, .ref m1, .ref m2, .ref m3, .ref m4, .ref m5, .ref m6, .ref m7, .ref m8, .ref m9, .ref m10, .ref m11, .ref m12, .ref m13, .ref m14, .ref m15, .ref m16, .ref m17, .ref m18, .ref m19, .ref m20, .int 1, .int 0, .int 0, .int 0, .long 0, .int 0]))] := hD
  refine lv_istore (lv' := [(7, .int 0), (6, .int 1), (0, .ref b), (1, .ref x0), (2, .ref g0), (3, .ref o1), (4, .ref o2), (5, .int 0)]) hx hb dL_law_2191 hl (by decide) rfl (fun ls hl => ?_)
  refine lv_aload_n hx hb dL_law_2193 rfl (lv_at hl 4 rfl) ?_
  refine zq_i (wc := [(g0, .inr (17, [.ref m0, .ref m1, .ref m2, .ref m3, .ref m4, .ref m5, .ref m6, .ref m7, .ref m8, .ref m9, .ref m10, .ref m11, .ref m12, .ref m13, .ref m14, .ref m15, .ref m16, .ref m17, .ref m18, .ref m19, .ref m20, .int 1, .int 0, .int 0, .int 0, .long 0, .int 0]))]) (wr := []) (va_runV (As := []) (rest := []) ⟨hx, hb, hml, hown, hts⟩ (k_thrown l D cy g0 m0 m1 m2 m3 m4 m5 m6 m7 m8 m9 m10 m11 m12 m13 m14 m15 m16 m17 m18 m19 m20 1 0 0 0 0 0 H.size ) (cwV 0 hts (gzV (gz q571) q570 q572 q573 q285) rfl rfl rfl vX14_thrown ⟨Nat.le_of_ble_eq_true rfl, Nat.le_of_ble_eq_true rfl⟩) (zpV (ci := 17) (T := TX14) (N := 27) (q0 := 0) hK hX hY hP hD hS hA [0] (by decide) rfl rfl rfl) rfl rfl hl.1 rfl (lv_room (Nat.le_of_ble_eq_true rfl)) dL_law_2194 ⟨Nat.le_of_ble_eq_true rfl, Nat.le_of_ble_eq_true rfl⟩) hP hD hS hA [0] [] rfl rfl (by decide) (by decide) (fun x10 u9 H locs hw hP hD hS => ?_)
  obtain rfl : x10 = 1 := hw
  have hP : va_P D vwCl [(g0, .inr (17, [.ref m0, .ref m1, .ref m2, .ref m3, .ref m4, .ref m5, .ref m6, .ref m7, .ref m8, .ref m9, .ref m10, .ref m11, .ref m12, .ref m13, .ref m14, .ref m15, .ref m16, .ref m17, .ref m18, .ref m19, .ref m20, .int 1, .int 0, .int 0, .int 0, .long 0, .int 0]))] H := hP
  have hD : va_D A [(g0, .inr (17, [.ref m0, .ref m1, .ref m2, .ref m3, .ref m4, .ref m5, .ref m6, .ref m7, .ref m8, .ref m9, .ref m10, .ref m11, .ref m12, .ref m13, .ref m14, .ref m15, .ref m16, .ref m17, .ref m18, .ref m19, .ref m20, .int 1, .int 0, .int 0, .int 0, .long 0, .int 0]))] := hD
  refine lv_iload hx hb dL_law_2197 (lv_at hl 1 rfl) ?_
  refine lv_icmp_eq (tgt := 2204) hx hb dL_law_2199 (by decide) (fun _ => ?_) (fun c_2199_10 => absurd (by decide +kernel) c_2199_10)
  refine lv_iload hx hb dL_law_2204 (lv_at hl 1 rfl) ?_
  refine lv_if_ne (tgt := 2221) hx hb dL_law_2206 (by decide) (fun _ => ?_) (fun c_2206_11 => absurd c_2206_11 (by decide +kernel))
  refine lv_goto (tgt := 2706) hx hb dL_law_2221 (by decide) ?_
  exact W.widen (k := 600006) (n := 7302040) (Nat.le_of_ble_eq_true rfl) (Nat.le_of_ble_eq_true rfl) (kt _ _ _ hS (lv_sub hl [2, 7] rfl))
set_option maxHeartbeats 4000000 in
set_option maxRecDepth 100000 in
theorem c_hourOf (l : Launch) {p : Program} {e : Env} {s : State} {m : MethodId} {below : List Frame} {meth : Method} {c : Code} {D : va_G} {cy : Nat → ClassId} {A : Nat → Prop} {b : Nat} {xs : Nat → Int32} {Q : State → Prop} {H : Heap} {locs : List Loc} {ls : Array Slot} (Z : zLaw l p s m c D cy A b 9 xs) (x0 : Nat) (g0 : Nat) (o1 : Nat) (o2 : Nat) (vC : Nat) (vP : Nat) (vT : Nat) (vS : Nat) (vF : Nat) (vN : Nat) (vY : Nat) (m0 : Nat) (m1 : Nat) (m2 : Nat) (m3 : Nat) (m4 : Nat) (m5 : Nat) (m6 : Nat) (m7 : Nat) (m8 : Nat) (m9 : Nat) (m10 : Nat) (m11 : Nat) (m12 : Nat) (m13 : Nat) (m14 : Nat) (m15 : Nat) (m16 : Nat) (m17 : Nat) (m18 : Nat) (m19 : Nat) (m20 : Nat) (b2 : Nat)  (hP : va_P D vwCl [(x0, .inr (12, [.ref vC, .ref vP, .ref vT, .ref vS, .ref vF, .ref vN, .ref vY, .int 0])), (g0, .inr (17, [.ref m0, .ref m1, .ref m2, .ref m3, .ref m4, .ref m5, .ref m6, .ref m7, .ref m8, .ref m9, .ref m10, .ref m11, .ref m12, .ref m13, .ref m14, .ref m15, .ref m16, .ref m17, .ref m18, .ref m19, .ref m20, .int 0, .int 0, .int 0, .int 0, .long 0, .int 0])), (m2, .inr (2, [.int 0, .ref b2, .int 0]))] H) (hD : va_D A [(x0, .inr (12, [.ref vC, .ref vP, .ref vT, .ref vS, .ref vF, .ref vN, .ref vY, .int 0])), (g0, .inr (17, [.ref m0, .ref m1, .ref m2, .ref m3, .ref m4, .ref m5, .ref m6, .ref m7, .ref m8, .ref m9, .ref m10, .ref m11, .ref m12, .ref m13, .ref m14, .ref m15, .ref m16, .ref m17, .ref m18, .ref m19, .ref m20, .int 0, .int 0, .int 0, .int 0, .long 0, .int 0])), (m2, .inr (2, [.int 0, .ref b2, .int 0]))]) (hS : va_S A s.heap H locs) (hl : lv_has ls 9 [(0, .ref b), (1, .ref x0), (2, .ref g0), (3, .ref o1), (4, .ref o2), (5, .int 0)]) (kt : ∀ (H : Heap) (locs : List Loc) (ls : Array Slot), va_S A s.heap H locs → lv_has ls 9 [(0, .ref b), (5, .int 0)] → W p l e room_1 s m #[Value.ref b] below meth c H locs 600006 7302040 Q (F0 m 2706 ls [])) : W p l e room_1 s m #[Value.ref b] below meth c H locs 213 25112 Q (F0 m 2224 ls []) := by
  obtain ⟨hx, hb, hml, hown, hts, hK, hX, hY, hA, hXs, hbl, hbA, hlt⟩ := id Z
  refine lv_aload_n hx hb dL_law_2224 rfl (lv_at hl 1 rfl) ?_
  refine lv_aload_n hx hb dL_law_2225 rfl (lv_at hl 0 rfl) ?_
  refine lv_iload hx hb dL_law_2226 (lv_at hl 5 rfl) ?_
  refine lv_iconst (v := 1) hx hb dL_law_2228 (by decide) ?_
  refine lv_iadd hx hb dL_law_2229 ?_
  refine lv_topi (fun y1 ey1 => ?_)
  obtain rfl : y1 = 1 := ey1.trans (by decide +kernel)
  refine va_sld hx hb hXs hbl hbA hS (z_in 1 (by decide) (by decide)) dL_law_2230 ?_
  refine lv_topi (fun y2 ey2 => ?_)
  obtain rfl : y2 = (xs 1) := ey2.trans rfl
  refine lv_aload_n hx hb dL_law_2231 rfl (lv_at hl 3 rfl) ?_
  refine zq_i (wc := [(x0, .inr (12, [.ref vC, .ref vP, .ref vT, .ref vS, .ref vF, .ref vN, .ref vY, .int 0]))]) (wr := [(g0, .inr (17, [.ref m0, .ref m1, .ref m2, .ref m3, .ref m4, .ref m5, .ref m6, .ref m7, .ref m8, .ref m9, .ref m10, .ref m11, .ref m12, .ref m13, .ref m14, .ref m15, .ref m16, .ref m17, .ref m18, .ref m19, .ref m20, .int 0, .int 0, .int 0, .int 0, .long 0, .int 0])), (m2, .inr (2, [.int 0, .ref b2, .int 0]))]) (vx_runSW (As := [.ref x0, .int (xs 1), .ref o1]) (rest := []) ⟨hx, hb, hml, hown, hts⟩ (w_hourOf l hlt D cy x0 vC vP vT vS vF vN vY (xs 1) o1 H.size ) (vx_cwSW 3 hts (gzS (gzW q771) q770 q772 q565) rfl rfl rfl vL_hourOf.2 ⟨Nat.le_of_ble_eq_true rfl, Nat.le_of_ble_eq_true rfl⟩) (zpS hK hX hY hP hD hS hA [0] (by decide) rfl) rfl rfl hl.1 rfl (lv_room (Nat.le_of_ble_eq_true rfl)) dL_law_2232 ⟨Nat.le_of_ble_eq_true rfl, Nat.le_of_ble_eq_true rfl⟩) hP hD hS hA [0] [1, 2] rfl rfl (by decide) (by decide) (fun x4 u3 H locs hw hP hD hS => ?_)
  obtain rfl : x4 = 1 := hw
  have hP : va_P D vwCl [(g0, .inr (17, [.ref m0, .ref m1, .ref m2, .ref m3, .ref m4, .ref m5, .ref m6, .ref m7, .ref m8, .ref m9, .ref m10, .ref m11, .ref m12, .ref m13, .ref m14, .ref m15, .ref m16, .ref m17, .ref m18, .ref m19, .ref m20, .int 0, .int 0, .int 0, .int 0, .long 0, .int 0])), (m2, .inr (2, [.int 0, .ref b2, .int 0]))] H := hP
  have hD : va_D A [(g0, .inr (17, [.ref m0, .ref m1, .ref m2, .ref m3, .ref m4, .ref m5, .ref m6, .ref m7, .ref m8, .ref m9, .ref m10, .ref m11, .ref m12, .ref m13, .ref m14, .ref m15, .ref m16, .ref m17, .ref m18, .ref m19, .ref m20, .int 0, .int 0, .int 0, .int 0, .long 0, .int 0])), (m2, .inr (2, [.int 0, .ref b2, .int 0]))] := hD
  refine W.widen (k := 214) (n := 25118) (by omega) (by omega) ?_
  refine lv_istore (lv' := [(6, .int 1), (0, .ref b), (1, .ref x0), (2, .ref g0), (3, .ref o1), (4, .ref o2), (5, .int 0)]) hx hb dL_law_2235 hl (by decide) rfl (fun ls hl => ?_)
  refine lv_aload_n hx hb dL_law_2237 rfl (lv_at hl 3 rfl) ?_
  refine lv_aload_n hx hb dL_law_2238 rfl (lv_at hl 1 rfl) ?_
  refine lv_iload hx hb dL_law_2239 (lv_at hl 6 rfl) ?_
  refine lv_iconst (v := 1) hx hb dL_law_2241 (by decide) ?_
  refine lv_iadd hx hb dL_law_2242 ?_
  refine lv_topi (fun y5 ey5 => ?_)
  obtain rfl : y5 = 1 := ey5.trans (by decide +kernel)
  refine va_sld hx hb hXs hbl hbA hS (z_in 1 (by decide) (by decide)) dL_law_2243 ?_
  refine lv_topi (fun y6 ey6 => ?_)
  obtain rfl : y6 = (xs 1) := ey6.trans rfl
  refine zq_i (wc := [(g0, .inr (17, [.ref m0, .ref m1, .ref m2, .ref m3, .ref m4, .ref m5, .ref m6, .ref m7, .ref m8, .ref m9, .ref m10, .ref m11, .ref m12, .ref m13, .ref m14, .ref m15, .ref m16, .ref m17, .ref m18, .ref m19, .ref m20, .int 0, .int 0, .int 0, .int 0, .long 0, .int 0])), (m2, .inr (2, [.int 0, .ref b2, .int 0]))]) (wr := []) (va_runV (As := [.int (xs 1)]) (rest := []) ⟨hx, hb, hml, hown, hts⟩ (g_hourOf l D cy g0 m0 m1 m2 m3 m4 m5 m6 m7 m8 m9 m10 m11 m12 m13 m14 m15 m16 m17 m18 m19 m20 b2 (xs 1) H.size ) (cwV 1 hts (gzV (gz q774) q773 q775 q776 q285) rfl rfl rfl vX14_hourOf ⟨Nat.le_of_ble_eq_true rfl, Nat.le_of_ble_eq_true rfl⟩) (zpV (ci := 17) (T := TX14) (N := 27) (q0 := 0) hK hX hY hP hD hS hA [0, 1] (by decide) rfl rfl rfl) rfl rfl hl.1 rfl (lv_room (Nat.le_of_ble_eq_true rfl)) dL_law_2244 ⟨Nat.le_of_ble_eq_true rfl, Nat.le_of_ble_eq_true rfl⟩) hP hD hS hA [0, 1] [] rfl rfl (by decide) (by decide) (fun x8 u7 H locs hw hP hD hS => ?_)
  obtain rfl : x8 = 0 := hw
  have hP : va_P D vwCl [(g0, .inr (17, [.ref m0, .ref m1, .ref m2, .ref m3, .ref m4, .ref m5, .ref m6, .ref m7, .ref m8, .ref m9, .ref m10, .ref m11, .ref m12, .ref m13, .ref m14, .ref m15, .ref m16, .ref m17, .ref m18, .ref m19, .ref m20, .int 1, .int 0, .int 0, .int 0, .long 0, .int 0]))] H := hP
  have hD : va_D A [(g0, .inr (17, [.ref m0, .ref m1, .ref m2, .ref m3, .ref m4, .ref m5, .ref m6, .ref m7, .ref m8, .ref m9, .ref m10, .ref m11, .ref m12, .ref m13, .ref m14, .ref m15, .ref m16, .ref m17, .ref m18, .ref m19, .ref m20, .int 1, .int 0, .int 0, .int 0, .long 0, .int 0]))] := hD
  refine lv_istore (lv' := [(7, .int 0), (6, .int 1), (0, .ref b), (1, .ref x0), (2, .ref g0), (3, .ref o1), (4, .ref o2), (5, .int 0)]) hx hb dL_law_2247 hl (by decide) rfl (fun ls hl => ?_)
  refine lv_aload_n hx hb dL_law_2249 rfl (lv_at hl 4 rfl) ?_
  refine zq_i (wc := [(g0, .inr (17, [.ref m0, .ref m1, .ref m2, .ref m3, .ref m4, .ref m5, .ref m6, .ref m7, .ref m8, .ref m9, .ref m10, .ref m11, .ref m12, .ref m13, .ref m14, .ref m15, .ref m16, .ref m17, .ref m18, .ref m19, .ref m20, .int 1, .int 0, .int 0, .int 0, .long 0, .int 0]))]) (wr := []) (va_runV (As := []) (rest := []) ⟨hx, hb, hml, hown, hts⟩ (k_thrown l D cy g0 m0 m1 m2 m3 m4 m5 m6 m7 m8 m9 m10 m11 m12 m13 m14 m15 m16 m17 m18 m19 m20 1 0 0 0 0 0 H.size ) (cwV 0 hts (gzV (gz q571) q570 q572 q573 q285) rfl rfl rfl vX14_thrown ⟨Nat.le_of_ble_eq_true rfl, Nat.le_of_ble_eq_true rfl⟩) (zpV (ci := 17) (T := TX14) (N := 27) (q0 := 0) hK hX hY hP hD hS hA [0] (by decide) rfl rfl rfl) rfl rfl hl.1 rfl (lv_room (Nat.le_of_ble_eq_true rfl)) dL_law_2250 ⟨Nat.le_of_ble_eq_true rfl, Nat.le_of_ble_eq_true rfl⟩) hP hD hS hA [0] [] rfl rfl (by decide) (by decide) (fun x10 u9 H locs hw hP hD hS => ?_)
  obtain rfl : x10 = 1 := hw
  have hP : va_P D vwCl [(g0, .inr (17, [.ref m0, .ref m1, .ref m2, .ref m3, .ref m4, .ref m5, .ref m6, .ref m7, .ref m8, .ref m9, .ref m10, .ref m11, .ref m12, .ref m13, .ref m14, .ref m15, .ref m16, .ref m17, .ref m18, .ref m19, .ref m20, .int 1, .int 0, .int 0, .int 0, .long 0, .int 0]))] H := hP
  have hD : va_D A [(g0, .inr (17, [.ref m0, .ref m1, .ref m2, .ref m3, .ref m4, .ref m5, .ref m6, .ref m7, .ref m8, .ref m9, .ref m10, .ref m11, .ref m12, .ref m13, .ref m14, .ref m15, .ref m16, .ref m17, .ref m18, .ref m19, .ref m20, .int 1, .int 0, .int 0, .int 0, .long 0, .int 0]))] := hD
  refine lv_iload hx hb dL_law_2253 (lv_at hl 1 rfl) ?_
  refine lv_icmp_eq (tgt := 2260) hx hb dL_law_2255 (by decide) (fun _ => ?_) (fun c_2255_10 => absurd (by decide +kernel) c_2255_10)
  refine lv_iload hx hb dL_law_2260 (lv_at hl 1 rfl) ?_
  refine lv_if_ne (tgt := 2277) hx hb dL_law_2262 (by decide) (fun _ => ?_) (fun c_2262_11 => absurd c_2262_11 (by decide +kernel))
  refine lv_goto (tgt := 2706) hx hb dL_law_2277 (by decide) ?_
  exact W.widen (k := 600006) (n := 7302040) (Nat.le_of_ble_eq_true rfl) (Nat.le_of_ble_eq_true rfl) (kt _ _ _ hS (lv_sub hl [2, 7] rfl))
set_option maxHeartbeats 4000000 in
set_option maxRecDepth 100000 in
theorem c_plan (l : Launch) {p : Program} {e : Env} {s : State} {m : MethodId} {below : List Frame} {meth : Method} {c : Code} {D : va_G} {cy : Nat → ClassId} {A : Nat → Prop} {b : Nat} {xs : Nat → Int32} {Q : State → Prop} {H : Heap} {locs : List Loc} {ls : Array Slot} (Z : zLaw l p s m c D cy A b 9 xs) (x0 : Nat) (g0 : Nat) (o1 : Nat) (o2 : Nat) (vC : Nat) (vP : Nat) (vT : Nat) (vS : Nat) (vF : Nat) (vN : Nat) (vY : Nat) (m0 : Nat) (m1 : Nat) (m2 : Nat) (m3 : Nat) (m4 : Nat) (m5 : Nat) (m6 : Nat) (m7 : Nat) (m8 : Nat) (m9 : Nat) (m10 : Nat) (m11 : Nat) (m12 : Nat) (m13 : Nat) (m14 : Nat) (m15 : Nat) (m16 : Nat) (m17 : Nat) (m18 : Nat) (m19 : Nat) (m20 : Nat) (b2 : Nat)  (hP : va_P D vwCl [(x0, .inr (12, [.ref vC, .ref vP, .ref vT, .ref vS, .ref vF, .ref vN, .ref vY, .int 0])), (g0, .inr (17, [.ref m0, .ref m1, .ref m2, .ref m3, .ref m4, .ref m5, .ref m6, .ref m7, .ref m8, .ref m9, .ref m10, .ref m11, .ref m12, .ref m13, .ref m14, .ref m15, .ref m16, .ref m17, .ref m18, .ref m19, .ref m20, .int 0, .int 0, .int 0, .int 0, .long 0, .int 0])), (m2, .inr (2, [.int 0, .ref b2, .int 0]))] H) (hD : va_D A [(x0, .inr (12, [.ref vC, .ref vP, .ref vT, .ref vS, .ref vF, .ref vN, .ref vY, .int 0])), (g0, .inr (17, [.ref m0, .ref m1, .ref m2, .ref m3, .ref m4, .ref m5, .ref m6, .ref m7, .ref m8, .ref m9, .ref m10, .ref m11, .ref m12, .ref m13, .ref m14, .ref m15, .ref m16, .ref m17, .ref m18, .ref m19, .ref m20, .int 0, .int 0, .int 0, .int 0, .long 0, .int 0])), (m2, .inr (2, [.int 0, .ref b2, .int 0]))]) (hS : va_S A s.heap H locs) (hl : lv_has ls 9 [(0, .ref b), (1, .ref x0), (2, .ref g0), (3, .ref o1), (4, .ref o2), (5, .int 0)]) (kt : ∀ (H : Heap) (locs : List Loc) (ls : Array Slot), va_S A s.heap H locs → lv_has ls 9 [(0, .ref b), (5, .int 0)] → W p l e room_1 s m #[Value.ref b] below meth c H locs 600006 7302040 Q (F0 m 2706 ls [])) : W p l e room_1 s m #[Value.ref b] below meth c H locs 213 25112 Q (F0 m 2280 ls []) := by
  obtain ⟨hx, hb, hml, hown, hts, hK, hX, hY, hA, hXs, hbl, hbA, hlt⟩ := id Z
  refine lv_aload_n hx hb dL_law_2280 rfl (lv_at hl 1 rfl) ?_
  refine lv_aload_n hx hb dL_law_2281 rfl (lv_at hl 0 rfl) ?_
  refine lv_iload hx hb dL_law_2282 (lv_at hl 5 rfl) ?_
  refine lv_iconst (v := 1) hx hb dL_law_2284 (by decide) ?_
  refine lv_iadd hx hb dL_law_2285 ?_
  refine lv_topi (fun y1 ey1 => ?_)
  obtain rfl : y1 = 1 := ey1.trans (by decide +kernel)
  refine va_sld hx hb hXs hbl hbA hS (z_in 1 (by decide) (by decide)) dL_law_2286 ?_
  refine lv_topi (fun y2 ey2 => ?_)
  obtain rfl : y2 = (xs 1) := ey2.trans rfl
  refine lv_aload_n hx hb dL_law_2287 rfl (lv_at hl 3 rfl) ?_
  refine zq_i (wc := [(x0, .inr (12, [.ref vC, .ref vP, .ref vT, .ref vS, .ref vF, .ref vN, .ref vY, .int 0]))]) (wr := [(g0, .inr (17, [.ref m0, .ref m1, .ref m2, .ref m3, .ref m4, .ref m5, .ref m6, .ref m7, .ref m8, .ref m9, .ref m10, .ref m11, .ref m12, .ref m13, .ref m14, .ref m15, .ref m16, .ref m17, .ref m18, .ref m19, .ref m20, .int 0, .int 0, .int 0, .int 0, .long 0, .int 0])), (m2, .inr (2, [.int 0, .ref b2, .int 0]))]) (vx_runSW (As := [.ref x0, .int (xs 1), .ref o1]) (rest := []) ⟨hx, hb, hml, hown, hts⟩ (w_plan l hlt D cy x0 vC vP vT vS vF vN vY (xs 1) o1 H.size ) (vx_cwSW 3 hts (gzS (gzW q778) q777 q779 q565) rfl rfl rfl vL_plan.2 ⟨Nat.le_of_ble_eq_true rfl, Nat.le_of_ble_eq_true rfl⟩) (zpS hK hX hY hP hD hS hA [0] (by decide) rfl) rfl rfl hl.1 rfl (lv_room (Nat.le_of_ble_eq_true rfl)) dL_law_2288 ⟨Nat.le_of_ble_eq_true rfl, Nat.le_of_ble_eq_true rfl⟩) hP hD hS hA [0] [1, 2] rfl rfl (by decide) (by decide) (fun x4 u3 H locs hw hP hD hS => ?_)
  obtain rfl : x4 = 1 := hw
  have hP : va_P D vwCl [(g0, .inr (17, [.ref m0, .ref m1, .ref m2, .ref m3, .ref m4, .ref m5, .ref m6, .ref m7, .ref m8, .ref m9, .ref m10, .ref m11, .ref m12, .ref m13, .ref m14, .ref m15, .ref m16, .ref m17, .ref m18, .ref m19, .ref m20, .int 0, .int 0, .int 0, .int 0, .long 0, .int 0])), (m2, .inr (2, [.int 0, .ref b2, .int 0]))] H := hP
  have hD : va_D A [(g0, .inr (17, [.ref m0, .ref m1, .ref m2, .ref m3, .ref m4, .ref m5, .ref m6, .ref m7, .ref m8, .ref m9, .ref m10, .ref m11, .ref m12, .ref m13, .ref m14, .ref m15, .ref m16, .ref m17, .ref m18, .ref m19, .ref m20, .int 0, .int 0, .int 0, .int 0, .long 0, .int 0])), (m2, .inr (2, [.int 0, .ref b2, .int 0]))] := hD
  refine W.widen (k := 214) (n := 25118) (by omega) (by omega) ?_
  refine lv_istore (lv' := [(6, .int 1), (0, .ref b), (1, .ref x0), (2, .ref g0), (3, .ref o1), (4, .ref o2), (5, .int 0)]) hx hb dL_law_2291 hl (by decide) rfl (fun ls hl => ?_)
  refine lv_aload_n hx hb dL_law_2293 rfl (lv_at hl 3 rfl) ?_
  refine lv_aload_n hx hb dL_law_2294 rfl (lv_at hl 1 rfl) ?_
  refine lv_iload hx hb dL_law_2295 (lv_at hl 6 rfl) ?_
  refine lv_iconst (v := 1) hx hb dL_law_2297 (by decide) ?_
  refine lv_iadd hx hb dL_law_2298 ?_
  refine lv_topi (fun y5 ey5 => ?_)
  obtain rfl : y5 = 1 := ey5.trans (by decide +kernel)
  refine va_sld hx hb hXs hbl hbA hS (z_in 1 (by decide) (by decide)) dL_law_2299 ?_
  refine lv_topi (fun y6 ey6 => ?_)
  obtain rfl : y6 = (xs 1) := ey6.trans rfl
  refine zq_i (wc := [(g0, .inr (17, [.ref m0, .ref m1, .ref m2, .ref m3, .ref m4, .ref m5, .ref m6, .ref m7, .ref m8, .ref m9, .ref m10, .ref m11, .ref m12, .ref m13, .ref m14, .ref m15, .ref m16, .ref m17, .ref m18, .ref m19, .ref m20, .int 0, .int 0, .int 0, .int 0, .long 0, .int 0])), (m2, .inr (2, [.int 0, .ref b2, .int 0]))]) (wr := []) (va_runV (As := [.int (xs 1)]) (rest := []) ⟨hx, hb, hml, hown, hts⟩ (g_plan l D cy g0 m0 m1 m2 m3 m4 m5 m6 m7 m8 m9 m10 m11 m12 m13 m14 m15 m16 m17 m18 m19 m20 b2 (xs 1) H.size ) (cwV 1 hts (gzV (gz q781) q780 q782 q783 q285) rfl rfl rfl vX14_plan ⟨Nat.le_of_ble_eq_true rfl, Nat.le_of_ble_eq_true rfl⟩) (zpV (ci := 17) (T := TX14) (N := 27) (q0 := 0) hK hX hY hP hD hS hA [0, 1] (by decide) rfl rfl rfl) rfl rfl hl.1 rfl (lv_room (Nat.le_of_ble_eq_true rfl)) dL_law_2300 ⟨Nat.le_of_ble_eq_true rfl, Nat.le_of_ble_eq_true rfl⟩) hP hD hS hA [0, 1] [] rfl rfl (by decide) (by decide) (fun x8 u7 H locs hw hP hD hS => ?_)
  obtain rfl : x8 = 0 := hw
  have hP : va_P D vwCl [(g0, .inr (17, [.ref m0, .ref m1, .ref m2, .ref m3, .ref m4, .ref m5, .ref m6, .ref m7, .ref m8, .ref m9, .ref m10, .ref m11, .ref m12, .ref m13, .ref m14, .ref m15, .ref m16, .ref m17, .ref m18, .ref m19, .ref m20, .int 1, .int 0, .int 0, .int 0, .long 0, .int 0]))] H := hP
  have hD : va_D A [(g0, .inr (17, [.ref m0, .ref m1, .ref m2, .ref m3, .ref m4, .ref m5, .ref m6, .ref m7, .ref m8, .ref m9, .ref m10, .ref m11, .ref m12, .ref m13, .ref m14, .ref m15, .ref m16, .ref m17, .ref m18, .ref m19, .ref m20, .int 1, .int 0, .int 0, .int 0, .long 0, .int 0]))] := hD
  refine lv_istore (lv' := [(7, .int 0), (6, .int 1), (0, .ref b), (1, .ref x0), (2, .ref g0), (3, .ref o1), (4, .ref o2), (5, .int 0)]) hx hb dL_law_2303 hl (by decide) rfl (fun ls hl => ?_)
  refine lv_aload_n hx hb dL_law_2305 rfl (lv_at hl 4 rfl) ?_
  refine zq_i (wc := [(g0, .inr (17, [.ref m0, .ref m1, .ref m2, .ref m3, .ref m4, .ref m5, .ref m6, .ref m7, .ref m8, .ref m9, .ref m10, .ref m11, .ref m12, .ref m13, .ref m14, .ref m15, .ref m16, .ref m17, .ref m18, .ref m19, .ref m20, .int 1, .int 0, .int 0, .int 0, .long 0, .int 0]))]) (wr := []) (va_runV (As := []) (rest := []) ⟨hx, hb, hml, hown, hts⟩ (k_thrown l D cy g0 m0 m1 m2 m3 m4 m5 m6 m7 m8 m9 m10 m11 m12 m13 m14 m15 m16 m17 m18 m19 m20 1 0 0 0 0 0 H.size ) (cwV 0 hts (gzV (gz q571) q570 q572 q573 q285) rfl rfl rfl vX14_thrown ⟨Nat.le_of_ble_eq_true rfl, Nat.le_of_ble_eq_true rfl⟩) (zpV (ci := 17) (T := TX14) (N := 27) (q0 := 0) hK hX hY hP hD hS hA [0] (by decide) rfl rfl rfl) rfl rfl hl.1 rfl (lv_room (Nat.le_of_ble_eq_true rfl)) dL_law_2306 ⟨Nat.le_of_ble_eq_true rfl, Nat.le_of_ble_eq_true rfl⟩) hP hD hS hA [0] [] rfl rfl (by decide) (by decide) (fun x10 u9 H locs hw hP hD hS => ?_)
  obtain rfl : x10 = 1 := hw
  have hP : va_P D vwCl [(g0, .inr (17, [.ref m0, .ref m1, .ref m2, .ref m3, .ref m4, .ref m5, .ref m6, .ref m7, .ref m8, .ref m9, .ref m10, .ref m11, .ref m12, .ref m13, .ref m14, .ref m15, .ref m16, .ref m17, .ref m18, .ref m19, .ref m20, .int 1, .int 0, .int 0, .int 0, .long 0, .int 0]))] H := hP
  have hD : va_D A [(g0, .inr (17, [.ref m0, .ref m1, .ref m2, .ref m3, .ref m4, .ref m5, .ref m6, .ref m7, .ref m8, .ref m9, .ref m10, .ref m11, .ref m12, .ref m13, .ref m14, .ref m15, .ref m16, .ref m17, .ref m18, .ref m19, .ref m20, .int 1, .int 0, .int 0, .int 0, .long 0, .int 0]))] := hD
  refine lv_iload hx hb dL_law_2309 (lv_at hl 1 rfl) ?_
  refine lv_icmp_eq (tgt := 2316) hx hb dL_law_2311 (by decide) (fun _ => ?_) (fun c_2311_10 => absurd (by decide +kernel) c_2311_10)
  refine lv_iload hx hb dL_law_2316 (lv_at hl 1 rfl) ?_
  refine lv_if_ne (tgt := 2333) hx hb dL_law_2318 (by decide) (fun _ => ?_) (fun c_2318_11 => absurd c_2318_11 (by decide +kernel))
  refine lv_goto (tgt := 2706) hx hb dL_law_2333 (by decide) ?_
  exact W.widen (k := 600006) (n := 7302040) (Nat.le_of_ble_eq_true rfl) (Nat.le_of_ble_eq_true rfl) (kt _ _ _ hS (lv_sub hl [2, 7] rfl))
set_option maxHeartbeats 4000000 in
set_option maxRecDepth 100000 in
theorem c_planAt (l : Launch) {p : Program} {e : Env} {s : State} {m : MethodId} {below : List Frame} {meth : Method} {c : Code} {D : va_G} {cy : Nat → ClassId} {A : Nat → Prop} {b : Nat} {xs : Nat → Int32} {Q : State → Prop} {H : Heap} {locs : List Loc} {ls : Array Slot} (Z : zLaw l p s m c D cy A b 9 xs) (x0 : Nat) (g0 : Nat) (o1 : Nat) (o2 : Nat) (vC : Nat) (vP : Nat) (vT : Nat) (vS : Nat) (vF : Nat) (vN : Nat) (vY : Nat) (m0 : Nat) (m1 : Nat) (m2 : Nat) (m3 : Nat) (m4 : Nat) (m5 : Nat) (m6 : Nat) (m7 : Nat) (m8 : Nat) (m9 : Nat) (m10 : Nat) (m11 : Nat) (m12 : Nat) (m13 : Nat) (m14 : Nat) (m15 : Nat) (m16 : Nat) (m17 : Nat) (m18 : Nat) (m19 : Nat) (m20 : Nat) (b2 : Nat)  (hP : va_P D vwCl [(x0, .inr (12, [.ref vC, .ref vP, .ref vT, .ref vS, .ref vF, .ref vN, .ref vY, .int 0])), (g0, .inr (17, [.ref m0, .ref m1, .ref m2, .ref m3, .ref m4, .ref m5, .ref m6, .ref m7, .ref m8, .ref m9, .ref m10, .ref m11, .ref m12, .ref m13, .ref m14, .ref m15, .ref m16, .ref m17, .ref m18, .ref m19, .ref m20, .int 0, .int 0, .int 0, .int 0, .long 0, .int 0])), (m2, .inr (2, [.int 0, .ref b2, .int 0]))] H) (hD : va_D A [(x0, .inr (12, [.ref vC, .ref vP, .ref vT, .ref vS, .ref vF, .ref vN, .ref vY, .int 0])), (g0, .inr (17, [.ref m0, .ref m1, .ref m2, .ref m3, .ref m4, .ref m5, .ref m6, .ref m7, .ref m8, .ref m9, .ref m10, .ref m11, .ref m12, .ref m13, .ref m14, .ref m15, .ref m16, .ref m17, .ref m18, .ref m19, .ref m20, .int 0, .int 0, .int 0, .int 0, .long 0, .int 0])), (m2, .inr (2, [.int 0, .ref b2, .int 0]))]) (hS : va_S A s.heap H locs) (hl : lv_has ls 9 [(0, .ref b), (1, .ref x0), (2, .ref g0), (3, .ref o1), (4, .ref o2), (5, .int 0)]) (kt : ∀ (H : Heap) (locs : List Loc) (ls : Array Slot), va_S A s.heap H locs → lv_has ls 9 [(0, .ref b), (5, .int 0)] → W p l e room_1 s m #[Value.ref b] below meth c H locs 600006 7302040 Q (F0 m 2706 ls [])) : W p l e room_1 s m #[Value.ref b] below meth c H locs 213 25112 Q (F0 m 2336 ls []) := by
  obtain ⟨hx, hb, hml, hown, hts, hK, hX, hY, hA, hXs, hbl, hbA, hlt⟩ := id Z
  refine lv_aload_n hx hb dL_law_2336 rfl (lv_at hl 1 rfl) ?_
  refine lv_aload_n hx hb dL_law_2337 rfl (lv_at hl 0 rfl) ?_
  refine lv_iload hx hb dL_law_2338 (lv_at hl 5 rfl) ?_
  refine lv_iconst (v := 1) hx hb dL_law_2340 (by decide) ?_
  refine lv_iadd hx hb dL_law_2341 ?_
  refine lv_topi (fun y1 ey1 => ?_)
  obtain rfl : y1 = 1 := ey1.trans (by decide +kernel)
  refine va_sld hx hb hXs hbl hbA hS (z_in 1 (by decide) (by decide)) dL_law_2342 ?_
  refine lv_topi (fun y2 ey2 => ?_)
  obtain rfl : y2 = (xs 1) := ey2.trans rfl
  refine lv_aload_n hx hb dL_law_2343 rfl (lv_at hl 0 rfl) ?_
  refine lv_iload hx hb dL_law_2344 (lv_at hl 5 rfl) ?_
  refine lv_iconst (v := 2) hx hb dL_law_2346 (by decide) ?_
  refine lv_iadd hx hb dL_law_2347 ?_
  refine lv_topi (fun y3 ey3 => ?_)
  obtain rfl : y3 = 2 := ey3.trans (by decide +kernel)
  refine va_sld hx hb hXs hbl hbA hS (z_in 2 (by decide) (by decide)) dL_law_2348 ?_
  refine lv_topi (fun y4 ey4 => ?_)
  obtain rfl : y4 = (xs 2) := ey4.trans rfl
  refine lv_aload_n hx hb dL_law_2349 rfl (lv_at hl 3 rfl) ?_
  refine zq_i (wc := [(x0, .inr (12, [.ref vC, .ref vP, .ref vT, .ref vS, .ref vF, .ref vN, .ref vY, .int 0]))]) (wr := [(g0, .inr (17, [.ref m0, .ref m1, .ref m2, .ref m3, .ref m4, .ref m5, .ref m6, .ref m7, .ref m8, .ref m9, .ref m10, .ref m11, .ref m12, .ref m13, .ref m14, .ref m15, .ref m16, .ref m17, .ref m18, .ref m19, .ref m20, .int 0, .int 0, .int 0, .int 0, .long 0, .int 0])), (m2, .inr (2, [.int 0, .ref b2, .int 0]))]) (vx_runSW (As := [.ref x0, .int (xs 1), .int (xs 2), .ref o1]) (rest := []) ⟨hx, hb, hml, hown, hts⟩ (w_planAt l hlt D cy x0 vC vP vT vS vF vN vY (xs 1) (xs 2) o1 H.size ) (vx_cwSW 4 hts (gzS (gzW q785) q784 q786 q565) rfl rfl rfl vL_planAt.2 ⟨Nat.le_of_ble_eq_true rfl, Nat.le_of_ble_eq_true rfl⟩) (zpS hK hX hY hP hD hS hA [0] (by decide) rfl) rfl rfl hl.1 rfl (lv_room (Nat.le_of_ble_eq_true rfl)) dL_law_2350 ⟨Nat.le_of_ble_eq_true rfl, Nat.le_of_ble_eq_true rfl⟩) hP hD hS hA [0] [1, 2] rfl rfl (by decide) (by decide) (fun x6 u5 H locs hw hP hD hS => ?_)
  obtain rfl : x6 = 1 := hw
  have hP : va_P D vwCl [(g0, .inr (17, [.ref m0, .ref m1, .ref m2, .ref m3, .ref m4, .ref m5, .ref m6, .ref m7, .ref m8, .ref m9, .ref m10, .ref m11, .ref m12, .ref m13, .ref m14, .ref m15, .ref m16, .ref m17, .ref m18, .ref m19, .ref m20, .int 0, .int 0, .int 0, .int 0, .long 0, .int 0])), (m2, .inr (2, [.int 0, .ref b2, .int 0]))] H := hP
  have hD : va_D A [(g0, .inr (17, [.ref m0, .ref m1, .ref m2, .ref m3, .ref m4, .ref m5, .ref m6, .ref m7, .ref m8, .ref m9, .ref m10, .ref m11, .ref m12, .ref m13, .ref m14, .ref m15, .ref m16, .ref m17, .ref m18, .ref m19, .ref m20, .int 0, .int 0, .int 0, .int 0, .long 0, .int 0])), (m2, .inr (2, [.int 0, .ref b2, .int 0]))] := hD
  refine W.widen (k := 214) (n := 25118) (by omega) (by omega) ?_
  refine lv_istore (lv' := [(6, .int 1), (0, .ref b), (1, .ref x0), (2, .ref g0), (3, .ref o1), (4, .ref o2), (5, .int 0)]) hx hb dL_law_2353 hl (by decide) rfl (fun ls hl => ?_)
  refine lv_aload_n hx hb dL_law_2355 rfl (lv_at hl 3 rfl) ?_
  refine lv_aload_n hx hb dL_law_2356 rfl (lv_at hl 1 rfl) ?_
  refine lv_iload hx hb dL_law_2357 (lv_at hl 6 rfl) ?_
  refine lv_iconst (v := 1) hx hb dL_law_2359 (by decide) ?_
  refine lv_iadd hx hb dL_law_2360 ?_
  refine lv_topi (fun y7 ey7 => ?_)
  obtain rfl : y7 = 1 := ey7.trans (by decide +kernel)
  refine va_sld hx hb hXs hbl hbA hS (z_in 1 (by decide) (by decide)) dL_law_2361 ?_
  refine lv_topi (fun y8 ey8 => ?_)
  obtain rfl : y8 = (xs 1) := ey8.trans rfl
  refine lv_aload_n hx hb dL_law_2362 rfl (lv_at hl 1 rfl) ?_
  refine lv_iload hx hb dL_law_2363 (lv_at hl 6 rfl) ?_
  refine lv_iconst (v := 2) hx hb dL_law_2365 (by decide) ?_
  refine lv_iadd hx hb dL_law_2366 ?_
  refine lv_topi (fun y9 ey9 => ?_)
  obtain rfl : y9 = 2 := ey9.trans (by decide +kernel)
  refine va_sld hx hb hXs hbl hbA hS (z_in 2 (by decide) (by decide)) dL_law_2367 ?_
  refine lv_topi (fun y10 ey10 => ?_)
  obtain rfl : y10 = (xs 2) := ey10.trans rfl
  refine zq_i (wc := [(g0, .inr (17, [.ref m0, .ref m1, .ref m2, .ref m3, .ref m4, .ref m5, .ref m6, .ref m7, .ref m8, .ref m9, .ref m10, .ref m11, .ref m12, .ref m13, .ref m14, .ref m15, .ref m16, .ref m17, .ref m18, .ref m19, .ref m20, .int 0, .int 0, .int 0, .int 0, .long 0, .int 0])), (m2, .inr (2, [.int 0, .ref b2, .int 0]))]) (wr := []) (va_runV (As := [.int (xs 1), .int (xs 2)]) (rest := []) ⟨hx, hb, hml, hown, hts⟩ (g_planAt l D cy g0 m0 m1 m2 m3 m4 m5 m6 m7 m8 m9 m10 m11 m12 m13 m14 m15 m16 m17 m18 m19 m20 b2 (xs 1) (xs 2) H.size ) (cwV 2 hts (gzV (gz q788) q787 q789 q790 q285) rfl rfl rfl vX14_planAt ⟨Nat.le_of_ble_eq_true rfl, Nat.le_of_ble_eq_true rfl⟩) (zpV (ci := 17) (T := TX14) (N := 27) (q0 := 0) hK hX hY hP hD hS hA [0, 1] (by decide) rfl rfl rfl) rfl rfl hl.1 rfl (lv_room (Nat.le_of_ble_eq_true rfl)) dL_law_2368 ⟨Nat.le_of_ble_eq_true rfl, Nat.le_of_ble_eq_true rfl⟩) hP hD hS hA [0, 1] [] rfl rfl (by decide) (by decide) (fun x12 u11 H locs hw hP hD hS => ?_)
  obtain rfl : x12 = 0 := hw
  have hP : va_P D vwCl [(g0, .inr (17, [.ref m0, .ref m1, .ref m2, .ref m3, .ref m4, .ref m5, .ref m6, .ref m7, .ref m8, .ref m9, .ref m10, .ref m11, .ref m12, .ref m13, .ref m14, .ref m15, .ref m16, .ref m17, .ref m18, .ref m19, .ref m20, .int 1, .int 0, .int 0, .int 0, .long 0, .int 0]))] H := hP
  have hD : va_D A [(g0, .inr (17, [.ref m0, .ref m1, .ref m2, .ref m3, .ref m4, .ref m5, .ref m6, .ref m7, .ref m8, .ref m9, .ref m10, .ref m11, .ref m12, .ref m13, .ref m14, .ref m15, .ref m16, .ref m17, .ref m18, .ref m19, .ref m20, .int 1, .int 0, .int 0, .int 0, .long 0, .int 0]))] := hD
  refine lv_istore (lv' := [(7, .int 0), (6, .int 1), (0, .ref b), (1, .ref x0), (2, .ref g0), (3, .ref o1), (4, .ref o2), (5, .int 0)]) hx hb dL_law_2371 hl (by decide) rfl (fun ls hl => ?_)
  refine lv_aload_n hx hb dL_law_2373 rfl (lv_at hl 4 rfl) ?_
  refine zq_i (wc := [(g0, .inr (17, [.ref m0, .ref m1, .ref m2, .ref m3, .ref m4, .ref m5, .ref m6, .ref m7, .ref m8, .ref m9, .ref m10, .ref m11, .ref m12, .ref m13, .ref m14, .ref m15, .ref m16, .ref m17, .ref m18, .ref m19, .ref m20, .int 1, .int 0, .int 0, .int 0, .long 0, .int 0]))]) (wr := []) (va_runV (As := []) (rest := []) ⟨hx, hb, hml, hown, hts⟩ (k_thrown l D cy g0 m0 m1 m2 m3 m4 m5 m6 m7 m8 m9 m10 m11 m12 m13 m14 m15 m16 m17 m18 m19 m20 1 0 0 0 0 0 H.size ) (cwV 0 hts (gzV (gz q571) q570 q572 q573 q285) rfl rfl rfl vX14_thrown ⟨Nat.le_of_ble_eq_true rfl, Nat.le_of_ble_eq_true rfl⟩) (zpV (ci := 17) (T := TX14) (N := 27) (q0 := 0) hK hX hY hP hD hS hA [0] (by decide) rfl rfl rfl) rfl rfl hl.1 rfl (lv_room (Nat.le_of_ble_eq_true rfl)) dL_law_2374 ⟨Nat.le_of_ble_eq_true rfl, Nat.le_of_ble_eq_true rfl⟩) hP hD hS hA [0] [] rfl rfl (by decide) (by decide) (fun x14 u13 H locs hw hP hD hS => ?_)
  obtain rfl : x14 = 1 := hw
  have hP : va_P D vwCl [(g0, .inr (17, [.ref m0, .ref m1, .ref m2, .ref m3, .ref m4, .ref m5, .ref m6, .ref m7, .ref m8, .ref m9, .ref m10, .ref m11, .ref m12, .ref m13, .ref m14, .ref m15, .ref m16, .ref m17, .ref m18, .ref m19, .ref m20, .int 1, .int 0, .int 0, .int 0, .long 0, .int 0]))] H := hP
  have hD : va_D A [(g0, .inr (17, [.ref m0, .ref m1, .ref m2, .ref m3, .ref m4, .ref m5, .ref m6, .ref m7, .ref m8, .ref m9, .ref m10, .ref m11, .ref m12, .ref m13, .ref m14, .ref m15, .ref m16, .ref m17, .ref m18, .ref m19, .ref m20, .int 1, .int 0, .int 0, .int 0, .long 0, .int 0]))] := hD
  refine lv_iload hx hb dL_law_2377 (lv_at hl 1 rfl) ?_
  refine lv_icmp_eq (tgt := 2384) hx hb dL_law_2379 (by decide) (fun _ => ?_) (fun c_2379_14 => absurd (by decide +kernel) c_2379_14)
  refine lv_iload hx hb dL_law_2384 (lv_at hl 1 rfl) ?_
  refine lv_if_ne (tgt := 2401) hx hb dL_law_2386 (by decide) (fun _ => ?_) (fun c_2386_15 => absurd c_2386_15 (by decide +kernel))
  refine lv_goto (tgt := 2706) hx hb dL_law_2401 (by decide) ?_
  exact W.widen (k := 600006) (n := 7302040) (Nat.le_of_ble_eq_true rfl) (Nat.le_of_ble_eq_true rfl) (kt _ _ _ hS (lv_sub hl [2, 7] rfl))
set_option maxHeartbeats 4000000 in
set_option maxRecDepth 100000 in
theorem c_lastChance (l : Launch) {p : Program} {e : Env} {s : State} {m : MethodId} {below : List Frame} {meth : Method} {c : Code} {D : va_G} {cy : Nat → ClassId} {A : Nat → Prop} {b : Nat} {xs : Nat → Int32} {Q : State → Prop} {H : Heap} {locs : List Loc} {ls : Array Slot} (Z : zLaw l p s m c D cy A b 9 xs) (x0 : Nat) (g0 : Nat) (o1 : Nat) (o2 : Nat) (vC : Nat) (vP : Nat) (vT : Nat) (vS : Nat) (vF : Nat) (vN : Nat) (vY : Nat) (m0 : Nat) (m1 : Nat) (m2 : Nat) (m3 : Nat) (m4 : Nat) (m5 : Nat) (m6 : Nat) (m7 : Nat) (m8 : Nat) (m9 : Nat) (m10 : Nat) (m11 : Nat) (m12 : Nat) (m13 : Nat) (m14 : Nat) (m15 : Nat) (m16 : Nat) (m17 : Nat) (m18 : Nat) (m19 : Nat) (m20 : Nat) (b2 : Nat)  (hP : va_P D vwCl [(x0, .inr (12, [.ref vC, .ref vP, .ref vT, .ref vS, .ref vF, .ref vN, .ref vY, .int 0])), (g0, .inr (17, [.ref m0, .ref m1, .ref m2, .ref m3, .ref m4, .ref m5, .ref m6, .ref m7, .ref m8, .ref m9, .ref m10, .ref m11, .ref m12, .ref m13, .ref m14, .ref m15, .ref m16, .ref m17, .ref m18, .ref m19, .ref m20, .int 0, .int 0, .int 0, .int 0, .long 0, .int 0])), (m2, .inr (2, [.int 0, .ref b2, .int 0]))] H) (hD : va_D A [(x0, .inr (12, [.ref vC, .ref vP, .ref vT, .ref vS, .ref vF, .ref vN, .ref vY, .int 0])), (g0, .inr (17, [.ref m0, .ref m1, .ref m2, .ref m3, .ref m4, .ref m5, .ref m6, .ref m7, .ref m8, .ref m9, .ref m10, .ref m11, .ref m12, .ref m13, .ref m14, .ref m15, .ref m16, .ref m17, .ref m18, .ref m19, .ref m20, .int 0, .int 0, .int 0, .int 0, .long 0, .int 0])), (m2, .inr (2, [.int 0, .ref b2, .int 0]))]) (hS : va_S A s.heap H locs) (hl : lv_has ls 9 [(0, .ref b), (1, .ref x0), (2, .ref g0), (3, .ref o1), (4, .ref o2), (5, .int 0)]) (kt : ∀ (H : Heap) (locs : List Loc) (ls : Array Slot), va_S A s.heap H locs → lv_has ls 9 [(0, .ref b), (5, .int 0)] → W p l e room_1 s m #[Value.ref b] below meth c H locs 600006 7302040 Q (F0 m 2706 ls [])) : W p l e room_1 s m #[Value.ref b] below meth c H locs 213 25112 Q (F0 m 2404 ls []) := by
  obtain ⟨hx, hb, hml, hown, hts, hK, hX, hY, hA, hXs, hbl, hbA, hlt⟩ := id Z
  refine lv_aload_n hx hb dL_law_2404 rfl (lv_at hl 1 rfl) ?_
  refine lv_aload_n hx hb dL_law_2405 rfl (lv_at hl 0 rfl) ?_
  refine lv_iload hx hb dL_law_2406 (lv_at hl 5 rfl) ?_
  refine lv_iconst (v := 1) hx hb dL_law_2408 (by decide) ?_
  refine lv_iadd hx hb dL_law_2409 ?_
  refine lv_topi (fun y1 ey1 => ?_)
  obtain rfl : y1 = 1 := ey1.trans (by decide +kernel)
  refine va_sld hx hb hXs hbl hbA hS (z_in 1 (by decide) (by decide)) dL_law_2410 ?_
  refine lv_topi (fun y2 ey2 => ?_)
  obtain rfl : y2 = (xs 1) := ey2.trans rfl
  refine lv_aload_n hx hb dL_law_2411 rfl (lv_at hl 3 rfl) ?_
  refine zq_i (wc := [(x0, .inr (12, [.ref vC, .ref vP, .ref vT, .ref vS, .ref vF, .ref vN, .ref vY, .int 0]))]) (wr := [(g0, .inr (17, [.ref m0, .ref m1, .ref m2, .ref m3, .ref m4, .ref m5, .ref m6, .ref m7, .ref m8, .ref m9, .ref m10, .ref m11, .ref m12, .ref m13, .ref m14, .ref m15, .ref m16, .ref m17, .ref m18, .ref m19, .ref m20, .int 0, .int 0, .int 0, .int 0, .long 0, .int 0])), (m2, .inr (2, [.int 0, .ref b2, .int 0]))]) (vx_runSW (As := [.ref x0, .int (xs 1), .ref o1]) (rest := []) ⟨hx, hb, hml, hown, hts⟩ (w_lastChance l hlt D cy x0 vC vP vT vS vF vN vY (xs 1) o1 H.size ) (vx_cwSW 3 hts (gzS (gzW q792) q791 q793 q565) rfl rfl rfl vL_lastChance.2 ⟨Nat.le_of_ble_eq_true rfl, Nat.le_of_ble_eq_true rfl⟩) (zpS hK hX hY hP hD hS hA [0] (by decide) rfl) rfl rfl hl.1 rfl (lv_room (Nat.le_of_ble_eq_true rfl)) dL_law_2412 ⟨Nat.le_of_ble_eq_true rfl, Nat.le_of_ble_eq_true rfl⟩) hP hD hS hA [0] [1, 2] rfl rfl (by decide) (by decide) (fun x4 u3 H locs hw hP hD hS => ?_)
  obtain rfl : x4 = 1 := hw
  have hP : va_P D vwCl [(g0, .inr (17, [.ref m0, .ref m1, .ref m2, .ref m3, .ref m4, .ref m5, .ref m6, .ref m7, .ref m8, .ref m9, .ref m10, .ref m11, .ref m12, .ref m13, .ref m14, .ref m15, .ref m16, .ref m17, .ref m18, .ref m19, .ref m20, .int 0, .int 0, .int 0, .int 0, .long 0, .int 0])), (m2, .inr (2, [.int 0, .ref b2, .int 0]))] H := hP
  have hD : va_D A [(g0, .inr (17, [.ref m0, .ref m1, .ref m2, .ref m3, .ref m4, .ref m5, .ref m6, .ref m7, .ref m8, .ref m9, .ref m10, .ref m11, .ref m12, .ref m13, .ref m14, .ref m15, .ref m16, .ref m17, .ref m18, .ref m19, .ref m20, .int 0, .int 0, .int 0, .int 0, .long 0, .int 0])), (m2, .inr (2, [.int 0, .ref b2, .int 0]))] := hD
  refine W.widen (k := 214) (n := 25118) (by omega) (by omega) ?_
  refine lv_istore (lv' := [(6, .int 1), (0, .ref b), (1, .ref x0), (2, .ref g0), (3, .ref o1), (4, .ref o2), (5, .int 0)]) hx hb dL_law_2415 hl (by decide) rfl (fun ls hl => ?_)
  refine lv_aload_n hx hb dL_law_2417 rfl (lv_at hl 3 rfl) ?_
  refine lv_aload_n hx hb dL_law_2418 rfl (lv_at hl 1 rfl) ?_
  refine lv_iload hx hb dL_law_2419 (lv_at hl 6 rfl) ?_
  refine lv_iconst (v := 1) hx hb dL_law_2421 (by decide) ?_
  refine lv_iadd hx hb dL_law_2422 ?_
  refine lv_topi (fun y5 ey5 => ?_)
  obtain rfl : y5 = 1 := ey5.trans (by decide +kernel)
  refine va_sld hx hb hXs hbl hbA hS (z_in 1 (by decide) (by decide)) dL_law_2423 ?_
  refine lv_topi (fun y6 ey6 => ?_)
  obtain rfl : y6 = (xs 1) := ey6.trans rfl
  refine zq_i (wc := [(g0, .inr (17, [.ref m0, .ref m1, .ref m2, .ref m3, .ref m4, .ref m5, .ref m6, .ref m7, .ref m8, .ref m9, .ref m10, .ref m11, .ref m12, .ref m13, .ref m14, .ref m15, .ref m16, .ref m17, .ref m18, .ref m19, .ref m20, .int 0, .int 0, .int 0, .int 0, .long 0, .int 0])), (m2, .inr (2, [.int 0, .ref b2, .int 0]))]) (wr := []) (va_runV (As := [.int (xs 1)]) (rest := []) ⟨hx, hb, hml, hown, hts⟩ (g_lastChance l D cy g0 m0 m1 m2 m3 m4 m5 m6 m7 m8 m9 m10 m11 m12 m13 m14 m15 m16 m17 m18 m19 m20 b2 (xs 1) H.size ) (cwV 1 hts (gzV (gz q795) q794 q796 q797 q285) rfl rfl rfl vX14_lastChance ⟨Nat.le_of_ble_eq_true rfl, Nat.le_of_ble_eq_true rfl⟩) (zpV (ci := 17) (T := TX14) (N := 27) (q0 := 0) hK hX hY hP hD hS hA [0, 1] (by decide) rfl rfl rfl) rfl rfl hl.1 rfl (lv_room (Nat.le_of_ble_eq_true rfl)) dL_law_2424 ⟨Nat.le_of_ble_eq_true rfl, Nat.le_of_ble_eq_true rfl⟩) hP hD hS hA [0, 1] [] rfl rfl (by decide) (by decide) (fun x8 u7 H locs hw hP hD hS => ?_)
  obtain rfl : x8 = 0 := hw
  have hP : va_P D vwCl [(g0, .inr (17, [.ref m0, .ref m1, .ref m2, .ref m3, .ref m4, .ref m5, .ref m6, .ref m7, .ref m8, .ref m9, .ref m10, .ref m11, .ref m12, .ref m13, .ref m14, .ref m15, .ref m16, .ref m17, .ref m18, .ref m19, .ref m20, .int 1, .int 0, .int 0, .int 0, .long 0, .int 0]))] H := hP
  have hD : va_D A [(g0, .inr (17, [.ref m0, .ref m1, .ref m2, .ref m3, .ref m4, .ref m5, .ref m6, .ref m7, .ref m8, .ref m9, .ref m10, .ref m11, .ref m12, .ref m13, .ref m14, .ref m15, .ref m16, .ref m17, .ref m18, .ref m19, .ref m20, .int 1, .int 0, .int 0, .int 0, .long 0, .int 0]))] := hD
  refine lv_istore (lv' := [(7, .int 0), (6, .int 1), (0, .ref b), (1, .ref x0), (2, .ref g0), (3, .ref o1), (4, .ref o2), (5, .int 0)]) hx hb dL_law_2427 hl (by decide) rfl (fun ls hl => ?_)
  refine lv_aload_n hx hb dL_law_2429 rfl (lv_at hl 4 rfl) ?_
  refine zq_i (wc := [(g0, .inr (17, [.ref m0, .ref m1, .ref m2, .ref m3, .ref m4, .ref m5, .ref m6, .ref m7, .ref m8, .ref m9, .ref m10, .ref m11, .ref m12, .ref m13, .ref m14, .ref m15, .ref m16, .ref m17, .ref m18, .ref m19, .ref m20, .int 1, .int 0, .int 0, .int 0, .long 0, .int 0]))]) (wr := []) (va_runV (As := []) (rest := []) ⟨hx, hb, hml, hown, hts⟩ (k_thrown l D cy g0 m0 m1 m2 m3 m4 m5 m6 m7 m8 m9 m10 m11 m12 m13 m14 m15 m16 m17 m18 m19 m20 1 0 0 0 0 0 H.size ) (cwV 0 hts (gzV (gz q571) q570 q572 q573 q285) rfl rfl rfl vX14_thrown ⟨Nat.le_of_ble_eq_true rfl, Nat.le_of_ble_eq_true rfl⟩) (zpV (ci := 17) (T := TX14) (N := 27) (q0 := 0) hK hX hY hP hD hS hA [0] (by decide) rfl rfl rfl) rfl rfl hl.1 rfl (lv_room (Nat.le_of_ble_eq_true rfl)) dL_law_2430 ⟨Nat.le_of_ble_eq_true rfl, Nat.le_of_ble_eq_true rfl⟩) hP hD hS hA [0] [] rfl rfl (by decide) (by decide) (fun x10 u9 H locs hw hP hD hS => ?_)
  obtain rfl : x10 = 1 := hw
  have hP : va_P D vwCl [(g0, .inr (17, [.ref m0, .ref m1, .ref m2, .ref m3, .ref m4, .ref m5, .ref m6, .ref m7, .ref m8, .ref m9, .ref m10, .ref m11, .ref m12, .ref m13, .ref m14, .ref m15, .ref m16, .ref m17, .ref m18, .ref m19, .ref m20, .int 1, .int 0, .int 0, .int 0, .long 0, .int 0]))] H := hP
  have hD : va_D A [(g0, .inr (17, [.ref m0, .ref m1, .ref m2, .ref m3, .ref m4, .ref m5, .ref m6, .ref m7, .ref m8, .ref m9, .ref m10, .ref m11, .ref m12, .ref m13, .ref m14, .ref m15, .ref m16, .ref m17, .ref m18, .ref m19, .ref m20, .int 1, .int 0, .int 0, .int 0, .long 0, .int 0]))] := hD
  refine lv_iload hx hb dL_law_2433 (lv_at hl 1 rfl) ?_
  refine lv_icmp_eq (tgt := 2440) hx hb dL_law_2435 (by decide) (fun _ => ?_) (fun c_2435_10 => absurd (by decide +kernel) c_2435_10)
  refine lv_iload hx hb dL_law_2440 (lv_at hl 1 rfl) ?_
  refine lv_if_ne (tgt := 2457) hx hb dL_law_2442 (by decide) (fun _ => ?_) (fun c_2442_11 => absurd c_2442_11 (by decide +kernel))
  refine lv_goto (tgt := 2706) hx hb dL_law_2457 (by decide) ?_
  exact W.widen (k := 600006) (n := 7302040) (Nat.le_of_ble_eq_true rfl) (Nat.le_of_ble_eq_true rfl) (kt _ _ _ hS (lv_sub hl [2, 7] rfl))
set_option maxHeartbeats 4000000 in
set_option maxRecDepth 100000 in
theorem c_stations (l : Launch) {p : Program} {e : Env} {s : State} {m : MethodId} {below : List Frame} {meth : Method} {c : Code} {D : va_G} {cy : Nat → ClassId} {A : Nat → Prop} {b : Nat} {xs : Nat → Int32} {Q : State → Prop} {H : Heap} {locs : List Loc} {ls : Array Slot} (Z : zLaw l p s m c D cy A b 9 xs) (x0 : Nat) (g0 : Nat) (o1 : Nat) (o2 : Nat) (vC : Nat) (vP : Nat) (vT : Nat) (vS : Nat) (vF : Nat) (vN : Nat) (vY : Nat) (sS : Nat) (sJ : Nat) (m0 : Nat) (m1 : Nat) (m2 : Nat) (m3 : Nat) (m4 : Nat) (m5 : Nat) (m6 : Nat) (m7 : Nat) (m8 : Nat) (m9 : Nat) (m10 : Nat) (m11 : Nat) (m12 : Nat) (m13 : Nat) (m14 : Nat) (m15 : Nat) (m16 : Nat) (m17 : Nat) (m18 : Nat) (m19 : Nat) (m20 : Nat)  (hP : va_P D vwCl [(x0, .inr (12, [.ref vC, .ref vP, .ref vT, .ref vS, .ref vF, .ref vN, .ref vY, .int 0])), (vC, .inr (3, [.ref sS, .ref sJ, .int 0, .int 0])), (g0, .inr (17, [.ref m0, .ref m1, .ref m2, .ref m3, .ref m4, .ref m5, .ref m6, .ref m7, .ref m8, .ref m9, .ref m10, .ref m11, .ref m12, .ref m13, .ref m14, .ref m15, .ref m16, .ref m17, .ref m18, .ref m19, .ref m20, .int 0, .int 0, .int 0, .int 0, .long 0, .int 0]))] H) (hD : va_D A [(x0, .inr (12, [.ref vC, .ref vP, .ref vT, .ref vS, .ref vF, .ref vN, .ref vY, .int 0])), (vC, .inr (3, [.ref sS, .ref sJ, .int 0, .int 0])), (g0, .inr (17, [.ref m0, .ref m1, .ref m2, .ref m3, .ref m4, .ref m5, .ref m6, .ref m7, .ref m8, .ref m9, .ref m10, .ref m11, .ref m12, .ref m13, .ref m14, .ref m15, .ref m16, .ref m17, .ref m18, .ref m19, .ref m20, .int 0, .int 0, .int 0, .int 0, .long 0, .int 0]))]) (hS : va_S A s.heap H locs) (hl : lv_has ls 9 [(0, .ref b), (1, .ref x0), (2, .ref g0), (3, .ref o1), (4, .ref o2), (5, .int 0)]) (kt : ∀ (H : Heap) (locs : List Loc) (ls : Array Slot), va_S A s.heap H locs → lv_has ls 9 [(0, .ref b), (5, .int 0)] → W p l e room_1 s m #[Value.ref b] below meth c H locs 600006 7302040 Q (F0 m 2706 ls [])) : W p l e room_1 s m #[Value.ref b] below meth c H locs 213 25112 Q (F0 m 2460 ls []) := by
  obtain ⟨hx, hb, hml, hown, hts, hK, hX, hY, hA, hXs, hbl, hbA, hlt⟩ := id Z
  refine lv_aload_n hx hb dL_law_2460 rfl (lv_at hl 1 rfl) ?_
  refine zq_i (wc := [(x0, .inr (12, [.ref vC, .ref vP, .ref vT, .ref vS, .ref vF, .ref vN, .ref vY, .int 0])), (vC, .inr (3, [.ref sS, .ref sJ, .int 0, .int 0]))]) (wr := [(g0, .inr (17, [.ref m0, .ref m1, .ref m2, .ref m3, .ref m4, .ref m5, .ref m6, .ref m7, .ref m8, .ref m9, .ref m10, .ref m11, .ref m12, .ref m13, .ref m14, .ref m15, .ref m16, .ref m17, .ref m18, .ref m19, .ref m20, .int 0, .int 0, .int 0, .int 0, .long 0, .int 0]))]) (va_runV (As := []) (rest := []) ⟨hx, hb, hml, hown, hts⟩ (f_stations l D cy x0 vC vP vT vS vF vN vY sS sJ H.size ) (cwV 0 hts (gzV (gz q799) q798 q800 q801 q174) rfl rfl rfl vX9_stations ⟨Nat.le_of_ble_eq_true rfl, Nat.le_of_ble_eq_true rfl⟩) (zpV (ci := 12) (T := TX9) (N := 8) (q0 := 0) hK hX hY hP hD hS hA [0, 1] (by decide) rfl rfl rfl) rfl rfl hl.1 rfl (lv_room (Nat.le_of_ble_eq_true rfl)) dL_law_2461 ⟨Nat.le_of_ble_eq_true rfl, Nat.le_of_ble_eq_true rfl⟩) hP hD hS hA [0, 1] [2] rfl rfl (by decide) (by decide) (fun x2 u1 H locs hw hP hD hS => ?_)
  obtain rfl : x2 = 0 := hw
  have hP : va_P D vwCl [(g0, .inr (17, [.ref m0, .ref m1, .ref m2, .ref m3, .ref m4, .ref m5, .ref m6, .ref m7, .ref m8, .ref m9, .ref m10, .ref m11, .ref m12, .ref m13, .ref m14, .ref m15, .ref m16, .ref m17, .ref m18, .ref m19, .ref m20, .int 0, .int 0, .int 0, .int 0, .long 0, .int 0]))] H := hP
  have hD : va_D A [(g0, .inr (17, [.ref m0, .ref m1, .ref m2, .ref m3, .ref m4, .ref m5, .ref m6, .ref m7, .ref m8, .ref m9, .ref m10, .ref m11, .ref m12, .ref m13, .ref m14, .ref m15, .ref m16, .ref m17, .ref m18, .ref m19, .ref m20, .int 0, .int 0, .int 0, .int 0, .long 0, .int 0]))] := hD
  refine lv_aload_n hx hb dL_law_2464 rfl (lv_at hl 2 rfl) ?_
  refine zq_i (wc := [(g0, .inr (17, [.ref m0, .ref m1, .ref m2, .ref m3, .ref m4, .ref m5, .ref m6, .ref m7, .ref m8, .ref m9, .ref m10, .ref m11, .ref m12, .ref m13, .ref m14, .ref m15, .ref m16, .ref m17, .ref m18, .ref m19, .ref m20, .int 0, .int 0, .int 0, .int 0, .long 0, .int 0]))]) (wr := []) (va_runV (As := []) (rest := [.int 0]) ⟨hx, hb, hml, hown, hts⟩ (g_stations l D cy g0 m0 m1 m2 m3 m4 m5 m6 m7 m8 m9 m10 m11 m12 m13 m14 m15 m16 m17 m18 m19 m20 H.size ) (cwV 0 hts (gzV (gz q803) q802 q804 q805 q285) rfl rfl rfl vX14_stations ⟨Nat.le_of_ble_eq_true rfl, Nat.le_of_ble_eq_true rfl⟩) (zpV (ci := 17) (T := TX14) (N := 27) (q0 := 0) hK hX hY hP hD hS hA [0] (by decide) rfl rfl rfl) rfl rfl hl.1 rfl (lv_room (Nat.le_of_ble_eq_true rfl)) dL_law_2465 ⟨Nat.le_of_ble_eq_true rfl, Nat.le_of_ble_eq_true rfl⟩) hP hD hS hA [0] [] rfl rfl (by decide) (by decide) (fun x4 u3 H locs hw hP hD hS => ?_)
  obtain rfl : x4 = 0 := hw
  have hP : va_P D vwCl [(g0, .inr (17, [.ref m0, .ref m1, .ref m2, .ref m3, .ref m4, .ref m5, .ref m6, .ref m7, .ref m8, .ref m9, .ref m10, .ref m11, .ref m12, .ref m13, .ref m14, .ref m15, .ref m16, .ref m17, .ref m18, .ref m19, .ref m20, .int 0, .int 0, .int 0, .int 0, .long 0, .int 0]))] H := hP
  have hD : va_D A [(g0, .inr (17, [.ref m0, .ref m1, .ref m2, .ref m3, .ref m4, .ref m5, .ref m6, .ref m7, .ref m8, .ref m9, .ref m10, .ref m11, .ref m12, .ref m13, .ref m14, .ref m15, .ref m16, .ref m17, .ref m18, .ref m19, .ref m20, .int 0, .int 0, .int 0, .int 0, .long 0, .int 0]))] := hD
  refine lv_icmp_eq (tgt := 2706) hx hb dL_law_2468 (by decide) (fun _ => ?_) (fun c_2468_4 => absurd (by decide +kernel) c_2468_4)
  exact W.widen (k := 600006) (n := 7302040) (Nat.le_of_ble_eq_true rfl) (Nat.le_of_ble_eq_true rfl) (kt _ _ _ hS (lv_sub hl [0, 5] rfl))
set_option maxHeartbeats 4000000 in
set_option maxRecDepth 100000 in
theorem c_shots (l : Launch) {p : Program} {e : Env} {s : State} {m : MethodId} {below : List Frame} {meth : Method} {c : Code} {D : va_G} {cy : Nat → ClassId} {A : Nat → Prop} {b : Nat} {xs : Nat → Int32} {Q : State → Prop} {H : Heap} {locs : List Loc} {ls : Array Slot} (Z : zLaw l p s m c D cy A b 9 xs) (x0 : Nat) (g0 : Nat) (o1 : Nat) (o2 : Nat) (vC : Nat) (vP : Nat) (vT : Nat) (vS : Nat) (vF : Nat) (vN : Nat) (vY : Nat) (sS : Nat) (sJ : Nat) (m0 : Nat) (m1 : Nat) (m2 : Nat) (m3 : Nat) (m4 : Nat) (m5 : Nat) (m6 : Nat) (m7 : Nat) (m8 : Nat) (m9 : Nat) (m10 : Nat) (m11 : Nat) (m12 : Nat) (m13 : Nat) (m14 : Nat) (m15 : Nat) (m16 : Nat) (m17 : Nat) (m18 : Nat) (m19 : Nat) (m20 : Nat) (b1 : Nat)  (hP : va_P D vwCl [(x0, .inr (12, [.ref vC, .ref vP, .ref vT, .ref vS, .ref vF, .ref vN, .ref vY, .int 0])), (vC, .inr (3, [.ref sS, .ref sJ, .int 0, .int 0])), (g0, .inr (17, [.ref m0, .ref m1, .ref m2, .ref m3, .ref m4, .ref m5, .ref m6, .ref m7, .ref m8, .ref m9, .ref m10, .ref m11, .ref m12, .ref m13, .ref m14, .ref m15, .ref m16, .ref m17, .ref m18, .ref m19, .ref m20, .int 0, .int 0, .int 0, .int 0, .long 0, .int 0])), (m0, .inr (2, [.int 0, .ref b1, .int 0]))] H) (hD : va_D A [(x0, .inr (12, [.ref vC, .ref vP, .ref vT, .ref vS, .ref vF, .ref vN, .ref vY, .int 0])), (vC, .inr (3, [.ref sS, .ref sJ, .int 0, .int 0])), (g0, .inr (17, [.ref m0, .ref m1, .ref m2, .ref m3, .ref m4, .ref m5, .ref m6, .ref m7, .ref m8, .ref m9, .ref m10, .ref m11, .ref m12, .ref m13, .ref m14, .ref m15, .ref m16, .ref m17, .ref m18, .ref m19, .ref m20, .int 0, .int 0, .int 0, .int 0, .long 0, .int 0])), (m0, .inr (2, [.int 0, .ref b1, .int 0]))]) (hS : va_S A s.heap H locs) (hl : lv_has ls 9 [(0, .ref b), (1, .ref x0), (2, .ref g0), (3, .ref o1), (4, .ref o2), (5, .int 0)]) (kt : ∀ (H : Heap) (locs : List Loc) (ls : Array Slot), va_S A s.heap H locs → lv_has ls 9 [(0, .ref b), (5, .int 0)] → W p l e room_1 s m #[Value.ref b] below meth c H locs 600006 7302040 Q (F0 m 2706 ls [])) : W p l e room_1 s m #[Value.ref b] below meth c H locs 213 25112 Q (F0 m 2473 ls []) := by
  obtain ⟨hx, hb, hml, hown, hts, hK, hX, hY, hA, hXs, hbl, hbA, hlt⟩ := id Z
  refine lv_aload_n hx hb dL_law_2473 rfl (lv_at hl 1 rfl) ?_
  refine zq_i (wc := [(x0, .inr (12, [.ref vC, .ref vP, .ref vT, .ref vS, .ref vF, .ref vN, .ref vY, .int 0])), (vC, .inr (3, [.ref sS, .ref sJ, .int 0, .int 0]))]) (wr := [(g0, .inr (17, [.ref m0, .ref m1, .ref m2, .ref m3, .ref m4, .ref m5, .ref m6, .ref m7, .ref m8, .ref m9, .ref m10, .ref m11, .ref m12, .ref m13, .ref m14, .ref m15, .ref m16, .ref m17, .ref m18, .ref m19, .ref m20, .int 0, .int 0, .int 0, .int 0, .long 0, .int 0])), (m0, .inr (2, [.int 0, .ref b1, .int 0]))]) (va_runV (As := []) (rest := []) ⟨hx, hb, hml, hown, hts⟩ (f_shots l D cy x0 vC vP vT vS vF vN vY sS sJ H.size ) (cwV 0 hts (gzV (gz q807) q806 q808 q809 q174) rfl rfl rfl vX9_shots ⟨Nat.le_of_ble_eq_true rfl, Nat.le_of_ble_eq_true rfl⟩) (zpV (ci := 12) (T := TX9) (N := 8) (q0 := 0) hK hX hY hP hD hS hA [0, 1] (by decide) rfl rfl rfl) rfl rfl hl.1 rfl (lv_room (Nat.le_of_ble_eq_true rfl)) dL_law_2474 ⟨Nat.le_of_ble_eq_true rfl, Nat.le_of_ble_eq_true rfl⟩) hP hD hS hA [0, 1] [2, 3] rfl rfl (by decide) (by decide) (fun x2 u1 H locs hw hP hD hS => ?_)
  obtain rfl : x2 = 0 := hw
  have hP : va_P D vwCl [(g0, .inr (17, [.ref m0, .ref m1, .ref m2, .ref m3, .ref m4, .ref m5, .ref m6, .ref m7, .ref m8, .ref m9, .ref m10, .ref m11, .ref m12, .ref m13, .ref m14, .ref m15, .ref m16, .ref m17, .ref m18, .ref m19, .ref m20, .int 0, .int 0, .int 0, .int 0, .long 0, .int 0])), (m0, .inr (2, [.int 0, .ref b1, .int 0]))] H := hP
  have hD : va_D A [(g0, .inr (17, [.ref m0, .ref m1, .ref m2, .ref m3, .ref m4, .ref m5, .ref m6, .ref m7, .ref m8, .ref m9, .ref m10, .ref m11, .ref m12, .ref m13, .ref m14, .ref m15, .ref m16, .ref m17, .ref m18, .ref m19, .ref m20, .int 0, .int 0, .int 0, .int 0, .long 0, .int 0])), (m0, .inr (2, [.int 0, .ref b1, .int 0]))] := hD
  refine lv_aload_n hx hb dL_law_2477 rfl (lv_at hl 2 rfl) ?_
  refine zq_i (wc := [(g0, .inr (17, [.ref m0, .ref m1, .ref m2, .ref m3, .ref m4, .ref m5, .ref m6, .ref m7, .ref m8, .ref m9, .ref m10, .ref m11, .ref m12, .ref m13, .ref m14, .ref m15, .ref m16, .ref m17, .ref m18, .ref m19, .ref m20, .int 0, .int 0, .int 0, .int 0, .long 0, .int 0])), (m0, .inr (2, [.int 0, .ref b1, .int 0]))]) (wr := []) (va_runV (As := []) (rest := [.int 0]) ⟨hx, hb, hml, hown, hts⟩ (g_shots l D cy g0 m0 m1 m2 m3 m4 m5 m6 m7 m8 m9 m10 m11 m12 m13 m14 m15 m16 m17 m18 m19 m20 b1 H.size ) (cwV 0 hts (gzV (gz q811) q810 q812 q813 q285) rfl rfl rfl vX14_shots ⟨Nat.le_of_ble_eq_true rfl, Nat.le_of_ble_eq_true rfl⟩) (zpV (ci := 17) (T := TX14) (N := 27) (q0 := 0) hK hX hY hP hD hS hA [0, 1] (by decide) rfl rfl rfl) rfl rfl hl.1 rfl (lv_room (Nat.le_of_ble_eq_true rfl)) dL_law_2478 ⟨Nat.le_of_ble_eq_true rfl, Nat.le_of_ble_eq_true rfl⟩) hP hD hS hA [0, 1] [] rfl rfl (by decide) (by decide) (fun x4 u3 H locs hw hP hD hS => ?_)
  obtain rfl : x4 = 0 := hw
  have hP : va_P D vwCl [(g0, .inr (17, [.ref m0, .ref m1, .ref m2, .ref m3, .ref m4, .ref m5, .ref m6, .ref m7, .ref m8, .ref m9, .ref m10, .ref m11, .ref m12, .ref m13, .ref m14, .ref m15, .ref m16, .ref m17, .ref m18, .ref m19, .ref m20, .int 0, .int 0, .int 0, .int 0, .long 0, .int 0]))] H := hP
  have hD : va_D A [(g0, .inr (17, [.ref m0, .ref m1, .ref m2, .ref m3, .ref m4, .ref m5, .ref m6, .ref m7, .ref m8, .ref m9, .ref m10, .ref m11, .ref m12, .ref m13, .ref m14, .ref m15, .ref m16, .ref m17, .ref m18, .ref m19, .ref m20, .int 0, .int 0, .int 0, .int 0, .long 0, .int 0]))] := hD
  refine lv_icmp_eq (tgt := 2706) hx hb dL_law_2481 (by decide) (fun _ => ?_) (fun c_2481_4 => absurd (by decide +kernel) c_2481_4)
  exact W.widen (k := 600006) (n := 7302040) (Nat.le_of_ble_eq_true rfl) (Nat.le_of_ble_eq_true rfl) (kt _ _ _ hS (lv_sub hl [0, 5] rfl))
set_option maxHeartbeats 4000000 in
set_option maxRecDepth 100000 in
theorem c_allSteps (l : Launch) {p : Program} {e : Env} {s : State} {m : MethodId} {below : List Frame} {meth : Method} {c : Code} {D : va_G} {cy : Nat → ClassId} {A : Nat → Prop} {b : Nat} {xs : Nat → Int32} {Q : State → Prop} {H : Heap} {locs : List Loc} {ls : Array Slot} (Z : zLaw l p s m c D cy A b 9 xs) (x0 : Nat) (g0 : Nat) (o1 : Nat) (o2 : Nat) (vC : Nat) (vP : Nat) (vT : Nat) (vS : Nat) (vF : Nat) (vN : Nat) (vY : Nat) (sS : Nat) (sJ : Nat) (m0 : Nat) (m1 : Nat) (m2 : Nat) (m3 : Nat) (m4 : Nat) (m5 : Nat) (m6 : Nat) (m7 : Nat) (m8 : Nat) (m9 : Nat) (m10 : Nat) (m11 : Nat) (m12 : Nat) (m13 : Nat) (m14 : Nat) (m15 : Nat) (m16 : Nat) (m17 : Nat) (m18 : Nat) (m19 : Nat) (m20 : Nat) (b1 : Nat)  (hP : va_P D vwCl [(x0, .inr (12, [.ref vC, .ref vP, .ref vT, .ref vS, .ref vF, .ref vN, .ref vY, .int 0])), (vC, .inr (3, [.ref sS, .ref sJ, .int 0, .int 0])), (g0, .inr (17, [.ref m0, .ref m1, .ref m2, .ref m3, .ref m4, .ref m5, .ref m6, .ref m7, .ref m8, .ref m9, .ref m10, .ref m11, .ref m12, .ref m13, .ref m14, .ref m15, .ref m16, .ref m17, .ref m18, .ref m19, .ref m20, .int 0, .int 0, .int 0, .int 0, .long 0, .int 0])), (m0, .inr (2, [.int 0, .ref b1, .int 0]))] H) (hD : va_D A [(x0, .inr (12, [.ref vC, .ref vP, .ref vT, .ref vS, .ref vF, .ref vN, .ref vY, .int 0])), (vC, .inr (3, [.ref sS, .ref sJ, .int 0, .int 0])), (g0, .inr (17, [.ref m0, .ref m1, .ref m2, .ref m3, .ref m4, .ref m5, .ref m6, .ref m7, .ref m8, .ref m9, .ref m10, .ref m11, .ref m12, .ref m13, .ref m14, .ref m15, .ref m16, .ref m17, .ref m18, .ref m19, .ref m20, .int 0, .int 0, .int 0, .int 0, .long 0, .int 0])), (m0, .inr (2, [.int 0, .ref b1, .int 0]))]) (hS : va_S A s.heap H locs) (hl : lv_has ls 9 [(0, .ref b), (1, .ref x0), (2, .ref g0), (3, .ref o1), (4, .ref o2), (5, .int 0)]) (kt : ∀ (H : Heap) (locs : List Loc) (ls : Array Slot), va_S A s.heap H locs → lv_has ls 9 [(0, .ref b), (5, .int 0)] → W p l e room_1 s m #[Value.ref b] below meth c H locs 600006 7302040 Q (F0 m 2706 ls [])) : W p l e room_1 s m #[Value.ref b] below meth c H locs 213 25112 Q (F0 m 2486 ls []) := by
  obtain ⟨hx, hb, hml, hown, hts, hK, hX, hY, hA, hXs, hbl, hbA, hlt⟩ := id Z
  refine lv_aload_n hx hb dL_law_2486 rfl (lv_at hl 1 rfl) ?_
  refine zq_l (wc := [(x0, .inr (12, [.ref vC, .ref vP, .ref vT, .ref vS, .ref vF, .ref vN, .ref vY, .int 0])), (vC, .inr (3, [.ref sS, .ref sJ, .int 0, .int 0]))]) (wr := [(g0, .inr (17, [.ref m0, .ref m1, .ref m2, .ref m3, .ref m4, .ref m5, .ref m6, .ref m7, .ref m8, .ref m9, .ref m10, .ref m11, .ref m12, .ref m13, .ref m14, .ref m15, .ref m16, .ref m17, .ref m18, .ref m19, .ref m20, .int 0, .int 0, .int 0, .int 0, .long 0, .int 0])), (m0, .inr (2, [.int 0, .ref b1, .int 0]))]) (va_runV (As := []) (rest := []) ⟨hx, hb, hml, hown, hts⟩ (f_allSteps l D cy x0 vC vP vT vS vF vN vY sS sJ H.size ) (cwV 0 hts (gzV (gz q815) q814 q816 q817 q174) rfl rfl rfl vX9_allSteps ⟨Nat.le_of_ble_eq_true rfl, Nat.le_of_ble_eq_true rfl⟩) (zpV (ci := 12) (T := TX9) (N := 8) (q0 := 0) hK hX hY hP hD hS hA [0, 1] (by decide) rfl rfl rfl) rfl rfl hl.1 rfl (lv_room (Nat.le_of_ble_eq_true rfl)) dL_law_2487 ⟨Nat.le_of_ble_eq_true rfl, Nat.le_of_ble_eq_true rfl⟩) hP hD hS hA [0, 1] [2, 3] rfl rfl (by decide) (by decide) (fun x2 u1 H locs hw hP hD hS => ?_)
  obtain rfl : x2 = 0 := hw
  have hP : va_P D vwCl [(g0, .inr (17, [.ref m0, .ref m1, .ref m2, .ref m3, .ref m4, .ref m5, .ref m6, .ref m7, .ref m8, .ref m9, .ref m10, .ref m11, .ref m12, .ref m13, .ref m14, .ref m15, .ref m16, .ref m17, .ref m18, .ref m19, .ref m20, .int 0, .int 0, .int 0, .int 0, .long 0, .int 0])), (m0, .inr (2, [.int 0, .ref b1, .int 0]))] H := hP
  have hD : va_D A [(g0, .inr (17, [.ref m0, .ref m1, .ref m2, .ref m3, .ref m4, .ref m5, .ref m6, .ref m7, .ref m8, .ref m9, .ref m10, .ref m11, .ref m12, .ref m13, .ref m14, .ref m15, .ref m16, .ref m17, .ref m18, .ref m19, .ref m20, .int 0, .int 0, .int 0, .int 0, .long 0, .int 0])), (m0, .inr (2, [.int 0, .ref b1, .int 0]))] := hD
  refine lv_aload_n hx hb dL_law_2490 rfl (lv_at hl 2 rfl) ?_
  refine zq_l (wc := [(g0, .inr (17, [.ref m0, .ref m1, .ref m2, .ref m3, .ref m4, .ref m5, .ref m6, .ref m7, .ref m8, .ref m9, .ref m10, .ref m11, .ref m12, .ref m13, .ref m14, .ref m15, .ref m16, .ref m17, .ref m18, .ref m19, .ref m20, .int 0, .int 0, .int 0, .int 0, .long 0, .int 0])), (m0, .inr (2, [.int 0, .ref b1, .int 0]))]) (wr := []) (va_runV (As := []) (rest := [.long 0]) ⟨hx, hb, hml, hown, hts⟩ (g_allSteps l D cy g0 m0 m1 m2 m3 m4 m5 m6 m7 m8 m9 m10 m11 m12 m13 m14 m15 m16 m17 m18 m19 m20 b1 H.size ) (cwV 0 hts (gzV (gz q819) q818 q820 q821 q285) rfl rfl rfl vX14_allSteps ⟨Nat.le_of_ble_eq_true rfl, Nat.le_of_ble_eq_true rfl⟩) (zpV (ci := 17) (T := TX14) (N := 27) (q0 := 0) hK hX hY hP hD hS hA [0, 1] (by decide) rfl rfl rfl) rfl rfl hl.1 rfl (lv_room (Nat.le_of_ble_eq_true rfl)) dL_law_2491 ⟨Nat.le_of_ble_eq_true rfl, Nat.le_of_ble_eq_true rfl⟩) hP hD hS hA [0, 1] [] rfl rfl (by decide) (by decide) (fun x4 u3 H locs hw hP hD hS => ?_)
  obtain rfl : x4 = 0 := hw
  have hP : va_P D vwCl [(g0, .inr (17, [.ref m0, .ref m1, .ref m2, .ref m3, .ref m4, .ref m5, .ref m6, .ref m7, .ref m8, .ref m9, .ref m10, .ref m11, .ref m12, .ref m13, .ref m14, .ref m15, .ref m16, .ref m17, .ref m18, .ref m19, .ref m20, .int 0, .int 0, .int 0, .int 0, .long 0, .int 0]))] H := hP
  have hD : va_D A [(g0, .inr (17, [.ref m0, .ref m1, .ref m2, .ref m3, .ref m4, .ref m5, .ref m6, .ref m7, .ref m8, .ref m9, .ref m10, .ref m11, .ref m12, .ref m13, .ref m14, .ref m15, .ref m16, .ref m17, .ref m18, .ref m19, .ref m20, .int 0, .int 0, .int 0, .int 0, .long 0, .int 0]))] := hD
  refine W.lcmp hx hb dL_law_2494 ?_
  refine lv_topi (fun y5 ey5 => ?_)
  obtain rfl : y5 = 0 := ey5.trans (by decide +kernel)
  refine lv_if_eq (tgt := 2706) hx hb dL_law_2495 (by decide) (fun _ => ?_) (fun c_2495_5 => absurd (by decide +kernel) c_2495_5)
  exact W.widen (k := 600006) (n := 7302040) (Nat.le_of_ble_eq_true rfl) (Nat.le_of_ble_eq_true rfl) (kt _ _ _ hS (lv_sub hl [0, 5] rfl))
set_option maxHeartbeats 4000000 in
set_option maxRecDepth 100000 in
theorem c_hungShare_in (l : Launch) {p : Program} {e : Env} {s : State} {m : MethodId} {below : List Frame} {meth : Method} {c : Code} {D : va_G} {cy : Nat → ClassId} {A : Nat → Prop} {b : Nat} {xs : Nat → Int32} {Q : State → Prop} {H : Heap} {locs : List Loc} {ls : Array Slot} (Z : zLaw l p s m c D cy A b 9 xs) (x0 : Nat) (g0 : Nat) (o1 : Nat) (o2 : Nat) (vC : Nat) (vP : Nat) (vT : Nat) (vS : Nat) (vF : Nat) (vN : Nat) (vY : Nat) (sS : Nat) (sJ : Nat) (m0 : Nat) (m1 : Nat) (m2 : Nat) (m3 : Nat) (m4 : Nat) (m5 : Nat) (m6 : Nat) (m7 : Nat) (m8 : Nat) (m9 : Nat) (m10 : Nat) (m11 : Nat) (m12 : Nat) (m13 : Nat) (m14 : Nat) (m15 : Nat) (m16 : Nat) (m17 : Nat) (m18 : Nat) (m19 : Nat) (m20 : Nat) (hd : zDay (xs 1)) (hP : va_P D vwCl [(x0, .inr (12, [.ref vC, .ref vP, .ref vT, .ref vS, .ref vF, .ref vN, .ref vY, .int 0])), (vC, .inr (3, [.ref sS, .ref sJ, .int 0, .int 0])), (g0, .inr (17, [.ref m0, .ref m1, .ref m2, .ref m3, .ref m4, .ref m5, .ref m6, .ref m7, .ref m8, .ref m9, .ref m10, .ref m11, .ref m12, .ref m13, .ref m14, .ref m15, .ref m16, .ref m17, .ref m18, .ref m19, .ref m20, .int 0, .int 0, .int 0, .int 0, .long 0, .int 0]))] H) (hD : va_D A [(x0, .inr (12, [.ref vC, .ref vP, .ref vT, .ref vS, .ref vF, .ref vN, .ref vY, .int 0])), (vC, .inr (3, [.ref sS, .ref sJ, .int 0, .int 0])), (g0, .inr (17, [.ref m0, .ref m1, .ref m2, .ref m3, .ref m4, .ref m5, .ref m6, .ref m7, .ref m8, .ref m9, .ref m10, .ref m11, .ref m12, .ref m13, .ref m14, .ref m15, .ref m16, .ref m17, .ref m18, .ref m19, .ref m20, .int 0, .int 0, .int 0, .int 0, .long 0, .int 0]))]) (hS : va_S A s.heap H locs) (hl : lv_has ls 9 [(0, .ref b), (1, .ref x0), (2, .ref g0), (3, .ref o1), (4, .ref o2), (5, .int 0)]) (kt : ∀ (H : Heap) (locs : List Loc) (ls : Array Slot), va_S A s.heap H locs → lv_has ls 9 [(0, .ref b), (5, .int 0)] → W p l e room_1 s m #[Value.ref b] below meth c H locs 600006 7302040 Q (F0 m 2706 ls [])) : W p l e room_1 s m #[Value.ref b] below meth c H locs 213 25112 Q (F0 m 2500 ls []) := by
  obtain ⟨hx, hb, hml, hown, hts, hK, hX, hY, hA, hXs, hbl, hbA, hlt⟩ := id Z
  refine lv_aload_n hx hb dL_law_2500 rfl (lv_at hl 1 rfl) ?_
  refine lv_aload_n hx hb dL_law_2501 rfl (lv_at hl 0 rfl) ?_
  refine lv_iload hx hb dL_law_2502 (lv_at hl 5 rfl) ?_
  refine lv_iconst (v := 1) hx hb dL_law_2504 (by decide) ?_
  refine lv_iadd hx hb dL_law_2505 ?_
  refine lv_topi (fun y1 ey1 => ?_)
  obtain rfl : y1 = 1 := ey1.trans (by decide +kernel)
  refine va_sld hx hb hXs hbl hbA hS (z_in 1 (by decide) (by decide)) dL_law_2506 ?_
  refine lv_topi (fun y2 ey2 => ?_)
  obtain rfl : y2 = (xs 1) := ey2.trans rfl
  refine lv_aload hx hb dL_law_2507 (lv_at hl 4 rfl) ?_
  refine zq_i (wc := [(x0, .inr (12, [.ref vC, .ref vP, .ref vT, .ref vS, .ref vF, .ref vN, .ref vY, .int 0])), (vC, .inr (3, [.ref sS, .ref sJ, .int 0, .int 0]))]) (wr := [(g0, .inr (17, [.ref m0, .ref m1, .ref m2, .ref m3, .ref m4, .ref m5, .ref m6, .ref m7, .ref m8, .ref m9, .ref m10, .ref m11, .ref m12, .ref m13, .ref m14, .ref m15, .ref m16, .ref m17, .ref m18, .ref m19, .ref m20, .int 0, .int 0, .int 0, .int 0, .long 0, .int 0]))]) (vx_runSW (As := [.ref x0, .int (xs 1), .ref o2]) (rest := []) ⟨hx, hb, hml, hown, hts⟩ (w_hungShare_in l hlt D cy x0 vC vP vT vS vF vN vY sS sJ (xs 1) o2 H.size hd) (vx_cwSW 3 hts (gzS (gzW q823) q822 q824 q565) rfl rfl rfl vL_hungShare.2 ⟨Nat.le_of_ble_eq_true rfl, Nat.le_of_ble_eq_true rfl⟩) (zpS hK hX hY hP hD hS hA [0, 1] (by decide) rfl) rfl rfl hl.1 rfl (lv_room (Nat.le_of_ble_eq_true rfl)) dL_law_2509 ⟨Nat.le_of_ble_eq_true rfl, Nat.le_of_ble_eq_true rfl⟩) hP hD hS hA [0, 1] [2] rfl rfl (by decide) (by decide) (fun x4 u3 H locs hw hP hD hS => ?_)
  obtain rfl : x4 = 2 := hw
  have hP : va_P D vwCl [(g0, .inr (17, [.ref m0, .ref m1, .ref m2, .ref m3, .ref m4, .ref m5, .ref m6, .ref m7, .ref m8, .ref m9, .ref m10, .ref m11, .ref m12, .ref m13, .ref m14, .ref m15, .ref m16, .ref m17, .ref m18, .ref m19, .ref m20, .int 0, .int 0, .int 0, .int 0, .long 0, .int 0]))] H := hP
  have hD : va_D A [(g0, .inr (17, [.ref m0, .ref m1, .ref m2, .ref m3, .ref m4, .ref m5, .ref m6, .ref m7, .ref m8, .ref m9, .ref m10, .ref m11, .ref m12, .ref m13, .ref m14, .ref m15, .ref m16, .ref m17, .ref m18, .ref m19, .ref m20, .int 0, .int 0, .int 0, .int 0, .long 0, .int 0]))] := hD
  refine W.widen (k := 214) (n := 25118) (by omega) (by omega) ?_
  refine lv_istore (lv' := [(6, .int 2), (0, .ref b), (1, .ref x0), (2, .ref g0), (3, .ref o1), (4, .ref o2), (5, .int 0)]) hx hb dL_law_2512 hl (by decide) rfl (fun ls hl => ?_)
  refine lv_aload_n hx hb dL_law_2514 rfl (lv_at hl 3 rfl) ?_
  refine lv_aload_n hx hb dL_law_2515 rfl (lv_at hl 1 rfl) ?_
  refine lv_iload hx hb dL_law_2516 (lv_at hl 6 rfl) ?_
  refine lv_iconst (v := 1) hx hb dL_law_2518 (by decide) ?_
  refine lv_iadd hx hb dL_law_2519 ?_
  refine lv_topi (fun y5 ey5 => ?_)
  obtain rfl : y5 = 1 := ey5.trans (by decide +kernel)
  refine va_sld hx hb hXs hbl hbA hS (z_in 1 (by decide) (by decide)) dL_law_2520 ?_
  refine lv_topi (fun y6 ey6 => ?_)
  obtain rfl : y6 = (xs 1) := ey6.trans rfl
  refine zq_f (wc := [(g0, .inr (17, [.ref m0, .ref m1, .ref m2, .ref m3, .ref m4, .ref m5, .ref m6, .ref m7, .ref m8, .ref m9, .ref m10, .ref m11, .ref m12, .ref m13, .ref m14, .ref m15, .ref m16, .ref m17, .ref m18, .ref m19, .ref m20, .int 0, .int 0, .int 0, .int 0, .long 0, .int 0]))]) (wr := []) (va_runV (As := [.int (xs 1)]) (rest := []) ⟨hx, hb, hml, hown, hts⟩ (g_hungShare_in l D cy g0 m0 m1 m2 m3 m4 m5 m6 m7 m8 m9 m10 m11 m12 m13 m14 m15 m16 m17 m18 m19 m20 (xs 1) H.size hd) (cwV 1 hts (gzV (gz q826) q825 q827 q828 q285) rfl rfl rfl vX14_hungShare ⟨Nat.le_of_ble_eq_true rfl, Nat.le_of_ble_eq_true rfl⟩) (zpV (ci := 17) (T := TX14) (N := 27) (q0 := 0) hK hX hY hP hD hS hA [0] (by decide) rfl rfl rfl) rfl rfl hl.1 rfl (lv_room (Nat.le_of_ble_eq_true rfl)) dL_law_2521 ⟨Nat.le_of_ble_eq_true rfl, Nat.le_of_ble_eq_true rfl⟩) hP hD hS hA [0] [] rfl rfl (by decide) (by decide) (fun x8 u7 H locs hw hP hD hS => ?_)
  obtain rfl : x8 = FP.fconst0 := hw
  have hP : va_P D vwCl [(g0, .inr (17, [.ref m0, .ref m1, .ref m2, .ref m3, .ref m4, .ref m5, .ref m6, .ref m7, .ref m8, .ref m9, .ref m10, .ref m11, .ref m12, .ref m13, .ref m14, .ref m15, .ref m16, .ref m17, .ref m18, .ref m19, .ref m20, .int 2, .int 0, .int 0, .int 0, .long 0, .int 0]))] H := hP
  have hD : va_D A [(g0, .inr (17, [.ref m0, .ref m1, .ref m2, .ref m3, .ref m4, .ref m5, .ref m6, .ref m7, .ref m8, .ref m9, .ref m10, .ref m11, .ref m12, .ref m13, .ref m14, .ref m15, .ref m16, .ref m17, .ref m18, .ref m19, .ref m20, .int 2, .int 0, .int 0, .int 0, .long 0, .int 0]))] := hD
  refine lv_fstore (lv' := [(7, .float FP.fconst0), (6, .int 2), (0, .ref b), (1, .ref x0), (2, .ref g0), (3, .ref o1), (4, .ref o2), (5, .int 0)]) hx hb dL_law_2524 hl (by decide) rfl (fun ls hl => ?_)
  refine lv_aload_n hx hb dL_law_2526 rfl (lv_at hl 4 rfl) ?_
  refine zq_i (wc := [(g0, .inr (17, [.ref m0, .ref m1, .ref m2, .ref m3, .ref m4, .ref m5, .ref m6, .ref m7, .ref m8, .ref m9, .ref m10, .ref m11, .ref m12, .ref m13, .ref m14, .ref m15, .ref m16, .ref m17, .ref m18, .ref m19, .ref m20, .int 2, .int 0, .int 0, .int 0, .long 0, .int 0]))]) (wr := []) (va_runV (As := []) (rest := []) ⟨hx, hb, hml, hown, hts⟩ (k_thrown l D cy g0 m0 m1 m2 m3 m4 m5 m6 m7 m8 m9 m10 m11 m12 m13 m14 m15 m16 m17 m18 m19 m20 2 0 0 0 0 0 H.size ) (cwV 0 hts (gzV (gz q571) q570 q572 q573 q285) rfl rfl rfl vX14_thrown ⟨Nat.le_of_ble_eq_true rfl, Nat.le_of_ble_eq_true rfl⟩) (zpV (ci := 17) (T := TX14) (N := 27) (q0 := 0) hK hX hY hP hD hS hA [0] (by decide) rfl rfl rfl) rfl rfl hl.1 rfl (lv_room (Nat.le_of_ble_eq_true rfl)) dL_law_2527 ⟨Nat.le_of_ble_eq_true rfl, Nat.le_of_ble_eq_true rfl⟩) hP hD hS hA [0] [] rfl rfl (by decide) (by decide) (fun x10 u9 H locs hw hP hD hS => ?_)
  obtain rfl : x10 = 2 := hw
  have hP : va_P D vwCl [(g0, .inr (17, [.ref m0, .ref m1, .ref m2, .ref m3, .ref m4, .ref m5, .ref m6, .ref m7, .ref m8, .ref m9, .ref m10, .ref m11, .ref m12, .ref m13, .ref m14, .ref m15, .ref m16, .ref m17, .ref m18, .ref m19, .ref m20, .int 2, .int 0, .int 0, .int 0, .long 0, .int 0]))] H := hP
  have hD : va_D A [(g0, .inr (17, [.ref m0, .ref m1, .ref m2, .ref m3, .ref m4, .ref m5, .ref m6, .ref m7, .ref m8, .ref m9, .ref m10, .ref m11, .ref m12, .ref m13, .ref m14, .ref m15, .ref m16, .ref m17, .ref m18, .ref m19, .ref m20, .int 2, .int 0, .int 0, .int 0, .long 0, .int 0]))] := hD
  refine lv_iload hx hb dL_law_2530 (lv_at hl 1 rfl) ?_
  refine lv_icmp_eq (tgt := 2537) hx hb dL_law_2532 (by decide) (fun _ => ?_) (fun c_2532_10 => absurd (by decide +kernel) c_2532_10)
  refine lv_iload hx hb dL_law_2537 (lv_at hl 1 rfl) ?_
  refine lv_if_ne (tgt := 2575) hx hb dL_law_2539 (by decide) (fun _ => ?_) (fun c_2539_11 => absurd c_2539_11 (by decide +kernel))
  refine lv_goto (tgt := 2706) hx hb dL_law_2575 (by decide) ?_
  exact W.widen (k := 600006) (n := 7302040) (Nat.le_of_ble_eq_true rfl) (Nat.le_of_ble_eq_true rfl) (kt _ _ _ hS (lv_sub hl [2, 7] rfl))
set_option maxHeartbeats 4000000 in
set_option maxRecDepth 100000 in
theorem c_hungShare_no (l : Launch) {p : Program} {e : Env} {s : State} {m : MethodId} {below : List Frame} {meth : Method} {c : Code} {D : va_G} {cy : Nat → ClassId} {A : Nat → Prop} {b : Nat} {xs : Nat → Int32} {Q : State → Prop} {H : Heap} {locs : List Loc} {ls : Array Slot} (Z : zLaw l p s m c D cy A b 9 xs) (x0 : Nat) (g0 : Nat) (o1 : Nat) (o2 : Nat) (vC : Nat) (vP : Nat) (vT : Nat) (vS : Nat) (vF : Nat) (vN : Nat) (vY : Nat) (m0 : Nat) (m1 : Nat) (m2 : Nat) (m3 : Nat) (m4 : Nat) (m5 : Nat) (m6 : Nat) (m7 : Nat) (m8 : Nat) (m9 : Nat) (m10 : Nat) (m11 : Nat) (m12 : Nat) (m13 : Nat) (m14 : Nat) (m15 : Nat) (m16 : Nat) (m17 : Nat) (m18 : Nat) (m19 : Nat) (m20 : Nat) (hd : zNoDay (xs 1)) (hP : va_P D vwCl [(x0, .inr (12, [.ref vC, .ref vP, .ref vT, .ref vS, .ref vF, .ref vN, .ref vY, .int 0])), (g0, .inr (17, [.ref m0, .ref m1, .ref m2, .ref m3, .ref m4, .ref m5, .ref m6, .ref m7, .ref m8, .ref m9, .ref m10, .ref m11, .ref m12, .ref m13, .ref m14, .ref m15, .ref m16, .ref m17, .ref m18, .ref m19, .ref m20, .int 0, .int 0, .int 0, .int 0, .long 0, .int 0]))] H) (hD : va_D A [(x0, .inr (12, [.ref vC, .ref vP, .ref vT, .ref vS, .ref vF, .ref vN, .ref vY, .int 0])), (g0, .inr (17, [.ref m0, .ref m1, .ref m2, .ref m3, .ref m4, .ref m5, .ref m6, .ref m7, .ref m8, .ref m9, .ref m10, .ref m11, .ref m12, .ref m13, .ref m14, .ref m15, .ref m16, .ref m17, .ref m18, .ref m19, .ref m20, .int 0, .int 0, .int 0, .int 0, .long 0, .int 0]))]) (hS : va_S A s.heap H locs) (hl : lv_has ls 9 [(0, .ref b), (1, .ref x0), (2, .ref g0), (3, .ref o1), (4, .ref o2), (5, .int 0)]) (kt : ∀ (H : Heap) (locs : List Loc) (ls : Array Slot), va_S A s.heap H locs → lv_has ls 9 [(0, .ref b), (5, .int 0)] → W p l e room_1 s m #[Value.ref b] below meth c H locs 600006 7302040 Q (F0 m 2706 ls [])) : W p l e room_1 s m #[Value.ref b] below meth c H locs 213 25112 Q (F0 m 2500 ls []) := by
  obtain ⟨hx, hb, hml, hown, hts, hK, hX, hY, hA, hXs, hbl, hbA, hlt⟩ := id Z
  refine lv_aload_n hx hb dL_law_2500 rfl (lv_at hl 1 rfl) ?_
  refine lv_aload_n hx hb dL_law_2501 rfl (lv_at hl 0 rfl) ?_
  refine lv_iload hx hb dL_law_2502 (lv_at hl 5 rfl) ?_
  refine lv_iconst (v := 1) hx hb dL_law_2504 (by decide) ?_
  refine lv_iadd hx hb dL_law_2505 ?_
  refine lv_topi (fun y1 ey1 => ?_)
  obtain rfl : y1 = 1 := ey1.trans (by decide +kernel)
  refine va_sld hx hb hXs hbl hbA hS (z_in 1 (by decide) (by decide)) dL_law_2506 ?_
  refine lv_topi (fun y2 ey2 => ?_)
  obtain rfl : y2 = (xs 1) := ey2.trans rfl
  refine lv_aload hx hb dL_law_2507 (lv_at hl 4 rfl) ?_
  refine zq_i (wc := [(x0, .inr (12, [.ref vC, .ref vP, .ref vT, .ref vS, .ref vF, .ref vN, .ref vY, .int 0]))]) (wr := [(g0, .inr (17, [.ref m0, .ref m1, .ref m2, .ref m3, .ref m4, .ref m5, .ref m6, .ref m7, .ref m8, .ref m9, .ref m10, .ref m11, .ref m12, .ref m13, .ref m14, .ref m15, .ref m16, .ref m17, .ref m18, .ref m19, .ref m20, .int 0, .int 0, .int 0, .int 0, .long 0, .int 0]))]) (vx_runSW (As := [.ref x0, .int (xs 1), .ref o2]) (rest := []) ⟨hx, hb, hml, hown, hts⟩ (w_hungShare_no l hlt D cy x0 vC vP vT vS vF vN vY (xs 1) o2 H.size hd) (vx_cwSW 3 hts (gzS (gzW q823) q822 q824 q565) rfl rfl rfl vL_hungShare.2 ⟨Nat.le_of_ble_eq_true rfl, Nat.le_of_ble_eq_true rfl⟩) (zpS hK hX hY hP hD hS hA [0] (by decide) rfl) rfl rfl hl.1 rfl (lv_room (Nat.le_of_ble_eq_true rfl)) dL_law_2509 ⟨Nat.le_of_ble_eq_true rfl, Nat.le_of_ble_eq_true rfl⟩) hP hD hS hA [0] [1] rfl rfl (by decide) (by decide) (fun x4 u3 H locs hw hP hD hS => ?_)
  obtain rfl : x4 = 1 := hw
  have hP : va_P D vwCl [(g0, .inr (17, [.ref m0, .ref m1, .ref m2, .ref m3, .ref m4, .ref m5, .ref m6, .ref m7, .ref m8, .ref m9, .ref m10, .ref m11, .ref m12, .ref m13, .ref m14, .ref m15, .ref m16, .ref m17, .ref m18, .ref m19, .ref m20, .int 0, .int 0, .int 0, .int 0, .long 0, .int 0]))] H := hP
  have hD : va_D A [(g0, .inr (17, [.ref m0, .ref m1, .ref m2, .ref m3, .ref m4, .ref m5, .ref m6, .ref m7, .ref m8, .ref m9, .ref m10, .ref m11, .ref m12, .ref m13, .ref m14, .ref m15, .ref m16, .ref m17, .ref m18, .ref m19, .ref m20, .int 0, .int 0, .int 0, .int 0, .long 0, .int 0]))] := hD
  refine W.widen (k := 214) (n := 25118) (by omega) (by omega) ?_
  refine lv_istore (lv' := [(6, .int 1), (0, .ref b), (1, .ref x0), (2, .ref g0), (3, .ref o1), (4, .ref o2), (5, .int 0)]) hx hb dL_law_2512 hl (by decide) rfl (fun ls hl => ?_)
  refine lv_aload_n hx hb dL_law_2514 rfl (lv_at hl 3 rfl) ?_
  refine lv_aload_n hx hb dL_law_2515 rfl (lv_at hl 1 rfl) ?_
  refine lv_iload hx hb dL_law_2516 (lv_at hl 6 rfl) ?_
  refine lv_iconst (v := 1) hx hb dL_law_2518 (by decide) ?_
  refine lv_iadd hx hb dL_law_2519 ?_
  refine lv_topi (fun y5 ey5 => ?_)
  obtain rfl : y5 = 1 := ey5.trans (by decide +kernel)
  refine va_sld hx hb hXs hbl hbA hS (z_in 1 (by decide) (by decide)) dL_law_2520 ?_
  refine lv_topi (fun y6 ey6 => ?_)
  obtain rfl : y6 = (xs 1) := ey6.trans rfl
  refine zq_f (wc := [(g0, .inr (17, [.ref m0, .ref m1, .ref m2, .ref m3, .ref m4, .ref m5, .ref m6, .ref m7, .ref m8, .ref m9, .ref m10, .ref m11, .ref m12, .ref m13, .ref m14, .ref m15, .ref m16, .ref m17, .ref m18, .ref m19, .ref m20, .int 0, .int 0, .int 0, .int 0, .long 0, .int 0]))]) (wr := []) (va_runV (As := [.int (xs 1)]) (rest := []) ⟨hx, hb, hml, hown, hts⟩ (g_hungShare_no l D cy g0 m0 m1 m2 m3 m4 m5 m6 m7 m8 m9 m10 m11 m12 m13 m14 m15 m16 m17 m18 m19 m20 (xs 1) H.size hd) (cwV 1 hts (gzV (gz q826) q825 q827 q828 q285) rfl rfl rfl vX14_hungShare ⟨Nat.le_of_ble_eq_true rfl, Nat.le_of_ble_eq_true rfl⟩) (zpV (ci := 17) (T := TX14) (N := 27) (q0 := 0) hK hX hY hP hD hS hA [0] (by decide) rfl rfl rfl) rfl rfl hl.1 rfl (lv_room (Nat.le_of_ble_eq_true rfl)) dL_law_2521 ⟨Nat.le_of_ble_eq_true rfl, Nat.le_of_ble_eq_true rfl⟩) hP hD hS hA [0] [] rfl rfl (by decide) (by decide) (fun x8 u7 H locs hw hP hD hS => ?_)
  obtain rfl : x8 = FP.fconst0 := hw
  have hP : va_P D vwCl [(g0, .inr (17, [.ref m0, .ref m1, .ref m2, .ref m3, .ref m4, .ref m5, .ref m6, .ref m7, .ref m8, .ref m9, .ref m10, .ref m11, .ref m12, .ref m13, .ref m14, .ref m15, .ref m16, .ref m17, .ref m18, .ref m19, .ref m20, .int 1, .int 0, .int 0, .int 0, .long 0, .int 0]))] H := hP
  have hD : va_D A [(g0, .inr (17, [.ref m0, .ref m1, .ref m2, .ref m3, .ref m4, .ref m5, .ref m6, .ref m7, .ref m8, .ref m9, .ref m10, .ref m11, .ref m12, .ref m13, .ref m14, .ref m15, .ref m16, .ref m17, .ref m18, .ref m19, .ref m20, .int 1, .int 0, .int 0, .int 0, .long 0, .int 0]))] := hD
  refine lv_fstore (lv' := [(7, .float FP.fconst0), (6, .int 1), (0, .ref b), (1, .ref x0), (2, .ref g0), (3, .ref o1), (4, .ref o2), (5, .int 0)]) hx hb dL_law_2524 hl (by decide) rfl (fun ls hl => ?_)
  refine lv_aload_n hx hb dL_law_2526 rfl (lv_at hl 4 rfl) ?_
  refine zq_i (wc := [(g0, .inr (17, [.ref m0, .ref m1, .ref m2, .ref m3, .ref m4, .ref m5, .ref m6, .ref m7, .ref m8, .ref m9, .ref m10, .ref m11, .ref m12, .ref m13, .ref m14, .ref m15, .ref m16, .ref m17, .ref m18, .ref m19, .ref m20, .int 1, .int 0, .int 0, .int 0, .long 0, .int 0]))]) (wr := []) (va_runV (As := []) (rest := []) ⟨hx, hb, hml, hown, hts⟩ (k_thrown l D cy g0 m0 m1 m2 m3 m4 m5 m6 m7 m8 m9 m10 m11 m12 m13 m14 m15 m16 m17 m18 m19 m20 1 0 0 0 0 0 H.size ) (cwV 0 hts (gzV (gz q571) q570 q572 q573 q285) rfl rfl rfl vX14_thrown ⟨Nat.le_of_ble_eq_true rfl, Nat.le_of_ble_eq_true rfl⟩) (zpV (ci := 17) (T := TX14) (N := 27) (q0 := 0) hK hX hY hP hD hS hA [0] (by decide) rfl rfl rfl) rfl rfl hl.1 rfl (lv_room (Nat.le_of_ble_eq_true rfl)) dL_law_2527 ⟨Nat.le_of_ble_eq_true rfl, Nat.le_of_ble_eq_true rfl⟩) hP hD hS hA [0] [] rfl rfl (by decide) (by decide) (fun x10 u9 H locs hw hP hD hS => ?_)
  obtain rfl : x10 = 1 := hw
  have hP : va_P D vwCl [(g0, .inr (17, [.ref m0, .ref m1, .ref m2, .ref m3, .ref m4, .ref m5, .ref m6, .ref m7, .ref m8, .ref m9, .ref m10, .ref m11, .ref m12, .ref m13, .ref m14, .ref m15, .ref m16, .ref m17, .ref m18, .ref m19, .ref m20, .int 1, .int 0, .int 0, .int 0, .long 0, .int 0]))] H := hP
  have hD : va_D A [(g0, .inr (17, [.ref m0, .ref m1, .ref m2, .ref m3, .ref m4, .ref m5, .ref m6, .ref m7, .ref m8, .ref m9, .ref m10, .ref m11, .ref m12, .ref m13, .ref m14, .ref m15, .ref m16, .ref m17, .ref m18, .ref m19, .ref m20, .int 1, .int 0, .int 0, .int 0, .long 0, .int 0]))] := hD
  refine lv_iload hx hb dL_law_2530 (lv_at hl 1 rfl) ?_
  refine lv_icmp_eq (tgt := 2537) hx hb dL_law_2532 (by decide) (fun _ => ?_) (fun c_2532_10 => absurd (by decide +kernel) c_2532_10)
  refine lv_iload hx hb dL_law_2537 (lv_at hl 1 rfl) ?_
  refine lv_if_ne (tgt := 2575) hx hb dL_law_2539 (by decide) (fun _ => ?_) (fun c_2539_11 => absurd c_2539_11 (by decide +kernel))
  refine lv_goto (tgt := 2706) hx hb dL_law_2575 (by decide) ?_
  exact W.widen (k := 600006) (n := 7302040) (Nat.le_of_ble_eq_true rfl) (Nat.le_of_ble_eq_true rfl) (kt _ _ _ hS (lv_sub hl [2, 7] rfl))
set_option maxHeartbeats 4000000 in
set_option maxRecDepth 100000 in
theorem c_meanRain (l : Launch) {p : Program} {e : Env} {s : State} {m : MethodId} {below : List Frame} {meth : Method} {c : Code} {D : va_G} {cy : Nat → ClassId} {A : Nat → Prop} {b : Nat} {xs : Nat → Int32} {Q : State → Prop} {H : Heap} {locs : List Loc} {ls : Array Slot} (Z : zLaw l p s m c D cy A b 9 xs) (x0 : Nat) (g0 : Nat) (o1 : Nat) (o2 : Nat) (vC : Nat) (vP : Nat) (vT : Nat) (vS : Nat) (vF : Nat) (vN : Nat) (vY : Nat) (l1 : Nat) (l2 : Nat) (m0 : Nat) (m1 : Nat) (m2 : Nat) (m3 : Nat) (m4 : Nat) (m5 : Nat) (m6 : Nat) (m7 : Nat) (m8 : Nat) (m9 : Nat) (m10 : Nat) (m11 : Nat) (m12 : Nat) (m13 : Nat) (m14 : Nat) (m15 : Nat) (m16 : Nat) (m17 : Nat) (m18 : Nat) (m19 : Nat) (m20 : Nat)  (hP : va_P D vwCl [(x0, .inr (12, [.ref vC, .ref vP, .ref vT, .ref vS, .ref vF, .ref vN, .ref vY, .int 0])), (vF, .inr (4, [.ref l1, .ref l2])), (l1, .inl (cy 0, 200, .inl (fun _ => 0))), (l2, .inl (cy 0, 401, .inl (fun _ => 0))), (g0, .inr (17, [.ref m0, .ref m1, .ref m2, .ref m3, .ref m4, .ref m5, .ref m6, .ref m7, .ref m8, .ref m9, .ref m10, .ref m11, .ref m12, .ref m13, .ref m14, .ref m15, .ref m16, .ref m17, .ref m18, .ref m19, .ref m20, .int 0, .int 0, .int 0, .int 0, .long 0, .int 0])), (m7, .inl (cy 0, 200, .inl (fun _ => 0)))] H) (hD : va_D A [(x0, .inr (12, [.ref vC, .ref vP, .ref vT, .ref vS, .ref vF, .ref vN, .ref vY, .int 0])), (vF, .inr (4, [.ref l1, .ref l2])), (l1, .inl (cy 0, 200, .inl (fun _ => 0))), (l2, .inl (cy 0, 401, .inl (fun _ => 0))), (g0, .inr (17, [.ref m0, .ref m1, .ref m2, .ref m3, .ref m4, .ref m5, .ref m6, .ref m7, .ref m8, .ref m9, .ref m10, .ref m11, .ref m12, .ref m13, .ref m14, .ref m15, .ref m16, .ref m17, .ref m18, .ref m19, .ref m20, .int 0, .int 0, .int 0, .int 0, .long 0, .int 0])), (m7, .inl (cy 0, 200, .inl (fun _ => 0)))]) (hS : va_S A s.heap H locs) (hl : lv_has ls 9 [(0, .ref b), (1, .ref x0), (2, .ref g0), (3, .ref o1), (4, .ref o2), (5, .int 0)]) (kt : ∀ (H : Heap) (locs : List Loc) (ls : Array Slot), va_S A s.heap H locs → lv_has ls 9 [(0, .ref b), (5, .int 0)] → W p l e room_1 s m #[Value.ref b] below meth c H locs 600006 7302040 Q (F0 m 2706 ls [])) : W p l e room_1 s m #[Value.ref b] below meth c H locs 213 25112 Q (F0 m 2578 ls []) := by
  obtain ⟨hx, hb, hml, hown, hts, hK, hX, hY, hA, hXs, hbl, hbA, hlt⟩ := id Z
  refine lv_aload_n hx hb dL_law_2578 rfl (lv_at hl 1 rfl) ?_
  refine lv_aload hx hb dL_law_2579 (lv_at hl 4 rfl) ?_
  refine zq_i (wc := [(x0, .inr (12, [.ref vC, .ref vP, .ref vT, .ref vS, .ref vF, .ref vN, .ref vY, .int 0])), (vF, .inr (4, [.ref l1, .ref l2])), (l1, .inl (cy 0, 200, .inl (fun _ => 0))), (l2, .inl (cy 0, 401, .inl (fun _ => 0)))]) (wr := [(g0, .inr (17, [.ref m0, .ref m1, .ref m2, .ref m3, .ref m4, .ref m5, .ref m6, .ref m7, .ref m8, .ref m9, .ref m10, .ref m11, .ref m12, .ref m13, .ref m14, .ref m15, .ref m16, .ref m17, .ref m18, .ref m19, .ref m20, .int 0, .int 0, .int 0, .int 0, .long 0, .int 0])), (m7, .inl (cy 0, 200, .inl (fun _ => 0)))]) (vx_runSW (As := [.ref x0, .ref o2]) (rest := []) ⟨hx, hb, hml, hown, hts⟩ (w_meanRain l hlt D cy x0 vC vP vT vS vF vN vY l1 l2 o2 H.size ) (vx_cwSW 2 hts (gzS (gzW q830) q829 q831 q565) rfl rfl rfl vL_meanRain.2 ⟨Nat.le_of_ble_eq_true rfl, Nat.le_of_ble_eq_true rfl⟩) (zpS hK hX hY hP hD hS hA [0, 1, 2, 3] (by decide) rfl) rfl rfl hl.1 rfl (lv_room (Nat.le_of_ble_eq_true rfl)) dL_law_2581 ⟨Nat.le_of_ble_eq_true rfl, Nat.le_of_ble_eq_true rfl⟩) hP hD hS hA [0, 1, 2, 3] [4, 5] rfl rfl (by decide) (by decide) (fun x2 u1 H locs hw hP hD hS => ?_)
  obtain rfl : x2 = 1 := hw
  have hP : va_P D vwCl [(g0, .inr (17, [.ref m0, .ref m1, .ref m2, .ref m3, .ref m4, .ref m5, .ref m6, .ref m7, .ref m8, .ref m9, .ref m10, .ref m11, .ref m12, .ref m13, .ref m14, .ref m15, .ref m16, .ref m17, .ref m18, .ref m19, .ref m20, .int 0, .int 0, .int 0, .int 0, .long 0, .int 0])), (m7, .inl (cy 0, 200, .inl (fun _ => 0)))] H := hP
  have hD : va_D A [(g0, .inr (17, [.ref m0, .ref m1, .ref m2, .ref m3, .ref m4, .ref m5, .ref m6, .ref m7, .ref m8, .ref m9, .ref m10, .ref m11, .ref m12, .ref m13, .ref m14, .ref m15, .ref m16, .ref m17, .ref m18, .ref m19, .ref m20, .int 0, .int 0, .int 0, .int 0, .long 0, .int 0])), (m7, .inl (cy 0, 200, .inl (fun _ => 0)))] := hD
  refine W.widen (k := 214) (n := 25118) (by omega) (by omega) ?_
  refine lv_istore (lv' := [(6, .int 1), (0, .ref b), (1, .ref x0), (2, .ref g0), (3, .ref o1), (4, .ref o2), (5, .int 0)]) hx hb dL_law_2584 hl (by decide) rfl (fun ls hl => ?_)
  refine lv_aload_n hx hb dL_law_2586 rfl (lv_at hl 3 rfl) ?_
  refine zq_d (wc := [(g0, .inr (17, [.ref m0, .ref m1, .ref m2, .ref m3, .ref m4, .ref m5, .ref m6, .ref m7, .ref m8, .ref m9, .ref m10, .ref m11, .ref m12, .ref m13, .ref m14, .ref m15, .ref m16, .ref m17, .ref m18, .ref m19, .ref m20, .int 0, .int 0, .int 0, .int 0, .long 0, .int 0])), (m7, .inl (cy 0, 200, .inl (fun _ => 0)))]) (wr := []) (va_runV (As := []) (rest := []) ⟨hx, hb, hml, hown, hts⟩ (g_meanRain l D cy g0 m0 m1 m2 m3 m4 m5 m6 m7 m8 m9 m10 m11 m12 m13 m14 m15 m16 m17 m18 m19 m20 H.size ) (cwV 0 hts (gzV (gz q833) q832 q834 q835 q285) rfl rfl rfl vX14_meanRain ⟨Nat.le_of_ble_eq_true rfl, Nat.le_of_ble_eq_true rfl⟩) (zpV (ci := 17) (T := TX14) (N := 27) (q0 := 0) hK hX hY hP hD hS hA [0, 1] (by decide) rfl rfl rfl) rfl rfl hl.1 rfl (lv_room (Nat.le_of_ble_eq_true rfl)) dL_law_2587 ⟨Nat.le_of_ble_eq_true rfl, Nat.le_of_ble_eq_true rfl⟩) hP hD hS hA [0, 1] [] rfl rfl (by decide) (by decide) (fun x4 u3 H locs hw hP hD hS => ?_)
  obtain rfl : x4 = FP.dconst0 := hw
  have hP : va_P D vwCl [(g0, .inr (17, [.ref m0, .ref m1, .ref m2, .ref m3, .ref m4, .ref m5, .ref m6, .ref m7, .ref m8, .ref m9, .ref m10, .ref m11, .ref m12, .ref m13, .ref m14, .ref m15, .ref m16, .ref m17, .ref m18, .ref m19, .ref m20, .int 1, .int 0, .int 0, .int 0, .long 0, .int 0]))] H := hP
  have hD : va_D A [(g0, .inr (17, [.ref m0, .ref m1, .ref m2, .ref m3, .ref m4, .ref m5, .ref m6, .ref m7, .ref m8, .ref m9, .ref m10, .ref m11, .ref m12, .ref m13, .ref m14, .ref m15, .ref m16, .ref m17, .ref m18, .ref m19, .ref m20, .int 1, .int 0, .int 0, .int 0, .long 0, .int 0]))] := hD
  refine lv_dstore (lv' := [(7, .double FP.dconst0), (6, .int 1), (0, .ref b), (1, .ref x0), (2, .ref g0), (3, .ref o1), (4, .ref o2), (5, .int 0)]) hx hb dL_law_2590 hl (by decide) rfl (fun ls hl => ?_)
  refine lv_aload_n hx hb dL_law_2592 rfl (lv_at hl 4 rfl) ?_
  refine zq_i (wc := [(g0, .inr (17, [.ref m0, .ref m1, .ref m2, .ref m3, .ref m4, .ref m5, .ref m6, .ref m7, .ref m8, .ref m9, .ref m10, .ref m11, .ref m12, .ref m13, .ref m14, .ref m15, .ref m16, .ref m17, .ref m18, .ref m19, .ref m20, .int 1, .int 0, .int 0, .int 0, .long 0, .int 0]))]) (wr := []) (va_runV (As := []) (rest := []) ⟨hx, hb, hml, hown, hts⟩ (k_thrown l D cy g0 m0 m1 m2 m3 m4 m5 m6 m7 m8 m9 m10 m11 m12 m13 m14 m15 m16 m17 m18 m19 m20 1 0 0 0 0 0 H.size ) (cwV 0 hts (gzV (gz q571) q570 q572 q573 q285) rfl rfl rfl vX14_thrown ⟨Nat.le_of_ble_eq_true rfl, Nat.le_of_ble_eq_true rfl⟩) (zpV (ci := 17) (T := TX14) (N := 27) (q0 := 0) hK hX hY hP hD hS hA [0] (by decide) rfl rfl rfl) rfl rfl hl.1 rfl (lv_room (Nat.le_of_ble_eq_true rfl)) dL_law_2593 ⟨Nat.le_of_ble_eq_true rfl, Nat.le_of_ble_eq_true rfl⟩) hP hD hS hA [0] [] rfl rfl (by decide) (by decide) (fun x6 u5 H locs hw hP hD hS => ?_)
  obtain rfl : x6 = 1 := hw
  have hP : va_P D vwCl [(g0, .inr (17, [.ref m0, .ref m1, .ref m2, .ref m3, .ref m4, .ref m5, .ref m6, .ref m7, .ref m8, .ref m9, .ref m10, .ref m11, .ref m12, .ref m13, .ref m14, .ref m15, .ref m16, .ref m17, .ref m18, .ref m19, .ref m20, .int 1, .int 0, .int 0, .int 0, .long 0, .int 0]))] H := hP
  have hD : va_D A [(g0, .inr (17, [.ref m0, .ref m1, .ref m2, .ref m3, .ref m4, .ref m5, .ref m6, .ref m7, .ref m8, .ref m9, .ref m10, .ref m11, .ref m12, .ref m13, .ref m14, .ref m15, .ref m16, .ref m17, .ref m18, .ref m19, .ref m20, .int 1, .int 0, .int 0, .int 0, .long 0, .int 0]))] := hD
  refine lv_iload hx hb dL_law_2596 (lv_at hl 1 rfl) ?_
  refine lv_icmp_eq (tgt := 2603) hx hb dL_law_2598 (by decide) (fun _ => ?_) (fun c_2598_6 => absurd (by decide +kernel) c_2598_6)
  refine lv_iload hx hb dL_law_2603 (lv_at hl 1 rfl) ?_
  refine lv_if_ne (tgt := 2640) hx hb dL_law_2605 (by decide) (fun _ => ?_) (fun c_2605_7 => absurd c_2605_7 (by decide +kernel))
  refine lv_goto (tgt := 2706) hx hb dL_law_2640 (by decide) ?_
  exact W.widen (k := 600006) (n := 7302040) (Nat.le_of_ble_eq_true rfl) (Nat.le_of_ble_eq_true rfl) (kt _ _ _ hS (lv_sub hl [2, 7] rfl))
set_option maxHeartbeats 4000000 in
set_option maxRecDepth 100000 in
theorem c_isSound_in (l : Launch) {p : Program} {e : Env} {s : State} {m : MethodId} {below : List Frame} {meth : Method} {c : Code} {D : va_G} {cy : Nat → ClassId} {A : Nat → Prop} {b : Nat} {xs : Nat → Int32} {Q : State → Prop} {H : Heap} {locs : List Loc} {ls : Array Slot} (Z : zLaw l p s m c D cy A b 9 xs) (x0 : Nat) (g0 : Nat) (o1 : Nat) (o2 : Nat) (vC : Nat) (vP : Nat) (vT : Nat) (vS : Nat) (vF : Nat) (vN : Nat) (vY : Nat) (sS : Nat) (sJ : Nat) (j1 : Nat) (j2 : Nat) (j3 : Nat) (jL : Nat) (p1 : Nat) (p2 : Nat) (p3 : Nat) (p4 : Nat) (p5 : Nat) (p6 : Nat) (p7 : Nat) (p8 : Nat) (rn : Nat → Nat) (rt : Nat → Nat) (t1 : Nat) (t2 : Nat) (t3 : Nat) (t4 : Nat) (t5 : Nat) (t6 : Nat) (t7 : Nat) (t8 : Nat) (rn2 : Nat → Nat) (rt2 : Nat → Nat) (m0 : Nat) (m1 : Nat) (m2 : Nat) (m3 : Nat) (m4 : Nat) (m5 : Nat) (m6 : Nat) (m7 : Nat) (m8 : Nat) (m9 : Nat) (m10 : Nat) (m11 : Nat) (m12 : Nat) (m13 : Nat) (m14 : Nat) (m15 : Nat) (m16 : Nat) (m17 : Nat) (m18 : Nat) (m19 : Nat) (m20 : Nat) (hd : zDay (xs 1)) (hP : va_P D vwCl ((x0, .inr (12, [.ref vC, .ref vP, .ref vT, .ref vS, .ref vF, .ref vN, .ref vY, .int 0])) :: (vC, .inr (3, [.ref sS, .ref sJ, .int 0, .int 0])) :: (sJ, .inr (5, [.ref j1, .ref j2, .ref j3, .ref jL, .int 0])) :: (jL, .inl (cy 0, 9, .inl (fun _ => 0))) :: (vP, .inr (7, [.ref vC, .ref p1, .ref p2, .ref p3, .ref p4, .ref p5, .ref p6, .ref p7, .int 0, .long 0, .ref p8, .int 0, .int 0, .long 1])) :: (p1, .inl (cy 0, 9, .inl (fun _ => 0))) :: (p2, .inl (cy 2, 9, .inl (fun _ => 0))) :: (p8, .inl (cy 2, 24, .inl (fun _ => 0))) :: (p3, .inl (cy 0, 9, .inl (fun _ => 0))) :: (p4, .inl (cy 3, 8, .inr (.inr (.inr (.inr (fun k9 => if k9 < 8 then some (rn k9) else none)))))) :: ((rn 0), .inl (cy 1, 11, .inr (.inl (fun _ => 0)))) :: ((rn 1), .inl (cy 1, 11, .inr (.inl (fun _ => 0)))) :: ((rn 2), .inl (cy 1, 11, .inr (.inl (fun _ => 0)))) :: ((rn 3), .inl (cy 1, 11, .inr (.inl (fun _ => 0)))) :: ((rn 4), .inl (cy 1, 11, .inr (.inl (fun _ => 0)))) :: ((rn 5), .inl (cy 1, 11, .inr (.inl (fun _ => 0)))) :: ((rn 6), .inl (cy 1, 11, .inr (.inl (fun _ => 0)))) :: ((rn 7), .inl (cy 1, 11, .inr (.inl (fun _ => 0)))) :: (p5, .inl (cy 3, 9, .inr (.inr (.inr (.inr (fun k9 => if k9 < 9 then some (rt k9) else none)))))) :: ((rt 0), .inl (cy 1, 3, .inr (.inl (fun _ => 0)))) :: ((rt 1), .inl (cy 1, 3, .inr (.inl (fun _ => 0)))) :: ((rt 2), .inl (cy 1, 3, .inr (.inl (fun _ => 0)))) :: ((rt 3), .inl (cy 1, 3, .inr (.inl (fun _ => 0)))) :: ((rt 4), .inl (cy 1, 3, .inr (.inl (fun _ => 0)))) :: ((rt 5), .inl (cy 1, 3, .inr (.inl (fun _ => 0)))) :: ((rt 6), .inl (cy 1, 3, .inr (.inl (fun _ => 0)))) :: ((rt 7), .inl (cy 1, 3, .inr (.inl (fun _ => 0)))) :: ((rt 8), .inl (cy 1, 3, .inr (.inl (fun _ => 0)))) :: (vT, .inr (7, [.ref vC, .ref t1, .ref t2, .ref t3, .ref t4, .ref t5, .ref t6, .ref t7, .int 0, .long 0, .ref t8, .int 0, .int 0, .long 1])) :: (t1, .inl (cy 0, 9, .inl (fun _ => 0))) :: (t2, .inl (cy 2, 9, .inl (fun _ => 0))) :: (t8, .inl (cy 2, 24, .inl (fun _ => 0))) :: (t3, .inl (cy 0, 9, .inl (fun _ => 0))) :: (t4, .inl (cy 3, 8, .inr (.inr (.inr (.inr (fun k9 => if k9 < 8 then some (rn2 k9) else none)))))) :: ((rn2 0), .inl (cy 1, 11, .inr (.inl (fun _ => 0)))) :: ((rn2 1), .inl (cy 1, 11, .inr (.inl (fun _ => 0)))) :: ((rn2 2), .inl (cy 1, 11, .inr (.inl (fun _ => 0)))) :: ((rn2 3), .inl (cy 1, 11, .inr (.inl (fun _ => 0)))) :: ((rn2 4), .inl (cy 1, 11, .inr (.inl (fun _ => 0)))) :: ((rn2 5), .inl (cy 1, 11, .inr (.inl (fun _ => 0)))) :: ((rn2 6), .inl (cy 1, 11, .inr (.inl (fun _ => 0)))) :: ((rn2 7), .inl (cy 1, 11, .inr (.inl (fun _ => 0)))) :: (t5, .inl (cy 3, 9, .inr (.inr (.inr (.inr (fun k9 => if k9 < 9 then some (rt2 k9) else none)))))) :: ((rt2 0), .inl (cy 1, 3, .inr (.inl (fun _ => 0)))) :: ((rt2 1), .inl (cy 1, 3, .inr (.inl (fun _ => 0)))) :: ((rt2 2), .inl (cy 1, 3, .inr (.inl (fun _ => 0)))) :: ((rt2 3), .inl (cy 1, 3, .inr (.inl (fun _ => 0)))) :: ((rt2 4), .inl (cy 1, 3, .inr (.inl (fun _ => 0)))) :: ((rt2 5), .inl (cy 1, 3, .inr (.inl (fun _ => 0)))) :: ((rt2 6), .inl (cy 1, 3, .inr (.inl (fun _ => 0)))) :: ((rt2 7), .inl (cy 1, 3, .inr (.inl (fun _ => 0)))) :: ((rt2 8), .inl (cy 1, 3, .inr (.inl (fun _ => 0)))) :: (o1, .inl (cy 1, 1, .inr (.inl (fun _ => 0)))) :: (g0, .inr (17, [.ref m0, .ref m1, .ref m2, .ref m3, .ref m4, .ref m5, .ref m6, .ref m7, .ref m8, .ref m9, .ref m10, .ref m11, .ref m12, .ref m13, .ref m14, .ref m15, .ref m16, .ref m17, .ref m18, .ref m19, .ref m20, .int 0, .int 0, .int 0, .int 0, .long 0, .int 0])) :: []) H) (hD : va_D A ((x0, .inr (12, [.ref vC, .ref vP, .ref vT, .ref vS, .ref vF, .ref vN, .ref vY, .int 0])) :: (vC, .inr (3, [.ref sS, .ref sJ, .int 0, .int 0])) :: (sJ, .inr (5, [.ref j1, .ref j2, .ref j3, .ref jL, .int 0])) :: (jL, .inl (cy 0, 9, .inl (fun _ => 0))) :: (vP, .inr (7, [.ref vC, .ref p1, .ref p2, .ref p3, .ref p4, .ref p5, .ref p6, .ref p7, .int 0, .long 0, .ref p8, .int 0, .int 0, .long 1])) :: (p1, .inl (cy 0, 9, .inl (fun _ => 0))) :: (p2, .inl (cy 2, 9, .inl (fun _ => 0))) :: (p8, .inl (cy 2, 24, .inl (fun _ => 0))) :: (p3, .inl (cy 0, 9, .inl (fun _ => 0))) :: (p4, .inl (cy 3, 8, .inr (.inr (.inr (.inr (fun k9 => if k9 < 8 then some (rn k9) else none)))))) :: ((rn 0), .inl (cy 1, 11, .inr (.inl (fun _ => 0)))) :: ((rn 1), .inl (cy 1, 11, .inr (.inl (fun _ => 0)))) :: ((rn 2), .inl (cy 1, 11, .inr (.inl (fun _ => 0)))) :: ((rn 3), .inl (cy 1, 11, .inr (.inl (fun _ => 0)))) :: ((rn 4), .inl (cy 1, 11, .inr (.inl (fun _ => 0)))) :: ((rn 5), .inl (cy 1, 11, .inr (.inl (fun _ => 0)))) :: ((rn 6), .inl (cy 1, 11, .inr (.inl (fun _ => 0)))) :: ((rn 7), .inl (cy 1, 11, .inr (.inl (fun _ => 0)))) :: (p5, .inl (cy 3, 9, .inr (.inr (.inr (.inr (fun k9 => if k9 < 9 then some (rt k9) else none)))))) :: ((rt 0), .inl (cy 1, 3, .inr (.inl (fun _ => 0)))) :: ((rt 1), .inl (cy 1, 3, .inr (.inl (fun _ => 0)))) :: ((rt 2), .inl (cy 1, 3, .inr (.inl (fun _ => 0)))) :: ((rt 3), .inl (cy 1, 3, .inr (.inl (fun _ => 0)))) :: ((rt 4), .inl (cy 1, 3, .inr (.inl (fun _ => 0)))) :: ((rt 5), .inl (cy 1, 3, .inr (.inl (fun _ => 0)))) :: ((rt 6), .inl (cy 1, 3, .inr (.inl (fun _ => 0)))) :: ((rt 7), .inl (cy 1, 3, .inr (.inl (fun _ => 0)))) :: ((rt 8), .inl (cy 1, 3, .inr (.inl (fun _ => 0)))) :: (vT, .inr (7, [.ref vC, .ref t1, .ref t2, .ref t3, .ref t4, .ref t5, .ref t6, .ref t7, .int 0, .long 0, .ref t8, .int 0, .int 0, .long 1])) :: (t1, .inl (cy 0, 9, .inl (fun _ => 0))) :: (t2, .inl (cy 2, 9, .inl (fun _ => 0))) :: (t8, .inl (cy 2, 24, .inl (fun _ => 0))) :: (t3, .inl (cy 0, 9, .inl (fun _ => 0))) :: (t4, .inl (cy 3, 8, .inr (.inr (.inr (.inr (fun k9 => if k9 < 8 then some (rn2 k9) else none)))))) :: ((rn2 0), .inl (cy 1, 11, .inr (.inl (fun _ => 0)))) :: ((rn2 1), .inl (cy 1, 11, .inr (.inl (fun _ => 0)))) :: ((rn2 2), .inl (cy 1, 11, .inr (.inl (fun _ => 0)))) :: ((rn2 3), .inl (cy 1, 11, .inr (.inl (fun _ => 0)))) :: ((rn2 4), .inl (cy 1, 11, .inr (.inl (fun _ => 0)))) :: ((rn2 5), .inl (cy 1, 11, .inr (.inl (fun _ => 0)))) :: ((rn2 6), .inl (cy 1, 11, .inr (.inl (fun _ => 0)))) :: ((rn2 7), .inl (cy 1, 11, .inr (.inl (fun _ => 0)))) :: (t5, .inl (cy 3, 9, .inr (.inr (.inr (.inr (fun k9 => if k9 < 9 then some (rt2 k9) else none)))))) :: ((rt2 0), .inl (cy 1, 3, .inr (.inl (fun _ => 0)))) :: ((rt2 1), .inl (cy 1, 3, .inr (.inl (fun _ => 0)))) :: ((rt2 2), .inl (cy 1, 3, .inr (.inl (fun _ => 0)))) :: ((rt2 3), .inl (cy 1, 3, .inr (.inl (fun _ => 0)))) :: ((rt2 4), .inl (cy 1, 3, .inr (.inl (fun _ => 0)))) :: ((rt2 5), .inl (cy 1, 3, .inr (.inl (fun _ => 0)))) :: ((rt2 6), .inl (cy 1, 3, .inr (.inl (fun _ => 0)))) :: ((rt2 7), .inl (cy 1, 3, .inr (.inl (fun _ => 0)))) :: ((rt2 8), .inl (cy 1, 3, .inr (.inl (fun _ => 0)))) :: (o1, .inl (cy 1, 1, .inr (.inl (fun _ => 0)))) :: (g0, .inr (17, [.ref m0, .ref m1, .ref m2, .ref m3, .ref m4, .ref m5, .ref m6, .ref m7, .ref m8, .ref m9, .ref m10, .ref m11, .ref m12, .ref m13, .ref m14, .ref m15, .ref m16, .ref m17, .ref m18, .ref m19, .ref m20, .int 0, .int 0, .int 0, .int 0, .long 0, .int 0])) :: [])) (hS : va_S A s.heap H locs) (hl : lv_has ls 9 [(0, .ref b), (1, .ref x0), (2, .ref g0), (3, .ref o1), (4, .ref o2), (5, .int 0)]) (kt : ∀ (H : Heap) (locs : List Loc) (ls : Array Slot), va_S A s.heap H locs → lv_has ls 9 [(0, .ref b), (5, .int 0)] → W p l e room_1 s m #[Value.ref b] below meth c H locs 600006 7302040 Q (F0 m 2706 ls [])) : W p l e room_1 s m #[Value.ref b] below meth c H locs 213 25112 Q (F0 m 2643 ls []) := by
  obtain ⟨hx, hb, hml, hown, hts, hK, hX, hY, hA, hXs, hbl, hbA, hlt⟩ := id Z
  refine lv_aload_n hx hb dL_law_2643 rfl (lv_at hl 1 rfl) ?_
  refine lv_aload_n hx hb dL_law_2644 rfl (lv_at hl 0 rfl) ?_
  refine lv_iload hx hb dL_law_2645 (lv_at hl 5 rfl) ?_
  refine lv_iconst (v := 1) hx hb dL_law_2647 (by decide) ?_
  refine lv_iadd hx hb dL_law_2648 ?_
  refine lv_topi (fun y1 ey1 => ?_)
  obtain rfl : y1 = 1 := ey1.trans (by decide +kernel)
  refine va_sld hx hb hXs hbl hbA hS (z_in 1 (by decide) (by decide)) dL_law_2649 ?_
  refine lv_topi (fun y2 ey2 => ?_)
  obtain rfl : y2 = (xs 1) := ey2.trans rfl
  refine lv_aload_n hx hb dL_law_2650 rfl (lv_at hl 3 rfl) ?_
  refine zq_i (wc := ((x0, .inr (12, [.ref vC, .ref vP, .ref vT, .ref vS, .ref vF, .ref vN, .ref vY, .int 0])) :: (vC, .inr (3, [.ref sS, .ref sJ, .int 0, .int 0])) :: (sJ, .inr (5, [.ref j1, .ref j2, .ref j3, .ref jL, .int 0])) :: (jL, .inl (cy 0, 9, .inl (fun _ => 0))) :: (vP, .inr (7, [.ref vC, .ref p1, .ref p2, .ref p3, .ref p4, .ref p5, .ref p6, .ref p7, .int 0, .long 0, .ref p8, .int 0, .int 0, .long 1])) :: (p1, .inl (cy 0, 9, .inl (fun _ => 0))) :: (p2, .inl (cy 2, 9, .inl (fun _ => 0))) :: (p8, .inl (cy 2, 24, .inl (fun _ => 0))) :: (p3, .inl (cy 0, 9, .inl (fun _ => 0))) :: (p4, .inl (cy 3, 8, .inr (.inr (.inr (.inr (fun k9 => if k9 < 8 then some (rn k9) else none)))))) :: ((rn 0), .inl (cy 1, 11, .inr (.inl (fun _ => 0)))) :: ((rn 1), .inl (cy 1, 11, .inr (.inl (fun _ => 0)))) :: ((rn 2), .inl (cy 1, 11, .inr (.inl (fun _ => 0)))) :: ((rn 3), .inl (cy 1, 11, .inr (.inl (fun _ => 0)))) :: ((rn 4), .inl (cy 1, 11, .inr (.inl (fun _ => 0)))) :: ((rn 5), .inl (cy 1, 11, .inr (.inl (fun _ => 0)))) :: ((rn 6), .inl (cy 1, 11, .inr (.inl (fun _ => 0)))) :: ((rn 7), .inl (cy 1, 11, .inr (.inl (fun _ => 0)))) :: (p5, .inl (cy 3, 9, .inr (.inr (.inr (.inr (fun k9 => if k9 < 9 then some (rt k9) else none)))))) :: ((rt 0), .inl (cy 1, 3, .inr (.inl (fun _ => 0)))) :: ((rt 1), .inl (cy 1, 3, .inr (.inl (fun _ => 0)))) :: ((rt 2), .inl (cy 1, 3, .inr (.inl (fun _ => 0)))) :: ((rt 3), .inl (cy 1, 3, .inr (.inl (fun _ => 0)))) :: ((rt 4), .inl (cy 1, 3, .inr (.inl (fun _ => 0)))) :: ((rt 5), .inl (cy 1, 3, .inr (.inl (fun _ => 0)))) :: ((rt 6), .inl (cy 1, 3, .inr (.inl (fun _ => 0)))) :: ((rt 7), .inl (cy 1, 3, .inr (.inl (fun _ => 0)))) :: ((rt 8), .inl (cy 1, 3, .inr (.inl (fun _ => 0)))) :: (vT, .inr (7, [.ref vC, .ref t1, .ref t2, .ref t3, .ref t4, .ref t5, .ref t6, .ref t7, .int 0, .long 0, .ref t8, .int 0, .int 0, .long 1])) :: (t1, .inl (cy 0, 9, .inl (fun _ => 0))) :: (t2, .inl (cy 2, 9, .inl (fun _ => 0))) :: (t8, .inl (cy 2, 24, .inl (fun _ => 0))) :: (t3, .inl (cy 0, 9, .inl (fun _ => 0))) :: (t4, .inl (cy 3, 8, .inr (.inr (.inr (.inr (fun k9 => if k9 < 8 then some (rn2 k9) else none)))))) :: ((rn2 0), .inl (cy 1, 11, .inr (.inl (fun _ => 0)))) :: ((rn2 1), .inl (cy 1, 11, .inr (.inl (fun _ => 0)))) :: ((rn2 2), .inl (cy 1, 11, .inr (.inl (fun _ => 0)))) :: ((rn2 3), .inl (cy 1, 11, .inr (.inl (fun _ => 0)))) :: ((rn2 4), .inl (cy 1, 11, .inr (.inl (fun _ => 0)))) :: ((rn2 5), .inl (cy 1, 11, .inr (.inl (fun _ => 0)))) :: ((rn2 6), .inl (cy 1, 11, .inr (.inl (fun _ => 0)))) :: ((rn2 7), .inl (cy 1, 11, .inr (.inl (fun _ => 0)))) :: (t5, .inl (cy 3, 9, .inr (.inr (.inr (.inr (fun k9 => if k9 < 9 then some (rt2 k9) else none)))))) :: ((rt2 0), .inl (cy 1, 3, .inr (.inl (fun _ => 0)))) :: ((rt2 1), .inl (cy 1, 3, .inr (.inl (fun _ => 0)))) :: ((rt2 2), .inl (cy 1, 3, .inr (.inl (fun _ => 0)))) :: ((rt2 3), .inl (cy 1, 3, .inr (.inl (fun _ => 0)))) :: ((rt2 4), .inl (cy 1, 3, .inr (.inl (fun _ => 0)))) :: ((rt2 5), .inl (cy 1, 3, .inr (.inl (fun _ => 0)))) :: ((rt2 6), .inl (cy 1, 3, .inr (.inl (fun _ => 0)))) :: ((rt2 7), .inl (cy 1, 3, .inr (.inl (fun _ => 0)))) :: ((rt2 8), .inl (cy 1, 3, .inr (.inl (fun _ => 0)))) :: (o1, .inl (cy 1, 1, .inr (.inl (fun _ => 0)))) :: [])) (wr := [(g0, .inr (17, [.ref m0, .ref m1, .ref m2, .ref m3, .ref m4, .ref m5, .ref m6, .ref m7, .ref m8, .ref m9, .ref m10, .ref m11, .ref m12, .ref m13, .ref m14, .ref m15, .ref m16, .ref m17, .ref m18, .ref m19, .ref m20, .int 0, .int 0, .int 0, .int 0, .long 0, .int 0]))]) (vx_runSW (As := [.ref x0, .int (xs 1), .ref o1]) (rest := []) ⟨hx, hb, hml, hown, hts⟩ (w_isSound_in l hlt D cy x0 vC vP vT vS vF vN vY sS sJ j1 j2 j3 jL p1 p2 p3 p4 p5 p6 p7 p8 rn rt t1 t2 t3 t4 t5 t6 t7 t8 rn2 rt2 (xs 1) o1 H.size hd) (vx_cwSW 3 hts (gzS (gzW q837) q836 q838 q565) rfl rfl rfl vL_isSound.2 ⟨Nat.le_of_ble_eq_true rfl, Nat.le_of_ble_eq_true rfl⟩) (zpS hK hX hY hP hD hS hA (0 :: 1 :: 2 :: 3 :: 4 :: 5 :: 6 :: 7 :: 8 :: 9 :: 10 :: 11 :: 12 :: 13 :: 14 :: 15 :: 16 :: 17 :: 18 :: 19 :: 20 :: 21 :: 22 :: 23 :: 24 :: 25 :: 26 :: 27 :: 28 :: 29 :: 30 :: 31 :: 32 :: 33 :: 34 :: 35 :: 36 :: 37 :: 38 :: 39 :: 40 :: 41 :: 42 :: 43 :: 44 :: 45 :: 46 :: 47 :: 48 :: 49 :: 50 :: 51 :: 52 :: []) (by decide) rfl) rfl rfl hl.1 rfl (lv_room (Nat.le_of_ble_eq_true rfl)) dL_law_2651 ⟨Nat.le_of_ble_eq_true rfl, Nat.le_of_ble_eq_true rfl⟩) hP hD hS hA (0 :: 1 :: 2 :: 3 :: 4 :: 5 :: 6 :: 7 :: 8 :: 9 :: 10 :: 11 :: 12 :: 13 :: 14 :: 15 :: 16 :: 17 :: 18 :: 19 :: 20 :: 21 :: 22 :: 23 :: 24 :: 25 :: 26 :: 27 :: 28 :: 29 :: 30 :: 31 :: 32 :: 33 :: 34 :: 35 :: 36 :: 37 :: 38 :: 39 :: 40 :: 41 :: 42 :: 43 :: 44 :: 45 :: 46 :: 47 :: 48 :: 49 :: 50 :: 51 :: 52 :: []) [53] rfl rfl (by decide) (by decide) (fun x4 u3 H locs hw hP hD hS => ?_)
  obtain rfl : x4 = 0 := hw
  have hP : va_P D vwCl [(g0, .inr (17, [.ref m0, .ref m1, .ref m2, .ref m3, .ref m4, .ref m5, .ref m6, .ref m7, .ref m8, .ref m9, .ref m10, .ref m11, .ref m12, .ref m13, .ref m14, .ref m15, .ref m16, .ref m17, .ref m18, .ref m19, .ref m20, .int 0, .int 0, .int 0, .int 0, .long 0, .int 0])), (o1, .inl (cy 1, 1, .inr (.inl (fun _ => 1))))] H := hP
  have hD : va_D A [(g0, .inr (17, [.ref m0, .ref m1, .ref m2, .ref m3, .ref m4, .ref m5, .ref m6, .ref m7, .ref m8, .ref m9, .ref m10, .ref m11, .ref m12, .ref m13, .ref m14, .ref m15, .ref m16, .ref m17, .ref m18, .ref m19, .ref m20, .int 0, .int 0, .int 0, .int 0, .long 0, .int 0])), (o1, .inl (cy 1, 1, .inr (.inl (fun _ => 1))))] := hD
  refine lv_istore (lv' := [(6, .int 0), (0, .ref b), (1, .ref x0), (2, .ref g0), (3, .ref o1), (4, .ref o2), (5, .int 0)]) hx hb dL_law_2654 hl (by decide) rfl (fun ls hl => ?_)
  refine lv_aload_n hx hb dL_law_2656 rfl (lv_at hl 3 rfl) ?_
  refine lv_aload_n hx hb dL_law_2657 rfl (lv_at hl 1 rfl) ?_
  refine lv_iload hx hb dL_law_2658 (lv_at hl 6 rfl) ?_
  refine lv_iconst (v := 1) hx hb dL_law_2660 (by decide) ?_
  refine lv_iadd hx hb dL_law_2661 ?_
  refine lv_topi (fun y5 ey5 => ?_)
  obtain rfl : y5 = 1 := ey5.trans (by decide +kernel)
  refine va_sld hx hb hXs hbl hbA hS (z_in 1 (by decide) (by decide)) dL_law_2662 ?_
  refine lv_topi (fun y6 ey6 => ?_)
  obtain rfl : y6 = (xs 1) := ey6.trans rfl
  refine zq_i (wc := [(g0, .inr (17, [.ref m0, .ref m1, .ref m2, .ref m3, .ref m4, .ref m5, .ref m6, .ref m7, .ref m8, .ref m9, .ref m10, .ref m11, .ref m12, .ref m13, .ref m14, .ref m15, .ref m16, .ref m17, .ref m18, .ref m19, .ref m20, .int 0, .int 0, .int 0, .int 0, .long 0, .int 0]))]) (wr := [(o1, .inl (cy 1, 1, .inr (.inl (fun _ => 1))))]) (va_runV (As := [.int (xs 1)]) (rest := []) ⟨hx, hb, hml, hown, hts⟩ (g_isSound_in l D cy g0 m0 m1 m2 m3 m4 m5 m6 m7 m8 m9 m10 m11 m12 m13 m14 m15 m16 m17 m18 m19 m20 (xs 1) H.size hd) (cwV 1 hts (gzV (gz q840) q839 q841 q842 q285) rfl rfl rfl vX14_isSound ⟨Nat.le_of_ble_eq_true rfl, Nat.le_of_ble_eq_true rfl⟩) (zpV (ci := 17) (T := TX14) (N := 27) (q0 := 0) hK hX hY hP hD hS hA [0] (by decide) rfl rfl rfl) rfl rfl hl.1 rfl (lv_room (Nat.le_of_ble_eq_true rfl)) dL_law_2663 ⟨Nat.le_of_ble_eq_true rfl, Nat.le_of_ble_eq_true rfl⟩) hP hD hS hA [0] [1] rfl rfl (by decide) (by decide) (fun x8 u7 H locs hw hP hD hS => ?_)
  obtain rfl : x8 = 1 := hw
  have hP : va_P D vwCl [(o1, .inl (cy 1, 1, .inr (.inl (fun _ => 1)))), (g0, .inr (17, [.ref m0, .ref m1, .ref m2, .ref m3, .ref m4, .ref m5, .ref m6, .ref m7, .ref m8, .ref m9, .ref m10, .ref m11, .ref m12, .ref m13, .ref m14, .ref m15, .ref m16, .ref m17, .ref m18, .ref m19, .ref m20, .int 0, .int 0, .int 0, .int 0, .long 0, .int 0]))] H := hP
  have hD : va_D A [(o1, .inl (cy 1, 1, .inr (.inl (fun _ => 1)))), (g0, .inr (17, [.ref m0, .ref m1, .ref m2, .ref m3, .ref m4, .ref m5, .ref m6, .ref m7, .ref m8, .ref m9, .ref m10, .ref m11, .ref m12, .ref m13, .ref m14, .ref m15, .ref m16, .ref m17, .ref m18, .ref m19, .ref m20, .int 0, .int 0, .int 0, .int 0, .long 0, .int 0]))] := hD
  refine lv_istore (lv' := [(7, .int 1), (6, .int 0), (0, .ref b), (1, .ref x0), (2, .ref g0), (3, .ref o1), (4, .ref o2), (5, .int 0)]) hx hb dL_law_2666 hl (by decide) rfl (fun ls hl => ?_)
  refine lv_aload_n hx hb dL_law_2668 rfl (lv_at hl 4 rfl) ?_
  refine zq_i (wc := [(g0, .inr (17, [.ref m0, .ref m1, .ref m2, .ref m3, .ref m4, .ref m5, .ref m6, .ref m7, .ref m8, .ref m9, .ref m10, .ref m11, .ref m12, .ref m13, .ref m14, .ref m15, .ref m16, .ref m17, .ref m18, .ref m19, .ref m20, .int 0, .int 0, .int 0, .int 0, .long 0, .int 0]))]) (wr := [(o1, .inl (cy 1, 1, .inr (.inl (fun _ => 1))))]) (va_runV (As := []) (rest := []) ⟨hx, hb, hml, hown, hts⟩ (k_thrown l D cy g0 m0 m1 m2 m3 m4 m5 m6 m7 m8 m9 m10 m11 m12 m13 m14 m15 m16 m17 m18 m19 m20 0 0 0 0 0 0 H.size ) (cwV 0 hts (gzV (gz q571) q570 q572 q573 q285) rfl rfl rfl vX14_thrown ⟨Nat.le_of_ble_eq_true rfl, Nat.le_of_ble_eq_true rfl⟩) (zpV (ci := 17) (T := TX14) (N := 27) (q0 := 0) hK hX hY hP hD hS hA [1] (by decide) rfl rfl rfl) rfl rfl hl.1 rfl (lv_room (Nat.le_of_ble_eq_true rfl)) dL_law_2669 ⟨Nat.le_of_ble_eq_true rfl, Nat.le_of_ble_eq_true rfl⟩) hP hD hS hA [1] [0] rfl rfl (by decide) (by decide) (fun x10 u9 H locs hw hP hD hS => ?_)
  obtain rfl : x10 = 0 := hw
  have hP : va_P D vwCl [(o1, .inl (cy 1, 1, .inr (.inl (fun _ => 1)))), (g0, .inr (17, [.ref m0, .ref m1, .ref m2, .ref m3, .ref m4, .ref m5, .ref m6, .ref m7, .ref m8, .ref m9, .ref m10, .ref m11, .ref m12, .ref m13, .ref m14, .ref m15, .ref m16, .ref m17, .ref m18, .ref m19, .ref m20, .int 0, .int 0, .int 0, .int 0, .long 0, .int 0]))] H := hP
  have hD : va_D A [(o1, .inl (cy 1, 1, .inr (.inl (fun _ => 1)))), (g0, .inr (17, [.ref m0, .ref m1, .ref m2, .ref m3, .ref m4, .ref m5, .ref m6, .ref m7, .ref m8, .ref m9, .ref m10, .ref m11, .ref m12, .ref m13, .ref m14, .ref m15, .ref m16, .ref m17, .ref m18, .ref m19, .ref m20, .int 0, .int 0, .int 0, .int 0, .long 0, .int 0]))] := hD
  refine lv_iload hx hb dL_law_2672 (lv_at hl 1 rfl) ?_
  refine lv_icmp_eq (tgt := 2679) hx hb dL_law_2674 (by decide) (fun _ => ?_) (fun c_2674_10 => absurd (by decide +kernel) c_2674_10)
  refine lv_iload hx hb dL_law_2679 (lv_at hl 1 rfl) ?_
  refine lv_if_ne (tgt := 2703) hx hb dL_law_2681 (by decide) (fun c_2681_11 => absurd (by decide +kernel) c_2681_11) (fun _ => ?_)
  refine lv_aload_n hx hb dL_law_2684 rfl (lv_at hl 5 rfl) ?_
  refine lv_iconst (v := 0) hx hb dL_law_2685 (by decide) ?_
  refine va_lald hx hb hK hP 0 1 rfl rfl (z_in 0 (by decide) (by decide)) dL_law_2686 ?_
  refine lv_topl (fun y13 ey13 => ?_)
  obtain rfl : y13 = 1 := ey13.trans rfl
  refine lv_iload hx hb dL_law_2687 (lv_at hl 0 rfl) ?_
  refine lv_if_eq (tgt := 2696) hx hb dL_law_2689 (by decide) (fun c_2689_13 => absurd c_2689_13 (by decide +kernel)) (fun _ => ?_)
  refine lv_lconst (v := 1) hx hb dL_law_2692 rfl ?_
  refine lv_goto (tgt := 2697) hx hb dL_law_2693 (by decide) ?_
  refine W.lcmp hx hb dL_law_2697 ?_
  refine lv_topi (fun y15 ey15 => ?_)
  obtain rfl : y15 = 0 := ey15.trans (by decide +kernel)
  refine lv_if_eq (tgt := 2703) hx hb dL_law_2698 (by decide) (fun _ => ?_) (fun c_2698_15 => absurd (by decide +kernel) c_2698_15)
  refine lv_goto (tgt := 2706) hx hb dL_law_2703 (by decide) ?_
  exact W.widen (k := 600006) (n := 7302040) (Nat.le_of_ble_eq_true rfl) (Nat.le_of_ble_eq_true rfl) (kt _ _ _ hS (lv_sub hl [2, 7] rfl))
set_option maxHeartbeats 4000000 in
set_option maxRecDepth 100000 in
theorem c_isSound_no (l : Launch) {p : Program} {e : Env} {s : State} {m : MethodId} {below : List Frame} {meth : Method} {c : Code} {D : va_G} {cy : Nat → ClassId} {A : Nat → Prop} {b : Nat} {xs : Nat → Int32} {Q : State → Prop} {H : Heap} {locs : List Loc} {ls : Array Slot} (Z : zLaw l p s m c D cy A b 9 xs) (x0 : Nat) (g0 : Nat) (o1 : Nat) (o2 : Nat) (vC : Nat) (vP : Nat) (vT : Nat) (vS : Nat) (vF : Nat) (vN : Nat) (vY : Nat) (m0 : Nat) (m1 : Nat) (m2 : Nat) (m3 : Nat) (m4 : Nat) (m5 : Nat) (m6 : Nat) (m7 : Nat) (m8 : Nat) (m9 : Nat) (m10 : Nat) (m11 : Nat) (m12 : Nat) (m13 : Nat) (m14 : Nat) (m15 : Nat) (m16 : Nat) (m17 : Nat) (m18 : Nat) (m19 : Nat) (m20 : Nat) (hd : zNoDay (xs 1)) (hP : va_P D vwCl [(x0, .inr (12, [.ref vC, .ref vP, .ref vT, .ref vS, .ref vF, .ref vN, .ref vY, .int 0])), (g0, .inr (17, [.ref m0, .ref m1, .ref m2, .ref m3, .ref m4, .ref m5, .ref m6, .ref m7, .ref m8, .ref m9, .ref m10, .ref m11, .ref m12, .ref m13, .ref m14, .ref m15, .ref m16, .ref m17, .ref m18, .ref m19, .ref m20, .int 0, .int 0, .int 0, .int 0, .long 0, .int 0]))] H) (hD : va_D A [(x0, .inr (12, [.ref vC, .ref vP, .ref vT, .ref vS, .ref vF, .ref vN, .ref vY, .int 0])), (g0, .inr (17, [.ref m0, .ref m1, .ref m2, .ref m3, .ref m4, .ref m5, .ref m6, .ref m7, .ref m8, .ref m9, .ref m10, .ref m11, .ref m12, .ref m13, .ref m14, .ref m15, .ref m16, .ref m17, .ref m18, .ref m19, .ref m20, .int 0, .int 0, .int 0, .int 0, .long 0, .int 0]))]) (hS : va_S A s.heap H locs) (hl : lv_has ls 9 [(0, .ref b), (1, .ref x0), (2, .ref g0), (3, .ref o1), (4, .ref o2), (5, .int 0)]) (kt : ∀ (H : Heap) (locs : List Loc) (ls : Array Slot), va_S A s.heap H locs → lv_has ls 9 [(0, .ref b), (5, .int 0)] → W p l e room_1 s m #[Value.ref b] below meth c H locs 600006 7302040 Q (F0 m 2706 ls [])) : W p l e room_1 s m #[Value.ref b] below meth c H locs 213 25112 Q (F0 m 2643 ls []) := by
  obtain ⟨hx, hb, hml, hown, hts, hK, hX, hY, hA, hXs, hbl, hbA, hlt⟩ := id Z
  refine lv_aload_n hx hb dL_law_2643 rfl (lv_at hl 1 rfl) ?_
  refine lv_aload_n hx hb dL_law_2644 rfl (lv_at hl 0 rfl) ?_
  refine lv_iload hx hb dL_law_2645 (lv_at hl 5 rfl) ?_
  refine lv_iconst (v := 1) hx hb dL_law_2647 (by decide) ?_
  refine lv_iadd hx hb dL_law_2648 ?_
  refine lv_topi (fun y1 ey1 => ?_)
  obtain rfl : y1 = 1 := ey1.trans (by decide +kernel)
  refine va_sld hx hb hXs hbl hbA hS (z_in 1 (by decide) (by decide)) dL_law_2649 ?_
  refine lv_topi (fun y2 ey2 => ?_)
  obtain rfl : y2 = (xs 1) := ey2.trans rfl
  refine lv_aload_n hx hb dL_law_2650 rfl (lv_at hl 3 rfl) ?_
  refine zq_i (wc := [(x0, .inr (12, [.ref vC, .ref vP, .ref vT, .ref vS, .ref vF, .ref vN, .ref vY, .int 0]))]) (wr := [(g0, .inr (17, [.ref m0, .ref m1, .ref m2, .ref m3, .ref m4, .ref m5, .ref m6, .ref m7, .ref m8, .ref m9, .ref m10, .ref m11, .ref m12, .ref m13, .ref m14, .ref m15, .ref m16, .ref m17, .ref m18, .ref m19, .ref m20, .int 0, .int 0, .int 0, .int 0, .long 0, .int 0]))]) (vx_runSW (As := [.ref x0, .int (xs 1), .ref o1]) (rest := []) ⟨hx, hb, hml, hown, hts⟩ (w_isSound_no l hlt D cy x0 vC vP vT vS vF vN vY (xs 1) o1 H.size hd) (vx_cwSW 3 hts (gzS (gzW q837) q836 q838 q565) rfl rfl rfl vL_isSound.2 ⟨Nat.le_of_ble_eq_true rfl, Nat.le_of_ble_eq_true rfl⟩) (zpS hK hX hY hP hD hS hA [0] (by decide) rfl) rfl rfl hl.1 rfl (lv_room (Nat.le_of_ble_eq_true rfl)) dL_law_2651 ⟨Nat.le_of_ble_eq_true rfl, Nat.le_of_ble_eq_true rfl⟩) hP hD hS hA [0] [1] rfl rfl (by decide) (by decide) (fun x4 u3 H locs hw hP hD hS => ?_)
  obtain rfl : x4 = 1 := hw
  have hP : va_P D vwCl [(g0, .inr (17, [.ref m0, .ref m1, .ref m2, .ref m3, .ref m4, .ref m5, .ref m6, .ref m7, .ref m8, .ref m9, .ref m10, .ref m11, .ref m12, .ref m13, .ref m14, .ref m15, .ref m16, .ref m17, .ref m18, .ref m19, .ref m20, .int 0, .int 0, .int 0, .int 0, .long 0, .int 0]))] H := hP
  have hD : va_D A [(g0, .inr (17, [.ref m0, .ref m1, .ref m2, .ref m3, .ref m4, .ref m5, .ref m6, .ref m7, .ref m8, .ref m9, .ref m10, .ref m11, .ref m12, .ref m13, .ref m14, .ref m15, .ref m16, .ref m17, .ref m18, .ref m19, .ref m20, .int 0, .int 0, .int 0, .int 0, .long 0, .int 0]))] := hD
  refine W.widen (k := 214) (n := 25118) (by omega) (by omega) ?_
  refine lv_istore (lv' := [(6, .int 1), (0, .ref b), (1, .ref x0), (2, .ref g0), (3, .ref o1), (4, .ref o2), (5, .int 0)]) hx hb dL_law_2654 hl (by decide) rfl (fun ls hl => ?_)
  refine lv_aload_n hx hb dL_law_2656 rfl (lv_at hl 3 rfl) ?_
  refine lv_aload_n hx hb dL_law_2657 rfl (lv_at hl 1 rfl) ?_
  refine lv_iload hx hb dL_law_2658 (lv_at hl 6 rfl) ?_
  refine lv_iconst (v := 1) hx hb dL_law_2660 (by decide) ?_
  refine lv_iadd hx hb dL_law_2661 ?_
  refine lv_topi (fun y5 ey5 => ?_)
  obtain rfl : y5 = 1 := ey5.trans (by decide +kernel)
  refine va_sld hx hb hXs hbl hbA hS (z_in 1 (by decide) (by decide)) dL_law_2662 ?_
  refine lv_topi (fun y6 ey6 => ?_)
  obtain rfl : y6 = (xs 1) := ey6.trans rfl
  refine zq_i (wc := [(g0, .inr (17, [.ref m0, .ref m1, .ref m2, .ref m3, .ref m4, .ref m5, .ref m6, .ref m7, .ref m8, .ref m9, .ref m10, .ref m11, .ref m12, .ref m13, .ref m14, .ref m15, .ref m16, .ref m17, .ref m18, .ref m19, .ref m20, .int 0, .int 0, .int 0, .int 0, .long 0, .int 0]))]) (wr := []) (va_runV (As := [.int (xs 1)]) (rest := []) ⟨hx, hb, hml, hown, hts⟩ (g_isSound_no l D cy g0 m0 m1 m2 m3 m4 m5 m6 m7 m8 m9 m10 m11 m12 m13 m14 m15 m16 m17 m18 m19 m20 (xs 1) H.size hd) (cwV 1 hts (gzV (gz q840) q839 q841 q842 q285) rfl rfl rfl vX14_isSound ⟨Nat.le_of_ble_eq_true rfl, Nat.le_of_ble_eq_true rfl⟩) (zpV (ci := 17) (T := TX14) (N := 27) (q0 := 0) hK hX hY hP hD hS hA [0] (by decide) rfl rfl rfl) rfl rfl hl.1 rfl (lv_room (Nat.le_of_ble_eq_true rfl)) dL_law_2663 ⟨Nat.le_of_ble_eq_true rfl, Nat.le_of_ble_eq_true rfl⟩) hP hD hS hA [0] [] rfl rfl (by decide) (by decide) (fun x8 u7 H locs hw hP hD hS => ?_)
  obtain rfl : x8 = 0 := hw
  have hP : va_P D vwCl [(g0, .inr (17, [.ref m0, .ref m1, .ref m2, .ref m3, .ref m4, .ref m5, .ref m6, .ref m7, .ref m8, .ref m9, .ref m10, .ref m11, .ref m12, .ref m13, .ref m14, .ref m15, .ref m16, .ref m17, .ref m18, .ref m19, .ref m20, .int 1, .int 0, .int 0, .int 0, .long 0, .int 0]))] H := hP
  have hD : va_D A [(g0, .inr (17, [.ref m0, .ref m1, .ref m2, .ref m3, .ref m4, .ref m5, .ref m6, .ref m7, .ref m8, .ref m9, .ref m10, .ref m11, .ref m12, .ref m13, .ref m14, .ref m15, .ref m16, .ref m17, .ref m18, .ref m19, .ref m20, .int 1, .int 0, .int 0, .int 0, .long 0, .int 0]))] := hD
  refine lv_istore (lv' := [(7, .int 0), (6, .int 1), (0, .ref b), (1, .ref x0), (2, .ref g0), (3, .ref o1), (4, .ref o2), (5, .int 0)]) hx hb dL_law_2666 hl (by decide) rfl (fun ls hl => ?_)
  refine lv_aload_n hx hb dL_law_2668 rfl (lv_at hl 4 rfl) ?_
  refine zq_i (wc := [(g0, .inr (17, [.ref m0, .ref m1, .ref m2, .ref m3, .ref m4, .ref m5, .ref m6, .ref m7, .ref m8, .ref m9, .ref m10, .ref m11, .ref m12, .ref m13, .ref m14, .ref m15, .ref m16, .ref m17, .ref m18, .ref m19, .ref m20, .int 1, .int 0, .int 0, .int 0, .long 0, .int 0]))]) (wr := []) (va_runV (As := []) (rest := []) ⟨hx, hb, hml, hown, hts⟩ (k_thrown l D cy g0 m0 m1 m2 m3 m4 m5 m6 m7 m8 m9 m10 m11 m12 m13 m14 m15 m16 m17 m18 m19 m20 1 0 0 0 0 0 H.size ) (cwV 0 hts (gzV (gz q571) q570 q572 q573 q285) rfl rfl rfl vX14_thrown ⟨Nat.le_of_ble_eq_true rfl, Nat.le_of_ble_eq_true rfl⟩) (zpV (ci := 17) (T := TX14) (N := 27) (q0 := 0) hK hX hY hP hD hS hA [0] (by decide) rfl rfl rfl) rfl rfl hl.1 rfl (lv_room (Nat.le_of_ble_eq_true rfl)) dL_law_2669 ⟨Nat.le_of_ble_eq_true rfl, Nat.le_of_ble_eq_true rfl⟩) hP hD hS hA [0] [] rfl rfl (by decide) (by decide) (fun x10 u9 H locs hw hP hD hS => ?_)
  obtain rfl : x10 = 1 := hw
  have hP : va_P D vwCl [(g0, .inr (17, [.ref m0, .ref m1, .ref m2, .ref m3, .ref m4, .ref m5, .ref m6, .ref m7, .ref m8, .ref m9, .ref m10, .ref m11, .ref m12, .ref m13, .ref m14, .ref m15, .ref m16, .ref m17, .ref m18, .ref m19, .ref m20, .int 1, .int 0, .int 0, .int 0, .long 0, .int 0]))] H := hP
  have hD : va_D A [(g0, .inr (17, [.ref m0, .ref m1, .ref m2, .ref m3, .ref m4, .ref m5, .ref m6, .ref m7, .ref m8, .ref m9, .ref m10, .ref m11, .ref m12, .ref m13, .ref m14, .ref m15, .ref m16, .ref m17, .ref m18, .ref m19, .ref m20, .int 1, .int 0, .int 0, .int 0, .long 0, .int 0]))] := hD
  refine lv_iload hx hb dL_law_2672 (lv_at hl 1 rfl) ?_
  refine lv_icmp_eq (tgt := 2679) hx hb dL_law_2674 (by decide) (fun _ => ?_) (fun c_2674_10 => absurd (by decide +kernel) c_2674_10)
  refine lv_iload hx hb dL_law_2679 (lv_at hl 1 rfl) ?_
  refine lv_if_ne (tgt := 2703) hx hb dL_law_2681 (by decide) (fun _ => ?_) (fun c_2681_11 => absurd c_2681_11 (by decide +kernel))
  refine lv_goto (tgt := 2706) hx hb dL_law_2703 (by decide) ?_
  exact W.widen (k := 600006) (n := 7302040) (Nat.le_of_ble_eq_true rfl) (Nat.le_of_ble_eq_true rfl) (kt _ _ _ hS (lv_sub hl [2, 7] rfl))
