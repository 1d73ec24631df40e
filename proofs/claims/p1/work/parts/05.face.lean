abbrev cX9_allFaults : ByteArray := prog_1_method_12_code
def yX9_allFaults : MethodName := ⟨RX9, "allFaults", "(I)J"⟩
abbrev cX9_allSteps : ByteArray := prog_1_method_37_code
def yX9_allSteps : MethodName := ⟨RX9, "allSteps", "()J"⟩
abbrev cX9_blunder : ByteArray := prog_1_method_13_code
def yX9_blunder : MethodName := ⟨RX9, "blunder", "(I)I"⟩
abbrev cX9_bottom : ByteArray := prog_1_method_9_code
def yX9_bottom : MethodName := ⟨RX9, "bottom", "(III)J"⟩
abbrev cX9_conduit : ByteArray := prog_1_method_17_code
def yX9_conduit : MethodName := ⟨RX9, "conduit", "(IIII)I"⟩
abbrev cX9_depth : ByteArray := prog_1_method_15_code
def yX9_depth : MethodName := ⟨RX9, "depth", "(I)J"⟩
abbrev cX9_drawFor : ByteArray := prog_1_method_49_code
def yX9_drawFor : MethodName := ⟨RX9, "drawFor", "(I)V"⟩
abbrev cX9_fault : ByteArray := prog_1_method_11_code
def yX9_fault : MethodName := ⟨RX9, "fault", "(II)J"⟩
abbrev cX9_findBlunder : ByteArray := prog_1_method_48_code
def yX9_findBlunder : MethodName := ⟨RX9, "findBlunder", "(I)I"⟩
abbrev cX9_flooredTimes : ByteArray := prog_1_method_50_code
def yX9_flooredTimes : MethodName := ⟨RX9, "flooredTimes", "(JJJ)J"⟩
abbrev cX9_go : ByteArray := prog_1_method_28_code
def yX9_go : MethodName := ⟨RX9, "go", "(II)I"⟩
abbrev cX9_hourOf : ByteArray := prog_1_method_31_code
def yX9_hourOf : MethodName := ⟨RX9, "hourOf", "(I)I"⟩
abbrev cX9_hungShare : ByteArray := prog_1_method_38_code
def yX9_hungShare : MethodName := ⟨RX9, "hungShare", "(I)F"⟩
abbrev cX9_isClosed : ByteArray := prog_1_method_24_code
def yX9_isClosed : MethodName := ⟨RX9, "isClosed", "(II)Z"⟩
abbrev cX9_isHung : ByteArray := prog_1_method_7_code
def yX9_isHung : MethodName := ⟨RX9, "isHung", "(II)Z"⟩
abbrev cX9_isSound : ByteArray := prog_1_method_40_code
def yX9_isSound : MethodName := ⟨RX9, "isSound", "(I)Z"⟩
abbrev cX9_join : ByteArray := prog_1_method_5_code
def yX9_join : MethodName := ⟨RX9, "join", "(III)Z"⟩
abbrev cX9_knows : ByteArray := prog_1_method_27_code
def yX9_knows : MethodName := ⟨RX9, "knows", "(II)Z"⟩
abbrev cX9_lastChance : ByteArray := prog_1_method_34_code
def yX9_lastChance : MethodName := ⟨RX9, "lastChance", "(I)I"⟩
abbrev cX9_length : ByteArray := prog_1_method_14_code
def yX9_length : MethodName := ⟨RX9, "length", "(I)I"⟩
abbrev cX9_loops : ByteArray := prog_1_method_10_code
def yX9_loops : MethodName := ⟨RX9, "loops", "(I)I"⟩
abbrev cX9_meanRain : ByteArray := prog_1_method_39_code
def yX9_meanRain : MethodName := ⟨RX9, "meanRain", "()D"⟩
abbrev cX9_needDay : ByteArray := prog_1_method_45_code
def yX9_needDay : MethodName := ⟨RX9, "needDay", "(I)V"⟩
abbrev cX9_needParty : ByteArray := prog_1_method_43_code
def yX9_needParty : MethodName := ⟨RX9, "needParty", "(I)V"⟩
abbrev cX9_needRange : ByteArray := prog_1_method_46_code
def yX9_needRange : MethodName := ⟨RX9, "needRange", "(III)V"⟩
abbrev cX9_needShot : ByteArray := prog_1_method_42_code
def yX9_needShot : MethodName := ⟨RX9, "needShot", "(I)V"⟩
abbrev cX9_needStation : ByteArray := prog_1_method_41_code
def yX9_needStation : MethodName := ⟨RX9, "needStation", "(I)V"⟩
abbrev cX9_oneWith : ByteArray := prog_1_method_6_code
def yX9_oneWith : MethodName := ⟨RX9, "oneWith", "(II)I"⟩
abbrev cX9_party : ByteArray := prog_1_method_25_code
def yX9_party : MethodName := ⟨RX9, "party", "(I)I"⟩
abbrev cX9_pause : ByteArray := prog_1_method_29_code
def yX9_pause : MethodName := ⟨RX9, "pause", "(II)I"⟩
abbrev cX9_peak : ByteArray := prog_1_method_20_code
def yX9_peak : MethodName := ⟨RX9, "peak", "(I)I"⟩
abbrev cX9_placeOf : ByteArray := prog_1_method_30_code
def yX9_placeOf : MethodName := ⟨RX9, "placeOf", "(I)I"⟩
abbrev cX9_plan : ByteArray := prog_1_method_32_code
def yX9_plan : MethodName := ⟨RX9, "plan", "(I)I"⟩
abbrev cX9_planAt : ByteArray := prog_1_method_33_code
def yX9_planAt : MethodName := ⟨RX9, "planAt", "(II)I"⟩
abbrev cX9_rain : ByteArray := prog_1_method_21_code
def yX9_rain : MethodName := ⟨RX9, "rain", "(II)I"⟩
abbrev cX9_setAside : ByteArray := prog_1_method_4_code
def yX9_setAside : MethodName := ⟨RX9, "setAside", "(II)Z"⟩
abbrev cX9_setHeight : ByteArray := prog_1_method_16_code
def yX9_setHeight : MethodName := ⟨RX9, "setHeight", "(II)I"⟩
abbrev cX9_shot : ByteArray := prog_1_method_3_code
def yX9_shot : MethodName := ⟨RX9, "shot", "(IIIIIIII)I"⟩
abbrev cX9_shots : ByteArray := prog_1_method_36_code
def yX9_shots : MethodName := ⟨RX9, "shots", "()I"⟩
abbrev cX9_station : ByteArray := prog_1_method_2_code
def yX9_station : MethodName := ⟨RX9, "station", "()I"⟩
abbrev cX9_stations : ByteArray := prog_1_method_35_code
def yX9_stations : MethodName := ⟨RX9, "stations", "()I"⟩
abbrev cX9_sump : ByteArray := prog_1_method_23_code
def yX9_sump : MethodName := ⟨RX9, "sump", "(II)I"⟩
abbrev cX9_tell : ByteArray := prog_1_method_26_code
def yX9_tell : MethodName := ⟨RX9, "tell", "(II)I"⟩
abbrev cX9_top : ByteArray := prog_1_method_8_code
def yX9_top : MethodName := ⟨RX9, "top", "(III)J"⟩
abbrev cX9_trace : ByteArray := prog_1_method_18_code
def yX9_trace : MethodName := ⟨RX9, "trace", "(II)I"⟩
abbrev cX9_traced : ByteArray := prog_1_method_19_code
def yX9_traced : MethodName := ⟨RX9, "traced", "(II)I"⟩
abbrev cX9_water : ByteArray := prog_1_method_22_code
def yX9_water : MethodName := ⟨RX9, "water", "(I)I"⟩
abbrev cX9_weighFor : ByteArray := prog_1_method_47_code
def yX9_weighFor : MethodName := ⟨RX9, "weighFor", "(III)V"⟩
theorem vX1_standFrom : yX1_standFrom.cls = RX1 ∧ yX1_standFrom.cls ≠ "java/lang/invoke/MethodHandle" ∧ yX1_standFrom.cls ≠ "java/lang/invoke/VarHandle" ∧ (parseMethodDescriptor yX1_standFrom.desc).map (fun d => d.parameters.length) = some 1 := by decide +kernel
theorem vX4_agreesWith : yX4_agreesWith.cls = RX4 ∧ yX4_agreesWith.cls ≠ "java/lang/invoke/MethodHandle" ∧ yX4_agreesWith.cls ≠ "java/lang/invoke/VarHandle" ∧ (parseMethodDescriptor yX4_agreesWith.desc).map (fun d => d.parameters.length) = some 1 := by decide +kernel
theorem vX4_hang : yX4_hang.cls = RX4 ∧ yX4_hang.cls ≠ "java/lang/invoke/MethodHandle" ∧ yX4_hang.cls ≠ "java/lang/invoke/VarHandle" ∧ (parseMethodDescriptor yX4_hang.desc).map (fun d => d.parameters.length) = some 2 := by decide +kernel
theorem vX4_sumTop : yX4_sumTop.cls = RX4 ∧ yX4_sumTop.cls ≠ "java/lang/invoke/MethodHandle" ∧ yX4_sumTop.cls ≠ "java/lang/invoke/VarHandle" ∧ (parseMethodDescriptor yX4_sumTop.desc).map (fun d => d.parameters.length) = some 0 := by decide +kernel
theorem vX4_topSpread : yX4_topSpread.cls = RX4 ∧ yX4_topSpread.cls ≠ "java/lang/invoke/MethodHandle" ∧ yX4_topSpread.cls ≠ "java/lang/invoke/VarHandle" ∧ (parseMethodDescriptor yX4_topSpread.desc).map (fun d => d.parameters.length) = some 1 := by decide +kernel
theorem vX4_weigh : yX4_weigh.cls = RX4 ∧ yX4_weigh.cls ≠ "java/lang/invoke/MethodHandle" ∧ yX4_weigh.cls ≠ "java/lang/invoke/VarHandle" ∧ (parseMethodDescriptor yX4_weigh.desc).map (fun d => d.parameters.length) = some 1 := by decide +kernel
theorem vX9_drawFor : yX9_drawFor.cls = RX9 ∧ yX9_drawFor.cls ≠ "java/lang/invoke/MethodHandle" ∧ yX9_drawFor.cls ≠ "java/lang/invoke/VarHandle" ∧ (parseMethodDescriptor yX9_drawFor.desc).map (fun d => d.parameters.length) = some 1 := by decide +kernel
theorem vX9_findBlunder : yX9_findBlunder.cls = RX9 ∧ yX9_findBlunder.cls ≠ "java/lang/invoke/MethodHandle" ∧ yX9_findBlunder.cls ≠ "java/lang/invoke/VarHandle" ∧ (parseMethodDescriptor yX9_findBlunder.desc).map (fun d => d.parameters.length) = some 1 := by decide +kernel
theorem vX9_flooredTimes : yX9_flooredTimes.cls = RX9 ∧ yX9_flooredTimes.cls ≠ "java/lang/invoke/MethodHandle" ∧ yX9_flooredTimes.cls ≠ "java/lang/invoke/VarHandle" ∧ (parseMethodDescriptor yX9_flooredTimes.desc).map (fun d => d.parameters.length) = some 3 := by decide +kernel
theorem vX9_needDay : yX9_needDay.cls = RX9 ∧ yX9_needDay.cls ≠ "java/lang/invoke/MethodHandle" ∧ yX9_needDay.cls ≠ "java/lang/invoke/VarHandle" ∧ (parseMethodDescriptor yX9_needDay.desc).map (fun d => d.parameters.length) = some 1 := by decide +kernel
theorem vX9_needParty : yX9_needParty.cls = RX9 ∧ yX9_needParty.cls ≠ "java/lang/invoke/MethodHandle" ∧ yX9_needParty.cls ≠ "java/lang/invoke/VarHandle" ∧ (parseMethodDescriptor yX9_needParty.desc).map (fun d => d.parameters.length) = some 1 := by decide +kernel
theorem vX9_needRange : yX9_needRange.cls = RX9 ∧ yX9_needRange.cls ≠ "java/lang/invoke/MethodHandle" ∧ yX9_needRange.cls ≠ "java/lang/invoke/VarHandle" ∧ (parseMethodDescriptor yX9_needRange.desc).map (fun d => d.parameters.length) = some 3 := by decide +kernel
theorem vX9_needShot : yX9_needShot.cls = RX9 ∧ yX9_needShot.cls ≠ "java/lang/invoke/MethodHandle" ∧ yX9_needShot.cls ≠ "java/lang/invoke/VarHandle" ∧ (parseMethodDescriptor yX9_needShot.desc).map (fun d => d.parameters.length) = some 1 := by decide +kernel
theorem vX9_needStation : yX9_needStation.cls = RX9 ∧ yX9_needStation.cls ≠ "java/lang/invoke/MethodHandle" ∧ yX9_needStation.cls ≠ "java/lang/invoke/VarHandle" ∧ (parseMethodDescriptor yX9_needStation.desc).map (fun d => d.parameters.length) = some 1 := by decide +kernel
theorem vX9_weighFor : yX9_weighFor.cls = RX9 ∧ yX9_weighFor.cls ≠ "java/lang/invoke/MethodHandle" ∧ yX9_weighFor.cls ≠ "java/lang/invoke/VarHandle" ∧ (parseMethodDescriptor yX9_weighFor.desc).map (fun d => d.parameters.length) = some 3 := by decide +kernel
theorem q163 : Cond.classLink RX9 350 "java/lang/IndexOutOfBoundsException" ∈ wAll := wIn (wT2 (List.mem_of_getElem? (i := 227) rfl)) rfl
theorem q164 : Cond.initialized "java/lang/IndexOutOfBoundsException" ∈ wAll := wIn (wT1 (List.mem_of_getElem? (i := 19) rfl)) rfl
theorem q165 : Cond.fieldLink RX9 58 "Cavernbook$Cave" "stationCount" "I" ∈ wAll := wIn (wT1 (List.mem_of_getElem? (i := 131) rfl)) rfl
theorem q166 : Cond.fieldLink RX9 84 "Cavernbook$Cave" "shotCount" "I" ∈ wAll := wIn (wT1 (List.mem_of_getElem? (i := 135) rfl)) rfl
theorem q167 : Cond.fieldLink RX9 272 "Cavernbook" "partyCount" "I" ∈ wAll := wIn (wT2 (List.mem_of_getElem? (i := 81) rfl)) rfl
theorem q168 : Cond.classLink RX9 245 "java/lang/IllegalArgumentException" ∈ wAll := wIn (wT3 (List.mem_of_getElem? (i := 3) rfl)) rfl
theorem q169 : Cond.initialized "java/lang/IllegalArgumentException" ∈ wAll := wIn (wT1 (List.mem_of_getElem? (i := 22) rfl)) rfl
theorem q170 : Cond.methodLink RX9 280 yX9_needParty ∈ wAll := wIn (wT4 (List.mem_of_getElem? (i := 225) rfl)) rfl
theorem q171 : Cond.code yX9_needParty cX9_needParty 2 none ∈ wAll := wIn (wT4 (List.mem_of_getElem? (i := 228) rfl)) rfl
theorem q172 : Cond.instanceMethod yX9_needParty ∈ wAll := wIn (wT4 (List.mem_of_getElem? (i := 227) rfl)) rfl
theorem q173 : Cond.selects RX9 yX9_needParty yX9_needParty ∈ wAll := wIn (wT0 (List.mem_of_getElem? (i := 22) rfl)) rfl
theorem q174 : Cond.initialized RX9 ∈ wAll := wIn (wT1 (List.mem_of_getElem? (i := 1) rfl)) rfl
theorem q175 : Cond.methodLink RX9 69 yX9_needStation ∈ wAll := wIn (wT2 (List.mem_of_getElem? (i := 223) rfl)) rfl
theorem q176 : Cond.code yX9_needStation cX9_needStation 2 none ∈ wAll := wIn (wT2 (List.mem_of_getElem? (i := 226) rfl)) rfl
theorem q177 : Cond.instanceMethod yX9_needStation ∈ wAll := wIn (wT2 (List.mem_of_getElem? (i := 225) rfl)) rfl
theorem q178 : Cond.selects RX9 yX9_needStation yX9_needStation ∈ wAll := wIn (wT0 (List.mem_of_getElem? (i := 1) rfl)) rfl
theorem q179 : Cond.methodLink RX9 114 yX9_needShot ∈ wAll := wIn (wT3 (List.mem_of_getElem? (i := 35) rfl)) rfl
theorem q180 : Cond.code yX9_needShot cX9_needShot 2 none ∈ wAll := wIn (wT3 (List.mem_of_getElem? (i := 38) rfl)) rfl
theorem q181 : Cond.instanceMethod yX9_needShot ∈ wAll := wIn (wT3 (List.mem_of_getElem? (i := 37) rfl)) rfl
theorem q182 : Cond.selects RX9 yX9_needShot yX9_needShot ∈ wAll := wIn (wT0 (List.mem_of_getElem? (i := 2) rfl)) rfl
theorem q183 : Cond.methodLink RX9 151 yX9_weighFor ∈ wAll := wIn (wT3 (List.mem_of_getElem? (i := 113) rfl)) rfl
theorem q184 : Cond.code yX9_weighFor cX9_weighFor 4 none ∈ wAll := wIn (wT3 (List.mem_of_getElem? (i := 116) rfl)) rfl
theorem q185 : Cond.instanceMethod yX9_weighFor ∈ wAll := wIn (wT3 (List.mem_of_getElem? (i := 115) rfl)) rfl
theorem q186 : Cond.selects RX9 yX9_weighFor yX9_weighFor ∈ wAll := wIn (wT0 (List.mem_of_getElem? (i := 6) rfl)) rfl
theorem q187 : Cond.methodLink RX9 313 yX9_drawFor ∈ wAll := wIn (wT5 (List.mem_of_getElem? (i := 59) rfl)) rfl
theorem q188 : Cond.code yX9_drawFor cX9_drawFor 2 none ∈ wAll := wIn (wT5 (List.mem_of_getElem? (i := 62) rfl)) rfl
theorem q189 : Cond.instanceMethod yX9_drawFor ∈ wAll := wIn (wT5 (List.mem_of_getElem? (i := 61) rfl)) rfl
theorem q190 : Cond.selects RX9 yX9_drawFor yX9_drawFor ∈ wAll := wIn (wT0 (List.mem_of_getElem? (i := 23) rfl)) rfl
theorem q191 : Cond.methodLink RX9 77 yX9_needDay ∈ wAll := wIn (wT3 (List.mem_of_getElem? (i := 19) rfl)) rfl
theorem q192 : Cond.code yX9_needDay cX9_needDay 1 none ∈ wAll := wIn (wT3 (List.mem_of_getElem? (i := 21) rfl)) rfl
theorem q193 : Cond.static yX9_needDay ∈ wAll := wIn (wT3 (List.mem_of_getElem? (i := 20) rfl)) rfl
theorem q194 : Cond.methodLink RX9 144 yX4_hang ∈ wAll := wIn (wT3 (List.mem_of_getElem? (i := 84) rfl)) rfl
theorem q195 : Cond.code yX4_hang cX4_hang 5 none ∈ wAll := wIn (wT3 (List.mem_of_getElem? (i := 87) rfl)) rfl
theorem q196 : Cond.instanceMethod yX4_hang ∈ wAll := wIn (wT3 (List.mem_of_getElem? (i := 85) rfl)) rfl
theorem q197 : Cond.selects RX4 yX4_hang yX4_hang ∈ wAll := wIn (wT3 (List.mem_of_getElem? (i := 86) rfl)) rfl
theorem q198 : Cond.fieldLink RX9 165 "Cavernbook$Places" "usedCount" "I" ∈ wAll := wIn (wT1 (List.mem_of_getElem? (i := 183) rfl)) rfl
theorem q199 : Cond.methodLink RX9 168 yX4_unknowns ∈ wAll := wIn (wT3 (List.mem_of_getElem? (i := 223) rfl)) rfl
theorem q200 : Cond.methodLink RX9 181 yX4_weigh ∈ wAll := wIn (wT3 (List.mem_of_getElem? (i := 134) rfl)) rfl
theorem q201 : Cond.code yX4_weigh cX4_weigh 4 none ∈ wAll := wIn (wT3 (List.mem_of_getElem? (i := 137) rfl)) rfl
theorem q202 : Cond.instanceMethod yX4_weigh ∈ wAll := wIn (wT3 (List.mem_of_getElem? (i := 135) rfl)) rfl
theorem q203 : Cond.selects RX4 yX4_weigh yX4_weigh ∈ wAll := wIn (wT3 (List.mem_of_getElem? (i := 136) rfl)) rfl
theorem q204 : Cond.methodLink RX9 189 yX4_sumTop ∈ wAll := wIn (wT4 (List.mem_of_getElem? (i := 38) rfl)) rfl
theorem q205 : Cond.code yX4_sumTop cX4_sumTop 6 (some .long) ∈ wAll := wIn (wT4 (List.mem_of_getElem? (i := 41) rfl)) rfl
theorem q206 : Cond.instanceMethod yX4_sumTop ∈ wAll := wIn (wT4 (List.mem_of_getElem? (i := 39) rfl)) rfl
theorem q207 : Cond.selects RX4 yX4_sumTop yX4_sumTop ∈ wAll := wIn (wT4 (List.mem_of_getElem? (i := 40) rfl)) rfl
theorem q208 : Cond.constantLong RX9 193 1000 ∈ wAll := wIn (wT4 (List.mem_of_getElem? (i := 42) rfl)) rfl
theorem q209 : Cond.fieldLink RX9 161 "Cavernbook$Places" "bottom" "J" ∈ wAll := wIn (wT1 (List.mem_of_getElem? (i := 185) rfl)) rfl
theorem q210 : Cond.methodLink RX9 195 yX9_flooredTimes ∈ wAll := wIn (wT4 (List.mem_of_getElem? (i := 43) rfl)) rfl
theorem q211 : Cond.code yX9_flooredTimes cX9_flooredTimes 6 (some .long) ∈ wAll := wIn (wT4 (List.mem_of_getElem? (i := 45) rfl)) rfl
theorem q212 : Cond.static yX9_flooredTimes ∈ wAll := wIn (wT4 (List.mem_of_getElem? (i := 44) rfl)) rfl
theorem q213 : Cond.methodLink RX9 205 yX4_topSpread ∈ wAll := wIn (wT4 (List.mem_of_getElem? (i := 77) rfl)) rfl
theorem q214 : Cond.code yX4_topSpread cX4_topSpread 7 (some .long) ∈ wAll := wIn (wT4 (List.mem_of_getElem? (i := 80) rfl)) rfl
theorem q215 : Cond.instanceMethod yX4_topSpread ∈ wAll := wIn (wT4 (List.mem_of_getElem? (i := 78) rfl)) rfl
theorem q216 : Cond.selects RX4 yX4_topSpread yX4_topSpread ∈ wAll := wIn (wT4 (List.mem_of_getElem? (i := 79) rfl)) rfl
theorem q217 : Cond.constantLong RX9 208 100 ∈ wAll := wIn (wT4 (List.mem_of_getElem? (i := 82) rfl)) rfl
theorem q218 : Cond.methodLink RX9 199 yX9_findBlunder ∈ wAll := wIn (wT4 (List.mem_of_getElem? (i := 53) rfl)) rfl
theorem q219 : Cond.code yX9_findBlunder cX9_findBlunder 8 (some .int) ∈ wAll := wIn (wT4 (List.mem_of_getElem? (i := 56) rfl)) rfl
theorem q220 : Cond.instanceMethod yX9_findBlunder ∈ wAll := wIn (wT4 (List.mem_of_getElem? (i := 55) rfl)) rfl
theorem q221 : Cond.selects RX9 yX9_findBlunder yX9_findBlunder ∈ wAll := wIn (wT0 (List.mem_of_getElem? (i := 20) rfl)) rfl
theorem q222 : Cond.classLink RX9 176 "java/util/NoSuchElementException" ∈ wAll := wIn (wT3 (List.mem_of_getElem? (i := 118) rfl)) rfl
theorem q223 : Cond.initialized "java/util/NoSuchElementException" ∈ wAll := wIn (wT1 (List.mem_of_getElem? (i := 30) rfl)) rfl
theorem q224 : Cond.classLink RX9 325 "java/lang/ArithmeticException" ∈ wAll := wIn (wT5 (List.mem_of_getElem? (i := 126) rfl)) rfl
theorem q225 : Cond.initialized "java/lang/ArithmeticException" ∈ wAll := wIn (wT1 (List.mem_of_getElem? (i := 36) rfl)) rfl
theorem q226 : Cond.methodLink RX9 338 yX4_agreesWith ∈ wAll := wIn (wT5 (List.mem_of_getElem? (i := 148) rfl)) rfl
theorem q227 : Cond.code yX4_agreesWith cX4_agreesWith 8 (some .boolean) ∈ wAll := wIn (wT5 (List.mem_of_getElem? (i := 151) rfl)) rfl
theorem q228 : Cond.instanceMethod yX4_agreesWith ∈ wAll := wIn (wT5 (List.mem_of_getElem? (i := 149) rfl)) rfl
theorem q229 : Cond.selects RX4 yX4_agreesWith yX4_agreesWith ∈ wAll := wIn (wT5 (List.mem_of_getElem? (i := 150) rfl)) rfl
theorem q230 : Cond.fieldLink RX9 256 "Cavernbook$Floods" "fallen" "[I" ∈ wAll := wIn (wT2 (List.mem_of_getElem? (i := 17) rfl)) rfl
theorem q231 : Cond.methodLink RX9 80 yX9_needRange ∈ wAll := wIn (wT3 (List.mem_of_getElem? (i := 23) rfl)) rfl
theorem q232 : Cond.code yX9_needRange cX9_needRange 3 none ∈ wAll := wIn (wT3 (List.mem_of_getElem? (i := 25) rfl)) rfl
theorem q233 : Cond.static yX9_needRange ∈ wAll := wIn (wT3 (List.mem_of_getElem? (i := 24) rfl)) rfl
theorem q234 : Cond.methodLink RX9 259 yX1_standFrom ∈ wAll := wIn (wT4 (List.mem_of_getElem? (i := 180) rfl)) rfl
theorem q235 : Cond.code yX1_standFrom cX1_standFrom 4 none ∈ wAll := wIn (wT4 (List.mem_of_getElem? (i := 183) rfl)) rfl
theorem q236 : Cond.instanceMethod yX1_standFrom ∈ wAll := wIn (wT4 (List.mem_of_getElem? (i := 181) rfl)) rfl
theorem q237 : Cond.selects RX1 yX1_standFrom yX1_standFrom ∈ wAll := wIn (wT4 (List.mem_of_getElem? (i := 182) rfl)) rfl
theorem q238 : Cond.fieldLink RX9 262 "Cavernbook$Floods" "standing" "[I" ∈ wAll := wIn (wT2 (List.mem_of_getElem? (i := 19) rfl)) rfl
abbrev zrx : ByteArray := prog_39_method_4_code
theorem zx0 : decode zrx 0 = .ok (.aload_n 0, 1) := by decide +kernel
theorem zx1 : decode zrx 1 = .ok (.aload_n 1, 1) := by decide +kernel
theorem zx2 : decode zrx 2 = .ok (.invokespecial 13, 3) := by decide +kernel
theorem zx5 : decode zrx 5 = .ok (.return_, 1) := by decide +kernel
theorem at_180_l : ∀ w ∈ (zAtX RX9 180 zE3 13 zrx zN).filter goodWord, w ∈ lw_tbl := by decide +kernel
theorem at_180_b : ∀ w ∈ (zAtX RX9 180 zE3 13 zrx zN).filter (fun w => !goodWord w), w ∈ [Cond.castable zE3 zE3, Cond.declares (Bundle.initS "java/lang/RuntimeException"), Cond.declares (Bundle.initS "java/lang/Exception"), Cond.declares (Bundle.initS Bundle.tN)] := by decide +kernel
theorem at_180 {args : Array Value} {s : State} (hts : ∀ w ∈ wAll, w.before args s = true) (hX : zX s) : ∀ w ∈ zAtX RX9 180 zE3 13 zrx zN, w.before args s = true := vx_hat (fun w hw => hts w (wIn (at_180_l w hw) (List.mem_filter.mp hw).2)) at_180_b (vx_c (va_Nw.use rfl hX.1.1.2.2.1) (vx_c (va_Nw.use rfl hX.2.2.2.2.2.2.1) (vx_c (va_Nw.use rfl hX.2.2.2.2.2.2.2.1) (vx_c (va_Nw.use rfl hX.2.2.2.2.2.2.2.2) vx_n))))
theorem at_180_g : ∀ w ∈ Cond.classLink RX9 176 zE3 :: Cond.initialized zE3 :: zAtX RX9 180 zE3 13 zrx zN, vx_ot w = true := by decide +kernel
theorem at_249_l : ∀ w ∈ (vx_atS RX9 249 zE2 zN).filter goodWord, w ∈ lw_tbl := by decide +kernel
theorem at_249_b : ∀ w ∈ (vx_atS RX9 249 zE2 zN).filter (fun w => !goodWord w), w ∈ [Cond.castable zE2 zE2, Cond.declares (Bundle.initS "java/lang/RuntimeException"), Cond.declares (Bundle.initS "java/lang/Exception"), Cond.declares (Bundle.initS Bundle.tN)] := by decide +kernel
theorem at_249 {args : Array Value} {s : State} (hts : ∀ w ∈ wAll, w.before args s = true) (hX : zX s) : ∀ w ∈ vx_atS RX9 249 zE2 zN, w.before args s = true := vx_hat (fun w hw => hts w (wIn (at_249_l w hw) (List.mem_filter.mp hw).2)) at_249_b (vx_c (va_Nw.use rfl hX.1.1.2.1) (vx_c (va_Nw.use rfl hX.2.2.2.2.2.2.1) (vx_c (va_Nw.use rfl hX.2.2.2.2.2.2.2.1) (vx_c (va_Nw.use rfl hX.2.2.2.2.2.2.2.2) vx_n))))
theorem at_249_g : ∀ w ∈ Cond.classLink RX9 245 zE2 :: Cond.initialized zE2 :: vx_atS RX9 249 zE2 zN, vx_ot w = true := by decide +kernel
theorem at_329_l : ∀ w ∈ (vx_atS RX9 329 zE4 zN).filter goodWord, w ∈ lw_tbl := by decide +kernel
theorem at_329_b : ∀ w ∈ (vx_atS RX9 329 zE4 zN).filter (fun w => !goodWord w), w ∈ [Cond.castable zE4 zE4, Cond.declares (Bundle.initS "java/lang/RuntimeException"), Cond.declares (Bundle.initS "java/lang/Exception"), Cond.declares (Bundle.initS Bundle.tN)] := by decide +kernel
theorem at_329 {args : Array Value} {s : State} (hts : ∀ w ∈ wAll, w.before args s = true) (hX : zX s) : ∀ w ∈ vx_atS RX9 329 zE4 zN, w.before args s = true := vx_hat (fun w hw => hts w (wIn (at_329_l w hw) (List.mem_filter.mp hw).2)) at_329_b (vx_c (va_Nw.use rfl hX.1.1.2.2.2) (vx_c (va_Nw.use rfl hX.2.2.2.2.2.2.1) (vx_c (va_Nw.use rfl hX.2.2.2.2.2.2.2.1) (vx_c (va_Nw.use rfl hX.2.2.2.2.2.2.2.2) vx_n))))
theorem at_329_g : ∀ w ∈ Cond.classLink RX9 325 zE4 :: Cond.initialized zE4 :: vx_atS RX9 329 zE4 zN, vx_ot w = true := by decide +kernel
theorem at_354_l : ∀ w ∈ (vx_atS RX9 354 zE1 zN).filter goodWord, w ∈ lw_tbl := by decide +kernel
theorem at_354_b : ∀ w ∈ (vx_atS RX9 354 zE1 zN).filter (fun w => !goodWord w), w ∈ [Cond.castable zE1 zE1, Cond.declares (Bundle.initS "java/lang/RuntimeException"), Cond.declares (Bundle.initS "java/lang/Exception"), Cond.declares (Bundle.initS Bundle.tN)] := by decide +kernel
theorem at_354 {args : Array Value} {s : State} (hts : ∀ w ∈ wAll, w.before args s = true) (hX : zX s) : ∀ w ∈ vx_atS RX9 354 zE1 zN, w.before args s = true := vx_hat (fun w hw => hts w (wIn (at_354_l w hw) (List.mem_filter.mp hw).2)) at_354_b (vx_c (va_Nw.use rfl hX.1.1.1) (vx_c (va_Nw.use rfl hX.2.2.2.2.2.2.1) (vx_c (va_Nw.use rfl hX.2.2.2.2.2.2.2.1) (vx_c (va_Nw.use rfl hX.2.2.2.2.2.2.2.2) vx_n))))
theorem at_354_g : ∀ w ∈ Cond.classLink RX9 350 zE1 :: Cond.initialized zE1 :: vx_atS RX9 354 zE1 zN, vx_ot w = true := by decide +kernel
theorem dX9_allFaults_0 : decode cX9_allFaults 0 = .ok (.iload_n 1, 1) := by decide +kernel
theorem dX9_allFaults_1 : decode cX9_allFaults 1 = .ok (.invokestatic 77, 3) := by decide +kernel
theorem dX9_allFaults_4 : decode cX9_allFaults 4 = .ok (.aload_n 0, 1) := by decide +kernel
theorem dX9_allFaults_5 : decode cX9_allFaults 5 = .ok (.getfield 21, 3) := by decide +kernel
theorem dX9_allFaults_8 : decode cX9_allFaults 8 = .ok (.iload_n 1, 1) := by decide +kernel
theorem dX9_allFaults_9 : decode cX9_allFaults 9 = .ok (.iconst (-1), 1) := by decide +kernel
theorem dX9_allFaults_10 : decode cX9_allFaults 10 = .ok (.invokevirtual 144, 3) := by decide +kernel
theorem dX9_allFaults_13 : decode cX9_allFaults 13 = .ok (.aload_n 0, 1) := by decide +kernel
theorem dX9_allFaults_14 : decode cX9_allFaults 14 = .ok (.getfield 21, 3) := by decide +kernel
theorem dX9_allFaults_17 : decode cX9_allFaults 17 = .ok (.iconst 0, 1) := by decide +kernel
theorem dX9_allFaults_18 : decode cX9_allFaults 18 = .ok (.invokevirtual 181, 3) := by decide +kernel
theorem dX9_allFaults_21 : decode cX9_allFaults 21 = .ok (.aload_n 0, 1) := by decide +kernel
theorem dX9_allFaults_22 : decode cX9_allFaults 22 = .ok (.getfield 21, 3) := by decide +kernel
theorem dX9_allFaults_25 : decode cX9_allFaults 25 = .ok (.invokevirtual 189, 3) := by decide +kernel
theorem dX9_allFaults_28 : decode cX9_allFaults 28 = .ok (.ldc2_w 193, 3) := by decide +kernel
theorem dX9_allFaults_31 : decode cX9_allFaults 31 = .ok (.aload_n 0, 1) := by decide +kernel
theorem dX9_allFaults_32 : decode cX9_allFaults 32 = .ok (.getfield 21, 3) := by decide +kernel
theorem dX9_allFaults_35 : decode cX9_allFaults 35 = .ok (.getfield 161, 3) := by decide +kernel
theorem dX9_allFaults_38 : decode cX9_allFaults 38 = .ok (.invokestatic 195, 3) := by decide +kernel
theorem dX9_allFaults_41 : decode cX9_allFaults 41 = .ok (.lreturn, 1) := by decide +kernel
theorem dX9_allSteps_0 : decode cX9_allSteps 0 = .ok (.lconst 0, 1) := by decide +kernel
theorem dX9_allSteps_1 : decode cX9_allSteps 1 = .ok (.lstore_n 1, 1) := by decide +kernel
theorem dX9_allSteps_2 : decode cX9_allSteps 2 = .ok (.iconst 0, 1) := by decide +kernel
theorem dX9_allSteps_3 : decode cX9_allSteps 3 = .ok (.istore_n 3, 1) := by decide +kernel
theorem dX9_allSteps_4 : decode cX9_allSteps 4 = .ok (.iload_n 3, 1) := by decide +kernel
theorem dX9_allSteps_5 : decode cX9_allSteps 5 = .ok (.aload_n 0, 1) := by decide +kernel
theorem dX9_allSteps_6 : decode cX9_allSteps 6 = .ok (.getfield 12, 3) := by decide +kernel
theorem dX9_allSteps_9 : decode cX9_allSteps 9 = .ok (.getfield 84, 3) := by decide +kernel
theorem dX9_allSteps_12 : decode cX9_allSteps 12 = .ok (.if_icmp .ge 43, 3) := by decide +kernel
theorem dX9_allSteps_55 : decode cX9_allSteps 55 = .ok (.lload_n 1, 1) := by decide +kernel
theorem dX9_allSteps_56 : decode cX9_allSteps 56 = .ok (.lreturn, 1) := by decide +kernel
theorem dX9_blunder_0 : decode cX9_blunder 0 = .ok (.iload_n 1, 1) := by decide +kernel
theorem dX9_blunder_1 : decode cX9_blunder 1 = .ok (.invokestatic 77, 3) := by decide +kernel
theorem dX9_blunder_4 : decode cX9_blunder 4 = .ok (.aload_n 0, 1) := by decide +kernel
theorem dX9_blunder_5 : decode cX9_blunder 5 = .ok (.getfield 21, 3) := by decide +kernel
theorem dX9_blunder_8 : decode cX9_blunder 8 = .ok (.iload_n 1, 1) := by decide +kernel
theorem dX9_blunder_9 : decode cX9_blunder 9 = .ok (.iconst (-1), 1) := by decide +kernel
theorem dX9_blunder_10 : decode cX9_blunder 10 = .ok (.invokevirtual 144, 3) := by decide +kernel
theorem dX9_blunder_13 : decode cX9_blunder 13 = .ok (.aload_n 0, 1) := by decide +kernel
theorem dX9_blunder_14 : decode cX9_blunder 14 = .ok (.getfield 21, 3) := by decide +kernel
theorem dX9_blunder_17 : decode cX9_blunder 17 = .ok (.iconst 0, 1) := by decide +kernel
theorem dX9_blunder_18 : decode cX9_blunder 18 = .ok (.invokevirtual 181, 3) := by decide +kernel
theorem dX9_blunder_21 : decode cX9_blunder 21 = .ok (.aload_n 0, 1) := by decide +kernel
theorem dX9_blunder_22 : decode cX9_blunder 22 = .ok (.iload_n 1, 1) := by decide +kernel
theorem dX9_blunder_23 : decode cX9_blunder 23 = .ok (.invokevirtual 199, 3) := by decide +kernel
theorem dX9_blunder_26 : decode cX9_blunder 26 = .ok (.istore_n 2, 1) := by decide +kernel
theorem dX9_blunder_27 : decode cX9_blunder 27 = .ok (.iload_n 2, 1) := by decide +kernel
theorem dX9_blunder_28 : decode cX9_blunder 28 = .ok (.iconst (-1), 1) := by decide +kernel
theorem dX9_blunder_29 : decode cX9_blunder 29 = .ok (.if_icmp .ne 13, 3) := by decide +kernel
theorem dX9_blunder_32 : decode cX9_blunder 32 = .ok (.new 176, 3) := by decide +kernel
theorem dX9_blunder_35 : decode cX9_blunder 35 = .ok (.dup, 1) := by decide +kernel
theorem dX9_blunder_36 : decode cX9_blunder 36 = .ok (.ldc 203, 2) := by decide +kernel
theorem dX9_blunder_38 : decode cX9_blunder 38 = .ok (.invokespecial 180, 3) := by decide +kernel
theorem dX9_blunder_41 : decode cX9_blunder 41 = .ok (.athrow, 1) := by decide +kernel
theorem dX9_bottom_0 : decode cX9_bottom 0 = .ok (.aload_n 0, 1) := by decide +kernel
theorem dX9_bottom_1 : decode cX9_bottom 1 = .ok (.iload_n 1, 1) := by decide +kernel
theorem dX9_bottom_2 : decode cX9_bottom 2 = .ok (.iload_n 2, 1) := by decide +kernel
theorem dX9_bottom_3 : decode cX9_bottom 3 = .ok (.iload_n 3, 1) := by decide +kernel
theorem dX9_bottom_4 : decode cX9_bottom 4 = .ok (.invokevirtual 151, 3) := by decide +kernel
theorem dX9_conduit_0 : decode cX9_conduit 0 = .ok (.aload_n 0, 1) := by decide +kernel
theorem dX9_conduit_1 : decode cX9_conduit 1 = .ok (.iload_n 1, 1) := by decide +kernel
theorem dX9_conduit_2 : decode cX9_conduit 2 = .ok (.invokevirtual 69, 3) := by decide +kernel
theorem dX9_depth_0 : decode cX9_depth 0 = .ok (.iload_n 1, 1) := by decide +kernel
theorem dX9_depth_1 : decode cX9_depth 1 = .ok (.invokestatic 77, 3) := by decide +kernel
theorem dX9_depth_4 : decode cX9_depth 4 = .ok (.aload_n 0, 1) := by decide +kernel
theorem dX9_depth_5 : decode cX9_depth 5 = .ok (.getfield 21, 3) := by decide +kernel
theorem dX9_depth_8 : decode cX9_depth 8 = .ok (.iload_n 1, 1) := by decide +kernel
theorem dX9_depth_9 : decode cX9_depth 9 = .ok (.iconst (-1), 1) := by decide +kernel
theorem dX9_depth_10 : decode cX9_depth 10 = .ok (.invokevirtual 144, 3) := by decide +kernel
theorem dX9_depth_13 : decode cX9_depth 13 = .ok (.aload_n 0, 1) := by decide +kernel
theorem dX9_depth_14 : decode cX9_depth 14 = .ok (.getfield 21, 3) := by decide +kernel
theorem dX9_depth_17 : decode cX9_depth 17 = .ok (.iconst 0, 1) := by decide +kernel
theorem dX9_depth_18 : decode cX9_depth 18 = .ok (.invokevirtual 181, 3) := by decide +kernel
theorem dX9_depth_21 : decode cX9_depth 21 = .ok (.aload_n 0, 1) := by decide +kernel
theorem dX9_depth_22 : decode cX9_depth 22 = .ok (.getfield 21, 3) := by decide +kernel
theorem dX9_depth_25 : decode cX9_depth 25 = .ok (.iconst 2, 1) := by decide +kernel
theorem dX9_depth_26 : decode cX9_depth 26 = .ok (.invokevirtual 205, 3) := by decide +kernel
theorem dX9_depth_29 : decode cX9_depth 29 = .ok (.ldc2_w 208, 3) := by decide +kernel
theorem dX9_depth_32 : decode cX9_depth 32 = .ok (.aload_n 0, 1) := by decide +kernel
theorem dX9_depth_33 : decode cX9_depth 33 = .ok (.getfield 21, 3) := by decide +kernel
theorem dX9_depth_36 : decode cX9_depth 36 = .ok (.getfield 161, 3) := by decide +kernel
theorem dX9_depth_39 : decode cX9_depth 39 = .ok (.invokestatic 195, 3) := by decide +kernel
theorem dX9_depth_42 : decode cX9_depth 42 = .ok (.lreturn, 1) := by decide +kernel
theorem dX9_drawFor_0 : decode cX9_drawFor 0 = .ok (.aload_n 0, 1) := by decide +kernel
theorem dX9_drawFor_1 : decode cX9_drawFor 1 = .ok (.iload_n 1, 1) := by decide +kernel
theorem dX9_drawFor_2 : decode cX9_drawFor 2 = .ok (.invokevirtual 280, 3) := by decide +kernel
theorem dX9_fault_0 : decode cX9_fault 0 = .ok (.aload_n 0, 1) := by decide +kernel
theorem dX9_fault_1 : decode cX9_fault 1 = .ok (.iload_n 1, 1) := by decide +kernel
theorem dX9_fault_2 : decode cX9_fault 2 = .ok (.invokevirtual 114, 3) := by decide +kernel
theorem dX9_findBlunder_0 : decode cX9_findBlunder 0 = .ok (.aload_n 0, 1) := by decide +kernel
theorem dX9_findBlunder_1 : decode cX9_findBlunder 1 = .ok (.getfield 21, 3) := by decide +kernel
theorem dX9_findBlunder_4 : decode cX9_findBlunder 4 = .ok (.invokevirtual 189, 3) := by decide +kernel
theorem dX9_findBlunder_7 : decode cX9_findBlunder 7 = .ok (.lstore_n 2, 1) := by decide +kernel
theorem dX9_findBlunder_8 : decode cX9_findBlunder 8 = .ok (.aload_n 0, 1) := by decide +kernel
theorem dX9_findBlunder_9 : decode cX9_findBlunder 9 = .ok (.getfield 21, 3) := by decide +kernel
theorem dX9_findBlunder_12 : decode cX9_findBlunder 12 = .ok (.getfield 161, 3) := by decide +kernel
theorem dX9_findBlunder_15 : decode cX9_findBlunder 15 = .ok (.lstore 4, 2) := by decide +kernel
theorem dX9_findBlunder_17 : decode cX9_findBlunder 17 = .ok (.iconst (-1), 1) := by decide +kernel
theorem dX9_findBlunder_18 : decode cX9_findBlunder 18 = .ok (.istore 6, 2) := by decide +kernel
theorem dX9_findBlunder_20 : decode cX9_findBlunder 20 = .ok (.iconst 0, 1) := by decide +kernel
theorem dX9_findBlunder_21 : decode cX9_findBlunder 21 = .ok (.istore 7, 2) := by decide +kernel
theorem dX9_findBlunder_23 : decode cX9_findBlunder 23 = .ok (.iload 7, 2) := by decide +kernel
theorem dX9_findBlunder_25 : decode cX9_findBlunder 25 = .ok (.aload_n 0, 1) := by decide +kernel
theorem dX9_findBlunder_26 : decode cX9_findBlunder 26 = .ok (.getfield 12, 3) := by decide +kernel
theorem dX9_findBlunder_29 : decode cX9_findBlunder 29 = .ok (.getfield 84, 3) := by decide +kernel
theorem dX9_findBlunder_32 : decode cX9_findBlunder 32 = .ok (.if_icmp .ge 107, 3) := by decide +kernel
theorem dX9_findBlunder_139 : decode cX9_findBlunder 139 = .ok (.iload 6, 2) := by decide +kernel
theorem dX9_findBlunder_141 : decode cX9_findBlunder 141 = .ok (.ireturn, 1) := by decide +kernel
theorem dX9_flooredTimes_0 : decode cX9_flooredTimes 0 = .ok (.lload 4, 2) := by decide +kernel
theorem dX9_flooredTimes_2 : decode cX9_flooredTimes 2 = .ok (.lconst 1, 1) := by decide +kernel
theorem dX9_flooredTimes_3 : decode cX9_flooredTimes 3 = .ok (.lcmp, 1) := by decide +kernel
theorem dX9_flooredTimes_4 : decode cX9_flooredTimes 4 = .ok (.ifCond .ge 5, 3) := by decide +kernel
theorem dX9_flooredTimes_9 : decode cX9_flooredTimes 9 = .ok (.lload_n 0, 1) := by decide +kernel
theorem dX9_flooredTimes_10 : decode cX9_flooredTimes 10 = .ok (.lload 4, 2) := by decide +kernel
theorem dX9_flooredTimes_12 : decode cX9_flooredTimes 12 = .ok (.ldiv, 1) := by decide +kernel
theorem dX9_flooredTimes_13 : decode cX9_flooredTimes 13 = .ok (.lload_n 2, 1) := by decide +kernel
theorem dX9_flooredTimes_14 : decode cX9_flooredTimes 14 = .ok (.lmul, 1) := by decide +kernel
theorem dX9_flooredTimes_15 : decode cX9_flooredTimes 15 = .ok (.lload_n 0, 1) := by decide +kernel
theorem dX9_flooredTimes_16 : decode cX9_flooredTimes 16 = .ok (.lload 4, 2) := by decide +kernel
theorem dX9_flooredTimes_18 : decode cX9_flooredTimes 18 = .ok (.lrem, 1) := by decide +kernel
theorem dX9_flooredTimes_19 : decode cX9_flooredTimes 19 = .ok (.lload_n 2, 1) := by decide +kernel
theorem dX9_flooredTimes_20 : decode cX9_flooredTimes 20 = .ok (.lmul, 1) := by decide +kernel
theorem dX9_flooredTimes_21 : decode cX9_flooredTimes 21 = .ok (.lload 4, 2) := by decide +kernel
theorem dX9_flooredTimes_23 : decode cX9_flooredTimes 23 = .ok (.ldiv, 1) := by decide +kernel
theorem dX9_flooredTimes_24 : decode cX9_flooredTimes 24 = .ok (.ladd, 1) := by decide +kernel
theorem dX9_flooredTimes_25 : decode cX9_flooredTimes 25 = .ok (.lreturn, 1) := by decide +kernel
theorem dX9_go_0 : decode cX9_go 0 = .ok (.aload_n 0, 1) := by decide +kernel
theorem dX9_go_1 : decode cX9_go 1 = .ok (.iload_n 1, 1) := by decide +kernel
theorem dX9_go_2 : decode cX9_go 2 = .ok (.invokevirtual 280, 3) := by decide +kernel
theorem dX9_hourOf_0 : decode cX9_hourOf 0 = .ok (.aload_n 0, 1) := by decide +kernel
theorem dX9_hourOf_1 : decode cX9_hourOf 1 = .ok (.iload_n 1, 1) := by decide +kernel
theorem dX9_hourOf_2 : decode cX9_hourOf 2 = .ok (.invokevirtual 280, 3) := by decide +kernel
theorem dX9_hungShare_0 : decode cX9_hungShare 0 = .ok (.iload_n 1, 1) := by decide +kernel
theorem dX9_hungShare_1 : decode cX9_hungShare 1 = .ok (.invokestatic 77, 3) := by decide +kernel
theorem dX9_hungShare_4 : decode cX9_hungShare 4 = .ok (.aload_n 0, 1) := by decide +kernel
theorem dX9_hungShare_5 : decode cX9_hungShare 5 = .ok (.getfield 12, 3) := by decide +kernel
theorem dX9_hungShare_8 : decode cX9_hungShare 8 = .ok (.getfield 58, 3) := by decide +kernel
theorem dX9_hungShare_11 : decode cX9_hungShare 11 = .ok (.ifCond .ne 14, 3) := by decide +kernel
theorem dX9_hungShare_14 : decode cX9_hungShare 14 = .ok (.new 325, 3) := by decide +kernel
theorem dX9_hungShare_17 : decode cX9_hungShare 17 = .ok (.dup, 1) := by decide +kernel
theorem dX9_hungShare_18 : decode cX9_hungShare 18 = .ok (.ldc_w 327, 3) := by decide +kernel
theorem dX9_hungShare_21 : decode cX9_hungShare 21 = .ok (.invokespecial 329, 3) := by decide +kernel
theorem dX9_hungShare_24 : decode cX9_hungShare 24 = .ok (.athrow, 1) := by decide +kernel
theorem dX9_isClosed_0 : decode cX9_isClosed 0 = .ok (.aload_n 0, 1) := by decide +kernel
theorem dX9_isClosed_1 : decode cX9_isClosed 1 = .ok (.iload_n 1, 1) := by decide +kernel
theorem dX9_isClosed_2 : decode cX9_isClosed 2 = .ok (.invokevirtual 114, 3) := by decide +kernel
theorem dX9_isHung_0 : decode cX9_isHung 0 = .ok (.aload_n 0, 1) := by decide +kernel
theorem dX9_isHung_1 : decode cX9_isHung 1 = .ok (.iload_n 1, 1) := by decide +kernel
theorem dX9_isHung_2 : decode cX9_isHung 2 = .ok (.invokevirtual 69, 3) := by decide +kernel
theorem dX9_isSound_0 : decode cX9_isSound 0 = .ok (.iload_n 1, 1) := by decide +kernel
theorem dX9_isSound_1 : decode cX9_isSound 1 = .ok (.invokestatic 77, 3) := by decide +kernel
theorem dX9_isSound_4 : decode cX9_isSound 4 = .ok (.aload_n 0, 1) := by decide +kernel
theorem dX9_isSound_5 : decode cX9_isSound 5 = .ok (.getfield 21, 3) := by decide +kernel
theorem dX9_isSound_8 : decode cX9_isSound 8 = .ok (.iload_n 1, 1) := by decide +kernel
theorem dX9_isSound_9 : decode cX9_isSound 9 = .ok (.iconst (-1), 1) := by decide +kernel
theorem dX9_isSound_10 : decode cX9_isSound 10 = .ok (.invokevirtual 144, 3) := by decide +kernel
theorem dX9_isSound_13 : decode cX9_isSound 13 = .ok (.aload_n 0, 1) := by decide +kernel
theorem dX9_isSound_14 : decode cX9_isSound 14 = .ok (.getfield 21, 3) := by decide +kernel
theorem dX9_isSound_17 : decode cX9_isSound 17 = .ok (.iconst 0, 1) := by decide +kernel
theorem dX9_isSound_18 : decode cX9_isSound 18 = .ok (.invokevirtual 181, 3) := by decide +kernel
theorem dX9_isSound_21 : decode cX9_isSound 21 = .ok (.aload_n 0, 1) := by decide +kernel
theorem dX9_isSound_22 : decode cX9_isSound 22 = .ok (.getfield 25, 3) := by decide +kernel
theorem dX9_isSound_25 : decode cX9_isSound 25 = .ok (.iload_n 1, 1) := by decide +kernel
theorem dX9_isSound_26 : decode cX9_isSound 26 = .ok (.iconst (-1), 1) := by decide +kernel
theorem dX9_isSound_27 : decode cX9_isSound 27 = .ok (.invokevirtual 144, 3) := by decide +kernel
theorem dX9_isSound_30 : decode cX9_isSound 30 = .ok (.aload_n 0, 1) := by decide +kernel
theorem dX9_isSound_31 : decode cX9_isSound 31 = .ok (.getfield 25, 3) := by decide +kernel
theorem dX9_isSound_34 : decode cX9_isSound 34 = .ok (.iconst 1, 1) := by decide +kernel
theorem dX9_isSound_35 : decode cX9_isSound 35 = .ok (.invokevirtual 181, 3) := by decide +kernel
theorem dX9_isSound_38 : decode cX9_isSound 38 = .ok (.aload_n 0, 1) := by decide +kernel
theorem dX9_isSound_39 : decode cX9_isSound 39 = .ok (.getfield 21, 3) := by decide +kernel
theorem dX9_isSound_42 : decode cX9_isSound 42 = .ok (.aload_n 0, 1) := by decide +kernel
theorem dX9_isSound_43 : decode cX9_isSound 43 = .ok (.getfield 25, 3) := by decide +kernel
theorem dX9_isSound_46 : decode cX9_isSound 46 = .ok (.invokevirtual 338, 3) := by decide +kernel
theorem dX9_isSound_49 : decode cX9_isSound 49 = .ok (.ifCond .ne 5, 3) := by decide +kernel
theorem dX9_isSound_54 : decode cX9_isSound 54 = .ok (.iconst 0, 1) := by decide +kernel
theorem dX9_isSound_55 : decode cX9_isSound 55 = .ok (.istore_n 2, 1) := by decide +kernel
theorem dX9_isSound_56 : decode cX9_isSound 56 = .ok (.iload_n 2, 1) := by decide +kernel
theorem dX9_isSound_57 : decode cX9_isSound 57 = .ok (.aload_n 0, 1) := by decide +kernel
theorem dX9_isSound_58 : decode cX9_isSound 58 = .ok (.getfield 272, 3) := by decide +kernel
theorem dX9_isSound_61 : decode cX9_isSound 61 = .ok (.if_icmp .ge 40, 3) := by decide +kernel
theorem dX9_isSound_101 : decode cX9_isSound 101 = .ok (.iconst 1, 1) := by decide +kernel
theorem dX9_isSound_102 : decode cX9_isSound 102 = .ok (.ireturn, 1) := by decide +kernel
theorem dX9_join_0 : decode cX9_join 0 = .ok (.aload_n 0, 1) := by decide +kernel
theorem dX9_join_1 : decode cX9_join 1 = .ok (.iload_n 1, 1) := by decide +kernel
theorem dX9_join_2 : decode cX9_join 2 = .ok (.invokevirtual 69, 3) := by decide +kernel
theorem dX9_knows_0 : decode cX9_knows 0 = .ok (.aload_n 0, 1) := by decide +kernel
theorem dX9_knows_1 : decode cX9_knows 1 = .ok (.iload_n 1, 1) := by decide +kernel
theorem dX9_knows_2 : decode cX9_knows 2 = .ok (.invokevirtual 280, 3) := by decide +kernel
theorem dX9_lastChance_0 : decode cX9_lastChance 0 = .ok (.aload_n 0, 1) := by decide +kernel
theorem dX9_lastChance_1 : decode cX9_lastChance 1 = .ok (.iload_n 1, 1) := by decide +kernel
theorem dX9_lastChance_2 : decode cX9_lastChance 2 = .ok (.invokevirtual 313, 3) := by decide +kernel
theorem dX9_length_0 : decode cX9_length 0 = .ok (.iload_n 1, 1) := by decide +kernel
theorem dX9_length_1 : decode cX9_length 1 = .ok (.invokestatic 77, 3) := by decide +kernel
theorem dX9_length_4 : decode cX9_length 4 = .ok (.aload_n 0, 1) := by decide +kernel
theorem dX9_length_5 : decode cX9_length 5 = .ok (.getfield 21, 3) := by decide +kernel
theorem dX9_length_8 : decode cX9_length 8 = .ok (.iload_n 1, 1) := by decide +kernel
theorem dX9_length_9 : decode cX9_length 9 = .ok (.iconst (-1), 1) := by decide +kernel
theorem dX9_length_10 : decode cX9_length 10 = .ok (.invokevirtual 144, 3) := by decide +kernel
theorem dX9_length_13 : decode cX9_length 13 = .ok (.iconst 0, 1) := by decide +kernel
theorem dX9_length_14 : decode cX9_length 14 = .ok (.istore_n 2, 1) := by decide +kernel
theorem dX9_length_15 : decode cX9_length 15 = .ok (.iconst 0, 1) := by decide +kernel
theorem dX9_length_16 : decode cX9_length 16 = .ok (.istore_n 3, 1) := by decide +kernel
theorem dX9_length_17 : decode cX9_length 17 = .ok (.iload_n 3, 1) := by decide +kernel
theorem dX9_length_18 : decode cX9_length 18 = .ok (.aload_n 0, 1) := by decide +kernel
theorem dX9_length_19 : decode cX9_length 19 = .ok (.getfield 12, 3) := by decide +kernel
theorem dX9_length_22 : decode cX9_length 22 = .ok (.getfield 84, 3) := by decide +kernel
theorem dX9_length_25 : decode cX9_length 25 = .ok (.if_icmp .ge 36, 3) := by decide +kernel
theorem dX9_length_61 : decode cX9_length 61 = .ok (.iload_n 2, 1) := by decide +kernel
theorem dX9_length_62 : decode cX9_length 62 = .ok (.ireturn, 1) := by decide +kernel
theorem dX9_loops_0 : decode cX9_loops 0 = .ok (.iload_n 1, 1) := by decide +kernel
theorem dX9_loops_1 : decode cX9_loops 1 = .ok (.invokestatic 77, 3) := by decide +kernel
theorem dX9_loops_4 : decode cX9_loops 4 = .ok (.aload_n 0, 1) := by decide +kernel
theorem dX9_loops_5 : decode cX9_loops 5 = .ok (.getfield 21, 3) := by decide +kernel
theorem dX9_loops_8 : decode cX9_loops 8 = .ok (.iload_n 1, 1) := by decide +kernel
theorem dX9_loops_9 : decode cX9_loops 9 = .ok (.iconst (-1), 1) := by decide +kernel
theorem dX9_loops_10 : decode cX9_loops 10 = .ok (.invokevirtual 144, 3) := by decide +kernel
theorem dX9_loops_13 : decode cX9_loops 13 = .ok (.aload_n 0, 1) := by decide +kernel
theorem dX9_loops_14 : decode cX9_loops 14 = .ok (.getfield 21, 3) := by decide +kernel
theorem dX9_loops_17 : decode cX9_loops 17 = .ok (.getfield 165, 3) := by decide +kernel
theorem dX9_loops_20 : decode cX9_loops 20 = .ok (.aload_n 0, 1) := by decide +kernel
theorem dX9_loops_21 : decode cX9_loops 21 = .ok (.getfield 21, 3) := by decide +kernel
theorem dX9_loops_24 : decode cX9_loops 24 = .ok (.invokevirtual 168, 3) := by decide +kernel
theorem dX9_loops_27 : decode cX9_loops 27 = .ok (.isub, 1) := by decide +kernel
theorem dX9_loops_28 : decode cX9_loops 28 = .ok (.ireturn, 1) := by decide +kernel
theorem dX9_meanRain_0 : decode cX9_meanRain 0 = .ok (.iconst 0, 1) := by decide +kernel
theorem dX9_meanRain_1 : decode cX9_meanRain 1 = .ok (.istore_n 1, 1) := by decide +kernel
theorem dX9_meanRain_2 : decode cX9_meanRain 2 = .ok (.iconst 0, 1) := by decide +kernel
theorem dX9_meanRain_3 : decode cX9_meanRain 3 = .ok (.istore_n 2, 1) := by decide +kernel
theorem dX9_meanRain_4 : decode cX9_meanRain 4 = .ok (.iconst 0, 1) := by decide +kernel
theorem dX9_meanRain_5 : decode cX9_meanRain 5 = .ok (.istore_n 3, 1) := by decide +kernel
theorem dX9_meanRain_6 : decode cX9_meanRain 6 = .ok (.iload_n 3, 1) := by decide +kernel
theorem dX9_meanRain_7 : decode cX9_meanRain 7 = .ok (.sipush 199, 3) := by decide +kernel
theorem dX9_meanRain_10 : decode cX9_meanRain 10 = .ok (.if_icmp .gt 41, 3) := by decide +kernel
theorem dX9_meanRain_13 : decode cX9_meanRain 13 = .ok (.iload_n 1, 1) := by decide +kernel
theorem dX9_meanRain_14 : decode cX9_meanRain 14 = .ok (.aload_n 0, 1) := by decide +kernel
theorem dX9_meanRain_15 : decode cX9_meanRain 15 = .ok (.getfield 38, 3) := by decide +kernel
theorem dX9_meanRain_18 : decode cX9_meanRain 18 = .ok (.getfield 256, 3) := by decide +kernel
theorem dX9_meanRain_21 : decode cX9_meanRain 21 = .ok (.iload_n 3, 1) := by decide +kernel
theorem dX9_meanRain_22 : decode cX9_meanRain 22 = .ok (.iaload, 1) := by decide +kernel
theorem dX9_meanRain_23 : decode cX9_meanRain 23 = .ok (.iadd, 1) := by decide +kernel
theorem dX9_meanRain_24 : decode cX9_meanRain 24 = .ok (.istore_n 1, 1) := by decide +kernel
theorem dX9_meanRain_25 : decode cX9_meanRain 25 = .ok (.iload_n 2, 1) := by decide +kernel
theorem dX9_meanRain_26 : decode cX9_meanRain 26 = .ok (.aload_n 0, 1) := by decide +kernel
theorem dX9_meanRain_27 : decode cX9_meanRain 27 = .ok (.getfield 38, 3) := by decide +kernel
theorem dX9_meanRain_30 : decode cX9_meanRain 30 = .ok (.getfield 256, 3) := by decide +kernel
theorem dX9_meanRain_33 : decode cX9_meanRain 33 = .ok (.iload_n 3, 1) := by decide +kernel
theorem dX9_meanRain_34 : decode cX9_meanRain 34 = .ok (.iaload, 1) := by decide +kernel
theorem dX9_meanRain_35 : decode cX9_meanRain 35 = .ok (.ifCond .le 7, 3) := by decide +kernel
theorem dX9_meanRain_42 : decode cX9_meanRain 42 = .ok (.iconst 0, 1) := by decide +kernel
theorem dX9_meanRain_43 : decode cX9_meanRain 43 = .ok (.iadd, 1) := by decide +kernel
theorem dX9_meanRain_44 : decode cX9_meanRain 44 = .ok (.istore_n 2, 1) := by decide +kernel
theorem dX9_meanRain_45 : decode cX9_meanRain 45 = .ok (.iinc 3 1, 3) := by decide +kernel
theorem dX9_meanRain_48 : decode cX9_meanRain 48 = .ok (.goto (-42), 3) := by decide +kernel
theorem dX9_meanRain_51 : decode cX9_meanRain 51 = .ok (.iload_n 2, 1) := by decide +kernel
theorem dX9_meanRain_52 : decode cX9_meanRain 52 = .ok (.ifCond .ne 14, 3) := by decide +kernel
theorem dX9_meanRain_55 : decode cX9_meanRain 55 = .ok (.new 325, 3) := by decide +kernel
theorem dX9_meanRain_58 : decode cX9_meanRain 58 = .ok (.dup, 1) := by decide +kernel
theorem dX9_meanRain_59 : decode cX9_meanRain 59 = .ok (.ldc_w 336, 3) := by decide +kernel
theorem dX9_meanRain_62 : decode cX9_meanRain 62 = .ok (.invokespecial 329, 3) := by decide +kernel
theorem dX9_meanRain_65 : decode cX9_meanRain 65 = .ok (.athrow, 1) := by decide +kernel
theorem dX9_needDay_0 : decode cX9_needDay 0 = .ok (.iload_n 0, 1) := by decide +kernel
theorem dX9_needDay_1 : decode cX9_needDay 1 = .ok (.ifCond .lt 10, 3) := by decide +kernel
theorem dX9_needDay_4 : decode cX9_needDay 4 = .ok (.iload_n 0, 1) := by decide +kernel
theorem dX9_needDay_5 : decode cX9_needDay 5 = .ok (.sipush 999, 3) := by decide +kernel
theorem dX9_needDay_8 : decode cX9_needDay 8 = .ok (.if_icmp .le 14, 3) := by decide +kernel
theorem dX9_needDay_11 : decode cX9_needDay 11 = .ok (.new 245, 3) := by decide +kernel
theorem dX9_needDay_14 : decode cX9_needDay 14 = .ok (.dup, 1) := by decide +kernel
theorem dX9_needDay_15 : decode cX9_needDay 15 = .ok (.ldc_w 361, 3) := by decide +kernel
theorem dX9_needDay_18 : decode cX9_needDay 18 = .ok (.invokespecial 249, 3) := by decide +kernel
theorem dX9_needDay_21 : decode cX9_needDay 21 = .ok (.athrow, 1) := by decide +kernel
theorem dX9_needDay_22 : decode cX9_needDay 22 = .ok (.return_, 1) := by decide +kernel
theorem dX9_needParty_0 : decode cX9_needParty 0 = .ok (.iload_n 1, 1) := by decide +kernel
theorem dX9_needParty_1 : decode cX9_needParty 1 = .ok (.ifCond .lt 11, 3) := by decide +kernel
theorem dX9_needParty_4 : decode cX9_needParty 4 = .ok (.iload_n 1, 1) := by decide +kernel
theorem dX9_needParty_5 : decode cX9_needParty 5 = .ok (.aload_n 0, 1) := by decide +kernel
theorem dX9_needParty_6 : decode cX9_needParty 6 = .ok (.getfield 272, 3) := by decide +kernel
theorem dX9_needParty_9 : decode cX9_needParty 9 = .ok (.if_icmp .lt 14, 3) := by decide +kernel
theorem dX9_needParty_12 : decode cX9_needParty 12 = .ok (.new 350, 3) := by decide +kernel
theorem dX9_needParty_15 : decode cX9_needParty 15 = .ok (.dup, 1) := by decide +kernel
theorem dX9_needParty_16 : decode cX9_needParty 16 = .ok (.ldc_w 357, 3) := by decide +kernel
theorem dX9_needParty_19 : decode cX9_needParty 19 = .ok (.invokespecial 354, 3) := by decide +kernel
theorem dX9_needParty_22 : decode cX9_needParty 22 = .ok (.athrow, 1) := by decide +kernel
theorem dX9_needRange_0 : decode cX9_needRange 0 = .ok (.iload_n 0, 1) := by decide +kernel
theorem dX9_needRange_1 : decode cX9_needRange 1 = .ok (.iload_n 1, 1) := by decide +kernel
theorem dX9_needRange_2 : decode cX9_needRange 2 = .ok (.if_icmp .lt 8, 3) := by decide +kernel
theorem dX9_needRange_5 : decode cX9_needRange 5 = .ok (.iload_n 0, 1) := by decide +kernel
theorem dX9_needRange_6 : decode cX9_needRange 6 = .ok (.iload_n 2, 1) := by decide +kernel
theorem dX9_needRange_7 : decode cX9_needRange 7 = .ok (.if_icmp .le 14, 3) := by decide +kernel
theorem dX9_needRange_10 : decode cX9_needRange 10 = .ok (.new 245, 3) := by decide +kernel
theorem dX9_needRange_13 : decode cX9_needRange 13 = .ok (.dup, 1) := by decide +kernel
theorem dX9_needRange_14 : decode cX9_needRange 14 = .ok (.ldc_w 363, 3) := by decide +kernel
theorem dX9_needRange_17 : decode cX9_needRange 17 = .ok (.invokespecial 249, 3) := by decide +kernel
theorem dX9_needRange_20 : decode cX9_needRange 20 = .ok (.athrow, 1) := by decide +kernel
theorem dX9_needRange_21 : decode cX9_needRange 21 = .ok (.return_, 1) := by decide +kernel
theorem dX9_needShot_0 : decode cX9_needShot 0 = .ok (.iload_n 1, 1) := by decide +kernel
theorem dX9_needShot_1 : decode cX9_needShot 1 = .ok (.ifCond .lt 14, 3) := by decide +kernel
theorem dX9_needShot_4 : decode cX9_needShot 4 = .ok (.iload_n 1, 1) := by decide +kernel
theorem dX9_needShot_5 : decode cX9_needShot 5 = .ok (.aload_n 0, 1) := by decide +kernel
theorem dX9_needShot_6 : decode cX9_needShot 6 = .ok (.getfield 12, 3) := by decide +kernel
theorem dX9_needShot_9 : decode cX9_needShot 9 = .ok (.getfield 84, 3) := by decide +kernel
theorem dX9_needShot_12 : decode cX9_needShot 12 = .ok (.if_icmp .lt 14, 3) := by decide +kernel
theorem dX9_needShot_15 : decode cX9_needShot 15 = .ok (.new 350, 3) := by decide +kernel
theorem dX9_needShot_18 : decode cX9_needShot 18 = .ok (.dup, 1) := by decide +kernel
theorem dX9_needShot_19 : decode cX9_needShot 19 = .ok (.ldc_w 355, 3) := by decide +kernel
theorem dX9_needShot_22 : decode cX9_needShot 22 = .ok (.invokespecial 354, 3) := by decide +kernel
theorem dX9_needShot_25 : decode cX9_needShot 25 = .ok (.athrow, 1) := by decide +kernel
theorem dX9_needStation_0 : decode cX9_needStation 0 = .ok (.iload_n 1, 1) := by decide +kernel
theorem dX9_needStation_1 : decode cX9_needStation 1 = .ok (.ifCond .lt 14, 3) := by decide +kernel
theorem dX9_needStation_4 : decode cX9_needStation 4 = .ok (.iload_n 1, 1) := by decide +kernel
theorem dX9_needStation_5 : decode cX9_needStation 5 = .ok (.aload_n 0, 1) := by decide +kernel
theorem dX9_needStation_6 : decode cX9_needStation 6 = .ok (.getfield 12, 3) := by decide +kernel
theorem dX9_needStation_9 : decode cX9_needStation 9 = .ok (.getfield 58, 3) := by decide +kernel
theorem dX9_needStation_12 : decode cX9_needStation 12 = .ok (.if_icmp .lt 14, 3) := by decide +kernel
theorem dX9_needStation_15 : decode cX9_needStation 15 = .ok (.new 350, 3) := by decide +kernel
theorem dX9_needStation_18 : decode cX9_needStation 18 = .ok (.dup, 1) := by decide +kernel
theorem dX9_needStation_19 : decode cX9_needStation 19 = .ok (.ldc_w 352, 3) := by decide +kernel
theorem dX9_needStation_22 : decode cX9_needStation 22 = .ok (.invokespecial 354, 3) := by decide +kernel
theorem dX9_needStation_25 : decode cX9_needStation 25 = .ok (.athrow, 1) := by decide +kernel
theorem dX9_oneWith_0 : decode cX9_oneWith 0 = .ok (.aload_n 0, 1) := by decide +kernel
theorem dX9_oneWith_1 : decode cX9_oneWith 1 = .ok (.iload_n 1, 1) := by decide +kernel
theorem dX9_oneWith_2 : decode cX9_oneWith 2 = .ok (.invokevirtual 69, 3) := by decide +kernel
theorem dX9_party_0 : decode cX9_party 0 = .ok (.aload_n 0, 1) := by decide +kernel
theorem dX9_party_1 : decode cX9_party 1 = .ok (.iload_n 1, 1) := by decide +kernel
theorem dX9_party_2 : decode cX9_party 2 = .ok (.invokevirtual 69, 3) := by decide +kernel
theorem dX9_pause_0 : decode cX9_pause 0 = .ok (.aload_n 0, 1) := by decide +kernel
theorem dX9_pause_1 : decode cX9_pause 1 = .ok (.iload_n 1, 1) := by decide +kernel
theorem dX9_pause_2 : decode cX9_pause 2 = .ok (.invokevirtual 280, 3) := by decide +kernel
theorem dX9_peak_0 : decode cX9_peak 0 = .ok (.aload_n 0, 1) := by decide +kernel
theorem dX9_peak_1 : decode cX9_peak 1 = .ok (.iload_n 1, 1) := by decide +kernel
theorem dX9_peak_2 : decode cX9_peak 2 = .ok (.invokevirtual 69, 3) := by decide +kernel
theorem dX9_placeOf_0 : decode cX9_placeOf 0 = .ok (.aload_n 0, 1) := by decide +kernel
theorem dX9_placeOf_1 : decode cX9_placeOf 1 = .ok (.iload_n 1, 1) := by decide +kernel
theorem dX9_placeOf_2 : decode cX9_placeOf 2 = .ok (.invokevirtual 280, 3) := by decide +kernel
theorem dX9_plan_0 : decode cX9_plan 0 = .ok (.aload_n 0, 1) := by decide +kernel
theorem dX9_plan_1 : decode cX9_plan 1 = .ok (.iload_n 1, 1) := by decide +kernel
theorem dX9_plan_2 : decode cX9_plan 2 = .ok (.invokevirtual 313, 3) := by decide +kernel
theorem dX9_planAt_0 : decode cX9_planAt 0 = .ok (.aload_n 0, 1) := by decide +kernel
theorem dX9_planAt_1 : decode cX9_planAt 1 = .ok (.iload_n 1, 1) := by decide +kernel
theorem dX9_planAt_2 : decode cX9_planAt 2 = .ok (.invokevirtual 313, 3) := by decide +kernel
theorem dX9_rain_0 : decode cX9_rain 0 = .ok (.iload_n 1, 1) := by decide +kernel
theorem dX9_rain_1 : decode cX9_rain 1 = .ok (.iconst 0, 1) := by decide +kernel
theorem dX9_rain_2 : decode cX9_rain 2 = .ok (.sipush 199, 3) := by decide +kernel
theorem dX9_rain_5 : decode cX9_rain 5 = .ok (.invokestatic 80, 3) := by decide +kernel
theorem dX9_rain_8 : decode cX9_rain 8 = .ok (.iload_n 2, 1) := by decide +kernel
theorem dX9_rain_9 : decode cX9_rain 9 = .ok (.iconst 0, 1) := by decide +kernel
theorem dX9_rain_10 : decode cX9_rain 10 = .ok (.bipush 99, 2) := by decide +kernel
theorem dX9_rain_12 : decode cX9_rain 12 = .ok (.invokestatic 80, 3) := by decide +kernel
theorem dX9_rain_15 : decode cX9_rain 15 = .ok (.aload_n 0, 1) := by decide +kernel
theorem dX9_rain_16 : decode cX9_rain 16 = .ok (.getfield 38, 3) := by decide +kernel
theorem dX9_rain_19 : decode cX9_rain 19 = .ok (.getfield 256, 3) := by decide +kernel
theorem dX9_rain_22 : decode cX9_rain 22 = .ok (.iload_n 1, 1) := by decide +kernel
theorem dX9_rain_23 : decode cX9_rain 23 = .ok (.iaload, 1) := by decide +kernel
theorem dX9_rain_24 : decode cX9_rain 24 = .ok (.istore_n 3, 1) := by decide +kernel
theorem dX9_rain_25 : decode cX9_rain 25 = .ok (.aload_n 0, 1) := by decide +kernel
theorem dX9_rain_26 : decode cX9_rain 26 = .ok (.getfield 38, 3) := by decide +kernel
theorem dX9_rain_29 : decode cX9_rain 29 = .ok (.getfield 256, 3) := by decide +kernel
theorem dX9_rain_32 : decode cX9_rain 32 = .ok (.iload_n 1, 1) := by decide +kernel
theorem dX9_rain_33 : decode cX9_rain 33 = .ok (.iload_n 2, 1) := by decide +kernel
theorem dX9_rain_34 : decode cX9_rain 34 = .ok (.iastore, 1) := by decide +kernel
theorem dX9_rain_35 : decode cX9_rain 35 = .ok (.aload_n 0, 1) := by decide +kernel
theorem dX9_rain_36 : decode cX9_rain 36 = .ok (.getfield 38, 3) := by decide +kernel
theorem dX9_rain_39 : decode cX9_rain 39 = .ok (.iload_n 1, 1) := by decide +kernel
theorem dX9_rain_40 : decode cX9_rain 40 = .ok (.invokevirtual 259, 3) := by decide +kernel
theorem dX9_rain_43 : decode cX9_rain 43 = .ok (.iload_n 3, 1) := by decide +kernel
theorem dX9_rain_44 : decode cX9_rain 44 = .ok (.ireturn, 1) := by decide +kernel
theorem dX9_setAside_0 : decode cX9_setAside 0 = .ok (.aload_n 0, 1) := by decide +kernel
theorem dX9_setAside_1 : decode cX9_setAside 1 = .ok (.iload_n 1, 1) := by decide +kernel
theorem dX9_setAside_2 : decode cX9_setAside 2 = .ok (.invokevirtual 114, 3) := by decide +kernel
theorem dX9_setHeight_0 : decode cX9_setHeight 0 = .ok (.aload_n 0, 1) := by decide +kernel
theorem dX9_setHeight_1 : decode cX9_setHeight 1 = .ok (.iload_n 1, 1) := by decide +kernel
theorem dX9_setHeight_2 : decode cX9_setHeight 2 = .ok (.invokevirtual 69, 3) := by decide +kernel
theorem dX9_shot_0 : decode cX9_shot 0 = .ok (.aload_n 0, 1) := by decide +kernel
theorem dX9_shot_1 : decode cX9_shot 1 = .ok (.iload_n 1, 1) := by decide +kernel
theorem dX9_shot_2 : decode cX9_shot 2 = .ok (.invokevirtual 69, 3) := by decide +kernel
theorem dX9_shots_0 : decode cX9_shots 0 = .ok (.aload_n 0, 1) := by decide +kernel
theorem dX9_shots_1 : decode cX9_shots 1 = .ok (.getfield 12, 3) := by decide +kernel
theorem dX9_shots_4 : decode cX9_shots 4 = .ok (.getfield 84, 3) := by decide +kernel
theorem dX9_shots_7 : decode cX9_shots 7 = .ok (.ireturn, 1) := by decide +kernel
theorem dX9_station_0 : decode cX9_station 0 = .ok (.aload_n 0, 1) := by decide +kernel
theorem dX9_station_1 : decode cX9_station 1 = .ok (.getfield 12, 3) := by decide +kernel
theorem dX9_station_4 : decode cX9_station 4 = .ok (.getfield 58, 3) := by decide +kernel
theorem dX9_station_7 : decode cX9_station 7 = .ok (.bipush 9, 2) := by decide +kernel
theorem dX9_station_9 : decode cX9_station 9 = .ok (.if_icmp .lt 13, 3) := by decide +kernel
theorem dX9_station_22 : decode cX9_station 22 = .ok (.aload_n 0, 1) := by decide +kernel
theorem dX9_station_23 : decode cX9_station 23 = .ok (.getfield 12, 3) := by decide +kernel
theorem dX9_station_26 : decode cX9_station 26 = .ok (.dup, 1) := by decide +kernel
theorem dX9_station_27 : decode cX9_station 27 = .ok (.getfield 58, 3) := by decide +kernel
theorem dX9_station_30 : decode cX9_station 30 = .ok (.iconst 1, 1) := by decide +kernel
theorem dX9_station_31 : decode cX9_station 31 = .ok (.iadd, 1) := by decide +kernel
theorem dX9_station_32 : decode cX9_station 32 = .ok (.putfield 58, 3) := by decide +kernel
theorem dX9_station_35 : decode cX9_station 35 = .ok (.aload_n 0, 1) := by decide +kernel
theorem dX9_station_36 : decode cX9_station 36 = .ok (.getfield 12, 3) := by decide +kernel
theorem dX9_station_39 : decode cX9_station 39 = .ok (.getfield 58, 3) := by decide +kernel
theorem dX9_station_42 : decode cX9_station 42 = .ok (.iconst 1, 1) := by decide +kernel
theorem dX9_station_43 : decode cX9_station 43 = .ok (.isub, 1) := by decide +kernel
theorem dX9_station_44 : decode cX9_station 44 = .ok (.ireturn, 1) := by decide +kernel
theorem dX9_stations_0 : decode cX9_stations 0 = .ok (.aload_n 0, 1) := by decide +kernel
theorem dX9_stations_1 : decode cX9_stations 1 = .ok (.getfield 12, 3) := by decide +kernel
theorem dX9_stations_4 : decode cX9_stations 4 = .ok (.getfield 58, 3) := by decide +kernel
theorem dX9_stations_7 : decode cX9_stations 7 = .ok (.ireturn, 1) := by decide +kernel
theorem dX9_sump_0 : decode cX9_sump 0 = .ok (.aload_n 0, 1) := by decide +kernel
theorem dX9_sump_1 : decode cX9_sump 1 = .ok (.iload_n 1, 1) := by decide +kernel
theorem dX9_sump_2 : decode cX9_sump 2 = .ok (.invokevirtual 114, 3) := by decide +kernel
theorem dX9_tell_0 : decode cX9_tell 0 = .ok (.aload_n 0, 1) := by decide +kernel
theorem dX9_tell_1 : decode cX9_tell 1 = .ok (.iload_n 1, 1) := by decide +kernel
theorem dX9_tell_2 : decode cX9_tell 2 = .ok (.invokevirtual 280, 3) := by decide +kernel
theorem dX9_top_0 : decode cX9_top 0 = .ok (.aload_n 0, 1) := by decide +kernel
theorem dX9_top_1 : decode cX9_top 1 = .ok (.iload_n 1, 1) := by decide +kernel
theorem dX9_top_2 : decode cX9_top 2 = .ok (.iload_n 2, 1) := by decide +kernel
theorem dX9_top_3 : decode cX9_top 3 = .ok (.iload_n 3, 1) := by decide +kernel
theorem dX9_top_4 : decode cX9_top 4 = .ok (.invokevirtual 151, 3) := by decide +kernel
theorem dX9_trace_0 : decode cX9_trace 0 = .ok (.aload_n 0, 1) := by decide +kernel
theorem dX9_trace_1 : decode cX9_trace 1 = .ok (.iload_n 1, 1) := by decide +kernel
theorem dX9_trace_2 : decode cX9_trace 2 = .ok (.invokevirtual 69, 3) := by decide +kernel
theorem dX9_traced_0 : decode cX9_traced 0 = .ok (.aload_n 0, 1) := by decide +kernel
theorem dX9_traced_1 : decode cX9_traced 1 = .ok (.iload_n 1, 1) := by decide +kernel
theorem dX9_traced_2 : decode cX9_traced 2 = .ok (.invokevirtual 69, 3) := by decide +kernel
theorem dX9_water_0 : decode cX9_water 0 = .ok (.iload_n 1, 1) := by decide +kernel
theorem dX9_water_1 : decode cX9_water 1 = .ok (.iconst 0, 1) := by decide +kernel
theorem dX9_water_2 : decode cX9_water 2 = .ok (.sipush 400, 3) := by decide +kernel
theorem dX9_water_5 : decode cX9_water 5 = .ok (.invokestatic 80, 3) := by decide +kernel
theorem dX9_water_8 : decode cX9_water 8 = .ok (.aload_n 0, 1) := by decide +kernel
theorem dX9_water_9 : decode cX9_water 9 = .ok (.getfield 38, 3) := by decide +kernel
theorem dX9_water_12 : decode cX9_water 12 = .ok (.getfield 262, 3) := by decide +kernel
theorem dX9_water_15 : decode cX9_water 15 = .ok (.iload_n 1, 1) := by decide +kernel
theorem dX9_water_16 : decode cX9_water 16 = .ok (.iaload, 1) := by decide +kernel
theorem dX9_water_17 : decode cX9_water 17 = .ok (.ireturn, 1) := by decide +kernel
theorem dX9_weighFor_0 : decode cX9_weighFor 0 = .ok (.aload_n 0, 1) := by decide +kernel
theorem dX9_weighFor_1 : decode cX9_weighFor 1 = .ok (.iload_n 1, 1) := by decide +kernel
theorem dX9_weighFor_2 : decode cX9_weighFor 2 = .ok (.invokevirtual 69, 3) := by decide +kernel
set_option maxHeartbeats 4000000 in
set_option maxRecDepth 100000 in
/-- no stations: it throws -/
theorem k_needStation (l : Launch) (hlt : l.stackTraces = false) (D : va_G) (cy : Nat → ClassId) (h0 : Nat) (vC : Nat) (vP : Nat) (vT : Nat) (vS : Nat) (vF : Nat) (vN : Nat) (vY : Nat) (sS : Nat) (sJ : Nat) (n : Int32) (sz : Nat)  : vx_Met l yX9_needStation (wz yX9_needStation cX9_needStation 2 none) ({ frames := 6, cells := 1, slots := 6, locals := 82 } : Room) (va_Pc [.ref h0, .int n] (zPre vwCl D cy [(h0, .inr (12, [.ref vC, .ref vP, .ref vT, .ref vS, .ref vF, .ref vN, .ref vY, .int 0])), (vC, .inr (3, [.ref sS, .ref sJ, .int 0, .int 0]))] sz)) zNo (zXC zE1 (va_A [(h0, .inr (12, [.ref vC, .ref vP, .ref vT, .ref vS, .ref vF, .ref vN, .ref vY, .int 0])), (vC, .inr (3, [.ref sS, .ref sJ, .int 0, .int 0]))] sz)) 1 6 (va_A [(h0, .inr (12, [.ref vC, .ref vP, .ref vT, .ref vS, .ref vF, .ref vN, .ref vY, .int 0])), (vC, .inr (3, [.ref sS, .ref sJ, .int 0, .int 0]))] sz) := by
  refine vx_ofW (cc := cX9_needStation) (maxL := 2) (ret := none) (by decide) rfl ?_
  intro p e s m args below meth c s₁ B hml hout hv
  obtain ⟨rfl, hsz, hP, hK, hD0, hX, hY⟩ := hv
  have hx := B.exec
  have hb := B.bytes
  have hr := B.returns
  have hts0 := atoms_spec (ws := wz yX9_needStation cX9_needStation 2 none) B.pre
  have hts : ∀ w ∈ wAll, w.before _ s = true := fun w h => hts0 w (List.mem_cons_of_mem _ h)
  have hown : s.vm.findClass RX9 = some m.cls := findClass_of_methodNamed B.named
  have hlocks := B.notSynchronized
  subst hsz
  have hD := hD0.self (sz := s.heap.size)
  generalize hAe : va_A [(h0, .inr (12, [.ref vC, .ref vP, .ref vT, .ref vS, .ref vF, .ref vN, .ref vY, .int 0])), (vC, .inr (3, [.ref sS, .ref sJ, .int 0, .int 0]))] s.heap.size = A at hD hY ⊢
  have hA : ∀ q : Nat, s.heap.size ≤ q → A q := fun q h => by rw [← hAe]; exact Or.inr h
  have hS : va_S A s.heap s.heap [] := va_S.rf
  have hP : va_P D vwCl [(h0, .inr (12, [.ref vC, .ref vP, .ref vT, .ref vS, .ref vF, .ref vN, .ref vY, .int 0])), (vC, .inr (3, [.ref sS, .ref sJ, .int 0, .int 0]))] s.heap := hP
  have hl := lv_entry ([.ref h0, .int n]) (n := 2) (Nat.le_of_ble_eq_true rfl)
  rw [lg_entry_eq]
  generalize (lg_sl ([.ref h0, .int n]) ++ List.replicate (2 - (lg_sl ([.ref h0, .int n])).length) Slot.unset).toArray = ls at hl ⊢
  have hl : lv_has ls 2 [(0, .ref h0), (1, .int n)] := hl
  refine z_anyQ (fun Q hQe => ?_)
  refine lv_iload_n hx hb dX9_needStation_0 rfl (lv_at hl 1 rfl) ?_
  refine lv_if_lt (tgt := 15) hx hb dX9_needStation_1 (by decide) (fun c_1_0 => ?_) (fun c_1_0 => ?_)
  · skip
    obtain ⟨sa, hstr⟩ := hX.2.1.1
    rw [hQe]
    exact vx_throwSW (names := zN) (A := A) hx hb hlt hown (by decide +kernel) (by decide +kernel) (hts _ q163) (hts _ q164) hstr (at_354 hts hX) at_354_g hY.1 hY.2.1 hS (by rw [hml]; exact hl.1) dX9_needStation_15 dX9_needStation_18 dX9_needStation_19 dX9_needStation_22 dX9_needStation_25 (fun x h => (hout x h).elim) (Nat.le_of_ble_eq_true rfl) (Nat.le_of_ble_eq_true rfl) (Nat.le_of_ble_eq_true rfl) (Nat.le_of_ble_eq_true rfl) hlocks (fun t hal hz hk => ⟨(), trivial, rfl, z_F hS hz hk⟩) hS.2.2 (Nat.le_of_ble_eq_true rfl) (Nat.le_of_ble_eq_true rfl)
  · skip
    have c1 := c_1_0
    refine lv_iload_n hx hb dX9_needStation_4 rfl (lv_at hl 1 rfl) ?_
    refine lv_aload_n hx hb dX9_needStation_5 rfl (lv_at hl 0 rfl) ?_
    refine va_get (D := D) (ci := 12) (v := .ref vC) (C := RX9) (T := TX9) (N := 8) hx hb hts iRX9 hown hK hP 0 rfl rfl 0 (by decide) (hts _ q127) (fun _ h9 => h9) rfl dX9_needStation_6 ?_
    refine va_get (D := D) (ci := 3) (v := .int 0) (C := RX0) (T := TX0) (N := 4) hx hb hts iRX0 hown hK hP 1 rfl rfl 2 (by decide) (hts _ q165) (fun _ h9 => h9) rfl dX9_needStation_9 ?_
    refine lv_icmp_lt (tgt := 26) hx hb dX9_needStation_12 (by decide) (fun c_12_1 => absurd c_12_1 c1) (fun _ => ?_)
    obtain ⟨sa, hstr⟩ := hX.2.1.1
    rw [hQe]
    exact vx_throwSW (names := zN) (A := A) hx hb hlt hown (by decide +kernel) (by decide +kernel) (hts _ q163) (hts _ q164) hstr (at_354 hts hX) at_354_g hY.1 hY.2.1 hS (by rw [hml]; exact hl.1) dX9_needStation_15 dX9_needStation_18 dX9_needStation_19 dX9_needStation_22 dX9_needStation_25 (fun x h => (hout x h).elim) (Nat.le_of_ble_eq_true rfl) (Nat.le_of_ble_eq_true rfl) (Nat.le_of_ble_eq_true rfl) (Nat.le_of_ble_eq_true rfl) hlocks (fun t hal hz hk => ⟨(), trivial, rfl, z_F hS hz hk⟩) hS.2.2 (Nat.le_of_ble_eq_true rfl) (Nat.le_of_ble_eq_true rfl)
set_option maxHeartbeats 4000000 in
set_option maxRecDepth 100000 in
/-- no shots: it throws -/
theorem k_needShot (l : Launch) (hlt : l.stackTraces = false) (D : va_G) (cy : Nat → ClassId) (h0 : Nat) (vC : Nat) (vP : Nat) (vT : Nat) (vS : Nat) (vF : Nat) (vN : Nat) (vY : Nat) (sS : Nat) (sJ : Nat) (n : Int32) (sz : Nat)  : vx_Met l yX9_needShot (wz yX9_needShot cX9_needShot 2 none) ({ frames := 6, cells := 1, slots := 6, locals := 82 } : Room) (va_Pc [.ref h0, .int n] (zPre vwCl D cy [(h0, .inr (12, [.ref vC, .ref vP, .ref vT, .ref vS, .ref vF, .ref vN, .ref vY, .int 0])), (vC, .inr (3, [.ref sS, .ref sJ, .int 0, .int 0]))] sz)) zNo (zXC zE1 (va_A [(h0, .inr (12, [.ref vC, .ref vP, .ref vT, .ref vS, .ref vF, .ref vN, .ref vY, .int 0])), (vC, .inr (3, [.ref sS, .ref sJ, .int 0, .int 0]))] sz)) 1 6 (va_A [(h0, .inr (12, [.ref vC, .ref vP, .ref vT, .ref vS, .ref vF, .ref vN, .ref vY, .int 0])), (vC, .inr (3, [.ref sS, .ref sJ, .int 0, .int 0]))] sz) := by
  refine vx_ofW (cc := cX9_needShot) (maxL := 2) (ret := none) (by decide) rfl ?_
  intro p e s m args below meth c s₁ B hml hout hv
  obtain ⟨rfl, hsz, hP, hK, hD0, hX, hY⟩ := hv
  have hx := B.exec
  have hb := B.bytes
  have hr := B.returns
  have hts0 := atoms_spec (ws := wz yX9_needShot cX9_needShot 2 none) B.pre
  have hts : ∀ w ∈ wAll, w.before _ s = true := fun w h => hts0 w (List.mem_cons_of_mem _ h)
  have hown : s.vm.findClass RX9 = some m.cls := findClass_of_methodNamed B.named
  have hlocks := B.notSynchronized
  subst hsz
  have hD := hD0.self (sz := s.heap.size)
  generalize hAe : va_A [(h0, .inr (12, [.ref vC, .ref vP, .ref vT, .ref vS, .ref vF, .ref vN, .ref vY, .int 0])), (vC, .inr (3, [.ref sS, .ref sJ, .int 0, .int 0]))] s.heap.size = A at hD hY ⊢
  have hA : ∀ q : Nat, s.heap.size ≤ q → A q := fun q h => by rw [← hAe]; exact Or.inr h
  have hS : va_S A s.heap s.heap [] := va_S.rf
  have hP : va_P D vwCl [(h0, .inr (12, [.ref vC, .ref vP, .ref vT, .ref vS, .ref vF, .ref vN, .ref vY, .int 0])), (vC, .inr (3, [.ref sS, .ref sJ, .int 0, .int 0]))] s.heap := hP
  have hl := lv_entry ([.ref h0, .int n]) (n := 2) (Nat.le_of_ble_eq_true rfl)
  rw [lg_entry_eq]
  generalize (lg_sl ([.ref h0, .int n]) ++ List.replicate (2 - (lg_sl ([.ref h0, .int n])).length) Slot.unset).toArray = ls at hl ⊢
  have hl : lv_has ls 2 [(0, .ref h0), (1, .int n)] := hl
  refine z_anyQ (fun Q hQe => ?_)
  refine lv_iload_n hx hb dX9_needShot_0 rfl (lv_at hl 1 rfl) ?_
  refine lv_if_lt (tgt := 15) hx hb dX9_needShot_1 (by decide) (fun c_1_0 => ?_) (fun c_1_0 => ?_)
  · skip
    obtain ⟨sa, hstr⟩ := hX.2.1.2.1
    rw [hQe]
    exact vx_throwSW (names := zN) (A := A) hx hb hlt hown (by decide +kernel) (by decide +kernel) (hts _ q163) (hts _ q164) hstr (at_354 hts hX) at_354_g hY.1 hY.2.1 hS (by rw [hml]; exact hl.1) dX9_needShot_15 dX9_needShot_18 dX9_needShot_19 dX9_needShot_22 dX9_needShot_25 (fun x h => (hout x h).elim) (Nat.le_of_ble_eq_true rfl) (Nat.le_of_ble_eq_true rfl) (Nat.le_of_ble_eq_true rfl) (Nat.le_of_ble_eq_true rfl) hlocks (fun t hal hz hk => ⟨(), trivial, rfl, z_F hS hz hk⟩) hS.2.2 (Nat.le_of_ble_eq_true rfl) (Nat.le_of_ble_eq_true rfl)
  · skip
    have c1 := c_1_0
    refine lv_iload_n hx hb dX9_needShot_4 rfl (lv_at hl 1 rfl) ?_
    refine lv_aload_n hx hb dX9_needShot_5 rfl (lv_at hl 0 rfl) ?_
    refine va_get (D := D) (ci := 12) (v := .ref vC) (C := RX9) (T := TX9) (N := 8) hx hb hts iRX9 hown hK hP 0 rfl rfl 0 (by decide) (hts _ q127) (fun _ h9 => h9) rfl dX9_needShot_6 ?_
    refine va_get (D := D) (ci := 3) (v := .int 0) (C := RX0) (T := TX0) (N := 4) hx hb hts iRX0 hown hK hP 1 rfl rfl 3 (by decide) (hts _ q166) (fun _ h9 => h9) rfl dX9_needShot_9 ?_
    refine lv_icmp_lt (tgt := 26) hx hb dX9_needShot_12 (by decide) (fun c_12_1 => absurd c_12_1 c1) (fun _ => ?_)
    obtain ⟨sa, hstr⟩ := hX.2.1.2.1
    rw [hQe]
    exact vx_throwSW (names := zN) (A := A) hx hb hlt hown (by decide +kernel) (by decide +kernel) (hts _ q163) (hts _ q164) hstr (at_354 hts hX) at_354_g hY.1 hY.2.1 hS (by rw [hml]; exact hl.1) dX9_needShot_15 dX9_needShot_18 dX9_needShot_19 dX9_needShot_22 dX9_needShot_25 (fun x h => (hout x h).elim) (Nat.le_of_ble_eq_true rfl) (Nat.le_of_ble_eq_true rfl) (Nat.le_of_ble_eq_true rfl) (Nat.le_of_ble_eq_true rfl) hlocks (fun t hal hz hk => ⟨(), trivial, rfl, z_F hS hz hk⟩) hS.2.2 (Nat.le_of_ble_eq_true rfl) (Nat.le_of_ble_eq_true rfl)
set_option maxHeartbeats 4000000 in
set_option maxRecDepth 100000 in
/-- no parties: it throws -/
theorem k_needParty (l : Launch) (hlt : l.stackTraces = false) (D : va_G) (cy : Nat → ClassId) (h0 : Nat) (vC : Nat) (vP : Nat) (vT : Nat) (vS : Nat) (vF : Nat) (vN : Nat) (vY : Nat) (n : Int32) (sz : Nat)  : vx_Met l yX9_needParty (wz yX9_needParty cX9_needParty 2 none) ({ frames := 6, cells := 1, slots := 6, locals := 82 } : Room) (va_Pc [.ref h0, .int n] (zPre vwCl D cy [(h0, .inr (12, [.ref vC, .ref vP, .ref vT, .ref vS, .ref vF, .ref vN, .ref vY, .int 0]))] sz)) zNo (zXC zE1 (va_A [(h0, .inr (12, [.ref vC, .ref vP, .ref vT, .ref vS, .ref vF, .ref vN, .ref vY, .int 0]))] sz)) 1 6 (va_A [(h0, .inr (12, [.ref vC, .ref vP, .ref vT, .ref vS, .ref vF, .ref vN, .ref vY, .int 0]))] sz) := by
  refine vx_ofW (cc := cX9_needParty) (maxL := 2) (ret := none) (by decide) rfl ?_
  intro p e s m args below meth c s₁ B hml hout hv
  obtain ⟨rfl, hsz, hP, hK, hD0, hX, hY⟩ := hv
  have hx := B.exec
  have hb := B.bytes
  have hr := B.returns
  have hts0 := atoms_spec (ws := wz yX9_needParty cX9_needParty 2 none) B.pre
  have hts : ∀ w ∈ wAll, w.before _ s = true := fun w h => hts0 w (List.mem_cons_of_mem _ h)
  have hown : s.vm.findClass RX9 = some m.cls := findClass_of_methodNamed B.named
  have hlocks := B.notSynchronized
  subst hsz
  have hD := hD0.self (sz := s.heap.size)
  generalize hAe : va_A [(h0, .inr (12, [.ref vC, .ref vP, .ref vT, .ref vS, .ref vF, .ref vN, .ref vY, .int 0]))] s.heap.size = A at hD hY ⊢
  have hA : ∀ q : Nat, s.heap.size ≤ q → A q := fun q h => by rw [← hAe]; exact Or.inr h
  have hS : va_S A s.heap s.heap [] := va_S.rf
  have hP : va_P D vwCl [(h0, .inr (12, [.ref vC, .ref vP, .ref vT, .ref vS, .ref vF, .ref vN, .ref vY, .int 0]))] s.heap := hP
  have hl := lv_entry ([.ref h0, .int n]) (n := 2) (Nat.le_of_ble_eq_true rfl)
  rw [lg_entry_eq]
  generalize (lg_sl ([.ref h0, .int n]) ++ List.replicate (2 - (lg_sl ([.ref h0, .int n])).length) Slot.unset).toArray = ls at hl ⊢
  have hl : lv_has ls 2 [(0, .ref h0), (1, .int n)] := hl
  refine z_anyQ (fun Q hQe => ?_)
  refine lv_iload_n hx hb dX9_needParty_0 rfl (lv_at hl 1 rfl) ?_
  refine lv_if_lt (tgt := 12) hx hb dX9_needParty_1 (by decide) (fun c_1_0 => ?_) (fun c_1_0 => ?_)
  · skip
    obtain ⟨sa, hstr⟩ := hX.2.1.2.2.1
    rw [hQe]
    exact vx_throwSW (names := zN) (A := A) hx hb hlt hown (by decide +kernel) (by decide +kernel) (hts _ q163) (hts _ q164) hstr (at_354 hts hX) at_354_g hY.1 hY.2.1 hS (by rw [hml]; exact hl.1) dX9_needParty_12 dX9_needParty_15 dX9_needParty_16 dX9_needParty_19 dX9_needParty_22 (fun x h => (hout x h).elim) (Nat.le_of_ble_eq_true rfl) (Nat.le_of_ble_eq_true rfl) (Nat.le_of_ble_eq_true rfl) (Nat.le_of_ble_eq_true rfl) hlocks (fun t hal hz hk => ⟨(), trivial, rfl, z_F hS hz hk⟩) hS.2.2 (Nat.le_of_ble_eq_true rfl) (Nat.le_of_ble_eq_true rfl)
  · skip
    have c1 := c_1_0
    refine lv_iload_n hx hb dX9_needParty_4 rfl (lv_at hl 1 rfl) ?_
    refine lv_aload_n hx hb dX9_needParty_5 rfl (lv_at hl 0 rfl) ?_
    refine va_get (D := D) (ci := 12) (v := .int 0) (C := RX9) (T := TX9) (N := 8) hx hb hts iRX9 hown hK hP 0 rfl rfl 7 (by decide) (hts _ q167) (fun _ h9 => h9) rfl dX9_needParty_6 ?_
    refine lv_icmp_lt (tgt := 23) hx hb dX9_needParty_9 (by decide) (fun c_9_1 => absurd c_9_1 c1) (fun _ => ?_)
    obtain ⟨sa, hstr⟩ := hX.2.1.2.2.1
    rw [hQe]
    exact vx_throwSW (names := zN) (A := A) hx hb hlt hown (by decide +kernel) (by decide +kernel) (hts _ q163) (hts _ q164) hstr (at_354 hts hX) at_354_g hY.1 hY.2.1 hS (by rw [hml]; exact hl.1) dX9_needParty_12 dX9_needParty_15 dX9_needParty_16 dX9_needParty_19 dX9_needParty_22 (fun x h => (hout x h).elim) (Nat.le_of_ble_eq_true rfl) (Nat.le_of_ble_eq_true rfl) (Nat.le_of_ble_eq_true rfl) (Nat.le_of_ble_eq_true rfl) hlocks (fun t hal hz hk => ⟨(), trivial, rfl, z_F hS hz hk⟩) hS.2.2 (Nat.le_of_ble_eq_true rfl) (Nat.le_of_ble_eq_true rfl)
set_option maxHeartbeats 4000000 in
set_option maxRecDepth 100000 in
/-- a day -/
theorem k_needDay_ok (l : Launch) (D : va_G) (cy : Nat → ClassId) (d : Int32) (sz : Nat) (hd : zDay d) : Met l yX9_needDay (wz yX9_needDay cX9_needDay 1 none) ({ frames := 0, cells := 0, slots := 0, locals := 0 } : Room) (va_Pc [.int d] (zPre vwCl D cy [] sz)) (va_Qv (fun _ : Unit => True) (fun (u : Unit) t => zPost vwCl D (va_A [] sz) [] t) (va_A [] sz)) 0 0 (va_A [] sz) := by
  refine Met.ofW (cc := cX9_needDay) (maxL := 1) (ret := none) (by decide) rfl ?_
  intro p e s m args below meth c s₁ B hml hv
  obtain ⟨rfl, hsz, hP, hK, hD0, hX, hY⟩ := hv
  have hx := B.exec
  have hb := B.bytes
  have hr := B.returns
  have hts0 := atoms_spec (ws := wz yX9_needDay cX9_needDay 1 none) B.pre
  have hts : ∀ w ∈ wAll, w.before _ s = true := fun w h => hts0 w (List.mem_cons_of_mem _ h)
  have hown : s.vm.findClass RX9 = some m.cls := findClass_of_methodNamed B.named
  have hlocks := B.notSynchronized
  subst hsz
  have hD := hD0.self (sz := s.heap.size)
  generalize hAe : va_A [] s.heap.size = A at hD hY ⊢
  have hA : ∀ q : Nat, s.heap.size ≤ q → A q := fun q h => by rw [← hAe]; exact Or.inr h
  have hS : va_S A s.heap s.heap [] := va_S.rf
  have hP : va_P D vwCl [] s.heap := hP
  have hl := lv_entry ([.int d]) (n := 1) (Nat.le_of_ble_eq_true rfl)
  rw [lg_entry_eq]
  generalize (lg_sl ([.int d]) ++ List.replicate (1 - (lg_sl ([.int d])).length) Slot.unset).toArray = ls at hl ⊢
  have hl : lv_has ls 1 [(0, .int d)] := hl
  refine z_anyQ (fun Q hQe => ?_)
  refine lv_iload_n hx hb dX9_needDay_0 rfl (lv_at hl 0 rfl) ?_
  refine lv_if_lt (tgt := 11) hx hb dX9_needDay_1 (by decide) (fun c_1_0 => absurd c_1_0 hd.1) (fun _ => ?_)
  refine lv_iload_n hx hb dX9_needDay_4 rfl (lv_at hl 0 rfl) ?_
  refine lv_sipush (v := 999) hx hb dX9_needDay_5 (by decide) ?_
  refine lv_icmp_le (tgt := 22) hx hb dX9_needDay_8 (by decide) (fun _ => ?_) (fun c_8_1 => absurd hd.2 c_8_1)
  have hP9 := hP.sub (ws' := []) [] rfl
  have hD9 := hD.sub (ws' := []) [] (by decide) rfl
  refine W.widen (k := 0) (n := 0) (Nat.le_of_ble_eq_true rfl) (Nat.le_of_ble_eq_true rfl) ?_
  rw [hQe]
  exact W.vret hx hb hr (fun t ht hW => ⟨⟨(), rfl, trivial, ⟨by rw [ht]; exact hP9, hD9⟩⟩, hS.F ht⟩) hS.2.2 dX9_needDay_22
set_option maxHeartbeats 4000000 in
set_option maxRecDepth 100000 in
/-- no day -/
theorem k_needDay_no (l : Launch) (hlt : l.stackTraces = false) (D : va_G) (cy : Nat → ClassId) (d : Int32) (sz : Nat) (hd : zNoDay d) : vx_Met l yX9_needDay (wz yX9_needDay cX9_needDay 1 none) ({ frames := 6, cells := 1, slots := 6, locals := 82 } : Room) (va_Pc [.int d] (zPre vwCl D cy [] sz)) zNo (zXC zE2 (va_A [] sz)) 1 6 (va_A [] sz) := by
  refine vx_ofW (cc := cX9_needDay) (maxL := 1) (ret := none) (by decide) rfl ?_
  intro p e s m args below meth c s₁ B hml hout hv
  obtain ⟨rfl, hsz, hP, hK, hD0, hX, hY⟩ := hv
  have hx := B.exec
  have hb := B.bytes
  have hr := B.returns
  have hts0 := atoms_spec (ws := wz yX9_needDay cX9_needDay 1 none) B.pre
  have hts : ∀ w ∈ wAll, w.before _ s = true := fun w h => hts0 w (List.mem_cons_of_mem _ h)
  have hown : s.vm.findClass RX9 = some m.cls := findClass_of_methodNamed B.named
  have hlocks := B.notSynchronized
  subst hsz
  have hD := hD0.self (sz := s.heap.size)
  generalize hAe : va_A [] s.heap.size = A at hD hY ⊢
  have hA : ∀ q : Nat, s.heap.size ≤ q → A q := fun q h => by rw [← hAe]; exact Or.inr h
  have hS : va_S A s.heap s.heap [] := va_S.rf
  have hP : va_P D vwCl [] s.heap := hP
  have hl := lv_entry ([.int d]) (n := 1) (Nat.le_of_ble_eq_true rfl)
  rw [lg_entry_eq]
  generalize (lg_sl ([.int d]) ++ List.replicate (1 - (lg_sl ([.int d])).length) Slot.unset).toArray = ls at hl ⊢
  have hl : lv_has ls 1 [(0, .int d)] := hl
  refine z_anyQ (fun Q hQe => ?_)
  refine lv_iload_n hx hb dX9_needDay_0 rfl (lv_at hl 0 rfl) ?_
  refine lv_if_lt (tgt := 11) hx hb dX9_needDay_1 (by decide) (fun c_1_0 => ?_) (fun c_1_0 => ?_)
  · skip
    obtain ⟨sa, hstr⟩ := hX.2.1.2.2.2.1
    rw [hQe]
    exact vx_throwSW (names := zN) (A := A) hx hb hlt hown (by decide +kernel) (by decide +kernel) (hts _ q168) (hts _ q169) hstr (at_249 hts hX) at_249_g hY.1 hY.2.1 hS (by rw [hml]; exact hl.1) dX9_needDay_11 dX9_needDay_14 dX9_needDay_15 dX9_needDay_18 dX9_needDay_21 (fun x h => (hout x h).elim) (Nat.le_of_ble_eq_true rfl) (Nat.le_of_ble_eq_true rfl) (Nat.le_of_ble_eq_true rfl) (Nat.le_of_ble_eq_true rfl) hlocks (fun t hal hz hk => ⟨(), trivial, rfl, z_F hS hz hk⟩) hS.2.2 (Nat.le_of_ble_eq_true rfl) (Nat.le_of_ble_eq_true rfl)
  · skip
    have c1 := c_1_0
    refine lv_iload_n hx hb dX9_needDay_4 rfl (lv_at hl 0 rfl) ?_
    refine lv_sipush (v := 999) hx hb dX9_needDay_5 (by decide) ?_
    refine lv_icmp_le (tgt := 22) hx hb dX9_needDay_8 (by decide) (fun c_8_1 => absurd c_8_1 (hd.resolve_left c1)) (fun _ => ?_)
    obtain ⟨sa, hstr⟩ := hX.2.1.2.2.2.1
    rw [hQe]
    exact vx_throwSW (names := zN) (A := A) hx hb hlt hown (by decide +kernel) (by decide +kernel) (hts _ q168) (hts _ q169) hstr (at_249 hts hX) at_249_g hY.1 hY.2.1 hS (by rw [hml]; exact hl.1) dX9_needDay_11 dX9_needDay_14 dX9_needDay_15 dX9_needDay_18 dX9_needDay_21 (fun x h => (hout x h).elim) (Nat.le_of_ble_eq_true rfl) (Nat.le_of_ble_eq_true rfl) (Nat.le_of_ble_eq_true rfl) (Nat.le_of_ble_eq_true rfl) hlocks (fun t hal hz hk => ⟨(), trivial, rfl, z_F hS hz hk⟩) hS.2.2 (Nat.le_of_ble_eq_true rfl) (Nat.le_of_ble_eq_true rfl)
set_option maxHeartbeats 4000000 in
set_option maxRecDepth 100000 in
/-- in range -/
theorem k_needRange_ok (l : Launch) (D : va_G) (cy : Nat → ClassId) (x : Int32) (lo : Int32) (hi : Int32) (sz : Nat) (h1 : ¬ x < lo) (h2 : x ≤ hi) : Met l yX9_needRange (wz yX9_needRange cX9_needRange 3 none) ({ frames := 0, cells := 0, slots := 0, locals := 0 } : Room) (va_Pc [.int x, .int lo, .int hi] (zPre vwCl D cy [] sz)) (va_Qv (fun _ : Unit => True) (fun (u : Unit) t => zPost vwCl D (va_A [] sz) [] t) (va_A [] sz)) 0 0 (va_A [] sz) := by
  refine Met.ofW (cc := cX9_needRange) (maxL := 3) (ret := none) (by decide) rfl ?_
  intro p e s m args below meth c s₁ B hml hv
  obtain ⟨rfl, hsz, hP, hK, hD0, hX, hY⟩ := hv
  have hx := B.exec
  have hb := B.bytes
  have hr := B.returns
  have hts0 := atoms_spec (ws := wz yX9_needRange cX9_needRange 3 none) B.pre
  have hts : ∀ w ∈ wAll, w.before _ s = true := fun w h => hts0 w (List.mem_cons_of_mem _ h)
  have hown : s.vm.findClass RX9 = some m.cls := findClass_of_methodNamed B.named
  have hlocks := B.notSynchronized
  subst hsz
  have hD := hD0.self (sz := s.heap.size)
  generalize hAe : va_A [] s.heap.size = A at hD hY ⊢
  have hA : ∀ q : Nat, s.heap.size ≤ q → A q := fun q h => by rw [← hAe]; exact Or.inr h
  have hS : va_S A s.heap s.heap [] := va_S.rf
  have hP : va_P D vwCl [] s.heap := hP
  have hl := lv_entry ([.int x, .int lo, .int hi]) (n := 3) (Nat.le_of_ble_eq_true rfl)
  rw [lg_entry_eq]
  generalize (lg_sl ([.int x, .int lo, .int hi]) ++ List.replicate (3 - (lg_sl ([.int x, .int lo, .int hi])).length) Slot.unset).toArray = ls at hl ⊢
  have hl : lv_has ls 3 [(0, .int x), (1, .int lo), (2, .int hi)] := hl
  refine z_anyQ (fun Q hQe => ?_)
  refine lv_iload_n hx hb dX9_needRange_0 rfl (lv_at hl 0 rfl) ?_
  refine lv_iload_n hx hb dX9_needRange_1 rfl (lv_at hl 1 rfl) ?_
  refine lv_icmp_lt (tgt := 10) hx hb dX9_needRange_2 (by decide) (fun c_2_0 => absurd c_2_0 h1) (fun _ => ?_)
  refine lv_iload_n hx hb dX9_needRange_5 rfl (lv_at hl 0 rfl) ?_
  refine lv_iload_n hx hb dX9_needRange_6 rfl (lv_at hl 2 rfl) ?_
  refine lv_icmp_le (tgt := 21) hx hb dX9_needRange_7 (by decide) (fun _ => ?_) (fun c_7_1 => absurd h2 c_7_1)
  have hP9 := hP.sub (ws' := []) [] rfl
  have hD9 := hD.sub (ws' := []) [] (by decide) rfl
  refine W.widen (k := 0) (n := 0) (Nat.le_of_ble_eq_true rfl) (Nat.le_of_ble_eq_true rfl) ?_
  rw [hQe]
  exact W.vret hx hb hr (fun t ht hW => ⟨⟨(), rfl, trivial, ⟨by rw [ht]; exact hP9, hD9⟩⟩, hS.F ht⟩) hS.2.2 dX9_needRange_21
set_option maxHeartbeats 4000000 in
set_option maxRecDepth 100000 in
/-- out of range -/
theorem k_needRange_no (l : Launch) (hlt : l.stackTraces = false) (D : va_G) (cy : Nat → ClassId) (x : Int32) (lo : Int32) (hi : Int32) (sz : Nat) (hq0 : x < lo ∨ ¬ x ≤ hi) : vx_Met l yX9_needRange (wz yX9_needRange cX9_needRange 3 none) ({ frames := 6, cells := 1, slots := 6, locals := 82 } : Room) (va_Pc [.int x, .int lo, .int hi] (zPre vwCl D cy [] sz)) zNo (zXC zE2 (va_A [] sz)) 1 6 (va_A [] sz) := by
  refine vx_ofW (cc := cX9_needRange) (maxL := 3) (ret := none) (by decide) rfl ?_
  intro p e s m args below meth c s₁ B hml hout hv
  obtain ⟨rfl, hsz, hP, hK, hD0, hX, hY⟩ := hv
  have hx := B.exec
  have hb := B.bytes
  have hr := B.returns
  have hts0 := atoms_spec (ws := wz yX9_needRange cX9_needRange 3 none) B.pre
  have hts : ∀ w ∈ wAll, w.before _ s = true := fun w h => hts0 w (List.mem_cons_of_mem _ h)
  have hown : s.vm.findClass RX9 = some m.cls := findClass_of_methodNamed B.named
  have hlocks := B.notSynchronized
  subst hsz
  have hD := hD0.self (sz := s.heap.size)
  generalize hAe : va_A [] s.heap.size = A at hD hY ⊢
  have hA : ∀ q : Nat, s.heap.size ≤ q → A q := fun q h => by rw [← hAe]; exact Or.inr h
  have hS : va_S A s.heap s.heap [] := va_S.rf
  have hP : va_P D vwCl [] s.heap := hP
  have hl := lv_entry ([.int x, .int lo, .int hi]) (n := 3) (Nat.le_of_ble_eq_true rfl)
  rw [lg_entry_eq]
  generalize (lg_sl ([.int x, .int lo, .int hi]) ++ List.replicate (3 - (lg_sl ([.int x, .int lo, .int hi])).length) Slot.unset).toArray = ls at hl ⊢
  have hl : lv_has ls 3 [(0, .int x), (1, .int lo), (2, .int hi)] := hl
  refine z_anyQ (fun Q hQe => ?_)
  refine lv_iload_n hx hb dX9_needRange_0 rfl (lv_at hl 0 rfl) ?_
  refine lv_iload_n hx hb dX9_needRange_1 rfl (lv_at hl 1 rfl) ?_
  refine lv_icmp_lt (tgt := 10) hx hb dX9_needRange_2 (by decide) (fun c_2_0 => ?_) (fun c_2_0 => ?_)
  · skip
    obtain ⟨sa, hstr⟩ := hX.2.1.2.2.2.2.1
    rw [hQe]
    exact vx_throwSW (names := zN) (A := A) hx hb hlt hown (by decide +kernel) (by decide +kernel) (hts _ q168) (hts _ q169) hstr (at_249 hts hX) at_249_g hY.1 hY.2.1 hS (by rw [hml]; exact hl.1) dX9_needRange_10 dX9_needRange_13 dX9_needRange_14 dX9_needRange_17 dX9_needRange_20 (fun x h => (hout x h).elim) (Nat.le_of_ble_eq_true rfl) (Nat.le_of_ble_eq_true rfl) (Nat.le_of_ble_eq_true rfl) (Nat.le_of_ble_eq_true rfl) hlocks (fun t hal hz hk => ⟨(), trivial, rfl, z_F hS hz hk⟩) hS.2.2 (Nat.le_of_ble_eq_true rfl) (Nat.le_of_ble_eq_true rfl)
  · skip
    have c1 := c_2_0
    refine lv_iload_n hx hb dX9_needRange_5 rfl (lv_at hl 0 rfl) ?_
    refine lv_iload_n hx hb dX9_needRange_6 rfl (lv_at hl 2 rfl) ?_
    refine lv_icmp_le (tgt := 21) hx hb dX9_needRange_7 (by decide) (fun c_7_1 => absurd c_7_1 (hq0.resolve_left c1)) (fun _ => ?_)
    obtain ⟨sa, hstr⟩ := hX.2.1.2.2.2.2.1
    rw [hQe]
    exact vx_throwSW (names := zN) (A := A) hx hb hlt hown (by decide +kernel) (by decide +kernel) (hts _ q168) (hts _ q169) hstr (at_249 hts hX) at_249_g hY.1 hY.2.1 hS (by rw [hml]; exact hl.1) dX9_needRange_10 dX9_needRange_13 dX9_needRange_14 dX9_needRange_17 dX9_needRange_20 (fun x h => (hout x h).elim) (Nat.le_of_ble_eq_true rfl) (Nat.le_of_ble_eq_true rfl) (Nat.le_of_ble_eq_true rfl) (Nat.le_of_ble_eq_true rfl) hlocks (fun t hal hz hk => ⟨(), trivial, rfl, z_F hS hz hk⟩) hS.2.2 (Nat.le_of_ble_eq_true rfl) (Nat.le_of_ble_eq_true rfl)
set_option maxHeartbeats 4000000 in
set_option maxRecDepth 100000 in
/-- no parties -/
theorem k_drawFor (l : Launch) (hlt : l.stackTraces = false) (D : va_G) (cy : Nat → ClassId) (h0 : Nat) (vC : Nat) (vP : Nat) (vT : Nat) (vS : Nat) (vF : Nat) (vN : Nat) (vY : Nat) (n : Int32) (sz : Nat)  : vx_Met l yX9_drawFor (wz yX9_drawFor cX9_drawFor 2 none) ({ frames := 7, cells := 1, slots := 6, locals := 103 } : Room) (va_Pc [.ref h0, .int n] (zPre vwCl D cy [(h0, .inr (12, [.ref vC, .ref vP, .ref vT, .ref vS, .ref vF, .ref vN, .ref vY, .int 0]))] sz)) zNo (zXC zE1 (va_A [(h0, .inr (12, [.ref vC, .ref vP, .ref vT, .ref vS, .ref vF, .ref vN, .ref vY, .int 0]))] sz)) 1 6 (va_A [(h0, .inr (12, [.ref vC, .ref vP, .ref vT, .ref vS, .ref vF, .ref vN, .ref vY, .int 0]))] sz) := by
  refine vx_ofW (cc := cX9_drawFor) (maxL := 2) (ret := none) (by decide) rfl ?_
  intro p e s m args below meth c s₁ B hml hout hv
  obtain ⟨rfl, hsz, hP, hK, hD0, hX, hY⟩ := hv
  have hx := B.exec
  have hb := B.bytes
  have hr := B.returns
  have hts0 := atoms_spec (ws := wz yX9_drawFor cX9_drawFor 2 none) B.pre
  have hts : ∀ w ∈ wAll, w.before _ s = true := fun w h => hts0 w (List.mem_cons_of_mem _ h)
  have hown : s.vm.findClass RX9 = some m.cls := findClass_of_methodNamed B.named
  have hlocks := B.notSynchronized
  subst hsz
  have hD := hD0.self (sz := s.heap.size)
  generalize hAe : va_A [(h0, .inr (12, [.ref vC, .ref vP, .ref vT, .ref vS, .ref vF, .ref vN, .ref vY, .int 0]))] s.heap.size = A at hD hY ⊢
  have hA : ∀ q : Nat, s.heap.size ≤ q → A q := fun q h => by rw [← hAe]; exact Or.inr h
  have hS : va_S A s.heap s.heap [] := va_S.rf
  have hP : va_P D vwCl [(h0, .inr (12, [.ref vC, .ref vP, .ref vT, .ref vS, .ref vF, .ref vN, .ref vY, .int 0]))] s.heap := hP
  have hl := lv_entry ([.ref h0, .int n]) (n := 2) (Nat.le_of_ble_eq_true rfl)
  rw [lg_entry_eq]
  generalize (lg_sl ([.ref h0, .int n]) ++ List.replicate (2 - (lg_sl ([.ref h0, .int n])).length) Slot.unset).toArray = ls at hl ⊢
  have hl : lv_has ls 2 [(0, .ref h0), (1, .int n)] := hl
  refine z_anyQ (fun Q hQe => ?_)
  refine lv_aload_n hx hb dX9_drawFor_0 rfl (lv_at hl 0 rfl) ?_
  refine lv_iload_n hx hb dX9_drawFor_1 rfl (lv_at hl 1 rfl) ?_
  rw [hQe]
  exact zx_thru (wc := [(h0, .inr (12, [.ref vC, .ref vP, .ref vT, .ref vS, .ref vF, .ref vN, .ref vY, .int 0]))]) (vx_runV (As := [.int n]) (rest := []) ⟨hx, hb, hml, hown, hts⟩ (k_needParty l hlt D cy h0 vC vP vT vS vF vN vY n s.heap.size ) (cwV 1 hts (gzV (gz q171) q170 q172 q173 q174) rfl rfl rfl vX9_needParty ⟨Nat.le_of_ble_eq_true rfl, Nat.le_of_ble_eq_true rfl⟩) (zpV (ci := 12) (T := TX9) (N := 8) (q0 := 0) hK hX hY hP hD hS hA [0] (by decide) rfl rfl rfl) rfl rfl hl.1 rfl (lv_room (Nat.le_of_ble_eq_true rfl)) dX9_drawFor_2 ⟨Nat.le_of_ble_eq_true rfl, Nat.le_of_ble_eq_true rfl⟩) hD hS hA [0] rfl hlocks hout (Nat.le_of_ble_eq_true rfl) (Nat.le_of_ble_eq_true rfl)
set_option maxHeartbeats 4000000 in
set_option maxRecDepth 100000 in
/-- no stations -/
theorem k_weighFor (l : Launch) (hlt : l.stackTraces = false) (D : va_G) (cy : Nat → ClassId) (h0 : Nat) (vC : Nat) (vP : Nat) (vT : Nat) (vS : Nat) (vF : Nat) (vN : Nat) (vY : Nat) (sS : Nat) (sJ : Nat) (n : Int32) (ax : Int32) (d : Int32) (sz : Nat)  : vx_Met l yX9_weighFor (wz yX9_weighFor cX9_weighFor 4 none) ({ frames := 7, cells := 1, slots := 6, locals := 103 } : Room) (va_Pc [.ref h0, .int n, .int ax, .int d] (zPre vwCl D cy [(h0, .inr (12, [.ref vC, .ref vP, .ref vT, .ref vS, .ref vF, .ref vN, .ref vY, .int 0])), (vC, .inr (3, [.ref sS, .ref sJ, .int 0, .int 0]))] sz)) zNo (zXC zE1 (va_A [(h0, .inr (12, [.ref vC, .ref vP, .ref vT, .ref vS, .ref vF, .ref vN, .ref vY, .int 0])), (vC, .inr (3, [.ref sS, .ref sJ, .int 0, .int 0]))] sz)) 1 6 (va_A [(h0, .inr (12, [.ref vC, .ref vP, .ref vT, .ref vS, .ref vF, .ref vN, .ref vY, .int 0])), (vC, .inr (3, [.ref sS, .ref sJ, .int 0, .int 0]))] sz) := by
  refine vx_ofW (cc := cX9_weighFor) (maxL := 4) (ret := none) (by decide) rfl ?_
  intro p e s m args below meth c s₁ B hml hout hv
  obtain ⟨rfl, hsz, hP, hK, hD0, hX, hY⟩ := hv
  have hx := B.exec
  have hb := B.bytes
  have hr := B.returns
  have hts0 := atoms_spec (ws := wz yX9_weighFor cX9_weighFor 4 none) B.pre
  have hts : ∀ w ∈ wAll, w.before _ s = true := fun w h => hts0 w (List.mem_cons_of_mem _ h)
  have hown : s.vm.findClass RX9 = some m.cls := findClass_of_methodNamed B.named
  have hlocks := B.notSynchronized
  subst hsz
  have hD := hD0.self (sz := s.heap.size)
  generalize hAe : va_A [(h0, .inr (12, [.ref vC, .ref vP, .ref vT, .ref vS, .ref vF, .ref vN, .ref vY, .int 0])), (vC, .inr (3, [.ref sS, .ref sJ, .int 0, .int 0]))] s.heap.size = A at hD hY ⊢
  have hA : ∀ q : Nat, s.heap.size ≤ q → A q := fun q h => by rw [← hAe]; exact Or.inr h
  have hS : va_S A s.heap s.heap [] := va_S.rf
  have hP : va_P D vwCl [(h0, .inr (12, [.ref vC, .ref vP, .ref vT, .ref vS, .ref vF, .ref vN, .ref vY, .int 0])), (vC, .inr (3, [.ref sS, .ref sJ, .int 0, .int 0]))] s.heap := hP
  have hl := lv_entry ([.ref h0, .int n, .int ax, .int d]) (n := 4) (Nat.le_of_ble_eq_true rfl)
  rw [lg_entry_eq]
  generalize (lg_sl ([.ref h0, .int n, .int ax, .int d]) ++ List.replicate (4 - (lg_sl ([.ref h0, .int n, .int ax, .int d])).length) Slot.unset).toArray = ls at hl ⊢
  have hl : lv_has ls 4 [(0, .ref h0), (1, .int n), (2, .int ax), (3, .int d)] := hl
  refine z_anyQ (fun Q hQe => ?_)
  refine lv_aload_n hx hb dX9_weighFor_0 rfl (lv_at hl 0 rfl) ?_
  refine lv_iload_n hx hb dX9_weighFor_1 rfl (lv_at hl 1 rfl) ?_
  rw [hQe]
  exact zx_thru (wc := [(h0, .inr (12, [.ref vC, .ref vP, .ref vT, .ref vS, .ref vF, .ref vN, .ref vY, .int 0])), (vC, .inr (3, [.ref sS, .ref sJ, .int 0, .int 0]))]) (vx_runV (As := [.int n]) (rest := []) ⟨hx, hb, hml, hown, hts⟩ (k_needStation l hlt D cy h0 vC vP vT vS vF vN vY sS sJ n s.heap.size ) (cwV 1 hts (gzV (gz q176) q175 q177 q178 q174) rfl rfl rfl vX9_needStation ⟨Nat.le_of_ble_eq_true rfl, Nat.le_of_ble_eq_true rfl⟩) (zpV (ci := 12) (T := TX9) (N := 8) (q0 := 0) hK hX hY hP hD hS hA [0, 1] (by decide) rfl rfl rfl) rfl rfl hl.1 rfl (lv_room (Nat.le_of_ble_eq_true rfl)) dX9_weighFor_2 ⟨Nat.le_of_ble_eq_true rfl, Nat.le_of_ble_eq_true rfl⟩) hD hS hA [0, 1] rfl hlocks hout (Nat.le_of_ble_eq_true rfl) (Nat.le_of_ble_eq_true rfl)
set_option maxHeartbeats 4000000 in
set_option maxRecDepth 100000 in
/-- 0 times 1000 by 1 -/
theorem k_floored1000 (l : Launch) (D : va_G) (cy : Nat → ClassId)  (sz : Nat)  : Met l yX9_flooredTimes (wz yX9_flooredTimes cX9_flooredTimes 6 (some .long)) ({ frames := 0, cells := 0, slots := 0, locals := 0 } : Room) (va_Pc [.long 0, .long 1000, .long 1] (zPre vwCl D cy [] sz)) (va_Ql (fun (r : Int64) (_ : Unit) => r = 0) (fun (u : Unit) t => zPost vwCl D (va_A [] sz) [] t) (va_A [] sz)) 0 0 (va_A [] sz) := by
  refine Met.ofW (cc := cX9_flooredTimes) (maxL := 6) (ret := (some .long)) (by decide) rfl ?_
  intro p e s m args below meth c s₁ B hml hv
  obtain ⟨rfl, hsz, hP, hK, hD0, hX, hY⟩ := hv
  have hx := B.exec
  have hb := B.bytes
  have hr := B.returns
  have hts0 := atoms_spec (ws := wz yX9_flooredTimes cX9_flooredTimes 6 (some .long)) B.pre
  have hts : ∀ w ∈ wAll, w.before _ s = true := fun w h => hts0 w (List.mem_cons_of_mem _ h)
  have hown : s.vm.findClass RX9 = some m.cls := findClass_of_methodNamed B.named
  have hlocks := B.notSynchronized
  subst hsz
  have hD := hD0.self (sz := s.heap.size)
  generalize hAe : va_A [] s.heap.size = A at hD hY ⊢
  have hA : ∀ q : Nat, s.heap.size ≤ q → A q := fun q h => by rw [← hAe]; exact Or.inr h
  have hS : va_S A s.heap s.heap [] := va_S.rf
  have hP : va_P D vwCl [] s.heap := hP
  have hl := lv_entry ([.long 0, .long 1000, .long 1]) (n := 6) (Nat.le_of_ble_eq_true rfl)
  rw [lg_entry_eq]
  generalize (lg_sl ([.long 0, .long 1000, .long 1]) ++ List.replicate (6 - (lg_sl ([.long 0, .long 1000, .long 1])).length) Slot.unset).toArray = ls at hl ⊢
  have hl : lv_has ls 6 [(0, .long 0), (2, .long 1000), (4, .long 1)] := hl
  refine z_anyQ (fun Q hQe => ?_)
  refine lv_lload hx hb dX9_flooredTimes_0 (lv_at hl 2 rfl) ?_
  refine lv_lconst (v := 1) hx hb dX9_flooredTimes_2 rfl ?_
  refine W.lcmp hx hb dX9_flooredTimes_3 ?_
  refine lv_topi (fun y1 ey1 => ?_)
  obtain rfl : y1 = 0 := ey1.trans (by decide +kernel)
  refine lv_if_ge (tgt := 9) hx hb dX9_flooredTimes_4 (by decide) (fun _ => ?_) (fun c_4_1 => absurd (by decide +kernel) c_4_1)
  refine lv_lload_n hx hb dX9_flooredTimes_9 rfl (lv_at hl 0 rfl) ?_
  refine lv_lload hx hb dX9_flooredTimes_10 (lv_at hl 2 rfl) ?_
  refine lv_ldiv hx hb dX9_flooredTimes_12 (by decide) ?_
  refine lv_topl (fun y3 ey3 => ?_)
  obtain rfl : y3 = 0 := ey3.trans (by decide +kernel)
  refine lv_lload_n hx hb dX9_flooredTimes_13 rfl (lv_at hl 1 rfl) ?_
  refine lv_lmul hx hb dX9_flooredTimes_14 ?_
  refine lv_topl (fun y4 ey4 => ?_)
  obtain rfl : y4 = 0 := ey4.trans (by decide +kernel)
  refine lv_lload_n hx hb dX9_flooredTimes_15 rfl (lv_at hl 0 rfl) ?_
  refine lv_lload hx hb dX9_flooredTimes_16 (lv_at hl 2 rfl) ?_
  refine lv_lrem hx hb dX9_flooredTimes_18 (by decide) ?_
  refine lv_topl (fun y5 ey5 => ?_)
  obtain rfl : y5 = 0 := ey5.trans (by decide +kernel)
  refine lv_lload_n hx hb dX9_flooredTimes_19 rfl (lv_at hl 1 rfl) ?_
  refine lv_lmul hx hb dX9_flooredTimes_20 ?_
  refine lv_topl (fun y6 ey6 => ?_)
  obtain rfl : y6 = 0 := ey6.trans (by decide +kernel)
  refine lv_lload hx hb dX9_flooredTimes_21 (lv_at hl 2 rfl) ?_
  refine lv_ldiv hx hb dX9_flooredTimes_23 (by decide) ?_
  refine lv_topl (fun y7 ey7 => ?_)
  obtain rfl : y7 = 0 := ey7.trans (by decide +kernel)
  refine lv_ladd hx hb dX9_flooredTimes_24 ?_
  refine lv_topl (fun y8 ey8 => ?_)
  obtain rfl : y8 = 0 := ey8.trans (by decide +kernel)
  have hP9 := hP.sub (ws' := []) [] rfl
  have hD9 := hD.sub (ws' := []) [] (by decide) rfl
  refine W.widen (k := 0) (n := 0) (Nat.le_of_ble_eq_true rfl) (Nat.le_of_ble_eq_true rfl) ?_
  rw [hQe]
  exact W.lret (v := 0) hx hb hr (fun t ht hW => ⟨⟨0, (), rfl, rfl, ⟨by rw [ht]; exact hP9, hD9⟩⟩, hS.F ht⟩) hS.2.2 dX9_flooredTimes_25
set_option maxHeartbeats 4000000 in
set_option maxRecDepth 100000 in
/-- 0 times 100 by 1 -/
theorem k_floored100 (l : Launch) (D : va_G) (cy : Nat → ClassId)  (sz : Nat)  : Met l yX9_flooredTimes (wz yX9_flooredTimes cX9_flooredTimes 6 (some .long)) ({ frames := 0, cells := 0, slots := 0, locals := 0 } : Room) (va_Pc [.long 0, .long 100, .long 1] (zPre vwCl D cy [] sz)) (va_Ql (fun (r : Int64) (_ : Unit) => r = 0) (fun (u : Unit) t => zPost vwCl D (va_A [] sz) [] t) (va_A [] sz)) 0 0 (va_A [] sz) := by
  refine Met.ofW (cc := cX9_flooredTimes) (maxL := 6) (ret := (some .long)) (by decide) rfl ?_
  intro p e s m args below meth c s₁ B hml hv
  obtain ⟨rfl, hsz, hP, hK, hD0, hX, hY⟩ := hv
  have hx := B.exec
  have hb := B.bytes
  have hr := B.returns
  have hts0 := atoms_spec (ws := wz yX9_flooredTimes cX9_flooredTimes 6 (some .long)) B.pre
  have hts : ∀ w ∈ wAll, w.before _ s = true := fun w h => hts0 w (List.mem_cons_of_mem _ h)
  have hown : s.vm.findClass RX9 = some m.cls := findClass_of_methodNamed B.named
  have hlocks := B.notSynchronized
  subst hsz
  have hD := hD0.self (sz := s.heap.size)
  generalize hAe : va_A [] s.heap.size = A at hD hY ⊢
  have hA : ∀ q : Nat, s.heap.size ≤ q → A q := fun q h => by rw [← hAe]; exact Or.inr h
  have hS : va_S A s.heap s.heap [] := va_S.rf
  have hP : va_P D vwCl [] s.heap := hP
  have hl := lv_entry ([.long 0, .long 100, .long 1]) (n := 6) (Nat.le_of_ble_eq_true rfl)
  rw [lg_entry_eq]
  generalize (lg_sl ([.long 0, .long 100, .long 1]) ++ List.replicate (6 - (lg_sl ([.long 0, .long 100, .long 1])).length) Slot.unset).toArray = ls at hl ⊢
  have hl : lv_has ls 6 [(0, .long 0), (2, .long 100), (4, .long 1)] := hl
  refine z_anyQ (fun Q hQe => ?_)
  refine lv_lload hx hb dX9_flooredTimes_0 (lv_at hl 2 rfl) ?_
  refine lv_lconst (v := 1) hx hb dX9_flooredTimes_2 rfl ?_
  refine W.lcmp hx hb dX9_flooredTimes_3 ?_
  refine lv_topi (fun y1 ey1 => ?_)
  obtain rfl : y1 = 0 := ey1.trans (by decide +kernel)
  refine lv_if_ge (tgt := 9) hx hb dX9_flooredTimes_4 (by decide) (fun _ => ?_) (fun c_4_1 => absurd (by decide +kernel) c_4_1)
  refine lv_lload_n hx hb dX9_flooredTimes_9 rfl (lv_at hl 0 rfl) ?_
  refine lv_lload hx hb dX9_flooredTimes_10 (lv_at hl 2 rfl) ?_
  refine lv_ldiv hx hb dX9_flooredTimes_12 (by decide) ?_
  refine lv_topl (fun y3 ey3 => ?_)
  obtain rfl : y3 = 0 := ey3.trans (by decide +kernel)
  refine lv_lload_n hx hb dX9_flooredTimes_13 rfl (lv_at hl 1 rfl) ?_
  refine lv_lmul hx hb dX9_flooredTimes_14 ?_
  refine lv_topl (fun y4 ey4 => ?_)
  obtain rfl : y4 = 0 := ey4.trans (by decide +kernel)
  refine lv_lload_n hx hb dX9_flooredTimes_15 rfl (lv_at hl 0 rfl) ?_
  refine lv_lload hx hb dX9_flooredTimes_16 (lv_at hl 2 rfl) ?_
  refine lv_lrem hx hb dX9_flooredTimes_18 (by decide) ?_
  refine lv_topl (fun y5 ey5 => ?_)
  obtain rfl : y5 = 0 := ey5.trans (by decide +kernel)
  refine lv_lload_n hx hb dX9_flooredTimes_19 rfl (lv_at hl 1 rfl) ?_
  refine lv_lmul hx hb dX9_flooredTimes_20 ?_
  refine lv_topl (fun y6 ey6 => ?_)
  obtain rfl : y6 = 0 := ey6.trans (by decide +kernel)
  refine lv_lload hx hb dX9_flooredTimes_21 (lv_at hl 2 rfl) ?_
  refine lv_ldiv hx hb dX9_flooredTimes_23 (by decide) ?_
  refine lv_topl (fun y7 ey7 => ?_)
  obtain rfl : y7 = 0 := ey7.trans (by decide +kernel)
  refine lv_ladd hx hb dX9_flooredTimes_24 ?_
  refine lv_topl (fun y8 ey8 => ?_)
  obtain rfl : y8 = 0 := ey8.trans (by decide +kernel)
  have hP9 := hP.sub (ws' := []) [] rfl
  have hD9 := hD.sub (ws' := []) [] (by decide) rfl
  refine W.widen (k := 0) (n := 0) (Nat.le_of_ble_eq_true rfl) (Nat.le_of_ble_eq_true rfl) ?_
  rw [hQe]
  exact W.lret (v := 0) hx hb hr (fun t ht hW => ⟨⟨0, (), rfl, rfl, ⟨by rw [ht]; exact hP9, hD9⟩⟩, hS.F ht⟩) hS.2.2 dX9_flooredTimes_25
set_option maxHeartbeats 4000000 in
set_option maxRecDepth 100000 in
/-- shot on a fresh object -/
theorem f_shot (l : Launch) (hlt : l.stackTraces = false) (D : va_G) (cy : Nat → ClassId) (h0 : Nat) (vC : Nat) (vP : Nat) (vT : Nat) (vS : Nat) (vF : Nat) (vN : Nat) (vY : Nat) (sS : Nat) (sJ : Nat) (a1 : Int32) (a2 : Int32) (a3 : Int32) (a4 : Int32) (a5 : Int32) (a6 : Int32) (a7 : Int32) (a8 : Int32) (sz : Nat)  : vx_Met l yX9_shot (wz yX9_shot cX9_shot 10 (some .int)) ({ frames := 7, cells := 1, slots := 6, locals := 103 } : Room) (va_Pc [.ref h0, .int a1, .int a2, .int a3, .int a4, .int a5, .int a6, .int a7, .int a8] (zPre vwCl D cy [(h0, .inr (12, [.ref vC, .ref vP, .ref vT, .ref vS, .ref vF, .ref vN, .ref vY, .int 0])), (vC, .inr (3, [.ref sS, .ref sJ, .int 0, .int 0]))] sz)) zNo (zXC zE1 (va_A [(h0, .inr (12, [.ref vC, .ref vP, .ref vT, .ref vS, .ref vF, .ref vN, .ref vY, .int 0])), (vC, .inr (3, [.ref sS, .ref sJ, .int 0, .int 0]))] sz)) 1 6 (va_A [(h0, .inr (12, [.ref vC, .ref vP, .ref vT, .ref vS, .ref vF, .ref vN, .ref vY, .int 0])), (vC, .inr (3, [.ref sS, .ref sJ, .int 0, .int 0]))] sz) := by
  refine vx_ofW (cc := cX9_shot) (maxL := 10) (ret := (some .int)) (by decide) rfl ?_
  intro p e s m args below meth c s₁ B hml hout hv
  obtain ⟨rfl, hsz, hP, hK, hD0, hX, hY⟩ := hv
  have hx := B.exec
  have hb := B.bytes
  have hr := B.returns
  have hts0 := atoms_spec (ws := wz yX9_shot cX9_shot 10 (some .int)) B.pre
  have hts : ∀ w ∈ wAll, w.before _ s = true := fun w h => hts0 w (List.mem_cons_of_mem _ h)
  have hown : s.vm.findClass RX9 = some m.cls := findClass_of_methodNamed B.named
  have hlocks := B.notSynchronized
  subst hsz
  have hD := hD0.self (sz := s.heap.size)
  generalize hAe : va_A [(h0, .inr (12, [.ref vC, .ref vP, .ref vT, .ref vS, .ref vF, .ref vN, .ref vY, .int 0])), (vC, .inr (3, [.ref sS, .ref sJ, .int 0, .int 0]))] s.heap.size = A at hD hY ⊢
  have hA : ∀ q : Nat, s.heap.size ≤ q → A q := fun q h => by rw [← hAe]; exact Or.inr h
  have hS : va_S A s.heap s.heap [] := va_S.rf
  have hP : va_P D vwCl [(h0, .inr (12, [.ref vC, .ref vP, .ref vT, .ref vS, .ref vF, .ref vN, .ref vY, .int 0])), (vC, .inr (3, [.ref sS, .ref sJ, .int 0, .int 0]))] s.heap := hP
  have hl := lv_entry ([.ref h0, .int a1, .int a2, .int a3, .int a4, .int a5, .int a6, .int a7, .int a8]) (n := 10) (Nat.le_of_ble_eq_true rfl)
  rw [lg_entry_eq]
  generalize (lg_sl ([.ref h0, .int a1, .int a2, .int a3, .int a4, .int a5, .int a6, .int a7, .int a8]) ++ List.replicate (10 - (lg_sl ([.ref h0, .int a1, .int a2, .int a3, .int a4, .int a5, .int a6, .int a7, .int a8])).length) Slot.unset).toArray = ls at hl ⊢
  have hl : lv_has ls 10 [(0, .ref h0), (1, .int a1), (2, .int a2), (3, .int a3), (4, .int a4), (5, .int a5), (6, .int a6), (7, .int a7), (8, .int a8)] := hl
  refine z_anyQ (fun Q hQe => ?_)
  refine lv_aload_n hx hb dX9_shot_0 rfl (lv_at hl 0 rfl) ?_
  refine lv_iload_n hx hb dX9_shot_1 rfl (lv_at hl 1 rfl) ?_
  rw [hQe]
  exact zx_thru (wc := [(h0, .inr (12, [.ref vC, .ref vP, .ref vT, .ref vS, .ref vF, .ref vN, .ref vY, .int 0])), (vC, .inr (3, [.ref sS, .ref sJ, .int 0, .int 0]))]) (vx_runV (As := [.int a1]) (rest := []) ⟨hx, hb, hml, hown, hts⟩ (k_needStation l hlt D cy h0 vC vP vT vS vF vN vY sS sJ a1 s.heap.size ) (cwV 1 hts (gzV (gz q176) q175 q177 q178 q174) rfl rfl rfl vX9_needStation ⟨Nat.le_of_ble_eq_true rfl, Nat.le_of_ble_eq_true rfl⟩) (zpV (ci := 12) (T := TX9) (N := 8) (q0 := 0) hK hX hY hP hD hS hA [0, 1] (by decide) rfl rfl rfl) rfl rfl hl.1 rfl (lv_room (Nat.le_of_ble_eq_true rfl)) dX9_shot_2 ⟨Nat.le_of_ble_eq_true rfl, Nat.le_of_ble_eq_true rfl⟩) hD hS hA [0, 1] rfl hlocks hout (Nat.le_of_ble_eq_true rfl) (Nat.le_of_ble_eq_true rfl)
set_option maxHeartbeats 4000000 in
set_option maxRecDepth 100000 in
/-- setAside on a fresh object -/
theorem f_setAside (l : Launch) (hlt : l.stackTraces = false) (D : va_G) (cy : Nat → ClassId) (h0 : Nat) (vC : Nat) (vP : Nat) (vT : Nat) (vS : Nat) (vF : Nat) (vN : Nat) (vY : Nat) (sS : Nat) (sJ : Nat) (a1 : Int32) (a2 : Int32) (sz : Nat)  : vx_Met l yX9_setAside (wz yX9_setAside cX9_setAside 5 (some .boolean)) ({ frames := 7, cells := 1, slots := 6, locals := 103 } : Room) (va_Pc [.ref h0, .int a1, .int a2] (zPre vwCl D cy [(h0, .inr (12, [.ref vC, .ref vP, .ref vT, .ref vS, .ref vF, .ref vN, .ref vY, .int 0])), (vC, .inr (3, [.ref sS, .ref sJ, .int 0, .int 0]))] sz)) zNo (zXC zE1 (va_A [(h0, .inr (12, [.ref vC, .ref vP, .ref vT, .ref vS, .ref vF, .ref vN, .ref vY, .int 0])), (vC, .inr (3, [.ref sS, .ref sJ, .int 0, .int 0]))] sz)) 1 6 (va_A [(h0, .inr (12, [.ref vC, .ref vP, .ref vT, .ref vS, .ref vF, .ref vN, .ref vY, .int 0])), (vC, .inr (3, [.ref sS, .ref sJ, .int 0, .int 0]))] sz) := by
  refine vx_ofW (cc := cX9_setAside) (maxL := 5) (ret := (some .boolean)) (by decide) rfl ?_
  intro p e s m args below meth c s₁ B hml hout hv
  obtain ⟨rfl, hsz, hP, hK, hD0, hX, hY⟩ := hv
  have hx := B.exec
  have hb := B.bytes
  have hr := B.returns
  have hts0 := atoms_spec (ws := wz yX9_setAside cX9_setAside 5 (some .boolean)) B.pre
  have hts : ∀ w ∈ wAll, w.before _ s = true := fun w h => hts0 w (List.mem_cons_of_mem _ h)
  have hown : s.vm.findClass RX9 = some m.cls := findClass_of_methodNamed B.named
  have hlocks := B.notSynchronized
  subst hsz
  have hD := hD0.self (sz := s.heap.size)
  generalize hAe : va_A [(h0, .inr (12, [.ref vC, .ref vP, .ref vT, .ref vS, .ref vF, .ref vN, .ref vY, .int 0])), (vC, .inr (3, [.ref sS, .ref sJ, .int 0, .int 0]))] s.heap.size = A at hD hY ⊢
  have hA : ∀ q : Nat, s.heap.size ≤ q → A q := fun q h => by rw [← hAe]; exact Or.inr h
  have hS : va_S A s.heap s.heap [] := va_S.rf
  have hP : va_P D vwCl [(h0, .inr (12, [.ref vC, .ref vP, .ref vT, .ref vS, .ref vF, .ref vN, .ref vY, .int 0])), (vC, .inr (3, [.ref sS, .ref sJ, .int 0, .int 0]))] s.heap := hP
  have hl := lv_entry ([.ref h0, .int a1, .int a2]) (n := 5) (Nat.le_of_ble_eq_true rfl)
  rw [lg_entry_eq]
  generalize (lg_sl ([.ref h0, .int a1, .int a2]) ++ List.replicate (5 - (lg_sl ([.ref h0, .int a1, .int a2])).length) Slot.unset).toArray = ls at hl ⊢
  have hl : lv_has ls 5 [(0, .ref h0), (1, .int a1), (2, .int a2)] := hl
  refine z_anyQ (fun Q hQe => ?_)
  refine lv_aload_n hx hb dX9_setAside_0 rfl (lv_at hl 0 rfl) ?_
  refine lv_iload_n hx hb dX9_setAside_1 rfl (lv_at hl 1 rfl) ?_
  rw [hQe]
  exact zx_thru (wc := [(h0, .inr (12, [.ref vC, .ref vP, .ref vT, .ref vS, .ref vF, .ref vN, .ref vY, .int 0])), (vC, .inr (3, [.ref sS, .ref sJ, .int 0, .int 0]))]) (vx_runV (As := [.int a1]) (rest := []) ⟨hx, hb, hml, hown, hts⟩ (k_needShot l hlt D cy h0 vC vP vT vS vF vN vY sS sJ a1 s.heap.size ) (cwV 1 hts (gzV (gz q180) q179 q181 q182 q174) rfl rfl rfl vX9_needShot ⟨Nat.le_of_ble_eq_true rfl, Nat.le_of_ble_eq_true rfl⟩) (zpV (ci := 12) (T := TX9) (N := 8) (q0 := 0) hK hX hY hP hD hS hA [0, 1] (by decide) rfl rfl rfl) rfl rfl hl.1 rfl (lv_room (Nat.le_of_ble_eq_true rfl)) dX9_setAside_2 ⟨Nat.le_of_ble_eq_true rfl, Nat.le_of_ble_eq_true rfl⟩) hD hS hA [0, 1] rfl hlocks hout (Nat.le_of_ble_eq_true rfl) (Nat.le_of_ble_eq_true rfl)
set_option maxHeartbeats 4000000 in
set_option maxRecDepth 100000 in
/-- join on a fresh object -/
theorem f_join (l : Launch) (hlt : l.stackTraces = false) (D : va_G) (cy : Nat → ClassId) (h0 : Nat) (vC : Nat) (vP : Nat) (vT : Nat) (vS : Nat) (vF : Nat) (vN : Nat) (vY : Nat) (sS : Nat) (sJ : Nat) (a1 : Int32) (a2 : Int32) (a3 : Int32) (sz : Nat)  : vx_Met l yX9_join (wz yX9_join cX9_join 5 (some .boolean)) ({ frames := 7, cells := 1, slots := 6, locals := 103 } : Room) (va_Pc [.ref h0, .int a1, .int a2, .int a3] (zPre vwCl D cy [(h0, .inr (12, [.ref vC, .ref vP, .ref vT, .ref vS, .ref vF, .ref vN, .ref vY, .int 0])), (vC, .inr (3, [.ref sS, .ref sJ, .int 0, .int 0]))] sz)) zNo (zXC zE1 (va_A [(h0, .inr (12, [.ref vC, .ref vP, .ref vT, .ref vS, .ref vF, .ref vN, .ref vY, .int 0])), (vC, .inr (3, [.ref sS, .ref sJ, .int 0, .int 0]))] sz)) 1 6 (va_A [(h0, .inr (12, [.ref vC, .ref vP, .ref vT, .ref vS, .ref vF, .ref vN, .ref vY, .int 0])), (vC, .inr (3, [.ref sS, .ref sJ, .int 0, .int 0]))] sz) := by
  refine vx_ofW (cc := cX9_join) (maxL := 5) (ret := (some .boolean)) (by decide) rfl ?_
  intro p e s m args below meth c s₁ B hml hout hv
  obtain ⟨rfl, hsz, hP, hK, hD0, hX, hY⟩ := hv
  have hx := B.exec
  have hb := B.bytes
  have hr := B.returns
  have hts0 := atoms_spec (ws := wz yX9_join cX9_join 5 (some .boolean)) B.pre
  have hts : ∀ w ∈ wAll, w.before _ s = true := fun w h => hts0 w (List.mem_cons_of_mem _ h)
  have hown : s.vm.findClass RX9 = some m.cls := findClass_of_methodNamed B.named
  have hlocks := B.notSynchronized
  subst hsz
  have hD := hD0.self (sz := s.heap.size)
  generalize hAe : va_A [(h0, .inr (12, [.ref vC, .ref vP, .ref vT, .ref vS, .ref vF, .ref vN, .ref vY, .int 0])), (vC, .inr (3, [.ref sS, .ref sJ, .int 0, .int 0]))] s.heap.size = A at hD hY ⊢
  have hA : ∀ q : Nat, s.heap.size ≤ q → A q := fun q h => by rw [← hAe]; exact Or.inr h
  have hS : va_S A s.heap s.heap [] := va_S.rf
  have hP : va_P D vwCl [(h0, .inr (12, [.ref vC, .ref vP, .ref vT, .ref vS, .ref vF, .ref vN, .ref vY, .int 0])), (vC, .inr (3, [.ref sS, .ref sJ, .int 0, .int 0]))] s.heap := hP
  have hl := lv_entry ([.ref h0, .int a1, .int a2, .int a3]) (n := 5) (Nat.le_of_ble_eq_true rfl)
  rw [lg_entry_eq]
  generalize (lg_sl ([.ref h0, .int a1, .int a2, .int a3]) ++ List.replicate (5 - (lg_sl ([.ref h0, .int a1, .int a2, .int a3])).length) Slot.unset).toArray = ls at hl ⊢
  have hl : lv_has ls 5 [(0, .ref h0), (1, .int a1), (2, .int a2), (3, .int a3)] := hl
  refine z_anyQ (fun Q hQe => ?_)
  refine lv_aload_n hx hb dX9_join_0 rfl (lv_at hl 0 rfl) ?_
  refine lv_iload_n hx hb dX9_join_1 rfl (lv_at hl 1 rfl) ?_
  rw [hQe]
  exact zx_thru (wc := [(h0, .inr (12, [.ref vC, .ref vP, .ref vT, .ref vS, .ref vF, .ref vN, .ref vY, .int 0])), (vC, .inr (3, [.ref sS, .ref sJ, .int 0, .int 0]))]) (vx_runV (As := [.int a1]) (rest := []) ⟨hx, hb, hml, hown, hts⟩ (k_needStation l hlt D cy h0 vC vP vT vS vF vN vY sS sJ a1 s.heap.size ) (cwV 1 hts (gzV (gz q176) q175 q177 q178 q174) rfl rfl rfl vX9_needStation ⟨Nat.le_of_ble_eq_true rfl, Nat.le_of_ble_eq_true rfl⟩) (zpV (ci := 12) (T := TX9) (N := 8) (q0 := 0) hK hX hY hP hD hS hA [0, 1] (by decide) rfl rfl rfl) rfl rfl hl.1 rfl (lv_room (Nat.le_of_ble_eq_true rfl)) dX9_join_2 ⟨Nat.le_of_ble_eq_true rfl, Nat.le_of_ble_eq_true rfl⟩) hD hS hA [0, 1] rfl hlocks hout (Nat.le_of_ble_eq_true rfl) (Nat.le_of_ble_eq_true rfl)
set_option maxHeartbeats 4000000 in
set_option maxRecDepth 100000 in
/-- oneWith on a fresh object -/
theorem f_oneWith (l : Launch) (hlt : l.stackTraces = false) (D : va_G) (cy : Nat → ClassId) (h0 : Nat) (vC : Nat) (vP : Nat) (vT : Nat) (vS : Nat) (vF : Nat) (vN : Nat) (vY : Nat) (sS : Nat) (sJ : Nat) (a1 : Int32) (a2 : Int32) (sz : Nat)  : vx_Met l yX9_oneWith (wz yX9_oneWith cX9_oneWith 3 (some .int)) ({ frames := 7, cells := 1, slots := 6, locals := 103 } : Room) (va_Pc [.ref h0, .int a1, .int a2] (zPre vwCl D cy [(h0, .inr (12, [.ref vC, .ref vP, .ref vT, .ref vS, .ref vF, .ref vN, .ref vY, .int 0])), (vC, .inr (3, [.ref sS, .ref sJ, .int 0, .int 0]))] sz)) zNo (zXC zE1 (va_A [(h0, .inr (12, [.ref vC, .ref vP, .ref vT, .ref vS, .ref vF, .ref vN, .ref vY, .int 0])), (vC, .inr (3, [.ref sS, .ref sJ, .int 0, .int 0]))] sz)) 1 6 (va_A [(h0, .inr (12, [.ref vC, .ref vP, .ref vT, .ref vS, .ref vF, .ref vN, .ref vY, .int 0])), (vC, .inr (3, [.ref sS, .ref sJ, .int 0, .int 0]))] sz) := by
  refine vx_ofW (cc := cX9_oneWith) (maxL := 3) (ret := (some .int)) (by decide) rfl ?_
  intro p e s m args below meth c s₁ B hml hout hv
  obtain ⟨rfl, hsz, hP, hK, hD0, hX, hY⟩ := hv
  have hx := B.exec
  have hb := B.bytes
  have hr := B.returns
  have hts0 := atoms_spec (ws := wz yX9_oneWith cX9_oneWith 3 (some .int)) B.pre
  have hts : ∀ w ∈ wAll, w.before _ s = true := fun w h => hts0 w (List.mem_cons_of_mem _ h)
  have hown : s.vm.findClass RX9 = some m.cls := findClass_of_methodNamed B.named
  have hlocks := B.notSynchronized
  subst hsz
  have hD := hD0.self (sz := s.heap.size)
  generalize hAe : va_A [(h0, .inr (12, [.ref vC, .ref vP, .ref vT, .ref vS, .ref vF, .ref vN, .ref vY, .int 0])), (vC, .inr (3, [.ref sS, .ref sJ, .int 0, .int 0]))] s.heap.size = A at hD hY ⊢
  have hA : ∀ q : Nat, s.heap.size ≤ q → A q := fun q h => by rw [← hAe]; exact Or.inr h
  have hS : va_S A s.heap s.heap [] := va_S.rf
  have hP : va_P D vwCl [(h0, .inr (12, [.ref vC, .ref vP, .ref vT, .ref vS, .ref vF, .ref vN, .ref vY, .int 0])), (vC, .inr (3, [.ref sS, .ref sJ, .int 0, .int 0]))] s.heap := hP
  have hl := lv_entry ([.ref h0, .int a1, .int a2]) (n := 3) (Nat.le_of_ble_eq_true rfl)
  rw [lg_entry_eq]
  generalize (lg_sl ([.ref h0, .int a1, .int a2]) ++ List.replicate (3 - (lg_sl ([.ref h0, .int a1, .int a2])).length) Slot.unset).toArray = ls at hl ⊢
  have hl : lv_has ls 3 [(0, .ref h0), (1, .int a1), (2, .int a2)] := hl
  refine z_anyQ (fun Q hQe => ?_)
  refine lv_aload_n hx hb dX9_oneWith_0 rfl (lv_at hl 0 rfl) ?_
  refine lv_iload_n hx hb dX9_oneWith_1 rfl (lv_at hl 1 rfl) ?_
  rw [hQe]
  exact zx_thru (wc := [(h0, .inr (12, [.ref vC, .ref vP, .ref vT, .ref vS, .ref vF, .ref vN, .ref vY, .int 0])), (vC, .inr (3, [.ref sS, .ref sJ, .int 0, .int 0]))]) (vx_runV (As := [.int a1]) (rest := []) ⟨hx, hb, hml, hown, hts⟩ (k_needStation l hlt D cy h0 vC vP vT vS vF vN vY sS sJ a1 s.heap.size ) (cwV 1 hts (gzV (gz q176) q175 q177 q178 q174) rfl rfl rfl vX9_needStation ⟨Nat.le_of_ble_eq_true rfl, Nat.le_of_ble_eq_true rfl⟩) (zpV (ci := 12) (T := TX9) (N := 8) (q0 := 0) hK hX hY hP hD hS hA [0, 1] (by decide) rfl rfl rfl) rfl rfl hl.1 rfl (lv_room (Nat.le_of_ble_eq_true rfl)) dX9_oneWith_2 ⟨Nat.le_of_ble_eq_true rfl, Nat.le_of_ble_eq_true rfl⟩) hD hS hA [0, 1] rfl hlocks hout (Nat.le_of_ble_eq_true rfl) (Nat.le_of_ble_eq_true rfl)
set_option maxHeartbeats 4000000 in
set_option maxRecDepth 100000 in
/-- isHung on a fresh object -/
theorem f_isHung (l : Launch) (hlt : l.stackTraces = false) (D : va_G) (cy : Nat → ClassId) (h0 : Nat) (vC : Nat) (vP : Nat) (vT : Nat) (vS : Nat) (vF : Nat) (vN : Nat) (vY : Nat) (sS : Nat) (sJ : Nat) (a1 : Int32) (a2 : Int32) (sz : Nat)  : vx_Met l yX9_isHung (wz yX9_isHung cX9_isHung 3 (some .boolean)) ({ frames := 7, cells := 1, slots := 6, locals := 103 } : Room) (va_Pc [.ref h0, .int a1, .int a2] (zPre vwCl D cy [(h0, .inr (12, [.ref vC, .ref vP, .ref vT, .ref vS, .ref vF, .ref vN, .ref vY, .int 0])), (vC, .inr (3, [.ref sS, .ref sJ, .int 0, .int 0]))] sz)) zNo (zXC zE1 (va_A [(h0, .inr (12, [.ref vC, .ref vP, .ref vT, .ref vS, .ref vF, .ref vN, .ref vY, .int 0])), (vC, .inr (3, [.ref sS, .ref sJ, .int 0, .int 0]))] sz)) 1 6 (va_A [(h0, .inr (12, [.ref vC, .ref vP, .ref vT, .ref vS, .ref vF, .ref vN, .ref vY, .int 0])), (vC, .inr (3, [.ref sS, .ref sJ, .int 0, .int 0]))] sz) := by
  refine vx_ofW (cc := cX9_isHung) (maxL := 3) (ret := (some .boolean)) (by decide) rfl ?_
  intro p e s m args below meth c s₁ B hml hout hv
  obtain ⟨rfl, hsz, hP, hK, hD0, hX, hY⟩ := hv
  have hx := B.exec
  have hb := B.bytes
  have hr := B.returns
  have hts0 := atoms_spec (ws := wz yX9_isHung cX9_isHung 3 (some .boolean)) B.pre
  have hts : ∀ w ∈ wAll, w.before _ s = true := fun w h => hts0 w (List.mem_cons_of_mem _ h)
  have hown : s.vm.findClass RX9 = some m.cls := findClass_of_methodNamed B.named
  have hlocks := B.notSynchronized
  subst hsz
  have hD := hD0.self (sz := s.heap.size)
  generalize hAe : va_A [(h0, .inr (12, [.ref vC, .ref vP, .ref vT, .ref vS, .ref vF, .ref vN, .ref vY, .int 0])), (vC, .inr (3, [.ref sS, .ref sJ, .int 0, .int 0]))] s.heap.size = A at hD hY ⊢
  have hA : ∀ q : Nat, s.heap.size ≤ q → A q := fun q h => by rw [← hAe]; exact Or.inr h
  have hS : va_S A s.heap s.heap [] := va_S.rf
  have hP : va_P D vwCl [(h0, .inr (12, [.ref vC, .ref vP, .ref vT, .ref vS, .ref vF, .ref vN, .ref vY, .int 0])), (vC, .inr (3, [.ref sS, .ref sJ, .int 0, .int 0]))] s.heap := hP
  have hl := lv_entry ([.ref h0, .int a1, .int a2]) (n := 3) (Nat.le_of_ble_eq_true rfl)
  rw [lg_entry_eq]
  generalize (lg_sl ([.ref h0, .int a1, .int a2]) ++ List.replicate (3 - (lg_sl ([.ref h0, .int a1, .int a2])).length) Slot.unset).toArray = ls at hl ⊢
  have hl : lv_has ls 3 [(0, .ref h0), (1, .int a1), (2, .int a2)] := hl
  refine z_anyQ (fun Q hQe => ?_)
  refine lv_aload_n hx hb dX9_isHung_0 rfl (lv_at hl 0 rfl) ?_
  refine lv_iload_n hx hb dX9_isHung_1 rfl (lv_at hl 1 rfl) ?_
  rw [hQe]
  exact zx_thru (wc := [(h0, .inr (12, [.ref vC, .ref vP, .ref vT, .ref vS, .ref vF, .ref vN, .ref vY, .int 0])), (vC, .inr (3, [.ref sS, .ref sJ, .int 0, .int 0]))]) (vx_runV (As := [.int a1]) (rest := []) ⟨hx, hb, hml, hown, hts⟩ (k_needStation l hlt D cy h0 vC vP vT vS vF vN vY sS sJ a1 s.heap.size ) (cwV 1 hts (gzV (gz q176) q175 q177 q178 q174) rfl rfl rfl vX9_needStation ⟨Nat.le_of_ble_eq_true rfl, Nat.le_of_ble_eq_true rfl⟩) (zpV (ci := 12) (T := TX9) (N := 8) (q0 := 0) hK hX hY hP hD hS hA [0, 1] (by decide) rfl rfl rfl) rfl rfl hl.1 rfl (lv_room (Nat.le_of_ble_eq_true rfl)) dX9_isHung_2 ⟨Nat.le_of_ble_eq_true rfl, Nat.le_of_ble_eq_true rfl⟩) hD hS hA [0, 1] rfl hlocks hout (Nat.le_of_ble_eq_true rfl) (Nat.le_of_ble_eq_true rfl)
set_option maxHeartbeats 4000000 in
set_option maxRecDepth 100000 in
/-- top on a fresh object -/
theorem f_top (l : Launch) (hlt : l.stackTraces = false) (D : va_G) (cy : Nat → ClassId) (h0 : Nat) (vC : Nat) (vP : Nat) (vT : Nat) (vS : Nat) (vF : Nat) (vN : Nat) (vY : Nat) (sS : Nat) (sJ : Nat) (a1 : Int32) (a2 : Int32) (a3 : Int32) (sz : Nat)  : vx_Met l yX9_top (wz yX9_top cX9_top 4 (some .long)) ({ frames := 8, cells := 1, slots := 6, locals := 126 } : Room) (va_Pc [.ref h0, .int a1, .int a2, .int a3] (zPre vwCl D cy [(h0, .inr (12, [.ref vC, .ref vP, .ref vT, .ref vS, .ref vF, .ref vN, .ref vY, .int 0])), (vC, .inr (3, [.ref sS, .ref sJ, .int 0, .int 0]))] sz)) zNo (zXC zE1 (va_A [(h0, .inr (12, [.ref vC, .ref vP, .ref vT, .ref vS, .ref vF, .ref vN, .ref vY, .int 0])), (vC, .inr (3, [.ref sS, .ref sJ, .int 0, .int 0]))] sz)) 1 6 (va_A [(h0, .inr (12, [.ref vC, .ref vP, .ref vT, .ref vS, .ref vF, .ref vN, .ref vY, .int 0])), (vC, .inr (3, [.ref sS, .ref sJ, .int 0, .int 0]))] sz) := by
  refine vx_ofW (cc := cX9_top) (maxL := 4) (ret := (some .long)) (by decide) rfl ?_
  intro p e s m args below meth c s₁ B hml hout hv
  obtain ⟨rfl, hsz, hP, hK, hD0, hX, hY⟩ := hv
  have hx := B.exec
  have hb := B.bytes
  have hr := B.returns
  have hts0 := atoms_spec (ws := wz yX9_top cX9_top 4 (some .long)) B.pre
  have hts : ∀ w ∈ wAll, w.before _ s = true := fun w h => hts0 w (List.mem_cons_of_mem _ h)
  have hown : s.vm.findClass RX9 = some m.cls := findClass_of_methodNamed B.named
  have hlocks := B.notSynchronized
  subst hsz
  have hD := hD0.self (sz := s.heap.size)
  generalize hAe : va_A [(h0, .inr (12, [.ref vC, .ref vP, .ref vT, .ref vS, .ref vF, .ref vN, .ref vY, .int 0])), (vC, .inr (3, [.ref sS, .ref sJ, .int 0, .int 0]))] s.heap.size = A at hD hY ⊢
  have hA : ∀ q : Nat, s.heap.size ≤ q → A q := fun q h => by rw [← hAe]; exact Or.inr h
  have hS : va_S A s.heap s.heap [] := va_S.rf
  have hP : va_P D vwCl [(h0, .inr (12, [.ref vC, .ref vP, .ref vT, .ref vS, .ref vF, .ref vN, .ref vY, .int 0])), (vC, .inr (3, [.ref sS, .ref sJ, .int 0, .int 0]))] s.heap := hP
  have hl := lv_entry ([.ref h0, .int a1, .int a2, .int a3]) (n := 4) (Nat.le_of_ble_eq_true rfl)
  rw [lg_entry_eq]
  generalize (lg_sl ([.ref h0, .int a1, .int a2, .int a3]) ++ List.replicate (4 - (lg_sl ([.ref h0, .int a1, .int a2, .int a3])).length) Slot.unset).toArray = ls at hl ⊢
  have hl : lv_has ls 4 [(0, .ref h0), (1, .int a1), (2, .int a2), (3, .int a3)] := hl
  refine z_anyQ (fun Q hQe => ?_)
  refine lv_aload_n hx hb dX9_top_0 rfl (lv_at hl 0 rfl) ?_
  refine lv_iload_n hx hb dX9_top_1 rfl (lv_at hl 1 rfl) ?_
  refine lv_iload_n hx hb dX9_top_2 rfl (lv_at hl 2 rfl) ?_
  refine lv_iload_n hx hb dX9_top_3 rfl (lv_at hl 3 rfl) ?_
  rw [hQe]
  exact zx_thru (wc := [(h0, .inr (12, [.ref vC, .ref vP, .ref vT, .ref vS, .ref vF, .ref vN, .ref vY, .int 0])), (vC, .inr (3, [.ref sS, .ref sJ, .int 0, .int 0]))]) (vx_runV (As := [.int a1, .int a2, .int a3]) (rest := []) ⟨hx, hb, hml, hown, hts⟩ (k_weighFor l hlt D cy h0 vC vP vT vS vF vN vY sS sJ a1 a2 a3 s.heap.size ) (cwV 3 hts (gzV (gz q184) q183 q185 q186 q174) rfl rfl rfl vX9_weighFor ⟨Nat.le_of_ble_eq_true rfl, Nat.le_of_ble_eq_true rfl⟩) (zpV (ci := 12) (T := TX9) (N := 8) (q0 := 0) hK hX hY hP hD hS hA [0, 1] (by decide) rfl rfl rfl) rfl rfl hl.1 rfl (lv_room (Nat.le_of_ble_eq_true rfl)) dX9_top_4 ⟨Nat.le_of_ble_eq_true rfl, Nat.le_of_ble_eq_true rfl⟩) hD hS hA [0, 1] rfl hlocks hout (Nat.le_of_ble_eq_true rfl) (Nat.le_of_ble_eq_true rfl)
set_option maxHeartbeats 4000000 in
set_option maxRecDepth 100000 in
/-- bottom on a fresh object -/
theorem f_bottom (l : Launch) (hlt : l.stackTraces = false) (D : va_G) (cy : Nat → ClassId) (h0 : Nat) (vC : Nat) (vP : Nat) (vT : Nat) (vS : Nat) (vF : Nat) (vN : Nat) (vY : Nat) (sS : Nat) (sJ : Nat) (a1 : Int32) (a2 : Int32) (a3 : Int32) (sz : Nat)  : vx_Met l yX9_bottom (wz yX9_bottom cX9_bottom 4 (some .long)) ({ frames := 8, cells := 1, slots := 6, locals := 126 } : Room) (va_Pc [.ref h0, .int a1, .int a2, .int a3] (zPre vwCl D cy [(h0, .inr (12, [.ref vC, .ref vP, .ref vT, .ref vS, .ref vF, .ref vN, .ref vY, .int 0])), (vC, .inr (3, [.ref sS, .ref sJ, .int 0, .int 0]))] sz)) zNo (zXC zE1 (va_A [(h0, .inr (12, [.ref vC, .ref vP, .ref vT, .ref vS, .ref vF, .ref vN, .ref vY, .int 0])), (vC, .inr (3, [.ref sS, .ref sJ, .int 0, .int 0]))] sz)) 1 6 (va_A [(h0, .inr (12, [.ref vC, .ref vP, .ref vT, .ref vS, .ref vF, .ref vN, .ref vY, .int 0])), (vC, .inr (3, [.ref sS, .ref sJ, .int 0, .int 0]))] sz) := by
  refine vx_ofW (cc := cX9_bottom) (maxL := 4) (ret := (some .long)) (by decide) rfl ?_
  intro p e s m args below meth c s₁ B hml hout hv
  obtain ⟨rfl, hsz, hP, hK, hD0, hX, hY⟩ := hv
  have hx := B.exec
  have hb := B.bytes
  have hr := B.returns
  have hts0 := atoms_spec (ws := wz yX9_bottom cX9_bottom 4 (some .long)) B.pre
  have hts : ∀ w ∈ wAll, w.before _ s = true := fun w h => hts0 w (List.mem_cons_of_mem _ h)
  have hown : s.vm.findClass RX9 = some m.cls := findClass_of_methodNamed B.named
  have hlocks := B.notSynchronized
  subst hsz
  have hD := hD0.self (sz := s.heap.size)
  generalize hAe : va_A [(h0, .inr (12, [.ref vC, .ref vP, .ref vT, .ref vS, .ref vF, .ref vN, .ref vY, .int 0])), (vC, .inr (3, [.ref sS, .ref sJ, .int 0, .int 0]))] s.heap.size = A at hD hY ⊢
  have hA : ∀ q : Nat, s.heap.size ≤ q → A q := fun q h => by rw [← hAe]; exact Or.inr h
  have hS : va_S A s.heap s.heap [] := va_S.rf
  have hP : va_P D vwCl [(h0, .inr (12, [.ref vC, .ref vP, .ref vT, .ref vS, .ref vF, .ref vN, .ref vY, .int 0])), (vC, .inr (3, [.ref sS, .ref sJ, .int 0, .int 0]))] s.heap := hP
  have hl := lv_entry ([.ref h0, .int a1, .int a2, .int a3]) (n := 4) (Nat.le_of_ble_eq_true rfl)
  rw [lg_entry_eq]
  generalize (lg_sl ([.ref h0, .int a1, .int a2, .int a3]) ++ List.replicate (4 - (lg_sl ([.ref h0, .int a1, .int a2, .int a3])).length) Slot.unset).toArray = ls at hl ⊢
  have hl : lv_has ls 4 [(0, .ref h0), (1, .int a1), (2, .int a2), (3, .int a3)] := hl
  refine z_anyQ (fun Q hQe => ?_)
  refine lv_aload_n hx hb dX9_bottom_0 rfl (lv_at hl 0 rfl) ?_
  refine lv_iload_n hx hb dX9_bottom_1 rfl (lv_at hl 1 rfl) ?_
  refine lv_iload_n hx hb dX9_bottom_2 rfl (lv_at hl 2 rfl) ?_
  refine lv_iload_n hx hb dX9_bottom_3 rfl (lv_at hl 3 rfl) ?_
  rw [hQe]
  exact zx_thru (wc := [(h0, .inr (12, [.ref vC, .ref vP, .ref vT, .ref vS, .ref vF, .ref vN, .ref vY, .int 0])), (vC, .inr (3, [.ref sS, .ref sJ, .int 0, .int 0]))]) (vx_runV (As := [.int a1, .int a2, .int a3]) (rest := []) ⟨hx, hb, hml, hown, hts⟩ (k_weighFor l hlt D cy h0 vC vP vT vS vF vN vY sS sJ a1 a2 a3 s.heap.size ) (cwV 3 hts (gzV (gz q184) q183 q185 q186 q174) rfl rfl rfl vX9_weighFor ⟨Nat.le_of_ble_eq_true rfl, Nat.le_of_ble_eq_true rfl⟩) (zpV (ci := 12) (T := TX9) (N := 8) (q0 := 0) hK hX hY hP hD hS hA [0, 1] (by decide) rfl rfl rfl) rfl rfl hl.1 rfl (lv_room (Nat.le_of_ble_eq_true rfl)) dX9_bottom_4 ⟨Nat.le_of_ble_eq_true rfl, Nat.le_of_ble_eq_true rfl⟩) hD hS hA [0, 1] rfl hlocks hout (Nat.le_of_ble_eq_true rfl) (Nat.le_of_ble_eq_true rfl)
set_option maxHeartbeats 4000000 in
set_option maxRecDepth 100000 in
/-- fault on a fresh object -/
theorem f_fault (l : Launch) (hlt : l.stackTraces = false) (D : va_G) (cy : Nat → ClassId) (h0 : Nat) (vC : Nat) (vP : Nat) (vT : Nat) (vS : Nat) (vF : Nat) (vN : Nat) (vY : Nat) (sS : Nat) (sJ : Nat) (a1 : Int32) (a2 : Int32) (sz : Nat)  : vx_Met l yX9_fault (wz yX9_fault cX9_fault 3 (some .long)) ({ frames := 7, cells := 1, slots := 6, locals := 103 } : Room) (va_Pc [.ref h0, .int a1, .int a2] (zPre vwCl D cy [(h0, .inr (12, [.ref vC, .ref vP, .ref vT, .ref vS, .ref vF, .ref vN, .ref vY, .int 0])), (vC, .inr (3, [.ref sS, .ref sJ, .int 0, .int 0]))] sz)) zNo (zXC zE1 (va_A [(h0, .inr (12, [.ref vC, .ref vP, .ref vT, .ref vS, .ref vF, .ref vN, .ref vY, .int 0])), (vC, .inr (3, [.ref sS, .ref sJ, .int 0, .int 0]))] sz)) 1 6 (va_A [(h0, .inr (12, [.ref vC, .ref vP, .ref vT, .ref vS, .ref vF, .ref vN, .ref vY, .int 0])), (vC, .inr (3, [.ref sS, .ref sJ, .int 0, .int 0]))] sz) := by
  refine vx_ofW (cc := cX9_fault) (maxL := 3) (ret := (some .long)) (by decide) rfl ?_
  intro p e s m args below meth c s₁ B hml hout hv
  obtain ⟨rfl, hsz, hP, hK, hD0, hX, hY⟩ := hv
  have hx := B.exec
  have hb := B.bytes
  have hr := B.returns
  have hts0 := atoms_spec (ws := wz yX9_fault cX9_fault 3 (some .long)) B.pre
  have hts : ∀ w ∈ wAll, w.before _ s = true := fun w h => hts0 w (List.mem_cons_of_mem _ h)
  have hown : s.vm.findClass RX9 = some m.cls := findClass_of_methodNamed B.named
  have hlocks := B.notSynchronized
  subst hsz
  have hD := hD0.self (sz := s.heap.size)
  generalize hAe : va_A [(h0, .inr (12, [.ref vC, .ref vP, .ref vT, .ref vS, .ref vF, .ref vN, .ref vY, .int 0])), (vC, .inr (3, [.ref sS, .ref sJ, .int 0, .int 0]))] s.heap.size = A at hD hY ⊢
  have hA : ∀ q : Nat, s.heap.size ≤ q → A q := fun q h => by rw [← hAe]; exact Or.inr h
  have hS : va_S A s.heap s.heap [] := va_S.rf
  have hP : va_P D vwCl [(h0, .inr (12, [.ref vC, .ref vP, .ref vT, .ref vS, .ref vF, .ref vN, .ref vY, .int 0])), (vC, .inr (3, [.ref sS, .ref sJ, .int 0, .int 0]))] s.heap := hP
  have hl := lv_entry ([.ref h0, .int a1, .int a2]) (n := 3) (Nat.le_of_ble_eq_true rfl)
  rw [lg_entry_eq]
  generalize (lg_sl ([.ref h0, .int a1, .int a2]) ++ List.replicate (3 - (lg_sl ([.ref h0, .int a1, .int a2])).length) Slot.unset).toArray = ls at hl ⊢
  have hl : lv_has ls 3 [(0, .ref h0), (1, .int a1), (2, .int a2)] := hl
  refine z_anyQ (fun Q hQe => ?_)
  refine lv_aload_n hx hb dX9_fault_0 rfl (lv_at hl 0 rfl) ?_
  refine lv_iload_n hx hb dX9_fault_1 rfl (lv_at hl 1 rfl) ?_
  rw [hQe]
  exact zx_thru (wc := [(h0, .inr (12, [.ref vC, .ref vP, .ref vT, .ref vS, .ref vF, .ref vN, .ref vY, .int 0])), (vC, .inr (3, [.ref sS, .ref sJ, .int 0, .int 0]))]) (vx_runV (As := [.int a1]) (rest := []) ⟨hx, hb, hml, hown, hts⟩ (k_needShot l hlt D cy h0 vC vP vT vS vF vN vY sS sJ a1 s.heap.size ) (cwV 1 hts (gzV (gz q180) q179 q181 q182 q174) rfl rfl rfl vX9_needShot ⟨Nat.le_of_ble_eq_true rfl, Nat.le_of_ble_eq_true rfl⟩) (zpV (ci := 12) (T := TX9) (N := 8) (q0 := 0) hK hX hY hP hD hS hA [0, 1] (by decide) rfl rfl rfl) rfl rfl hl.1 rfl (lv_room (Nat.le_of_ble_eq_true rfl)) dX9_fault_2 ⟨Nat.le_of_ble_eq_true rfl, Nat.le_of_ble_eq_true rfl⟩) hD hS hA [0, 1] rfl hlocks hout (Nat.le_of_ble_eq_true rfl) (Nat.le_of_ble_eq_true rfl)
set_option maxHeartbeats 4000000 in
set_option maxRecDepth 100000 in
/-- setHeight on a fresh object -/
theorem f_setHeight (l : Launch) (hlt : l.stackTraces = false) (D : va_G) (cy : Nat → ClassId) (h0 : Nat) (vC : Nat) (vP : Nat) (vT : Nat) (vS : Nat) (vF : Nat) (vN : Nat) (vY : Nat) (sS : Nat) (sJ : Nat) (a1 : Int32) (a2 : Int32) (sz : Nat)  : vx_Met l yX9_setHeight (wz yX9_setHeight cX9_setHeight 4 (some .int)) ({ frames := 7, cells := 1, slots := 6, locals := 103 } : Room) (va_Pc [.ref h0, .int a1, .int a2] (zPre vwCl D cy [(h0, .inr (12, [.ref vC, .ref vP, .ref vT, .ref vS, .ref vF, .ref vN, .ref vY, .int 0])), (vC, .inr (3, [.ref sS, .ref sJ, .int 0, .int 0]))] sz)) zNo (zXC zE1 (va_A [(h0, .inr (12, [.ref vC, .ref vP, .ref vT, .ref vS, .ref vF, .ref vN, .ref vY, .int 0])), (vC, .inr (3, [.ref sS, .ref sJ, .int 0, .int 0]))] sz)) 1 6 (va_A [(h0, .inr (12, [.ref vC, .ref vP, .ref vT, .ref vS, .ref vF, .ref vN, .ref vY, .int 0])), (vC, .inr (3, [.ref sS, .ref sJ, .int 0, .int 0]))] sz) := by
  refine vx_ofW (cc := cX9_setHeight) (maxL := 4) (ret := (some .int)) (by decide) rfl ?_
  intro p e s m args below meth c s₁ B hml hout hv
  obtain ⟨rfl, hsz, hP, hK, hD0, hX, hY⟩ := hv
  have hx := B.exec
  have hb := B.bytes
  have hr := B.returns
  have hts0 := atoms_spec (ws := wz yX9_setHeight cX9_setHeight 4 (some .int)) B.pre
  have hts : ∀ w ∈ wAll, w.before _ s = true := fun w h => hts0 w (List.mem_cons_of_mem _ h)
  have hown : s.vm.findClass RX9 = some m.cls := findClass_of_methodNamed B.named
  have hlocks := B.notSynchronized
  subst hsz
  have hD := hD0.self (sz := s.heap.size)
  generalize hAe : va_A [(h0, .inr (12, [.ref vC, .ref vP, .ref vT, .ref vS, .ref vF, .ref vN, .ref vY, .int 0])), (vC, .inr (3, [.ref sS, .ref sJ, .int 0, .int 0]))] s.heap.size = A at hD hY ⊢
  have hA : ∀ q : Nat, s.heap.size ≤ q → A q := fun q h => by rw [← hAe]; exact Or.inr h
  have hS : va_S A s.heap s.heap [] := va_S.rf
  have hP : va_P D vwCl [(h0, .inr (12, [.ref vC, .ref vP, .ref vT, .ref vS, .ref vF, .ref vN, .ref vY, .int 0])), (vC, .inr (3, [.ref sS, .ref sJ, .int 0, .int 0]))] s.heap := hP
  have hl := lv_entry ([.ref h0, .int a1, .int a2]) (n := 4) (Nat.le_of_ble_eq_true rfl)
  rw [lg_entry_eq]
  generalize (lg_sl ([.ref h0, .int a1, .int a2]) ++ List.replicate (4 - (lg_sl ([.ref h0, .int a1, .int a2])).length) Slot.unset).toArray = ls at hl ⊢
  have hl : lv_has ls 4 [(0, .ref h0), (1, .int a1), (2, .int a2)] := hl
  refine z_anyQ (fun Q hQe => ?_)
  refine lv_aload_n hx hb dX9_setHeight_0 rfl (lv_at hl 0 rfl) ?_
  refine lv_iload_n hx hb dX9_setHeight_1 rfl (lv_at hl 1 rfl) ?_
  rw [hQe]
  exact zx_thru (wc := [(h0, .inr (12, [.ref vC, .ref vP, .ref vT, .ref vS, .ref vF, .ref vN, .ref vY, .int 0])), (vC, .inr (3, [.ref sS, .ref sJ, .int 0, .int 0]))]) (vx_runV (As := [.int a1]) (rest := []) ⟨hx, hb, hml, hown, hts⟩ (k_needStation l hlt D cy h0 vC vP vT vS vF vN vY sS sJ a1 s.heap.size ) (cwV 1 hts (gzV (gz q176) q175 q177 q178 q174) rfl rfl rfl vX9_needStation ⟨Nat.le_of_ble_eq_true rfl, Nat.le_of_ble_eq_true rfl⟩) (zpV (ci := 12) (T := TX9) (N := 8) (q0 := 0) hK hX hY hP hD hS hA [0, 1] (by decide) rfl rfl rfl) rfl rfl hl.1 rfl (lv_room (Nat.le_of_ble_eq_true rfl)) dX9_setHeight_2 ⟨Nat.le_of_ble_eq_true rfl, Nat.le_of_ble_eq_true rfl⟩) hD hS hA [0, 1] rfl hlocks hout (Nat.le_of_ble_eq_true rfl) (Nat.le_of_ble_eq_true rfl)
set_option maxHeartbeats 4000000 in
set_option maxRecDepth 100000 in
/-- conduit on a fresh object -/
theorem f_conduit (l : Launch) (hlt : l.stackTraces = false) (D : va_G) (cy : Nat → ClassId) (h0 : Nat) (vC : Nat) (vP : Nat) (vT : Nat) (vS : Nat) (vF : Nat) (vN : Nat) (vY : Nat) (sS : Nat) (sJ : Nat) (a1 : Int32) (a2 : Int32) (a3 : Int32) (a4 : Int32) (sz : Nat)  : vx_Met l yX9_conduit (wz yX9_conduit cX9_conduit 5 (some .int)) ({ frames := 7, cells := 1, slots := 6, locals := 103 } : Room) (va_Pc [.ref h0, .int a1, .int a2, .int a3, .int a4] (zPre vwCl D cy [(h0, .inr (12, [.ref vC, .ref vP, .ref vT, .ref vS, .ref vF, .ref vN, .ref vY, .int 0])), (vC, .inr (3, [.ref sS, .ref sJ, .int 0, .int 0]))] sz)) zNo (zXC zE1 (va_A [(h0, .inr (12, [.ref vC, .ref vP, .ref vT, .ref vS, .ref vF, .ref vN, .ref vY, .int 0])), (vC, .inr (3, [.ref sS, .ref sJ, .int 0, .int 0]))] sz)) 1 6 (va_A [(h0, .inr (12, [.ref vC, .ref vP, .ref vT, .ref vS, .ref vF, .ref vN, .ref vY, .int 0])), (vC, .inr (3, [.ref sS, .ref sJ, .int 0, .int 0]))] sz) := by
  refine vx_ofW (cc := cX9_conduit) (maxL := 5) (ret := (some .int)) (by decide) rfl ?_
  intro p e s m args below meth c s₁ B hml hout hv
  obtain ⟨rfl, hsz, hP, hK, hD0, hX, hY⟩ := hv
  have hx := B.exec
  have hb := B.bytes
  have hr := B.returns
  have hts0 := atoms_spec (ws := wz yX9_conduit cX9_conduit 5 (some .int)) B.pre
  have hts : ∀ w ∈ wAll, w.before _ s = true := fun w h => hts0 w (List.mem_cons_of_mem _ h)
  have hown : s.vm.findClass RX9 = some m.cls := findClass_of_methodNamed B.named
  have hlocks := B.notSynchronized
  subst hsz
  have hD := hD0.self (sz := s.heap.size)
  generalize hAe : va_A [(h0, .inr (12, [.ref vC, .ref vP, .ref vT, .ref vS, .ref vF, .ref vN, .ref vY, .int 0])), (vC, .inr (3, [.ref sS, .ref sJ, .int 0, .int 0]))] s.heap.size = A at hD hY ⊢
  have hA : ∀ q : Nat, s.heap.size ≤ q → A q := fun q h => by rw [← hAe]; exact Or.inr h
  have hS : va_S A s.heap s.heap [] := va_S.rf
  have hP : va_P D vwCl [(h0, .inr (12, [.ref vC, .ref vP, .ref vT, .ref vS, .ref vF, .ref vN, .ref vY, .int 0])), (vC, .inr (3, [.ref sS, .ref sJ, .int 0, .int 0]))] s.heap := hP
  have hl := lv_entry ([.ref h0, .int a1, .int a2, .int a3, .int a4]) (n := 5) (Nat.le_of_ble_eq_true rfl)
  rw [lg_entry_eq]
  generalize (lg_sl ([.ref h0, .int a1, .int a2, .int a3, .int a4]) ++ List.replicate (5 - (lg_sl ([.ref h0, .int a1, .int a2, .int a3, .int a4])).length) Slot.unset).toArray = ls at hl ⊢
  have hl : lv_has ls 5 [(0, .ref h0), (1, .int a1), (2, .int a2), (3, .int a3), (4, .int a4)] := hl
  refine z_anyQ (fun Q hQe => ?_)
  refine lv_aload_n hx hb dX9_conduit_0 rfl (lv_at hl 0 rfl) ?_
  refine lv_iload_n hx hb dX9_conduit_1 rfl (lv_at hl 1 rfl) ?_
  rw [hQe]
  exact zx_thru (wc := [(h0, .inr (12, [.ref vC, .ref vP, .ref vT, .ref vS, .ref vF, .ref vN, .ref vY, .int 0])), (vC, .inr (3, [.ref sS, .ref sJ, .int 0, .int 0]))]) (vx_runV (As := [.int a1]) (rest := []) ⟨hx, hb, hml, hown, hts⟩ (k_needStation l hlt D cy h0 vC vP vT vS vF vN vY sS sJ a1 s.heap.size ) (cwV 1 hts (gzV (gz q176) q175 q177 q178 q174) rfl rfl rfl vX9_needStation ⟨Nat.le_of_ble_eq_true rfl, Nat.le_of_ble_eq_true rfl⟩) (zpV (ci := 12) (T := TX9) (N := 8) (q0 := 0) hK hX hY hP hD hS hA [0, 1] (by decide) rfl rfl rfl) rfl rfl hl.1 rfl (lv_room (Nat.le_of_ble_eq_true rfl)) dX9_conduit_2 ⟨Nat.le_of_ble_eq_true rfl, Nat.le_of_ble_eq_true rfl⟩) hD hS hA [0, 1] rfl hlocks hout (Nat.le_of_ble_eq_true rfl) (Nat.le_of_ble_eq_true rfl)
set_option maxHeartbeats 4000000 in
set_option maxRecDepth 100000 in
/-- trace on a fresh object -/
theorem f_trace (l : Launch) (hlt : l.stackTraces = false) (D : va_G) (cy : Nat → ClassId) (h0 : Nat) (vC : Nat) (vP : Nat) (vT : Nat) (vS : Nat) (vF : Nat) (vN : Nat) (vY : Nat) (sS : Nat) (sJ : Nat) (a1 : Int32) (a2 : Int32) (sz : Nat)  : vx_Met l yX9_trace (wz yX9_trace cX9_trace 5 (some .int)) ({ frames := 7, cells := 1, slots := 6, locals := 103 } : Room) (va_Pc [.ref h0, .int a1, .int a2] (zPre vwCl D cy [(h0, .inr (12, [.ref vC, .ref vP, .ref vT, .ref vS, .ref vF, .ref vN, .ref vY, .int 0])), (vC, .inr (3, [.ref sS, .ref sJ, .int 0, .int 0]))] sz)) zNo (zXC zE1 (va_A [(h0, .inr (12, [.ref vC, .ref vP, .ref vT, .ref vS, .ref vF, .ref vN, .ref vY, .int 0])), (vC, .inr (3, [.ref sS, .ref sJ, .int 0, .int 0]))] sz)) 1 6 (va_A [(h0, .inr (12, [.ref vC, .ref vP, .ref vT, .ref vS, .ref vF, .ref vN, .ref vY, .int 0])), (vC, .inr (3, [.ref sS, .ref sJ, .int 0, .int 0]))] sz) := by
  refine vx_ofW (cc := cX9_trace) (maxL := 5) (ret := (some .int)) (by decide) rfl ?_
  intro p e s m args below meth c s₁ B hml hout hv
  obtain ⟨rfl, hsz, hP, hK, hD0, hX, hY⟩ := hv
  have hx := B.exec
  have hb := B.bytes
  have hr := B.returns
  have hts0 := atoms_spec (ws := wz yX9_trace cX9_trace 5 (some .int)) B.pre
  have hts : ∀ w ∈ wAll, w.before _ s = true := fun w h => hts0 w (List.mem_cons_of_mem _ h)
  have hown : s.vm.findClass RX9 = some m.cls := findClass_of_methodNamed B.named
  have hlocks := B.notSynchronized
  subst hsz
  have hD := hD0.self (sz := s.heap.size)
  generalize hAe : va_A [(h0, .inr (12, [.ref vC, .ref vP, .ref vT, .ref vS, .ref vF, .ref vN, .ref vY, .int 0])), (vC, .inr (3, [.ref sS, .ref sJ, .int 0, .int 0]))] s.heap.size = A at hD hY ⊢
  have hA : ∀ q : Nat, s.heap.size ≤ q → A q := fun q h => by rw [← hAe]; exact Or.inr h
  have hS : va_S A s.heap s.heap [] := va_S.rf
  have hP : va_P D vwCl [(h0, .inr (12, [.ref vC, .ref vP, .ref vT, .ref vS, .ref vF, .ref vN, .ref vY, .int 0])), (vC, .inr (3, [.ref sS, .ref sJ, .int 0, .int 0]))] s.heap := hP
  have hl := lv_entry ([.ref h0, .int a1, .int a2]) (n := 5) (Nat.le_of_ble_eq_true rfl)
  rw [lg_entry_eq]
  generalize (lg_sl ([.ref h0, .int a1, .int a2]) ++ List.replicate (5 - (lg_sl ([.ref h0, .int a1, .int a2])).length) Slot.unset).toArray = ls at hl ⊢
  have hl : lv_has ls 5 [(0, .ref h0), (1, .int a1), (2, .int a2)] := hl
  refine z_anyQ (fun Q hQe => ?_)
  refine lv_aload_n hx hb dX9_trace_0 rfl (lv_at hl 0 rfl) ?_
  refine lv_iload_n hx hb dX9_trace_1 rfl (lv_at hl 1 rfl) ?_
  rw [hQe]
  exact zx_thru (wc := [(h0, .inr (12, [.ref vC, .ref vP, .ref vT, .ref vS, .ref vF, .ref vN, .ref vY, .int 0])), (vC, .inr (3, [.ref sS, .ref sJ, .int 0, .int 0]))]) (vx_runV (As := [.int a1]) (rest := []) ⟨hx, hb, hml, hown, hts⟩ (k_needStation l hlt D cy h0 vC vP vT vS vF vN vY sS sJ a1 s.heap.size ) (cwV 1 hts (gzV (gz q176) q175 q177 q178 q174) rfl rfl rfl vX9_needStation ⟨Nat.le_of_ble_eq_true rfl, Nat.le_of_ble_eq_true rfl⟩) (zpV (ci := 12) (T := TX9) (N := 8) (q0 := 0) hK hX hY hP hD hS hA [0, 1] (by decide) rfl rfl rfl) rfl rfl hl.1 rfl (lv_room (Nat.le_of_ble_eq_true rfl)) dX9_trace_2 ⟨Nat.le_of_ble_eq_true rfl, Nat.le_of_ble_eq_true rfl⟩) hD hS hA [0, 1] rfl hlocks hout (Nat.le_of_ble_eq_true rfl) (Nat.le_of_ble_eq_true rfl)
set_option maxHeartbeats 4000000 in
set_option maxRecDepth 100000 in
/-- traced on a fresh object -/
theorem f_traced (l : Launch) (hlt : l.stackTraces = false) (D : va_G) (cy : Nat → ClassId) (h0 : Nat) (vC : Nat) (vP : Nat) (vT : Nat) (vS : Nat) (vF : Nat) (vN : Nat) (vY : Nat) (sS : Nat) (sJ : Nat) (a1 : Int32) (a2 : Int32) (sz : Nat)  : vx_Met l yX9_traced (wz yX9_traced cX9_traced 3 (some .int)) ({ frames := 7, cells := 1, slots := 6, locals := 103 } : Room) (va_Pc [.ref h0, .int a1, .int a2] (zPre vwCl D cy [(h0, .inr (12, [.ref vC, .ref vP, .ref vT, .ref vS, .ref vF, .ref vN, .ref vY, .int 0])), (vC, .inr (3, [.ref sS, .ref sJ, .int 0, .int 0]))] sz)) zNo (zXC zE1 (va_A [(h0, .inr (12, [.ref vC, .ref vP, .ref vT, .ref vS, .ref vF, .ref vN, .ref vY, .int 0])), (vC, .inr (3, [.ref sS, .ref sJ, .int 0, .int 0]))] sz)) 1 6 (va_A [(h0, .inr (12, [.ref vC, .ref vP, .ref vT, .ref vS, .ref vF, .ref vN, .ref vY, .int 0])), (vC, .inr (3, [.ref sS, .ref sJ, .int 0, .int 0]))] sz) := by
  refine vx_ofW (cc := cX9_traced) (maxL := 3) (ret := (some .int)) (by decide) rfl ?_
  intro p e s m args below meth c s₁ B hml hout hv
  obtain ⟨rfl, hsz, hP, hK, hD0, hX, hY⟩ := hv
  have hx := B.exec
  have hb := B.bytes
  have hr := B.returns
  have hts0 := atoms_spec (ws := wz yX9_traced cX9_traced 3 (some .int)) B.pre
  have hts : ∀ w ∈ wAll, w.before _ s = true := fun w h => hts0 w (List.mem_cons_of_mem _ h)
  have hown : s.vm.findClass RX9 = some m.cls := findClass_of_methodNamed B.named
  have hlocks := B.notSynchronized
  subst hsz
  have hD := hD0.self (sz := s.heap.size)
  generalize hAe : va_A [(h0, .inr (12, [.ref vC, .ref vP, .ref vT, .ref vS, .ref vF, .ref vN, .ref vY, .int 0])), (vC, .inr (3, [.ref sS, .ref sJ, .int 0, .int 0]))] s.heap.size = A at hD hY ⊢
  have hA : ∀ q : Nat, s.heap.size ≤ q → A q := fun q h => by rw [← hAe]; exact Or.inr h
  have hS : va_S A s.heap s.heap [] := va_S.rf
  have hP : va_P D vwCl [(h0, .inr (12, [.ref vC, .ref vP, .ref vT, .ref vS, .ref vF, .ref vN, .ref vY, .int 0])), (vC, .inr (3, [.ref sS, .ref sJ, .int 0, .int 0]))] s.heap := hP
  have hl := lv_entry ([.ref h0, .int a1, .int a2]) (n := 3) (Nat.le_of_ble_eq_true rfl)
  rw [lg_entry_eq]
  generalize (lg_sl ([.ref h0, .int a1, .int a2]) ++ List.replicate (3 - (lg_sl ([.ref h0, .int a1, .int a2])).length) Slot.unset).toArray = ls at hl ⊢
  have hl : lv_has ls 3 [(0, .ref h0), (1, .int a1), (2, .int a2)] := hl
  refine z_anyQ (fun Q hQe => ?_)
  refine lv_aload_n hx hb dX9_traced_0 rfl (lv_at hl 0 rfl) ?_
  refine lv_iload_n hx hb dX9_traced_1 rfl (lv_at hl 1 rfl) ?_
  rw [hQe]
  exact zx_thru (wc := [(h0, .inr (12, [.ref vC, .ref vP, .ref vT, .ref vS, .ref vF, .ref vN, .ref vY, .int 0])), (vC, .inr (3, [.ref sS, .ref sJ, .int 0, .int 0]))]) (vx_runV (As := [.int a1]) (rest := []) ⟨hx, hb, hml, hown, hts⟩ (k_needStation l hlt D cy h0 vC vP vT vS vF vN vY sS sJ a1 s.heap.size ) (cwV 1 hts (gzV (gz q176) q175 q177 q178 q174) rfl rfl rfl vX9_needStation ⟨Nat.le_of_ble_eq_true rfl, Nat.le_of_ble_eq_true rfl⟩) (zpV (ci := 12) (T := TX9) (N := 8) (q0 := 0) hK hX hY hP hD hS hA [0, 1] (by decide) rfl rfl rfl) rfl rfl hl.1 rfl (lv_room (Nat.le_of_ble_eq_true rfl)) dX9_traced_2 ⟨Nat.le_of_ble_eq_true rfl, Nat.le_of_ble_eq_true rfl⟩) hD hS hA [0, 1] rfl hlocks hout (Nat.le_of_ble_eq_true rfl) (Nat.le_of_ble_eq_true rfl)
set_option maxHeartbeats 4000000 in
set_option maxRecDepth 100000 in
/-- peak on a fresh object -/
theorem f_peak (l : Launch) (hlt : l.stackTraces = false) (D : va_G) (cy : Nat → ClassId) (h0 : Nat) (vC : Nat) (vP : Nat) (vT : Nat) (vS : Nat) (vF : Nat) (vN : Nat) (vY : Nat) (sS : Nat) (sJ : Nat) (a1 : Int32) (sz : Nat)  : vx_Met l yX9_peak (wz yX9_peak cX9_peak 3 (some .int)) ({ frames := 7, cells := 1, slots := 6, locals := 103 } : Room) (va_Pc [.ref h0, .int a1] (zPre vwCl D cy [(h0, .inr (12, [.ref vC, .ref vP, .ref vT, .ref vS, .ref vF, .ref vN, .ref vY, .int 0])), (vC, .inr (3, [.ref sS, .ref sJ, .int 0, .int 0]))] sz)) zNo (zXC zE1 (va_A [(h0, .inr (12, [.ref vC, .ref vP, .ref vT, .ref vS, .ref vF, .ref vN, .ref vY, .int 0])), (vC, .inr (3, [.ref sS, .ref sJ, .int 0, .int 0]))] sz)) 1 6 (va_A [(h0, .inr (12, [.ref vC, .ref vP, .ref vT, .ref vS, .ref vF, .ref vN, .ref vY, .int 0])), (vC, .inr (3, [.ref sS, .ref sJ, .int 0, .int 0]))] sz) := by
  refine vx_ofW (cc := cX9_peak) (maxL := 3) (ret := (some .int)) (by decide) rfl ?_
  intro p e s m args below meth c s₁ B hml hout hv
  obtain ⟨rfl, hsz, hP, hK, hD0, hX, hY⟩ := hv
  have hx := B.exec
  have hb := B.bytes
  have hr := B.returns
  have hts0 := atoms_spec (ws := wz yX9_peak cX9_peak 3 (some .int)) B.pre
  have hts : ∀ w ∈ wAll, w.before _ s = true := fun w h => hts0 w (List.mem_cons_of_mem _ h)
  have hown : s.vm.findClass RX9 = some m.cls := findClass_of_methodNamed B.named
  have hlocks := B.notSynchronized
  subst hsz
  have hD := hD0.self (sz := s.heap.size)
  generalize hAe : va_A [(h0, .inr (12, [.ref vC, .ref vP, .ref vT, .ref vS, .ref vF, .ref vN, .ref vY, .int 0])), (vC, .inr (3, [.ref sS, .ref sJ, .int 0, .int 0]))] s.heap.size = A at hD hY ⊢
  have hA : ∀ q : Nat, s.heap.size ≤ q → A q := fun q h => by rw [← hAe]; exact Or.inr h
  have hS : va_S A s.heap s.heap [] := va_S.rf
  have hP : va_P D vwCl [(h0, .inr (12, [.ref vC, .ref vP, .ref vT, .ref vS, .ref vF, .ref vN, .ref vY, .int 0])), (vC, .inr (3, [.ref sS, .ref sJ, .int 0, .int 0]))] s.heap := hP
  have hl := lv_entry ([.ref h0, .int a1]) (n := 3) (Nat.le_of_ble_eq_true rfl)
  rw [lg_entry_eq]
  generalize (lg_sl ([.ref h0, .int a1]) ++ List.replicate (3 - (lg_sl ([.ref h0, .int a1])).length) Slot.unset).toArray = ls at hl ⊢
  have hl : lv_has ls 3 [(0, .ref h0), (1, .int a1)] := hl
  refine z_anyQ (fun Q hQe => ?_)
  refine lv_aload_n hx hb dX9_peak_0 rfl (lv_at hl 0 rfl) ?_
  refine lv_iload_n hx hb dX9_peak_1 rfl (lv_at hl 1 rfl) ?_
  rw [hQe]
  exact zx_thru (wc := [(h0, .inr (12, [.ref vC, .ref vP, .ref vT, .ref vS, .ref vF, .ref vN, .ref vY, .int 0])), (vC, .inr (3, [.ref sS, .ref sJ, .int 0, .int 0]))]) (vx_runV (As := [.int a1]) (rest := []) ⟨hx, hb, hml, hown, hts⟩ (k_needStation l hlt D cy h0 vC vP vT vS vF vN vY sS sJ a1 s.heap.size ) (cwV 1 hts (gzV (gz q176) q175 q177 q178 q174) rfl rfl rfl vX9_needStation ⟨Nat.le_of_ble_eq_true rfl, Nat.le_of_ble_eq_true rfl⟩) (zpV (ci := 12) (T := TX9) (N := 8) (q0 := 0) hK hX hY hP hD hS hA [0, 1] (by decide) rfl rfl rfl) rfl rfl hl.1 rfl (lv_room (Nat.le_of_ble_eq_true rfl)) dX9_peak_2 ⟨Nat.le_of_ble_eq_true rfl, Nat.le_of_ble_eq_true rfl⟩) hD hS hA [0, 1] rfl hlocks hout (Nat.le_of_ble_eq_true rfl) (Nat.le_of_ble_eq_true rfl)
set_option maxHeartbeats 4000000 in
set_option maxRecDepth 100000 in
/-- sump on a fresh object -/
theorem f_sump (l : Launch) (hlt : l.stackTraces = false) (D : va_G) (cy : Nat → ClassId) (h0 : Nat) (vC : Nat) (vP : Nat) (vT : Nat) (vS : Nat) (vF : Nat) (vN : Nat) (vY : Nat) (sS : Nat) (sJ : Nat) (a1 : Int32) (a2 : Int32) (sz : Nat)  : vx_Met l yX9_sump (wz yX9_sump cX9_sump 4 (some .int)) ({ frames := 7, cells := 1, slots := 6, locals := 103 } : Room) (va_Pc [.ref h0, .int a1, .int a2] (zPre vwCl D cy [(h0, .inr (12, [.ref vC, .ref vP, .ref vT, .ref vS, .ref vF, .ref vN, .ref vY, .int 0])), (vC, .inr (3, [.ref sS, .ref sJ, .int 0, .int 0]))] sz)) zNo (zXC zE1 (va_A [(h0, .inr (12, [.ref vC, .ref vP, .ref vT, .ref vS, .ref vF, .ref vN, .ref vY, .int 0])), (vC, .inr (3, [.ref sS, .ref sJ, .int 0, .int 0]))] sz)) 1 6 (va_A [(h0, .inr (12, [.ref vC, .ref vP, .ref vT, .ref vS, .ref vF, .ref vN, .ref vY, .int 0])), (vC, .inr (3, [.ref sS, .ref sJ, .int 0, .int 0]))] sz) := by
  refine vx_ofW (cc := cX9_sump) (maxL := 4) (ret := (some .int)) (by decide) rfl ?_
  intro p e s m args below meth c s₁ B hml hout hv
  obtain ⟨rfl, hsz, hP, hK, hD0, hX, hY⟩ := hv
  have hx := B.exec
  have hb := B.bytes
  have hr := B.returns
  have hts0 := atoms_spec (ws := wz yX9_sump cX9_sump 4 (some .int)) B.pre
  have hts : ∀ w ∈ wAll, w.before _ s = true := fun w h => hts0 w (List.mem_cons_of_mem _ h)
  have hown : s.vm.findClass RX9 = some m.cls := findClass_of_methodNamed B.named
  have hlocks := B.notSynchronized
  subst hsz
  have hD := hD0.self (sz := s.heap.size)
  generalize hAe : va_A [(h0, .inr (12, [.ref vC, .ref vP, .ref vT, .ref vS, .ref vF, .ref vN, .ref vY, .int 0])), (vC, .inr (3, [.ref sS, .ref sJ, .int 0, .int 0]))] s.heap.size = A at hD hY ⊢
  have hA : ∀ q : Nat, s.heap.size ≤ q → A q := fun q h => by rw [← hAe]; exact Or.inr h
  have hS : va_S A s.heap s.heap [] := va_S.rf
  have hP : va_P D vwCl [(h0, .inr (12, [.ref vC, .ref vP, .ref vT, .ref vS, .ref vF, .ref vN, .ref vY, .int 0])), (vC, .inr (3, [.ref sS, .ref sJ, .int 0, .int 0]))] s.heap := hP
  have hl := lv_entry ([.ref h0, .int a1, .int a2]) (n := 4) (Nat.le_of_ble_eq_true rfl)
  rw [lg_entry_eq]
  generalize (lg_sl ([.ref h0, .int a1, .int a2]) ++ List.replicate (4 - (lg_sl ([.ref h0, .int a1, .int a2])).length) Slot.unset).toArray = ls at hl ⊢
  have hl : lv_has ls 4 [(0, .ref h0), (1, .int a1), (2, .int a2)] := hl
  refine z_anyQ (fun Q hQe => ?_)
  refine lv_aload_n hx hb dX9_sump_0 rfl (lv_at hl 0 rfl) ?_
  refine lv_iload_n hx hb dX9_sump_1 rfl (lv_at hl 1 rfl) ?_
  rw [hQe]
  exact zx_thru (wc := [(h0, .inr (12, [.ref vC, .ref vP, .ref vT, .ref vS, .ref vF, .ref vN, .ref vY, .int 0])), (vC, .inr (3, [.ref sS, .ref sJ, .int 0, .int 0]))]) (vx_runV (As := [.int a1]) (rest := []) ⟨hx, hb, hml, hown, hts⟩ (k_needShot l hlt D cy h0 vC vP vT vS vF vN vY sS sJ a1 s.heap.size ) (cwV 1 hts (gzV (gz q180) q179 q181 q182 q174) rfl rfl rfl vX9_needShot ⟨Nat.le_of_ble_eq_true rfl, Nat.le_of_ble_eq_true rfl⟩) (zpV (ci := 12) (T := TX9) (N := 8) (q0 := 0) hK hX hY hP hD hS hA [0, 1] (by decide) rfl rfl rfl) rfl rfl hl.1 rfl (lv_room (Nat.le_of_ble_eq_true rfl)) dX9_sump_2 ⟨Nat.le_of_ble_eq_true rfl, Nat.le_of_ble_eq_true rfl⟩) hD hS hA [0, 1] rfl hlocks hout (Nat.le_of_ble_eq_true rfl) (Nat.le_of_ble_eq_true rfl)
set_option maxHeartbeats 4000000 in
set_option maxRecDepth 100000 in
/-- isClosed on a fresh object -/
theorem f_isClosed (l : Launch) (hlt : l.stackTraces = false) (D : va_G) (cy : Nat → ClassId) (h0 : Nat) (vC : Nat) (vP : Nat) (vT : Nat) (vS : Nat) (vF : Nat) (vN : Nat) (vY : Nat) (sS : Nat) (sJ : Nat) (a1 : Int32) (a2 : Int32) (sz : Nat)  : vx_Met l yX9_isClosed (wz yX9_isClosed cX9_isClosed 3 (some .boolean)) ({ frames := 7, cells := 1, slots := 6, locals := 103 } : Room) (va_Pc [.ref h0, .int a1, .int a2] (zPre vwCl D cy [(h0, .inr (12, [.ref vC, .ref vP, .ref vT, .ref vS, .ref vF, .ref vN, .ref vY, .int 0])), (vC, .inr (3, [.ref sS, .ref sJ, .int 0, .int 0]))] sz)) zNo (zXC zE1 (va_A [(h0, .inr (12, [.ref vC, .ref vP, .ref vT, .ref vS, .ref vF, .ref vN, .ref vY, .int 0])), (vC, .inr (3, [.ref sS, .ref sJ, .int 0, .int 0]))] sz)) 1 6 (va_A [(h0, .inr (12, [.ref vC, .ref vP, .ref vT, .ref vS, .ref vF, .ref vN, .ref vY, .int 0])), (vC, .inr (3, [.ref sS, .ref sJ, .int 0, .int 0]))] sz) := by
  refine vx_ofW (cc := cX9_isClosed) (maxL := 3) (ret := (some .boolean)) (by decide) rfl ?_
  intro p e s m args below meth c s₁ B hml hout hv
  obtain ⟨rfl, hsz, hP, hK, hD0, hX, hY⟩ := hv
  have hx := B.exec
  have hb := B.bytes
  have hr := B.returns
  have hts0 := atoms_spec (ws := wz yX9_isClosed cX9_isClosed 3 (some .boolean)) B.pre
  have hts : ∀ w ∈ wAll, w.before _ s = true := fun w h => hts0 w (List.mem_cons_of_mem _ h)
  have hown : s.vm.findClass RX9 = some m.cls := findClass_of_methodNamed B.named
  have hlocks := B.notSynchronized
  subst hsz
  have hD := hD0.self (sz := s.heap.size)
  generalize hAe : va_A [(h0, .inr (12, [.ref vC, .ref vP, .ref vT, .ref vS, .ref vF, .ref vN, .ref vY, .int 0])), (vC, .inr (3, [.ref sS, .ref sJ, .int 0, .int 0]))] s.heap.size = A at hD hY ⊢
  have hA : ∀ q : Nat, s.heap.size ≤ q → A q := fun q h => by rw [← hAe]; exact Or.inr h
  have hS : va_S A s.heap s.heap [] := va_S.rf
  have hP : va_P D vwCl [(h0, .inr (12, [.ref vC, .ref vP, .ref vT, .ref vS, .ref vF, .ref vN, .ref vY, .int 0])), (vC, .inr (3, [.ref sS, .ref sJ, .int 0, .int 0]))] s.heap := hP
  have hl := lv_entry ([.ref h0, .int a1, .int a2]) (n := 3) (Nat.le_of_ble_eq_true rfl)
  rw [lg_entry_eq]
  generalize (lg_sl ([.ref h0, .int a1, .int a2]) ++ List.replicate (3 - (lg_sl ([.ref h0, .int a1, .int a2])).length) Slot.unset).toArray = ls at hl ⊢
  have hl : lv_has ls 3 [(0, .ref h0), (1, .int a1), (2, .int a2)] := hl
  refine z_anyQ (fun Q hQe => ?_)
  refine lv_aload_n hx hb dX9_isClosed_0 rfl (lv_at hl 0 rfl) ?_
  refine lv_iload_n hx hb dX9_isClosed_1 rfl (lv_at hl 1 rfl) ?_
  rw [hQe]
  exact zx_thru (wc := [(h0, .inr (12, [.ref vC, .ref vP, .ref vT, .ref vS, .ref vF, .ref vN, .ref vY, .int 0])), (vC, .inr (3, [.ref sS, .ref sJ, .int 0, .int 0]))]) (vx_runV (As := [.int a1]) (rest := []) ⟨hx, hb, hml, hown, hts⟩ (k_needShot l hlt D cy h0 vC vP vT vS vF vN vY sS sJ a1 s.heap.size ) (cwV 1 hts (gzV (gz q180) q179 q181 q182 q174) rfl rfl rfl vX9_needShot ⟨Nat.le_of_ble_eq_true rfl, Nat.le_of_ble_eq_true rfl⟩) (zpV (ci := 12) (T := TX9) (N := 8) (q0 := 0) hK hX hY hP hD hS hA [0, 1] (by decide) rfl rfl rfl) rfl rfl hl.1 rfl (lv_room (Nat.le_of_ble_eq_true rfl)) dX9_isClosed_2 ⟨Nat.le_of_ble_eq_true rfl, Nat.le_of_ble_eq_true rfl⟩) hD hS hA [0, 1] rfl hlocks hout (Nat.le_of_ble_eq_true rfl) (Nat.le_of_ble_eq_true rfl)
set_option maxHeartbeats 4000000 in
set_option maxRecDepth 100000 in
/-- party on a fresh object -/
theorem f_party (l : Launch) (hlt : l.stackTraces = false) (D : va_G) (cy : Nat → ClassId) (h0 : Nat) (vC : Nat) (vP : Nat) (vT : Nat) (vS : Nat) (vF : Nat) (vN : Nat) (vY : Nat) (sS : Nat) (sJ : Nat) (a1 : Int32) (sz : Nat)  : vx_Met l yX9_party (wz yX9_party cX9_party 2 (some .int)) ({ frames := 7, cells := 1, slots := 6, locals := 103 } : Room) (va_Pc [.ref h0, .int a1] (zPre vwCl D cy [(h0, .inr (12, [.ref vC, .ref vP, .ref vT, .ref vS, .ref vF, .ref vN, .ref vY, .int 0])), (vC, .inr (3, [.ref sS, .ref sJ, .int 0, .int 0]))] sz)) zNo (zXC zE1 (va_A [(h0, .inr (12, [.ref vC, .ref vP, .ref vT, .ref vS, .ref vF, .ref vN, .ref vY, .int 0])), (vC, .inr (3, [.ref sS, .ref sJ, .int 0, .int 0]))] sz)) 1 6 (va_A [(h0, .inr (12, [.ref vC, .ref vP, .ref vT, .ref vS, .ref vF, .ref vN, .ref vY, .int 0])), (vC, .inr (3, [.ref sS, .ref sJ, .int 0, .int 0]))] sz) := by
  refine vx_ofW (cc := cX9_party) (maxL := 2) (ret := (some .int)) (by decide) rfl ?_
  intro p e s m args below meth c s₁ B hml hout hv
  obtain ⟨rfl, hsz, hP, hK, hD0, hX, hY⟩ := hv
  have hx := B.exec
  have hb := B.bytes
  have hr := B.returns
  have hts0 := atoms_spec (ws := wz yX9_party cX9_party 2 (some .int)) B.pre
  have hts : ∀ w ∈ wAll, w.before _ s = true := fun w h => hts0 w (List.mem_cons_of_mem _ h)
  have hown : s.vm.findClass RX9 = some m.cls := findClass_of_methodNamed B.named
  have hlocks := B.notSynchronized
  subst hsz
  have hD := hD0.self (sz := s.heap.size)
  generalize hAe : va_A [(h0, .inr (12, [.ref vC, .ref vP, .ref vT, .ref vS, .ref vF, .ref vN, .ref vY, .int 0])), (vC, .inr (3, [.ref sS, .ref sJ, .int 0, .int 0]))] s.heap.size = A at hD hY ⊢
  have hA : ∀ q : Nat, s.heap.size ≤ q → A q := fun q h => by rw [← hAe]; exact Or.inr h
  have hS : va_S A s.heap s.heap [] := va_S.rf
  have hP : va_P D vwCl [(h0, .inr (12, [.ref vC, .ref vP, .ref vT, .ref vS, .ref vF, .ref vN, .ref vY, .int 0])), (vC, .inr (3, [.ref sS, .ref sJ, .int 0, .int 0]))] s.heap := hP
  have hl := lv_entry ([.ref h0, .int a1]) (n := 2) (Nat.le_of_ble_eq_true rfl)
  rw [lg_entry_eq]
  generalize (lg_sl ([.ref h0, .int a1]) ++ List.replicate (2 - (lg_sl ([.ref h0, .int a1])).length) Slot.unset).toArray = ls at hl ⊢
  have hl : lv_has ls 2 [(0, .ref h0), (1, .int a1)] := hl
  refine z_anyQ (fun Q hQe => ?_)
  refine lv_aload_n hx hb dX9_party_0 rfl (lv_at hl 0 rfl) ?_
  refine lv_iload_n hx hb dX9_party_1 rfl (lv_at hl 1 rfl) ?_
  rw [hQe]
  exact zx_thru (wc := [(h0, .inr (12, [.ref vC, .ref vP, .ref vT, .ref vS, .ref vF, .ref vN, .ref vY, .int 0])), (vC, .inr (3, [.ref sS, .ref sJ, .int 0, .int 0]))]) (vx_runV (As := [.int a1]) (rest := []) ⟨hx, hb, hml, hown, hts⟩ (k_needStation l hlt D cy h0 vC vP vT vS vF vN vY sS sJ a1 s.heap.size ) (cwV 1 hts (gzV (gz q176) q175 q177 q178 q174) rfl rfl rfl vX9_needStation ⟨Nat.le_of_ble_eq_true rfl, Nat.le_of_ble_eq_true rfl⟩) (zpV (ci := 12) (T := TX9) (N := 8) (q0 := 0) hK hX hY hP hD hS hA [0, 1] (by decide) rfl rfl rfl) rfl rfl hl.1 rfl (lv_room (Nat.le_of_ble_eq_true rfl)) dX9_party_2 ⟨Nat.le_of_ble_eq_true rfl, Nat.le_of_ble_eq_true rfl⟩) hD hS hA [0, 1] rfl hlocks hout (Nat.le_of_ble_eq_true rfl) (Nat.le_of_ble_eq_true rfl)
set_option maxHeartbeats 4000000 in
set_option maxRecDepth 100000 in
/-- tell on a fresh object -/
theorem f_tell (l : Launch) (hlt : l.stackTraces = false) (D : va_G) (cy : Nat → ClassId) (h0 : Nat) (vC : Nat) (vP : Nat) (vT : Nat) (vS : Nat) (vF : Nat) (vN : Nat) (vY : Nat) (a1 : Int32) (a2 : Int32) (sz : Nat)  : vx_Met l yX9_tell (wz yX9_tell cX9_tell 3 (some .int)) ({ frames := 7, cells := 1, slots := 6, locals := 103 } : Room) (va_Pc [.ref h0, .int a1, .int a2] (zPre vwCl D cy [(h0, .inr (12, [.ref vC, .ref vP, .ref vT, .ref vS, .ref vF, .ref vN, .ref vY, .int 0]))] sz)) zNo (zXC zE1 (va_A [(h0, .inr (12, [.ref vC, .ref vP, .ref vT, .ref vS, .ref vF, .ref vN, .ref vY, .int 0]))] sz)) 1 6 (va_A [(h0, .inr (12, [.ref vC, .ref vP, .ref vT, .ref vS, .ref vF, .ref vN, .ref vY, .int 0]))] sz) := by
  refine vx_ofW (cc := cX9_tell) (maxL := 3) (ret := (some .int)) (by decide) rfl ?_
  intro p e s m args below meth c s₁ B hml hout hv
  obtain ⟨rfl, hsz, hP, hK, hD0, hX, hY⟩ := hv
  have hx := B.exec
  have hb := B.bytes
  have hr := B.returns
  have hts0 := atoms_spec (ws := wz yX9_tell cX9_tell 3 (some .int)) B.pre
  have hts : ∀ w ∈ wAll, w.before _ s = true := fun w h => hts0 w (List.mem_cons_of_mem _ h)
  have hown : s.vm.findClass RX9 = some m.cls := findClass_of_methodNamed B.named
  have hlocks := B.notSynchronized
  subst hsz
  have hD := hD0.self (sz := s.heap.size)
  generalize hAe : va_A [(h0, .inr (12, [.ref vC, .ref vP, .ref vT, .ref vS, .ref vF, .ref vN, .ref vY, .int 0]))] s.heap.size = A at hD hY ⊢
  have hA : ∀ q : Nat, s.heap.size ≤ q → A q := fun q h => by rw [← hAe]; exact Or.inr h
  have hS : va_S A s.heap s.heap [] := va_S.rf
  have hP : va_P D vwCl [(h0, .inr (12, [.ref vC, .ref vP, .ref vT, .ref vS, .ref vF, .ref vN, .ref vY, .int 0]))] s.heap := hP
  have hl := lv_entry ([.ref h0, .int a1, .int a2]) (n := 3) (Nat.le_of_ble_eq_true rfl)
  rw [lg_entry_eq]
  generalize (lg_sl ([.ref h0, .int a1, .int a2]) ++ List.replicate (3 - (lg_sl ([.ref h0, .int a1, .int a2])).length) Slot.unset).toArray = ls at hl ⊢
  have hl : lv_has ls 3 [(0, .ref h0), (1, .int a1), (2, .int a2)] := hl
  refine z_anyQ (fun Q hQe => ?_)
  refine lv_aload_n hx hb dX9_tell_0 rfl (lv_at hl 0 rfl) ?_
  refine lv_iload_n hx hb dX9_tell_1 rfl (lv_at hl 1 rfl) ?_
  rw [hQe]
  exact zx_thru (wc := [(h0, .inr (12, [.ref vC, .ref vP, .ref vT, .ref vS, .ref vF, .ref vN, .ref vY, .int 0]))]) (vx_runV (As := [.int a1]) (rest := []) ⟨hx, hb, hml, hown, hts⟩ (k_needParty l hlt D cy h0 vC vP vT vS vF vN vY a1 s.heap.size ) (cwV 1 hts (gzV (gz q171) q170 q172 q173 q174) rfl rfl rfl vX9_needParty ⟨Nat.le_of_ble_eq_true rfl, Nat.le_of_ble_eq_true rfl⟩) (zpV (ci := 12) (T := TX9) (N := 8) (q0 := 0) hK hX hY hP hD hS hA [0] (by decide) rfl rfl rfl) rfl rfl hl.1 rfl (lv_room (Nat.le_of_ble_eq_true rfl)) dX9_tell_2 ⟨Nat.le_of_ble_eq_true rfl, Nat.le_of_ble_eq_true rfl⟩) hD hS hA [0] rfl hlocks hout (Nat.le_of_ble_eq_true rfl) (Nat.le_of_ble_eq_true rfl)
set_option maxHeartbeats 4000000 in
set_option maxRecDepth 100000 in
/-- knows on a fresh object -/
theorem f_knows (l : Launch) (hlt : l.stackTraces = false) (D : va_G) (cy : Nat → ClassId) (h0 : Nat) (vC : Nat) (vP : Nat) (vT : Nat) (vS : Nat) (vF : Nat) (vN : Nat) (vY : Nat) (a1 : Int32) (a2 : Int32) (sz : Nat)  : vx_Met l yX9_knows (wz yX9_knows cX9_knows 3 (some .boolean)) ({ frames := 7, cells := 1, slots := 6, locals := 103 } : Room) (va_Pc [.ref h0, .int a1, .int a2] (zPre vwCl D cy [(h0, .inr (12, [.ref vC, .ref vP, .ref vT, .ref vS, .ref vF, .ref vN, .ref vY, .int 0]))] sz)) zNo (zXC zE1 (va_A [(h0, .inr (12, [.ref vC, .ref vP, .ref vT, .ref vS, .ref vF, .ref vN, .ref vY, .int 0]))] sz)) 1 6 (va_A [(h0, .inr (12, [.ref vC, .ref vP, .ref vT, .ref vS, .ref vF, .ref vN, .ref vY, .int 0]))] sz) := by
  refine vx_ofW (cc := cX9_knows) (maxL := 3) (ret := (some .boolean)) (by decide) rfl ?_
  intro p e s m args below meth c s₁ B hml hout hv
  obtain ⟨rfl, hsz, hP, hK, hD0, hX, hY⟩ := hv
  have hx := B.exec
  have hb := B.bytes
  have hr := B.returns
  have hts0 := atoms_spec (ws := wz yX9_knows cX9_knows 3 (some .boolean)) B.pre
  have hts : ∀ w ∈ wAll, w.before _ s = true := fun w h => hts0 w (List.mem_cons_of_mem _ h)
  have hown : s.vm.findClass RX9 = some m.cls := findClass_of_methodNamed B.named
  have hlocks := B.notSynchronized
  subst hsz
  have hD := hD0.self (sz := s.heap.size)
  generalize hAe : va_A [(h0, .inr (12, [.ref vC, .ref vP, .ref vT, .ref vS, .ref vF, .ref vN, .ref vY, .int 0]))] s.heap.size = A at hD hY ⊢
  have hA : ∀ q : Nat, s.heap.size ≤ q → A q := fun q h => by rw [← hAe]; exact Or.inr h
  have hS : va_S A s.heap s.heap [] := va_S.rf
  have hP : va_P D vwCl [(h0, .inr (12, [.ref vC, .ref vP, .ref vT, .ref vS, .ref vF, .ref vN, .ref vY, .int 0]))] s.heap := hP
  have hl := lv_entry ([.ref h0, .int a1, .int a2]) (n := 3) (Nat.le_of_ble_eq_true rfl)
  rw [lg_entry_eq]
  generalize (lg_sl ([.ref h0, .int a1, .int a2]) ++ List.replicate (3 - (lg_sl ([.ref h0, .int a1, .int a2])).length) Slot.unset).toArray = ls at hl ⊢
  have hl : lv_has ls 3 [(0, .ref h0), (1, .int a1), (2, .int a2)] := hl
  refine z_anyQ (fun Q hQe => ?_)
  refine lv_aload_n hx hb dX9_knows_0 rfl (lv_at hl 0 rfl) ?_
  refine lv_iload_n hx hb dX9_knows_1 rfl (lv_at hl 1 rfl) ?_
  rw [hQe]
  exact zx_thru (wc := [(h0, .inr (12, [.ref vC, .ref vP, .ref vT, .ref vS, .ref vF, .ref vN, .ref vY, .int 0]))]) (vx_runV (As := [.int a1]) (rest := []) ⟨hx, hb, hml, hown, hts⟩ (k_needParty l hlt D cy h0 vC vP vT vS vF vN vY a1 s.heap.size ) (cwV 1 hts (gzV (gz q171) q170 q172 q173 q174) rfl rfl rfl vX9_needParty ⟨Nat.le_of_ble_eq_true rfl, Nat.le_of_ble_eq_true rfl⟩) (zpV (ci := 12) (T := TX9) (N := 8) (q0 := 0) hK hX hY hP hD hS hA [0] (by decide) rfl rfl rfl) rfl rfl hl.1 rfl (lv_room (Nat.le_of_ble_eq_true rfl)) dX9_knows_2 ⟨Nat.le_of_ble_eq_true rfl, Nat.le_of_ble_eq_true rfl⟩) hD hS hA [0] rfl hlocks hout (Nat.le_of_ble_eq_true rfl) (Nat.le_of_ble_eq_true rfl)
set_option maxHeartbeats 4000000 in
set_option maxRecDepth 100000 in
/-- go on a fresh object -/
theorem f_go (l : Launch) (hlt : l.stackTraces = false) (D : va_G) (cy : Nat → ClassId) (h0 : Nat) (vC : Nat) (vP : Nat) (vT : Nat) (vS : Nat) (vF : Nat) (vN : Nat) (vY : Nat) (a1 : Int32) (a2 : Int32) (sz : Nat)  : vx_Met l yX9_go (wz yX9_go cX9_go 6 (some .int)) ({ frames := 7, cells := 1, slots := 6, locals := 103 } : Room) (va_Pc [.ref h0, .int a1, .int a2] (zPre vwCl D cy [(h0, .inr (12, [.ref vC, .ref vP, .ref vT, .ref vS, .ref vF, .ref vN, .ref vY, .int 0]))] sz)) zNo (zXC zE1 (va_A [(h0, .inr (12, [.ref vC, .ref vP, .ref vT, .ref vS, .ref vF, .ref vN, .ref vY, .int 0]))] sz)) 1 6 (va_A [(h0, .inr (12, [.ref vC, .ref vP, .ref vT, .ref vS, .ref vF, .ref vN, .ref vY, .int 0]))] sz) := by
  refine vx_ofW (cc := cX9_go) (maxL := 6) (ret := (some .int)) (by decide) rfl ?_
  intro p e s m args below meth c s₁ B hml hout hv
  obtain ⟨rfl, hsz, hP, hK, hD0, hX, hY⟩ := hv
  have hx := B.exec
  have hb := B.bytes
  have hr := B.returns
  have hts0 := atoms_spec (ws := wz yX9_go cX9_go 6 (some .int)) B.pre
  have hts : ∀ w ∈ wAll, w.before _ s = true := fun w h => hts0 w (List.mem_cons_of_mem _ h)
  have hown : s.vm.findClass RX9 = some m.cls := findClass_of_methodNamed B.named
  have hlocks := B.notSynchronized
  subst hsz
  have hD := hD0.self (sz := s.heap.size)
  generalize hAe : va_A [(h0, .inr (12, [.ref vC, .ref vP, .ref vT, .ref vS, .ref vF, .ref vN, .ref vY, .int 0]))] s.heap.size = A at hD hY ⊢
  have hA : ∀ q : Nat, s.heap.size ≤ q → A q := fun q h => by rw [← hAe]; exact Or.inr h
  have hS : va_S A s.heap s.heap [] := va_S.rf
  have hP : va_P D vwCl [(h0, .inr (12, [.ref vC, .ref vP, .ref vT, .ref vS, .ref vF, .ref vN, .ref vY, .int 0]))] s.heap := hP
  have hl := lv_entry ([.ref h0, .int a1, .int a2]) (n := 6) (Nat.le_of_ble_eq_true rfl)
  rw [lg_entry_eq]
  generalize (lg_sl ([.ref h0, .int a1, .int a2]) ++ List.replicate (6 - (lg_sl ([.ref h0, .int a1, .int a2])).length) Slot.unset).toArray = ls at hl ⊢
  have hl : lv_has ls 6 [(0, .ref h0), (1, .int a1), (2, .int a2)] := hl
  refine z_anyQ (fun Q hQe => ?_)
  refine lv_aload_n hx hb dX9_go_0 rfl (lv_at hl 0 rfl) ?_
  refine lv_iload_n hx hb dX9_go_1 rfl (lv_at hl 1 rfl) ?_
  rw [hQe]
  exact zx_thru (wc := [(h0, .inr (12, [.ref vC, .ref vP, .ref vT, .ref vS, .ref vF, .ref vN, .ref vY, .int 0]))]) (vx_runV (As := [.int a1]) (rest := []) ⟨hx, hb, hml, hown, hts⟩ (k_needParty l hlt D cy h0 vC vP vT vS vF vN vY a1 s.heap.size ) (cwV 1 hts (gzV (gz q171) q170 q172 q173 q174) rfl rfl rfl vX9_needParty ⟨Nat.le_of_ble_eq_true rfl, Nat.le_of_ble_eq_true rfl⟩) (zpV (ci := 12) (T := TX9) (N := 8) (q0 := 0) hK hX hY hP hD hS hA [0] (by decide) rfl rfl rfl) rfl rfl hl.1 rfl (lv_room (Nat.le_of_ble_eq_true rfl)) dX9_go_2 ⟨Nat.le_of_ble_eq_true rfl, Nat.le_of_ble_eq_true rfl⟩) hD hS hA [0] rfl hlocks hout (Nat.le_of_ble_eq_true rfl) (Nat.le_of_ble_eq_true rfl)
set_option maxHeartbeats 4000000 in
set_option maxRecDepth 100000 in
/-- pause on a fresh object -/
theorem f_pause (l : Launch) (hlt : l.stackTraces = false) (D : va_G) (cy : Nat → ClassId) (h0 : Nat) (vC : Nat) (vP : Nat) (vT : Nat) (vS : Nat) (vF : Nat) (vN : Nat) (vY : Nat) (a1 : Int32) (a2 : Int32) (sz : Nat)  : vx_Met l yX9_pause (wz yX9_pause cX9_pause 3 (some .int)) ({ frames := 7, cells := 1, slots := 6, locals := 103 } : Room) (va_Pc [.ref h0, .int a1, .int a2] (zPre vwCl D cy [(h0, .inr (12, [.ref vC, .ref vP, .ref vT, .ref vS, .ref vF, .ref vN, .ref vY, .int 0]))] sz)) zNo (zXC zE1 (va_A [(h0, .inr (12, [.ref vC, .ref vP, .ref vT, .ref vS, .ref vF, .ref vN, .ref vY, .int 0]))] sz)) 1 6 (va_A [(h0, .inr (12, [.ref vC, .ref vP, .ref vT, .ref vS, .ref vF, .ref vN, .ref vY, .int 0]))] sz) := by
  refine vx_ofW (cc := cX9_pause) (maxL := 3) (ret := (some .int)) (by decide) rfl ?_
  intro p e s m args below meth c s₁ B hml hout hv
  obtain ⟨rfl, hsz, hP, hK, hD0, hX, hY⟩ := hv
  have hx := B.exec
  have hb := B.bytes
  have hr := B.returns
  have hts0 := atoms_spec (ws := wz yX9_pause cX9_pause 3 (some .int)) B.pre
  have hts : ∀ w ∈ wAll, w.before _ s = true := fun w h => hts0 w (List.mem_cons_of_mem _ h)
  have hown : s.vm.findClass RX9 = some m.cls := findClass_of_methodNamed B.named
  have hlocks := B.notSynchronized
  subst hsz
  have hD := hD0.self (sz := s.heap.size)
  generalize hAe : va_A [(h0, .inr (12, [.ref vC, .ref vP, .ref vT, .ref vS, .ref vF, .ref vN, .ref vY, .int 0]))] s.heap.size = A at hD hY ⊢
  have hA : ∀ q : Nat, s.heap.size ≤ q → A q := fun q h => by rw [← hAe]; exact Or.inr h
  have hS : va_S A s.heap s.heap [] := va_S.rf
  have hP : va_P D vwCl [(h0, .inr (12, [.ref vC, .ref vP, .ref vT, .ref vS, .ref vF, .ref vN, .ref vY, .int 0]))] s.heap := hP
  have hl := lv_entry ([.ref h0, .int a1, .int a2]) (n := 3) (Nat.le_of_ble_eq_true rfl)
  rw [lg_entry_eq]
  generalize (lg_sl ([.ref h0, .int a1, .int a2]) ++ List.replicate (3 - (lg_sl ([.ref h0, .int a1, .int a2])).length) Slot.unset).toArray = ls at hl ⊢
  have hl : lv_has ls 3 [(0, .ref h0), (1, .int a1), (2, .int a2)] := hl
  refine z_anyQ (fun Q hQe => ?_)
  refine lv_aload_n hx hb dX9_pause_0 rfl (lv_at hl 0 rfl) ?_
  refine lv_iload_n hx hb dX9_pause_1 rfl (lv_at hl 1 rfl) ?_
  rw [hQe]
  exact zx_thru (wc := [(h0, .inr (12, [.ref vC, .ref vP, .ref vT, .ref vS, .ref vF, .ref vN, .ref vY, .int 0]))]) (vx_runV (As := [.int a1]) (rest := []) ⟨hx, hb, hml, hown, hts⟩ (k_needParty l hlt D cy h0 vC vP vT vS vF vN vY a1 s.heap.size ) (cwV 1 hts (gzV (gz q171) q170 q172 q173 q174) rfl rfl rfl vX9_needParty ⟨Nat.le_of_ble_eq_true rfl, Nat.le_of_ble_eq_true rfl⟩) (zpV (ci := 12) (T := TX9) (N := 8) (q0 := 0) hK hX hY hP hD hS hA [0] (by decide) rfl rfl rfl) rfl rfl hl.1 rfl (lv_room (Nat.le_of_ble_eq_true rfl)) dX9_pause_2 ⟨Nat.le_of_ble_eq_true rfl, Nat.le_of_ble_eq_true rfl⟩) hD hS hA [0] rfl hlocks hout (Nat.le_of_ble_eq_true rfl) (Nat.le_of_ble_eq_true rfl)
set_option maxHeartbeats 4000000 in
set_option maxRecDepth 100000 in
/-- placeOf on a fresh object -/
theorem f_placeOf (l : Launch) (hlt : l.stackTraces = false) (D : va_G) (cy : Nat → ClassId) (h0 : Nat) (vC : Nat) (vP : Nat) (vT : Nat) (vS : Nat) (vF : Nat) (vN : Nat) (vY : Nat) (a1 : Int32) (sz : Nat)  : vx_Met l yX9_placeOf (wz yX9_placeOf cX9_placeOf 2 (some .int)) ({ frames := 7, cells := 1, slots := 6, locals := 103 } : Room) (va_Pc [.ref h0, .int a1] (zPre vwCl D cy [(h0, .inr (12, [.ref vC, .ref vP, .ref vT, .ref vS, .ref vF, .ref vN, .ref vY, .int 0]))] sz)) zNo (zXC zE1 (va_A [(h0, .inr (12, [.ref vC, .ref vP, .ref vT, .ref vS, .ref vF, .ref vN, .ref vY, .int 0]))] sz)) 1 6 (va_A [(h0, .inr (12, [.ref vC, .ref vP, .ref vT, .ref vS, .ref vF, .ref vN, .ref vY, .int 0]))] sz) := by
  refine vx_ofW (cc := cX9_placeOf) (maxL := 2) (ret := (some .int)) (by decide) rfl ?_
  intro p e s m args below meth c s₁ B hml hout hv
  obtain ⟨rfl, hsz, hP, hK, hD0, hX, hY⟩ := hv
  have hx := B.exec
  have hb := B.bytes
  have hr := B.returns
  have hts0 := atoms_spec (ws := wz yX9_placeOf cX9_placeOf 2 (some .int)) B.pre
  have hts : ∀ w ∈ wAll, w.before _ s = true := fun w h => hts0 w (List.mem_cons_of_mem _ h)
  have hown : s.vm.findClass RX9 = some m.cls := findClass_of_methodNamed B.named
  have hlocks := B.notSynchronized
  subst hsz
  have hD := hD0.self (sz := s.heap.size)
  generalize hAe : va_A [(h0, .inr (12, [.ref vC, .ref vP, .ref vT, .ref vS, .ref vF, .ref vN, .ref vY, .int 0]))] s.heap.size = A at hD hY ⊢
  have hA : ∀ q : Nat, s.heap.size ≤ q → A q := fun q h => by rw [← hAe]; exact Or.inr h
  have hS : va_S A s.heap s.heap [] := va_S.rf
  have hP : va_P D vwCl [(h0, .inr (12, [.ref vC, .ref vP, .ref vT, .ref vS, .ref vF, .ref vN, .ref vY, .int 0]))] s.heap := hP
  have hl := lv_entry ([.ref h0, .int a1]) (n := 2) (Nat.le_of_ble_eq_true rfl)
  rw [lg_entry_eq]
  generalize (lg_sl ([.ref h0, .int a1]) ++ List.replicate (2 - (lg_sl ([.ref h0, .int a1])).length) Slot.unset).toArray = ls at hl ⊢
  have hl : lv_has ls 2 [(0, .ref h0), (1, .int a1)] := hl
  refine z_anyQ (fun Q hQe => ?_)
  refine lv_aload_n hx hb dX9_placeOf_0 rfl (lv_at hl 0 rfl) ?_
  refine lv_iload_n hx hb dX9_placeOf_1 rfl (lv_at hl 1 rfl) ?_
  rw [hQe]
  exact zx_thru (wc := [(h0, .inr (12, [.ref vC, .ref vP, .ref vT, .ref vS, .ref vF, .ref vN, .ref vY, .int 0]))]) (vx_runV (As := [.int a1]) (rest := []) ⟨hx, hb, hml, hown, hts⟩ (k_needParty l hlt D cy h0 vC vP vT vS vF vN vY a1 s.heap.size ) (cwV 1 hts (gzV (gz q171) q170 q172 q173 q174) rfl rfl rfl vX9_needParty ⟨Nat.le_of_ble_eq_true rfl, Nat.le_of_ble_eq_true rfl⟩) (zpV (ci := 12) (T := TX9) (N := 8) (q0 := 0) hK hX hY hP hD hS hA [0] (by decide) rfl rfl rfl) rfl rfl hl.1 rfl (lv_room (Nat.le_of_ble_eq_true rfl)) dX9_placeOf_2 ⟨Nat.le_of_ble_eq_true rfl, Nat.le_of_ble_eq_true rfl⟩) hD hS hA [0] rfl hlocks hout (Nat.le_of_ble_eq_true rfl) (Nat.le_of_ble_eq_true rfl)
set_option maxHeartbeats 4000000 in
set_option maxRecDepth 100000 in
/-- hourOf on a fresh object -/
theorem f_hourOf (l : Launch) (hlt : l.stackTraces = false) (D : va_G) (cy : Nat → ClassId) (h0 : Nat) (vC : Nat) (vP : Nat) (vT : Nat) (vS : Nat) (vF : Nat) (vN : Nat) (vY : Nat) (a1 : Int32) (sz : Nat)  : vx_Met l yX9_hourOf (wz yX9_hourOf cX9_hourOf 2 (some .int)) ({ frames := 7, cells := 1, slots := 6, locals := 103 } : Room) (va_Pc [.ref h0, .int a1] (zPre vwCl D cy [(h0, .inr (12, [.ref vC, .ref vP, .ref vT, .ref vS, .ref vF, .ref vN, .ref vY, .int 0]))] sz)) zNo (zXC zE1 (va_A [(h0, .inr (12, [.ref vC, .ref vP, .ref vT, .ref vS, .ref vF, .ref vN, .ref vY, .int 0]))] sz)) 1 6 (va_A [(h0, .inr (12, [.ref vC, .ref vP, .ref vT, .ref vS, .ref vF, .ref vN, .ref vY, .int 0]))] sz) := by
  refine vx_ofW (cc := cX9_hourOf) (maxL := 2) (ret := (some .int)) (by decide) rfl ?_
  intro p e s m args below meth c s₁ B hml hout hv
  obtain ⟨rfl, hsz, hP, hK, hD0, hX, hY⟩ := hv
  have hx := B.exec
  have hb := B.bytes
  have hr := B.returns
  have hts0 := atoms_spec (ws := wz yX9_hourOf cX9_hourOf 2 (some .int)) B.pre
  have hts : ∀ w ∈ wAll, w.before _ s = true := fun w h => hts0 w (List.mem_cons_of_mem _ h)
  have hown : s.vm.findClass RX9 = some m.cls := findClass_of_methodNamed B.named
  have hlocks := B.notSynchronized
  subst hsz
  have hD := hD0.self (sz := s.heap.size)
  generalize hAe : va_A [(h0, .inr (12, [.ref vC, .ref vP, .ref vT, .ref vS, .ref vF, .ref vN, .ref vY, .int 0]))] s.heap.size = A at hD hY ⊢
  have hA : ∀ q : Nat, s.heap.size ≤ q → A q := fun q h => by rw [← hAe]; exact Or.inr h
  have hS : va_S A s.heap s.heap [] := va_S.rf
  have hP : va_P D vwCl [(h0, .inr (12, [.ref vC, .ref vP, .ref vT, .ref vS, .ref vF, .ref vN, .ref vY, .int 0]))] s.heap := hP
  have hl := lv_entry ([.ref h0, .int a1]) (n := 2) (Nat.le_of_ble_eq_true rfl)
  rw [lg_entry_eq]
  generalize (lg_sl ([.ref h0, .int a1]) ++ List.replicate (2 - (lg_sl ([.ref h0, .int a1])).length) Slot.unset).toArray = ls at hl ⊢
  have hl : lv_has ls 2 [(0, .ref h0), (1, .int a1)] := hl
  refine z_anyQ (fun Q hQe => ?_)
  refine lv_aload_n hx hb dX9_hourOf_0 rfl (lv_at hl 0 rfl) ?_
  refine lv_iload_n hx hb dX9_hourOf_1 rfl (lv_at hl 1 rfl) ?_
  rw [hQe]
  exact zx_thru (wc := [(h0, .inr (12, [.ref vC, .ref vP, .ref vT, .ref vS, .ref vF, .ref vN, .ref vY, .int 0]))]) (vx_runV (As := [.int a1]) (rest := []) ⟨hx, hb, hml, hown, hts⟩ (k_needParty l hlt D cy h0 vC vP vT vS vF vN vY a1 s.heap.size ) (cwV 1 hts (gzV (gz q171) q170 q172 q173 q174) rfl rfl rfl vX9_needParty ⟨Nat.le_of_ble_eq_true rfl, Nat.le_of_ble_eq_true rfl⟩) (zpV (ci := 12) (T := TX9) (N := 8) (q0 := 0) hK hX hY hP hD hS hA [0] (by decide) rfl rfl rfl) rfl rfl hl.1 rfl (lv_room (Nat.le_of_ble_eq_true rfl)) dX9_hourOf_2 ⟨Nat.le_of_ble_eq_true rfl, Nat.le_of_ble_eq_true rfl⟩) hD hS hA [0] rfl hlocks hout (Nat.le_of_ble_eq_true rfl) (Nat.le_of_ble_eq_true rfl)
set_option maxHeartbeats 4000000 in
set_option maxRecDepth 100000 in
/-- plan on a fresh object -/
theorem f_plan (l : Launch) (hlt : l.stackTraces = false) (D : va_G) (cy : Nat → ClassId) (h0 : Nat) (vC : Nat) (vP : Nat) (vT : Nat) (vS : Nat) (vF : Nat) (vN : Nat) (vY : Nat) (a1 : Int32) (sz : Nat)  : vx_Met l yX9_plan (wz yX9_plan cX9_plan 2 (some .int)) ({ frames := 8, cells := 1, slots := 6, locals := 124 } : Room) (va_Pc [.ref h0, .int a1] (zPre vwCl D cy [(h0, .inr (12, [.ref vC, .ref vP, .ref vT, .ref vS, .ref vF, .ref vN, .ref vY, .int 0]))] sz)) zNo (zXC zE1 (va_A [(h0, .inr (12, [.ref vC, .ref vP, .ref vT, .ref vS, .ref vF, .ref vN, .ref vY, .int 0]))] sz)) 1 6 (va_A [(h0, .inr (12, [.ref vC, .ref vP, .ref vT, .ref vS, .ref vF, .ref vN, .ref vY, .int 0]))] sz) := by
  refine vx_ofW (cc := cX9_plan) (maxL := 2) (ret := (some .int)) (by decide) rfl ?_
  intro p e s m args below meth c s₁ B hml hout hv
  obtain ⟨rfl, hsz, hP, hK, hD0, hX, hY⟩ := hv
  have hx := B.exec
  have hb := B.bytes
  have hr := B.returns
  have hts0 := atoms_spec (ws := wz yX9_plan cX9_plan 2 (some .int)) B.pre
  have hts : ∀ w ∈ wAll, w.before _ s = true := fun w h => hts0 w (List.mem_cons_of_mem _ h)
  have hown : s.vm.findClass RX9 = some m.cls := findClass_of_methodNamed B.named
  have hlocks := B.notSynchronized
  subst hsz
  have hD := hD0.self (sz := s.heap.size)
  generalize hAe : va_A [(h0, .inr (12, [.ref vC, .ref vP, .ref vT, .ref vS, .ref vF, .ref vN, .ref vY, .int 0]))] s.heap.size = A at hD hY ⊢
  have hA : ∀ q : Nat, s.heap.size ≤ q → A q := fun q h => by rw [← hAe]; exact Or.inr h
  have hS : va_S A s.heap s.heap [] := va_S.rf
  have hP : va_P D vwCl [(h0, .inr (12, [.ref vC, .ref vP, .ref vT, .ref vS, .ref vF, .ref vN, .ref vY, .int 0]))] s.heap := hP
  have hl := lv_entry ([.ref h0, .int a1]) (n := 2) (Nat.le_of_ble_eq_true rfl)
  rw [lg_entry_eq]
  generalize (lg_sl ([.ref h0, .int a1]) ++ List.replicate (2 - (lg_sl ([.ref h0, .int a1])).length) Slot.unset).toArray = ls at hl ⊢
  have hl : lv_has ls 2 [(0, .ref h0), (1, .int a1)] := hl
  refine z_anyQ (fun Q hQe => ?_)
  refine lv_aload_n hx hb dX9_plan_0 rfl (lv_at hl 0 rfl) ?_
  refine lv_iload_n hx hb dX9_plan_1 rfl (lv_at hl 1 rfl) ?_
  rw [hQe]
  exact zx_thru (wc := [(h0, .inr (12, [.ref vC, .ref vP, .ref vT, .ref vS, .ref vF, .ref vN, .ref vY, .int 0]))]) (vx_runV (As := [.int a1]) (rest := []) ⟨hx, hb, hml, hown, hts⟩ (k_drawFor l hlt D cy h0 vC vP vT vS vF vN vY a1 s.heap.size ) (cwV 1 hts (gzV (gz q188) q187 q189 q190 q174) rfl rfl rfl vX9_drawFor ⟨Nat.le_of_ble_eq_true rfl, Nat.le_of_ble_eq_true rfl⟩) (zpV (ci := 12) (T := TX9) (N := 8) (q0 := 0) hK hX hY hP hD hS hA [0] (by decide) rfl rfl rfl) rfl rfl hl.1 rfl (lv_room (Nat.le_of_ble_eq_true rfl)) dX9_plan_2 ⟨Nat.le_of_ble_eq_true rfl, Nat.le_of_ble_eq_true rfl⟩) hD hS hA [0] rfl hlocks hout (Nat.le_of_ble_eq_true rfl) (Nat.le_of_ble_eq_true rfl)
set_option maxHeartbeats 4000000 in
set_option maxRecDepth 100000 in
/-- planAt on a fresh object -/
theorem f_planAt (l : Launch) (hlt : l.stackTraces = false) (D : va_G) (cy : Nat → ClassId) (h0 : Nat) (vC : Nat) (vP : Nat) (vT : Nat) (vS : Nat) (vF : Nat) (vN : Nat) (vY : Nat) (a1 : Int32) (a2 : Int32) (sz : Nat)  : vx_Met l yX9_planAt (wz yX9_planAt cX9_planAt 3 (some .int)) ({ frames := 8, cells := 1, slots := 6, locals := 124 } : Room) (va_Pc [.ref h0, .int a1, .int a2] (zPre vwCl D cy [(h0, .inr (12, [.ref vC, .ref vP, .ref vT, .ref vS, .ref vF, .ref vN, .ref vY, .int 0]))] sz)) zNo (zXC zE1 (va_A [(h0, .inr (12, [.ref vC, .ref vP, .ref vT, .ref vS, .ref vF, .ref vN, .ref vY, .int 0]))] sz)) 1 6 (va_A [(h0, .inr (12, [.ref vC, .ref vP, .ref vT, .ref vS, .ref vF, .ref vN, .ref vY, .int 0]))] sz) := by
  refine vx_ofW (cc := cX9_planAt) (maxL := 3) (ret := (some .int)) (by decide) rfl ?_
  intro p e s m args below meth c s₁ B hml hout hv
  obtain ⟨rfl, hsz, hP, hK, hD0, hX, hY⟩ := hv
  have hx := B.exec
  have hb := B.bytes
  have hr := B.returns
  have hts0 := atoms_spec (ws := wz yX9_planAt cX9_planAt 3 (some .int)) B.pre
  have hts : ∀ w ∈ wAll, w.before _ s = true := fun w h => hts0 w (List.mem_cons_of_mem _ h)
  have hown : s.vm.findClass RX9 = some m.cls := findClass_of_methodNamed B.named
  have hlocks := B.notSynchronized
  subst hsz
  have hD := hD0.self (sz := s.heap.size)
  generalize hAe : va_A [(h0, .inr (12, [.ref vC, .ref vP, .ref vT, .ref vS, .ref vF, .ref vN, .ref vY, .int 0]))] s.heap.size = A at hD hY ⊢
  have hA : ∀ q : Nat, s.heap.size ≤ q → A q := fun q h => by rw [← hAe]; exact Or.inr h
  have hS : va_S A s.heap s.heap [] := va_S.rf
  have hP : va_P D vwCl [(h0, .inr (12, [.ref vC, .ref vP, .ref vT, .ref vS, .ref vF, .ref vN, .ref vY, .int 0]))] s.heap := hP
  have hl := lv_entry ([.ref h0, .int a1, .int a2]) (n := 3) (Nat.le_of_ble_eq_true rfl)
  rw [lg_entry_eq]
  generalize (lg_sl ([.ref h0, .int a1, .int a2]) ++ List.replicate (3 - (lg_sl ([.ref h0, .int a1, .int a2])).length) Slot.unset).toArray = ls at hl ⊢
  have hl : lv_has ls 3 [(0, .ref h0), (1, .int a1), (2, .int a2)] := hl
  refine z_anyQ (fun Q hQe => ?_)
  refine lv_aload_n hx hb dX9_planAt_0 rfl (lv_at hl 0 rfl) ?_
  refine lv_iload_n hx hb dX9_planAt_1 rfl (lv_at hl 1 rfl) ?_
  rw [hQe]
  exact zx_thru (wc := [(h0, .inr (12, [.ref vC, .ref vP, .ref vT, .ref vS, .ref vF, .ref vN, .ref vY, .int 0]))]) (vx_runV (As := [.int a1]) (rest := []) ⟨hx, hb, hml, hown, hts⟩ (k_drawFor l hlt D cy h0 vC vP vT vS vF vN vY a1 s.heap.size ) (cwV 1 hts (gzV (gz q188) q187 q189 q190 q174) rfl rfl rfl vX9_drawFor ⟨Nat.le_of_ble_eq_true rfl, Nat.le_of_ble_eq_true rfl⟩) (zpV (ci := 12) (T := TX9) (N := 8) (q0 := 0) hK hX hY hP hD hS hA [0] (by decide) rfl rfl rfl) rfl rfl hl.1 rfl (lv_room (Nat.le_of_ble_eq_true rfl)) dX9_planAt_2 ⟨Nat.le_of_ble_eq_true rfl, Nat.le_of_ble_eq_true rfl⟩) hD hS hA [0] rfl hlocks hout (Nat.le_of_ble_eq_true rfl) (Nat.le_of_ble_eq_true rfl)
set_option maxHeartbeats 4000000 in
set_option maxRecDepth 100000 in
/-- lastChance on a fresh object -/
theorem f_lastChance (l : Launch) (hlt : l.stackTraces = false) (D : va_G) (cy : Nat → ClassId) (h0 : Nat) (vC : Nat) (vP : Nat) (vT : Nat) (vS : Nat) (vF : Nat) (vN : Nat) (vY : Nat) (a1 : Int32) (sz : Nat)  : vx_Met l yX9_lastChance (wz yX9_lastChance cX9_lastChance 2 (some .int)) ({ frames := 8, cells := 1, slots := 6, locals := 124 } : Room) (va_Pc [.ref h0, .int a1] (zPre vwCl D cy [(h0, .inr (12, [.ref vC, .ref vP, .ref vT, .ref vS, .ref vF, .ref vN, .ref vY, .int 0]))] sz)) zNo (zXC zE1 (va_A [(h0, .inr (12, [.ref vC, .ref vP, .ref vT, .ref vS, .ref vF, .ref vN, .ref vY, .int 0]))] sz)) 1 6 (va_A [(h0, .inr (12, [.ref vC, .ref vP, .ref vT, .ref vS, .ref vF, .ref vN, .ref vY, .int 0]))] sz) := by
  refine vx_ofW (cc := cX9_lastChance) (maxL := 2) (ret := (some .int)) (by decide) rfl ?_
  intro p e s m args below meth c s₁ B hml hout hv
  obtain ⟨rfl, hsz, hP, hK, hD0, hX, hY⟩ := hv
  have hx := B.exec
  have hb := B.bytes
  have hr := B.returns
  have hts0 := atoms_spec (ws := wz yX9_lastChance cX9_lastChance 2 (some .int)) B.pre
  have hts : ∀ w ∈ wAll, w.before _ s = true := fun w h => hts0 w (List.mem_cons_of_mem _ h)
  have hown : s.vm.findClass RX9 = some m.cls := findClass_of_methodNamed B.named
  have hlocks := B.notSynchronized
  subst hsz
  have hD := hD0.self (sz := s.heap.size)
  generalize hAe : va_A [(h0, .inr (12, [.ref vC, .ref vP, .ref vT, .ref vS, .ref vF, .ref vN, .ref vY, .int 0]))] s.heap.size = A at hD hY ⊢
  have hA : ∀ q : Nat, s.heap.size ≤ q → A q := fun q h => by rw [← hAe]; exact Or.inr h
  have hS : va_S A s.heap s.heap [] := va_S.rf
  have hP : va_P D vwCl [(h0, .inr (12, [.ref vC, .ref vP, .ref vT, .ref vS, .ref vF, .ref vN, .ref vY, .int 0]))] s.heap := hP
  have hl := lv_entry ([.ref h0, .int a1]) (n := 2) (Nat.le_of_ble_eq_true rfl)
  rw [lg_entry_eq]
  generalize (lg_sl ([.ref h0, .int a1]) ++ List.replicate (2 - (lg_sl ([.ref h0, .int a1])).length) Slot.unset).toArray = ls at hl ⊢
  have hl : lv_has ls 2 [(0, .ref h0), (1, .int a1)] := hl
  refine z_anyQ (fun Q hQe => ?_)
  refine lv_aload_n hx hb dX9_lastChance_0 rfl (lv_at hl 0 rfl) ?_
  refine lv_iload_n hx hb dX9_lastChance_1 rfl (lv_at hl 1 rfl) ?_
  rw [hQe]
  exact zx_thru (wc := [(h0, .inr (12, [.ref vC, .ref vP, .ref vT, .ref vS, .ref vF, .ref vN, .ref vY, .int 0]))]) (vx_runV (As := [.int a1]) (rest := []) ⟨hx, hb, hml, hown, hts⟩ (k_drawFor l hlt D cy h0 vC vP vT vS vF vN vY a1 s.heap.size ) (cwV 1 hts (gzV (gz q188) q187 q189 q190 q174) rfl rfl rfl vX9_drawFor ⟨Nat.le_of_ble_eq_true rfl, Nat.le_of_ble_eq_true rfl⟩) (zpV (ci := 12) (T := TX9) (N := 8) (q0 := 0) hK hX hY hP hD hS hA [0] (by decide) rfl rfl rfl) rfl rfl hl.1 rfl (lv_room (Nat.le_of_ble_eq_true rfl)) dX9_lastChance_2 ⟨Nat.le_of_ble_eq_true rfl, Nat.le_of_ble_eq_true rfl⟩) hD hS hA [0] rfl hlocks hout (Nat.le_of_ble_eq_true rfl) (Nat.le_of_ble_eq_true rfl)
set_option maxHeartbeats 4000000 in
set_option maxRecDepth 100000 in
/-- the first station -/
theorem f_station (l : Launch) (D : va_G) (cy : Nat → ClassId) (h0 : Nat) (vC : Nat) (vP : Nat) (vT : Nat) (vS : Nat) (vF : Nat) (vN : Nat) (vY : Nat) (sS : Nat) (sJ : Nat) (sz : Nat)  : Met l yX9_station (wz yX9_station cX9_station 1 (some .int)) ({ frames := 0, cells := 0, slots := 0, locals := 0 } : Room) (va_Pc [.ref h0] (zPre vwCl D cy [(h0, .inr (12, [.ref vC, .ref vP, .ref vT, .ref vS, .ref vF, .ref vN, .ref vY, .int 0])), (vC, .inr (3, [.ref sS, .ref sJ, .int 0, .int 0]))] sz)) (va_Qi (fun (r : Int32) (_ : Unit) => r = 0) (fun (u : Unit) t => zPost vwCl D (va_A [(h0, .inr (12, [.ref vC, .ref vP, .ref vT, .ref vS, .ref vF, .ref vN, .ref vY, .int 0])), (vC, .inr (3, [.ref sS, .ref sJ, .int 0, .int 0]))] sz) [] t) (va_A [(h0, .inr (12, [.ref vC, .ref vP, .ref vT, .ref vS, .ref vF, .ref vN, .ref vY, .int 0])), (vC, .inr (3, [.ref sS, .ref sJ, .int 0, .int 0]))] sz)) 0 0 (va_A [(h0, .inr (12, [.ref vC, .ref vP, .ref vT, .ref vS, .ref vF, .ref vN, .ref vY, .int 0])), (vC, .inr (3, [.ref sS, .ref sJ, .int 0, .int 0]))] sz) := by
  refine Met.ofW (cc := cX9_station) (maxL := 1) (ret := (some .int)) (by decide) rfl ?_
  intro p e s m args below meth c s₁ B hml hv
  obtain ⟨rfl, hsz, hP, hK, hD0, hX, hY⟩ := hv
  have hx := B.exec
  have hb := B.bytes
  have hr := B.returns
  have hts0 := atoms_spec (ws := wz yX9_station cX9_station 1 (some .int)) B.pre
  have hts : ∀ w ∈ wAll, w.before _ s = true := fun w h => hts0 w (List.mem_cons_of_mem _ h)
  have hown : s.vm.findClass RX9 = some m.cls := findClass_of_methodNamed B.named
  have hlocks := B.notSynchronized
  subst hsz
  have hD := hD0.self (sz := s.heap.size)
  generalize hAe : va_A [(h0, .inr (12, [.ref vC, .ref vP, .ref vT, .ref vS, .ref vF, .ref vN, .ref vY, .int 0])), (vC, .inr (3, [.ref sS, .ref sJ, .int 0, .int 0]))] s.heap.size = A at hD hY ⊢
  have hA : ∀ q : Nat, s.heap.size ≤ q → A q := fun q h => by rw [← hAe]; exact Or.inr h
  have hS : va_S A s.heap s.heap [] := va_S.rf
  have hP : va_P D vwCl [(h0, .inr (12, [.ref vC, .ref vP, .ref vT, .ref vS, .ref vF, .ref vN, .ref vY, .int 0])), (vC, .inr (3, [.ref sS, .ref sJ, .int 0, .int 0]))] s.heap := hP
  have hl := lv_entry ([.ref h0]) (n := 1) (Nat.le_of_ble_eq_true rfl)
  rw [lg_entry_eq]
  generalize (lg_sl ([.ref h0]) ++ List.replicate (1 - (lg_sl ([.ref h0])).length) Slot.unset).toArray = ls at hl ⊢
  have hl : lv_has ls 1 [(0, .ref h0)] := hl
  refine z_anyQ (fun Q hQe => ?_)
  refine lv_aload_n hx hb dX9_station_0 rfl (lv_at hl 0 rfl) ?_
  refine va_get (D := D) (ci := 12) (v := .ref vC) (C := RX9) (T := TX9) (N := 8) hx hb hts iRX9 hown hK hP 0 rfl rfl 0 (by decide) (hts _ q127) (fun _ h9 => h9) rfl dX9_station_1 ?_
  refine va_get (D := D) (ci := 3) (v := .int 0) (C := RX0) (T := TX0) (N := 4) hx hb hts iRX0 hown hK hP 1 rfl rfl 2 (by decide) (hts _ q165) (fun _ h9 => h9) rfl dX9_station_4 ?_
  refine lv_bipush (v := 9) hx hb dX9_station_7 (by decide) ?_
  refine lv_icmp_lt (tgt := 22) hx hb dX9_station_9 (by decide) (fun _ => ?_) (fun c_9_0 => absurd (by decide +kernel) c_9_0)
  refine lv_aload_n hx hb dX9_station_22 rfl (lv_at hl 0 rfl) ?_
  refine va_get (D := D) (ci := 12) (v := .ref vC) (C := RX9) (T := TX9) (N := 8) hx hb hts iRX9 hown hK hP 0 rfl rfl 0 (by decide) (hts _ q127) (fun _ h9 => h9) rfl dX9_station_23 ?_
  refine lv_dup hx hb dX9_station_26 rfl ?_
  refine va_get (D := D) (ci := 3) (v := .int 0) (C := RX0) (T := TX0) (N := 4) hx hb hts iRX0 hown hK hP 1 rfl rfl 2 (by decide) (hts _ q165) (fun _ h9 => h9) rfl dX9_station_27 ?_
  refine lv_iconst (v := 1) hx hb dX9_station_30 (by decide) ?_
  refine lv_iadd hx hb dX9_station_31 ?_
  refine lv_topi (fun y2 ey2 => ?_)
  obtain rfl : y2 = 1 := ey2.trans (by decide +kernel)
  refine va_put (D := D) (ci := 3) (v := .int 1) (ty := .int) (C := RX0) (T := TX0) (N := 4) hx hb hts iRX0 tyX0 tyX0_ok nmX0 hown hK hP hD hS 1 rfl rfl 2 (by decide) (hts _ q165) (fun _ h9 => h9) rfl (tyX0_ok 2 (by decide)) rfl rfl (Nat.le_of_ble_eq_true rfl) dX9_station_32 (fun H locs hP hD hS => ?_)
  have hP : va_P D vwCl [(h0, .inr (12, [.ref vC, .ref vP, .ref vT, .ref vS, .ref vF, .ref vN, .ref vY, .int 0])), (vC, .inr (3, [.ref sS, .ref sJ, .int 1, .int 0]))] H := hP
  have hD : va_D A [(h0, .inr (12, [.ref vC, .ref vP, .ref vT, .ref vS, .ref vF, .ref vN, .ref vY, .int 0])), (vC, .inr (3, [.ref sS, .ref sJ, .int 1, .int 0]))] := hD
  refine lv_aload_n hx hb dX9_station_35 rfl (lv_at hl 0 rfl) ?_
  refine va_get (D := D) (ci := 12) (v := .ref vC) (C := RX9) (T := TX9) (N := 8) hx hb hts iRX9 hown hK hP 0 rfl rfl 0 (by decide) (hts _ q127) (fun _ h9 => h9) rfl dX9_station_36 ?_
  refine va_get (D := D) (ci := 3) (v := .int 1) (C := RX0) (T := TX0) (N := 4) hx hb hts iRX0 hown hK hP 1 rfl rfl 2 (by decide) (hts _ q165) (fun _ h9 => h9) rfl dX9_station_39 ?_
  refine lv_iconst (v := 1) hx hb dX9_station_42 (by decide) ?_
  refine lv_isub hx hb dX9_station_43 ?_
  refine lv_topi (fun y3 ey3 => ?_)
  obtain rfl : y3 = 0 := ey3.trans (by decide +kernel)
  have hP9 := hP.sub (ws' := []) [] rfl
  have hD9 := hD.sub (ws' := []) [] (by decide) rfl
  refine W.widen (k := 0) (n := 0) (Nat.le_of_ble_eq_true rfl) (Nat.le_of_ble_eq_true rfl) ?_
  rw [hQe]
  exact W.iret (v := 0) hx hb hr (fun t ht hW => ⟨⟨0, (), rfl, rfl, ⟨by rw [ht]; exact hP9, hD9⟩⟩, hS.F ht⟩) hS.2.2 dX9_station_44
set_option maxHeartbeats 4000000 in
set_option maxRecDepth 100000 in
theorem f_stations (l : Launch) (D : va_G) (cy : Nat → ClassId) (h0 : Nat) (vC : Nat) (vP : Nat) (vT : Nat) (vS : Nat) (vF : Nat) (vN : Nat) (vY : Nat) (sS : Nat) (sJ : Nat) (sz : Nat)  : Met l yX9_stations (wz yX9_stations cX9_stations 1 (some .int)) ({ frames := 0, cells := 0, slots := 0, locals := 0 } : Room) (va_Pc [.ref h0] (zPre vwCl D cy [(h0, .inr (12, [.ref vC, .ref vP, .ref vT, .ref vS, .ref vF, .ref vN, .ref vY, .int 0])), (vC, .inr (3, [.ref sS, .ref sJ, .int 0, .int 0]))] sz)) (va_Qi (fun (r : Int32) (_ : Unit) => r = 0) (fun (u : Unit) t => zPost vwCl D (va_A [(h0, .inr (12, [.ref vC, .ref vP, .ref vT, .ref vS, .ref vF, .ref vN, .ref vY, .int 0])), (vC, .inr (3, [.ref sS, .ref sJ, .int 0, .int 0]))] sz) [] t) (va_A [(h0, .inr (12, [.ref vC, .ref vP, .ref vT, .ref vS, .ref vF, .ref vN, .ref vY, .int 0])), (vC, .inr (3, [.ref sS, .ref sJ, .int 0, .int 0]))] sz)) 0 0 (va_A [(h0, .inr (12, [.ref vC, .ref vP, .ref vT, .ref vS, .ref vF, .ref vN, .ref vY, .int 0])), (vC, .inr (3, [.ref sS, .ref sJ, .int 0, .int 0]))] sz) := by
  refine Met.ofW (cc := cX9_stations) (maxL := 1) (ret := (some .int)) (by decide) rfl ?_
  intro p e s m args below meth c s₁ B hml hv
  obtain ⟨rfl, hsz, hP, hK, hD0, hX, hY⟩ := hv
  have hx := B.exec
  have hb := B.bytes
  have hr := B.returns
  have hts0 := atoms_spec (ws := wz yX9_stations cX9_stations 1 (some .int)) B.pre
  have hts : ∀ w ∈ wAll, w.before _ s = true := fun w h => hts0 w (List.mem_cons_of_mem _ h)
  have hown : s.vm.findClass RX9 = some m.cls := findClass_of_methodNamed B.named
  have hlocks := B.notSynchronized
  subst hsz
  have hD := hD0.self (sz := s.heap.size)
  generalize hAe : va_A [(h0, .inr (12, [.ref vC, .ref vP, .ref vT, .ref vS, .ref vF, .ref vN, .ref vY, .int 0])), (vC, .inr (3, [.ref sS, .ref sJ, .int 0, .int 0]))] s.heap.size = A at hD hY ⊢
  have hA : ∀ q : Nat, s.heap.size ≤ q → A q := fun q h => by rw [← hAe]; exact Or.inr h
  have hS : va_S A s.heap s.heap [] := va_S.rf
  have hP : va_P D vwCl [(h0, .inr (12, [.ref vC, .ref vP, .ref vT, .ref vS, .ref vF, .ref vN, .ref vY, .int 0])), (vC, .inr (3, [.ref sS, .ref sJ, .int 0, .int 0]))] s.heap := hP
  have hl := lv_entry ([.ref h0]) (n := 1) (Nat.le_of_ble_eq_true rfl)
  rw [lg_entry_eq]
  generalize (lg_sl ([.ref h0]) ++ List.replicate (1 - (lg_sl ([.ref h0])).length) Slot.unset).toArray = ls at hl ⊢
  have hl : lv_has ls 1 [(0, .ref h0)] := hl
  refine z_anyQ (fun Q hQe => ?_)
  refine lv_aload_n hx hb dX9_stations_0 rfl (lv_at hl 0 rfl) ?_
  refine va_get (D := D) (ci := 12) (v := .ref vC) (C := RX9) (T := TX9) (N := 8) hx hb hts iRX9 hown hK hP 0 rfl rfl 0 (by decide) (hts _ q127) (fun _ h9 => h9) rfl dX9_stations_1 ?_
  refine va_get (D := D) (ci := 3) (v := .int 0) (C := RX0) (T := TX0) (N := 4) hx hb hts iRX0 hown hK hP 1 rfl rfl 2 (by decide) (hts _ q165) (fun _ h9 => h9) rfl dX9_stations_4 ?_
  have hP9 := hP.sub (ws' := []) [] rfl
  have hD9 := hD.sub (ws' := []) [] (by decide) rfl
  refine W.widen (k := 0) (n := 0) (Nat.le_of_ble_eq_true rfl) (Nat.le_of_ble_eq_true rfl) ?_
  rw [hQe]
  exact W.iret (v := 0) hx hb hr (fun t ht hW => ⟨⟨0, (), rfl, rfl, ⟨by rw [ht]; exact hP9, hD9⟩⟩, hS.F ht⟩) hS.2.2 dX9_stations_7
set_option maxHeartbeats 4000000 in
set_option maxRecDepth 100000 in
theorem f_shots (l : Launch) (D : va_G) (cy : Nat → ClassId) (h0 : Nat) (vC : Nat) (vP : Nat) (vT : Nat) (vS : Nat) (vF : Nat) (vN : Nat) (vY : Nat) (sS : Nat) (sJ : Nat) (sz : Nat)  : Met l yX9_shots (wz yX9_shots cX9_shots 1 (some .int)) ({ frames := 0, cells := 0, slots := 0, locals := 0 } : Room) (va_Pc [.ref h0] (zPre vwCl D cy [(h0, .inr (12, [.ref vC, .ref vP, .ref vT, .ref vS, .ref vF, .ref vN, .ref vY, .int 0])), (vC, .inr (3, [.ref sS, .ref sJ, .int 0, .int 0]))] sz)) (va_Qi (fun (r : Int32) (_ : Unit) => r = 0) (fun (u : Unit) t => zPost vwCl D (va_A [(h0, .inr (12, [.ref vC, .ref vP, .ref vT, .ref vS, .ref vF, .ref vN, .ref vY, .int 0])), (vC, .inr (3, [.ref sS, .ref sJ, .int 0, .int 0]))] sz) [] t) (va_A [(h0, .inr (12, [.ref vC, .ref vP, .ref vT, .ref vS, .ref vF, .ref vN, .ref vY, .int 0])), (vC, .inr (3, [.ref sS, .ref sJ, .int 0, .int 0]))] sz)) 0 0 (va_A [(h0, .inr (12, [.ref vC, .ref vP, .ref vT, .ref vS, .ref vF, .ref vN, .ref vY, .int 0])), (vC, .inr (3, [.ref sS, .ref sJ, .int 0, .int 0]))] sz) := by
  refine Met.ofW (cc := cX9_shots) (maxL := 1) (ret := (some .int)) (by decide) rfl ?_
  intro p e s m args below meth c s₁ B hml hv
  obtain ⟨rfl, hsz, hP, hK, hD0, hX, hY⟩ := hv
  have hx := B.exec
  have hb := B.bytes
  have hr := B.returns
  have hts0 := atoms_spec (ws := wz yX9_shots cX9_shots 1 (some .int)) B.pre
  have hts : ∀ w ∈ wAll, w.before _ s = true := fun w h => hts0 w (List.mem_cons_of_mem _ h)
  have hown : s.vm.findClass RX9 = some m.cls := findClass_of_methodNamed B.named
  have hlocks := B.notSynchronized
  subst hsz
  have hD := hD0.self (sz := s.heap.size)
  generalize hAe : va_A [(h0, .inr (12, [.ref vC, .ref vP, .ref vT, .ref vS, .ref vF, .ref vN, .ref vY, .int 0])), (vC, .inr (3, [.ref sS, .ref sJ, .int 0, .int 0]))] s.heap.size = A at hD hY ⊢
  have hA : ∀ q : Nat, s.heap.size ≤ q → A q := fun q h => by rw [← hAe]; exact Or.inr h
  have hS : va_S A s.heap s.heap [] := va_S.rf
  have hP : va_P D vwCl [(h0, .inr (12, [.ref vC, .ref vP, .ref vT, .ref vS, .ref vF, .ref vN, .ref vY, .int 0])), (vC, .inr (3, [.ref sS, .ref sJ, .int 0, .int 0]))] s.heap := hP
  have hl := lv_entry ([.ref h0]) (n := 1) (Nat.le_of_ble_eq_true rfl)
  rw [lg_entry_eq]
  generalize (lg_sl ([.ref h0]) ++ List.replicate (1 - (lg_sl ([.ref h0])).length) Slot.unset).toArray = ls at hl ⊢
  have hl : lv_has ls 1 [(0, .ref h0)] := hl
  refine z_anyQ (fun Q hQe => ?_)
  refine lv_aload_n hx hb dX9_shots_0 rfl (lv_at hl 0 rfl) ?_
  refine va_get (D := D) (ci := 12) (v := .ref vC) (C := RX9) (T := TX9) (N := 8) hx hb hts iRX9 hown hK hP 0 rfl rfl 0 (by decide) (hts _ q127) (fun _ h9 => h9) rfl dX9_shots_1 ?_
  refine va_get (D := D) (ci := 3) (v := .int 0) (C := RX0) (T := TX0) (N := 4) hx hb hts iRX0 hown hK hP 1 rfl rfl 3 (by decide) (hts _ q166) (fun _ h9 => h9) rfl dX9_shots_4 ?_
  have hP9 := hP.sub (ws' := []) [] rfl
  have hD9 := hD.sub (ws' := []) [] (by decide) rfl
  refine W.widen (k := 0) (n := 0) (Nat.le_of_ble_eq_true rfl) (Nat.le_of_ble_eq_true rfl) ?_
  rw [hQe]
  exact W.iret (v := 0) hx hb hr (fun t ht hW => ⟨⟨0, (), rfl, rfl, ⟨by rw [ht]; exact hP9, hD9⟩⟩, hS.F ht⟩) hS.2.2 dX9_shots_7
set_option maxHeartbeats 4000000 in
set_option maxRecDepth 100000 in
theorem f_allSteps (l : Launch) (D : va_G) (cy : Nat → ClassId) (h0 : Nat) (vC : Nat) (vP : Nat) (vT : Nat) (vS : Nat) (vF : Nat) (vN : Nat) (vY : Nat) (sS : Nat) (sJ : Nat) (sz : Nat)  : Met l yX9_allSteps (wz yX9_allSteps cX9_allSteps 5 (some .long)) ({ frames := 0, cells := 0, slots := 0, locals := 0 } : Room) (va_Pc [.ref h0] (zPre vwCl D cy [(h0, .inr (12, [.ref vC, .ref vP, .ref vT, .ref vS, .ref vF, .ref vN, .ref vY, .int 0])), (vC, .inr (3, [.ref sS, .ref sJ, .int 0, .int 0]))] sz)) (va_Ql (fun (r : Int64) (_ : Unit) => r = 0) (fun (u : Unit) t => zPost vwCl D (va_A [(h0, .inr (12, [.ref vC, .ref vP, .ref vT, .ref vS, .ref vF, .ref vN, .ref vY, .int 0])), (vC, .inr (3, [.ref sS, .ref sJ, .int 0, .int 0]))] sz) [] t) (va_A [(h0, .inr (12, [.ref vC, .ref vP, .ref vT, .ref vS, .ref vF, .ref vN, .ref vY, .int 0])), (vC, .inr (3, [.ref sS, .ref sJ, .int 0, .int 0]))] sz)) 0 0 (va_A [(h0, .inr (12, [.ref vC, .ref vP, .ref vT, .ref vS, .ref vF, .ref vN, .ref vY, .int 0])), (vC, .inr (3, [.ref sS, .ref sJ, .int 0, .int 0]))] sz) := by
  refine Met.ofW (cc := cX9_allSteps) (maxL := 5) (ret := (some .long)) (by decide) rfl ?_
  intro p e s m args below meth c s₁ B hml hv
  obtain ⟨rfl, hsz, hP, hK, hD0, hX, hY⟩ := hv
  have hx := B.exec
  have hb := B.bytes
  have hr := B.returns
  have hts0 := atoms_spec (ws := wz yX9_allSteps cX9_allSteps 5 (some .long)) B.pre
  have hts : ∀ w ∈ wAll, w.before _ s = true := fun w h => hts0 w (List.mem_cons_of_mem _ h)
  have hown : s.vm.findClass RX9 = some m.cls := findClass_of_methodNamed B.named
  have hlocks := B.notSynchronized
  subst hsz
  have hD := hD0.self (sz := s.heap.size)
  generalize hAe : va_A [(h0, .inr (12, [.ref vC, .ref vP, .ref vT, .ref vS, .ref vF, .ref vN, .ref vY, .int 0])), (vC, .inr (3, [.ref sS, .ref sJ, .int 0, .int 0]))] s.heap.size = A at hD hY ⊢
  have hA : ∀ q : Nat, s.heap.size ≤ q → A q := fun q h => by rw [← hAe]; exact Or.inr h
  have hS : va_S A s.heap s.heap [] := va_S.rf
  have hP : va_P D vwCl [(h0, .inr (12, [.ref vC, .ref vP, .ref vT, .ref vS, .ref vF, .ref vN, .ref vY, .int 0])), (vC, .inr (3, [.ref sS, .ref sJ, .int 0, .int 0]))] s.heap := hP
  have hl := lv_entry ([.ref h0]) (n := 5) (Nat.le_of_ble_eq_true rfl)
  rw [lg_entry_eq]
  generalize (lg_sl ([.ref h0]) ++ List.replicate (5 - (lg_sl ([.ref h0])).length) Slot.unset).toArray = ls at hl ⊢
  have hl : lv_has ls 5 [(0, .ref h0)] := hl
  refine z_anyQ (fun Q hQe => ?_)
  refine lv_lconst (v := 0) hx hb dX9_allSteps_0 rfl ?_
  refine lv_lstore_n (lv' := [(1, .long 0), (0, .ref h0)]) hx hb dX9_allSteps_1 rfl hl (by decide) rfl (fun ls hl => ?_)
  refine lv_iconst (v := 0) hx hb dX9_allSteps_2 (by decide) ?_
  refine lv_istore_n (lv' := [(3, .int 0), (1, .long 0), (0, .ref h0)]) hx hb dX9_allSteps_3 rfl hl (by decide) rfl (fun ls hl => ?_)
  refine lv_iload_n hx hb dX9_allSteps_4 rfl (lv_at hl 0 rfl) ?_
  refine lv_aload_n hx hb dX9_allSteps_5 rfl (lv_at hl 2 rfl) ?_
  refine va_get (D := D) (ci := 12) (v := .ref vC) (C := RX9) (T := TX9) (N := 8) hx hb hts iRX9 hown hK hP 0 rfl rfl 0 (by decide) (hts _ q127) (fun _ h9 => h9) rfl dX9_allSteps_6 ?_
  refine va_get (D := D) (ci := 3) (v := .int 0) (C := RX0) (T := TX0) (N := 4) hx hb hts iRX0 hown hK hP 1 rfl rfl 3 (by decide) (hts _ q166) (fun _ h9 => h9) rfl dX9_allSteps_9 ?_
  refine lv_icmp_ge (tgt := 55) hx hb dX9_allSteps_12 (by decide) (fun _ => ?_) (fun c_12_0 => absurd (by decide +kernel) c_12_0)
  refine lv_lload_n hx hb dX9_allSteps_55 rfl (lv_at hl 1 rfl) ?_
  have hP9 := hP.sub (ws' := []) [] rfl
  have hD9 := hD.sub (ws' := []) [] (by decide) rfl
  refine W.widen (k := 0) (n := 0) (Nat.le_of_ble_eq_true rfl) (Nat.le_of_ble_eq_true rfl) ?_
  rw [hQe]
  exact W.lret (v := 0) hx hb hr (fun t ht hW => ⟨⟨0, (), rfl, rfl, ⟨by rw [ht]; exact hP9, hD9⟩⟩, hS.F ht⟩) hS.2.2 dX9_allSteps_56
set_option maxHeartbeats 4000000 in
set_option maxRecDepth 100000 in
/-- loops of no day -/
theorem f_loops_no (l : Launch) (hlt : l.stackTraces = false) (D : va_G) (cy : Nat → ClassId) (h0 : Nat) (vC : Nat) (vP : Nat) (vT : Nat) (vS : Nat) (vF : Nat) (vN : Nat) (vY : Nat) (d : Int32) (sz : Nat) (hd : zNoDay d) : vx_Met l yX9_loops (wz yX9_loops cX9_loops 2 (some .int)) ({ frames := 7, cells := 1, slots := 6, locals := 102 } : Room) (va_Pc [.ref h0, .int d] (zPre vwCl D cy [(h0, .inr (12, [.ref vC, .ref vP, .ref vT, .ref vS, .ref vF, .ref vN, .ref vY, .int 0]))] sz)) zNo (zXC zE2 (va_A [(h0, .inr (12, [.ref vC, .ref vP, .ref vT, .ref vS, .ref vF, .ref vN, .ref vY, .int 0]))] sz)) 1 6 (va_A [(h0, .inr (12, [.ref vC, .ref vP, .ref vT, .ref vS, .ref vF, .ref vN, .ref vY, .int 0]))] sz) := by
  refine vx_ofW (cc := cX9_loops) (maxL := 2) (ret := (some .int)) (by decide) rfl ?_
  intro p e s m args below meth c s₁ B hml hout hv
  obtain ⟨rfl, hsz, hP, hK, hD0, hX, hY⟩ := hv
  have hx := B.exec
  have hb := B.bytes
  have hr := B.returns
  have hts0 := atoms_spec (ws := wz yX9_loops cX9_loops 2 (some .int)) B.pre
  have hts : ∀ w ∈ wAll, w.before _ s = true := fun w h => hts0 w (List.mem_cons_of_mem _ h)
  have hown : s.vm.findClass RX9 = some m.cls := findClass_of_methodNamed B.named
  have hlocks := B.notSynchronized
  subst hsz
  have hD := hD0.self (sz := s.heap.size)
  generalize hAe : va_A [(h0, .inr (12, [.ref vC, .ref vP, .ref vT, .ref vS, .ref vF, .ref vN, .ref vY, .int 0]))] s.heap.size = A at hD hY ⊢
  have hA : ∀ q : Nat, s.heap.size ≤ q → A q := fun q h => by rw [← hAe]; exact Or.inr h
  have hS : va_S A s.heap s.heap [] := va_S.rf
  have hP : va_P D vwCl [(h0, .inr (12, [.ref vC, .ref vP, .ref vT, .ref vS, .ref vF, .ref vN, .ref vY, .int 0]))] s.heap := hP
  have hl := lv_entry ([.ref h0, .int d]) (n := 2) (Nat.le_of_ble_eq_true rfl)
  rw [lg_entry_eq]
  generalize (lg_sl ([.ref h0, .int d]) ++ List.replicate (2 - (lg_sl ([.ref h0, .int d])).length) Slot.unset).toArray = ls at hl ⊢
  have hl : lv_has ls 2 [(0, .ref h0), (1, .int d)] := hl
  refine z_anyQ (fun Q hQe => ?_)
  refine lv_iload_n hx hb dX9_loops_0 rfl (lv_at hl 1 rfl) ?_
  rw [hQe]
  exact zx_thru (wc := []) (vx_runS (As := [.int d]) (rest := []) ⟨hx, hb, hml, hown, hts⟩ (k_needDay_no l hlt D cy d s.heap.size hd) (va_cwS 1 hts (gzS (gz q192) q191 q193 q174) rfl rfl rfl vX9_needDay.2 ⟨Nat.le_of_ble_eq_true rfl, Nat.le_of_ble_eq_true rfl⟩) (zpS hK hX hY hP hD hS hA [] (by decide) rfl) rfl rfl hl.1 rfl (lv_room (Nat.le_of_ble_eq_true rfl)) dX9_loops_1 ⟨Nat.le_of_ble_eq_true rfl, Nat.le_of_ble_eq_true rfl⟩) hD hS hA [] rfl hlocks hout (Nat.le_of_ble_eq_true rfl) (Nat.le_of_ble_eq_true rfl)
set_option maxHeartbeats 4000000 in
set_option maxRecDepth 100000 in
/-- allFaults of no day -/
theorem f_allFaults_no (l : Launch) (hlt : l.stackTraces = false) (D : va_G) (cy : Nat → ClassId) (h0 : Nat) (vC : Nat) (vP : Nat) (vT : Nat) (vS : Nat) (vF : Nat) (vN : Nat) (vY : Nat) (d : Int32) (sz : Nat) (hd : zNoDay d) : vx_Met l yX9_allFaults (wz yX9_allFaults cX9_allFaults 2 (some .long)) ({ frames := 7, cells := 1, slots := 6, locals := 102 } : Room) (va_Pc [.ref h0, .int d] (zPre vwCl D cy [(h0, .inr (12, [.ref vC, .ref vP, .ref vT, .ref vS, .ref vF, .ref vN, .ref vY, .int 0]))] sz)) zNo (zXC zE2 (va_A [(h0, .inr (12, [.ref vC, .ref vP, .ref vT, .ref vS, .ref vF, .ref vN, .ref vY, .int 0]))] sz)) 1 6 (va_A [(h0, .inr (12, [.ref vC, .ref vP, .ref vT, .ref vS, .ref vF, .ref vN, .ref vY, .int 0]))] sz) := by
  refine vx_ofW (cc := cX9_allFaults) (maxL := 2) (ret := (some .long)) (by decide) rfl ?_
  intro p e s m args below meth c s₁ B hml hout hv
  obtain ⟨rfl, hsz, hP, hK, hD0, hX, hY⟩ := hv
  have hx := B.exec
  have hb := B.bytes
  have hr := B.returns
  have hts0 := atoms_spec (ws := wz yX9_allFaults cX9_allFaults 2 (some .long)) B.pre
  have hts : ∀ w ∈ wAll, w.before _ s = true := fun w h => hts0 w (List.mem_cons_of_mem _ h)
  have hown : s.vm.findClass RX9 = some m.cls := findClass_of_methodNamed B.named
  have hlocks := B.notSynchronized
  subst hsz
  have hD := hD0.self (sz := s.heap.size)
  generalize hAe : va_A [(h0, .inr (12, [.ref vC, .ref vP, .ref vT, .ref vS, .ref vF, .ref vN, .ref vY, .int 0]))] s.heap.size = A at hD hY ⊢
  have hA : ∀ q : Nat, s.heap.size ≤ q → A q := fun q h => by rw [← hAe]; exact Or.inr h
  have hS : va_S A s.heap s.heap [] := va_S.rf
  have hP : va_P D vwCl [(h0, .inr (12, [.ref vC, .ref vP, .ref vT, .ref vS, .ref vF, .ref vN, .ref vY, .int 0]))] s.heap := hP
  have hl := lv_entry ([.ref h0, .int d]) (n := 2) (Nat.le_of_ble_eq_true rfl)
  rw [lg_entry_eq]
  generalize (lg_sl ([.ref h0, .int d]) ++ List.replicate (2 - (lg_sl ([.ref h0, .int d])).length) Slot.unset).toArray = ls at hl ⊢
  have hl : lv_has ls 2 [(0, .ref h0), (1, .int d)] := hl
  refine z_anyQ (fun Q hQe => ?_)
  refine lv_iload_n hx hb dX9_allFaults_0 rfl (lv_at hl 1 rfl) ?_
  rw [hQe]
  exact zx_thru (wc := []) (vx_runS (As := [.int d]) (rest := []) ⟨hx, hb, hml, hown, hts⟩ (k_needDay_no l hlt D cy d s.heap.size hd) (va_cwS 1 hts (gzS (gz q192) q191 q193 q174) rfl rfl rfl vX9_needDay.2 ⟨Nat.le_of_ble_eq_true rfl, Nat.le_of_ble_eq_true rfl⟩) (zpS hK hX hY hP hD hS hA [] (by decide) rfl) rfl rfl hl.1 rfl (lv_room (Nat.le_of_ble_eq_true rfl)) dX9_allFaults_1 ⟨Nat.le_of_ble_eq_true rfl, Nat.le_of_ble_eq_true rfl⟩) hD hS hA [] rfl hlocks hout (Nat.le_of_ble_eq_true rfl) (Nat.le_of_ble_eq_true rfl)
set_option maxHeartbeats 4000000 in
set_option maxRecDepth 100000 in
/-- blunder of no day -/
theorem f_blunder_no (l : Launch) (hlt : l.stackTraces = false) (D : va_G) (cy : Nat → ClassId) (h0 : Nat) (vC : Nat) (vP : Nat) (vT : Nat) (vS : Nat) (vF : Nat) (vN : Nat) (vY : Nat) (d : Int32) (sz : Nat) (hd : zNoDay d) : vx_Met l yX9_blunder (wz yX9_blunder cX9_blunder 3 (some .int)) ({ frames := 7, cells := 1, slots := 6, locals := 102 } : Room) (va_Pc [.ref h0, .int d] (zPre vwCl D cy [(h0, .inr (12, [.ref vC, .ref vP, .ref vT, .ref vS, .ref vF, .ref vN, .ref vY, .int 0]))] sz)) zNo (zXC zE2 (va_A [(h0, .inr (12, [.ref vC, .ref vP, .ref vT, .ref vS, .ref vF, .ref vN, .ref vY, .int 0]))] sz)) 1 6 (va_A [(h0, .inr (12, [.ref vC, .ref vP, .ref vT, .ref vS, .ref vF, .ref vN, .ref vY, .int 0]))] sz) := by
  refine vx_ofW (cc := cX9_blunder) (maxL := 3) (ret := (some .int)) (by decide) rfl ?_
  intro p e s m args below meth c s₁ B hml hout hv
  obtain ⟨rfl, hsz, hP, hK, hD0, hX, hY⟩ := hv
  have hx := B.exec
  have hb := B.bytes
  have hr := B.returns
  have hts0 := atoms_spec (ws := wz yX9_blunder cX9_blunder 3 (some .int)) B.pre
  have hts : ∀ w ∈ wAll, w.before _ s = true := fun w h => hts0 w (List.mem_cons_of_mem _ h)
  have hown : s.vm.findClass RX9 = some m.cls := findClass_of_methodNamed B.named
  have hlocks := B.notSynchronized
  subst hsz
  have hD := hD0.self (sz := s.heap.size)
  generalize hAe : va_A [(h0, .inr (12, [.ref vC, .ref vP, .ref vT, .ref vS, .ref vF, .ref vN, .ref vY, .int 0]))] s.heap.size = A at hD hY ⊢
  have hA : ∀ q : Nat, s.heap.size ≤ q → A q := fun q h => by rw [← hAe]; exact Or.inr h
  have hS : va_S A s.heap s.heap [] := va_S.rf
  have hP : va_P D vwCl [(h0, .inr (12, [.ref vC, .ref vP, .ref vT, .ref vS, .ref vF, .ref vN, .ref vY, .int 0]))] s.heap := hP
  have hl := lv_entry ([.ref h0, .int d]) (n := 3) (Nat.le_of_ble_eq_true rfl)
  rw [lg_entry_eq]
  generalize (lg_sl ([.ref h0, .int d]) ++ List.replicate (3 - (lg_sl ([.ref h0, .int d])).length) Slot.unset).toArray = ls at hl ⊢
  have hl : lv_has ls 3 [(0, .ref h0), (1, .int d)] := hl
  refine z_anyQ (fun Q hQe => ?_)
  refine lv_iload_n hx hb dX9_blunder_0 rfl (lv_at hl 1 rfl) ?_
  rw [hQe]
  exact zx_thru (wc := []) (vx_runS (As := [.int d]) (rest := []) ⟨hx, hb, hml, hown, hts⟩ (k_needDay_no l hlt D cy d s.heap.size hd) (va_cwS 1 hts (gzS (gz q192) q191 q193 q174) rfl rfl rfl vX9_needDay.2 ⟨Nat.le_of_ble_eq_true rfl, Nat.le_of_ble_eq_true rfl⟩) (zpS hK hX hY hP hD hS hA [] (by decide) rfl) rfl rfl hl.1 rfl (lv_room (Nat.le_of_ble_eq_true rfl)) dX9_blunder_1 ⟨Nat.le_of_ble_eq_true rfl, Nat.le_of_ble_eq_true rfl⟩) hD hS hA [] rfl hlocks hout (Nat.le_of_ble_eq_true rfl) (Nat.le_of_ble_eq_true rfl)
set_option maxHeartbeats 4000000 in
set_option maxRecDepth 100000 in
/-- length of no day -/
theorem f_length_no (l : Launch) (hlt : l.stackTraces = false) (D : va_G) (cy : Nat → ClassId) (h0 : Nat) (vC : Nat) (vP : Nat) (vT : Nat) (vS : Nat) (vF : Nat) (vN : Nat) (vY : Nat) (d : Int32) (sz : Nat) (hd : zNoDay d) : vx_Met l yX9_length (wz yX9_length cX9_length 4 (some .int)) ({ frames := 7, cells := 1, slots := 6, locals := 102 } : Room) (va_Pc [.ref h0, .int d] (zPre vwCl D cy [(h0, .inr (12, [.ref vC, .ref vP, .ref vT, .ref vS, .ref vF, .ref vN, .ref vY, .int 0]))] sz)) zNo (zXC zE2 (va_A [(h0, .inr (12, [.ref vC, .ref vP, .ref vT, .ref vS, .ref vF, .ref vN, .ref vY, .int 0]))] sz)) 1 6 (va_A [(h0, .inr (12, [.ref vC, .ref vP, .ref vT, .ref vS, .ref vF, .ref vN, .ref vY, .int 0]))] sz) := by
  refine vx_ofW (cc := cX9_length) (maxL := 4) (ret := (some .int)) (by decide) rfl ?_
  intro p e s m args below meth c s₁ B hml hout hv
  obtain ⟨rfl, hsz, hP, hK, hD0, hX, hY⟩ := hv
  have hx := B.exec
  have hb := B.bytes
  have hr := B.returns
  have hts0 := atoms_spec (ws := wz yX9_length cX9_length 4 (some .int)) B.pre
  have hts : ∀ w ∈ wAll, w.before _ s = true := fun w h => hts0 w (List.mem_cons_of_mem _ h)
  have hown : s.vm.findClass RX9 = some m.cls := findClass_of_methodNamed B.named
  have hlocks := B.notSynchronized
  subst hsz
  have hD := hD0.self (sz := s.heap.size)
  generalize hAe : va_A [(h0, .inr (12, [.ref vC, .ref vP, .ref vT, .ref vS, .ref vF, .ref vN, .ref vY, .int 0]))] s.heap.size = A at hD hY ⊢
  have hA : ∀ q : Nat, s.heap.size ≤ q → A q := fun q h => by rw [← hAe]; exact Or.inr h
  have hS : va_S A s.heap s.heap [] := va_S.rf
  have hP : va_P D vwCl [(h0, .inr (12, [.ref vC, .ref vP, .ref vT, .ref vS, .ref vF, .ref vN, .ref vY, .int 0]))] s.heap := hP
  have hl := lv_entry ([.ref h0, .int d]) (n := 4) (Nat.le_of_ble_eq_true rfl)
  rw [lg_entry_eq]
  generalize (lg_sl ([.ref h0, .int d]) ++ List.replicate (4 - (lg_sl ([.ref h0, .int d])).length) Slot.unset).toArray = ls at hl ⊢
  have hl : lv_has ls 4 [(0, .ref h0), (1, .int d)] := hl
  refine z_anyQ (fun Q hQe => ?_)
  refine lv_iload_n hx hb dX9_length_0 rfl (lv_at hl 1 rfl) ?_
  rw [hQe]
  exact zx_thru (wc := []) (vx_runS (As := [.int d]) (rest := []) ⟨hx, hb, hml, hown, hts⟩ (k_needDay_no l hlt D cy d s.heap.size hd) (va_cwS 1 hts (gzS (gz q192) q191 q193 q174) rfl rfl rfl vX9_needDay.2 ⟨Nat.le_of_ble_eq_true rfl, Nat.le_of_ble_eq_true rfl⟩) (zpS hK hX hY hP hD hS hA [] (by decide) rfl) rfl rfl hl.1 rfl (lv_room (Nat.le_of_ble_eq_true rfl)) dX9_length_1 ⟨Nat.le_of_ble_eq_true rfl, Nat.le_of_ble_eq_true rfl⟩) hD hS hA [] rfl hlocks hout (Nat.le_of_ble_eq_true rfl) (Nat.le_of_ble_eq_true rfl)
set_option maxHeartbeats 4000000 in
set_option maxRecDepth 100000 in
/-- depth of no day -/
theorem f_depth_no (l : Launch) (hlt : l.stackTraces = false) (D : va_G) (cy : Nat → ClassId) (h0 : Nat) (vC : Nat) (vP : Nat) (vT : Nat) (vS : Nat) (vF : Nat) (vN : Nat) (vY : Nat) (d : Int32) (sz : Nat) (hd : zNoDay d) : vx_Met l yX9_depth (wz yX9_depth cX9_depth 2 (some .long)) ({ frames := 7, cells := 1, slots := 6, locals := 102 } : Room) (va_Pc [.ref h0, .int d] (zPre vwCl D cy [(h0, .inr (12, [.ref vC, .ref vP, .ref vT, .ref vS, .ref vF, .ref vN, .ref vY, .int 0]))] sz)) zNo (zXC zE2 (va_A [(h0, .inr (12, [.ref vC, .ref vP, .ref vT, .ref vS, .ref vF, .ref vN, .ref vY, .int 0]))] sz)) 1 6 (va_A [(h0, .inr (12, [.ref vC, .ref vP, .ref vT, .ref vS, .ref vF, .ref vN, .ref vY, .int 0]))] sz) := by
  refine vx_ofW (cc := cX9_depth) (maxL := 2) (ret := (some .long)) (by decide) rfl ?_
  intro p e s m args below meth c s₁ B hml hout hv
  obtain ⟨rfl, hsz, hP, hK, hD0, hX, hY⟩ := hv
  have hx := B.exec
  have hb := B.bytes
  have hr := B.returns
  have hts0 := atoms_spec (ws := wz yX9_depth cX9_depth 2 (some .long)) B.pre
  have hts : ∀ w ∈ wAll, w.before _ s = true := fun w h => hts0 w (List.mem_cons_of_mem _ h)
  have hown : s.vm.findClass RX9 = some m.cls := findClass_of_methodNamed B.named
  have hlocks := B.notSynchronized
  subst hsz
  have hD := hD0.self (sz := s.heap.size)
  generalize hAe : va_A [(h0, .inr (12, [.ref vC, .ref vP, .ref vT, .ref vS, .ref vF, .ref vN, .ref vY, .int 0]))] s.heap.size = A at hD hY ⊢
  have hA : ∀ q : Nat, s.heap.size ≤ q → A q := fun q h => by rw [← hAe]; exact Or.inr h
  have hS : va_S A s.heap s.heap [] := va_S.rf
  have hP : va_P D vwCl [(h0, .inr (12, [.ref vC, .ref vP, .ref vT, .ref vS, .ref vF, .ref vN, .ref vY, .int 0]))] s.heap := hP
  have hl := lv_entry ([.ref h0, .int d]) (n := 2) (Nat.le_of_ble_eq_true rfl)
  rw [lg_entry_eq]
  generalize (lg_sl ([.ref h0, .int d]) ++ List.replicate (2 - (lg_sl ([.ref h0, .int d])).length) Slot.unset).toArray = ls at hl ⊢
  have hl : lv_has ls 2 [(0, .ref h0), (1, .int d)] := hl
  refine z_anyQ (fun Q hQe => ?_)
  refine lv_iload_n hx hb dX9_depth_0 rfl (lv_at hl 1 rfl) ?_
  rw [hQe]
  exact zx_thru (wc := []) (vx_runS (As := [.int d]) (rest := []) ⟨hx, hb, hml, hown, hts⟩ (k_needDay_no l hlt D cy d s.heap.size hd) (va_cwS 1 hts (gzS (gz q192) q191 q193 q174) rfl rfl rfl vX9_needDay.2 ⟨Nat.le_of_ble_eq_true rfl, Nat.le_of_ble_eq_true rfl⟩) (zpS hK hX hY hP hD hS hA [] (by decide) rfl) rfl rfl hl.1 rfl (lv_room (Nat.le_of_ble_eq_true rfl)) dX9_depth_1 ⟨Nat.le_of_ble_eq_true rfl, Nat.le_of_ble_eq_true rfl⟩) hD hS hA [] rfl hlocks hout (Nat.le_of_ble_eq_true rfl) (Nat.le_of_ble_eq_true rfl)
set_option maxHeartbeats 4000000 in
set_option maxRecDepth 100000 in
/-- hungShare of no day -/
theorem f_hungShare_no (l : Launch) (hlt : l.stackTraces = false) (D : va_G) (cy : Nat → ClassId) (h0 : Nat) (vC : Nat) (vP : Nat) (vT : Nat) (vS : Nat) (vF : Nat) (vN : Nat) (vY : Nat) (d : Int32) (sz : Nat) (hd : zNoDay d) : vx_Met l yX9_hungShare (wz yX9_hungShare cX9_hungShare 2 (some .float)) ({ frames := 7, cells := 1, slots := 6, locals := 102 } : Room) (va_Pc [.ref h0, .int d] (zPre vwCl D cy [(h0, .inr (12, [.ref vC, .ref vP, .ref vT, .ref vS, .ref vF, .ref vN, .ref vY, .int 0]))] sz)) zNo (zXC zE2 (va_A [(h0, .inr (12, [.ref vC, .ref vP, .ref vT, .ref vS, .ref vF, .ref vN, .ref vY, .int 0]))] sz)) 1 6 (va_A [(h0, .inr (12, [.ref vC, .ref vP, .ref vT, .ref vS, .ref vF, .ref vN, .ref vY, .int 0]))] sz) := by
  refine vx_ofW (cc := cX9_hungShare) (maxL := 2) (ret := (some .float)) (by decide) rfl ?_
  intro p e s m args below meth c s₁ B hml hout hv
  obtain ⟨rfl, hsz, hP, hK, hD0, hX, hY⟩ := hv
  have hx := B.exec
  have hb := B.bytes
  have hr := B.returns
  have hts0 := atoms_spec (ws := wz yX9_hungShare cX9_hungShare 2 (some .float)) B.pre
  have hts : ∀ w ∈ wAll, w.before _ s = true := fun w h => hts0 w (List.mem_cons_of_mem _ h)
  have hown : s.vm.findClass RX9 = some m.cls := findClass_of_methodNamed B.named
  have hlocks := B.notSynchronized
  subst hsz
  have hD := hD0.self (sz := s.heap.size)
  generalize hAe : va_A [(h0, .inr (12, [.ref vC, .ref vP, .ref vT, .ref vS, .ref vF, .ref vN, .ref vY, .int 0]))] s.heap.size = A at hD hY ⊢
  have hA : ∀ q : Nat, s.heap.size ≤ q → A q := fun q h => by rw [← hAe]; exact Or.inr h
  have hS : va_S A s.heap s.heap [] := va_S.rf
  have hP : va_P D vwCl [(h0, .inr (12, [.ref vC, .ref vP, .ref vT, .ref vS, .ref vF, .ref vN, .ref vY, .int 0]))] s.heap := hP
  have hl := lv_entry ([.ref h0, .int d]) (n := 2) (Nat.le_of_ble_eq_true rfl)
  rw [lg_entry_eq]
  generalize (lg_sl ([.ref h0, .int d]) ++ List.replicate (2 - (lg_sl ([.ref h0, .int d])).length) Slot.unset).toArray = ls at hl ⊢
  have hl : lv_has ls 2 [(0, .ref h0), (1, .int d)] := hl
  refine z_anyQ (fun Q hQe => ?_)
  refine lv_iload_n hx hb dX9_hungShare_0 rfl (lv_at hl 1 rfl) ?_
  rw [hQe]
  exact zx_thru (wc := []) (vx_runS (As := [.int d]) (rest := []) ⟨hx, hb, hml, hown, hts⟩ (k_needDay_no l hlt D cy d s.heap.size hd) (va_cwS 1 hts (gzS (gz q192) q191 q193 q174) rfl rfl rfl vX9_needDay.2 ⟨Nat.le_of_ble_eq_true rfl, Nat.le_of_ble_eq_true rfl⟩) (zpS hK hX hY hP hD hS hA [] (by decide) rfl) rfl rfl hl.1 rfl (lv_room (Nat.le_of_ble_eq_true rfl)) dX9_hungShare_1 ⟨Nat.le_of_ble_eq_true rfl, Nat.le_of_ble_eq_true rfl⟩) hD hS hA [] rfl hlocks hout (Nat.le_of_ble_eq_true rfl) (Nat.le_of_ble_eq_true rfl)
set_option maxHeartbeats 4000000 in
set_option maxRecDepth 100000 in
/-- isSound of no day -/
theorem f_isSound_no (l : Launch) (hlt : l.stackTraces = false) (D : va_G) (cy : Nat → ClassId) (h0 : Nat) (vC : Nat) (vP : Nat) (vT : Nat) (vS : Nat) (vF : Nat) (vN : Nat) (vY : Nat) (d : Int32) (sz : Nat) (hd : zNoDay d) : vx_Met l yX9_isSound (wz yX9_isSound cX9_isSound 3 (some .boolean)) ({ frames := 7, cells := 1, slots := 6, locals := 102 } : Room) (va_Pc [.ref h0, .int d] (zPre vwCl D cy [(h0, .inr (12, [.ref vC, .ref vP, .ref vT, .ref vS, .ref vF, .ref vN, .ref vY, .int 0]))] sz)) zNo (zXC zE2 (va_A [(h0, .inr (12, [.ref vC, .ref vP, .ref vT, .ref vS, .ref vF, .ref vN, .ref vY, .int 0]))] sz)) 1 6 (va_A [(h0, .inr (12, [.ref vC, .ref vP, .ref vT, .ref vS, .ref vF, .ref vN, .ref vY, .int 0]))] sz) := by
  refine vx_ofW (cc := cX9_isSound) (maxL := 3) (ret := (some .boolean)) (by decide) rfl ?_
  intro p e s m args below meth c s₁ B hml hout hv
  obtain ⟨rfl, hsz, hP, hK, hD0, hX, hY⟩ := hv
  have hx := B.exec
  have hb := B.bytes
  have hr := B.returns
  have hts0 := atoms_spec (ws := wz yX9_isSound cX9_isSound 3 (some .boolean)) B.pre
  have hts : ∀ w ∈ wAll, w.before _ s = true := fun w h => hts0 w (List.mem_cons_of_mem _ h)
  have hown : s.vm.findClass RX9 = some m.cls := findClass_of_methodNamed B.named
  have hlocks := B.notSynchronized
  subst hsz
  have hD := hD0.self (sz := s.heap.size)
  generalize hAe : va_A [(h0, .inr (12, [.ref vC, .ref vP, .ref vT, .ref vS, .ref vF, .ref vN, .ref vY, .int 0]))] s.heap.size = A at hD hY ⊢
  have hA : ∀ q : Nat, s.heap.size ≤ q → A q := fun q h => by rw [← hAe]; exact Or.inr h
  have hS : va_S A s.heap s.heap [] := va_S.rf
  have hP : va_P D vwCl [(h0, .inr (12, [.ref vC, .ref vP, .ref vT, .ref vS, .ref vF, .ref vN, .ref vY, .int 0]))] s.heap := hP
  have hl := lv_entry ([.ref h0, .int d]) (n := 3) (Nat.le_of_ble_eq_true rfl)
  rw [lg_entry_eq]
  generalize (lg_sl ([.ref h0, .int d]) ++ List.replicate (3 - (lg_sl ([.ref h0, .int d])).length) Slot.unset).toArray = ls at hl ⊢
  have hl : lv_has ls 3 [(0, .ref h0), (1, .int d)] := hl
  refine z_anyQ (fun Q hQe => ?_)
  refine lv_iload_n hx hb dX9_isSound_0 rfl (lv_at hl 1 rfl) ?_
  rw [hQe]
  exact zx_thru (wc := []) (vx_runS (As := [.int d]) (rest := []) ⟨hx, hb, hml, hown, hts⟩ (k_needDay_no l hlt D cy d s.heap.size hd) (va_cwS 1 hts (gzS (gz q192) q191 q193 q174) rfl rfl rfl vX9_needDay.2 ⟨Nat.le_of_ble_eq_true rfl, Nat.le_of_ble_eq_true rfl⟩) (zpS hK hX hY hP hD hS hA [] (by decide) rfl) rfl rfl hl.1 rfl (lv_room (Nat.le_of_ble_eq_true rfl)) dX9_isSound_1 ⟨Nat.le_of_ble_eq_true rfl, Nat.le_of_ble_eq_true rfl⟩) hD hS hA [] rfl hlocks hout (Nat.le_of_ble_eq_true rfl) (Nat.le_of_ble_eq_true rfl)
set_option maxHeartbeats 4000000 in
set_option maxRecDepth 100000 in
/-- loops of a day, on a fresh object -/
theorem f_loops_in (l : Launch) (D : va_G) (cy : Nat → ClassId) (h0 : Nat) (vC : Nat) (vP : Nat) (vT : Nat) (vS : Nat) (vF : Nat) (vN : Nat) (vY : Nat) (sS : Nat) (sJ : Nat) (j1 : Nat) (j2 : Nat) (j3 : Nat) (jL : Nat) (p1 : Nat) (p2 : Nat) (p3 : Nat) (p4 : Nat) (p5 : Nat) (p6 : Nat) (p7 : Nat) (p8 : Nat) (d : Int32) (sz : Nat) (hd : zDay d) : Met l yX9_loops (wz yX9_loops cX9_loops 2 (some .int)) ({ frames := 2, cells := 0, slots := 0, locals := 48 } : Room) (va_Pc [.ref h0, .int d] (zPre vwCl D cy [(h0, .inr (12, [.ref vC, .ref vP, .ref vT, .ref vS, .ref vF, .ref vN, .ref vY, .int 0])), (vC, .inr (3, [.ref sS, .ref sJ, .int 0, .int 0])), (sJ, .inr (5, [.ref j1, .ref j2, .ref j3, .ref jL, .int 0])), (jL, .inl (cy 0, 9, .inl (fun _ => 0))), (vP, .inr (7, [.ref vC, .ref p1, .ref p2, .ref p3, .ref p4, .ref p5, .ref p6, .ref p7, .int 0, .long 0, .ref p8, .int 0, .int 0, .long 1])), (p1, .inl (cy 0, 9, .inl (fun _ => 0))), (p2, .inl (cy 2, 9, .inl (fun _ => 0))), (p8, .inl (cy 2, 24, .inl (fun _ => 0)))] sz)) (va_Qi (fun (r : Int32) (_ : Unit) => r = 0) (fun (u : Unit) t => zPost vwCl D (va_A [(h0, .inr (12, [.ref vC, .ref vP, .ref vT, .ref vS, .ref vF, .ref vN, .ref vY, .int 0])), (vC, .inr (3, [.ref sS, .ref sJ, .int 0, .int 0])), (sJ, .inr (5, [.ref j1, .ref j2, .ref j3, .ref jL, .int 0])), (jL, .inl (cy 0, 9, .inl (fun _ => 0))), (vP, .inr (7, [.ref vC, .ref p1, .ref p2, .ref p3, .ref p4, .ref p5, .ref p6, .ref p7, .int 0, .long 0, .ref p8, .int 0, .int 0, .long 1])), (p1, .inl (cy 0, 9, .inl (fun _ => 0))), (p2, .inl (cy 2, 9, .inl (fun _ => 0))), (p8, .inl (cy 2, 24, .inl (fun _ => 0)))] sz) [] t) (va_A [(h0, .inr (12, [.ref vC, .ref vP, .ref vT, .ref vS, .ref vF, .ref vN, .ref vY, .int 0])), (vC, .inr (3, [.ref sS, .ref sJ, .int 0, .int 0])), (sJ, .inr (5, [.ref j1, .ref j2, .ref j3, .ref jL, .int 0])), (jL, .inl (cy 0, 9, .inl (fun _ => 0))), (vP, .inr (7, [.ref vC, .ref p1, .ref p2, .ref p3, .ref p4, .ref p5, .ref p6, .ref p7, .int 0, .long 0, .ref p8, .int 0, .int 0, .long 1])), (p1, .inl (cy 0, 9, .inl (fun _ => 0))), (p2, .inl (cy 2, 9, .inl (fun _ => 0))), (p8, .inl (cy 2, 24, .inl (fun _ => 0)))] sz)) 0 0 (va_A [(h0, .inr (12, [.ref vC, .ref vP, .ref vT, .ref vS, .ref vF, .ref vN, .ref vY, .int 0])), (vC, .inr (3, [.ref sS, .ref sJ, .int 0, .int 0])), (sJ, .inr (5, [.ref j1, .ref j2, .ref j3, .ref jL, .int 0])), (jL, .inl (cy 0, 9, .inl (fun _ => 0))), (vP, .inr (7, [.ref vC, .ref p1, .ref p2, .ref p3, .ref p4, .ref p5, .ref p6, .ref p7, .int 0, .long 0, .ref p8, .int 0, .int 0, .long 1])), (p1, .inl (cy 0, 9, .inl (fun _ => 0))), (p2, .inl (cy 2, 9, .inl (fun _ => 0))), (p8, .inl (cy 2, 24, .inl (fun _ => 0)))] sz) := by
  refine Met.ofW (cc := cX9_loops) (maxL := 2) (ret := (some .int)) (by decide) rfl ?_
  intro p e s m args below meth c s₁ B hml hv
  obtain ⟨rfl, hsz, hP, hK, hD0, hX, hY⟩ := hv
  have hx := B.exec
  have hb := B.bytes
  have hr := B.returns
  have hts0 := atoms_spec (ws := wz yX9_loops cX9_loops 2 (some .int)) B.pre
  have hts : ∀ w ∈ wAll, w.before _ s = true := fun w h => hts0 w (List.mem_cons_of_mem _ h)
  have hown : s.vm.findClass RX9 = some m.cls := findClass_of_methodNamed B.named
  have hlocks := B.notSynchronized
  subst hsz
  have hD := hD0.self (sz := s.heap.size)
  generalize hAe : va_A [(h0, .inr (12, [.ref vC, .ref vP, .ref vT, .ref vS, .ref vF, .ref vN, .ref vY, .int 0])), (vC, .inr (3, [.ref sS, .ref sJ, .int 0, .int 0])), (sJ, .inr (5, [.ref j1, .ref j2, .ref j3, .ref jL, .int 0])), (jL, .inl (cy 0, 9, .inl (fun _ => 0))), (vP, .inr (7, [.ref vC, .ref p1, .ref p2, .ref p3, .ref p4, .ref p5, .ref p6, .ref p7, .int 0, .long 0, .ref p8, .int 0, .int 0, .long 1])), (p1, .inl (cy 0, 9, .inl (fun _ => 0))), (p2, .inl (cy 2, 9, .inl (fun _ => 0))), (p8, .inl (cy 2, 24, .inl (fun _ => 0)))] s.heap.size = A at hD hY ⊢
  have hA : ∀ q : Nat, s.heap.size ≤ q → A q := fun q h => by rw [← hAe]; exact Or.inr h
  have hS : va_S A s.heap s.heap [] := va_S.rf
  have hP : va_P D vwCl [(h0, .inr (12, [.ref vC, .ref vP, .ref vT, .ref vS, .ref vF, .ref vN, .ref vY, .int 0])), (vC, .inr (3, [.ref sS, .ref sJ, .int 0, .int 0])), (sJ, .inr (5, [.ref j1, .ref j2, .ref j3, .ref jL, .int 0])), (jL, .inl (cy 0, 9, .inl (fun _ => 0))), (vP, .inr (7, [.ref vC, .ref p1, .ref p2, .ref p3, .ref p4, .ref p5, .ref p6, .ref p7, .int 0, .long 0, .ref p8, .int 0, .int 0, .long 1])), (p1, .inl (cy 0, 9, .inl (fun _ => 0))), (p2, .inl (cy 2, 9, .inl (fun _ => 0))), (p8, .inl (cy 2, 24, .inl (fun _ => 0)))] s.heap := hP
  have hl := lv_entry ([.ref h0, .int d]) (n := 2) (Nat.le_of_ble_eq_true rfl)
  rw [lg_entry_eq]
  generalize (lg_sl ([.ref h0, .int d]) ++ List.replicate (2 - (lg_sl ([.ref h0, .int d])).length) Slot.unset).toArray = ls at hl ⊢
  have hl : lv_has ls 2 [(0, .ref h0), (1, .int d)] := hl
  refine z_anyQ (fun Q hQe => ?_)
  refine lv_iload_n hx hb dX9_loops_0 rfl (lv_at hl 1 rfl) ?_
  refine zq_v (wc := []) (wr := [(h0, .inr (12, [.ref vC, .ref vP, .ref vT, .ref vS, .ref vF, .ref vN, .ref vY, .int 0])), (vC, .inr (3, [.ref sS, .ref sJ, .int 0, .int 0])), (sJ, .inr (5, [.ref j1, .ref j2, .ref j3, .ref jL, .int 0])), (jL, .inl (cy 0, 9, .inl (fun _ => 0))), (vP, .inr (7, [.ref vC, .ref p1, .ref p2, .ref p3, .ref p4, .ref p5, .ref p6, .ref p7, .int 0, .long 0, .ref p8, .int 0, .int 0, .long 1])), (p1, .inl (cy 0, 9, .inl (fun _ => 0))), (p2, .inl (cy 2, 9, .inl (fun _ => 0))), (p8, .inl (cy 2, 24, .inl (fun _ => 0)))]) (va_runS (As := [.int d]) (rest := []) ⟨hx, hb, hml, hown, hts⟩ (k_needDay_ok l D cy d s.heap.size hd) (va_cwS 1 hts (gzS (gz q192) q191 q193 q174) rfl rfl rfl vX9_needDay.2 ⟨Nat.le_of_ble_eq_true rfl, Nat.le_of_ble_eq_true rfl⟩) (zpS hK hX hY hP hD hS hA [] (by decide) rfl) rfl rfl hl.1 rfl (lv_room (Nat.le_of_ble_eq_true rfl)) dX9_loops_1 ⟨Nat.le_of_ble_eq_true rfl, Nat.le_of_ble_eq_true rfl⟩) hP hD hS hA [] [0, 1, 2, 3, 4, 5, 6, 7] rfl rfl (by decide) (by decide) (fun u1 H locs hw hP hD hS => ?_)
  have hP : va_P D vwCl [(h0, .inr (12, [.ref vC, .ref vP, .ref vT, .ref vS, .ref vF, .ref vN, .ref vY, .int 0])), (vC, .inr (3, [.ref sS, .ref sJ, .int 0, .int 0])), (sJ, .inr (5, [.ref j1, .ref j2, .ref j3, .ref jL, .int 0])), (jL, .inl (cy 0, 9, .inl (fun _ => 0))), (vP, .inr (7, [.ref vC, .ref p1, .ref p2, .ref p3, .ref p4, .ref p5, .ref p6, .ref p7, .int 0, .long 0, .ref p8, .int 0, .int 0, .long 1])), (p1, .inl (cy 0, 9, .inl (fun _ => 0))), (p2, .inl (cy 2, 9, .inl (fun _ => 0))), (p8, .inl (cy 2, 24, .inl (fun _ => 0)))] H := hP
  have hD : va_D A [(h0, .inr (12, [.ref vC, .ref vP, .ref vT, .ref vS, .ref vF, .ref vN, .ref vY, .int 0])), (vC, .inr (3, [.ref sS, .ref sJ, .int 0, .int 0])), (sJ, .inr (5, [.ref j1, .ref j2, .ref j3, .ref jL, .int 0])), (jL, .inl (cy 0, 9, .inl (fun _ => 0))), (vP, .inr (7, [.ref vC, .ref p1, .ref p2, .ref p3, .ref p4, .ref p5, .ref p6, .ref p7, .int 0, .long 0, .ref p8, .int 0, .int 0, .long 1])), (p1, .inl (cy 0, 9, .inl (fun _ => 0))), (p2, .inl (cy 2, 9, .inl (fun _ => 0))), (p8, .inl (cy 2, 24, .inl (fun _ => 0)))] := hD
  refine lv_aload_n hx hb dX9_loops_4 rfl (lv_at hl 0 rfl) ?_
  refine va_get (D := D) (ci := 12) (v := .ref vP) (C := RX9) (T := TX9) (N := 8) hx hb hts iRX9 hown hK hP 0 rfl rfl 1 (by decide) (hts _ q133) (fun _ h9 => h9) rfl dX9_loops_5 ?_
  refine lv_iload_n hx hb dX9_loops_8 rfl (lv_at hl 1 rfl) ?_
  refine lv_iconst (v := (-1)) hx hb dX9_loops_9 (by decide) ?_
  refine zq_v (wc := [(vP, .inr (7, [.ref vC, .ref p1, .ref p2, .ref p3, .ref p4, .ref p5, .ref p6, .ref p7, .int 0, .long 0, .ref p8, .int 0, .int 0, .long 1])), (vC, .inr (3, [.ref sS, .ref sJ, .int 0, .int 0])), (sJ, .inr (5, [.ref j1, .ref j2, .ref j3, .ref jL, .int 0])), (jL, .inl (cy 0, 9, .inl (fun _ => 0))), (p1, .inl (cy 0, 9, .inl (fun _ => 0))), (p2, .inl (cy 2, 9, .inl (fun _ => 0))), (p8, .inl (cy 2, 24, .inl (fun _ => 0)))]) (wr := [(h0, .inr (12, [.ref vC, .ref vP, .ref vT, .ref vS, .ref vF, .ref vN, .ref vY, .int 0]))]) (va_runV (As := [.int d, .int (-1)]) (rest := []) ⟨hx, hb, hml, hown, hts⟩ (k_hang l D cy vP vC p1 p2 p3 p4 p5 p6 p7 p8 0 0 0 0 1 sS sJ j1 j2 j3 jL d (-1) (fun _ => 0) (fun _ => 0) (fun _ => 0) (fun _ => 0) H.size ) (cwV 2 hts (gzV (gz q195) q194 q196 q197 q87) rfl rfl rfl vX4_hang ⟨Nat.le_of_ble_eq_true rfl, Nat.le_of_ble_eq_true rfl⟩) (zpV (ci := 7) (T := TX4) (N := 14) (q0 := 0) hK hX hY hP hD hS hA [4, 1, 2, 3, 5, 6, 7] (by decide) rfl rfl rfl) rfl rfl hl.1 rfl (lv_room (Nat.le_of_ble_eq_true rfl)) dX9_loops_10 ⟨Nat.le_of_ble_eq_true rfl, Nat.le_of_ble_eq_true rfl⟩) hP hD hS hA [4, 1, 2, 3, 5, 6, 7] [0] rfl rfl (by decide) (by decide) (fun u3 H locs hw hP hD hS => ?_)
  have hP : va_P D vwCl [(h0, .inr (12, [.ref vC, .ref vP, .ref vT, .ref vS, .ref vF, .ref vN, .ref vY, .int 0])), (vP, .inr (7, [.ref vC, .ref p1, .ref p2, .ref p3, .ref p4, .ref p5, .ref p6, .ref p7, .int 0, .long 0, .ref p8, .int 0, .int 0, .long 1])), (vC, .inr (3, [.ref sS, .ref sJ, .int 0, .int 0])), (sJ, .inr (5, [.ref j1, .ref j2, .ref j3, .ref jL, .int 0])), (jL, .inl (cy 0, 9, .inl (fun j => nI j))), (p1, .inl (cy 0, 9, .inl (fun j => nI j))), (p2, .inl (cy 2, 9, .inl (fun _ => 0))), (p8, .inl (cy 2, 24, .inl (fun _ => 0)))] H := hP
  have hD : va_D A [(h0, .inr (12, [.ref vC, .ref vP, .ref vT, .ref vS, .ref vF, .ref vN, .ref vY, .int 0])), (vP, .inr (7, [.ref vC, .ref p1, .ref p2, .ref p3, .ref p4, .ref p5, .ref p6, .ref p7, .int 0, .long 0, .ref p8, .int 0, .int 0, .long 1])), (vC, .inr (3, [.ref sS, .ref sJ, .int 0, .int 0])), (sJ, .inr (5, [.ref j1, .ref j2, .ref j3, .ref jL, .int 0])), (jL, .inl (cy 0, 9, .inl (fun j => nI j))), (p1, .inl (cy 0, 9, .inl (fun j => nI j))), (p2, .inl (cy 2, 9, .inl (fun _ => 0))), (p8, .inl (cy 2, 24, .inl (fun _ => 0)))] := hD
  refine lv_aload_n hx hb dX9_loops_13 rfl (lv_at hl 0 rfl) ?_
  refine va_get (D := D) (ci := 12) (v := .ref vP) (C := RX9) (T := TX9) (N := 8) hx hb hts iRX9 hown hK hP 0 rfl rfl 1 (by decide) (hts _ q133) (fun _ h9 => h9) rfl dX9_loops_14 ?_
  refine va_get (D := D) (ci := 7) (v := .int 0) (C := RX4) (T := TX4) (N := 14) hx hb hts iRX4 hown hK hP 1 rfl rfl 12 (by decide) (hts _ q198) (fun _ h9 => h9) rfl dX9_loops_17 ?_
  refine lv_aload_n hx hb dX9_loops_20 rfl (lv_at hl 0 rfl) ?_
  refine va_get (D := D) (ci := 12) (v := .ref vP) (C := RX9) (T := TX9) (N := 8) hx hb hts iRX9 hown hK hP 0 rfl rfl 1 (by decide) (hts _ q133) (fun _ h9 => h9) rfl dX9_loops_21 ?_
  refine zq_i (wc := [(vP, .inr (7, [.ref vC, .ref p1, .ref p2, .ref p3, .ref p4, .ref p5, .ref p6, .ref p7, .int 0, .long 0, .ref p8, .int 0, .int 0, .long 1]))]) (wr := [(h0, .inr (12, [.ref vC, .ref vP, .ref vT, .ref vS, .ref vF, .ref vN, .ref vY, .int 0])), (vC, .inr (3, [.ref sS, .ref sJ, .int 0, .int 0])), (sJ, .inr (5, [.ref j1, .ref j2, .ref j3, .ref jL, .int 0])), (jL, .inl (cy 0, 9, .inl (fun j => nI j))), (p1, .inl (cy 0, 9, .inl (fun j => nI j))), (p2, .inl (cy 2, 9, .inl (fun _ => 0))), (p8, .inl (cy 2, 24, .inl (fun _ => 0)))]) (va_runV (As := []) (rest := [.int 0]) ⟨hx, hb, hml, hown, hts⟩ (k_unknowns l D cy vP vC p1 p2 p3 p4 p5 p6 p7 p8 0 0 0 1 H.size ) (cwV 0 hts (gzV (gz q98) q199 q99 q100 q87) rfl rfl rfl vX4_unknowns ⟨Nat.le_of_ble_eq_true rfl, Nat.le_of_ble_eq_true rfl⟩) (zpV (ci := 7) (T := TX4) (N := 14) (q0 := 0) hK hX hY hP hD hS hA [1] (by decide) rfl rfl rfl) rfl rfl hl.1 rfl (lv_room (Nat.le_of_ble_eq_true rfl)) dX9_loops_24 ⟨Nat.le_of_ble_eq_true rfl, Nat.le_of_ble_eq_true rfl⟩) hP hD hS hA [1] [0, 2, 3, 4, 5, 6, 7] rfl rfl (by decide) (by decide) (fun x6 u5 H locs hw hP hD hS => ?_)
  obtain rfl : x6 = 0 := hw
  have hP : va_P D vwCl [(h0, .inr (12, [.ref vC, .ref vP, .ref vT, .ref vS, .ref vF, .ref vN, .ref vY, .int 0])), (vC, .inr (3, [.ref sS, .ref sJ, .int 0, .int 0])), (sJ, .inr (5, [.ref j1, .ref j2, .ref j3, .ref jL, .int 0])), (jL, .inl (cy 0, 9, .inl (fun j => nI j))), (p1, .inl (cy 0, 9, .inl (fun j => nI j))), (p2, .inl (cy 2, 9, .inl (fun _ => 0))), (p8, .inl (cy 2, 24, .inl (fun _ => 0))), (vP, .inr (7, [.ref vC, .ref p1, .ref p2, .ref p3, .ref p4, .ref p5, .ref p6, .ref p7, .int 0, .long 0, .ref p8, .int 0, .int 0, .long 1]))] H := hP
  have hD : va_D A [(h0, .inr (12, [.ref vC, .ref vP, .ref vT, .ref vS, .ref vF, .ref vN, .ref vY, .int 0])), (vC, .inr (3, [.ref sS, .ref sJ, .int 0, .int 0])), (sJ, .inr (5, [.ref j1, .ref j2, .ref j3, .ref jL, .int 0])), (jL, .inl (cy 0, 9, .inl (fun j => nI j))), (p1, .inl (cy 0, 9, .inl (fun j => nI j))), (p2, .inl (cy 2, 9, .inl (fun _ => 0))), (p8, .inl (cy 2, 24, .inl (fun _ => 0))), (vP, .inr (7, [.ref vC, .ref p1, .ref p2, .ref p3, .ref p4, .ref p5, .ref p6, .ref p7, .int 0, .long 0, .ref p8, .int 0, .int 0, .long 1]))] := hD
  refine lv_isub hx hb dX9_loops_27 ?_
  refine lv_topi (fun y7 ey7 => ?_)
  obtain rfl : y7 = 0 := ey7.trans (by decide +kernel)
  have hP9 := hP.sub (ws' := []) [] rfl
  have hD9 := hD.sub (ws' := []) [] (by decide) rfl
  refine W.widen (k := 0) (n := 0) (Nat.le_of_ble_eq_true rfl) (Nat.le_of_ble_eq_true rfl) ?_
  rw [hQe]
  exact W.iret (v := 0) hx hb hr (fun t ht hW => ⟨⟨0, (), rfl, rfl, ⟨by rw [ht]; exact hP9, hD9⟩⟩, hS.F ht⟩) hS.2.2 dX9_loops_28
set_option maxHeartbeats 4000000 in
set_option maxRecDepth 100000 in
/-- length of a day, on a fresh object -/
theorem f_length_in (l : Launch) (D : va_G) (cy : Nat → ClassId) (h0 : Nat) (vC : Nat) (vP : Nat) (vT : Nat) (vS : Nat) (vF : Nat) (vN : Nat) (vY : Nat) (sS : Nat) (sJ : Nat) (j1 : Nat) (j2 : Nat) (j3 : Nat) (jL : Nat) (p1 : Nat) (p2 : Nat) (p3 : Nat) (p4 : Nat) (p5 : Nat) (p6 : Nat) (p7 : Nat) (p8 : Nat) (d : Int32) (sz : Nat) (hd : zDay d) : Met l yX9_length (wz yX9_length cX9_length 4 (some .int)) ({ frames := 2, cells := 0, slots := 0, locals := 48 } : Room) (va_Pc [.ref h0, .int d] (zPre vwCl D cy [(h0, .inr (12, [.ref vC, .ref vP, .ref vT, .ref vS, .ref vF, .ref vN, .ref vY, .int 0])), (vC, .inr (3, [.ref sS, .ref sJ, .int 0, .int 0])), (sJ, .inr (5, [.ref j1, .ref j2, .ref j3, .ref jL, .int 0])), (jL, .inl (cy 0, 9, .inl (fun _ => 0))), (vP, .inr (7, [.ref vC, .ref p1, .ref p2, .ref p3, .ref p4, .ref p5, .ref p6, .ref p7, .int 0, .long 0, .ref p8, .int 0, .int 0, .long 1])), (p1, .inl (cy 0, 9, .inl (fun _ => 0))), (p2, .inl (cy 2, 9, .inl (fun _ => 0))), (p8, .inl (cy 2, 24, .inl (fun _ => 0)))] sz)) (va_Qi (fun (r : Int32) (_ : Unit) => r = 0) (fun (u : Unit) t => zPost vwCl D (va_A [(h0, .inr (12, [.ref vC, .ref vP, .ref vT, .ref vS, .ref vF, .ref vN, .ref vY, .int 0])), (vC, .inr (3, [.ref sS, .ref sJ, .int 0, .int 0])), (sJ, .inr (5, [.ref j1, .ref j2, .ref j3, .ref jL, .int 0])), (jL, .inl (cy 0, 9, .inl (fun _ => 0))), (vP, .inr (7, [.ref vC, .ref p1, .ref p2, .ref p3, .ref p4, .ref p5, .ref p6, .ref p7, .int 0, .long 0, .ref p8, .int 0, .int 0, .long 1])), (p1, .inl (cy 0, 9, .inl (fun _ => 0))), (p2, .inl (cy 2, 9, .inl (fun _ => 0))), (p8, .inl (cy 2, 24, .inl (fun _ => 0)))] sz) [] t) (va_A [(h0, .inr (12, [.ref vC, .ref vP, .ref vT, .ref vS, .ref vF, .ref vN, .ref vY, .int 0])), (vC, .inr (3, [.ref sS, .ref sJ, .int 0, .int 0])), (sJ, .inr (5, [.ref j1, .ref j2, .ref j3, .ref jL, .int 0])), (jL, .inl (cy 0, 9, .inl (fun _ => 0))), (vP, .inr (7, [.ref vC, .ref p1, .ref p2, .ref p3, .ref p4, .ref p5, .ref p6, .ref p7, .int 0, .long 0, .ref p8, .int 0, .int 0, .long 1])), (p1, .inl (cy 0, 9, .inl (fun _ => 0))), (p2, .inl (cy 2, 9, .inl (fun _ => 0))), (p8, .inl (cy 2, 24, .inl (fun _ => 0)))] sz)) 0 0 (va_A [(h0, .inr (12, [.ref vC, .ref vP, .ref vT, .ref vS, .ref vF, .ref vN, .ref vY, .int 0])), (vC, .inr (3, [.ref sS, .ref sJ, .int 0, .int 0])), (sJ, .inr (5, [.ref j1, .ref j2, .ref j3, .ref jL, .int 0])), (jL, .inl (cy 0, 9, .inl (fun _ => 0))), (vP, .inr (7, [.ref vC, .ref p1, .ref p2, .ref p3, .ref p4, .ref p5, .ref p6, .ref p7, .int 0, .long 0, .ref p8, .int 0, .int 0, .long 1])), (p1, .inl (cy 0, 9, .inl (fun _ => 0))), (p2, .inl (cy 2, 9, .inl (fun _ => 0))), (p8, .inl (cy 2, 24, .inl (fun _ => 0)))] sz) := by
  refine Met.ofW (cc := cX9_length) (maxL := 4) (ret := (some .int)) (by decide) rfl ?_
  intro p e s m args below meth c s₁ B hml hv
  obtain ⟨rfl, hsz, hP, hK, hD0, hX, hY⟩ := hv
  have hx := B.exec
  have hb := B.bytes
  have hr := B.returns
  have hts0 := atoms_spec (ws := wz yX9_length cX9_length 4 (some .int)) B.pre
  have hts : ∀ w ∈ wAll, w.before _ s = true := fun w h => hts0 w (List.mem_cons_of_mem _ h)
  have hown : s.vm.findClass RX9 = some m.cls := findClass_of_methodNamed B.named
  have hlocks := B.notSynchronized
  subst hsz
  have hD := hD0.self (sz := s.heap.size)
  generalize hAe : va_A [(h0, .inr (12, [.ref vC, .ref vP, .ref vT, .ref vS, .ref vF, .ref vN, .ref vY, .int 0])), (vC, .inr (3, [.ref sS, .ref sJ, .int 0, .int 0])), (sJ, .inr (5, [.ref j1, .ref j2, .ref j3, .ref jL, .int 0])), (jL, .inl (cy 0, 9, .inl (fun _ => 0))), (vP, .inr (7, [.ref vC, .ref p1, .ref p2, .ref p3, .ref p4, .ref p5, .ref p6, .ref p7, .int 0, .long 0, .ref p8, .int 0, .int 0, .long 1])), (p1, .inl (cy 0, 9, .inl (fun _ => 0))), (p2, .inl (cy 2, 9, .inl (fun _ => 0))), (p8, .inl (cy 2, 24, .inl (fun _ => 0)))] s.heap.size = A at hD hY ⊢
  have hA : ∀ q : Nat, s.heap.size ≤ q → A q := fun q h => by rw [← hAe]; exact Or.inr h
  have hS : va_S A s.heap s.heap [] := va_S.rf
  have hP : va_P D vwCl [(h0, .inr (12, [.ref vC, .ref vP, .ref vT, .ref vS, .ref vF, .ref vN, .ref vY, .int 0])), (vC, .inr (3, [.ref sS, .ref sJ, .int 0, .int 0])), (sJ, .inr (5, [.ref j1, .ref j2, .ref j3, .ref jL, .int 0])), (jL, .inl (cy 0, 9, .inl (fun _ => 0))), (vP, .inr (7, [.ref vC, .ref p1, .ref p2, .ref p3, .ref p4, .ref p5, .ref p6, .ref p7, .int 0, .long 0, .ref p8, .int 0, .int 0, .long 1])), (p1, .inl (cy 0, 9, .inl (fun _ => 0))), (p2, .inl (cy 2, 9, .inl (fun _ => 0))), (p8, .inl (cy 2, 24, .inl (fun _ => 0)))] s.heap := hP
  have hl := lv_entry ([.ref h0, .int d]) (n := 4) (Nat.le_of_ble_eq_true rfl)
  rw [lg_entry_eq]
  generalize (lg_sl ([.ref h0, .int d]) ++ List.replicate (4 - (lg_sl ([.ref h0, .int d])).length) Slot.unset).toArray = ls at hl ⊢
  have hl : lv_has ls 4 [(0, .ref h0), (1, .int d)] := hl
  refine z_anyQ (fun Q hQe => ?_)
  refine lv_iload_n hx hb dX9_length_0 rfl (lv_at hl 1 rfl) ?_
  refine zq_v (wc := []) (wr := [(h0, .inr (12, [.ref vC, .ref vP, .ref vT, .ref vS, .ref vF, .ref vN, .ref vY, .int 0])), (vC, .inr (3, [.ref sS, .ref sJ, .int 0, .int 0])), (sJ, .inr (5, [.ref j1, .ref j2, .ref j3, .ref jL, .int 0])), (jL, .inl (cy 0, 9, .inl (fun _ => 0))), (vP, .inr (7, [.ref vC, .ref p1, .ref p2, .ref p3, .ref p4, .ref p5, .ref p6, .ref p7, .int 0, .long 0, .ref p8, .int 0, .int 0, .long 1])), (p1, .inl (cy 0, 9, .inl (fun _ => 0))), (p2, .inl (cy 2, 9, .inl (fun _ => 0))), (p8, .inl (cy 2, 24, .inl (fun _ => 0)))]) (va_runS (As := [.int d]) (rest := []) ⟨hx, hb, hml, hown, hts⟩ (k_needDay_ok l D cy d s.heap.size hd) (va_cwS 1 hts (gzS (gz q192) q191 q193 q174) rfl rfl rfl vX9_needDay.2 ⟨Nat.le_of_ble_eq_true rfl, Nat.le_of_ble_eq_true rfl⟩) (zpS hK hX hY hP hD hS hA [] (by decide) rfl) rfl rfl hl.1 rfl (lv_room (Nat.le_of_ble_eq_true rfl)) dX9_length_1 ⟨Nat.le_of_ble_eq_true rfl, Nat.le_of_ble_eq_true rfl⟩) hP hD hS hA [] [0, 1, 2, 3, 4, 5, 6, 7] rfl rfl (by decide) (by decide) (fun u1 H locs hw hP hD hS => ?_)
  have hP : va_P D vwCl [(h0, .inr (12, [.ref vC, .ref vP, .ref vT, .ref vS, .ref vF, .ref vN, .ref vY, .int 0])), (vC, .inr (3, [.ref sS, .ref sJ, .int 0, .int 0])), (sJ, .inr (5, [.ref j1, .ref j2, .ref j3, .ref jL, .int 0])), (jL, .inl (cy 0, 9, .inl (fun _ => 0))), (vP, .inr (7, [.ref vC, .ref p1, .ref p2, .ref p3, .ref p4, .ref p5, .ref p6, .ref p7, .int 0, .long 0, .ref p8, .int 0, .int 0, .long 1])), (p1, .inl (cy 0, 9, .inl (fun _ => 0))), (p2, .inl (cy 2, 9, .inl (fun _ => 0))), (p8, .inl (cy 2, 24, .inl (fun _ => 0)))] H := hP
  have hD : va_D A [(h0, .inr (12, [.ref vC, .ref vP, .ref vT, .ref vS, .ref vF, .ref vN, .ref vY, .int 0])), (vC, .inr (3, [.ref sS, .ref sJ, .int 0, .int 0])), (sJ, .inr (5, [.ref j1, .ref j2, .ref j3, .ref jL, .int 0])), (jL, .inl (cy 0, 9, .inl (fun _ => 0))), (vP, .inr (7, [.ref vC, .ref p1, .ref p2, .ref p3, .ref p4, .ref p5, .ref p6, .ref p7, .int 0, .long 0, .ref p8, .int 0, .int 0, .long 1])), (p1, .inl (cy 0, 9, .inl (fun _ => 0))), (p2, .inl (cy 2, 9, .inl (fun _ => 0))), (p8, .inl (cy 2, 24, .inl (fun _ => 0)))] := hD
  refine lv_aload_n hx hb dX9_length_4 rfl (lv_at hl 0 rfl) ?_
  refine va_get (D := D) (ci := 12) (v := .ref vP) (C := RX9) (T := TX9) (N := 8) hx hb hts iRX9 hown hK hP 0 rfl rfl 1 (by decide) (hts _ q133) (fun _ h9 => h9) rfl dX9_length_5 ?_
  refine lv_iload_n hx hb dX9_length_8 rfl (lv_at hl 1 rfl) ?_
  refine lv_iconst (v := (-1)) hx hb dX9_length_9 (by decide) ?_
  refine zq_v (wc := [(vP, .inr (7, [.ref vC, .ref p1, .ref p2, .ref p3, .ref p4, .ref p5, .ref p6, .ref p7, .int 0, .long 0, .ref p8, .int 0, .int 0, .long 1])), (vC, .inr (3, [.ref sS, .ref sJ, .int 0, .int 0])), (sJ, .inr (5, [.ref j1, .ref j2, .ref j3, .ref jL, .int 0])), (jL, .inl (cy 0, 9, .inl (fun _ => 0))), (p1, .inl (cy 0, 9, .inl (fun _ => 0))), (p2, .inl (cy 2, 9, .inl (fun _ => 0))), (p8, .inl (cy 2, 24, .inl (fun _ => 0)))]) (wr := [(h0, .inr (12, [.ref vC, .ref vP, .ref vT, .ref vS, .ref vF, .ref vN, .ref vY, .int 0]))]) (va_runV (As := [.int d, .int (-1)]) (rest := []) ⟨hx, hb, hml, hown, hts⟩ (k_hang l D cy vP vC p1 p2 p3 p4 p5 p6 p7 p8 0 0 0 0 1 sS sJ j1 j2 j3 jL d (-1) (fun _ => 0) (fun _ => 0) (fun _ => 0) (fun _ => 0) H.size ) (cwV 2 hts (gzV (gz q195) q194 q196 q197 q87) rfl rfl rfl vX4_hang ⟨Nat.le_of_ble_eq_true rfl, Nat.le_of_ble_eq_true rfl⟩) (zpV (ci := 7) (T := TX4) (N := 14) (q0 := 0) hK hX hY hP hD hS hA [4, 1, 2, 3, 5, 6, 7] (by decide) rfl rfl rfl) rfl rfl hl.1 rfl (lv_room (Nat.le_of_ble_eq_true rfl)) dX9_length_10 ⟨Nat.le_of_ble_eq_true rfl, Nat.le_of_ble_eq_true rfl⟩) hP hD hS hA [4, 1, 2, 3, 5, 6, 7] [0] rfl rfl (by decide) (by decide) (fun u3 H locs hw hP hD hS => ?_)
  have hP : va_P D vwCl [(h0, .inr (12, [.ref vC, .ref vP, .ref vT, .ref vS, .ref vF, .ref vN, .ref vY, .int 0])), (vP, .inr (7, [.ref vC, .ref p1, .ref p2, .ref p3, .ref p4, .ref p5, .ref p6, .ref p7, .int 0, .long 0, .ref p8, .int 0, .int 0, .long 1])), (vC, .inr (3, [.ref sS, .ref sJ, .int 0, .int 0])), (sJ, .inr (5, [.ref j1, .ref j2, .ref j3, .ref jL, .int 0])), (jL, .inl (cy 0, 9, .inl (fun j => nI j))), (p1, .inl (cy 0, 9, .inl (fun j => nI j))), (p2, .inl (cy 2, 9, .inl (fun _ => 0))), (p8, .inl (cy 2, 24, .inl (fun _ => 0)))] H := hP
  have hD : va_D A [(h0, .inr (12, [.ref vC, .ref vP, .ref vT, .ref vS, .ref vF, .ref vN, .ref vY, .int 0])), (vP, .inr (7, [.ref vC, .ref p1, .ref p2, .ref p3, .ref p4, .ref p5, .ref p6, .ref p7, .int 0, .long 0, .ref p8, .int 0, .int 0, .long 1])), (vC, .inr (3, [.ref sS, .ref sJ, .int 0, .int 0])), (sJ, .inr (5, [.ref j1, .ref j2, .ref j3, .ref jL, .int 0])), (jL, .inl (cy 0, 9, .inl (fun j => nI j))), (p1, .inl (cy 0, 9, .inl (fun j => nI j))), (p2, .inl (cy 2, 9, .inl (fun _ => 0))), (p8, .inl (cy 2, 24, .inl (fun _ => 0)))] := hD
  refine lv_iconst (v := 0) hx hb dX9_length_13 (by decide) ?_
  refine lv_istore_n (lv' := [(2, .int 0), (0, .ref h0), (1, .int d)]) hx hb dX9_length_14 rfl hl (by decide) rfl (fun ls hl => ?_)
  refine lv_iconst (v := 0) hx hb dX9_length_15 (by decide) ?_
  refine lv_istore_n (lv' := [(3, .int 0), (2, .int 0), (0, .ref h0), (1, .int d)]) hx hb dX9_length_16 rfl hl (by decide) rfl (fun ls hl => ?_)
  refine lv_iload_n hx hb dX9_length_17 rfl (lv_at hl 0 rfl) ?_
  refine lv_aload_n hx hb dX9_length_18 rfl (lv_at hl 2 rfl) ?_
  refine va_get (D := D) (ci := 12) (v := .ref vC) (C := RX9) (T := TX9) (N := 8) hx hb hts iRX9 hown hK hP 0 rfl rfl 0 (by decide) (hts _ q127) (fun _ h9 => h9) rfl dX9_length_19 ?_
  refine va_get (D := D) (ci := 3) (v := .int 0) (C := RX0) (T := TX0) (N := 4) hx hb hts iRX0 hown hK hP 2 rfl rfl 3 (by decide) (hts _ q166) (fun _ h9 => h9) rfl dX9_length_22 ?_
  refine lv_icmp_ge (tgt := 61) hx hb dX9_length_25 (by decide) (fun _ => ?_) (fun c_25_4 => absurd (by decide +kernel) c_25_4)
  refine lv_iload_n hx hb dX9_length_61 rfl (lv_at hl 1 rfl) ?_
  have hP9 := hP.sub (ws' := []) [] rfl
  have hD9 := hD.sub (ws' := []) [] (by decide) rfl
  refine W.widen (k := 0) (n := 0) (Nat.le_of_ble_eq_true rfl) (Nat.le_of_ble_eq_true rfl) ?_
  rw [hQe]
  exact W.iret (v := 0) hx hb hr (fun t ht hW => ⟨⟨0, (), rfl, rfl, ⟨by rw [ht]; exact hP9, hD9⟩⟩, hS.F ht⟩) hS.2.2 dX9_length_62
set_option maxHeartbeats 4000000 in
set_option maxRecDepth 100000 in
/-- no faults -/
theorem f_allFaults_in (l : Launch) (D : va_G) (cy : Nat → ClassId) (h0 : Nat) (vC : Nat) (vP : Nat) (vT : Nat) (vS : Nat) (vF : Nat) (vN : Nat) (vY : Nat) (sS : Nat) (sJ : Nat) (j1 : Nat) (j2 : Nat) (j3 : Nat) (jL : Nat) (p1 : Nat) (p2 : Nat) (p3 : Nat) (p4 : Nat) (p5 : Nat) (p6 : Nat) (p7 : Nat) (p8 : Nat) (rn : Nat → Nat) (rt : Nat → Nat) (d : Int32) (sz : Nat) (hd : zDay d) : Met l yX9_allFaults (wz yX9_allFaults cX9_allFaults 2 (some .long)) ({ frames := 4, cells := 0, slots := 0, locals := 85 } : Room) (va_Pc [.ref h0, .int d] (zPre vwCl D cy [(h0, .inr (12, [.ref vC, .ref vP, .ref vT, .ref vS, .ref vF, .ref vN, .ref vY, .int 0])), (vC, .inr (3, [.ref sS, .ref sJ, .int 0, .int 0])), (sJ, .inr (5, [.ref j1, .ref j2, .ref j3, .ref jL, .int 0])), (jL, .inl (cy 0, 9, .inl (fun _ => 0))), (vP, .inr (7, [.ref vC, .ref p1, .ref p2, .ref p3, .ref p4, .ref p5, .ref p6, .ref p7, .int 0, .long 0, .ref p8, .int 0, .int 0, .long 1])), (p1, .inl (cy 0, 9, .inl (fun _ => 0))), (p2, .inl (cy 2, 9, .inl (fun _ => 0))), (p8, .inl (cy 2, 24, .inl (fun _ => 0))), (p3, .inl (cy 0, 9, .inl (fun _ => 0))), (p4, .inl (cy 3, 8, .inr (.inr (.inr (.inr (fun k9 => if k9 < 8 then some (rn k9) else none)))))), ((rn 0), .inl (cy 1, 11, .inr (.inl (fun _ => 0)))), ((rn 1), .inl (cy 1, 11, .inr (.inl (fun _ => 0)))), ((rn 2), .inl (cy 1, 11, .inr (.inl (fun _ => 0)))), ((rn 3), .inl (cy 1, 11, .inr (.inl (fun _ => 0)))), ((rn 4), .inl (cy 1, 11, .inr (.inl (fun _ => 0)))), ((rn 5), .inl (cy 1, 11, .inr (.inl (fun _ => 0)))), ((rn 6), .inl (cy 1, 11, .inr (.inl (fun _ => 0)))), ((rn 7), .inl (cy 1, 11, .inr (.inl (fun _ => 0)))), (p5, .inl (cy 3, 9, .inr (.inr (.inr (.inr (fun k9 => if k9 < 9 then some (rt k9) else none)))))), ((rt 0), .inl (cy 1, 3, .inr (.inl (fun _ => 0)))), ((rt 1), .inl (cy 1, 3, .inr (.inl (fun _ => 0)))), ((rt 2), .inl (cy 1, 3, .inr (.inl (fun _ => 0)))), ((rt 3), .inl (cy 1, 3, .inr (.inl (fun _ => 0)))), ((rt 4), .inl (cy 1, 3, .inr (.inl (fun _ => 0)))), ((rt 5), .inl (cy 1, 3, .inr (.inl (fun _ => 0)))), ((rt 6), .inl (cy 1, 3, .inr (.inl (fun _ => 0)))), ((rt 7), .inl (cy 1, 3, .inr (.inl (fun _ => 0)))), ((rt 8), .inl (cy 1, 3, .inr (.inl (fun _ => 0))))] sz)) (va_Ql (fun (r : Int64) (_ : Unit) => r = 0) (fun (u : Unit) t => zPost vwCl D (va_A [(h0, .inr (12, [.ref vC, .ref vP, .ref vT, .ref vS, .ref vF, .ref vN, .ref vY, .int 0])), (vC, .inr (3, [.ref sS, .ref sJ, .int 0, .int 0])), (sJ, .inr (5, [.ref j1, .ref j2, .ref j3, .ref jL, .int 0])), (jL, .inl (cy 0, 9, .inl (fun _ => 0))), (vP, .inr (7, [.ref vC, .ref p1, .ref p2, .ref p3, .ref p4, .ref p5, .ref p6, .ref p7, .int 0, .long 0, .ref p8, .int 0, .int 0, .long 1])), (p1, .inl (cy 0, 9, .inl (fun _ => 0))), (p2, .inl (cy 2, 9, .inl (fun _ => 0))), (p8, .inl (cy 2, 24, .inl (fun _ => 0))), (p3, .inl (cy 0, 9, .inl (fun _ => 0))), (p4, .inl (cy 3, 8, .inr (.inr (.inr (.inr (fun k9 => if k9 < 8 then some (rn k9) else none)))))), ((rn 0), .inl (cy 1, 11, .inr (.inl (fun _ => 0)))), ((rn 1), .inl (cy 1, 11, .inr (.inl (fun _ => 0)))), ((rn 2), .inl (cy 1, 11, .inr (.inl (fun _ => 0)))), ((rn 3), .inl (cy 1, 11, .inr (.inl (fun _ => 0)))), ((rn 4), .inl (cy 1, 11, .inr (.inl (fun _ => 0)))), ((rn 5), .inl (cy 1, 11, .inr (.inl (fun _ => 0)))), ((rn 6), .inl (cy 1, 11, .inr (.inl (fun _ => 0)))), ((rn 7), .inl (cy 1, 11, .inr (.inl (fun _ => 0)))), (p5, .inl (cy 3, 9, .inr (.inr (.inr (.inr (fun k9 => if k9 < 9 then some (rt k9) else none)))))), ((rt 0), .inl (cy 1, 3, .inr (.inl (fun _ => 0)))), ((rt 1), .inl (cy 1, 3, .inr (.inl (fun _ => 0)))), ((rt 2), .inl (cy 1, 3, .inr (.inl (fun _ => 0)))), ((rt 3), .inl (cy 1, 3, .inr (.inl (fun _ => 0)))), ((rt 4), .inl (cy 1, 3, .inr (.inl (fun _ => 0)))), ((rt 5), .inl (cy 1, 3, .inr (.inl (fun _ => 0)))), ((rt 6), .inl (cy 1, 3, .inr (.inl (fun _ => 0)))), ((rt 7), .inl (cy 1, 3, .inr (.inl (fun _ => 0)))), ((rt 8), .inl (cy 1, 3, .inr (.inl (fun _ => 0))))] sz) [] t) (va_A [(h0, .inr (12, [.ref vC, .ref vP, .ref vT, .ref vS, .ref vF, .ref vN, .ref vY, .int 0])), (vC, .inr (3, [.ref sS, .ref sJ, .int 0, .int 0])), (sJ, .inr (5, [.ref j1, .ref j2, .ref j3, .ref jL, .int 0])), (jL, .inl (cy 0, 9, .inl (fun _ => 0))), (vP, .inr (7, [.ref vC, .ref p1, .ref p2, .ref p3, .ref p4, .ref p5, .ref p6, .ref p7, .int 0, .long 0, .ref p8, .int 0, .int 0, .long 1])), (p1, .inl (cy 0, 9, .inl (fun _ => 0))), (p2, .inl (cy 2, 9, .inl (fun _ => 0))), (p8, .inl (cy 2, 24, .inl (fun _ => 0))), (p3, .inl (cy 0, 9, .inl (fun _ => 0))), (p4, .inl (cy 3, 8, .inr (.inr (.inr (.inr (fun k9 => if k9 < 8 then some (rn k9) else none)))))), ((rn 0), .inl (cy 1, 11, .inr (.inl (fun _ => 0)))), ((rn 1), .inl (cy 1, 11, .inr (.inl (fun _ => 0)))), ((rn 2), .inl (cy 1, 11, .inr (.inl (fun _ => 0)))), ((rn 3), .inl (cy 1, 11, .inr (.inl (fun _ => 0)))), ((rn 4), .inl (cy 1, 11, .inr (.inl (fun _ => 0)))), ((rn 5), .inl (cy 1, 11, .inr (.inl (fun _ => 0)))), ((rn 6), .inl (cy 1, 11, .inr (.inl (fun _ => 0)))), ((rn 7), .inl (cy 1, 11, .inr (.inl (fun _ => 0)))), (p5, .inl (cy 3, 9, .inr (.inr (.inr (.inr (fun k9 => if k9 < 9 then some (rt k9) else none)))))), ((rt 0), .inl (cy 1, 3, .inr (.inl (fun _ => 0)))), ((rt 1), .inl (cy 1, 3, .inr (.inl (fun _ => 0)))), ((rt 2), .inl (cy 1, 3, .inr (.inl (fun _ => 0)))), ((rt 3), .inl (cy 1, 3, .inr (.inl (fun _ => 0)))), ((rt 4), .inl (cy 1, 3, .inr (.inl (fun _ => 0)))), ((rt 5), .inl (cy 1, 3, .inr (.inl (fun _ => 0)))), ((rt 6), .inl (cy 1, 3, .inr (.inl (fun _ => 0)))), ((rt 7), .inl (cy 1, 3, .inr (.inl (fun _ => 0)))), ((rt 8), .inl (cy 1, 3, .inr (.inl (fun _ => 0))))] sz)) 0 0 (va_A [(h0, .inr (12, [.ref vC, .ref vP, .ref vT, .ref vS, .ref vF, .ref vN, .ref vY, .int 0])), (vC, .inr (3, [.ref sS, .ref sJ, .int 0, .int 0])), (sJ, .inr (5, [.ref j1, .ref j2, .ref j3, .ref jL, .int 0])), (jL, .inl (cy 0, 9, .inl (fun _ => 0))), (vP, .inr (7, [.ref vC, .ref p1, .ref p2, .ref p3, .ref p4, .ref p5, .ref p6, .ref p7, .int 0, .long 0, .ref p8, .int 0, .int 0, .long 1])), (p1, .inl (cy 0, 9, .inl (fun _ => 0))), (p2, .inl (cy 2, 9, .inl (fun _ => 0))), (p8, .inl (cy 2, 24, .inl (fun _ => 0))), (p3, .inl (cy 0, 9, .inl (fun _ => 0))), (p4, .inl (cy 3, 8, .inr (.inr (.inr (.inr (fun k9 => if k9 < 8 then some (rn k9) else none)))))), ((rn 0), .inl (cy 1, 11, .inr (.inl (fun _ => 0)))), ((rn 1), .inl (cy 1, 11, .inr (.inl (fun _ => 0)))), ((rn 2), .inl (cy 1, 11, .inr (.inl (fun _ => 0)))), ((rn 3), .inl (cy 1, 11, .inr (.inl (fun _ => 0)))), ((rn 4), .inl (cy 1, 11, .inr (.inl (fun _ => 0)))), ((rn 5), .inl (cy 1, 11, .inr (.inl (fun _ => 0)))), ((rn 6), .inl (cy 1, 11, .inr (.inl (fun _ => 0)))), ((rn 7), .inl (cy 1, 11, .inr (.inl (fun _ => 0)))), (p5, .inl (cy 3, 9, .inr (.inr (.inr (.inr (fun k9 => if k9 < 9 then some (rt k9) else none)))))), ((rt 0), .inl (cy 1, 3, .inr (.inl (fun _ => 0)))), ((rt 1), .inl (cy 1, 3, .inr (.inl (fun _ => 0)))), ((rt 2), .inl (cy 1, 3, .inr (.inl (fun _ => 0)))), ((rt 3), .inl (cy 1, 3, .inr (.inl (fun _ => 0)))), ((rt 4), .inl (cy 1, 3, .inr (.inl (fun _ => 0)))), ((rt 5), .inl (cy 1, 3, .inr (.inl (fun _ => 0)))), ((rt 6), .inl (cy 1, 3, .inr (.inl (fun _ => 0)))), ((rt 7), .inl (cy 1, 3, .inr (.inl (fun _ => 0)))), ((rt 8), .inl (cy 1, 3, .inr (.inl (fun _ => 0))))] sz) := by
  refine Met.ofW (cc := cX9_allFaults) (maxL := 2) (ret := (some .long)) (by decide) rfl ?_
  intro p e s m args below meth c s₁ B hml hv
  obtain ⟨rfl, hsz, hP, hK, hD0, hX, hY⟩ := hv
  have hx := B.exec
  have hb := B.bytes
  have hr := B.returns
  have hts0 := atoms_spec (ws := wz yX9_allFaults cX9_allFaults 2 (some .long)) B.pre
  have hts : ∀ w ∈ wAll, w.before _ s = true := fun w h => hts0 w (List.mem_cons_of_mem _ h)
  have hown : s.vm.findClass RX9 = some m.cls := findClass_of_methodNamed B.named
  have hlocks := B.notSynchronized
  subst hsz
  have hD := hD0.self (sz := s.heap.size)
  generalize hAe : va_A [(h0, .inr (12, [.ref vC, .ref vP, .ref vT, .ref vS, .ref vF, .ref vN, .ref vY, .int 0])), (vC, .inr (3, [.ref sS, .ref sJ, .int 0, .int 0])), (sJ, .inr (5, [.ref j1, .ref j2, .ref j3, .ref jL, .int 0])), (jL, .inl (cy 0, 9, .inl (fun _ => 0))), (vP, .inr (7, [.ref vC, .ref p1, .ref p2, .ref p3, .ref p4, .ref p5, .ref p6, .ref p7, .int 0, .long 0, .ref p8, .int 0, .int 0, .long 1])), (p1, .inl (cy 0, 9, .inl (fun _ => 0))), (p2, .inl (cy 2, 9, .inl (fun _ => 0))), (p8, .inl (cy 2, 24, .inl (fun _ => 0))), (p3, .inl (cy 0, 9, .inl (fun _ => 0))), (p4, .inl (cy 3, 8, .inr (.inr (.inr (.inr (fun k9 => if k9 < 8 then some (rn k9) else none)))))), ((rn 0), .inl (cy 1, 11, .inr (.inl (fun _ => 0)))), ((rn 1), .inl (cy 1, 11, .inr (.inl (fun _ => 0)))), ((rn 2), .inl (cy 1, 11, .inr (.inl (fun _ => 0)))), ((rn 3), .inl (cy 1, 11, .inr (.inl (fun _ => 0)))), ((rn 4), .inl (cy 1, 11, .inr (.inl (fun _ => 0)))), ((rn 5), .inl (cy 1, 11, .inr (.inl (fun _ => 0)))), ((rn 6), .inl (cy 1, 11, .inr (.inl (fun _ => 0)))), ((rn 7), .inl (cy 1, 11, .inr (.inl (fun _ => 0)))), (p5, .inl (cy 3, 9, .inr (.inr (.inr (.inr (fun k9 => if k9 < 9 then some (rt k9) else none)))))), ((rt 0), .inl (cy 1, 3, .inr (.inl (fun _ => 0)))), ((rt 1), .inl (cy 1, 3, .inr (.inl (fun _ => 0)))), ((rt 2), .inl (cy 1, 3, .inr (.inl (fun _ => 0)))), ((rt 3), .inl (cy 1, 3, .inr (.inl (fun _ => 0)))), ((rt 4), .inl (cy 1, 3, .inr (.inl (fun _ => 0)))), ((rt 5), .inl (cy 1, 3, .inr (.inl (fun _ => 0)))), ((rt 6), .inl (cy 1, 3, .inr (.inl (fun _ => 0)))), ((rt 7), .inl (cy 1, 3, .inr (.inl (fun _ => 0)))), ((rt 8), .inl (cy 1, 3, .inr (.inl (fun _ => 0))))] s.heap.size = A at hD hY ⊢
  have hA : ∀ q : Nat, s.heap.size ≤ q → A q := fun q h => by rw [← hAe]; exact Or.inr h
  have hS : va_S A s.heap s.heap [] := va_S.rf
  have hP : va_P D vwCl [(h0, .inr (12, [.ref vC, .ref vP, .ref vT, .ref vS, .ref vF, .ref vN, .ref vY, .int 0])), (vC, .inr (3, [.ref sS, .ref sJ, .int 0, .int 0])), (sJ, .inr (5, [.ref j1, .ref j2, .ref j3, .ref jL, .int 0])), (jL, .inl (cy 0, 9, .inl (fun _ => 0))), (vP, .inr (7, [.ref vC, .ref p1, .ref p2, .ref p3, .ref p4, .ref p5, .ref p6, .ref p7, .int 0, .long 0, .ref p8, .int 0, .int 0, .long 1])), (p1, .inl (cy 0, 9, .inl (fun _ => 0))), (p2, .inl (cy 2, 9, .inl (fun _ => 0))), (p8, .inl (cy 2, 24, .inl (fun _ => 0))), (p3, .inl (cy 0, 9, .inl (fun _ => 0))), (p4, .inl (cy 3, 8, .inr (.inr (.inr (.inr (fun k9 => if k9 < 8 then some (rn k9) else none)))))), ((rn 0), .inl (cy 1, 11, .inr (.inl (fun _ => 0)))), ((rn 1), .inl (cy 1, 11, .inr (.inl (fun _ => 0)))), ((rn 2), .inl (cy 1, 11, .inr (.inl (fun _ => 0)))), ((rn 3), .inl (cy 1, 11, .inr (.inl (fun _ => 0)))), ((rn 4), .inl (cy 1, 11, .inr (.inl (fun _ => 0)))), ((rn 5), .inl (cy 1, 11, .inr (.inl (fun _ => 0)))), ((rn 6), .inl (cy 1, 11, .inr (.inl (fun _ => 0)))), ((rn 7), .inl (cy 1, 11, .inr (.inl (fun _ => 0)))), (p5, .inl (cy 3, 9, .inr (.inr (.inr (.inr (fun k9 => if k9 < 9 then some (rt k9) else none)))))), ((rt 0), .inl (cy 1, 3, .inr (.inl (fun _ => 0)))), ((rt 1), .inl (cy 1, 3, .inr (.inl (fun _ => 0)))), ((rt 2), .inl (cy 1, 3, .inr (.inl (fun _ => 0)))), ((rt 3), .inl (cy 1, 3, .inr (.inl (fun _ => 0)))), ((rt 4), .inl (cy 1, 3, .inr (.inl (fun _ => 0)))), ((rt 5), .inl (cy 1, 3, .inr (.inl (fun _ => 0)))), ((rt 6), .inl (cy 1, 3, .inr (.inl (fun _ => 0)))), ((rt 7), .inl (cy 1, 3, .inr (.inl (fun _ => 0)))), ((rt 8), .inl (cy 1, 3, .inr (.inl (fun _ => 0))))] s.heap := hP
  have hl := lv_entry ([.ref h0, .int d]) (n := 2) (Nat.le_of_ble_eq_true rfl)
  rw [lg_entry_eq]
  generalize (lg_sl ([.ref h0, .int d]) ++ List.replicate (2 - (lg_sl ([.ref h0, .int d])).length) Slot.unset).toArray = ls at hl ⊢
  have hl : lv_has ls 2 [(0, .ref h0), (1, .int d)] := hl
  refine z_anyQ (fun Q hQe => ?_)
  refine lv_iload_n hx hb dX9_allFaults_0 rfl (lv_at hl 1 rfl) ?_
  refine zq_v (wc := []) (wr := [(h0, .inr (12, [.ref vC, .ref vP, .ref vT, .ref vS, .ref vF, .ref vN, .ref vY, .int 0])), (vC, .inr (3, [.ref sS, .ref sJ, .int 0, .int 0])), (sJ, .inr (5, [.ref j1, .ref j2, .ref j3, .ref jL, .int 0])), (jL, .inl (cy 0, 9, .inl (fun _ => 0))), (vP, .inr (7, [.ref vC, .ref p1, .ref p2, .ref p3, .ref p4, .ref p5, .ref p6, .ref p7, .int 0, .long 0, .ref p8, .int 0, .int 0, .long 1])), (p1, .inl (cy 0, 9, .inl (fun _ => 0))), (p2, .inl (cy 2, 9, .inl (fun _ => 0))), (p8, .inl (cy 2, 24, .inl (fun _ => 0))), (p3, .inl (cy 0, 9, .inl (fun _ => 0))), (p4, .inl (cy 3, 8, .inr (.inr (.inr (.inr (fun k9 => if k9 < 8 then some (rn k9) else none)))))), ((rn 0), .inl (cy 1, 11, .inr (.inl (fun _ => 0)))), ((rn 1), .inl (cy 1, 11, .inr (.inl (fun _ => 0)))), ((rn 2), .inl (cy 1, 11, .inr (.inl (fun _ => 0)))), ((rn 3), .inl (cy 1, 11, .inr (.inl (fun _ => 0)))), ((rn 4), .inl (cy 1, 11, .inr (.inl (fun _ => 0)))), ((rn 5), .inl (cy 1, 11, .inr (.inl (fun _ => 0)))), ((rn 6), .inl (cy 1, 11, .inr (.inl (fun _ => 0)))), ((rn 7), .inl (cy 1, 11, .inr (.inl (fun _ => 0)))), (p5, .inl (cy 3, 9, .inr (.inr (.inr (.inr (fun k9 => if k9 < 9 then some (rt k9) else none)))))), ((rt 0), .inl (cy 1, 3, .inr (.inl (fun _ => 0)))), ((rt 1), .inl (cy 1, 3, .inr (.inl (fun _ => 0)))), ((rt 2), .inl (cy 1, 3, .inr (.inl (fun _ => 0)))), ((rt 3), .inl (cy 1, 3, .inr (.inl (fun _ => 0)))), ((rt 4), .inl (cy 1, 3, .inr (.inl (fun _ => 0)))), ((rt 5), .inl (cy 1, 3, .inr (.inl (fun _ => 0)))), ((rt 6), .inl (cy 1, 3, .inr (.inl (fun _ => 0)))), ((rt 7), .inl (cy 1, 3, .inr (.inl (fun _ => 0)))), ((rt 8), .inl (cy 1, 3, .inr (.inl (fun _ => 0))))]) (va_runS (As := [.int d]) (rest := []) ⟨hx, hb, hml, hown, hts⟩ (k_needDay_ok l D cy d s.heap.size hd) (va_cwS 1 hts (gzS (gz q192) q191 q193 q174) rfl rfl rfl vX9_needDay.2 ⟨Nat.le_of_ble_eq_true rfl, Nat.le_of_ble_eq_true rfl⟩) (zpS hK hX hY hP hD hS hA [] (by decide) rfl) rfl rfl hl.1 rfl (lv_room (Nat.le_of_ble_eq_true rfl)) dX9_allFaults_1 ⟨Nat.le_of_ble_eq_true rfl, Nat.le_of_ble_eq_true rfl⟩) hP hD hS hA [] [0, 1, 2, 3, 4, 5, 6, 7, 8, 9, 10, 11, 12, 13, 14, 15, 16, 17, 18, 19, 20, 21, 22, 23, 24, 25, 26, 27] rfl rfl (by decide) (by decide) (fun u1 H locs hw hP hD hS => ?_)
  have hP : va_P D vwCl [(h0, .inr (12, [.ref vC, .ref vP, .ref vT, .ref vS, .ref vF, .ref vN, .ref vY, .int 0])), (vC, .inr (3, [.ref sS, .ref sJ, .int 0, .int 0])), (sJ, .inr (5, [.ref j1, .ref j2, .ref j3, .ref jL, .int 0])), (jL, .inl (cy 0, 9, .inl (fun _ => 0))), (vP, .inr (7, [.ref vC, .ref p1, .ref p2, .ref p3, .ref p4, .ref p5, .ref p6, .ref p7, .int 0, .long 0, .ref p8, .int 0, .int 0, .long 1])), (p1, .inl (cy 0, 9, .inl (fun _ => 0))), (p2, .inl (cy 2, 9, .inl (fun _ => 0))), (p8, .inl (cy 2, 24, .inl (fun _ => 0))), (p3, .inl (cy 0, 9, .inl (fun _ => 0))), (p4, .inl (cy 3, 8, .inr (.inr (.inr (.inr (fun k9 => if k9 < 8 then some (rn k9) else none)))))), ((rn 0), .inl (cy 1, 11, .inr (.inl (fun _ => 0)))), ((rn 1), .inl (cy 1, 11, .inr (.inl (fun _ => 0)))), ((rn 2), .inl (cy 1, 11, .inr (.inl (fun _ => 0)))), ((rn 3), .inl (cy 1, 11, .inr (.inl (fun _ => 0)))), ((rn 4), .inl (cy 1, 11, .inr (.inl (fun _ => 0)))), ((rn 5), .inl (cy 1, 11, .inr (.inl (fun _ => 0)))), ((rn 6), .inl (cy 1, 11, .inr (.inl (fun _ => 0)))), ((rn 7), .inl (cy 1, 11, .inr (.inl (fun _ => 0)))), (p5, .inl (cy 3, 9, .inr (.inr (.inr (.inr (fun k9 => if k9 < 9 then some (rt k9) else none)))))), ((rt 0), .inl (cy 1, 3, .inr (.inl (fun _ => 0)))), ((rt 1), .inl (cy 1, 3, .inr (.inl (fun _ => 0)))), ((rt 2), .inl (cy 1, 3, .inr (.inl (fun _ => 0)))), ((rt 3), .inl (cy 1, 3, .inr (.inl (fun _ => 0)))), ((rt 4), .inl (cy 1, 3, .inr (.inl (fun _ => 0)))), ((rt 5), .inl (cy 1, 3, .inr (.inl (fun _ => 0)))), ((rt 6), .inl (cy 1, 3, .inr (.inl (fun _ => 0)))), ((rt 7), .inl (cy 1, 3, .inr (.inl (fun _ => 0)))), ((rt 8), .inl (cy 1, 3, .inr (.inl (fun _ => 0))))] H := hP
  have hD : va_D A [(h0, .inr (12, [.ref vC, .ref vP, .ref vT, .ref vS, .ref vF, .ref vN, .ref vY, .int 0])), (vC, .inr (3, [.ref sS, .ref sJ, .int 0, .int 0])), (sJ, .inr (5, [.ref j1, .ref j2, .ref j3, .ref jL, .int 0])), (jL, .inl (cy 0, 9, .inl (fun _ => 0))), (vP, .inr (7, [.ref vC, .ref p1, .ref p2, .ref p3, .ref p4, .ref p5, .ref p6, .ref p7, .int 0, .long 0, .ref p8, .int 0, .int 0, .long 1])), (p1, .inl (cy 0, 9, .inl (fun _ => 0))), (p2, .inl (cy 2, 9, .inl (fun _ => 0))), (p8, .inl (cy 2, 24, .inl (fun _ => 0))), (p3, .inl (cy 0, 9, .inl (fun _ => 0))), (p4, .inl (cy 3, 8, .inr (.inr (.inr (.inr (fun k9 => if k9 < 8 then some (rn k9) else none)))))), ((rn 0), .inl (cy 1, 11, .inr (.inl (fun _ => 0)))), ((rn 1), .inl (cy 1, 11, .inr (.inl (fun _ => 0)))), ((rn 2), .inl (cy 1, 11, .inr (.inl (fun _ => 0)))), ((rn 3), .inl (cy 1, 11, .inr (.inl (fun _ => 0)))), ((rn 4), .inl (cy 1, 11, .inr (.inl (fun _ => 0)))), ((rn 5), .inl (cy 1, 11, .inr (.inl (fun _ => 0)))), ((rn 6), .inl (cy 1, 11, .inr (.inl (fun _ => 0)))), ((rn 7), .inl (cy 1, 11, .inr (.inl (fun _ => 0)))), (p5, .inl (cy 3, 9, .inr (.inr (.inr (.inr (fun k9 => if k9 < 9 then some (rt k9) else none)))))), ((rt 0), .inl (cy 1, 3, .inr (.inl (fun _ => 0)))), ((rt 1), .inl (cy 1, 3, .inr (.inl (fun _ => 0)))), ((rt 2), .inl (cy 1, 3, .inr (.inl (fun _ => 0)))), ((rt 3), .inl (cy 1, 3, .inr (.inl (fun _ => 0)))), ((rt 4), .inl (cy 1, 3, .inr (.inl (fun _ => 0)))), ((rt 5), .inl (cy 1, 3, .inr (.inl (fun _ => 0)))), ((rt 6), .inl (cy 1, 3, .inr (.inl (fun _ => 0)))), ((rt 7), .inl (cy 1, 3, .inr (.inl (fun _ => 0)))), ((rt 8), .inl (cy 1, 3, .inr (.inl (fun _ => 0))))] := hD
  refine lv_aload_n hx hb dX9_allFaults_4 rfl (lv_at hl 0 rfl) ?_
  refine va_get (D := D) (ci := 12) (v := .ref vP) (C := RX9) (T := TX9) (N := 8) hx hb hts iRX9 hown hK hP 0 rfl rfl 1 (by decide) (hts _ q133) (fun _ h9 => h9) rfl dX9_allFaults_5 ?_
  refine lv_iload_n hx hb dX9_allFaults_8 rfl (lv_at hl 1 rfl) ?_
  refine lv_iconst (v := (-1)) hx hb dX9_allFaults_9 (by decide) ?_
  refine zq_v (wc := [(vP, .inr (7, [.ref vC, .ref p1, .ref p2, .ref p3, .ref p4, .ref p5, .ref p6, .ref p7, .int 0, .long 0, .ref p8, .int 0, .int 0, .long 1])), (vC, .inr (3, [.ref sS, .ref sJ, .int 0, .int 0])), (sJ, .inr (5, [.ref j1, .ref j2, .ref j3, .ref jL, .int 0])), (jL, .inl (cy 0, 9, .inl (fun _ => 0))), (p1, .inl (cy 0, 9, .inl (fun _ => 0))), (p2, .inl (cy 2, 9, .inl (fun _ => 0))), (p8, .inl (cy 2, 24, .inl (fun _ => 0)))]) (wr := [(h0, .inr (12, [.ref vC, .ref vP, .ref vT, .ref vS, .ref vF, .ref vN, .ref vY, .int 0])), (p3, .inl (cy 0, 9, .inl (fun _ => 0))), (p4, .inl (cy 3, 8, .inr (.inr (.inr (.inr (fun k9 => if k9 < 8 then some (rn k9) else none)))))), ((rn 0), .inl (cy 1, 11, .inr (.inl (fun _ => 0)))), ((rn 1), .inl (cy 1, 11, .inr (.inl (fun _ => 0)))), ((rn 2), .inl (cy 1, 11, .inr (.inl (fun _ => 0)))), ((rn 3), .inl (cy 1, 11, .inr (.inl (fun _ => 0)))), ((rn 4), .inl (cy 1, 11, .inr (.inl (fun _ => 0)))), ((rn 5), .inl (cy 1, 11, .inr (.inl (fun _ => 0)))), ((rn 6), .inl (cy 1, 11, .inr (.inl (fun _ => 0)))), ((rn 7), .inl (cy 1, 11, .inr (.inl (fun _ => 0)))), (p5, .inl (cy 3, 9, .inr (.inr (.inr (.inr (fun k9 => if k9 < 9 then some (rt k9) else none)))))), ((rt 0), .inl (cy 1, 3, .inr (.inl (fun _ => 0)))), ((rt 1), .inl (cy 1, 3, .inr (.inl (fun _ => 0)))), ((rt 2), .inl (cy 1, 3, .inr (.inl (fun _ => 0)))), ((rt 3), .inl (cy 1, 3, .inr (.inl (fun _ => 0)))), ((rt 4), .inl (cy 1, 3, .inr (.inl (fun _ => 0)))), ((rt 5), .inl (cy 1, 3, .inr (.inl (fun _ => 0)))), ((rt 6), .inl (cy 1, 3, .inr (.inl (fun _ => 0)))), ((rt 7), .inl (cy 1, 3, .inr (.inl (fun _ => 0)))), ((rt 8), .inl (cy 1, 3, .inr (.inl (fun _ => 0))))]) (va_runV (As := [.int d, .int (-1)]) (rest := []) ⟨hx, hb, hml, hown, hts⟩ (k_hang l D cy vP vC p1 p2 p3 p4 p5 p6 p7 p8 0 0 0 0 1 sS sJ j1 j2 j3 jL d (-1) (fun _ => 0) (fun _ => 0) (fun _ => 0) (fun _ => 0) H.size ) (cwV 2 hts (gzV (gz q195) q194 q196 q197 q87) rfl rfl rfl vX4_hang ⟨Nat.le_of_ble_eq_true rfl, Nat.le_of_ble_eq_true rfl⟩) (zpV (ci := 7) (T := TX4) (N := 14) (q0 := 0) hK hX hY hP hD hS hA [4, 1, 2, 3, 5, 6, 7] (by decide) rfl rfl rfl) rfl rfl hl.1 rfl (lv_room (Nat.le_of_ble_eq_true rfl)) dX9_allFaults_10 ⟨Nat.le_of_ble_eq_true rfl, Nat.le_of_ble_eq_true rfl⟩) hP hD hS hA [4, 1, 2, 3, 5, 6, 7] [0, 8, 9, 10, 11, 12, 13, 14, 15, 16, 17, 18, 19, 20, 21, 22, 23, 24, 25, 26, 27] rfl rfl (by decide) (by decide) (fun u3 H locs hw hP hD hS => ?_)
  have hP : va_P D vwCl [(h0, .inr (12, [.ref vC, .ref vP, .ref vT, .ref vS, .ref vF, .ref vN, .ref vY, .int 0])), (p3, .inl (cy 0, 9, .inl (fun _ => 0))), (p4, .inl (cy 3, 8, .inr (.inr (.inr (.inr (fun k9 => if k9 < 8 then some (rn k9) else none)))))), ((rn 0), .inl (cy 1, 11, .inr (.inl (fun _ => 0)))), ((rn 1), .inl (cy 1, 11, .inr (.inl (fun _ => 0)))), ((rn 2), .inl (cy 1, 11, .inr (.inl (fun _ => 0)))), ((rn 3), .inl (cy 1, 11, .inr (.inl (fun _ => 0)))), ((rn 4), .inl (cy 1, 11, .inr (.inl (fun _ => 0)))), ((rn 5), .inl (cy 1, 11, .inr (.inl (fun _ => 0)))), ((rn 6), .inl (cy 1, 11, .inr (.inl (fun _ => 0)))), ((rn 7), .inl (cy 1, 11, .inr (.inl (fun _ => 0)))), (p5, .inl (cy 3, 9, .inr (.inr (.inr (.inr (fun k9 => if k9 < 9 then some (rt k9) else none)))))), ((rt 0), .inl (cy 1, 3, .inr (.inl (fun _ => 0)))), ((rt 1), .inl (cy 1, 3, .inr (.inl (fun _ => 0)))), ((rt 2), .inl (cy 1, 3, .inr (.inl (fun _ => 0)))), ((rt 3), .inl (cy 1, 3, .inr (.inl (fun _ => 0)))), ((rt 4), .inl (cy 1, 3, .inr (.inl (fun _ => 0)))), ((rt 5), .inl (cy 1, 3, .inr (.inl (fun _ => 0)))), ((rt 6), .inl (cy 1, 3, .inr (.inl (fun _ => 0)))), ((rt 7), .inl (cy 1, 3, .inr (.inl (fun _ => 0)))), ((rt 8), .inl (cy 1, 3, .inr (.inl (fun _ => 0)))), (vP, .inr (7, [.ref vC, .ref p1, .ref p2, .ref p3, .ref p4, .ref p5, .ref p6, .ref p7, .int 0, .long 0, .ref p8, .int 0, .int 0, .long 1])), (vC, .inr (3, [.ref sS, .ref sJ, .int 0, .int 0])), (sJ, .inr (5, [.ref j1, .ref j2, .ref j3, .ref jL, .int 0])), (jL, .inl (cy 0, 9, .inl (fun j => nI j))), (p1, .inl (cy 0, 9, .inl (fun j => nI j))), (p2, .inl (cy 2, 9, .inl (fun _ => 0))), (p8, .inl (cy 2, 24, .inl (fun _ => 0)))] H := hP
  have hD : va_D A [(h0, .inr (12, [.ref vC, .ref vP, .ref vT, .ref vS, .ref vF, .ref vN, .ref vY, .int 0])), (p3, .inl (cy 0, 9, .inl (fun _ => 0))), (p4, .inl (cy 3, 8, .inr (.inr (.inr (.inr (fun k9 => if k9 < 8 then some (rn k9) else none)))))), ((rn 0), .inl (cy 1, 11, .inr (.inl (fun _ => 0)))), ((rn 1), .inl (cy 1, 11, .inr (.inl (fun _ => 0)))), ((rn 2), .inl (cy 1, 11, .inr (.inl (fun _ => 0)))), ((rn 3), .inl (cy 1, 11, .inr (.inl (fun _ => 0)))), ((rn 4), .inl (cy 1, 11, .inr (.inl (fun _ => 0)))), ((rn 5), .inl (cy 1, 11, .inr (.inl (fun _ => 0)))), ((rn 6), .inl (cy 1, 11, .inr (.inl (fun _ => 0)))), ((rn 7), .inl (cy 1, 11, .inr (.inl (fun _ => 0)))), (p5, .inl (cy 3, 9, .inr (.inr (.inr (.inr (fun k9 => if k9 < 9 then some (rt k9) else none)))))), ((rt 0), .inl (cy 1, 3, .inr (.inl (fun _ => 0)))), ((rt 1), .inl (cy 1, 3, .inr (.inl (fun _ => 0)))), ((rt 2), .inl (cy 1, 3, .inr (.inl (fun _ => 0)))), ((rt 3), .inl (cy 1, 3, .inr (.inl (fun _ => 0)))), ((rt 4), .inl (cy 1, 3, .inr (.inl (fun _ => 0)))), ((rt 5), .inl (cy 1, 3, .inr (.inl (fun _ => 0)))), ((rt 6), .inl (cy 1, 3, .inr (.inl (fun _ => 0)))), ((rt 7), .inl (cy 1, 3, .inr (.inl (fun _ => 0)))), ((rt 8), .inl (cy 1, 3, .inr (.inl (fun _ => 0)))), (vP, .inr (7, [.ref vC, .ref p1, .ref p2, .ref p3, .ref p4, .ref p5, .ref p6, .ref p7, .int 0, .long 0, .ref p8, .int 0, .int 0, .long 1])), (vC, .inr (3, [.ref sS, .ref sJ, .int 0, .int 0])), (sJ, .inr (5, [.ref j1, .ref j2, .ref j3, .ref jL, .int 0])), (jL, .inl (cy 0, 9, .inl (fun j => nI j))), (p1, .inl (cy 0, 9, .inl (fun j => nI j))), (p2, .inl (cy 2, 9, .inl (fun _ => 0))), (p8, .inl (cy 2, 24, .inl (fun _ => 0)))] := hD
  refine lv_aload_n hx hb dX9_allFaults_13 rfl (lv_at hl 0 rfl) ?_
  refine va_get (D := D) (ci := 12) (v := .ref vP) (C := RX9) (T := TX9) (N := 8) hx hb hts iRX9 hown hK hP 0 rfl rfl 1 (by decide) (hts _ q133) (fun _ h9 => h9) rfl dX9_allFaults_14 ?_
  refine lv_iconst (v := 0) hx hb dX9_allFaults_17 (by decide) ?_
  refine zq_v (wc := [(vP, .inr (7, [.ref vC, .ref p1, .ref p2, .ref p3, .ref p4, .ref p5, .ref p6, .ref p7, .int 0, .long 0, .ref p8, .int 0, .int 0, .long 1])), (vC, .inr (3, [.ref sS, .ref sJ, .int 0, .int 0])), (p2, .inl (cy 2, 9, .inl (fun _ => 0))), (p3, .inl (cy 0, 9, .inl (fun _ => 0))), (p4, .inl (cy 3, 8, .inr (.inr (.inr (.inr (fun k9 => if k9 < 8 then some (rn k9) else none)))))), ((rn 0), .inl (cy 1, 11, .inr (.inl (fun _ => 0)))), ((rn 1), .inl (cy 1, 11, .inr (.inl (fun _ => 0)))), ((rn 2), .inl (cy 1, 11, .inr (.inl (fun _ => 0)))), ((rn 3), .inl (cy 1, 11, .inr (.inl (fun _ => 0)))), ((rn 4), .inl (cy 1, 11, .inr (.inl (fun _ => 0)))), ((rn 5), .inl (cy 1, 11, .inr (.inl (fun _ => 0)))), ((rn 6), .inl (cy 1, 11, .inr (.inl (fun _ => 0)))), ((rn 7), .inl (cy 1, 11, .inr (.inl (fun _ => 0)))), (p5, .inl (cy 3, 9, .inr (.inr (.inr (.inr (fun k9 => if k9 < 9 then some (rt k9) else none)))))), ((rt 0), .inl (cy 1, 3, .inr (.inl (fun _ => 0)))), ((rt 1), .inl (cy 1, 3, .inr (.inl (fun _ => 0)))), ((rt 2), .inl (cy 1, 3, .inr (.inl (fun _ => 0)))), ((rt 3), .inl (cy 1, 3, .inr (.inl (fun _ => 0)))), ((rt 4), .inl (cy 1, 3, .inr (.inl (fun _ => 0)))), ((rt 5), .inl (cy 1, 3, .inr (.inl (fun _ => 0)))), ((rt 6), .inl (cy 1, 3, .inr (.inl (fun _ => 0)))), ((rt 7), .inl (cy 1, 3, .inr (.inl (fun _ => 0)))), ((rt 8), .inl (cy 1, 3, .inr (.inl (fun _ => 0))))]) (wr := [(h0, .inr (12, [.ref vC, .ref vP, .ref vT, .ref vS, .ref vF, .ref vN, .ref vY, .int 0])), (sJ, .inr (5, [.ref j1, .ref j2, .ref j3, .ref jL, .int 0])), (jL, .inl (cy 0, 9, .inl (fun j => nI j))), (p1, .inl (cy 0, 9, .inl (fun j => nI j))), (p8, .inl (cy 2, 24, .inl (fun _ => 0)))]) (va_runV (As := [.int 0]) (rest := []) ⟨hx, hb, hml, hown, hts⟩ (k_weigh0 l D cy vP vC p1 p2 p3 p4 p5 p6 p7 p8 0 0 0 1 sS sJ rn rt H.size ) (cwV 1 hts (gzV (gz q201) q200 q202 q203 q87) rfl rfl rfl vX4_weigh ⟨Nat.le_of_ble_eq_true rfl, Nat.le_of_ble_eq_true rfl⟩) (zpV (ci := 7) (T := TX4) (N := 14) (q0 := 0) hK hX hY hP hD hS hA [21, 22, 26, 1, 2, 3, 4, 5, 6, 7, 8, 9, 10, 11, 12, 13, 14, 15, 16, 17, 18, 19, 20] (by decide) rfl rfl rfl) rfl rfl hl.1 rfl (lv_room (Nat.le_of_ble_eq_true rfl)) dX9_allFaults_18 ⟨Nat.le_of_ble_eq_true rfl, Nat.le_of_ble_eq_true rfl⟩) hP hD hS hA [21, 22, 26, 1, 2, 3, 4, 5, 6, 7, 8, 9, 10, 11, 12, 13, 14, 15, 16, 17, 18, 19, 20] [0, 23, 24, 25, 27] rfl rfl (by decide) (by decide) (fun u5 H locs hw hP hD hS => ?_)
  have hP : va_P D vwCl [(h0, .inr (12, [.ref vC, .ref vP, .ref vT, .ref vS, .ref vF, .ref vN, .ref vY, .int 0])), (sJ, .inr (5, [.ref j1, .ref j2, .ref j3, .ref jL, .int 0])), (jL, .inl (cy 0, 9, .inl (fun j => nI j))), (p1, .inl (cy 0, 9, .inl (fun j => nI j))), (p8, .inl (cy 2, 24, .inl (fun _ => 0))), (vP, .inr (7, [.ref vC, .ref p1, .ref p2, .ref p3, .ref p4, .ref p5, .ref p6, .ref p7, .int 0, .long 0, .ref p8, .int 0, .int 0, .long 1])), (vC, .inr (3, [.ref sS, .ref sJ, .int 0, .int 0])), (p5, .inl (cy 3, 9, .inr (.inr (.inr (.inr (fun k9 => if k9 < 9 then some (rt k9) else none)))))), ((rt 0), .inl (cy 1, 3, .inr (.inl (fun _ => 0)))), ((rt 1), .inl (cy 1, 3, .inr (.inl (fun _ => 0)))), ((rt 2), .inl (cy 1, 3, .inr (.inl (fun _ => 0)))), ((rt 3), .inl (cy 1, 3, .inr (.inl (fun _ => 0)))), ((rt 4), .inl (cy 1, 3, .inr (.inl (fun _ => 0)))), ((rt 5), .inl (cy 1, 3, .inr (.inl (fun _ => 0)))), ((rt 6), .inl (cy 1, 3, .inr (.inl (fun _ => 0)))), ((rt 7), .inl (cy 1, 3, .inr (.inl (fun _ => 0)))), ((rt 8), .inl (cy 1, 3, .inr (.inl (fun _ => 0))))] H := hP
  have hD : va_D A [(h0, .inr (12, [.ref vC, .ref vP, .ref vT, .ref vS, .ref vF, .ref vN, .ref vY, .int 0])), (sJ, .inr (5, [.ref j1, .ref j2, .ref j3, .ref jL, .int 0])), (jL, .inl (cy 0, 9, .inl (fun j => nI j))), (p1, .inl (cy 0, 9, .inl (fun j => nI j))), (p8, .inl (cy 2, 24, .inl (fun _ => 0))), (vP, .inr (7, [.ref vC, .ref p1, .ref p2, .ref p3, .ref p4, .ref p5, .ref p6, .ref p7, .int 0, .long 0, .ref p8, .int 0, .int 0, .long 1])), (vC, .inr (3, [.ref sS, .ref sJ, .int 0, .int 0])), (p5, .inl (cy 3, 9, .inr (.inr (.inr (.inr (fun k9 => if k9 < 9 then some (rt k9) else none)))))), ((rt 0), .inl (cy 1, 3, .inr (.inl (fun _ => 0)))), ((rt 1), .inl (cy 1, 3, .inr (.inl (fun _ => 0)))), ((rt 2), .inl (cy 1, 3, .inr (.inl (fun _ => 0)))), ((rt 3), .inl (cy 1, 3, .inr (.inl (fun _ => 0)))), ((rt 4), .inl (cy 1, 3, .inr (.inl (fun _ => 0)))), ((rt 5), .inl (cy 1, 3, .inr (.inl (fun _ => 0)))), ((rt 6), .inl (cy 1, 3, .inr (.inl (fun _ => 0)))), ((rt 7), .inl (cy 1, 3, .inr (.inl (fun _ => 0)))), ((rt 8), .inl (cy 1, 3, .inr (.inl (fun _ => 0))))] := hD
  refine lv_aload_n hx hb dX9_allFaults_21 rfl (lv_at hl 0 rfl) ?_
  refine va_get (D := D) (ci := 12) (v := .ref vP) (C := RX9) (T := TX9) (N := 8) hx hb hts iRX9 hown hK hP 0 rfl rfl 1 (by decide) (hts _ q133) (fun _ h9 => h9) rfl dX9_allFaults_22 ?_
  refine zq_l (wc := [(vP, .inr (7, [.ref vC, .ref p1, .ref p2, .ref p3, .ref p4, .ref p5, .ref p6, .ref p7, .int 0, .long 0, .ref p8, .int 0, .int 0, .long 1])), (vC, .inr (3, [.ref sS, .ref sJ, .int 0, .int 0]))]) (wr := [(h0, .inr (12, [.ref vC, .ref vP, .ref vT, .ref vS, .ref vF, .ref vN, .ref vY, .int 0])), (sJ, .inr (5, [.ref j1, .ref j2, .ref j3, .ref jL, .int 0])), (jL, .inl (cy 0, 9, .inl (fun j => nI j))), (p1, .inl (cy 0, 9, .inl (fun j => nI j))), (p8, .inl (cy 2, 24, .inl (fun _ => 0))), (p5, .inl (cy 3, 9, .inr (.inr (.inr (.inr (fun k9 => if k9 < 9 then some (rt k9) else none)))))), ((rt 0), .inl (cy 1, 3, .inr (.inl (fun _ => 0)))), ((rt 1), .inl (cy 1, 3, .inr (.inl (fun _ => 0)))), ((rt 2), .inl (cy 1, 3, .inr (.inl (fun _ => 0)))), ((rt 3), .inl (cy 1, 3, .inr (.inl (fun _ => 0)))), ((rt 4), .inl (cy 1, 3, .inr (.inl (fun _ => 0)))), ((rt 5), .inl (cy 1, 3, .inr (.inl (fun _ => 0)))), ((rt 6), .inl (cy 1, 3, .inr (.inl (fun _ => 0)))), ((rt 7), .inl (cy 1, 3, .inr (.inl (fun _ => 0)))), ((rt 8), .inl (cy 1, 3, .inr (.inl (fun _ => 0))))]) (va_runV (As := []) (rest := []) ⟨hx, hb, hml, hown, hts⟩ (k_sumTop l D cy vP vC p1 p2 p3 p4 p5 p6 p7 p8 0 0 0 0 1 sS sJ H.size ) (cwV 0 hts (gzV (gz q205) q204 q206 q207 q87) rfl rfl rfl vX4_sumTop ⟨Nat.le_of_ble_eq_true rfl, Nat.le_of_ble_eq_true rfl⟩) (zpV (ci := 7) (T := TX4) (N := 14) (q0 := 0) hK hX hY hP hD hS hA [5, 6] (by decide) rfl rfl rfl) rfl rfl hl.1 rfl (lv_room (Nat.le_of_ble_eq_true rfl)) dX9_allFaults_25 ⟨Nat.le_of_ble_eq_true rfl, Nat.le_of_ble_eq_true rfl⟩) hP hD hS hA [5, 6] [0, 1, 2, 3, 4, 7, 8, 9, 10, 11, 12, 13, 14, 15, 16] rfl rfl (by decide) (by decide) (fun x8 u7 H locs hw hP hD hS => ?_)
  obtain rfl : x8 = 0 := hw
  have hP : va_P D vwCl [(h0, .inr (12, [.ref vC, .ref vP, .ref vT, .ref vS, .ref vF, .ref vN, .ref vY, .int 0])), (sJ, .inr (5, [.ref j1, .ref j2, .ref j3, .ref jL, .int 0])), (jL, .inl (cy 0, 9, .inl (fun j => nI j))), (p1, .inl (cy 0, 9, .inl (fun j => nI j))), (p8, .inl (cy 2, 24, .inl (fun _ => 0))), (p5, .inl (cy 3, 9, .inr (.inr (.inr (.inr (fun k9 => if k9 < 9 then some (rt k9) else none)))))), ((rt 0), .inl (cy 1, 3, .inr (.inl (fun _ => 0)))), ((rt 1), .inl (cy 1, 3, .inr (.inl (fun _ => 0)))), ((rt 2), .inl (cy 1, 3, .inr (.inl (fun _ => 0)))), ((rt 3), .inl (cy 1, 3, .inr (.inl (fun _ => 0)))), ((rt 4), .inl (cy 1, 3, .inr (.inl (fun _ => 0)))), ((rt 5), .inl (cy 1, 3, .inr (.inl (fun _ => 0)))), ((rt 6), .inl (cy 1, 3, .inr (.inl (fun _ => 0)))), ((rt 7), .inl (cy 1, 3, .inr (.inl (fun _ => 0)))), ((rt 8), .inl (cy 1, 3, .inr (.inl (fun _ => 0)))), (vP, .inr (7, [.ref vC, .ref p1, .ref p2, .ref p3, .ref p4, .ref p5, .ref p6, .ref p7, .int 0, .long 0, .ref p8, .int 0, .int 0, .long 1])), (vC, .inr (3, [.ref sS, .ref sJ, .int 0, .int 0]))] H := hP
  have hD : va_D A [(h0, .inr (12, [.ref vC, .ref vP, .ref vT, .ref vS, .ref vF, .ref vN, .ref vY, .int 0])), (sJ, .inr (5, [.ref j1, .ref j2, .ref j3, .ref jL, .int 0])), (jL, .inl (cy 0, 9, .inl (fun j => nI j))), (p1, .inl (cy 0, 9, .inl (fun j => nI j))), (p8, .inl (cy 2, 24, .inl (fun _ => 0))), (p5, .inl (cy 3, 9, .inr (.inr (.inr (.inr (fun k9 => if k9 < 9 then some (rt k9) else none)))))), ((rt 0), .inl (cy 1, 3, .inr (.inl (fun _ => 0)))), ((rt 1), .inl (cy 1, 3, .inr (.inl (fun _ => 0)))), ((rt 2), .inl (cy 1, 3, .inr (.inl (fun _ => 0)))), ((rt 3), .inl (cy 1, 3, .inr (.inl (fun _ => 0)))), ((rt 4), .inl (cy 1, 3, .inr (.inl (fun _ => 0)))), ((rt 5), .inl (cy 1, 3, .inr (.inl (fun _ => 0)))), ((rt 6), .inl (cy 1, 3, .inr (.inl (fun _ => 0)))), ((rt 7), .inl (cy 1, 3, .inr (.inl (fun _ => 0)))), ((rt 8), .inl (cy 1, 3, .inr (.inl (fun _ => 0)))), (vP, .inr (7, [.ref vC, .ref p1, .ref p2, .ref p3, .ref p4, .ref p5, .ref p6, .ref p7, .int 0, .long 0, .ref p8, .int 0, .int 0, .long 1])), (vC, .inr (3, [.ref sS, .ref sJ, .int 0, .int 0]))] := hD
  refine lv_ldc2 (v := 1000) hx hb hown (hts _ q208) dX9_allFaults_28 ?_
  refine lv_aload_n hx hb dX9_allFaults_31 rfl (lv_at hl 0 rfl) ?_
  refine va_get (D := D) (ci := 12) (v := .ref vP) (C := RX9) (T := TX9) (N := 8) hx hb hts iRX9 hown hK hP 0 rfl rfl 1 (by decide) (hts _ q133) (fun _ h9 => h9) rfl dX9_allFaults_32 ?_
  refine va_get (D := D) (ci := 7) (v := .long 1) (C := RX4) (T := TX4) (N := 14) hx hb hts iRX4 hown hK hP 15 rfl rfl 13 (by decide) (hts _ q209) (fun _ h9 => h9) rfl dX9_allFaults_35 ?_
  refine zq_l (wc := []) (wr := [(h0, .inr (12, [.ref vC, .ref vP, .ref vT, .ref vS, .ref vF, .ref vN, .ref vY, .int 0])), (sJ, .inr (5, [.ref j1, .ref j2, .ref j3, .ref jL, .int 0])), (jL, .inl (cy 0, 9, .inl (fun j => nI j))), (p1, .inl (cy 0, 9, .inl (fun j => nI j))), (p8, .inl (cy 2, 24, .inl (fun _ => 0))), (p5, .inl (cy 3, 9, .inr (.inr (.inr (.inr (fun k9 => if k9 < 9 then some (rt k9) else none)))))), ((rt 0), .inl (cy 1, 3, .inr (.inl (fun _ => 0)))), ((rt 1), .inl (cy 1, 3, .inr (.inl (fun _ => 0)))), ((rt 2), .inl (cy 1, 3, .inr (.inl (fun _ => 0)))), ((rt 3), .inl (cy 1, 3, .inr (.inl (fun _ => 0)))), ((rt 4), .inl (cy 1, 3, .inr (.inl (fun _ => 0)))), ((rt 5), .inl (cy 1, 3, .inr (.inl (fun _ => 0)))), ((rt 6), .inl (cy 1, 3, .inr (.inl (fun _ => 0)))), ((rt 7), .inl (cy 1, 3, .inr (.inl (fun _ => 0)))), ((rt 8), .inl (cy 1, 3, .inr (.inl (fun _ => 0)))), (vP, .inr (7, [.ref vC, .ref p1, .ref p2, .ref p3, .ref p4, .ref p5, .ref p6, .ref p7, .int 0, .long 0, .ref p8, .int 0, .int 0, .long 1])), (vC, .inr (3, [.ref sS, .ref sJ, .int 0, .int 0]))]) (va_runS (As := [.long 0, .long 1000, .long 1]) (rest := []) ⟨hx, hb, hml, hown, hts⟩ (k_floored1000 l D cy  H.size ) (va_cwS 3 hts (gzS (gz q211) q210 q212 q174) rfl rfl rfl vX9_flooredTimes.2 ⟨Nat.le_of_ble_eq_true rfl, Nat.le_of_ble_eq_true rfl⟩) (zpS hK hX hY hP hD hS hA [] (by decide) rfl) rfl rfl hl.1 rfl (lv_room (Nat.le_of_ble_eq_true rfl)) dX9_allFaults_38 ⟨Nat.le_of_ble_eq_true rfl, Nat.le_of_ble_eq_true rfl⟩) hP hD hS hA [] [0, 1, 2, 3, 4, 5, 6, 7, 8, 9, 10, 11, 12, 13, 14, 15, 16] rfl rfl (by decide) (by decide) (fun x10 u9 H locs hw hP hD hS => ?_)
  obtain rfl : x10 = 0 := hw
  have hP : va_P D vwCl [(h0, .inr (12, [.ref vC, .ref vP, .ref vT, .ref vS, .ref vF, .ref vN, .ref vY, .int 0])), (sJ, .inr (5, [.ref j1, .ref j2, .ref j3, .ref jL, .int 0])), (jL, .inl (cy 0, 9, .inl (fun j => nI j))), (p1, .inl (cy 0, 9, .inl (fun j => nI j))), (p8, .inl (cy 2, 24, .inl (fun _ => 0))), (p5, .inl (cy 3, 9, .inr (.inr (.inr (.inr (fun k9 => if k9 < 9 then some (rt k9) else none)))))), ((rt 0), .inl (cy 1, 3, .inr (.inl (fun _ => 0)))), ((rt 1), .inl (cy 1, 3, .inr (.inl (fun _ => 0)))), ((rt 2), .inl (cy 1, 3, .inr (.inl (fun _ => 0)))), ((rt 3), .inl (cy 1, 3, .inr (.inl (fun _ => 0)))), ((rt 4), .inl (cy 1, 3, .inr (.inl (fun _ => 0)))), ((rt 5), .inl (cy 1, 3, .inr (.inl (fun _ => 0)))), ((rt 6), .inl (cy 1, 3, .inr (.inl (fun _ => 0)))), ((rt 7), .inl (cy 1, 3, .inr (.inl (fun _ => 0)))), ((rt 8), .inl (cy 1, 3, .inr (.inl (fun _ => 0)))), (vP, .inr (7, [.ref vC, .ref p1, .ref p2, .ref p3, .ref p4, .ref p5, .ref p6, .ref p7, .int 0, .long 0, .ref p8, .int 0, .int 0, .long 1])), (vC, .inr (3, [.ref sS, .ref sJ, .int 0, .int 0]))] H := hP
  have hD : va_D A [(h0, .inr (12, [.ref vC, .ref vP, .ref vT, .ref vS, .ref vF, .ref vN, .ref vY, .int 0])), (sJ, .inr (5, [.ref j1, .ref j2, .ref j3, .ref jL, .int 0])), (jL, .inl (cy 0, 9, .inl (fun j => nI j))), (p1, .inl (cy 0, 9, .inl (fun j => nI j))), (p8, .inl (cy 2, 24, .inl (fun _ => 0))), (p5, .inl (cy 3, 9, .inr (.inr (.inr (.inr (fun k9 => if k9 < 9 then some (rt k9) else none)))))), ((rt 0), .inl (cy 1, 3, .inr (.inl (fun _ => 0)))), ((rt 1), .inl (cy 1, 3, .inr (.inl (fun _ => 0)))), ((rt 2), .inl (cy 1, 3, .inr (.inl (fun _ => 0)))), ((rt 3), .inl (cy 1, 3, .inr (.inl (fun _ => 0)))), ((rt 4), .inl (cy 1, 3, .inr (.inl (fun _ => 0)))), ((rt 5), .inl (cy 1, 3, .inr (.inl (fun _ => 0)))), ((rt 6), .inl (cy 1, 3, .inr (.inl (fun _ => 0)))), ((rt 7), .inl (cy 1, 3, .inr (.inl (fun _ => 0)))), ((rt 8), .inl (cy 1, 3, .inr (.inl (fun _ => 0)))), (vP, .inr (7, [.ref vC, .ref p1, .ref p2, .ref p3, .ref p4, .ref p5, .ref p6, .ref p7, .int 0, .long 0, .ref p8, .int 0, .int 0, .long 1])), (vC, .inr (3, [.ref sS, .ref sJ, .int 0, .int 0]))] := hD
  have hP9 := hP.sub (ws' := []) [] rfl
  have hD9 := hD.sub (ws' := []) [] (by decide) rfl
  refine W.widen (k := 0) (n := 0) (Nat.le_of_ble_eq_true rfl) (Nat.le_of_ble_eq_true rfl) ?_
  rw [hQe]
  exact W.lret (v := 0) hx hb hr (fun t ht hW => ⟨⟨0, (), rfl, rfl, ⟨by rw [ht]; exact hP9, hD9⟩⟩, hS.F ht⟩) hS.2.2 dX9_allFaults_41
set_option maxHeartbeats 4000000 in
set_option maxRecDepth 100000 in
/-- no depth -/
theorem f_depth_in (l : Launch) (D : va_G) (cy : Nat → ClassId) (h0 : Nat) (vC : Nat) (vP : Nat) (vT : Nat) (vS : Nat) (vF : Nat) (vN : Nat) (vY : Nat) (sS : Nat) (sJ : Nat) (j1 : Nat) (j2 : Nat) (j3 : Nat) (jL : Nat) (p1 : Nat) (p2 : Nat) (p3 : Nat) (p4 : Nat) (p5 : Nat) (p6 : Nat) (p7 : Nat) (p8 : Nat) (rn : Nat → Nat) (rt : Nat → Nat) (d : Int32) (sz : Nat) (hd : zDay d) : Met l yX9_depth (wz yX9_depth cX9_depth 2 (some .long)) ({ frames := 4, cells := 0, slots := 0, locals := 85 } : Room) (va_Pc [.ref h0, .int d] (zPre vwCl D cy [(h0, .inr (12, [.ref vC, .ref vP, .ref vT, .ref vS, .ref vF, .ref vN, .ref vY, .int 0])), (vC, .inr (3, [.ref sS, .ref sJ, .int 0, .int 0])), (sJ, .inr (5, [.ref j1, .ref j2, .ref j3, .ref jL, .int 0])), (jL, .inl (cy 0, 9, .inl (fun _ => 0))), (vP, .inr (7, [.ref vC, .ref p1, .ref p2, .ref p3, .ref p4, .ref p5, .ref p6, .ref p7, .int 0, .long 0, .ref p8, .int 0, .int 0, .long 1])), (p1, .inl (cy 0, 9, .inl (fun _ => 0))), (p2, .inl (cy 2, 9, .inl (fun _ => 0))), (p8, .inl (cy 2, 24, .inl (fun _ => 0))), (p3, .inl (cy 0, 9, .inl (fun _ => 0))), (p4, .inl (cy 3, 8, .inr (.inr (.inr (.inr (fun k9 => if k9 < 8 then some (rn k9) else none)))))), ((rn 0), .inl (cy 1, 11, .inr (.inl (fun _ => 0)))), ((rn 1), .inl (cy 1, 11, .inr (.inl (fun _ => 0)))), ((rn 2), .inl (cy 1, 11, .inr (.inl (fun _ => 0)))), ((rn 3), .inl (cy 1, 11, .inr (.inl (fun _ => 0)))), ((rn 4), .inl (cy 1, 11, .inr (.inl (fun _ => 0)))), ((rn 5), .inl (cy 1, 11, .inr (.inl (fun _ => 0)))), ((rn 6), .inl (cy 1, 11, .inr (.inl (fun _ => 0)))), ((rn 7), .inl (cy 1, 11, .inr (.inl (fun _ => 0)))), (p5, .inl (cy 3, 9, .inr (.inr (.inr (.inr (fun k9 => if k9 < 9 then some (rt k9) else none)))))), ((rt 0), .inl (cy 1, 3, .inr (.inl (fun _ => 0)))), ((rt 1), .inl (cy 1, 3, .inr (.inl (fun _ => 0)))), ((rt 2), .inl (cy 1, 3, .inr (.inl (fun _ => 0)))), ((rt 3), .inl (cy 1, 3, .inr (.inl (fun _ => 0)))), ((rt 4), .inl (cy 1, 3, .inr (.inl (fun _ => 0)))), ((rt 5), .inl (cy 1, 3, .inr (.inl (fun _ => 0)))), ((rt 6), .inl (cy 1, 3, .inr (.inl (fun _ => 0)))), ((rt 7), .inl (cy 1, 3, .inr (.inl (fun _ => 0)))), ((rt 8), .inl (cy 1, 3, .inr (.inl (fun _ => 0))))] sz)) (va_Ql (fun (r : Int64) (_ : Unit) => r = 0) (fun (u : Unit) t => zPost vwCl D (va_A [(h0, .inr (12, [.ref vC, .ref vP, .ref vT, .ref vS, .ref vF, .ref vN, .ref vY, .int 0])), (vC, .inr (3, [.ref sS, .ref sJ, .int 0, .int 0])), (sJ, .inr (5, [.ref j1, .ref j2, .ref j3, .ref jL, .int 0])), (jL, .inl (cy 0, 9, .inl (fun _ => 0))), (vP, .inr (7, [.ref vC, .ref p1, .ref p2, .ref p3, .ref p4, .ref p5, .ref p6, .ref p7, .int 0, .long 0, .ref p8, .int 0, .int 0, .long 1])), (p1, .inl (cy 0, 9, .inl (fun _ => 0))), (p2, .inl (cy 2, 9, .inl (fun _ => 0))), (p8, .inl (cy 2, 24, .inl (fun _ => 0))), (p3, .inl (cy 0, 9, .inl (fun _ => 0))), (p4, .inl (cy 3, 8, .inr (.inr (.inr (.inr (fun k9 => if k9 < 8 then some (rn k9) else none)))))), ((rn 0), .inl (cy 1, 11, .inr (.inl (fun _ => 0)))), ((rn 1), .inl (cy 1, 11, .inr (.inl (fun _ => 0)))), ((rn 2), .inl (cy 1, 11, .inr (.inl (fun _ => 0)))), ((rn 3), .inl (cy 1, 11, .inr (.inl (fun _ => 0)))), ((rn 4), .inl (cy 1, 11, .inr (.inl (fun _ => 0)))), ((rn 5), .inl (cy 1, 11, .inr (.inl (fun _ => 0)))), ((rn 6), .inl (cy 1, 11, .inr (.inl (fun _ => 0)))), ((rn 7), .inl (cy 1, 11, .inr (.inl (fun _ => 0)))), (p5, .inl (cy 3, 9, .inr (.inr (.inr (.inr (fun k9 => if k9 < 9 then some (rt k9) else none)))))), ((rt 0), .inl (cy 1, 3, .inr (.inl (fun _ => 0)))), ((rt 1), .inl (cy 1, 3, .inr (.inl (fun _ => 0)))), ((rt 2), .inl (cy 1, 3, .inr (.inl (fun _ => 0)))), ((rt 3), .inl (cy 1, 3, .inr (.inl (fun _ => 0)))), ((rt 4), .inl (cy 1, 3, .inr (.inl (fun _ => 0)))), ((rt 5), .inl (cy 1, 3, .inr (.inl (fun _ => 0)))), ((rt 6), .inl (cy 1, 3, .inr (.inl (fun _ => 0)))), ((rt 7), .inl (cy 1, 3, .inr (.inl (fun _ => 0)))), ((rt 8), .inl (cy 1, 3, .inr (.inl (fun _ => 0))))] sz) [] t) (va_A [(h0, .inr (12, [.ref vC, .ref vP, .ref vT, .ref vS, .ref vF, .ref vN, .ref vY, .int 0])), (vC, .inr (3, [.ref sS, .ref sJ, .int 0, .int 0])), (sJ, .inr (5, [.ref j1, .ref j2, .ref j3, .ref jL, .int 0])), (jL, .inl (cy 0, 9, .inl (fun _ => 0))), (vP, .inr (7, [.ref vC, .ref p1, .ref p2, .ref p3, .ref p4, .ref p5, .ref p6, .ref p7, .int 0, .long 0, .ref p8, .int 0, .int 0, .long 1])), (p1, .inl (cy 0, 9, .inl (fun _ => 0))), (p2, .inl (cy 2, 9, .inl (fun _ => 0))), (p8, .inl (cy 2, 24, .inl (fun _ => 0))), (p3, .inl (cy 0, 9, .inl (fun _ => 0))), (p4, .inl (cy 3, 8, .inr (.inr (.inr (.inr (fun k9 => if k9 < 8 then some (rn k9) else none)))))), ((rn 0), .inl (cy 1, 11, .inr (.inl (fun _ => 0)))), ((rn 1), .inl (cy 1, 11, .inr (.inl (fun _ => 0)))), ((rn 2), .inl (cy 1, 11, .inr (.inl (fun _ => 0)))), ((rn 3), .inl (cy 1, 11, .inr (.inl (fun _ => 0)))), ((rn 4), .inl (cy 1, 11, .inr (.inl (fun _ => 0)))), ((rn 5), .inl (cy 1, 11, .inr (.inl (fun _ => 0)))), ((rn 6), .inl (cy 1, 11, .inr (.inl (fun _ => 0)))), ((rn 7), .inl (cy 1, 11, .inr (.inl (fun _ => 0)))), (p5, .inl (cy 3, 9, .inr (.inr (.inr (.inr (fun k9 => if k9 < 9 then some (rt k9) else none)))))), ((rt 0), .inl (cy 1, 3, .inr (.inl (fun _ => 0)))), ((rt 1), .inl (cy 1, 3, .inr (.inl (fun _ => 0)))), ((rt 2), .inl (cy 1, 3, .inr (.inl (fun _ => 0)))), ((rt 3), .inl (cy 1, 3, .inr (.inl (fun _ => 0)))), ((rt 4), .inl (cy 1, 3, .inr (.inl (fun _ => 0)))), ((rt 5), .inl (cy 1, 3, .inr (.inl (fun _ => 0)))), ((rt 6), .inl (cy 1, 3, .inr (.inl (fun _ => 0)))), ((rt 7), .inl (cy 1, 3, .inr (.inl (fun _ => 0)))), ((rt 8), .inl (cy 1, 3, .inr (.inl (fun _ => 0))))] sz)) 0 0 (va_A [(h0, .inr (12, [.ref vC, .ref vP, .ref vT, .ref vS, .ref vF, .ref vN, .ref vY, .int 0])), (vC, .inr (3, [.ref sS, .ref sJ, .int 0, .int 0])), (sJ, .inr (5, [.ref j1, .ref j2, .ref j3, .ref jL, .int 0])), (jL, .inl (cy 0, 9, .inl (fun _ => 0))), (vP, .inr (7, [.ref vC, .ref p1, .ref p2, .ref p3, .ref p4, .ref p5, .ref p6, .ref p7, .int 0, .long 0, .ref p8, .int 0, .int 0, .long 1])), (p1, .inl (cy 0, 9, .inl (fun _ => 0))), (p2, .inl (cy 2, 9, .inl (fun _ => 0))), (p8, .inl (cy 2, 24, .inl (fun _ => 0))), (p3, .inl (cy 0, 9, .inl (fun _ => 0))), (p4, .inl (cy 3, 8, .inr (.inr (.inr (.inr (fun k9 => if k9 < 8 then some (rn k9) else none)))))), ((rn 0), .inl (cy 1, 11, .inr (.inl (fun _ => 0)))), ((rn 1), .inl (cy 1, 11, .inr (.inl (fun _ => 0)))), ((rn 2), .inl (cy 1, 11, .inr (.inl (fun _ => 0)))), ((rn 3), .inl (cy 1, 11, .inr (.inl (fun _ => 0)))), ((rn 4), .inl (cy 1, 11, .inr (.inl (fun _ => 0)))), ((rn 5), .inl (cy 1, 11, .inr (.inl (fun _ => 0)))), ((rn 6), .inl (cy 1, 11, .inr (.inl (fun _ => 0)))), ((rn 7), .inl (cy 1, 11, .inr (.inl (fun _ => 0)))), (p5, .inl (cy 3, 9, .inr (.inr (.inr (.inr (fun k9 => if k9 < 9 then some (rt k9) else none)))))), ((rt 0), .inl (cy 1, 3, .inr (.inl (fun _ => 0)))), ((rt 1), .inl (cy 1, 3, .inr (.inl (fun _ => 0)))), ((rt 2), .inl (cy 1, 3, .inr (.inl (fun _ => 0)))), ((rt 3), .inl (cy 1, 3, .inr (.inl (fun _ => 0)))), ((rt 4), .inl (cy 1, 3, .inr (.inl (fun _ => 0)))), ((rt 5), .inl (cy 1, 3, .inr (.inl (fun _ => 0)))), ((rt 6), .inl (cy 1, 3, .inr (.inl (fun _ => 0)))), ((rt 7), .inl (cy 1, 3, .inr (.inl (fun _ => 0)))), ((rt 8), .inl (cy 1, 3, .inr (.inl (fun _ => 0))))] sz) := by
  refine Met.ofW (cc := cX9_depth) (maxL := 2) (ret := (some .long)) (by decide) rfl ?_
  intro p e s m args below meth c s₁ B hml hv
  obtain ⟨rfl, hsz, hP, hK, hD0, hX, hY⟩ := hv
  have hx := B.exec
  have hb := B.bytes
  have hr := B.returns
  have hts0 := atoms_spec (ws := wz yX9_depth cX9_depth 2 (some .long)) B.pre
  have hts : ∀ w ∈ wAll, w.before _ s = true := fun w h => hts0 w (List.mem_cons_of_mem _ h)
  have hown : s.vm.findClass RX9 = some m.cls := findClass_of_methodNamed B.named
  have hlocks := B.notSynchronized
  subst hsz
  have hD := hD0.self (sz := s.heap.size)
  generalize hAe : va_A [(h0, .inr (12, [.ref vC, .ref vP, .ref vT, .ref vS, .ref vF, .ref vN, .ref vY, .int 0])), (vC, .inr (3, [.ref sS, .ref sJ, .int 0, .int 0])), (sJ, .inr (5, [.ref j1, .ref j2, .ref j3, .ref jL, .int 0])), (jL, .inl (cy 0, 9, .inl (fun _ => 0))), (vP, .inr (7, [.ref vC, .ref p1, .ref p2, .ref p3, .ref p4, .ref p5, .ref p6, .ref p7, .int 0, .long 0, .ref p8, .int 0, .int 0, .long 1])), (p1, .inl (cy 0, 9, .inl (fun _ => 0))), (p2, .inl (cy 2, 9, .inl (fun _ => 0))), (p8, .inl (cy 2, 24, .inl (fun _ => 0))), (p3, .inl (cy 0, 9, .inl (fun _ => 0))), (p4, .inl (cy 3, 8, .inr (.inr (.inr (.inr (fun k9 => if k9 < 8 then some (rn k9) else none)))))), ((rn 0), .inl (cy 1, 11, .inr (.inl (fun _ => 0)))), ((rn 1), .inl (cy 1, 11, .inr (.inl (fun _ => 0)))), ((rn 2), .inl (cy 1, 11, .inr (.inl (fun _ => 0)))), ((rn 3), .inl (cy 1, 11, .inr (.inl (fun _ => 0)))), ((rn 4), .inl (cy 1, 11, .inr (.inl (fun _ => 0)))), ((rn 5), .inl (cy 1, 11, .inr (.inl (fun _ => 0)))), ((rn 6), .inl (cy 1, 11, .inr (.inl (fun _ => 0)))), ((rn 7), .inl (cy 1, 11, .inr (.inl (fun _ => 0)))), (p5, .inl (cy 3, 9, .inr (.inr (.inr (.inr (fun k9 => if k9 < 9 then some (rt k9) else none)))))), ((rt 0), .inl (cy 1, 3, .inr (.inl (fun _ => 0)))), ((rt 1), .inl (cy 1, 3, .inr (.inl (fun _ => 0)))), ((rt 2), .inl (cy 1, 3, .inr (.inl (fun _ => 0)))), ((rt 3), .inl (cy 1, 3, .inr (.inl (fun _ => 0)))), ((rt 4), .inl (cy 1, 3, .inr (.inl (fun _ => 0)))), ((rt 5), .inl (cy 1, 3, .inr (.inl (fun _ => 0)))), ((rt 6), .inl (cy 1, 3, .inr (.inl (fun _ => 0)))), ((rt 7), .inl (cy 1, 3, .inr (.inl (fun _ => 0)))), ((rt 8), .inl (cy 1, 3, .inr (.inl (fun _ => 0))))] s.heap.size = A at hD hY ⊢
  have hA : ∀ q : Nat, s.heap.size ≤ q → A q := fun q h => by rw [← hAe]; exact Or.inr h
  have hS : va_S A s.heap s.heap [] := va_S.rf
  have hP : va_P D vwCl [(h0, .inr (12, [.ref vC, .ref vP, .ref vT, .ref vS, .ref vF, .ref vN, .ref vY, .int 0])), (vC, .inr (3, [.ref sS, .ref sJ, .int 0, .int 0])), (sJ, .inr (5, [.ref j1, .ref j2, .ref j3, .ref jL, .int 0])), (jL, .inl (cy 0, 9, .inl (fun _ => 0))), (vP, .inr (7, [.ref vC, .ref p1, .ref p2, .ref p3, .ref p4, .ref p5, .ref p6, .ref p7, .int 0, .long 0, .ref p8, .int 0, .int 0, .long 1])), (p1, .inl (cy 0, 9, .inl (fun _ => 0))), (p2, .inl (cy 2, 9, .inl (fun _ => 0))), (p8, .inl (cy 2, 24, .inl (fun _ => 0))), (p3, .inl (cy 0, 9, .inl (fun _ => 0))), (p4, .inl (cy 3, 8, .inr (.inr (.inr (.inr (fun k9 => if k9 < 8 then some (rn k9) else none)))))), ((rn 0), .inl (cy 1, 11, .inr (.inl (fun _ => 0)))), ((rn 1), .inl (cy 1, 11, .inr (.inl (fun _ => 0)))), ((rn 2), .inl (cy 1, 11, .inr (.inl (fun _ => 0)))), ((rn 3), .inl (cy 1, 11, .inr (.inl (fun _ => 0)))), ((rn 4), .inl (cy 1, 11, .inr (.inl (fun _ => 0)))), ((rn 5), .inl (cy 1, 11, .inr (.inl (fun _ => 0)))), ((rn 6), .inl (cy 1, 11, .inr (.inl (fun _ => 0)))), ((rn 7), .inl (cy 1, 11, .inr (.inl (fun _ => 0)))), (p5, .inl (cy 3, 9, .inr (.inr (.inr (.inr (fun k9 => if k9 < 9 then some (rt k9) else none)))))), ((rt 0), .inl (cy 1, 3, .inr (.inl (fun _ => 0)))), ((rt 1), .inl (cy 1, 3, .inr (.inl (fun _ => 0)))), ((rt 2), .inl (cy 1, 3, .inr (.inl (fun _ => 0)))), ((rt 3), .inl (cy 1, 3, .inr (.inl (fun _ => 0)))), ((rt 4), .inl (cy 1, 3, .inr (.inl (fun _ => 0)))), ((rt 5), .inl (cy 1, 3, .inr (.inl (fun _ => 0)))), ((rt 6), .inl (cy 1, 3, .inr (.inl (fun _ => 0)))), ((rt 7), .inl (cy 1, 3, .inr (.inl (fun _ => 0)))), ((rt 8), .inl (cy 1, 3, .inr (.inl (fun _ => 0))))] s.heap := hP
  have hl := lv_entry ([.ref h0, .int d]) (n := 2) (Nat.le_of_ble_eq_true rfl)
  rw [lg_entry_eq]
  generalize (lg_sl ([.ref h0, .int d]) ++ List.replicate (2 - (lg_sl ([.ref h0, .int d])).length) Slot.unset).toArray = ls at hl ⊢
  have hl : lv_has ls 2 [(0, .ref h0), (1, .int d)] := hl
  refine z_anyQ (fun Q hQe => ?_)
  refine lv_iload_n hx hb dX9_depth_0 rfl (lv_at hl 1 rfl) ?_
  refine zq_v (wc := []) (wr := [(h0, .inr (12, [.ref vC, .ref vP, .ref vT, .ref vS, .ref vF, .ref vN, .ref vY, .int 0])), (vC, .inr (3, [.ref sS, .ref sJ, .int 0, .int 0])), (sJ, .inr (5, [.ref j1, .ref j2, .ref j3, .ref jL, .int 0])), (jL, .inl (cy 0, 9, .inl (fun _ => 0))), (vP, .inr (7, [.ref vC, .ref p1, .ref p2, .ref p3, .ref p4, .ref p5, .ref p6, .ref p7, .int 0, .long 0, .ref p8, .int 0, .int 0, .long 1])), (p1, .inl (cy 0, 9, .inl (fun _ => 0))), (p2, .inl (cy 2, 9, .inl (fun _ => 0))), (p8, .inl (cy 2, 24, .inl (fun _ => 0))), (p3, .inl (cy 0, 9, .inl (fun _ => 0))), (p4, .inl (cy 3, 8, .inr (.inr (.inr (.inr (fun k9 => if k9 < 8 then some (rn k9) else none)))))), ((rn 0), .inl (cy 1, 11, .inr (.inl (fun _ => 0)))), ((rn 1), .inl (cy 1, 11, .inr (.inl (fun _ => 0)))), ((rn 2), .inl (cy 1, 11, .inr (.inl (fun _ => 0)))), ((rn 3), .inl (cy 1, 11, .inr (.inl (fun _ => 0)))), ((rn 4), .inl (cy 1, 11, .inr (.inl (fun _ => 0)))), ((rn 5), .inl (cy 1, 11, .inr (.inl (fun _ => 0)))), ((rn 6), .inl (cy 1, 11, .inr (.inl (fun _ => 0)))), ((rn 7), .inl (cy 1, 11, .inr (.inl (fun _ => 0)))), (p5, .inl (cy 3, 9, .inr (.inr (.inr (.inr (fun k9 => if k9 < 9 then some (rt k9) else none)))))), ((rt 0), .inl (cy 1, 3, .inr (.inl (fun _ => 0)))), ((rt 1), .inl (cy 1, 3, .inr (.inl (fun _ => 0)))), ((rt 2), .inl (cy 1, 3, .inr (.inl (fun _ => 0)))), ((rt 3), .inl (cy 1, 3, .inr (.inl (fun _ => 0)))), ((rt 4), .inl (cy 1, 3, .inr (.inl (fun _ => 0)))), ((rt 5), .inl (cy 1, 3, .inr (.inl (fun _ => 0)))), ((rt 6), .inl (cy 1, 3, .inr (.inl (fun _ => 0)))), ((rt 7), .inl (cy 1, 3, .inr (.inl (fun _ => 0)))), ((rt 8), .inl (cy 1, 3, .inr (.inl (fun _ => 0))))]) (va_runS (As := [.int d]) (rest := []) ⟨hx, hb, hml, hown, hts⟩ (k_needDay_ok l D cy d s.heap.size hd) (va_cwS 1 hts (gzS (gz q192) q191 q193 q174) rfl rfl rfl vX9_needDay.2 ⟨Nat.le_of_ble_eq_true rfl, Nat.le_of_ble_eq_true rfl⟩) (zpS hK hX hY hP hD hS hA [] (by decide) rfl) rfl rfl hl.1 rfl (lv_room (Nat.le_of_ble_eq_true rfl)) dX9_depth_1 ⟨Nat.le_of_ble_eq_true rfl, Nat.le_of_ble_eq_true rfl⟩) hP hD hS hA [] [0, 1, 2, 3, 4, 5, 6, 7, 8, 9, 10, 11, 12, 13, 14, 15, 16, 17, 18, 19, 20, 21, 22, 23, 24, 25, 26, 27] rfl rfl (by decide) (by decide) (fun u1 H locs hw hP hD hS => ?_)
  have hP : va_P D vwCl [(h0, .inr (12, [.ref vC, .ref vP, .ref vT, .ref vS, .ref vF, .ref vN, .ref vY, .int 0])), (vC, .inr (3, [.ref sS, .ref sJ, .int 0, .int 0])), (sJ, .inr (5, [.ref j1, .ref j2, .ref j3, .ref jL, .int 0])), (jL, .inl (cy 0, 9, .inl (fun _ => 0))), (vP, .inr (7, [.ref vC, .ref p1, .ref p2, .ref p3, .ref p4, .ref p5, .ref p6, .ref p7, .int 0, .long 0, .ref p8, .int 0, .int 0, .long 1])), (p1, .inl (cy 0, 9, .inl (fun _ => 0))), (p2, .inl (cy 2, 9, .inl (fun _ => 0))), (p8, .inl (cy 2, 24, .inl (fun _ => 0))), (p3, .inl (cy 0, 9, .inl (fun _ => 0))), (p4, .inl (cy 3, 8, .inr (.inr (.inr (.inr (fun k9 => if k9 < 8 then some (rn k9) else none)))))), ((rn 0), .inl (cy 1, 11, .inr (.inl (fun _ => 0)))), ((rn 1), .inl (cy 1, 11, .inr (.inl (fun _ => 0)))), ((rn 2), .inl (cy 1, 11, .inr (.inl (fun _ => 0)))), ((rn 3), .inl (cy 1, 11, .inr (.inl (fun _ => 0)))), ((rn 4), .inl (cy 1, 11, .inr (.inl (fun _ => 0)))), ((rn 5), .inl (cy 1, 11, .inr (.inl (fun _ => 0)))), ((rn 6), .inl (cy 1, 11, .inr (.inl (fun _ => 0)))), ((rn 7), .inl (cy 1, 11, .inr (.inl (fun _ => 0)))), (p5, .inl (cy 3, 9, .inr (.inr (.inr (.inr (fun k9 => if k9 < 9 then some (rt k9) else none)))))), ((rt 0), .inl (cy 1, 3, .inr (.inl (fun _ => 0)))), ((rt 1), .inl (cy 1, 3, .inr (.inl (fun _ => 0)))), ((rt 2), .inl (cy 1, 3, .inr (.inl (fun _ => 0)))), ((rt 3), .inl (cy 1, 3, .inr (.inl (fun _ => 0)))), ((rt 4), .inl (cy 1, 3, .inr (.inl (fun _ => 0)))), ((rt 5), .inl (cy 1, 3, .inr (.inl (fun _ => 0)))), ((rt 6), .inl (cy 1, 3, .inr (.inl (fun _ => 0)))), ((rt 7), .inl (cy 1, 3, .inr (.inl (fun _ => 0)))), ((rt 8), .inl (cy 1, 3, .inr (.inl (fun _ => 0))))] H := hP
  have hD : va_D A [(h0, .inr (12, [.ref vC, .ref vP, .ref vT, .ref vS, .ref vF, .ref vN, .ref vY, .int 0])), (vC, .inr (3, [.ref sS, .ref sJ, .int 0, .int 0])), (sJ, .inr (5, [.ref j1, .ref j2, .ref j3, .ref jL, .int 0])), (jL, .inl (cy 0, 9, .inl (fun _ => 0))), (vP, .inr (7, [.ref vC, .ref p1, .ref p2, .ref p3, .ref p4, .ref p5, .ref p6, .ref p7, .int 0, .long 0, .ref p8, .int 0, .int 0, .long 1])), (p1, .inl (cy 0, 9, .inl (fun _ => 0))), (p2, .inl (cy 2, 9, .inl (fun _ => 0))), (p8, .inl (cy 2, 24, .inl (fun _ => 0))), (p3, .inl (cy 0, 9, .inl (fun _ => 0))), (p4, .inl (cy 3, 8, .inr (.inr (.inr (.inr (fun k9 => if k9 < 8 then some (rn k9) else none)))))), ((rn 0), .inl (cy 1, 11, .inr (.inl (fun _ => 0)))), ((rn 1), .inl (cy 1, 11, .inr (.inl (fun _ => 0)))), ((rn 2), .inl (cy 1, 11, .inr (.inl (fun _ => 0)))), ((rn 3), .inl (cy 1, 11, .inr (.inl (fun _ => 0)))), ((rn 4), .inl (cy 1, 11, .inr (.inl (fun _ => 0)))), ((rn 5), .inl (cy 1, 11, .inr (.inl (fun _ => 0)))), ((rn 6), .inl (cy 1, 11, .inr (.inl (fun _ => 0)))), ((rn 7), .inl (cy 1, 11, .inr (.inl (fun _ => 0)))), (p5, .inl (cy 3, 9, .inr (.inr (.inr (.inr (fun k9 => if k9 < 9 then some (rt k9) else none)))))), ((rt 0), .inl (cy 1, 3, .inr (.inl (fun _ => 0)))), ((rt 1), .inl (cy 1, 3, .inr (.inl (fun _ => 0)))), ((rt 2), .inl (cy 1, 3, .inr (.inl (fun _ => 0)))), ((rt 3), .inl (cy 1, 3, .inr (.inl (fun _ => 0)))), ((rt 4), .inl (cy 1, 3, .inr (.inl (fun _ => 0)))), ((rt 5), .inl (cy 1, 3, .inr (.inl (fun _ => 0)))), ((rt 6), .inl (cy 1, 3, .inr (.inl (fun _ => 0)))), ((rt 7), .inl (cy 1, 3, .inr (.inl (fun _ => 0)))), ((rt 8), .inl (cy 1, 3, .inr (.inl (fun _ => 0))))] := hD
  refine lv_aload_n hx hb dX9_depth_4 rfl (lv_at hl 0 rfl) ?_
  refine va_get (D := D) (ci := 12) (v := .ref vP) (C := RX9) (T := TX9) (N := 8) hx hb hts iRX9 hown hK hP 0 rfl rfl 1 (by decide) (hts _ q133) (fun _ h9 => h9) rfl dX9_depth_5 ?_
  refine lv_iload_n hx hb dX9_depth_8 rfl (lv_at hl 1 rfl) ?_
  refine lv_iconst (v := (-1)) hx hb dX9_depth_9 (by decide) ?_
  refine zq_v (wc := [(vP, .inr (7, [.ref vC, .ref p1, .ref p2, .ref p3, .ref p4, .ref p5, .ref p6, .ref p7, .int 0, .long 0, .ref p8, .int 0, .int 0, .long 1])), (vC, .inr (3, [.ref sS, .ref sJ, .int 0, .int 0])), (sJ, .inr (5, [.ref j1, .ref j2, .ref j3, .ref jL, .int 0])), (jL, .inl (cy 0, 9, .inl (fun _ => 0))), (p1, .inl (cy 0, 9, .inl (fun _ => 0))), (p2, .inl (cy 2, 9, .inl (fun _ => 0))), (p8, .inl (cy 2, 24, .inl (fun _ => 0)))]) (wr := [(h0, .inr (12, [.ref vC, .ref vP, .ref vT, .ref vS, .ref vF, .ref vN, .ref vY, .int 0])), (p3, .inl (cy 0, 9, .inl (fun _ => 0))), (p4, .inl (cy 3, 8, .inr (.inr (.inr (.inr (fun k9 => if k9 < 8 then some (rn k9) else none)))))), ((rn 0), .inl (cy 1, 11, .inr (.inl (fun _ => 0)))), ((rn 1), .inl (cy 1, 11, .inr (.inl (fun _ => 0)))), ((rn 2), .inl (cy 1, 11, .inr (.inl (fun _ => 0)))), ((rn 3), .inl (cy 1, 11, .inr (.inl (fun _ => 0)))), ((rn 4), .inl (cy 1, 11, .inr (.inl (fun _ => 0)))), ((rn 5), .inl (cy 1, 11, .inr (.inl (fun _ => 0)))), ((rn 6), .inl (cy 1, 11, .inr (.inl (fun _ => 0)))), ((rn 7), .inl (cy 1, 11, .inr (.inl (fun _ => 0)))), (p5, .inl (cy 3, 9, .inr (.inr (.inr (.inr (fun k9 => if k9 < 9 then some (rt k9) else none)))))), ((rt 0), .inl (cy 1, 3, .inr (.inl (fun _ => 0)))), ((rt 1), .inl (cy 1, 3, .inr (.inl (fun _ => 0)))), ((rt 2), .inl (cy 1, 3, .inr (.inl (fun _ => 0)))), ((rt 3), .inl (cy 1, 3, .inr (.inl (fun _ => 0)))), ((rt 4), .inl (cy 1, 3, .inr (.inl (fun _ => 0)))), ((rt 5), .inl (cy 1, 3, .inr (.inl (fun _ => 0)))), ((rt 6), .inl (cy 1, 3, .inr (.inl (fun _ => 0)))), ((rt 7), .inl (cy 1, 3, .inr (.inl (fun _ => 0)))), ((rt 8), .inl (cy 1, 3, .inr (.inl (fun _ => 0))))]) (va_runV (As := [.int d, .int (-1)]) (rest := []) ⟨hx, hb, hml, hown, hts⟩ (k_hang l D cy vP vC p1 p2 p3 p4 p5 p6 p7 p8 0 0 0 0 1 sS sJ j1 j2 j3 jL d (-1) (fun _ => 0) (fun _ => 0) (fun _ => 0) (fun _ => 0) H.size ) (cwV 2 hts (gzV (gz q195) q194 q196 q197 q87) rfl rfl rfl vX4_hang ⟨Nat.le_of_ble_eq_true rfl, Nat.le_of_ble_eq_true rfl⟩) (zpV (ci := 7) (T := TX4) (N := 14) (q0 := 0) hK hX hY hP hD hS hA [4, 1, 2, 3, 5, 6, 7] (by decide) rfl rfl rfl) rfl rfl hl.1 rfl (lv_room (Nat.le_of_ble_eq_true rfl)) dX9_depth_10 ⟨Nat.le_of_ble_eq_true rfl, Nat.le_of_ble_eq_true rfl⟩) hP hD hS hA [4, 1, 2, 3, 5, 6, 7] [0, 8, 9, 10, 11, 12, 13, 14, 15, 16, 17, 18, 19, 20, 21, 22, 23, 24, 25, 26, 27] rfl rfl (by decide) (by decide) (fun u3 H locs hw hP hD hS => ?_)
  have hP : va_P D vwCl [(h0, .inr (12, [.ref vC, .ref vP, .ref vT, .ref vS, .ref vF, .ref vN, .ref vY, .int 0])), (p3, .inl (cy 0, 9, .inl (fun _ => 0))), (p4, .inl (cy 3, 8, .inr (.inr (.inr (.inr (fun k9 => if k9 < 8 then some (rn k9) else none)))))), ((rn 0), .inl (cy 1, 11, .inr (.inl (fun _ => 0)))), ((rn 1), .inl (cy 1, 11, .inr (.inl (fun _ => 0)))), ((rn 2), .inl (cy 1, 11, .inr (.inl (fun _ => 0)))), ((rn 3), .inl (cy 1, 11, .inr (.inl (fun _ => 0)))), ((rn 4), .inl (cy 1, 11, .inr (.inl (fun _ => 0)))), ((rn 5), .inl (cy 1, 11, .inr (.inl (fun _ => 0)))), ((rn 6), .inl (cy 1, 11, .inr (.inl (fun _ => 0)))), ((rn 7), .inl (cy 1, 11, .inr (.inl (fun _ => 0)))), (p5, .inl (cy 3, 9, .inr (.inr (.inr (.inr (fun k9 => if k9 < 9 then some (rt k9) else none)))))), ((rt 0), .inl (cy 1, 3, .inr (.inl (fun _ => 0)))), ((rt 1), .inl (cy 1, 3, .inr (.inl (fun _ => 0)))), ((rt 2), .inl (cy 1, 3, .inr (.inl (fun _ => 0)))), ((rt 3), .inl (cy 1, 3, .inr (.inl (fun _ => 0)))), ((rt 4), .inl (cy 1, 3, .inr (.inl (fun _ => 0)))), ((rt 5), .inl (cy 1, 3, .inr (.inl (fun _ => 0)))), ((rt 6), .inl (cy 1, 3, .inr (.inl (fun _ => 0)))), ((rt 7), .inl (cy 1, 3, .inr (.inl (fun _ => 0)))), ((rt 8), .inl (cy 1, 3, .inr (.inl (fun _ => 0)))), (vP, .inr (7, [.ref vC, .ref p1, .ref p2, .ref p3, .ref p4, .ref p5, .ref p6, .ref p7, .int 0, .long 0, .ref p8, .int 0, .int 0, .long 1])), (vC, .inr (3, [.ref sS, .ref sJ, .int 0, .int 0])), (sJ, .inr (5, [.ref j1, .ref j2, .ref j3, .ref jL, .int 0])), (jL, .inl (cy 0, 9, .inl (fun j => nI j))), (p1, .inl (cy 0, 9, .inl (fun j => nI j))), (p2, .inl (cy 2, 9, .inl (fun _ => 0))), (p8, .inl (cy 2, 24, .inl (fun _ => 0)))] H := hP
  have hD : va_D A [(h0, .inr (12, [.ref vC, .ref vP, .ref vT, .ref vS, .ref vF, .ref vN, .ref vY, .int 0])), (p3, .inl (cy 0, 9, .inl (fun _ => 0))), (p4, .inl (cy 3, 8, .inr (.inr (.inr (.inr (fun k9 => if k9 < 8 then some (rn k9) else none)))))), ((rn 0), .inl (cy 1, 11, .inr (.inl (fun _ => 0)))), ((rn 1), .inl (cy 1, 11, .inr (.inl (fun _ => 0)))), ((rn 2), .inl (cy 1, 11, .inr (.inl (fun _ => 0)))), ((rn 3), .inl (cy 1, 11, .inr (.inl (fun _ => 0)))), ((rn 4), .inl (cy 1, 11, .inr (.inl (fun _ => 0)))), ((rn 5), .inl (cy 1, 11, .inr (.inl (fun _ => 0)))), ((rn 6), .inl (cy 1, 11, .inr (.inl (fun _ => 0)))), ((rn 7), .inl (cy 1, 11, .inr (.inl (fun _ => 0)))), (p5, .inl (cy 3, 9, .inr (.inr (.inr (.inr (fun k9 => if k9 < 9 then some (rt k9) else none)))))), ((rt 0), .inl (cy 1, 3, .inr (.inl (fun _ => 0)))), ((rt 1), .inl (cy 1, 3, .inr (.inl (fun _ => 0)))), ((rt 2), .inl (cy 1, 3, .inr (.inl (fun _ => 0)))), ((rt 3), .inl (cy 1, 3, .inr (.inl (fun _ => 0)))), ((rt 4), .inl (cy 1, 3, .inr (.inl (fun _ => 0)))), ((rt 5), .inl (cy 1, 3, .inr (.inl (fun _ => 0)))), ((rt 6), .inl (cy 1, 3, .inr (.inl (fun _ => 0)))), ((rt 7), .inl (cy 1, 3, .inr (.inl (fun _ => 0)))), ((rt 8), .inl (cy 1, 3, .inr (.inl (fun _ => 0)))), (vP, .inr (7, [.ref vC, .ref p1, .ref p2, .ref p3, .ref p4, .ref p5, .ref p6, .ref p7, .int 0, .long 0, .ref p8, .int 0, .int 0, .long 1])), (vC, .inr (3, [.ref sS, .ref sJ, .int 0, .int 0])), (sJ, .inr (5, [.ref j1, .ref j2, .ref j3, .ref jL, .int 0])), (jL, .inl (cy 0, 9, .inl (fun j => nI j))), (p1, .inl (cy 0, 9, .inl (fun j => nI j))), (p2, .inl (cy 2, 9, .inl (fun _ => 0))), (p8, .inl (cy 2, 24, .inl (fun _ => 0)))] := hD
  refine lv_aload_n hx hb dX9_depth_13 rfl (lv_at hl 0 rfl) ?_
  refine va_get (D := D) (ci := 12) (v := .ref vP) (C := RX9) (T := TX9) (N := 8) hx hb hts iRX9 hown hK hP 0 rfl rfl 1 (by decide) (hts _ q133) (fun _ h9 => h9) rfl dX9_depth_14 ?_
  refine lv_iconst (v := 0) hx hb dX9_depth_17 (by decide) ?_
  refine zq_v (wc := [(vP, .inr (7, [.ref vC, .ref p1, .ref p2, .ref p3, .ref p4, .ref p5, .ref p6, .ref p7, .int 0, .long 0, .ref p8, .int 0, .int 0, .long 1])), (vC, .inr (3, [.ref sS, .ref sJ, .int 0, .int 0])), (p2, .inl (cy 2, 9, .inl (fun _ => 0))), (p3, .inl (cy 0, 9, .inl (fun _ => 0))), (p4, .inl (cy 3, 8, .inr (.inr (.inr (.inr (fun k9 => if k9 < 8 then some (rn k9) else none)))))), ((rn 0), .inl (cy 1, 11, .inr (.inl (fun _ => 0)))), ((rn 1), .inl (cy 1, 11, .inr (.inl (fun _ => 0)))), ((rn 2), .inl (cy 1, 11, .inr (.inl (fun _ => 0)))), ((rn 3), .inl (cy 1, 11, .inr (.inl (fun _ => 0)))), ((rn 4), .inl (cy 1, 11, .inr (.inl (fun _ => 0)))), ((rn 5), .inl (cy 1, 11, .inr (.inl (fun _ => 0)))), ((rn 6), .inl (cy 1, 11, .inr (.inl (fun _ => 0)))), ((rn 7), .inl (cy 1, 11, .inr (.inl (fun _ => 0)))), (p5, .inl (cy 3, 9, .inr (.inr (.inr (.inr (fun k9 => if k9 < 9 then some (rt k9) else none)))))), ((rt 0), .inl (cy 1, 3, .inr (.inl (fun _ => 0)))), ((rt 1), .inl (cy 1, 3, .inr (.inl (fun _ => 0)))), ((rt 2), .inl (cy 1, 3, .inr (.inl (fun _ => 0)))), ((rt 3), .inl (cy 1, 3, .inr (.inl (fun _ => 0)))), ((rt 4), .inl (cy 1, 3, .inr (.inl (fun _ => 0)))), ((rt 5), .inl (cy 1, 3, .inr (.inl (fun _ => 0)))), ((rt 6), .inl (cy 1, 3, .inr (.inl (fun _ => 0)))), ((rt 7), .inl (cy 1, 3, .inr (.inl (fun _ => 0)))), ((rt 8), .inl (cy 1, 3, .inr (.inl (fun _ => 0))))]) (wr := [(h0, .inr (12, [.ref vC, .ref vP, .ref vT, .ref vS, .ref vF, .ref vN, .ref vY, .int 0])), (sJ, .inr (5, [.ref j1, .ref j2, .ref j3, .ref jL, .int 0])), (jL, .inl (cy 0, 9, .inl (fun j => nI j))), (p1, .inl (cy 0, 9, .inl (fun j => nI j))), (p8, .inl (cy 2, 24, .inl (fun _ => 0)))]) (va_runV (As := [.int 0]) (rest := []) ⟨hx, hb, hml, hown, hts⟩ (k_weigh0 l D cy vP vC p1 p2 p3 p4 p5 p6 p7 p8 0 0 0 1 sS sJ rn rt H.size ) (cwV 1 hts (gzV (gz q201) q200 q202 q203 q87) rfl rfl rfl vX4_weigh ⟨Nat.le_of_ble_eq_true rfl, Nat.le_of_ble_eq_true rfl⟩) (zpV (ci := 7) (T := TX4) (N := 14) (q0 := 0) hK hX hY hP hD hS hA [21, 22, 26, 1, 2, 3, 4, 5, 6, 7, 8, 9, 10, 11, 12, 13, 14, 15, 16, 17, 18, 19, 20] (by decide) rfl rfl rfl) rfl rfl hl.1 rfl (lv_room (Nat.le_of_ble_eq_true rfl)) dX9_depth_18 ⟨Nat.le_of_ble_eq_true rfl, Nat.le_of_ble_eq_true rfl⟩) hP hD hS hA [21, 22, 26, 1, 2, 3, 4, 5, 6, 7, 8, 9, 10, 11, 12, 13, 14, 15, 16, 17, 18, 19, 20] [0, 23, 24, 25, 27] rfl rfl (by decide) (by decide) (fun u5 H locs hw hP hD hS => ?_)
  have hP : va_P D vwCl [(h0, .inr (12, [.ref vC, .ref vP, .ref vT, .ref vS, .ref vF, .ref vN, .ref vY, .int 0])), (sJ, .inr (5, [.ref j1, .ref j2, .ref j3, .ref jL, .int 0])), (jL, .inl (cy 0, 9, .inl (fun j => nI j))), (p1, .inl (cy 0, 9, .inl (fun j => nI j))), (p8, .inl (cy 2, 24, .inl (fun _ => 0))), (vP, .inr (7, [.ref vC, .ref p1, .ref p2, .ref p3, .ref p4, .ref p5, .ref p6, .ref p7, .int 0, .long 0, .ref p8, .int 0, .int 0, .long 1])), (vC, .inr (3, [.ref sS, .ref sJ, .int 0, .int 0])), (p5, .inl (cy 3, 9, .inr (.inr (.inr (.inr (fun k9 => if k9 < 9 then some (rt k9) else none)))))), ((rt 0), .inl (cy 1, 3, .inr (.inl (fun _ => 0)))), ((rt 1), .inl (cy 1, 3, .inr (.inl (fun _ => 0)))), ((rt 2), .inl (cy 1, 3, .inr (.inl (fun _ => 0)))), ((rt 3), .inl (cy 1, 3, .inr (.inl (fun _ => 0)))), ((rt 4), .inl (cy 1, 3, .inr (.inl (fun _ => 0)))), ((rt 5), .inl (cy 1, 3, .inr (.inl (fun _ => 0)))), ((rt 6), .inl (cy 1, 3, .inr (.inl (fun _ => 0)))), ((rt 7), .inl (cy 1, 3, .inr (.inl (fun _ => 0)))), ((rt 8), .inl (cy 1, 3, .inr (.inl (fun _ => 0))))] H := hP
  have hD : va_D A [(h0, .inr (12, [.ref vC, .ref vP, .ref vT, .ref vS, .ref vF, .ref vN, .ref vY, .int 0])), (sJ, .inr (5, [.ref j1, .ref j2, .ref j3, .ref jL, .int 0])), (jL, .inl (cy 0, 9, .inl (fun j => nI j))), (p1, .inl (cy 0, 9, .inl (fun j => nI j))), (p8, .inl (cy 2, 24, .inl (fun _ => 0))), (vP, .inr (7, [.ref vC, .ref p1, .ref p2, .ref p3, .ref p4, .ref p5, .ref p6, .ref p7, .int 0, .long 0, .ref p8, .int 0, .int 0, .long 1])), (vC, .inr (3, [.ref sS, .ref sJ, .int 0, .int 0])), (p5, .inl (cy 3, 9, .inr (.inr (.inr (.inr (fun k9 => if k9 < 9 then some (rt k9) else none)))))), ((rt 0), .inl (cy 1, 3, .inr (.inl (fun _ => 0)))), ((rt 1), .inl (cy 1, 3, .inr (.inl (fun _ => 0)))), ((rt 2), .inl (cy 1, 3, .inr (.inl (fun _ => 0)))), ((rt 3), .inl (cy 1, 3, .inr (.inl (fun _ => 0)))), ((rt 4), .inl (cy 1, 3, .inr (.inl (fun _ => 0)))), ((rt 5), .inl (cy 1, 3, .inr (.inl (fun _ => 0)))), ((rt 6), .inl (cy 1, 3, .inr (.inl (fun _ => 0)))), ((rt 7), .inl (cy 1, 3, .inr (.inl (fun _ => 0)))), ((rt 8), .inl (cy 1, 3, .inr (.inl (fun _ => 0))))] := hD
  refine lv_aload_n hx hb dX9_depth_21 rfl (lv_at hl 0 rfl) ?_
  refine va_get (D := D) (ci := 12) (v := .ref vP) (C := RX9) (T := TX9) (N := 8) hx hb hts iRX9 hown hK hP 0 rfl rfl 1 (by decide) (hts _ q133) (fun _ h9 => h9) rfl dX9_depth_22 ?_
  refine lv_iconst (v := 2) hx hb dX9_depth_25 (by decide) ?_
  refine zq_l (wc := [(vP, .inr (7, [.ref vC, .ref p1, .ref p2, .ref p3, .ref p4, .ref p5, .ref p6, .ref p7, .int 0, .long 0, .ref p8, .int 0, .int 0, .long 1])), (p5, .inl (cy 3, 9, .inr (.inr (.inr (.inr (fun k9 => if k9 < 9 then some (rt k9) else none)))))), ((rt 0), .inl (cy 1, 3, .inr (.inl (fun _ => 0)))), ((rt 1), .inl (cy 1, 3, .inr (.inl (fun _ => 0)))), ((rt 2), .inl (cy 1, 3, .inr (.inl (fun _ => 0)))), ((rt 3), .inl (cy 1, 3, .inr (.inl (fun _ => 0)))), ((rt 4), .inl (cy 1, 3, .inr (.inl (fun _ => 0)))), ((rt 5), .inl (cy 1, 3, .inr (.inl (fun _ => 0)))), ((rt 6), .inl (cy 1, 3, .inr (.inl (fun _ => 0)))), ((rt 7), .inl (cy 1, 3, .inr (.inl (fun _ => 0)))), ((rt 8), .inl (cy 1, 3, .inr (.inl (fun _ => 0))))]) (wr := [(h0, .inr (12, [.ref vC, .ref vP, .ref vT, .ref vS, .ref vF, .ref vN, .ref vY, .int 0])), (sJ, .inr (5, [.ref j1, .ref j2, .ref j3, .ref jL, .int 0])), (jL, .inl (cy 0, 9, .inl (fun j => nI j))), (p1, .inl (cy 0, 9, .inl (fun j => nI j))), (p8, .inl (cy 2, 24, .inl (fun _ => 0))), (vC, .inr (3, [.ref sS, .ref sJ, .int 0, .int 0]))]) (va_runV (As := [.int 2]) (rest := []) ⟨hx, hb, hml, hown, hts⟩ (k_topSpread l D cy vP vC p1 p2 p3 p4 p5 p6 p7 p8 0 0 0 0 1 rt H.size ) (cwV 1 hts (gzV (gz q214) q213 q215 q216 q87) rfl rfl rfl vX4_topSpread ⟨Nat.le_of_ble_eq_true rfl, Nat.le_of_ble_eq_true rfl⟩) (zpV (ci := 7) (T := TX4) (N := 14) (q0 := 0) hK hX hY hP hD hS hA [5, 7, 8, 9, 10, 11, 12, 13, 14, 15, 16] (by decide) rfl rfl rfl) rfl rfl hl.1 rfl (lv_room (Nat.le_of_ble_eq_true rfl)) dX9_depth_26 ⟨Nat.le_of_ble_eq_true rfl, Nat.le_of_ble_eq_true rfl⟩) hP hD hS hA [5, 7, 8, 9, 10, 11, 12, 13, 14, 15, 16] [0, 1, 2, 3, 4, 6] rfl rfl (by decide) (by decide) (fun x8 u7 H locs hw hP hD hS => ?_)
  obtain rfl : x8 = 0 := hw
  have hP : va_P D vwCl [(h0, .inr (12, [.ref vC, .ref vP, .ref vT, .ref vS, .ref vF, .ref vN, .ref vY, .int 0])), (sJ, .inr (5, [.ref j1, .ref j2, .ref j3, .ref jL, .int 0])), (jL, .inl (cy 0, 9, .inl (fun j => nI j))), (p1, .inl (cy 0, 9, .inl (fun j => nI j))), (p8, .inl (cy 2, 24, .inl (fun _ => 0))), (vC, .inr (3, [.ref sS, .ref sJ, .int 0, .int 0])), (vP, .inr (7, [.ref vC, .ref p1, .ref p2, .ref p3, .ref p4, .ref p5, .ref p6, .ref p7, .int 0, .long 0, .ref p8, .int 0, .int 0, .long 1]))] H := hP
  have hD : va_D A [(h0, .inr (12, [.ref vC, .ref vP, .ref vT, .ref vS, .ref vF, .ref vN, .ref vY, .int 0])), (sJ, .inr (5, [.ref j1, .ref j2, .ref j3, .ref jL, .int 0])), (jL, .inl (cy 0, 9, .inl (fun j => nI j))), (p1, .inl (cy 0, 9, .inl (fun j => nI j))), (p8, .inl (cy 2, 24, .inl (fun _ => 0))), (vC, .inr (3, [.ref sS, .ref sJ, .int 0, .int 0])), (vP, .inr (7, [.ref vC, .ref p1, .ref p2, .ref p3, .ref p4, .ref p5, .ref p6, .ref p7, .int 0, .long 0, .ref p8, .int 0, .int 0, .long 1]))] := hD
  refine lv_ldc2 (v := 100) hx hb hown (hts _ q217) dX9_depth_29 ?_
  refine lv_aload_n hx hb dX9_depth_32 rfl (lv_at hl 0 rfl) ?_
  refine va_get (D := D) (ci := 12) (v := .ref vP) (C := RX9) (T := TX9) (N := 8) hx hb hts iRX9 hown hK hP 0 rfl rfl 1 (by decide) (hts _ q133) (fun _ h9 => h9) rfl dX9_depth_33 ?_
  refine va_get (D := D) (ci := 7) (v := .long 1) (C := RX4) (T := TX4) (N := 14) hx hb hts iRX4 hown hK hP 6 rfl rfl 13 (by decide) (hts _ q209) (fun _ h9 => h9) rfl dX9_depth_36 ?_
  refine zq_l (wc := []) (wr := [(h0, .inr (12, [.ref vC, .ref vP, .ref vT, .ref vS, .ref vF, .ref vN, .ref vY, .int 0])), (sJ, .inr (5, [.ref j1, .ref j2, .ref j3, .ref jL, .int 0])), (jL, .inl (cy 0, 9, .inl (fun j => nI j))), (p1, .inl (cy 0, 9, .inl (fun j => nI j))), (p8, .inl (cy 2, 24, .inl (fun _ => 0))), (vC, .inr (3, [.ref sS, .ref sJ, .int 0, .int 0])), (vP, .inr (7, [.ref vC, .ref p1, .ref p2, .ref p3, .ref p4, .ref p5, .ref p6, .ref p7, .int 0, .long 0, .ref p8, .int 0, .int 0, .long 1]))]) (va_runS (As := [.long 0, .long 100, .long 1]) (rest := []) ⟨hx, hb, hml, hown, hts⟩ (k_floored100 l D cy  H.size ) (va_cwS 3 hts (gzS (gz q211) q210 q212 q174) rfl rfl rfl vX9_flooredTimes.2 ⟨Nat.le_of_ble_eq_true rfl, Nat.le_of_ble_eq_true rfl⟩) (zpS hK hX hY hP hD hS hA [] (by decide) rfl) rfl rfl hl.1 rfl (lv_room (Nat.le_of_ble_eq_true rfl)) dX9_depth_39 ⟨Nat.le_of_ble_eq_true rfl, Nat.le_of_ble_eq_true rfl⟩) hP hD hS hA [] [0, 1, 2, 3, 4, 5, 6] rfl rfl (by decide) (by decide) (fun x10 u9 H locs hw hP hD hS => ?_)
  obtain rfl : x10 = 0 := hw
  have hP : va_P D vwCl [(h0, .inr (12, [.ref vC, .ref vP, .ref vT, .ref vS, .ref vF, .ref vN, .ref vY, .int 0])), (sJ, .inr (5, [.ref j1, .ref j2, .ref j3, .ref jL, .int 0])), (jL, .inl (cy 0, 9, .inl (fun j => nI j))), (p1, .inl (cy 0, 9, .inl (fun j => nI j))), (p8, .inl (cy 2, 24, .inl (fun _ => 0))), (vC, .inr (3, [.ref sS, .ref sJ, .int 0, .int 0])), (vP, .inr (7, [.ref vC, .ref p1, .ref p2, .ref p3, .ref p4, .ref p5, .ref p6, .ref p7, .int 0, .long 0, .ref p8, .int 0, .int 0, .long 1]))] H := hP
  have hD : va_D A [(h0, .inr (12, [.ref vC, .ref vP, .ref vT, .ref vS, .ref vF, .ref vN, .ref vY, .int 0])), (sJ, .inr (5, [.ref j1, .ref j2, .ref j3, .ref jL, .int 0])), (jL, .inl (cy 0, 9, .inl (fun j => nI j))), (p1, .inl (cy 0, 9, .inl (fun j => nI j))), (p8, .inl (cy 2, 24, .inl (fun _ => 0))), (vC, .inr (3, [.ref sS, .ref sJ, .int 0, .int 0])), (vP, .inr (7, [.ref vC, .ref p1, .ref p2, .ref p3, .ref p4, .ref p5, .ref p6, .ref p7, .int 0, .long 0, .ref p8, .int 0, .int 0, .long 1]))] := hD
  have hP9 := hP.sub (ws' := []) [] rfl
  have hD9 := hD.sub (ws' := []) [] (by decide) rfl
  refine W.widen (k := 0) (n := 0) (Nat.le_of_ble_eq_true rfl) (Nat.le_of_ble_eq_true rfl) ?_
  rw [hQe]
  exact W.lret (v := 0) hx hb hr (fun t ht hW => ⟨⟨0, (), rfl, rfl, ⟨by rw [ht]; exact hP9, hD9⟩⟩, hS.F ht⟩) hS.2.2 dX9_depth_42
set_option maxHeartbeats 4000000 in
set_option maxRecDepth 100000 in
/-- no shots, no blunder -/
theorem k_findBlunder (l : Launch) (D : va_G) (cy : Nat → ClassId) (h0 : Nat) (vC : Nat) (vP : Nat) (vT : Nat) (vS : Nat) (vF : Nat) (vN : Nat) (vY : Nat) (sS : Nat) (sJ : Nat) (p1 : Nat) (p2 : Nat) (p3 : Nat) (p4 : Nat) (p5 : Nat) (p6 : Nat) (p7 : Nat) (p8 : Nat) (e1 : Int32) (e2 : Int64) (x1 : Int32) (x2 : Int32) (x3 : Int64) (d : Int32) (sz : Nat)  : Met l yX9_findBlunder (wz yX9_findBlunder cX9_findBlunder 8 (some .int)) ({ frames := 1, cells := 0, slots := 0, locals := 25 } : Room) (va_Pc [.ref h0, .int d] (zPre vwCl D cy [(h0, .inr (12, [.ref vC, .ref vP, .ref vT, .ref vS, .ref vF, .ref vN, .ref vY, .int 0])), (vC, .inr (3, [.ref sS, .ref sJ, .int 0, .int 0])), (vP, .inr (7, [.ref vC, .ref p1, .ref p2, .ref p3, .ref p4, .ref p5, .ref p6, .ref p7, .int e1, .long e2, .ref p8, .int x1, .int x2, .long x3]))] sz)) (va_Qi (fun (r : Int32) (_ : Unit) => r = (-1)) (fun (u : Unit) t => zPost vwCl D (va_A [(h0, .inr (12, [.ref vC, .ref vP, .ref vT, .ref vS, .ref vF, .ref vN, .ref vY, .int 0])), (vC, .inr (3, [.ref sS, .ref sJ, .int 0, .int 0])), (vP, .inr (7, [.ref vC, .ref p1, .ref p2, .ref p3, .ref p4, .ref p5, .ref p6, .ref p7, .int e1, .long e2, .ref p8, .int x1, .int x2, .long x3]))] sz) [(h0, .inr (12, [.ref vC, .ref vP, .ref vT, .ref vS, .ref vF, .ref vN, .ref vY, .int 0])), (vC, .inr (3, [.ref sS, .ref sJ, .int 0, .int 0])), (vP, .inr (7, [.ref vC, .ref p1, .ref p2, .ref p3, .ref p4, .ref p5, .ref p6, .ref p7, .int e1, .long e2, .ref p8, .int x1, .int x2, .long x3]))] t) (va_A [(h0, .inr (12, [.ref vC, .ref vP, .ref vT, .ref vS, .ref vF, .ref vN, .ref vY, .int 0])), (vC, .inr (3, [.ref sS, .ref sJ, .int 0, .int 0])), (vP, .inr (7, [.ref vC, .ref p1, .ref p2, .ref p3, .ref p4, .ref p5, .ref p6, .ref p7, .int e1, .long e2, .ref p8, .int x1, .int x2, .long x3]))] sz)) 0 0 (va_A [(h0, .inr (12, [.ref vC, .ref vP, .ref vT, .ref vS, .ref vF, .ref vN, .ref vY, .int 0])), (vC, .inr (3, [.ref sS, .ref sJ, .int 0, .int 0])), (vP, .inr (7, [.ref vC, .ref p1, .ref p2, .ref p3, .ref p4, .ref p5, .ref p6, .ref p7, .int e1, .long e2, .ref p8, .int x1, .int x2, .long x3]))] sz) := by
  refine Met.ofW (cc := cX9_findBlunder) (maxL := 8) (ret := (some .int)) (by decide) rfl ?_
  intro p e s m args below meth c s₁ B hml hv
  obtain ⟨rfl, hsz, hP, hK, hD0, hX, hY⟩ := hv
  have hx := B.exec
  have hb := B.bytes
  have hr := B.returns
  have hts0 := atoms_spec (ws := wz yX9_findBlunder cX9_findBlunder 8 (some .int)) B.pre
  have hts : ∀ w ∈ wAll, w.before _ s = true := fun w h => hts0 w (List.mem_cons_of_mem _ h)
  have hown : s.vm.findClass RX9 = some m.cls := findClass_of_methodNamed B.named
  have hlocks := B.notSynchronized
  subst hsz
  have hD := hD0.self (sz := s.heap.size)
  generalize hAe : va_A [(h0, .inr (12, [.ref vC, .ref vP, .ref vT, .ref vS, .ref vF, .ref vN, .ref vY, .int 0])), (vC, .inr (3, [.ref sS, .ref sJ, .int 0, .int 0])), (vP, .inr (7, [.ref vC, .ref p1, .ref p2, .ref p3, .ref p4, .ref p5, .ref p6, .ref p7, .int e1, .long e2, .ref p8, .int x1, .int x2, .long x3]))] s.heap.size = A at hD hY ⊢
  have hA : ∀ q : Nat, s.heap.size ≤ q → A q := fun q h => by rw [← hAe]; exact Or.inr h
  have hS : va_S A s.heap s.heap [] := va_S.rf
  have hP : va_P D vwCl [(h0, .inr (12, [.ref vC, .ref vP, .ref vT, .ref vS, .ref vF, .ref vN, .ref vY, .int 0])), (vC, .inr (3, [.ref sS, .ref sJ, .int 0, .int 0])), (vP, .inr (7, [.ref vC, .ref p1, .ref p2, .ref p3, .ref p4, .ref p5, .ref p6, .ref p7, .int e1, .long e2, .ref p8, .int x1, .int x2, .long x3]))] s.heap := hP
  have hl := lv_entry ([.ref h0, .int d]) (n := 8) (Nat.le_of_ble_eq_true rfl)
  rw [lg_entry_eq]
  generalize (lg_sl ([.ref h0, .int d]) ++ List.replicate (8 - (lg_sl ([.ref h0, .int d])).length) Slot.unset).toArray = ls at hl ⊢
  have hl : lv_has ls 8 [(0, .ref h0), (1, .int d)] := hl
  refine z_anyQ (fun Q hQe => ?_)
  refine lv_aload_n hx hb dX9_findBlunder_0 rfl (lv_at hl 0 rfl) ?_
  refine va_get (D := D) (ci := 12) (v := .ref vP) (C := RX9) (T := TX9) (N := 8) hx hb hts iRX9 hown hK hP 0 rfl rfl 1 (by decide) (hts _ q133) (fun _ h9 => h9) rfl dX9_findBlunder_1 ?_
  refine zq_l (wc := [(vP, .inr (7, [.ref vC, .ref p1, .ref p2, .ref p3, .ref p4, .ref p5, .ref p6, .ref p7, .int e1, .long e2, .ref p8, .int x1, .int x2, .long x3])), (vC, .inr (3, [.ref sS, .ref sJ, .int 0, .int 0]))]) (wr := [(h0, .inr (12, [.ref vC, .ref vP, .ref vT, .ref vS, .ref vF, .ref vN, .ref vY, .int 0]))]) (va_runV (As := []) (rest := []) ⟨hx, hb, hml, hown, hts⟩ (k_sumTop l D cy vP vC p1 p2 p3 p4 p5 p6 p7 p8 e1 e2 x1 x2 x3 sS sJ s.heap.size ) (cwV 0 hts (gzV (gz q205) q204 q206 q207 q87) rfl rfl rfl vX4_sumTop ⟨Nat.le_of_ble_eq_true rfl, Nat.le_of_ble_eq_true rfl⟩) (zpV (ci := 7) (T := TX4) (N := 14) (q0 := 0) hK hX hY hP hD hS hA [2, 1] (by decide) rfl rfl rfl) rfl rfl hl.1 rfl (lv_room (Nat.le_of_ble_eq_true rfl)) dX9_findBlunder_4 ⟨Nat.le_of_ble_eq_true rfl, Nat.le_of_ble_eq_true rfl⟩) hP hD hS hA [2, 1] [0] rfl rfl (by decide) (by decide) (fun x2 u1 H locs hw hP hD hS => ?_)
  obtain rfl : x2 = 0 := hw
  have hP : va_P D vwCl [(h0, .inr (12, [.ref vC, .ref vP, .ref vT, .ref vS, .ref vF, .ref vN, .ref vY, .int 0])), (vP, .inr (7, [.ref vC, .ref p1, .ref p2, .ref p3, .ref p4, .ref p5, .ref p6, .ref p7, .int e1, .long e2, .ref p8, .int x1, .int x2, .long x3])), (vC, .inr (3, [.ref sS, .ref sJ, .int 0, .int 0]))] H := hP
  have hD : va_D A [(h0, .inr (12, [.ref vC, .ref vP, .ref vT, .ref vS, .ref vF, .ref vN, .ref vY, .int 0])), (vP, .inr (7, [.ref vC, .ref p1, .ref p2, .ref p3, .ref p4, .ref p5, .ref p6, .ref p7, .int e1, .long e2, .ref p8, .int x1, .int x2, .long x3])), (vC, .inr (3, [.ref sS, .ref sJ, .int 0, .int 0]))] := hD
  refine lv_lstore_n (lv' := [(2, .long 0), (0, .ref h0), (1, .int d)]) hx hb dX9_findBlunder_7 rfl hl (by decide) rfl (fun ls hl => ?_)
  refine lv_aload_n hx hb dX9_findBlunder_8 rfl (lv_at hl 1 rfl) ?_
  refine va_get (D := D) (ci := 12) (v := .ref vP) (C := RX9) (T := TX9) (N := 8) hx hb hts iRX9 hown hK hP 0 rfl rfl 1 (by decide) (hts _ q133) (fun _ h9 => h9) rfl dX9_findBlunder_9 ?_
  refine va_get (D := D) (ci := 7) (v := .long x3) (C := RX4) (T := TX4) (N := 14) hx hb hts iRX4 hown hK hP 1 rfl rfl 13 (by decide) (hts _ q209) (fun _ h9 => h9) rfl dX9_findBlunder_12 ?_
  refine lv_lstore (lv' := [(4, .long x3), (2, .long 0), (0, .ref h0), (1, .int d)]) hx hb dX9_findBlunder_15 hl (by decide) rfl (fun ls hl => ?_)
  refine lv_iconst (v := (-1)) hx hb dX9_findBlunder_17 (by decide) ?_
  refine lv_istore (lv' := [(6, .int (-1)), (4, .long x3), (2, .long 0), (0, .ref h0), (1, .int d)]) hx hb dX9_findBlunder_18 hl (by decide) rfl (fun ls hl => ?_)
  refine lv_iconst (v := 0) hx hb dX9_findBlunder_20 (by decide) ?_
  refine lv_istore (lv' := [(7, .int 0), (6, .int (-1)), (4, .long x3), (2, .long 0), (0, .ref h0), (1, .int d)]) hx hb dX9_findBlunder_21 hl (by decide) rfl (fun ls hl => ?_)
  refine lv_iload hx hb dX9_findBlunder_23 (lv_at hl 0 rfl) ?_
  refine lv_aload_n hx hb dX9_findBlunder_25 rfl (lv_at hl 4 rfl) ?_
  refine va_get (D := D) (ci := 12) (v := .ref vC) (C := RX9) (T := TX9) (N := 8) hx hb hts iRX9 hown hK hP 0 rfl rfl 0 (by decide) (hts _ q127) (fun _ h9 => h9) rfl dX9_findBlunder_26 ?_
  refine va_get (D := D) (ci := 3) (v := .int 0) (C := RX0) (T := TX0) (N := 4) hx hb hts iRX0 hown hK hP 2 rfl rfl 3 (by decide) (hts _ q166) (fun _ h9 => h9) rfl dX9_findBlunder_29 ?_
  refine lv_icmp_ge (tgt := 139) hx hb dX9_findBlunder_32 (by decide) (fun _ => ?_) (fun c_32_2 => absurd (by decide +kernel) c_32_2)
  refine lv_iload hx hb dX9_findBlunder_139 (lv_at hl 1 rfl) ?_
  have hP9 := hP.sub (ws' := [(h0, .inr (12, [.ref vC, .ref vP, .ref vT, .ref vS, .ref vF, .ref vN, .ref vY, .int 0])), (vC, .inr (3, [.ref sS, .ref sJ, .int 0, .int 0])), (vP, .inr (7, [.ref vC, .ref p1, .ref p2, .ref p3, .ref p4, .ref p5, .ref p6, .ref p7, .int e1, .long e2, .ref p8, .int x1, .int x2, .long x3]))]) [0, 2, 1] rfl
  have hD9 := hD.sub (ws' := [(h0, .inr (12, [.ref vC, .ref vP, .ref vT, .ref vS, .ref vF, .ref vN, .ref vY, .int 0])), (vC, .inr (3, [.ref sS, .ref sJ, .int 0, .int 0])), (vP, .inr (7, [.ref vC, .ref p1, .ref p2, .ref p3, .ref p4, .ref p5, .ref p6, .ref p7, .int e1, .long e2, .ref p8, .int x1, .int x2, .long x3]))]) [0, 2, 1] (by decide) rfl
  refine W.widen (k := 0) (n := 0) (Nat.le_of_ble_eq_true rfl) (Nat.le_of_ble_eq_true rfl) ?_
  rw [hQe]
  exact W.iret (v := (-1)) hx hb hr (fun t ht hW => ⟨⟨(-1), (), rfl, rfl, ⟨by rw [ht]; exact hP9, hD9⟩⟩, hS.F ht⟩) hS.2.2 dX9_findBlunder_141
set_option maxHeartbeats 4000000 in
set_option maxRecDepth 100000 in
/-- no blunder: it throws -/
theorem f_blunder_in (l : Launch) (hlt : l.stackTraces = false) (D : va_G) (cy : Nat → ClassId) (h0 : Nat) (vC : Nat) (vP : Nat) (vT : Nat) (vS : Nat) (vF : Nat) (vN : Nat) (vY : Nat) (sS : Nat) (sJ : Nat) (j1 : Nat) (j2 : Nat) (j3 : Nat) (jL : Nat) (p1 : Nat) (p2 : Nat) (p3 : Nat) (p4 : Nat) (p5 : Nat) (p6 : Nat) (p7 : Nat) (p8 : Nat) (rn : Nat → Nat) (rt : Nat → Nat) (d : Int32) (sz : Nat) (hd : zDay d) : vx_Met l yX9_blunder (wz yX9_blunder cX9_blunder 3 (some .int)) ({ frames := 6, cells := 1, slots := 6, locals := 85 } : Room) (va_Pc [.ref h0, .int d] (zPre vwCl D cy [(h0, .inr (12, [.ref vC, .ref vP, .ref vT, .ref vS, .ref vF, .ref vN, .ref vY, .int 0])), (vC, .inr (3, [.ref sS, .ref sJ, .int 0, .int 0])), (sJ, .inr (5, [.ref j1, .ref j2, .ref j3, .ref jL, .int 0])), (jL, .inl (cy 0, 9, .inl (fun _ => 0))), (vP, .inr (7, [.ref vC, .ref p1, .ref p2, .ref p3, .ref p4, .ref p5, .ref p6, .ref p7, .int 0, .long 0, .ref p8, .int 0, .int 0, .long 1])), (p1, .inl (cy 0, 9, .inl (fun _ => 0))), (p2, .inl (cy 2, 9, .inl (fun _ => 0))), (p8, .inl (cy 2, 24, .inl (fun _ => 0))), (p3, .inl (cy 0, 9, .inl (fun _ => 0))), (p4, .inl (cy 3, 8, .inr (.inr (.inr (.inr (fun k9 => if k9 < 8 then some (rn k9) else none)))))), ((rn 0), .inl (cy 1, 11, .inr (.inl (fun _ => 0)))), ((rn 1), .inl (cy 1, 11, .inr (.inl (fun _ => 0)))), ((rn 2), .inl (cy 1, 11, .inr (.inl (fun _ => 0)))), ((rn 3), .inl (cy 1, 11, .inr (.inl (fun _ => 0)))), ((rn 4), .inl (cy 1, 11, .inr (.inl (fun _ => 0)))), ((rn 5), .inl (cy 1, 11, .inr (.inl (fun _ => 0)))), ((rn 6), .inl (cy 1, 11, .inr (.inl (fun _ => 0)))), ((rn 7), .inl (cy 1, 11, .inr (.inl (fun _ => 0)))), (p5, .inl (cy 3, 9, .inr (.inr (.inr (.inr (fun k9 => if k9 < 9 then some (rt k9) else none)))))), ((rt 0), .inl (cy 1, 3, .inr (.inl (fun _ => 0)))), ((rt 1), .inl (cy 1, 3, .inr (.inl (fun _ => 0)))), ((rt 2), .inl (cy 1, 3, .inr (.inl (fun _ => 0)))), ((rt 3), .inl (cy 1, 3, .inr (.inl (fun _ => 0)))), ((rt 4), .inl (cy 1, 3, .inr (.inl (fun _ => 0)))), ((rt 5), .inl (cy 1, 3, .inr (.inl (fun _ => 0)))), ((rt 6), .inl (cy 1, 3, .inr (.inl (fun _ => 0)))), ((rt 7), .inl (cy 1, 3, .inr (.inl (fun _ => 0)))), ((rt 8), .inl (cy 1, 3, .inr (.inl (fun _ => 0))))] sz)) zNo (zXC zE3 (va_A [(h0, .inr (12, [.ref vC, .ref vP, .ref vT, .ref vS, .ref vF, .ref vN, .ref vY, .int 0])), (vC, .inr (3, [.ref sS, .ref sJ, .int 0, .int 0])), (sJ, .inr (5, [.ref j1, .ref j2, .ref j3, .ref jL, .int 0])), (jL, .inl (cy 0, 9, .inl (fun _ => 0))), (vP, .inr (7, [.ref vC, .ref p1, .ref p2, .ref p3, .ref p4, .ref p5, .ref p6, .ref p7, .int 0, .long 0, .ref p8, .int 0, .int 0, .long 1])), (p1, .inl (cy 0, 9, .inl (fun _ => 0))), (p2, .inl (cy 2, 9, .inl (fun _ => 0))), (p8, .inl (cy 2, 24, .inl (fun _ => 0))), (p3, .inl (cy 0, 9, .inl (fun _ => 0))), (p4, .inl (cy 3, 8, .inr (.inr (.inr (.inr (fun k9 => if k9 < 8 then some (rn k9) else none)))))), ((rn 0), .inl (cy 1, 11, .inr (.inl (fun _ => 0)))), ((rn 1), .inl (cy 1, 11, .inr (.inl (fun _ => 0)))), ((rn 2), .inl (cy 1, 11, .inr (.inl (fun _ => 0)))), ((rn 3), .inl (cy 1, 11, .inr (.inl (fun _ => 0)))), ((rn 4), .inl (cy 1, 11, .inr (.inl (fun _ => 0)))), ((rn 5), .inl (cy 1, 11, .inr (.inl (fun _ => 0)))), ((rn 6), .inl (cy 1, 11, .inr (.inl (fun _ => 0)))), ((rn 7), .inl (cy 1, 11, .inr (.inl (fun _ => 0)))), (p5, .inl (cy 3, 9, .inr (.inr (.inr (.inr (fun k9 => if k9 < 9 then some (rt k9) else none)))))), ((rt 0), .inl (cy 1, 3, .inr (.inl (fun _ => 0)))), ((rt 1), .inl (cy 1, 3, .inr (.inl (fun _ => 0)))), ((rt 2), .inl (cy 1, 3, .inr (.inl (fun _ => 0)))), ((rt 3), .inl (cy 1, 3, .inr (.inl (fun _ => 0)))), ((rt 4), .inl (cy 1, 3, .inr (.inl (fun _ => 0)))), ((rt 5), .inl (cy 1, 3, .inr (.inl (fun _ => 0)))), ((rt 6), .inl (cy 1, 3, .inr (.inl (fun _ => 0)))), ((rt 7), .inl (cy 1, 3, .inr (.inl (fun _ => 0)))), ((rt 8), .inl (cy 1, 3, .inr (.inl (fun _ => 0))))] sz)) 1 6 (va_A [(h0, .inr (12, [.ref vC, .ref vP, .ref vT, .ref vS, .ref vF, .ref vN, .ref vY, .int 0])), (vC, .inr (3, [.ref sS, .ref sJ, .int 0, .int 0])), (sJ, .inr (5, [.ref j1, .ref j2, .ref j3, .ref jL, .int 0])), (jL, .inl (cy 0, 9, .inl (fun _ => 0))), (vP, .inr (7, [.ref vC, .ref p1, .ref p2, .ref p3, .ref p4, .ref p5, .ref p6, .ref p7, .int 0, .long 0, .ref p8, .int 0, .int 0, .long 1])), (p1, .inl (cy 0, 9, .inl (fun _ => 0))), (p2, .inl (cy 2, 9, .inl (fun _ => 0))), (p8, .inl (cy 2, 24, .inl (fun _ => 0))), (p3, .inl (cy 0, 9, .inl (fun _ => 0))), (p4, .inl (cy 3, 8, .inr (.inr (.inr (.inr (fun k9 => if k9 < 8 then some (rn k9) else none)))))), ((rn 0), .inl (cy 1, 11, .inr (.inl (fun _ => 0)))), ((rn 1), .inl (cy 1, 11, .inr (.inl (fun _ => 0)))), ((rn 2), .inl (cy 1, 11, .inr (.inl (fun _ => 0)))), ((rn 3), .inl (cy 1, 11, .inr (.inl (fun _ => 0)))), ((rn 4), .inl (cy 1, 11, .inr (.inl (fun _ => 0)))), ((rn 5), .inl (cy 1, 11, .inr (.inl (fun _ => 0)))), ((rn 6), .inl (cy 1, 11, .inr (.inl (fun _ => 0)))), ((rn 7), .inl (cy 1, 11, .inr (.inl (fun _ => 0)))), (p5, .inl (cy 3, 9, .inr (.inr (.inr (.inr (fun k9 => if k9 < 9 then some (rt k9) else none)))))), ((rt 0), .inl (cy 1, 3, .inr (.inl (fun _ => 0)))), ((rt 1), .inl (cy 1, 3, .inr (.inl (fun _ => 0)))), ((rt 2), .inl (cy 1, 3, .inr (.inl (fun _ => 0)))), ((rt 3), .inl (cy 1, 3, .inr (.inl (fun _ => 0)))), ((rt 4), .inl (cy 1, 3, .inr (.inl (fun _ => 0)))), ((rt 5), .inl (cy 1, 3, .inr (.inl (fun _ => 0)))), ((rt 6), .inl (cy 1, 3, .inr (.inl (fun _ => 0)))), ((rt 7), .inl (cy 1, 3, .inr (.inl (fun _ => 0)))), ((rt 8), .inl (cy 1, 3, .inr (.inl (fun _ => 0))))] sz) := by
  refine vx_ofW (cc := cX9_blunder) (maxL := 3) (ret := (some .int)) (by decide) rfl ?_
  intro p e s m args below meth c s₁ B hml hout hv
  obtain ⟨rfl, hsz, hP, hK, hD0, hX, hY⟩ := hv
  have hx := B.exec
  have hb := B.bytes
  have hr := B.returns
  have hts0 := atoms_spec (ws := wz yX9_blunder cX9_blunder 3 (some .int)) B.pre
  have hts : ∀ w ∈ wAll, w.before _ s = true := fun w h => hts0 w (List.mem_cons_of_mem _ h)
  have hown : s.vm.findClass RX9 = some m.cls := findClass_of_methodNamed B.named
  have hlocks := B.notSynchronized
  subst hsz
  have hD := hD0.self (sz := s.heap.size)
  generalize hAe : va_A [(h0, .inr (12, [.ref vC, .ref vP, .ref vT, .ref vS, .ref vF, .ref vN, .ref vY, .int 0])), (vC, .inr (3, [.ref sS, .ref sJ, .int 0, .int 0])), (sJ, .inr (5, [.ref j1, .ref j2, .ref j3, .ref jL, .int 0])), (jL, .inl (cy 0, 9, .inl (fun _ => 0))), (vP, .inr (7, [.ref vC, .ref p1, .ref p2, .ref p3, .ref p4, .ref p5, .ref p6, .ref p7, .int 0, .long 0, .ref p8, .int 0, .int 0, .long 1])), (p1, .inl (cy 0, 9, .inl (fun _ => 0))), (p2, .inl (cy 2, 9, .inl (fun _ => 0))), (p8, .inl (cy 2, 24, .inl (fun _ => 0))), (p3, .inl (cy 0, 9, .inl (fun _ => 0))), (p4, .inl (cy 3, 8, .inr (.inr (.inr (.inr (fun k9 => if k9 < 8 then some (rn k9) else none)))))), ((rn 0), .inl (cy 1, 11, .inr (.inl (fun _ => 0)))), ((rn 1), .inl (cy 1, 11, .inr (.inl (fun _ => 0)))), ((rn 2), .inl (cy 1, 11, .inr (.inl (fun _ => 0)))), ((rn 3), .inl (cy 1, 11, .inr (.inl (fun _ => 0)))), ((rn 4), .inl (cy 1, 11, .inr (.inl (fun _ => 0)))), ((rn 5), .inl (cy 1, 11, .inr (.inl (fun _ => 0)))), ((rn 6), .inl (cy 1, 11, .inr (.inl (fun _ => 0)))), ((rn 7), .inl (cy 1, 11, .inr (.inl (fun _ => 0)))), (p5, .inl (cy 3, 9, .inr (.inr (.inr (.inr (fun k9 => if k9 < 9 then some (rt k9) else none)))))), ((rt 0), .inl (cy 1, 3, .inr (.inl (fun _ => 0)))), ((rt 1), .inl (cy 1, 3, .inr (.inl (fun _ => 0)))), ((rt 2), .inl (cy 1, 3, .inr (.inl (fun _ => 0)))), ((rt 3), .inl (cy 1, 3, .inr (.inl (fun _ => 0)))), ((rt 4), .inl (cy 1, 3, .inr (.inl (fun _ => 0)))), ((rt 5), .inl (cy 1, 3, .inr (.inl (fun _ => 0)))), ((rt 6), .inl (cy 1, 3, .inr (.inl (fun _ => 0)))), ((rt 7), .inl (cy 1, 3, .inr (.inl (fun _ => 0)))), ((rt 8), .inl (cy 1, 3, .inr (.inl (fun _ => 0))))] s.heap.size = A at hD hY ⊢
  have hA : ∀ q : Nat, s.heap.size ≤ q → A q := fun q h => by rw [← hAe]; exact Or.inr h
  have hS : va_S A s.heap s.heap [] := va_S.rf
  have hP : va_P D vwCl [(h0, .inr (12, [.ref vC, .ref vP, .ref vT, .ref vS, .ref vF, .ref vN, .ref vY, .int 0])), (vC, .inr (3, [.ref sS, .ref sJ, .int 0, .int 0])), (sJ, .inr (5, [.ref j1, .ref j2, .ref j3, .ref jL, .int 0])), (jL, .inl (cy 0, 9, .inl (fun _ => 0))), (vP, .inr (7, [.ref vC, .ref p1, .ref p2, .ref p3, .ref p4, .ref p5, .ref p6, .ref p7, .int 0, .long 0, .ref p8, .int 0, .int 0, .long 1])), (p1, .inl (cy 0, 9, .inl (fun _ => 0))), (p2, .inl (cy 2, 9, .inl (fun _ => 0))), (p8, .inl (cy 2, 24, .inl (fun _ => 0))), (p3, .inl (cy 0, 9, .inl (fun _ => 0))), (p4, .inl (cy 3, 8, .inr (.inr (.inr (.inr (fun k9 => if k9 < 8 then some (rn k9) else none)))))), ((rn 0), .inl (cy 1, 11, .inr (.inl (fun _ => 0)))), ((rn 1), .inl (cy 1, 11, .inr (.inl (fun _ => 0)))), ((rn 2), .inl (cy 1, 11, .inr (.inl (fun _ => 0)))), ((rn 3), .inl (cy 1, 11, .inr (.inl (fun _ => 0)))), ((rn 4), .inl (cy 1, 11, .inr (.inl (fun _ => 0)))), ((rn 5), .inl (cy 1, 11, .inr (.inl (fun _ => 0)))), ((rn 6), .inl (cy 1, 11, .inr (.inl (fun _ => 0)))), ((rn 7), .inl (cy 1, 11, .inr (.inl (fun _ => 0)))), (p5, .inl (cy 3, 9, .inr (.inr (.inr (.inr (fun k9 => if k9 < 9 then some (rt k9) else none)))))), ((rt 0), .inl (cy 1, 3, .inr (.inl (fun _ => 0)))), ((rt 1), .inl (cy 1, 3, .inr (.inl (fun _ => 0)))), ((rt 2), .inl (cy 1, 3, .inr (.inl (fun _ => 0)))), ((rt 3), .inl (cy 1, 3, .inr (.inl (fun _ => 0)))), ((rt 4), .inl (cy 1, 3, .inr (.inl (fun _ => 0)))), ((rt 5), .inl (cy 1, 3, .inr (.inl (fun _ => 0)))), ((rt 6), .inl (cy 1, 3, .inr (.inl (fun _ => 0)))), ((rt 7), .inl (cy 1, 3, .inr (.inl (fun _ => 0)))), ((rt 8), .inl (cy 1, 3, .inr (.inl (fun _ => 0))))] s.heap := hP
  have hl := lv_entry ([.ref h0, .int d]) (n := 3) (Nat.le_of_ble_eq_true rfl)
  rw [lg_entry_eq]
  generalize (lg_sl ([.ref h0, .int d]) ++ List.replicate (3 - (lg_sl ([.ref h0, .int d])).length) Slot.unset).toArray = ls at hl ⊢
  have hl : lv_has ls 3 [(0, .ref h0), (1, .int d)] := hl
  refine z_anyQ (fun Q hQe => ?_)
  refine lv_iload_n hx hb dX9_blunder_0 rfl (lv_at hl 1 rfl) ?_
  refine zq_v (wc := []) (wr := [(h0, .inr (12, [.ref vC, .ref vP, .ref vT, .ref vS, .ref vF, .ref vN, .ref vY, .int 0])), (vC, .inr (3, [.ref sS, .ref sJ, .int 0, .int 0])), (sJ, .inr (5, [.ref j1, .ref j2, .ref j3, .ref jL, .int 0])), (jL, .inl (cy 0, 9, .inl (fun _ => 0))), (vP, .inr (7, [.ref vC, .ref p1, .ref p2, .ref p3, .ref p4, .ref p5, .ref p6, .ref p7, .int 0, .long 0, .ref p8, .int 0, .int 0, .long 1])), (p1, .inl (cy 0, 9, .inl (fun _ => 0))), (p2, .inl (cy 2, 9, .inl (fun _ => 0))), (p8, .inl (cy 2, 24, .inl (fun _ => 0))), (p3, .inl (cy 0, 9, .inl (fun _ => 0))), (p4, .inl (cy 3, 8, .inr (.inr (.inr (.inr (fun k9 => if k9 < 8 then some (rn k9) else none)))))), ((rn 0), .inl (cy 1, 11, .inr (.inl (fun _ => 0)))), ((rn 1), .inl (cy 1, 11, .inr (.inl (fun _ => 0)))), ((rn 2), .inl (cy 1, 11, .inr (.inl (fun _ => 0)))), ((rn 3), .inl (cy 1, 11, .inr (.inl (fun _ => 0)))), ((rn 4), .inl (cy 1, 11, .inr (.inl (fun _ => 0)))), ((rn 5), .inl (cy 1, 11, .inr (.inl (fun _ => 0)))), ((rn 6), .inl (cy 1, 11, .inr (.inl (fun _ => 0)))), ((rn 7), .inl (cy 1, 11, .inr (.inl (fun _ => 0)))), (p5, .inl (cy 3, 9, .inr (.inr (.inr (.inr (fun k9 => if k9 < 9 then some (rt k9) else none)))))), ((rt 0), .inl (cy 1, 3, .inr (.inl (fun _ => 0)))), ((rt 1), .inl (cy 1, 3, .inr (.inl (fun _ => 0)))), ((rt 2), .inl (cy 1, 3, .inr (.inl (fun _ => 0)))), ((rt 3), .inl (cy 1, 3, .inr (.inl (fun _ => 0)))), ((rt 4), .inl (cy 1, 3, .inr (.inl (fun _ => 0)))), ((rt 5), .inl (cy 1, 3, .inr (.inl (fun _ => 0)))), ((rt 6), .inl (cy 1, 3, .inr (.inl (fun _ => 0)))), ((rt 7), .inl (cy 1, 3, .inr (.inl (fun _ => 0)))), ((rt 8), .inl (cy 1, 3, .inr (.inl (fun _ => 0))))]) (va_runS (As := [.int d]) (rest := []) ⟨hx, hb, hml, hown, hts⟩ (k_needDay_ok l D cy d s.heap.size hd) (va_cwS 1 hts (gzS (gz q192) q191 q193 q174) rfl rfl rfl vX9_needDay.2 ⟨Nat.le_of_ble_eq_true rfl, Nat.le_of_ble_eq_true rfl⟩) (zpS hK hX hY hP hD hS hA [] (by decide) rfl) rfl rfl hl.1 rfl (lv_room (Nat.le_of_ble_eq_true rfl)) dX9_blunder_1 ⟨Nat.le_of_ble_eq_true rfl, Nat.le_of_ble_eq_true rfl⟩) hP hD hS hA [] [0, 1, 2, 3, 4, 5, 6, 7, 8, 9, 10, 11, 12, 13, 14, 15, 16, 17, 18, 19, 20, 21, 22, 23, 24, 25, 26, 27] rfl rfl (by decide) (by decide) (fun u1 H locs hw hP hD hS => ?_)
  have hP : va_P D vwCl [(h0, .inr (12, [.ref vC, .ref vP, .ref vT, .ref vS, .ref vF, .ref vN, .ref vY, .int 0])), (vC, .inr (3, [.ref sS, .ref sJ, .int 0, .int 0])), (sJ, .inr (5, [.ref j1, .ref j2, .ref j3, .ref jL, .int 0])), (jL, .inl (cy 0, 9, .inl (fun _ => 0))), (vP, .inr (7, [.ref vC, .ref p1, .ref p2, .ref p3, .ref p4, .ref p5, .ref p6, .ref p7, .int 0, .long 0, .ref p8, .int 0, .int 0, .long 1])), (p1, .inl (cy 0, 9, .inl (fun _ => 0))), (p2, .inl (cy 2, 9, .inl (fun _ => 0))), (p8, .inl (cy 2, 24, .inl (fun _ => 0))), (p3, .inl (cy 0, 9, .inl (fun _ => 0))), (p4, .inl (cy 3, 8, .inr (.inr (.inr (.inr (fun k9 => if k9 < 8 then some (rn k9) else none)))))), ((rn 0), .inl (cy 1, 11, .inr (.inl (fun _ => 0)))), ((rn 1), .inl (cy 1, 11, .inr (.inl (fun _ => 0)))), ((rn 2), .inl (cy 1, 11, .inr (.inl (fun _ => 0)))), ((rn 3), .inl (cy 1, 11, .inr (.inl (fun _ => 0)))), ((rn 4), .inl (cy 1, 11, .inr (.inl (fun _ => 0)))), ((rn 5), .inl (cy 1, 11, .inr (.inl (fun _ => 0)))), ((rn 6), .inl (cy 1, 11, .inr (.inl (fun _ => 0)))), ((rn 7), .inl (cy 1, 11, .inr (.inl (fun _ => 0)))), (p5, .inl (cy 3, 9, .inr (.inr (.inr (.inr (fun k9 => if k9 < 9 then some (rt k9) else none)))))), ((rt 0), .inl (cy 1, 3, .inr (.inl (fun _ => 0)))), ((rt 1), .inl (cy 1, 3, .inr (.inl (fun _ => 0)))), ((rt 2), .inl (cy 1, 3, .inr (.inl (fun _ => 0)))), ((rt 3), .inl (cy 1, 3, .inr (.inl (fun _ => 0)))), ((rt 4), .inl (cy 1, 3, .inr (.inl (fun _ => 0)))), ((rt 5), .inl (cy 1, 3, .inr (.inl (fun _ => 0)))), ((rt 6), .inl (cy 1, 3, .inr (.inl (fun _ => 0)))), ((rt 7), .inl (cy 1, 3, .inr (.inl (fun _ => 0)))), ((rt 8), .inl (cy 1, 3, .inr (.inl (fun _ => 0))))] H := hP
  have hD : va_D A [(h0, .inr (12, [.ref vC, .ref vP, .ref vT, .ref vS, .ref vF, .ref vN, .ref vY, .int 0])), (vC, .inr (3, [.ref sS, .ref sJ, .int 0, .int 0])), (sJ, .inr (5, [.ref j1, .ref j2, .ref j3, .ref jL, .int 0])), (jL, .inl (cy 0, 9, .inl (fun _ => 0))), (vP, .inr (7, [.ref vC, .ref p1, .ref p2, .ref p3, .ref p4, .ref p5, .ref p6, .ref p7, .int 0, .long 0, .ref p8, .int 0, .int 0, .long 1])), (p1, .inl (cy 0, 9, .inl (fun _ => 0))), (p2, .inl (cy 2, 9, .inl (fun _ => 0))), (p8, .inl (cy 2, 24, .inl (fun _ => 0))), (p3, .inl (cy 0, 9, .inl (fun _ => 0))), (p4, .inl (cy 3, 8, .inr (.inr (.inr (.inr (fun k9 => if k9 < 8 then some (rn k9) else none)))))), ((rn 0), .inl (cy 1, 11, .inr (.inl (fun _ => 0)))), ((rn 1), .inl (cy 1, 11, .inr (.inl (fun _ => 0)))), ((rn 2), .inl (cy 1, 11, .inr (.inl (fun _ => 0)))), ((rn 3), .inl (cy 1, 11, .inr (.inl (fun _ => 0)))), ((rn 4), .inl (cy 1, 11, .inr (.inl (fun _ => 0)))), ((rn 5), .inl (cy 1, 11, .inr (.inl (fun _ => 0)))), ((rn 6), .inl (cy 1, 11, .inr (.inl (fun _ => 0)))), ((rn 7), .inl (cy 1, 11, .inr (.inl (fun _ => 0)))), (p5, .inl (cy 3, 9, .inr (.inr (.inr (.inr (fun k9 => if k9 < 9 then some (rt k9) else none)))))), ((rt 0), .inl (cy 1, 3, .inr (.inl (fun _ => 0)))), ((rt 1), .inl (cy 1, 3, .inr (.inl (fun _ => 0)))), ((rt 2), .inl (cy 1, 3, .inr (.inl (fun _ => 0)))), ((rt 3), .inl (cy 1, 3, .inr (.inl (fun _ => 0)))), ((rt 4), .inl (cy 1, 3, .inr (.inl (fun _ => 0)))), ((rt 5), .inl (cy 1, 3, .inr (.inl (fun _ => 0)))), ((rt 6), .inl (cy 1, 3, .inr (.inl (fun _ => 0)))), ((rt 7), .inl (cy 1, 3, .inr (.inl (fun _ => 0)))), ((rt 8), .inl (cy 1, 3, .inr (.inl (fun _ => 0))))] := hD
  refine lv_aload_n hx hb dX9_blunder_4 rfl (lv_at hl 0 rfl) ?_
  refine va_get (D := D) (ci := 12) (v := .ref vP) (C := RX9) (T := TX9) (N := 8) hx hb hts iRX9 hown hK hP 0 rfl rfl 1 (by decide) (hts _ q133) (fun _ h9 => h9) rfl dX9_blunder_5 ?_
  refine lv_iload_n hx hb dX9_blunder_8 rfl (lv_at hl 1 rfl) ?_
  refine lv_iconst (v := (-1)) hx hb dX9_blunder_9 (by decide) ?_
  refine zq_v (wc := [(vP, .inr (7, [.ref vC, .ref p1, .ref p2, .ref p3, .ref p4, .ref p5, .ref p6, .ref p7, .int 0, .long 0, .ref p8, .int 0, .int 0, .long 1])), (vC, .inr (3, [.ref sS, .ref sJ, .int 0, .int 0])), (sJ, .inr (5, [.ref j1, .ref j2, .ref j3, .ref jL, .int 0])), (jL, .inl (cy 0, 9, .inl (fun _ => 0))), (p1, .inl (cy 0, 9, .inl (fun _ => 0))), (p2, .inl (cy 2, 9, .inl (fun _ => 0))), (p8, .inl (cy 2, 24, .inl (fun _ => 0)))]) (wr := [(h0, .inr (12, [.ref vC, .ref vP, .ref vT, .ref vS, .ref vF, .ref vN, .ref vY, .int 0])), (p3, .inl (cy 0, 9, .inl (fun _ => 0))), (p4, .inl (cy 3, 8, .inr (.inr (.inr (.inr (fun k9 => if k9 < 8 then some (rn k9) else none)))))), ((rn 0), .inl (cy 1, 11, .inr (.inl (fun _ => 0)))), ((rn 1), .inl (cy 1, 11, .inr (.inl (fun _ => 0)))), ((rn 2), .inl (cy 1, 11, .inr (.inl (fun _ => 0)))), ((rn 3), .inl (cy 1, 11, .inr (.inl (fun _ => 0)))), ((rn 4), .inl (cy 1, 11, .inr (.inl (fun _ => 0)))), ((rn 5), .inl (cy 1, 11, .inr (.inl (fun _ => 0)))), ((rn 6), .inl (cy 1, 11, .inr (.inl (fun _ => 0)))), ((rn 7), .inl (cy 1, 11, .inr (.inl (fun _ => 0)))), (p5, .inl (cy 3, 9, .inr (.inr (.inr (.inr (fun k9 => if k9 < 9 then some (rt k9) else none)))))), ((rt 0), .inl (cy 1, 3, .inr (.inl (fun _ => 0)))), ((rt 1), .inl (cy 1, 3, .inr (.inl (fun _ => 0)))), ((rt 2), .inl (cy 1, 3, .inr (.inl (fun _ => 0)))), ((rt 3), .inl (cy 1, 3, .inr (.inl (fun _ => 0)))), ((rt 4), .inl (cy 1, 3, .inr (.inl (fun _ => 0)))), ((rt 5), .inl (cy 1, 3, .inr (.inl (fun _ => 0)))), ((rt 6), .inl (cy 1, 3, .inr (.inl (fun _ => 0)))), ((rt 7), .inl (cy 1, 3, .inr (.inl (fun _ => 0)))), ((rt 8), .inl (cy 1, 3, .inr (.inl (fun _ => 0))))]) (va_runV (As := [.int d, .int (-1)]) (rest := []) ⟨hx, hb, hml, hown, hts⟩ (k_hang l D cy vP vC p1 p2 p3 p4 p5 p6 p7 p8 0 0 0 0 1 sS sJ j1 j2 j3 jL d (-1) (fun _ => 0) (fun _ => 0) (fun _ => 0) (fun _ => 0) H.size ) (cwV 2 hts (gzV (gz q195) q194 q196 q197 q87) rfl rfl rfl vX4_hang ⟨Nat.le_of_ble_eq_true rfl, Nat.le_of_ble_eq_true rfl⟩) (zpV (ci := 7) (T := TX4) (N := 14) (q0 := 0) hK hX hY hP hD hS hA [4, 1, 2, 3, 5, 6, 7] (by decide) rfl rfl rfl) rfl rfl hl.1 rfl (lv_room (Nat.le_of_ble_eq_true rfl)) dX9_blunder_10 ⟨Nat.le_of_ble_eq_true rfl, Nat.le_of_ble_eq_true rfl⟩) hP hD hS hA [4, 1, 2, 3, 5, 6, 7] [0, 8, 9, 10, 11, 12, 13, 14, 15, 16, 17, 18, 19, 20, 21, 22, 23, 24, 25, 26, 27] rfl rfl (by decide) (by decide) (fun u3 H locs hw hP hD hS => ?_)
  have hP : va_P D vwCl [(h0, .inr (12, [.ref vC, .ref vP, .ref vT, .ref vS, .ref vF, .ref vN, .ref vY, .int 0])), (p3, .inl (cy 0, 9, .inl (fun _ => 0))), (p4, .inl (cy 3, 8, .inr (.inr (.inr (.inr (fun k9 => if k9 < 8 then some (rn k9) else none)))))), ((rn 0), .inl (cy 1, 11, .inr (.inl (fun _ => 0)))), ((rn 1), .inl (cy 1, 11, .inr (.inl (fun _ => 0)))), ((rn 2), .inl (cy 1, 11, .inr (.inl (fun _ => 0)))), ((rn 3), .inl (cy 1, 11, .inr (.inl (fun _ => 0)))), ((rn 4), .inl (cy 1, 11, .inr (.inl (fun _ => 0)))), ((rn 5), .inl (cy 1, 11, .inr (.inl (fun _ => 0)))), ((rn 6), .inl (cy 1, 11, .inr (.inl (fun _ => 0)))), ((rn 7), .inl (cy 1, 11, .inr (.inl (fun _ => 0)))), (p5, .inl (cy 3, 9, .inr (.inr (.inr (.inr (fun k9 => if k9 < 9 then some (rt k9) else none)))))), ((rt 0), .inl (cy 1, 3, .inr (.inl (fun _ => 0)))), ((rt 1), .inl (cy 1, 3, .inr (.inl (fun _ => 0)))), ((rt 2), .inl (cy 1, 3, .inr (.inl (fun _ => 0)))), ((rt 3), .inl (cy 1, 3, .inr (.inl (fun _ => 0)))), ((rt 4), .inl (cy 1, 3, .inr (.inl (fun _ => 0)))), ((rt 5), .inl (cy 1, 3, .inr (.inl (fun _ => 0)))), ((rt 6), .inl (cy 1, 3, .inr (.inl (fun _ => 0)))), ((rt 7), .inl (cy 1, 3, .inr (.inl (fun _ => 0)))), ((rt 8), .inl (cy 1, 3, .inr (.inl (fun _ => 0)))), (vP, .inr (7, [.ref vC, .ref p1, .ref p2, .ref p3, .ref p4, .ref p5, .ref p6, .ref p7, .int 0, .long 0, .ref p8, .int 0, .int 0, .long 1])), (vC, .inr (3, [.ref sS, .ref sJ, .int 0, .int 0])), (sJ, .inr (5, [.ref j1, .ref j2, .ref j3, .ref jL, .int 0])), (jL, .inl (cy 0, 9, .inl (fun j => nI j))), (p1, .inl (cy 0, 9, .inl (fun j => nI j))), (p2, .inl (cy 2, 9, .inl (fun _ => 0))), (p8, .inl (cy 2, 24, .inl (fun _ => 0)))] H := hP
  have hD : va_D A [(h0, .inr (12, [.ref vC, .ref vP, .ref vT, .ref vS, .ref vF, .ref vN, .ref vY, .int 0])), (p3, .inl (cy 0, 9, .inl (fun _ => 0))), (p4, .inl (cy 3, 8, .inr (.inr (.inr (.inr (fun k9 => if k9 < 8 then some (rn k9) else none)))))), ((rn 0), .inl (cy 1, 11, .inr (.inl (fun _ => 0)))), ((rn 1), .inl (cy 1, 11, .inr (.inl (fun _ => 0)))), ((rn 2), .inl (cy 1, 11, .inr (.inl (fun _ => 0)))), ((rn 3), .inl (cy 1, 11, .inr (.inl (fun _ => 0)))), ((rn 4), .inl (cy 1, 11, .inr (.inl (fun _ => 0)))), ((rn 5), .inl (cy 1, 11, .inr (.inl (fun _ => 0)))), ((rn 6), .inl (cy 1, 11, .inr (.inl (fun _ => 0)))), ((rn 7), .inl (cy 1, 11, .inr (.inl (fun _ => 0)))), (p5, .inl (cy 3, 9, .inr (.inr (.inr (.inr (fun k9 => if k9 < 9 then some (rt k9) else none)))))), ((rt 0), .inl (cy 1, 3, .inr (.inl (fun _ => 0)))), ((rt 1), .inl (cy 1, 3, .inr (.inl (fun _ => 0)))), ((rt 2), .inl (cy 1, 3, .inr (.inl (fun _ => 0)))), ((rt 3), .inl (cy 1, 3, .inr (.inl (fun _ => 0)))), ((rt 4), .inl (cy 1, 3, .inr (.inl (fun _ => 0)))), ((rt 5), .inl (cy 1, 3, .inr (.inl (fun _ => 0)))), ((rt 6), .inl (cy 1, 3, .inr (.inl (fun _ => 0)))), ((rt 7), .inl (cy 1, 3, .inr (.inl (fun _ => 0)))), ((rt 8), .inl (cy 1, 3, .inr (.inl (fun _ => 0)))), (vP, .inr (7, [.ref vC, .ref p1, .ref p2, .ref p3, .ref p4, .ref p5, .ref p6, .ref p7, .int 0, .long 0, .ref p8, .int 0, .int 0, .long 1])), (vC, .inr (3, [.ref sS, .ref sJ, .int 0, .int 0])), (sJ, .inr (5, [.ref j1, .ref j2, .ref j3, .ref jL, .int 0])), (jL, .inl (cy 0, 9, .inl (fun j => nI j))), (p1, .inl (cy 0, 9, .inl (fun j => nI j))), (p2, .inl (cy 2, 9, .inl (fun _ => 0))), (p8, .inl (cy 2, 24, .inl (fun _ => 0)))] := hD
  refine lv_aload_n hx hb dX9_blunder_13 rfl (lv_at hl 0 rfl) ?_
  refine va_get (D := D) (ci := 12) (v := .ref vP) (C := RX9) (T := TX9) (N := 8) hx hb hts iRX9 hown hK hP 0 rfl rfl 1 (by decide) (hts _ q133) (fun _ h9 => h9) rfl dX9_blunder_14 ?_
  refine lv_iconst (v := 0) hx hb dX9_blunder_17 (by decide) ?_
  refine zq_v (wc := [(vP, .inr (7, [.ref vC, .ref p1, .ref p2, .ref p3, .ref p4, .ref p5, .ref p6, .ref p7, .int 0, .long 0, .ref p8, .int 0, .int 0, .long 1])), (vC, .inr (3, [.ref sS, .ref sJ, .int 0, .int 0])), (p2, .inl (cy 2, 9, .inl (fun _ => 0))), (p3, .inl (cy 0, 9, .inl (fun _ => 0))), (p4, .inl (cy 3, 8, .inr (.inr (.inr (.inr (fun k9 => if k9 < 8 then some (rn k9) else none)))))), ((rn 0), .inl (cy 1, 11, .inr (.inl (fun _ => 0)))), ((rn 1), .inl (cy 1, 11, .inr (.inl (fun _ => 0)))), ((rn 2), .inl (cy 1, 11, .inr (.inl (fun _ => 0)))), ((rn 3), .inl (cy 1, 11, .inr (.inl (fun _ => 0)))), ((rn 4), .inl (cy 1, 11, .inr (.inl (fun _ => 0)))), ((rn 5), .inl (cy 1, 11, .inr (.inl (fun _ => 0)))), ((rn 6), .inl (cy 1, 11, .inr (.inl (fun _ => 0)))), ((rn 7), .inl (cy 1, 11, .inr (.inl (fun _ => 0)))), (p5, .inl (cy 3, 9, .inr (.inr (.inr (.inr (fun k9 => if k9 < 9 then some (rt k9) else none)))))), ((rt 0), .inl (cy 1, 3, .inr (.inl (fun _ => 0)))), ((rt 1), .inl (cy 1, 3, .inr (.inl (fun _ => 0)))), ((rt 2), .inl (cy 1, 3, .inr (.inl (fun _ => 0)))), ((rt 3), .inl (cy 1, 3, .inr (.inl (fun _ => 0)))), ((rt 4), .inl (cy 1, 3, .inr (.inl (fun _ => 0)))), ((rt 5), .inl (cy 1, 3, .inr (.inl (fun _ => 0)))), ((rt 6), .inl (cy 1, 3, .inr (.inl (fun _ => 0)))), ((rt 7), .inl (cy 1, 3, .inr (.inl (fun _ => 0)))), ((rt 8), .inl (cy 1, 3, .inr (.inl (fun _ => 0))))]) (wr := [(h0, .inr (12, [.ref vC, .ref vP, .ref vT, .ref vS, .ref vF, .ref vN, .ref vY, .int 0])), (sJ, .inr (5, [.ref j1, .ref j2, .ref j3, .ref jL, .int 0])), (jL, .inl (cy 0, 9, .inl (fun j => nI j))), (p1, .inl (cy 0, 9, .inl (fun j => nI j))), (p8, .inl (cy 2, 24, .inl (fun _ => 0)))]) (va_runV (As := [.int 0]) (rest := []) ⟨hx, hb, hml, hown, hts⟩ (k_weigh0 l D cy vP vC p1 p2 p3 p4 p5 p6 p7 p8 0 0 0 1 sS sJ rn rt H.size ) (cwV 1 hts (gzV (gz q201) q200 q202 q203 q87) rfl rfl rfl vX4_weigh ⟨Nat.le_of_ble_eq_true rfl, Nat.le_of_ble_eq_true rfl⟩) (zpV (ci := 7) (T := TX4) (N := 14) (q0 := 0) hK hX hY hP hD hS hA [21, 22, 26, 1, 2, 3, 4, 5, 6, 7, 8, 9, 10, 11, 12, 13, 14, 15, 16, 17, 18, 19, 20] (by decide) rfl rfl rfl) rfl rfl hl.1 rfl (lv_room (Nat.le_of_ble_eq_true rfl)) dX9_blunder_18 ⟨Nat.le_of_ble_eq_true rfl, Nat.le_of_ble_eq_true rfl⟩) hP hD hS hA [21, 22, 26, 1, 2, 3, 4, 5, 6, 7, 8, 9, 10, 11, 12, 13, 14, 15, 16, 17, 18, 19, 20] [0, 23, 24, 25, 27] rfl rfl (by decide) (by decide) (fun u5 H locs hw hP hD hS => ?_)
  have hP : va_P D vwCl [(h0, .inr (12, [.ref vC, .ref vP, .ref vT, .ref vS, .ref vF, .ref vN, .ref vY, .int 0])), (sJ, .inr (5, [.ref j1, .ref j2, .ref j3, .ref jL, .int 0])), (jL, .inl (cy 0, 9, .inl (fun j => nI j))), (p1, .inl (cy 0, 9, .inl (fun j => nI j))), (p8, .inl (cy 2, 24, .inl (fun _ => 0))), (vP, .inr (7, [.ref vC, .ref p1, .ref p2, .ref p3, .ref p4, .ref p5, .ref p6, .ref p7, .int 0, .long 0, .ref p8, .int 0, .int 0, .long 1])), (vC, .inr (3, [.ref sS, .ref sJ, .int 0, .int 0])), (p5, .inl (cy 3, 9, .inr (.inr (.inr (.inr (fun k9 => if k9 < 9 then some (rt k9) else none)))))), ((rt 0), .inl (cy 1, 3, .inr (.inl (fun _ => 0)))), ((rt 1), .inl (cy 1, 3, .inr (.inl (fun _ => 0)))), ((rt 2), .inl (cy 1, 3, .inr (.inl (fun _ => 0)))), ((rt 3), .inl (cy 1, 3, .inr (.inl (fun _ => 0)))), ((rt 4), .inl (cy 1, 3, .inr (.inl (fun _ => 0)))), ((rt 5), .inl (cy 1, 3, .inr (.inl (fun _ => 0)))), ((rt 6), .inl (cy 1, 3, .inr (.inl (fun _ => 0)))), ((rt 7), .inl (cy 1, 3, .inr (.inl (fun _ => 0)))), ((rt 8), .inl (cy 1, 3, .inr (.inl (fun _ => 0))))] H := hP
  have hD : va_D A [(h0, .inr (12, [.ref vC, .ref vP, .ref vT, .ref vS, .ref vF, .ref vN, .ref vY, .int 0])), (sJ, .inr (5, [.ref j1, .ref j2, .ref j3, .ref jL, .int 0])), (jL, .inl (cy 0, 9, .inl (fun j => nI j))), (p1, .inl (cy 0, 9, .inl (fun j => nI j))), (p8, .inl (cy 2, 24, .inl (fun _ => 0))), (vP, .inr (7, [.ref vC, .ref p1, .ref p2, .ref p3, .ref p4, .ref p5, .ref p6, .ref p7, .int 0, .long 0, .ref p8, .int 0, .int 0, .long 1])), (vC, .inr (3, [.ref sS, .ref sJ, .int 0, .int 0])), (p5, .inl (cy 3, 9, .inr (.inr (.inr (.inr (fun k9 => if k9 < 9 then some (rt k9) else none)))))), ((rt 0), .inl (cy 1, 3, .inr (.inl (fun _ => 0)))), ((rt 1), .inl (cy 1, 3, .inr (.inl (fun _ => 0)))), ((rt 2), .inl (cy 1, 3, .inr (.inl (fun _ => 0)))), ((rt 3), .inl (cy 1, 3, .inr (.inl (fun _ => 0)))), ((rt 4), .inl (cy 1, 3, .inr (.inl (fun _ => 0)))), ((rt 5), .inl (cy 1, 3, .inr (.inl (fun _ => 0)))), ((rt 6), .inl (cy 1, 3, .inr (.inl (fun _ => 0)))), ((rt 7), .inl (cy 1, 3, .inr (.inl (fun _ => 0)))), ((rt 8), .inl (cy 1, 3, .inr (.inl (fun _ => 0))))] := hD
  refine lv_aload_n hx hb dX9_blunder_21 rfl (lv_at hl 0 rfl) ?_
  refine lv_iload_n hx hb dX9_blunder_22 rfl (lv_at hl 1 rfl) ?_
  refine zq_i (wc := [(h0, .inr (12, [.ref vC, .ref vP, .ref vT, .ref vS, .ref vF, .ref vN, .ref vY, .int 0])), (vC, .inr (3, [.ref sS, .ref sJ, .int 0, .int 0])), (vP, .inr (7, [.ref vC, .ref p1, .ref p2, .ref p3, .ref p4, .ref p5, .ref p6, .ref p7, .int 0, .long 0, .ref p8, .int 0, .int 0, .long 1]))]) (wr := [(sJ, .inr (5, [.ref j1, .ref j2, .ref j3, .ref jL, .int 0])), (jL, .inl (cy 0, 9, .inl (fun j => nI j))), (p1, .inl (cy 0, 9, .inl (fun j => nI j))), (p8, .inl (cy 2, 24, .inl (fun _ => 0))), (p5, .inl (cy 3, 9, .inr (.inr (.inr (.inr (fun k9 => if k9 < 9 then some (rt k9) else none)))))), ((rt 0), .inl (cy 1, 3, .inr (.inl (fun _ => 0)))), ((rt 1), .inl (cy 1, 3, .inr (.inl (fun _ => 0)))), ((rt 2), .inl (cy 1, 3, .inr (.inl (fun _ => 0)))), ((rt 3), .inl (cy 1, 3, .inr (.inl (fun _ => 0)))), ((rt 4), .inl (cy 1, 3, .inr (.inl (fun _ => 0)))), ((rt 5), .inl (cy 1, 3, .inr (.inl (fun _ => 0)))), ((rt 6), .inl (cy 1, 3, .inr (.inl (fun _ => 0)))), ((rt 7), .inl (cy 1, 3, .inr (.inl (fun _ => 0)))), ((rt 8), .inl (cy 1, 3, .inr (.inl (fun _ => 0))))]) (va_runV (As := [.int d]) (rest := []) ⟨hx, hb, hml, hown, hts⟩ (k_findBlunder l D cy h0 vC vP vT vS vF vN vY sS sJ p1 p2 p3 p4 p5 p6 p7 p8 0 0 0 0 1 d H.size ) (cwV 1 hts (gzV (gz q219) q218 q220 q221 q174) rfl rfl rfl vX9_findBlunder ⟨Nat.le_of_ble_eq_true rfl, Nat.le_of_ble_eq_true rfl⟩) (zpV (ci := 12) (T := TX9) (N := 8) (q0 := 0) hK hX hY hP hD hS hA [0, 6, 5] (by decide) rfl rfl rfl) rfl rfl hl.1 rfl (lv_room (Nat.le_of_ble_eq_true rfl)) dX9_blunder_23 ⟨Nat.le_of_ble_eq_true rfl, Nat.le_of_ble_eq_true rfl⟩) hP hD hS hA [0, 6, 5] [1, 2, 3, 4, 7, 8, 9, 10, 11, 12, 13, 14, 15, 16] rfl rfl (by decide) (by decide) (fun x8 u7 H locs hw hP hD hS => ?_)
  obtain rfl : x8 = (-1) := hw
  have hP : va_P D vwCl [(sJ, .inr (5, [.ref j1, .ref j2, .ref j3, .ref jL, .int 0])), (jL, .inl (cy 0, 9, .inl (fun j => nI j))), (p1, .inl (cy 0, 9, .inl (fun j => nI j))), (p8, .inl (cy 2, 24, .inl (fun _ => 0))), (p5, .inl (cy 3, 9, .inr (.inr (.inr (.inr (fun k9 => if k9 < 9 then some (rt k9) else none)))))), ((rt 0), .inl (cy 1, 3, .inr (.inl (fun _ => 0)))), ((rt 1), .inl (cy 1, 3, .inr (.inl (fun _ => 0)))), ((rt 2), .inl (cy 1, 3, .inr (.inl (fun _ => 0)))), ((rt 3), .inl (cy 1, 3, .inr (.inl (fun _ => 0)))), ((rt 4), .inl (cy 1, 3, .inr (.inl (fun _ => 0)))), ((rt 5), .inl (cy 1, 3, .inr (.inl (fun _ => 0)))), ((rt 6), .inl (cy 1, 3, .inr (.inl (fun _ => 0)))), ((rt 7), .inl (cy 1, 3, .inr (.inl (fun _ => 0)))), ((rt 8), .inl (cy 1, 3, .inr (.inl (fun _ => 0)))), (h0, .inr (12, [.ref vC, .ref vP, .ref vT, .ref vS, .ref vF, .ref vN, .ref vY, .int 0])), (vC, .inr (3, [.ref sS, .ref sJ, .int 0, .int 0])), (vP, .inr (7, [.ref vC, .ref p1, .ref p2, .ref p3, .ref p4, .ref p5, .ref p6, .ref p7, .int 0, .long 0, .ref p8, .int 0, .int 0, .long 1]))] H := hP
  have hD : va_D A [(sJ, .inr (5, [.ref j1, .ref j2, .ref j3, .ref jL, .int 0])), (jL, .inl (cy 0, 9, .inl (fun j => nI j))), (p1, .inl (cy 0, 9, .inl (fun j => nI j))), (p8, .inl (cy 2, 24, .inl (fun _ => 0))), (p5, .inl (cy 3, 9, .inr (.inr (.inr (.inr (fun k9 => if k9 < 9 then some (rt k9) else none)))))), ((rt 0), .inl (cy 1, 3, .inr (.inl (fun _ => 0)))), ((rt 1), .inl (cy 1, 3, .inr (.inl (fun _ => 0)))), ((rt 2), .inl (cy 1, 3, .inr (.inl (fun _ => 0)))), ((rt 3), .inl (cy 1, 3, .inr (.inl (fun _ => 0)))), ((rt 4), .inl (cy 1, 3, .inr (.inl (fun _ => 0)))), ((rt 5), .inl (cy 1, 3, .inr (.inl (fun _ => 0)))), ((rt 6), .inl (cy 1, 3, .inr (.inl (fun _ => 0)))), ((rt 7), .inl (cy 1, 3, .inr (.inl (fun _ => 0)))), ((rt 8), .inl (cy 1, 3, .inr (.inl (fun _ => 0)))), (h0, .inr (12, [.ref vC, .ref vP, .ref vT, .ref vS, .ref vF, .ref vN, .ref vY, .int 0])), (vC, .inr (3, [.ref sS, .ref sJ, .int 0, .int 0])), (vP, .inr (7, [.ref vC, .ref p1, .ref p2, .ref p3, .ref p4, .ref p5, .ref p6, .ref p7, .int 0, .long 0, .ref p8, .int 0, .int 0, .long 1]))] := hD
  refine lv_istore_n (lv' := [(2, .int (-1)), (0, .ref h0), (1, .int d)]) hx hb dX9_blunder_26 rfl hl (by decide) rfl (fun ls hl => ?_)
  refine lv_iload_n hx hb dX9_blunder_27 rfl (lv_at hl 0 rfl) ?_
  refine lv_iconst (v := (-1)) hx hb dX9_blunder_28 (by decide) ?_
  refine lv_icmp_ne (tgt := 42) hx hb dX9_blunder_29 (by decide) (fun c_29_8 => absurd (by decide +kernel) c_29_8) (fun _ => ?_)
  obtain ⟨sa, hstr⟩ := hX.2.1.2.2.2.2.2.1
  rw [hQe]
  exact z_throwX (names := zN) (A := A) hx hb hlt zx0 zx1 zx2 zx5 hown (by decide +kernel) (by decide +kernel) (hts _ q222) (hts _ q223) hstr (at_180 hts hX) at_180_g hY.1 hY.2.1 hS (by rw [hml]; exact hl.1) dX9_blunder_32 dX9_blunder_35 dX9_blunder_36 dX9_blunder_38 dX9_blunder_41 (fun x h => (hout x h).elim) (Nat.le_of_ble_eq_true rfl) (Nat.le_of_ble_eq_true rfl) (Nat.le_of_ble_eq_true rfl) (Nat.le_of_ble_eq_true rfl) hlocks (fun t hal hz hk => ⟨(), trivial, rfl, z_F hS hz hk⟩) hS.2.2 (Nat.le_of_ble_eq_true rfl) (Nat.le_of_ble_eq_true rfl)
set_option maxHeartbeats 4000000 in
set_option maxRecDepth 100000 in
/-- no stations: it throws -/
theorem f_hungShare_in (l : Launch) (hlt : l.stackTraces = false) (D : va_G) (cy : Nat → ClassId) (h0 : Nat) (vC : Nat) (vP : Nat) (vT : Nat) (vS : Nat) (vF : Nat) (vN : Nat) (vY : Nat) (sS : Nat) (sJ : Nat) (d : Int32) (sz : Nat) (hd : zDay d) : vx_Met l yX9_hungShare (wz yX9_hungShare cX9_hungShare 2 (some .float)) ({ frames := 6, cells := 1, slots := 6, locals := 82 } : Room) (va_Pc [.ref h0, .int d] (zPre vwCl D cy [(h0, .inr (12, [.ref vC, .ref vP, .ref vT, .ref vS, .ref vF, .ref vN, .ref vY, .int 0])), (vC, .inr (3, [.ref sS, .ref sJ, .int 0, .int 0]))] sz)) zNo (zXC zE4 (va_A [(h0, .inr (12, [.ref vC, .ref vP, .ref vT, .ref vS, .ref vF, .ref vN, .ref vY, .int 0])), (vC, .inr (3, [.ref sS, .ref sJ, .int 0, .int 0]))] sz)) 1 6 (va_A [(h0, .inr (12, [.ref vC, .ref vP, .ref vT, .ref vS, .ref vF, .ref vN, .ref vY, .int 0])), (vC, .inr (3, [.ref sS, .ref sJ, .int 0, .int 0]))] sz) := by
  refine vx_ofW (cc := cX9_hungShare) (maxL := 2) (ret := (some .float)) (by decide) rfl ?_
  intro p e s m args below meth c s₁ B hml hout hv
  obtain ⟨rfl, hsz, hP, hK, hD0, hX, hY⟩ := hv
  have hx := B.exec
  have hb := B.bytes
  have hr := B.returns
  have hts0 := atoms_spec (ws := wz yX9_hungShare cX9_hungShare 2 (some .float)) B.pre
  have hts : ∀ w ∈ wAll, w.before _ s = true := fun w h => hts0 w (List.mem_cons_of_mem _ h)
  have hown : s.vm.findClass RX9 = some m.cls := findClass_of_methodNamed B.named
  have hlocks := B.notSynchronized
  subst hsz
  have hD := hD0.self (sz := s.heap.size)
  generalize hAe : va_A [(h0, .inr (12, [.ref vC, .ref vP, .ref vT, .ref vS, .ref vF, .ref vN, .ref vY, .int 0])), (vC, .inr (3, [.ref sS, .ref sJ, .int 0, .int 0]))] s.heap.size = A at hD hY ⊢
  have hA : ∀ q : Nat, s.heap.size ≤ q → A q := fun q h => by rw [← hAe]; exact Or.inr h
  have hS : va_S A s.heap s.heap [] := va_S.rf
  have hP : va_P D vwCl [(h0, .inr (12, [.ref vC, .ref vP, .ref vT, .ref vS, .ref vF, .ref vN, .ref vY, .int 0])), (vC, .inr (3, [.ref sS, .ref sJ, .int 0, .int 0]))] s.heap := hP
  have hl := lv_entry ([.ref h0, .int d]) (n := 2) (Nat.le_of_ble_eq_true rfl)
  rw [lg_entry_eq]
  generalize (lg_sl ([.ref h0, .int d]) ++ List.replicate (2 - (lg_sl ([.ref h0, .int d])).length) Slot.unset).toArray = ls at hl ⊢
  have hl : lv_has ls 2 [(0, .ref h0), (1, .int d)] := hl
  refine z_anyQ (fun Q hQe => ?_)
  refine lv_iload_n hx hb dX9_hungShare_0 rfl (lv_at hl 1 rfl) ?_
  refine zq_v (wc := []) (wr := [(h0, .inr (12, [.ref vC, .ref vP, .ref vT, .ref vS, .ref vF, .ref vN, .ref vY, .int 0])), (vC, .inr (3, [.ref sS, .ref sJ, .int 0, .int 0]))]) (va_runS (As := [.int d]) (rest := []) ⟨hx, hb, hml, hown, hts⟩ (k_needDay_ok l D cy d s.heap.size hd) (va_cwS 1 hts (gzS (gz q192) q191 q193 q174) rfl rfl rfl vX9_needDay.2 ⟨Nat.le_of_ble_eq_true rfl, Nat.le_of_ble_eq_true rfl⟩) (zpS hK hX hY hP hD hS hA [] (by decide) rfl) rfl rfl hl.1 rfl (lv_room (Nat.le_of_ble_eq_true rfl)) dX9_hungShare_1 ⟨Nat.le_of_ble_eq_true rfl, Nat.le_of_ble_eq_true rfl⟩) hP hD hS hA [] [0, 1] rfl rfl (by decide) (by decide) (fun u1 H locs hw hP hD hS => ?_)
  have hP : va_P D vwCl [(h0, .inr (12, [.ref vC, .ref vP, .ref vT, .ref vS, .ref vF, .ref vN, .ref vY, .int 0])), (vC, .inr (3, [.ref sS, .ref sJ, .int 0, .int 0]))] H := hP
  have hD : va_D A [(h0, .inr (12, [.ref vC, .ref vP, .ref vT, .ref vS, .ref vF, .ref vN, .ref vY, .int 0])), (vC, .inr (3, [.ref sS, .ref sJ, .int 0, .int 0]))] := hD
  refine lv_aload_n hx hb dX9_hungShare_4 rfl (lv_at hl 0 rfl) ?_
  refine va_get (D := D) (ci := 12) (v := .ref vC) (C := RX9) (T := TX9) (N := 8) hx hb hts iRX9 hown hK hP 0 rfl rfl 0 (by decide) (hts _ q127) (fun _ h9 => h9) rfl dX9_hungShare_5 ?_
  refine va_get (D := D) (ci := 3) (v := .int 0) (C := RX0) (T := TX0) (N := 4) hx hb hts iRX0 hown hK hP 1 rfl rfl 2 (by decide) (hts _ q165) (fun _ h9 => h9) rfl dX9_hungShare_8 ?_
  refine lv_if_ne (tgt := 25) hx hb dX9_hungShare_11 (by decide) (fun c_11_2 => absurd (by decide +kernel) c_11_2) (fun _ => ?_)
  obtain ⟨sa, hstr⟩ := hX.2.1.2.2.2.2.2.2.1
  rw [hQe]
  exact vx_throwSW (names := zN) (A := A) hx hb hlt hown (by decide +kernel) (by decide +kernel) (hts _ q224) (hts _ q225) hstr (at_329 hts hX) at_329_g hY.1 hY.2.1 hS (by rw [hml]; exact hl.1) dX9_hungShare_14 dX9_hungShare_17 dX9_hungShare_18 dX9_hungShare_21 dX9_hungShare_24 (fun x h => (hout x h).elim) (Nat.le_of_ble_eq_true rfl) (Nat.le_of_ble_eq_true rfl) (Nat.le_of_ble_eq_true rfl) (Nat.le_of_ble_eq_true rfl) hlocks (fun t hal hz hk => ⟨(), trivial, rfl, z_F hS hz hk⟩) hS.2.2 (Nat.le_of_ble_eq_true rfl) (Nat.le_of_ble_eq_true rfl)
set_option maxHeartbeats 4000000 in
set_option maxRecDepth 100000 in
/-- all is sound -/
theorem f_isSound_in (l : Launch) (D : va_G) (cy : Nat → ClassId) (h0 : Nat) (vC : Nat) (vP : Nat) (vT : Nat) (vS : Nat) (vF : Nat) (vN : Nat) (vY : Nat) (sS : Nat) (sJ : Nat) (j1 : Nat) (j2 : Nat) (j3 : Nat) (jL : Nat) (p1 : Nat) (p2 : Nat) (p3 : Nat) (p4 : Nat) (p5 : Nat) (p6 : Nat) (p7 : Nat) (p8 : Nat) (rn : Nat → Nat) (rt : Nat → Nat) (t1 : Nat) (t2 : Nat) (t3 : Nat) (t4 : Nat) (t5 : Nat) (t6 : Nat) (t7 : Nat) (t8 : Nat) (rn2 : Nat → Nat) (rt2 : Nat → Nat) (d : Int32) (sz : Nat) (hd : zDay d) : Met l yX9_isSound (wz yX9_isSound cX9_isSound 3 (some .boolean)) ({ frames := 4, cells := 0, slots := 0, locals := 85 } : Room) (va_Pc [.ref h0, .int d] (zPre vwCl D cy ((h0, .inr (12, [.ref vC, .ref vP, .ref vT, .ref vS, .ref vF, .ref vN, .ref vY, .int 0])) :: (vC, .inr (3, [.ref sS, .ref sJ, .int 0, .int 0])) :: (sJ, .inr (5, [.ref j1, .ref j2, .ref j3, .ref jL, .int 0])) :: (jL, .inl (cy 0, 9, .inl (fun _ => 0))) :: (vP, .inr (7, [.ref vC, .ref p1, .ref p2, .ref p3, .ref p4, .ref p5, .ref p6, .ref p7, .int 0, .long 0, .ref p8, .int 0, .int 0, .long 1])) :: (p1, .inl (cy 0, 9, .inl (fun _ => 0))) :: (p2, .inl (cy 2, 9, .inl (fun _ => 0))) :: (p8, .inl (cy 2, 24, .inl (fun _ => 0))) :: (p3, .inl (cy 0, 9, .inl (fun _ => 0))) :: (p4, .inl (cy 3, 8, .inr (.inr (.inr (.inr (fun k9 => if k9 < 8 then some (rn k9) else none)))))) :: ((rn 0), .inl (cy 1, 11, .inr (.inl (fun _ => 0)))) :: ((rn 1), .inl (cy 1, 11, .inr (.inl (fun _ => 0)))) :: ((rn 2), .inl (cy 1, 11, .inr (.inl (fun _ => 0)))) :: ((rn 3), .inl (cy 1, 11, .inr (.inl (fun _ => 0)))) :: ((rn 4), .inl (cy 1, 11, .inr (.inl (fun _ => 0)))) :: ((rn 5), .inl (cy 1, 11, .inr (.inl (fun _ => 0)))) :: ((rn 6), .inl (cy 1, 11, .inr (.inl (fun _ => 0)))) :: ((rn 7), .inl (cy 1, 11, .inr (.inl (fun _ => 0)))) :: (p5, .inl (cy 3, 9, .inr (.inr (.inr (.inr (fun k9 => if k9 < 9 then some (rt k9) else none)))))) :: ((rt 0), .inl (cy 1, 3, .inr (.inl (fun _ => 0)))) :: ((rt 1), .inl (cy 1, 3, .inr (.inl (fun _ => 0)))) :: ((rt 2), .inl (cy 1, 3, .inr (.inl (fun _ => 0)))) :: ((rt 3), .inl (cy 1, 3, .inr (.inl (fun _ => 0)))) :: ((rt 4), .inl (cy 1, 3, .inr (.inl (fun _ => 0)))) :: ((rt 5), .inl (cy 1, 3, .inr (.inl (fun _ => 0)))) :: ((rt 6), .inl (cy 1, 3, .inr (.inl (fun _ => 0)))) :: ((rt 7), .inl (cy 1, 3, .inr (.inl (fun _ => 0)))) :: ((rt 8), .inl (cy 1, 3, .inr (.inl (fun _ => 0)))) :: (vT, .inr (7, [.ref vC, .ref t1, .ref t2, .ref t3, .ref t4, .ref t5, .ref t6, .ref t7, .int 0, .long 0, .ref t8, .int 0, .int 0, .long 1])) :: (t1, .inl (cy 0, 9, .inl (fun _ => 0))) :: (t2, .inl (cy 2, 9, .inl (fun _ => 0))) :: (t8, .inl (cy 2, 24, .inl (fun _ => 0))) :: (t3, .inl (cy 0, 9, .inl (fun _ => 0))) :: (t4, .inl (cy 3, 8, .inr (.inr (.inr (.inr (fun k9 => if k9 < 8 then some (rn2 k9) else none)))))) :: ((rn2 0), .inl (cy 1, 11, .inr (.inl (fun _ => 0)))) :: ((rn2 1), .inl (cy 1, 11, .inr (.inl (fun _ => 0)))) :: ((rn2 2), .inl (cy 1, 11, .inr (.inl (fun _ => 0)))) :: ((rn2 3), .inl (cy 1, 11, .inr (.inl (fun _ => 0)))) :: ((rn2 4), .inl (cy 1, 11, .inr (.inl (fun _ => 0)))) :: ((rn2 5), .inl (cy 1, 11, .inr (.inl (fun _ => 0)))) :: ((rn2 6), .inl (cy 1, 11, .inr (.inl (fun _ => 0)))) :: ((rn2 7), .inl (cy 1, 11, .inr (.inl (fun _ => 0)))) :: (t5, .inl (cy 3, 9, .inr (.inr (.inr (.inr (fun k9 => if k9 < 9 then some (rt2 k9) else none)))))) :: ((rt2 0), .inl (cy 1, 3, .inr (.inl (fun _ => 0)))) :: ((rt2 1), .inl (cy 1, 3, .inr (.inl (fun _ => 0)))) :: ((rt2 2), .inl (cy 1, 3, .inr (.inl (fun _ => 0)))) :: ((rt2 3), .inl (cy 1, 3, .inr (.inl (fun _ => 0)))) :: ((rt2 4), .inl (cy 1, 3, .inr (.inl (fun _ => 0)))) :: ((rt2 5), .inl (cy 1, 3, .inr (.inl (fun _ => 0)))) :: ((rt2 6), .inl (cy 1, 3, .inr (.inl (fun _ => 0)))) :: ((rt2 7), .inl (cy 1, 3, .inr (.inl (fun _ => 0)))) :: ((rt2 8), .inl (cy 1, 3, .inr (.inl (fun _ => 0)))) :: []) sz)) (va_Qi (fun (r : Int32) (_ : Unit) => r = 1) (fun (u : Unit) t => zPost vwCl D (va_A ((h0, .inr (12, [.ref vC, .ref vP, .ref vT, .ref vS, .ref vF, .ref vN, .ref vY, .int 0])) :: (vC, .inr (3, [.ref sS, .ref sJ, .int 0, .int 0])) :: (sJ, .inr (5, [.ref j1, .ref j2, .ref j3, .ref jL, .int 0])) :: (jL, .inl (cy 0, 9, .inl (fun _ => 0))) :: (vP, .inr (7, [.ref vC, .ref p1, .ref p2, .ref p3, .ref p4, .ref p5, .ref p6, .ref p7, .int 0, .long 0, .ref p8, .int 0, .int 0, .long 1])) :: (p1, .inl (cy 0, 9, .inl (fun _ => 0))) :: (p2, .inl (cy 2, 9, .inl (fun _ => 0))) :: (p8, .inl (cy 2, 24, .inl (fun _ => 0))) :: (p3, .inl (cy 0, 9, .inl (fun _ => 0))) :: (p4, .inl (cy 3, 8, .inr (.inr (.inr (.inr (fun k9 => if k9 < 8 then some (rn k9) else none)))))) :: ((rn 0), .inl (cy 1, 11, .inr (.inl (fun _ => 0)))) :: ((rn 1), .inl (cy 1, 11, .inr (.inl (fun _ => 0)))) :: ((rn 2), .inl (cy 1, 11, .inr (.inl (fun _ => 0)))) :: ((rn 3), .inl (cy 1, 11, .inr (.inl (fun _ => 0)))) :: ((rn 4), .inl (cy 1, 11, .inr (.inl (fun _ => 0)))) :: ((rn 5), .inl (cy 1, 11, .inr (.inl (fun _ => 0)))) :: ((rn 6), .inl (cy 1, 11, .inr (.inl (fun _ => 0)))) :: ((rn 7), .inl (cy 1, 11, .inr (.inl (fun _ => 0)))) :: (p5, .inl (cy 3, 9, .inr (.inr (.inr (.inr (fun k9 => if k9 < 9 then some (rt k9) else none)))))) :: ((rt 0), .inl (cy 1, 3, .inr (.inl (fun _ => 0)))) :: ((rt 1), .inl (cy 1, 3, .inr (.inl (fun _ => 0)))) :: ((rt 2), .inl (cy 1, 3, .inr (.inl (fun _ => 0)))) :: ((rt 3), .inl (cy 1, 3, .inr (.inl (fun _ => 0)))) :: ((rt 4), .inl (cy 1, 3, .inr (.inl (fun _ => 0)))) :: ((rt 5), .inl (cy 1, 3, .inr (.inl (fun _ => 0)))) :: ((rt 6), .inl (cy 1, 3, .inr (.inl (fun _ => 0)))) :: ((rt 7), .inl (cy 1, 3, .inr (.inl (fun _ => 0)))) :: ((rt 8), .inl (cy 1, 3, .inr (.inl (fun _ => 0)))) :: (vT, .inr (7, [.ref vC, .ref t1, .ref t2, .ref t3, .ref t4, .ref t5, .ref t6, .ref t7, .int 0, .long 0, .ref t8, .int 0, .int 0, .long 1])) :: (t1, .inl (cy 0, 9, .inl (fun _ => 0))) :: (t2, .inl (cy 2, 9, .inl (fun _ => 0))) :: (t8, .inl (cy 2, 24, .inl (fun _ => 0))) :: (t3, .inl (cy 0, 9, .inl (fun _ => 0))) :: (t4, .inl (cy 3, 8, .inr (.inr (.inr (.inr (fun k9 => if k9 < 8 then some (rn2 k9) else none)))))) :: ((rn2 0), .inl (cy 1, 11, .inr (.inl (fun _ => 0)))) :: ((rn2 1), .inl (cy 1, 11, .inr (.inl (fun _ => 0)))) :: ((rn2 2), .inl (cy 1, 11, .inr (.inl (fun _ => 0)))) :: ((rn2 3), .inl (cy 1, 11, .inr (.inl (fun _ => 0)))) :: ((rn2 4), .inl (cy 1, 11, .inr (.inl (fun _ => 0)))) :: ((rn2 5), .inl (cy 1, 11, .inr (.inl (fun _ => 0)))) :: ((rn2 6), .inl (cy 1, 11, .inr (.inl (fun _ => 0)))) :: ((rn2 7), .inl (cy 1, 11, .inr (.inl (fun _ => 0)))) :: (t5, .inl (cy 3, 9, .inr (.inr (.inr (.inr (fun k9 => if k9 < 9 then some (rt2 k9) else none)))))) :: ((rt2 0), .inl (cy 1, 3, .inr (.inl (fun _ => 0)))) :: ((rt2 1), .inl (cy 1, 3, .inr (.inl (fun _ => 0)))) :: ((rt2 2), .inl (cy 1, 3, .inr (.inl (fun _ => 0)))) :: ((rt2 3), .inl (cy 1, 3, .inr (.inl (fun _ => 0)))) :: ((rt2 4), .inl (cy 1, 3, .inr (.inl (fun _ => 0)))) :: ((rt2 5), .inl (cy 1, 3, .inr (.inl (fun _ => 0)))) :: ((rt2 6), .inl (cy 1, 3, .inr (.inl (fun _ => 0)))) :: ((rt2 7), .inl (cy 1, 3, .inr (.inl (fun _ => 0)))) :: ((rt2 8), .inl (cy 1, 3, .inr (.inl (fun _ => 0)))) :: []) sz) [] t) (va_A ((h0, .inr (12, [.ref vC, .ref vP, .ref vT, .ref vS, .ref vF, .ref vN, .ref vY, .int 0])) :: (vC, .inr (3, [.ref sS, .ref sJ, .int 0, .int 0])) :: (sJ, .inr (5, [.ref j1, .ref j2, .ref j3, .ref jL, .int 0])) :: (jL, .inl (cy 0, 9, .inl (fun _ => 0))) :: (vP, .inr (7, [.ref vC, .ref p1, .ref p2, .ref p3, .ref p4, .ref p5, .ref p6, .ref p7, .int 0, .long 0, .ref p8, .int 0, .int 0, .long 1])) :: (p1, .inl (cy 0, 9, .inl (fun _ => 0))) :: (p2, .inl (cy 2, 9, .inl (fun _ => 0))) :: (p8, .inl (cy 2, 24, .inl (fun _ => 0))) :: (p3, .inl (cy 0, 9, .inl (fun _ => 0))) :: (p4, .inl (cy 3, 8, .inr (.inr (.inr (.inr (fun k9 => if k9 < 8 then some (rn k9) else none)))))) :: ((rn 0), .inl (cy 1, 11, .inr (.inl (fun _ => 0)))) :: ((rn 1), .inl (cy 1, 11, .inr (.inl (fun _ => 0)))) :: ((rn 2), .inl (cy 1, 11, .inr (.inl (fun _ => 0)))) :: ((rn 3), .inl (cy 1, 11, .inr (.inl (fun _ => 0)))) :: ((rn 4), .inl (cy 1, 11, .inr (.inl (fun _ => 0)))) :: ((rn 5), .inl (cy 1, 11, .inr (.inl (fun _ => 0)))) :: ((rn 6), .inl (cy 1, 11, .inr (.inl (fun _ => 0)))) :: ((rn 7), .inl (cy 1, 11, .inr (.inl (fun _ => 0)))) :: (p5, .inl (cy 3, 9, .inr (.inr (.inr (.inr (fun k9 => if k9 < 9 then some (rt k9) else none)))))) :: ((rt 0), .inl (cy 1, 3, .inr (.inl (fun _ => 0)))) :: ((rt 1), .inl (cy 1, 3, .inr (.inl (fun _ => 0)))) :: ((rt 2), .inl (cy 1, 3, .inr (.inl (fun _ => 0)))) :: ((rt 3), .inl (cy 1, 3, .inr (.inl (fun _ => 0)))) :: ((rt 4), .inl (cy 1, 3, .inr (.inl (fun _ => 0)))) :: ((rt 5), .inl (cy 1, 3, .inr (.inl (fun _ => 0)))) :: ((rt 6), .inl (cy 1, 3, .inr (.inl (fun _ => 0)))) :: ((rt 7), .inl (cy 1, 3, .inr (.inl (fun _ => 0)))) :: ((rt 8), .inl (cy 1, 3, .inr (.inl (fun _ => 0)))) :: (vT, .inr (7, [.ref vC, .ref t1, .ref t2, .ref t3, .ref t4, .ref t5, .ref t6, .ref t7, .int 0, .long 0, .ref t8, .int 0, .int 0, .long 1])) :: (t1, .inl (cy 0, 9, .inl (fun _ => 0))) :: (t2, .inl (cy 2, 9, .inl (fun _ => 0))) :: (t8, .inl (cy 2, 24, .inl (fun _ => 0))) :: (t3, .inl (cy 0, 9, .inl (fun _ => 0))) :: (t4, .inl (cy 3, 8, .inr (.inr (.inr (.inr (fun k9 => if k9 < 8 then some (rn2 k9) else none)))))) :: ((rn2 0), .inl (cy 1, 11, .inr (.inl (fun _ => 0)))) :: ((rn2 1), .inl (cy 1, 11, .inr (.inl (fun _ => 0)))) :: ((rn2 2), .inl (cy 1, 11, .inr (.inl (fun _ => 0)))) :: ((rn2 3), .inl (cy 1, 11, .inr (.inl (fun _ => 0)))) :: ((rn2 4), .inl (cy 1, 11, .inr (.inl (fun _ => 0)))) :: ((rn2 5), .inl (cy 1, 11, .inr (.inl (fun _ => 0)))) :: ((rn2 6), .inl (cy 1, 11, .inr (.inl (fun _ => 0)))) :: ((rn2 7), .inl (cy 1, 11, .inr (.inl (fun _ => 0)))) :: (t5, .inl (cy 3, 9, .inr (.inr (.inr (.inr (fun k9 => if k9 < 9 then some (rt2 k9) else none)))))) :: ((rt2 0), .inl (cy 1, 3, .inr (.inl (fun _ => 0)))) :: ((rt2 1), .inl (cy 1, 3, .inr (.inl (fun _ => 0)))) :: ((rt2 2), .inl (cy 1, 3, .inr (.inl (fun _ => 0)))) :: ((rt2 3), .inl (cy 1, 3, .inr (.inl (fun _ => 0)))) :: ((rt2 4), .inl (cy 1, 3, .inr (.inl (fun _ => 0)))) :: ((rt2 5), .inl (cy 1, 3, .inr (.inl (fun _ => 0)))) :: ((rt2 6), .inl (cy 1, 3, .inr (.inl (fun _ => 0)))) :: ((rt2 7), .inl (cy 1, 3, .inr (.inl (fun _ => 0)))) :: ((rt2 8), .inl (cy 1, 3, .inr (.inl (fun _ => 0)))) :: []) sz)) 0 0 (va_A ((h0, .inr (12, [.ref vC, .ref vP, .ref vT, .ref vS, .ref vF, .ref vN, .ref vY, .int 0])) :: (vC, .inr (3, [.ref sS, .ref sJ, .int 0, .int 0])) :: (sJ, .inr (5, [.ref j1, .ref j2, .ref j3, .ref jL, .int 0])) :: (jL, .inl (cy 0, 9, .inl (fun _ => 0))) :: (vP, .inr (7, [.ref vC, .ref p1, .ref p2, .ref p3, .ref p4, .ref p5, .ref p6, .ref p7, .int 0, .long 0, .ref p8, .int 0, .int 0, .long 1])) :: (p1, .inl (cy 0, 9, .inl (fun _ => 0))) :: (p2, .inl (cy 2, 9, .inl (fun _ => 0))) :: (p8, .inl (cy 2, 24, .inl (fun _ => 0))) :: (p3, .inl (cy 0, 9, .inl (fun _ => 0))) :: (p4, .inl (cy 3, 8, .inr (.inr (.inr (.inr (fun k9 => if k9 < 8 then some (rn k9) else none)))))) :: ((rn 0), .inl (cy 1, 11, .inr (.inl (fun _ => 0)))) :: ((rn 1), .inl (cy 1, 11, .inr (.inl (fun _ => 0)))) :: ((rn 2), .inl (cy 1, 11, .inr (.inl (fun _ => 0)))) :: ((rn 3), .inl (cy 1, 11, .inr (.inl (fun _ => 0)))) :: ((rn 4), .inl (cy 1, 11, .inr (.inl (fun _ => 0)))) :: ((rn 5), .inl (cy 1, 11, .inr (.inl (fun _ => 0)))) :: ((rn 6), .inl (cy 1, 11, .inr (.inl (fun _ => 0)))) :: ((rn 7), .inl (cy 1, 11, .inr (.inl (fun _ => 0)))) :: (p5, .inl (cy 3, 9, .inr (.inr (.inr (.inr (fun k9 => if k9 < 9 then some (rt k9) else none)))))) :: ((rt 0), .inl (cy 1, 3, .inr (.inl (fun _ => 0)))) :: ((rt 1), .inl (cy 1, 3, .inr (.inl (fun _ => 0)))) :: ((rt 2), .inl (cy 1, 3, .inr (.inl (fun _ => 0)))) :: ((rt 3), .inl (cy 1, 3, .inr (.inl (fun _ => 0)))) :: ((rt 4), .inl (cy 1, 3, .inr (.inl (fun _ => 0)))) :: ((rt 5), .inl (cy 1, 3, .inr (.inl (fun _ => 0)))) :: ((rt 6), .inl (cy 1, 3, .inr (.inl (fun _ => 0)))) :: ((rt 7), .inl (cy 1, 3, .inr (.inl (fun _ => 0)))) :: ((rt 8), .inl (cy 1, 3, .inr (.inl (fun _ => 0)))) :: (vT, .inr (7, [.ref vC, .ref t1, .ref t2, .ref t3, .ref t4, .ref t5, .ref t6, .ref t7, .int 0, .long 0, .ref t8, .int 0, .int 0, .long 1])) :: (t1, .inl (cy 0, 9, .inl (fun _ => 0))) :: (t2, .inl (cy 2, 9, .inl (fun _ => 0))) :: (t8, .inl (cy 2, 24, .inl (fun _ => 0))) :: (t3, .inl (cy 0, 9, .inl (fun _ => 0))) :: (t4, .inl (cy 3, 8, .inr (.inr (.inr (.inr (fun k9 => if k9 < 8 then some (rn2 k9) else none)))))) :: ((rn2 0), .inl (cy 1, 11, .inr (.inl (fun _ => 0)))) :: ((rn2 1), .inl (cy 1, 11, .inr (.inl (fun _ => 0)))) :: ((rn2 2), .inl (cy 1, 11, .inr (.inl (fun _ => 0)))) :: ((rn2 3), .inl (cy 1, 11, .inr (.inl (fun _ => 0)))) :: ((rn2 4), .inl (cy 1, 11, .inr (.inl (fun _ => 0)))) :: ((rn2 5), .inl (cy 1, 11, .inr (.inl (fun _ => 0)))) :: ((rn2 6), .inl (cy 1, 11, .inr (.inl (fun _ => 0)))) :: ((rn2 7), .inl (cy 1, 11, .inr (.inl (fun _ => 0)))) :: (t5, .inl (cy 3, 9, .inr (.inr (.inr (.inr (fun k9 => if k9 < 9 then some (rt2 k9) else none)))))) :: ((rt2 0), .inl (cy 1, 3, .inr (.inl (fun _ => 0)))) :: ((rt2 1), .inl (cy 1, 3, .inr (.inl (fun _ => 0)))) :: ((rt2 2), .inl (cy 1, 3, .inr (.inl (fun _ => 0)))) :: ((rt2 3), .inl (cy 1, 3, .inr (.inl (fun _ => 0)))) :: ((rt2 4), .inl (cy 1, 3, .inr (.inl (fun _ => 0)))) :: ((rt2 5), .inl (cy 1, 3, .inr (.inl (fun _ => 0)))) :: ((rt2 6), .inl (cy 1, 3, .inr (.inl (fun _ => 0)))) :: ((rt2 7), .inl (cy 1, 3, .inr (.inl (fun _ => 0)))) :: ((rt2 8), .inl (cy 1, 3, .inr (.inl (fun _ => 0)))) :: []) sz) := by
  refine Met.ofW (cc := cX9_isSound) (maxL := 3) (ret := (some .boolean)) (by decide) rfl ?_
  intro p e s m args below meth c s₁ B hml hv
  obtain ⟨rfl, hsz, hP, hK, hD0, hX, hY⟩ := hv
  have hx := B.exec
  have hb := B.bytes
  have hr := B.returns
  have hts0 := atoms_spec (ws := wz yX9_isSound cX9_isSound 3 (some .boolean)) B.pre
  have hts : ∀ w ∈ wAll, w.before _ s = true := fun w h => hts0 w (List.mem_cons_of_mem _ h)
  have hown : s.vm.findClass RX9 = some m.cls := findClass_of_methodNamed B.named
  have hlocks := B.notSynchronized
  subst hsz
  have hD := hD0.self (sz := s.heap.size)
  generalize hAe : va_A ((h0, .inr (12, [.ref vC, .ref vP, .ref vT, .ref vS, .ref vF, .ref vN, .ref vY, .int 0])) :: (vC, .inr (3, [.ref sS, .ref sJ, .int 0, .int 0])) :: (sJ, .inr (5, [.ref j1, .ref j2, .ref j3, .ref jL, .int 0])) :: (jL, .inl (cy 0, 9, .inl (fun _ => 0))) :: (vP, .inr (7, [.ref vC, .ref p1, .ref p2, .ref p3, .ref p4, .ref p5, .ref p6, .ref p7, .int 0, .long 0, .ref p8, .int 0, .int 0, .long 1])) :: (p1, .inl (cy 0, 9, .inl (fun _ => 0))) :: (p2, .inl (cy 2, 9, .inl (fun _ => 0))) :: (p8, .inl (cy 2, 24, .inl (fun _ => 0))) :: (p3, .inl (cy 0, 9, .inl (fun _ => 0))) :: (p4, .inl (cy 3, 8, .inr (.inr (.inr (.inr (fun k9 => if k9 < 8 then some (rn k9) else none)))))) :: ((rn 0), .inl (cy 1, 11, .inr (.inl (fun _ => 0)))) :: ((rn 1), .inl (cy 1, 11, .inr (.inl (fun _ => 0)))) :: ((rn 2), .inl (cy 1, 11, .inr (.inl (fun _ => 0)))) :: ((rn 3), .inl (cy 1, 11, .inr (.inl (fun _ => 0)))) :: ((rn 4), .inl (cy 1, 11, .inr (.inl (fun _ => 0)))) :: ((rn 5), .inl (cy 1, 11, .inr (.inl (fun _ => 0)))) :: ((rn 6), .inl (cy 1, 11, .inr (.inl (fun _ => 0)))) :: ((rn 7), .inl (cy 1, 11, .inr (.inl (fun _ => 0)))) :: (p5, .inl (cy 3, 9, .inr (.inr (.inr (.inr (fun k9 => if k9 < 9 then some (rt k9) else none)))))) :: ((rt 0), .inl (cy 1, 3, .inr (.inl (fun _ => 0)))) :: ((rt 1), .inl (cy 1, 3, .inr (.inl (fun _ => 0)))) :: ((rt 2), .inl (cy 1, 3, .inr (.inl (fun _ => 0)))) :: ((rt 3), .inl (cy 1, 3, .inr (.inl (fun _ => 0)))) :: ((rt 4), .inl (cy 1, 3, .inr (.inl (fun _ => 0)))) :: ((rt 5), .inl (cy 1, 3, .inr (.inl (fun _ => 0)))) :: ((rt 6), .inl (cy 1, 3, .inr (.inl (fun _ => 0)))) :: ((rt 7), .inl (cy 1, 3, .inr (.inl (fun _ => 0)))) :: ((rt 8), .inl (cy 1, 3, .inr (.inl (fun _ => 0)))) :: (vT, .inr (7, [.ref vC, .ref t1, .ref t2, .ref t3, .ref t4, .ref t5, .ref t6, .ref t7, .int 0, .long 0, .ref t8, .int 0, .int 0, .long 1])) :: (t1, .inl (cy 0, 9, .inl (fun _ => 0))) :: (t2, .inl (cy 2, 9, .inl (fun _ => 0))) :: (t8, .inl (cy 2, 24, .inl (fun _ => 0))) :: (t3, .inl (cy 0, 9, .inl (fun _ => 0))) :: (t4, .inl (cy 3, 8, .inr (.inr (.inr (.inr (fun k9 => if k9 < 8 then some (rn2 k9) else none)))))) :: ((rn2 0), .inl (cy 1, 11, .inr (.inl (fun _ => 0)))) :: ((rn2 1), .inl (cy 1, 11, .inr (.inl (fun _ => 0)))) :: ((rn2 2), .inl (cy 1, 11, .inr (.inl (fun _ => 0)))) :: ((rn2 3), .inl (cy 1, 11, .inr (.inl (fun _ => 0)))) :: ((rn2 4), .inl (cy 1, 11, .inr (.inl (fun _ => 0)))) :: ((rn2 5), .inl (cy 1, 11, .inr (.inl (fun _ => 0)))) :: ((rn2 6), .inl (cy 1, 11, .inr (.inl (fun _ => 0)))) :: ((rn2 7), .inl (cy 1, 11, .inr (.inl (fun _ => 0)))) :: (t5, .inl (cy 3, 9, .inr (.inr (.inr (.inr (fun k9 => if k9 < 9 then some (rt2 k9) else none)))))) :: ((rt2 0), .inl (cy 1, 3, .inr (.inl (fun _ => 0)))) :: ((rt2 1), .inl (cy 1, 3, .inr (.inl (fun _ => 0)))) :: ((rt2 2), .inl (cy 1, 3, .inr (.inl (fun _ => 0)))) :: ((rt2 3), .inl (cy 1, 3, .inr (.inl (fun _ => 0)))) :: ((rt2 4), .inl (cy 1, 3, .inr (.inl (fun _ => 0)))) :: ((rt2 5), .inl (cy 1, 3, .inr (.inl (fun _ => 0)))) :: ((rt2 6), .inl (cy 1, 3, .inr (.inl (fun _ => 0)))) :: ((rt2 7), .inl (cy 1, 3, .inr (.inl (fun _ => 0)))) :: ((rt2 8), .inl (cy 1, 3, .inr (.inl (fun _ => 0)))) :: []) s.heap.size = A at hD hY ⊢
  have hA : ∀ q : Nat, s.heap.size ≤ q → A q := fun q h => by rw [← hAe]; exact Or.inr h
  have hS : va_S A s.heap s.heap [] := va_S.rf
  have hP : va_P D vwCl ((h0, .inr (12, [.ref vC, .ref vP, .ref vT, .ref vS, .ref vF, .ref vN, .ref vY, .int 0])) :: (vC, .inr (3, [.ref sS, .ref sJ, .int 0, .int 0])) :: (sJ, .inr (5, [.ref j1, .ref j2, .ref j3, .ref jL, .int 0])) :: (jL, .inl (cy 0, 9, .inl (fun _ => 0))) :: (vP, .inr (7, [.ref vC, .ref p1, .ref p2, .ref p3, .ref p4, .ref p5, .ref p6, .ref p7, .int 0, .long 0, .ref p8, .int 0, .int 0, .long 1])) :: (p1, .inl (cy 0, 9, .inl (fun _ => 0))) :: (p2, .inl (cy 2, 9, .inl (fun _ => 0))) :: (p8, .inl (cy 2, 24, .inl (fun _ => 0))) :: (p3, .inl (cy 0, 9, .inl (fun _ => 0))) :: (p4, .inl (cy 3, 8, .inr (.inr (.inr (.inr (fun k9 => if k9 < 8 then some (rn k9) else none)))))) :: ((rn 0), .inl (cy 1, 11, .inr (.inl (fun _ => 0)))) :: ((rn 1), .inl (cy 1, 11, .inr (.inl (fun _ => 0)))) :: ((rn 2), .inl (cy 1, 11, .inr (.inl (fun _ => 0)))) :: ((rn 3), .inl (cy 1, 11, .inr (.inl (fun _ => 0)))) :: ((rn 4), .inl (cy 1, 11, .inr (.inl (fun _ => 0)))) :: ((rn 5), .inl (cy 1, 11, .inr (.inl (fun _ => 0)))) :: ((rn 6), .inl (cy 1, 11, .inr (.inl (fun _ => 0)))) :: ((rn 7), .inl (cy 1, 11, .inr (.inl (fun _ => 0)))) :: (p5, .inl (cy 3, 9, .inr (.inr (.inr (.inr (fun k9 => if k9 < 9 then some (rt k9) else none)))))) :: ((rt 0), .inl (cy 1, 3, .inr (.inl (fun _ => 0)))) :: ((rt 1), .inl (cy 1, 3, .inr (.inl (fun _ => 0)))) :: ((rt 2), .inl (cy 1, 3, .inr (.inl (fun _ => 0)))) :: ((rt 3), .inl (cy 1, 3, .inr (.inl (fun _ => 0)))) :: ((rt 4), .inl (cy 1, 3, .inr (.inl (fun _ => 0)))) :: ((rt 5), .inl (cy 1, 3, .inr (.inl (fun _ => 0)))) :: ((rt 6), .inl (cy 1, 3, .inr (.inl (fun _ => 0)))) :: ((rt 7), .inl (cy 1, 3, .inr (.inl (fun _ => 0)))) :: ((rt 8), .inl (cy 1, 3, .inr (.inl (fun _ => 0)))) :: (vT, .inr (7, [.ref vC, .ref t1, .ref t2, .ref t3, .ref t4, .ref t5, .ref t6, .ref t7, .int 0, .long 0, .ref t8, .int 0, .int 0, .long 1])) :: (t1, .inl (cy 0, 9, .inl (fun _ => 0))) :: (t2, .inl (cy 2, 9, .inl (fun _ => 0))) :: (t8, .inl (cy 2, 24, .inl (fun _ => 0))) :: (t3, .inl (cy 0, 9, .inl (fun _ => 0))) :: (t4, .inl (cy 3, 8, .inr (.inr (.inr (.inr (fun k9 => if k9 < 8 then some (rn2 k9) else none)))))) :: ((rn2 0), .inl (cy 1, 11, .inr (.inl (fun _ => 0)))) :: ((rn2 1), .inl (cy 1, 11, .inr (.inl (fun _ => 0)))) :: ((rn2 2), .inl (cy 1, 11, .inr (.inl (fun _ => 0)))) :: ((rn2 3), .inl (cy 1, 11, .inr (.inl (fun _ => 0)))) :: ((rn2 4), .inl (cy 1, 11, .inr (.inl (fun _ => 0)))) :: ((rn2 5), .inl (cy 1, 11, .inr (.inl (fun _ => 0)))) :: ((rn2 6), .inl (cy 1, 11, .inr (.inl (fun _ => 0)))) :: ((rn2 7), .inl (cy 1, 11, .inr (.inl (fun _ => 0)))) :: (t5, .inl (cy 3, 9, .inr (.inr (.inr (.inr (fun k9 => if k9 < 9 then some (rt2 k9) else none)))))) :: ((rt2 0), .inl (cy 1, 3, .inr (.inl (fun _ => 0)))) :: ((rt2 1), .inl (cy 1, 3, .inr (.inl (fun _ => 0)))) :: ((rt2 2), .inl (cy 1, 3, .inr (.inl (fun _ => 0)))) :: ((rt2 3), .inl (cy 1, 3, .inr (.inl (fun _ => 0)))) :: ((rt2 4), .inl (cy 1, 3, .inr (.inl (fun _ => 0)))) :: ((rt2 5), .inl (cy 1, 3, .inr (.inl (fun _ => 0)))) :: ((rt2 6), .inl (cy 1, 3, .inr (.inl (fun _ => 0)))) :: ((rt2 7), .inl (cy 1, 3, .inr (.inl (fun _ => 0)))) :: ((rt2 8), .inl (cy 1, 3, .inr (.inl (fun _ => 0)))) :: []) s.heap := hP
  have hl := lv_entry ([.ref h0, .int d]) (n := 3) (Nat.le_of_ble_eq_true rfl)
  rw [lg_entry_eq]
  generalize (lg_sl ([.ref h0, .int d]) ++ List.replicate (3 - (lg_sl ([.ref h0, .int d])).length) Slot.unset).toArray = ls at hl ⊢
  have hl : lv_has ls 3 [(0, .ref h0), (1, .int d)] := hl
  refine z_anyQ (fun Q hQe => ?_)
  refine lv_iload_n hx hb dX9_isSound_0 rfl (lv_at hl 1 rfl) ?_
  refine zq_v (wc := []) (wr := ((h0, .inr (12, [.ref vC, .ref vP, .ref vT, .ref vS, .ref vF, .ref vN, .ref vY, .int 0])) :: (vC, .inr (3, [.ref sS, .ref sJ, .int 0, .int 0])) :: (sJ, .inr (5, [.ref j1, .ref j2, .ref j3, .ref jL, .int 0])) :: (jL, .inl (cy 0, 9, .inl (fun _ => 0))) :: (vP, .inr (7, [.ref vC, .ref p1, .ref p2, .ref p3, .ref p4, .ref p5, .ref p6, .ref p7, .int 0, .long 0, .ref p8, .int 0, .int 0, .long 1])) :: (p1, .inl (cy 0, 9, .inl (fun _ => 0))) :: (p2, .inl (cy 2, 9, .inl (fun _ => 0))) :: (p8, .inl (cy 2, 24, .inl (fun _ => 0))) :: (p3, .inl (cy 0, 9, .inl (fun _ => 0))) :: (p4, .inl (cy 3, 8, .inr (.inr (.inr (.inr (fun k9 => if k9 < 8 then some (rn k9) else none)))))) :: ((rn 0), .inl (cy 1, 11, .inr (.inl (fun _ => 0)))) :: ((rn 1), .inl (cy 1, 11, .inr (.inl (fun _ => 0)))) :: ((rn 2), .inl (cy 1, 11, .inr (.inl (fun _ => 0)))) :: ((rn 3), .inl (cy 1, 11, .inr (.inl (fun _ => 0)))) :: ((rn 4), .inl (cy 1, 11, .inr (.inl (fun _ => 0)))) :: ((rn 5), .inl (cy 1, 11, .inr (.inl (fun _ => 0)))) :: ((rn 6), .inl (cy 1, 11, .inr (.inl (fun _ => 0)))) :: ((rn 7), .inl (cy 1, 11, .inr (.inl (fun _ => 0)))) :: (p5, .inl (cy 3, 9, .inr (.inr (.inr (.inr (fun k9 => if k9 < 9 then some (rt k9) else none)))))) :: ((rt 0), .inl (cy 1, 3, .inr (.inl (fun _ => 0)))) :: ((rt 1), .inl (cy 1, 3, .inr (.inl (fun _ => 0)))) :: ((rt 2), .inl (cy 1, 3, .inr (.inl (fun _ => 0)))) :: ((rt 3), .inl (cy 1, 3, .inr (.inl (fun _ => 0)))) :: ((rt 4), .inl (cy 1, 3, .inr (.inl (fun _ => 0)))) :: ((rt 5), .inl (cy 1, 3, .inr (.inl (fun _ => 0)))) :: ((rt 6), .inl (cy 1, 3, .inr (.inl (fun _ => 0)))) :: ((rt 7), .inl (cy 1, 3, .inr (.inl (fun _ => 0)))) :: ((rt 8), .inl (cy 1, 3, .inr (.inl (fun _ => 0)))) :: (vT, .inr (7, [.ref vC, .ref t1, .ref t2, .ref t3, .ref t4, .ref t5, .ref t6, .ref t7, .int 0, .long 0, .ref t8, .int 0, .int 0, .long 1])) :: (t1, .inl (cy 0, 9, .inl (fun _ => 0))) :: (t2, .inl (cy 2, 9, .inl (fun _ => 0))) :: (t8, .inl (cy 2, 24, .inl (fun _ => 0))) :: (t3, .inl (cy 0, 9, .inl (fun _ => 0))) :: (t4, .inl (cy 3, 8, .inr (.inr (.inr (.inr (fun k9 => if k9 < 8 then some (rn2 k9) else none)))))) :: ((rn2 0), .inl (cy 1, 11, .inr (.inl (fun _ => 0)))) :: ((rn2 1), .inl (cy 1, 11, .inr (.inl (fun _ => 0)))) :: ((rn2 2), .inl (cy 1, 11, .inr (.inl (fun _ => 0)))) :: ((rn2 3), .inl (cy 1, 11, .inr (.inl (fun _ => 0)))) :: ((rn2 4), .inl (cy 1, 11, .inr (.inl (fun _ => 0)))) :: ((rn2 5), .inl (cy 1, 11, .inr (.inl (fun _ => 0)))) :: ((rn2 6), .inl (cy 1, 11, .inr (.inl (fun _ => 0)))) :: ((rn2 7), .inl (cy 1, 11, .inr (.inl (fun _ => 0)))) :: (t5, .inl (cy 3, 9, .inr (.inr (.inr (.inr (fun k9 => if k9 < 9 then some (rt2 k9) else none)))))) :: ((rt2 0), .inl (cy 1, 3, .inr (.inl (fun _ => 0)))) :: ((rt2 1), .inl (cy 1, 3, .inr (.inl (fun _ => 0)))) :: ((rt2 2), .inl (cy 1, 3, .inr (.inl (fun _ => 0)))) :: ((rt2 3), .inl (cy 1, 3, .inr (.inl (fun _ => 0)))) :: ((rt2 4), .inl (cy 1, 3, .inr (.inl (fun _ => 0)))) :: ((rt2 5), .inl (cy 1, 3, .inr (.inl (fun _ => 0)))) :: ((rt2 6), .inl (cy 1, 3, .inr (.inl (fun _ => 0)))) :: ((rt2 7), .inl (cy 1, 3, .inr (.inl (fun _ => 0)))) :: ((rt2 8), .inl (cy 1, 3, .inr (.inl (fun _ => 0)))) :: [])) (va_runS (As := [.int d]) (rest := []) ⟨hx, hb, hml, hown, hts⟩ (k_needDay_ok l D cy d s.heap.size hd) (va_cwS 1 hts (gzS (gz q192) q191 q193 q174) rfl rfl rfl vX9_needDay.2 ⟨Nat.le_of_ble_eq_true rfl, Nat.le_of_ble_eq_true rfl⟩) (zpS hK hX hY hP hD hS hA [] (by decide) rfl) rfl rfl hl.1 rfl (lv_room (Nat.le_of_ble_eq_true rfl)) dX9_isSound_1 ⟨Nat.le_of_ble_eq_true rfl, Nat.le_of_ble_eq_true rfl⟩) hP hD hS hA [] (0 :: 1 :: 2 :: 3 :: 4 :: 5 :: 6 :: 7 :: 8 :: 9 :: 10 :: 11 :: 12 :: 13 :: 14 :: 15 :: 16 :: 17 :: 18 :: 19 :: 20 :: 21 :: 22 :: 23 :: 24 :: 25 :: 26 :: 27 :: 28 :: 29 :: 30 :: 31 :: 32 :: 33 :: 34 :: 35 :: 36 :: 37 :: 38 :: 39 :: 40 :: 41 :: 42 :: 43 :: 44 :: 45 :: 46 :: 47 :: 48 :: 49 :: 50 :: 51 :: []) rfl rfl (by decide) (by decide) (fun u1 H locs hw hP hD hS => ?_)
  have hP : va_P D vwCl ((h0, .inr (12, [.ref vC, .ref vP, .ref vT, .ref vS, .ref vF, .ref vN, .ref vY, .int 0])) :: (vC, .inr (3, [.ref sS, .ref sJ, .int 0, .int 0])) :: (sJ, .inr (5, [.ref j1, .ref j2, .ref j3, .ref jL, .int 0])) :: (jL, .inl (cy 0, 9, .inl (fun _ => 0))) :: (vP, .inr (7, [.ref vC, .ref p1, .ref p2, .ref p3, .ref p4, .ref p5, .ref p6, .ref p7, .int 0, .long 0, .ref p8, .int 0, .int 0, .long 1])) :: (p1, .inl (cy 0, 9, .inl (fun _ => 0))) :: (p2, .inl (cy 2, 9, .inl (fun _ => 0))) :: (p8, .inl (cy 2, 24, .inl (fun _ => 0))) :: (p3, .inl (cy 0, 9, .inl (fun _ => 0))) :: (p4, .inl (cy 3, 8, .inr (.inr (.inr (.inr (fun k9 => if k9 < 8 then some (rn k9) else none)))))) :: ((rn 0), .inl (cy 1, 11, .inr (.inl (fun _ => 0)))) :: ((rn 1), .inl (cy 1, 11, .inr (.inl (fun _ => 0)))) :: ((rn 2), .inl (cy 1, 11, .inr (.inl (fun _ => 0)))) :: ((rn 3), .inl (cy 1, 11, .inr (.inl (fun _ => 0)))) :: ((rn 4), .inl (cy 1, 11, .inr (.inl (fun _ => 0)))) :: ((rn 5), .inl (cy 1, 11, .inr (.inl (fun _ => 0)))) :: ((rn 6), .inl (cy 1, 11, .inr (.inl (fun _ => 0)))) :: ((rn 7), .inl (cy 1, 11, .inr (.inl (fun _ => 0)))) :: (p5, .inl (cy 3, 9, .inr (.inr (.inr (.inr (fun k9 => if k9 < 9 then some (rt k9) else none)))))) :: ((rt 0), .inl (cy 1, 3, .inr (.inl (fun _ => 0)))) :: ((rt 1), .inl (cy 1, 3, .inr (.inl (fun _ => 0)))) :: ((rt 2), .inl (cy 1, 3, .inr (.inl (fun _ => 0)))) :: ((rt 3), .inl (cy 1, 3, .inr (.inl (fun _ => 0)))) :: ((rt 4), .inl (cy 1, 3, .inr (.inl (fun _ => 0)))) :: ((rt 5), .inl (cy 1, 3, .inr (.inl (fun _ => 0)))) :: ((rt 6), .inl (cy 1, 3, .inr (.inl (fun _ => 0)))) :: ((rt 7), .inl (cy 1, 3, .inr (.inl (fun _ => 0)))) :: ((rt 8), .inl (cy 1, 3, .inr (.inl (fun _ => 0)))) :: (vT, .inr (7, [.ref vC, .ref t1, .ref t2, .ref t3, .ref t4, .ref t5, .ref t6, .ref t7, .int 0, .long 0, .ref t8, .int 0, .int 0, .long 1])) :: (t1, .inl (cy 0, 9, .inl (fun _ => 0))) :: (t2, .inl (cy 2, 9, .inl (fun _ => 0))) :: (t8, .inl (cy 2, 24, .inl (fun _ => 0))) :: (t3, .inl (cy 0, 9, .inl (fun _ => 0))) :: (t4, .inl (cy 3, 8, .inr (.inr (.inr (.inr (fun k9 => if k9 < 8 then some (rn2 k9) else none)))))) :: ((rn2 0), .inl (cy 1, 11, .inr (.inl (fun _ => 0)))) :: ((rn2 1), .inl (cy 1, 11, .inr (.inl (fun _ => 0)))) :: ((rn2 2), .inl (cy 1, 11, .inr (.inl (fun _ => 0)))) :: ((rn2 3), .inl (cy 1, 11, .inr (.inl (fun _ => 0)))) :: ((rn2 4), .inl (cy 1, 11, .inr (.inl (fun _ => 0)))) :: ((rn2 5), .inl (cy 1, 11, .inr (.inl (fun _ => 0)))) :: ((rn2 6), .inl (cy 1, 11, .inr (.inl (fun _ => 0)))) :: ((rn2 7), .inl (cy 1, 11, .inr (.inl (fun _ => 0)))) :: (t5, .inl (cy 3, 9, .inr (.inr (.inr (.inr (fun k9 => if k9 < 9 then some (rt2 k9) else none)))))) :: ((rt2 0), .inl (cy 1, 3, .inr (.inl (fun _ => 0)))) :: ((rt2 1), .inl (cy 1, 3, .inr (.inl (fun _ => 0)))) :: ((rt2 2), .inl (cy 1, 3, .inr (.inl (fun _ => 0)))) :: ((rt2 3), .inl (cy 1, 3, .inr (.inl (fun _ => 0)))) :: ((rt2 4), .inl (cy 1, 3, .inr (.inl (fun _ => 0)))) :: ((rt2 5), .inl (cy 1, 3, .inr (.inl (fun _ => 0)))) :: ((rt2 6), .inl (cy 1, 3, .inr (.inl (fun _ => 0)))) :: ((rt2 7), .inl (cy 1, 3, .inr (.inl (fun _ => 0)))) :: ((rt2 8), .inl (cy 1, 3, .inr (.inl (fun _ => 0)))) :: []) H := hP
  have hD : va_D A ((h0, .inr (12, [.ref vC, .ref vP, .ref vT, .ref vS, .ref vF, .ref vN, .ref vY, .int 0])) :: (vC, .inr (3, [.ref sS, .ref sJ, .int 0, .int 0])) :: (sJ, .inr (5, [.ref j1, .ref j2, .ref j3, .ref jL, .int 0])) :: (jL, .inl (cy 0, 9, .inl (fun _ => 0))) :: (vP, .inr (7, [.ref vC, .ref p1, .ref p2, .ref p3, .ref p4, .ref p5, .ref p6, .ref p7, .int 0, .long 0, .ref p8, .int 0, .int 0, .long 1])) :: (p1, .inl (cy 0, 9, .inl (fun _ => 0))) :: (p2, .inl (cy 2, 9, .inl (fun _ => 0))) :: (p8, .inl (cy 2, 24, .inl (fun _ => 0))) :: (p3, .inl (cy 0, 9, .inl (fun _ => 0))) :: (p4, .inl (cy 3, 8, .inr (.inr (.inr (.inr (fun k9 => if k9 < 8 then some (rn k9) else none)))))) :: ((rn 0), .inl (cy 1, 11, .inr (.inl (fun _ => 0)))) :: ((rn 1), .inl (cy 1, 11, .inr (.inl (fun _ => 0)))) :: ((rn 2), .inl (cy 1, 11, .inr (.inl (fun _ => 0)))) :: ((rn 3), .inl (cy 1, 11, .inr (.inl (fun _ => 0)))) :: ((rn 4), .inl (cy 1, 11, .inr (.inl (fun _ => 0)))) :: ((rn 5), .inl (cy 1, 11, .inr (.inl (fun _ => 0)))) :: ((rn 6), .inl (cy 1, 11, .inr (.inl (fun _ => 0)))) :: ((rn 7), .inl (cy 1, 11, .inr (.inl (fun _ => 0)))) :: (p5, .inl (cy 3, 9, .inr (.inr (.inr (.inr (fun k9 => if k9 < 9 then some (rt k9) else none)))))) :: ((rt 0), .inl (cy 1, 3, .inr (.inl (fun _ => 0)))) :: ((rt 1), .inl (cy 1, 3, .inr (.inl (fun _ => 0)))) :: ((rt 2), .inl (cy 1, 3, .inr (.inl (fun _ => 0)))) :: ((rt 3), .inl (cy 1, 3, .inr (.inl (fun _ => 0)))) :: ((rt 4), .inl (cy 1, 3, .inr (.inl (fun _ => 0)))) :: ((rt 5), .inl (cy 1, 3, .inr (.inl (fun _ => 0)))) :: ((rt 6), .inl (cy 1, 3, .inr (.inl (fun _ => 0)))) :: ((rt 7), .inl (cy 1, 3, .inr (.inl (fun _ => 0)))) :: ((rt 8), .inl (cy 1, 3, .inr (.inl (fun _ => 0)))) :: (vT, .inr (7, [.ref vC, .ref t1, .ref t2, .ref t3, .ref t4, .ref t5, .ref t6, .ref t7, .int 0, .long 0, .ref t8, .int 0, .int 0, .long 1])) :: (t1, .inl (cy 0, 9, .inl (fun _ => 0))) :: (t2, .inl (cy 2, 9, .inl (fun _ => 0))) :: (t8, .inl (cy 2, 24, .inl (fun _ => 0))) :: (t3, .inl (cy 0, 9, .inl (fun _ => 0))) :: (t4, .inl (cy 3, 8, .inr (.inr (.inr (.inr (fun k9 => if k9 < 8 then some (rn2 k9) else none)))))) :: ((rn2 0), .inl (cy 1, 11, .inr (.inl (fun _ => 0)))) :: ((rn2 1), .inl (cy 1, 11, .inr (.inl (fun _ => 0)))) :: ((rn2 2), .inl (cy 1, 11, .inr (.inl (fun _ => 0)))) :: ((rn2 3), .inl (cy 1, 11, .inr (.inl (fun _ => 0)))) :: ((rn2 4), .inl (cy 1, 11, .inr (.inl (fun _ => 0)))) :: ((rn2 5), .inl (cy 1, 11, .inr (.inl (fun _ => 0)))) :: ((rn2 6), .inl (cy 1, 11, .inr (.inl (fun _ => 0)))) :: ((rn2 7), .inl (cy 1, 11, .inr (.inl (fun _ => 0)))) :: (t5, .inl (cy 3, 9, .inr (.inr (.inr (.inr (fun k9 => if k9 < 9 then some (rt2 k9) else none)))))) :: ((rt2 0), .inl (cy 1, 3, .inr (.inl (fun _ => 0)))) :: ((rt2 1), .inl (cy 1, 3, .inr (.inl (fun _ => 0)))) :: ((rt2 2), .inl (cy 1, 3, .inr (.inl (fun _ => 0)))) :: ((rt2 3), .inl (cy 1, 3, .inr (.inl (fun _ => 0)))) :: ((rt2 4), .inl (cy 1, 3, .inr (.inl (fun _ => 0)))) :: ((rt2 5), .inl (cy 1, 3, .inr (.inl (fun _ => 0)))) :: ((rt2 6), .inl (cy 1, 3, .inr (.inl (fun _ => 0)))) :: ((rt2 7), .inl (cy 1, 3, .inr (.inl (fun _ => 0)))) :: ((rt2 8), .inl (cy 1, 3, .inr (.inl (fun _ => 0)))) :: []) := hD
  refine lv_aload_n hx hb dX9_isSound_4 rfl (lv_at hl 0 rfl) ?_
  refine va_get (D := D) (ci := 12) (v := .ref vP) (C := RX9) (T := TX9) (N := 8) hx hb hts iRX9 hown hK hP 0 rfl rfl 1 (by decide) (hts _ q133) (fun _ h9 => h9) rfl dX9_isSound_5 ?_
  refine lv_iload_n hx hb dX9_isSound_8 rfl (lv_at hl 1 rfl) ?_
  refine lv_iconst (v := (-1)) hx hb dX9_isSound_9 (by decide) ?_
  refine zq_v (wc := [(vP, .inr (7, [.ref vC, .ref p1, .ref p2, .ref p3, .ref p4, .ref p5, .ref p6, .ref p7, .int 0, .long 0, .ref p8, .int 0, .int 0, .long 1])), (vC, .inr (3, [.ref sS, .ref sJ, .int 0, .int 0])), (sJ, .inr (5, [.ref j1, .ref j2, .ref j3, .ref jL, .int 0])), (jL, .inl (cy 0, 9, .inl (fun _ => 0))), (p1, .inl (cy 0, 9, .inl (fun _ => 0))), (p2, .inl (cy 2, 9, .inl (fun _ => 0))), (p8, .inl (cy 2, 24, .inl (fun _ => 0)))]) (wr := ((h0, .inr (12, [.ref vC, .ref vP, .ref vT, .ref vS, .ref vF, .ref vN, .ref vY, .int 0])) :: (p3, .inl (cy 0, 9, .inl (fun _ => 0))) :: (p4, .inl (cy 3, 8, .inr (.inr (.inr (.inr (fun k9 => if k9 < 8 then some (rn k9) else none)))))) :: ((rn 0), .inl (cy 1, 11, .inr (.inl (fun _ => 0)))) :: ((rn 1), .inl (cy 1, 11, .inr (.inl (fun _ => 0)))) :: ((rn 2), .inl (cy 1, 11, .inr (.inl (fun _ => 0)))) :: ((rn 3), .inl (cy 1, 11, .inr (.inl (fun _ => 0)))) :: ((rn 4), .inl (cy 1, 11, .inr (.inl (fun _ => 0)))) :: ((rn 5), .inl (cy 1, 11, .inr (.inl (fun _ => 0)))) :: ((rn 6), .inl (cy 1, 11, .inr (.inl (fun _ => 0)))) :: ((rn 7), .inl (cy 1, 11, .inr (.inl (fun _ => 0)))) :: (p5, .inl (cy 3, 9, .inr (.inr (.inr (.inr (fun k9 => if k9 < 9 then some (rt k9) else none)))))) :: ((rt 0), .inl (cy 1, 3, .inr (.inl (fun _ => 0)))) :: ((rt 1), .inl (cy 1, 3, .inr (.inl (fun _ => 0)))) :: ((rt 2), .inl (cy 1, 3, .inr (.inl (fun _ => 0)))) :: ((rt 3), .inl (cy 1, 3, .inr (.inl (fun _ => 0)))) :: ((rt 4), .inl (cy 1, 3, .inr (.inl (fun _ => 0)))) :: ((rt 5), .inl (cy 1, 3, .inr (.inl (fun _ => 0)))) :: ((rt 6), .inl (cy 1, 3, .inr (.inl (fun _ => 0)))) :: ((rt 7), .inl (cy 1, 3, .inr (.inl (fun _ => 0)))) :: ((rt 8), .inl (cy 1, 3, .inr (.inl (fun _ => 0)))) :: (vT, .inr (7, [.ref vC, .ref t1, .ref t2, .ref t3, .ref t4, .ref t5, .ref t6, .ref t7, .int 0, .long 0, .ref t8, .int 0, .int 0, .long 1])) :: (t1, .inl (cy 0, 9, .inl (fun _ => 0))) :: (t2, .inl (cy 2, 9, .inl (fun _ => 0))) :: (t8, .inl (cy 2, 24, .inl (fun _ => 0))) :: (t3, .inl (cy 0, 9, .inl (fun _ => 0))) :: (t4, .inl (cy 3, 8, .inr (.inr (.inr (.inr (fun k9 => if k9 < 8 then some (rn2 k9) else none)))))) :: ((rn2 0), .inl (cy 1, 11, .inr (.inl (fun _ => 0)))) :: ((rn2 1), .inl (cy 1, 11, .inr (.inl (fun _ => 0)))) :: ((rn2 2), .inl (cy 1, 11, .inr (.inl (fun _ => 0)))) :: ((rn2 3), .inl (cy 1, 11, .inr (.inl (fun _ => 0)))) :: ((rn2 4), .inl (cy 1, 11, .inr (.inl (fun _ => 0)))) :: ((rn2 5), .inl (cy 1, 11, .inr (.inl (fun _ => 0)))) :: ((rn2 6), .inl (cy 1, 11, .inr (.inl (fun _ => 0)))) :: ((rn2 7), .inl (cy 1, 11, .inr (.inl (fun _ => 0)))) :: (t5, .inl (cy 3, 9, .inr (.inr (.inr (.inr (fun k9 => if k9 < 9 then some (rt2 k9) else none)))))) :: ((rt2 0), .inl (cy 1, 3, .inr (.inl (fun _ => 0)))) :: ((rt2 1), .inl (cy 1, 3, .inr (.inl (fun _ => 0)))) :: ((rt2 2), .inl (cy 1, 3, .inr (.inl (fun _ => 0)))) :: ((rt2 3), .inl (cy 1, 3, .inr (.inl (fun _ => 0)))) :: ((rt2 4), .inl (cy 1, 3, .inr (.inl (fun _ => 0)))) :: ((rt2 5), .inl (cy 1, 3, .inr (.inl (fun _ => 0)))) :: ((rt2 6), .inl (cy 1, 3, .inr (.inl (fun _ => 0)))) :: ((rt2 7), .inl (cy 1, 3, .inr (.inl (fun _ => 0)))) :: ((rt2 8), .inl (cy 1, 3, .inr (.inl (fun _ => 0)))) :: [])) (va_runV (As := [.int d, .int (-1)]) (rest := []) ⟨hx, hb, hml, hown, hts⟩ (k_hang l D cy vP vC p1 p2 p3 p4 p5 p6 p7 p8 0 0 0 0 1 sS sJ j1 j2 j3 jL d (-1) (fun _ => 0) (fun _ => 0) (fun _ => 0) (fun _ => 0) H.size ) (cwV 2 hts (gzV (gz q195) q194 q196 q197 q87) rfl rfl rfl vX4_hang ⟨Nat.le_of_ble_eq_true rfl, Nat.le_of_ble_eq_true rfl⟩) (zpV (ci := 7) (T := TX4) (N := 14) (q0 := 0) hK hX hY hP hD hS hA [4, 1, 2, 3, 5, 6, 7] (by decide) rfl rfl rfl) rfl rfl hl.1 rfl (lv_room (Nat.le_of_ble_eq_true rfl)) dX9_isSound_10 ⟨Nat.le_of_ble_eq_true rfl, Nat.le_of_ble_eq_true rfl⟩) hP hD hS hA [4, 1, 2, 3, 5, 6, 7] (0 :: 8 :: 9 :: 10 :: 11 :: 12 :: 13 :: 14 :: 15 :: 16 :: 17 :: 18 :: 19 :: 20 :: 21 :: 22 :: 23 :: 24 :: 25 :: 26 :: 27 :: 28 :: 29 :: 30 :: 31 :: 32 :: 33 :: 34 :: 35 :: 36 :: 37 :: 38 :: 39 :: 40 :: 41 :: 42 :: 43 :: 44 :: 45 :: 46 :: 47 :: 48 :: 49 :: 50 :: 51 :: []) rfl rfl (by decide) (by decide) (fun u3 H locs hw hP hD hS => ?_)
  have hP : va_P D vwCl ((h0, .inr (12, [.ref vC, .ref vP, .ref vT, .ref vS, .ref vF, .ref vN, .ref vY, .int 0])) :: (p3, .inl (cy 0, 9, .inl (fun _ => 0))) :: (p4, .inl (cy 3, 8, .inr (.inr (.inr (.inr (fun k9 => if k9 < 8 then some (rn k9) else none)))))) :: ((rn 0), .inl (cy 1, 11, .inr (.inl (fun _ => 0)))) :: ((rn 1), .inl (cy 1, 11, .inr (.inl (fun _ => 0)))) :: ((rn 2), .inl (cy 1, 11, .inr (.inl (fun _ => 0)))) :: ((rn 3), .inl (cy 1, 11, .inr (.inl (fun _ => 0)))) :: ((rn 4), .inl (cy 1, 11, .inr (.inl (fun _ => 0)))) :: ((rn 5), .inl (cy 1, 11, .inr (.inl (fun _ => 0)))) :: ((rn 6), .inl (cy 1, 11, .inr (.inl (fun _ => 0)))) :: ((rn 7), .inl (cy 1, 11, .inr (.inl (fun _ => 0)))) :: (p5, .inl (cy 3, 9, .inr (.inr (.inr (.inr (fun k9 => if k9 < 9 then some (rt k9) else none)))))) :: ((rt 0), .inl (cy 1, 3, .inr (.inl (fun _ => 0)))) :: ((rt 1), .inl (cy 1, 3, .inr (.inl (fun _ => 0)))) :: ((rt 2), .inl (cy 1, 3, .inr (.inl (fun _ => 0)))) :: ((rt 3), .inl (cy 1, 3, .inr (.inl (fun _ => 0)))) :: ((rt 4), .inl (cy 1, 3, .inr (.inl (fun _ => 0)))) :: ((rt 5), .inl (cy 1, 3, .inr (.inl (fun _ => 0)))) :: ((rt 6), .inl (cy 1, 3, .inr (.inl (fun _ => 0)))) :: ((rt 7), .inl (cy 1, 3, .inr (.inl (fun _ => 0)))) :: ((rt 8), .inl (cy 1, 3, .inr (.inl (fun _ => 0)))) :: (vT, .inr (7, [.ref vC, .ref t1, .ref t2, .ref t3, .ref t4, .ref t5, .ref t6, .ref t7, .int 0, .long 0, .ref t8, .int 0, .int 0, .long 1])) :: (t1, .inl (cy 0, 9, .inl (fun _ => 0))) :: (t2, .inl (cy 2, 9, .inl (fun _ => 0))) :: (t8, .inl (cy 2, 24, .inl (fun _ => 0))) :: (t3, .inl (cy 0, 9, .inl (fun _ => 0))) :: (t4, .inl (cy 3, 8, .inr (.inr (.inr (.inr (fun k9 => if k9 < 8 then some (rn2 k9) else none)))))) :: ((rn2 0), .inl (cy 1, 11, .inr (.inl (fun _ => 0)))) :: ((rn2 1), .inl (cy 1, 11, .inr (.inl (fun _ => 0)))) :: ((rn2 2), .inl (cy 1, 11, .inr (.inl (fun _ => 0)))) :: ((rn2 3), .inl (cy 1, 11, .inr (.inl (fun _ => 0)))) :: ((rn2 4), .inl (cy 1, 11, .inr (.inl (fun _ => 0)))) :: ((rn2 5), .inl (cy 1, 11, .inr (.inl (fun _ => 0)))) :: ((rn2 6), .inl (cy 1, 11, .inr (.inl (fun _ => 0)))) :: ((rn2 7), .inl (cy 1, 11, .inr (.inl (fun _ => 0)))) :: (t5, .inl (cy 3, 9, .inr (.inr (.inr (.inr (fun k9 => if k9 < 9 then some (rt2 k9) else none)))))) :: ((rt2 0), .inl (cy 1, 3, .inr (.inl (fun _ => 0)))) :: ((rt2 1), .inl (cy 1, 3, .inr (.inl (fun _ => 0)))) :: ((rt2 2), .inl (cy 1, 3, .inr (.inl (fun _ => 0)))) :: ((rt2 3), .inl (cy 1, 3, .inr (.inl (fun _ => 0)))) :: ((rt2 4), .inl (cy 1, 3, .inr (.inl (fun _ => 0)))) :: ((rt2 5), .inl (cy 1, 3, .inr (.inl (fun _ => 0)))) :: ((rt2 6), .inl (cy 1, 3, .inr (.inl (fun _ => 0)))) :: ((rt2 7), .inl (cy 1, 3, .inr (.inl (fun _ => 0)))) :: ((rt2 8), .inl (cy 1, 3, .inr (.inl (fun _ => 0)))) :: (vP, .inr (7, [.ref vC, .ref p1, .ref p2, .ref p3, .ref p4, .ref p5, .ref p6, .ref p7, .int 0, .long 0, .ref p8, .int 0, .int 0, .long 1])) :: (vC, .inr (3, [.ref sS, .ref sJ, .int 0, .int 0])) :: (sJ, .inr (5, [.ref j1, .ref j2, .ref j3, .ref jL, .int 0])) :: (jL, .inl (cy 0, 9, .inl (fun j => nI j))) :: (p1, .inl (cy 0, 9, .inl (fun j => nI j))) :: (p2, .inl (cy 2, 9, .inl (fun _ => 0))) :: (p8, .inl (cy 2, 24, .inl (fun _ => 0))) :: []) H := hP
  have hD : va_D A ((h0, .inr (12, [.ref vC, .ref vP, .ref vT, .ref vS, .ref vF, .ref vN, .ref vY, .int 0])) :: (p3, .inl (cy 0, 9, .inl (fun _ => 0))) :: (p4, .inl (cy 3, 8, .inr (.inr (.inr (.inr (fun k9 => if k9 < 8 then some (rn k9) else none)))))) :: ((rn 0), .inl (cy 1, 11, .inr (.inl (fun _ => 0)))) :: ((rn 1), .inl (cy 1, 11, .inr (.inl (fun _ => 0)))) :: ((rn 2), .inl (cy 1, 11, .inr (.inl (fun _ => 0)))) :: ((rn 3), .inl (cy 1, 11, .inr (.inl (fun _ => 0)))) :: ((rn 4), .inl (cy 1, 11, .inr (.inl (fun _ => 0)))) :: ((rn 5), .inl (cy 1, 11, .inr (.inl (fun _ => 0)))) :: ((rn 6), .inl (cy 1, 11, .inr (.inl (fun _ => 0)))) :: ((rn 7), .inl (cy 1, 11, .inr (.inl (fun _ => 0)))) :: (p5, .inl (cy 3, 9, .inr (.inr (.inr (.inr (fun k9 => if k9 < 9 then some (rt k9) else none)))))) :: ((rt 0), .inl (cy 1, 3, .inr (.inl (fun _ => 0)))) :: ((rt 1), .inl (cy 1, 3, .inr (.inl (fun _ => 0)))) :: ((rt 2), .inl (cy 1, 3, .inr (.inl (fun _ => 0)))) :: ((rt 3), .inl (cy 1, 3, .inr (.inl (fun _ => 0)))) :: ((rt 4), .inl (cy 1, 3, .inr (.inl (fun _ => 0)))) :: ((rt 5), .inl (cy 1, 3, .inr (.inl (fun _ => 0)))) :: ((rt 6), .inl (cy 1, 3, .inr (.inl (fun _ => 0)))) :: ((rt 7), .inl (cy 1, 3, .inr (.inl (fun _ => 0)))) :: ((rt 8), .inl (cy 1, 3, .inr (.inl (fun _ => 0)))) :: (vT, .inr (7, [.ref vC, .ref t1, .ref t2, .ref t3, .ref t4, .ref t5, .ref t6, .ref t7, .int 0, .long 0, .ref t8, .int 0, .int 0, .long 1])) :: (t1, .inl (cy 0, 9, .inl (fun _ => 0))) :: (t2, .inl (cy 2, 9, .inl (fun _ => 0))) :: (t8, .inl (cy 2, 24, .inl (fun _ => 0))) :: (t3, .inl (cy 0, 9, .inl (fun _ => 0))) :: (t4, .inl (cy 3, 8, .inr (.inr (.inr (.inr (fun k9 => if k9 < 8 then some (rn2 k9) else none)))))) :: ((rn2 0), .inl (cy 1, 11, .inr (.inl (fun _ => 0)))) :: ((rn2 1), .inl (cy 1, 11, .inr (.inl (fun _ => 0)))) :: ((rn2 2), .inl (cy 1, 11, .inr (.inl (fun _ => 0)))) :: ((rn2 3), .inl (cy 1, 11, .inr (.inl (fun _ => 0)))) :: ((rn2 4), .inl (cy 1, 11, .inr (.inl (fun _ => 0)))) :: ((rn2 5), .inl (cy 1, 11, .inr (.inl (fun _ => 0)))) :: ((rn2 6), .inl (cy 1, 11, .inr (.inl (fun _ => 0)))) :: ((rn2 7), .inl (cy 1, 11, .inr (.inl (fun _ => 0)))) :: (t5, .inl (cy 3, 9, .inr (.inr (.inr (.inr (fun k9 => if k9 < 9 then some (rt2 k9) else none)))))) :: ((rt2 0), .inl (cy 1, 3, .inr (.inl (fun _ => 0)))) :: ((rt2 1), .inl (cy 1, 3, .inr (.inl (fun _ => 0)))) :: ((rt2 2), .inl (cy 1, 3, .inr (.inl (fun _ => 0)))) :: ((rt2 3), .inl (cy 1, 3, .inr (.inl (fun _ => 0)))) :: ((rt2 4), .inl (cy 1, 3, .inr (.inl (fun _ => 0)))) :: ((rt2 5), .inl (cy 1, 3, .inr (.inl (fun _ => 0)))) :: ((rt2 6), .inl (cy 1, 3, .inr (.inl (fun _ => 0)))) :: ((rt2 7), .inl (cy 1, 3, .inr (.inl (fun _ => 0)))) :: ((rt2 8), .inl (cy 1, 3, .inr (.inl (fun _ => 0)))) :: (vP, .inr (7, [.ref vC, .ref p1, .ref p2, .ref p3, .ref p4, .ref p5, .ref p6, .ref p7, .int 0, .long 0, .ref p8, .int 0, .int 0, .long 1])) :: (vC, .inr (3, [.ref sS, .ref sJ, .int 0, .int 0])) :: (sJ, .inr (5, [.ref j1, .ref j2, .ref j3, .ref jL, .int 0])) :: (jL, .inl (cy 0, 9, .inl (fun j => nI j))) :: (p1, .inl (cy 0, 9, .inl (fun j => nI j))) :: (p2, .inl (cy 2, 9, .inl (fun _ => 0))) :: (p8, .inl (cy 2, 24, .inl (fun _ => 0))) :: []) := hD
  refine lv_aload_n hx hb dX9_isSound_13 rfl (lv_at hl 0 rfl) ?_
  refine va_get (D := D) (ci := 12) (v := .ref vP) (C := RX9) (T := TX9) (N := 8) hx hb hts iRX9 hown hK hP 0 rfl rfl 1 (by decide) (hts _ q133) (fun _ h9 => h9) rfl dX9_isSound_14 ?_
  refine lv_iconst (v := 0) hx hb dX9_isSound_17 (by decide) ?_
  refine zq_v (wc := [(vP, .inr (7, [.ref vC, .ref p1, .ref p2, .ref p3, .ref p4, .ref p5, .ref p6, .ref p7, .int 0, .long 0, .ref p8, .int 0, .int 0, .long 1])), (vC, .inr (3, [.ref sS, .ref sJ, .int 0, .int 0])), (p2, .inl (cy 2, 9, .inl (fun _ => 0))), (p3, .inl (cy 0, 9, .inl (fun _ => 0))), (p4, .inl (cy 3, 8, .inr (.inr (.inr (.inr (fun k9 => if k9 < 8 then some (rn k9) else none)))))), ((rn 0), .inl (cy 1, 11, .inr (.inl (fun _ => 0)))), ((rn 1), .inl (cy 1, 11, .inr (.inl (fun _ => 0)))), ((rn 2), .inl (cy 1, 11, .inr (.inl (fun _ => 0)))), ((rn 3), .inl (cy 1, 11, .inr (.inl (fun _ => 0)))), ((rn 4), .inl (cy 1, 11, .inr (.inl (fun _ => 0)))), ((rn 5), .inl (cy 1, 11, .inr (.inl (fun _ => 0)))), ((rn 6), .inl (cy 1, 11, .inr (.inl (fun _ => 0)))), ((rn 7), .inl (cy 1, 11, .inr (.inl (fun _ => 0)))), (p5, .inl (cy 3, 9, .inr (.inr (.inr (.inr (fun k9 => if k9 < 9 then some (rt k9) else none)))))), ((rt 0), .inl (cy 1, 3, .inr (.inl (fun _ => 0)))), ((rt 1), .inl (cy 1, 3, .inr (.inl (fun _ => 0)))), ((rt 2), .inl (cy 1, 3, .inr (.inl (fun _ => 0)))), ((rt 3), .inl (cy 1, 3, .inr (.inl (fun _ => 0)))), ((rt 4), .inl (cy 1, 3, .inr (.inl (fun _ => 0)))), ((rt 5), .inl (cy 1, 3, .inr (.inl (fun _ => 0)))), ((rt 6), .inl (cy 1, 3, .inr (.inl (fun _ => 0)))), ((rt 7), .inl (cy 1, 3, .inr (.inl (fun _ => 0)))), ((rt 8), .inl (cy 1, 3, .inr (.inl (fun _ => 0))))]) (wr := [(h0, .inr (12, [.ref vC, .ref vP, .ref vT, .ref vS, .ref vF, .ref vN, .ref vY, .int 0])), (vT, .inr (7, [.ref vC, .ref t1, .ref t2, .ref t3, .ref t4, .ref t5, .ref t6, .ref t7, .int 0, .long 0, .ref t8, .int 0, .int 0, .long 1])), (t1, .inl (cy 0, 9, .inl (fun _ => 0))), (t2, .inl (cy 2, 9, .inl (fun _ => 0))), (t8, .inl (cy 2, 24, .inl (fun _ => 0))), (t3, .inl (cy 0, 9, .inl (fun _ => 0))), (t4, .inl (cy 3, 8, .inr (.inr (.inr (.inr (fun k9 => if k9 < 8 then some (rn2 k9) else none)))))), ((rn2 0), .inl (cy 1, 11, .inr (.inl (fun _ => 0)))), ((rn2 1), .inl (cy 1, 11, .inr (.inl (fun _ => 0)))), ((rn2 2), .inl (cy 1, 11, .inr (.inl (fun _ => 0)))), ((rn2 3), .inl (cy 1, 11, .inr (.inl (fun _ => 0)))), ((rn2 4), .inl (cy 1, 11, .inr (.inl (fun _ => 0)))), ((rn2 5), .inl (cy 1, 11, .inr (.inl (fun _ => 0)))), ((rn2 6), .inl (cy 1, 11, .inr (.inl (fun _ => 0)))), ((rn2 7), .inl (cy 1, 11, .inr (.inl (fun _ => 0)))), (t5, .inl (cy 3, 9, .inr (.inr (.inr (.inr (fun k9 => if k9 < 9 then some (rt2 k9) else none)))))), ((rt2 0), .inl (cy 1, 3, .inr (.inl (fun _ => 0)))), ((rt2 1), .inl (cy 1, 3, .inr (.inl (fun _ => 0)))), ((rt2 2), .inl (cy 1, 3, .inr (.inl (fun _ => 0)))), ((rt2 3), .inl (cy 1, 3, .inr (.inl (fun _ => 0)))), ((rt2 4), .inl (cy 1, 3, .inr (.inl (fun _ => 0)))), ((rt2 5), .inl (cy 1, 3, .inr (.inl (fun _ => 0)))), ((rt2 6), .inl (cy 1, 3, .inr (.inl (fun _ => 0)))), ((rt2 7), .inl (cy 1, 3, .inr (.inl (fun _ => 0)))), ((rt2 8), .inl (cy 1, 3, .inr (.inl (fun _ => 0)))), (sJ, .inr (5, [.ref j1, .ref j2, .ref j3, .ref jL, .int 0])), (jL, .inl (cy 0, 9, .inl (fun j => nI j))), (p1, .inl (cy 0, 9, .inl (fun j => nI j))), (p8, .inl (cy 2, 24, .inl (fun _ => 0)))]) (va_runV (As := [.int 0]) (rest := []) ⟨hx, hb, hml, hown, hts⟩ (k_weigh0 l D cy vP vC p1 p2 p3 p4 p5 p6 p7 p8 0 0 0 1 sS sJ rn rt H.size ) (cwV 1 hts (gzV (gz q201) q200 q202 q203 q87) rfl rfl rfl vX4_weigh ⟨Nat.le_of_ble_eq_true rfl, Nat.le_of_ble_eq_true rfl⟩) (zpV (ci := 7) (T := TX4) (N := 14) (q0 := 0) hK hX hY hP hD hS hA [45, 46, 50, 1, 2, 3, 4, 5, 6, 7, 8, 9, 10, 11, 12, 13, 14, 15, 16, 17, 18, 19, 20] (by decide) rfl rfl rfl) rfl rfl hl.1 rfl (lv_room (Nat.le_of_ble_eq_true rfl)) dX9_isSound_18 ⟨Nat.le_of_ble_eq_true rfl, Nat.le_of_ble_eq_true rfl⟩) hP hD hS hA [45, 46, 50, 1, 2, 3, 4, 5, 6, 7, 8, 9, 10, 11, 12, 13, 14, 15, 16, 17, 18, 19, 20] [0, 21, 22, 23, 24, 25, 26, 27, 28, 29, 30, 31, 32, 33, 34, 35, 36, 37, 38, 39, 40, 41, 42, 43, 44, 47, 48, 49, 51] rfl rfl (by decide) (by decide) (fun u5 H locs hw hP hD hS => ?_)
  have hP : va_P D vwCl ((h0, .inr (12, [.ref vC, .ref vP, .ref vT, .ref vS, .ref vF, .ref vN, .ref vY, .int 0])) :: (vT, .inr (7, [.ref vC, .ref t1, .ref t2, .ref t3, .ref t4, .ref t5, .ref t6, .ref t7, .int 0, .long 0, .ref t8, .int 0, .int 0, .long 1])) :: (t1, .inl (cy 0, 9, .inl (fun _ => 0))) :: (t2, .inl (cy 2, 9, .inl (fun _ => 0))) :: (t8, .inl (cy 2, 24, .inl (fun _ => 0))) :: (t3, .inl (cy 0, 9, .inl (fun _ => 0))) :: (t4, .inl (cy 3, 8, .inr (.inr (.inr (.inr (fun k9 => if k9 < 8 then some (rn2 k9) else none)))))) :: ((rn2 0), .inl (cy 1, 11, .inr (.inl (fun _ => 0)))) :: ((rn2 1), .inl (cy 1, 11, .inr (.inl (fun _ => 0)))) :: ((rn2 2), .inl (cy 1, 11, .inr (.inl (fun _ => 0)))) :: ((rn2 3), .inl (cy 1, 11, .inr (.inl (fun _ => 0)))) :: ((rn2 4), .inl (cy 1, 11, .inr (.inl (fun _ => 0)))) :: ((rn2 5), .inl (cy 1, 11, .inr (.inl (fun _ => 0)))) :: ((rn2 6), .inl (cy 1, 11, .inr (.inl (fun _ => 0)))) :: ((rn2 7), .inl (cy 1, 11, .inr (.inl (fun _ => 0)))) :: (t5, .inl (cy 3, 9, .inr (.inr (.inr (.inr (fun k9 => if k9 < 9 then some (rt2 k9) else none)))))) :: ((rt2 0), .inl (cy 1, 3, .inr (.inl (fun _ => 0)))) :: ((rt2 1), .inl (cy 1, 3, .inr (.inl (fun _ => 0)))) :: ((rt2 2), .inl (cy 1, 3, .inr (.inl (fun _ => 0)))) :: ((rt2 3), .inl (cy 1, 3, .inr (.inl (fun _ => 0)))) :: ((rt2 4), .inl (cy 1, 3, .inr (.inl (fun _ => 0)))) :: ((rt2 5), .inl (cy 1, 3, .inr (.inl (fun _ => 0)))) :: ((rt2 6), .inl (cy 1, 3, .inr (.inl (fun _ => 0)))) :: ((rt2 7), .inl (cy 1, 3, .inr (.inl (fun _ => 0)))) :: ((rt2 8), .inl (cy 1, 3, .inr (.inl (fun _ => 0)))) :: (sJ, .inr (5, [.ref j1, .ref j2, .ref j3, .ref jL, .int 0])) :: (jL, .inl (cy 0, 9, .inl (fun j => nI j))) :: (p1, .inl (cy 0, 9, .inl (fun j => nI j))) :: (p8, .inl (cy 2, 24, .inl (fun _ => 0))) :: (vP, .inr (7, [.ref vC, .ref p1, .ref p2, .ref p3, .ref p4, .ref p5, .ref p6, .ref p7, .int 0, .long 0, .ref p8, .int 0, .int 0, .long 1])) :: (vC, .inr (3, [.ref sS, .ref sJ, .int 0, .int 0])) :: (p5, .inl (cy 3, 9, .inr (.inr (.inr (.inr (fun k9 => if k9 < 9 then some (rt k9) else none)))))) :: ((rt 0), .inl (cy 1, 3, .inr (.inl (fun _ => 0)))) :: ((rt 1), .inl (cy 1, 3, .inr (.inl (fun _ => 0)))) :: ((rt 2), .inl (cy 1, 3, .inr (.inl (fun _ => 0)))) :: ((rt 3), .inl (cy 1, 3, .inr (.inl (fun _ => 0)))) :: ((rt 4), .inl (cy 1, 3, .inr (.inl (fun _ => 0)))) :: ((rt 5), .inl (cy 1, 3, .inr (.inl (fun _ => 0)))) :: ((rt 6), .inl (cy 1, 3, .inr (.inl (fun _ => 0)))) :: ((rt 7), .inl (cy 1, 3, .inr (.inl (fun _ => 0)))) :: ((rt 8), .inl (cy 1, 3, .inr (.inl (fun _ => 0)))) :: []) H := hP
  have hD : va_D A ((h0, .inr (12, [.ref vC, .ref vP, .ref vT, .ref vS, .ref vF, .ref vN, .ref vY, .int 0])) :: (vT, .inr (7, [.ref vC, .ref t1, .ref t2, .ref t3, .ref t4, .ref t5, .ref t6, .ref t7, .int 0, .long 0, .ref t8, .int 0, .int 0, .long 1])) :: (t1, .inl (cy 0, 9, .inl (fun _ => 0))) :: (t2, .inl (cy 2, 9, .inl (fun _ => 0))) :: (t8, .inl (cy 2, 24, .inl (fun _ => 0))) :: (t3, .inl (cy 0, 9, .inl (fun _ => 0))) :: (t4, .inl (cy 3, 8, .inr (.inr (.inr (.inr (fun k9 => if k9 < 8 then some (rn2 k9) else none)))))) :: ((rn2 0), .inl (cy 1, 11, .inr (.inl (fun _ => 0)))) :: ((rn2 1), .inl (cy 1, 11, .inr (.inl (fun _ => 0)))) :: ((rn2 2), .inl (cy 1, 11, .inr (.inl (fun _ => 0)))) :: ((rn2 3), .inl (cy 1, 11, .inr (.inl (fun _ => 0)))) :: ((rn2 4), .inl (cy 1, 11, .inr (.inl (fun _ => 0)))) :: ((rn2 5), .inl (cy 1, 11, .inr (.inl (fun _ => 0)))) :: ((rn2 6), .inl (cy 1, 11, .inr (.inl (fun _ => 0)))) :: ((rn2 7), .inl (cy 1, 11, .inr (.inl (fun _ => 0)))) :: (t5, .inl (cy 3, 9, .inr (.inr (.inr (.inr (fun k9 => if k9 < 9 then some (rt2 k9) else none)))))) :: ((rt2 0), .inl (cy 1, 3, .inr (.inl (fun _ => 0)))) :: ((rt2 1), .inl (cy 1, 3, .inr (.inl (fun _ => 0)))) :: ((rt2 2), .inl (cy 1, 3, .inr (.inl (fun _ => 0)))) :: ((rt2 3), .inl (cy 1, 3, .inr (.inl (fun _ => 0)))) :: ((rt2 4), .inl (cy 1, 3, .inr (.inl (fun _ => 0)))) :: ((rt2 5), .inl (cy 1, 3, .inr (.inl (fun _ => 0)))) :: ((rt2 6), .inl (cy 1, 3, .inr (.inl (fun _ => 0)))) :: ((rt2 7), .inl (cy 1, 3, .inr (.inl (fun _ => 0)))) :: ((rt2 8), .inl (cy 1, 3, .inr (.inl (fun _ => 0)))) :: (sJ, .inr (5, [.ref j1, .ref j2, .ref j3, .ref jL, .int 0])) :: (jL, .inl (cy 0, 9, .inl (fun j => nI j))) :: (p1, .inl (cy 0, 9, .inl (fun j => nI j))) :: (p8, .inl (cy 2, 24, .inl (fun _ => 0))) :: (vP, .inr (7, [.ref vC, .ref p1, .ref p2, .ref p3, .ref p4, .ref p5, .ref p6, .ref p7, .int 0, .long 0, .ref p8, .int 0, .int 0, .long 1])) :: (vC, .inr (3, [.ref sS, .ref sJ, .int 0, .int 0])) :: (p5, .inl (cy 3, 9, .inr (.inr (.inr (.inr (fun k9 => if k9 < 9 then some (rt k9) else none)))))) :: ((rt 0), .inl (cy 1, 3, .inr (.inl (fun _ => 0)))) :: ((rt 1), .inl (cy 1, 3, .inr (.inl (fun _ => 0)))) :: ((rt 2), .inl (cy 1, 3, .inr (.inl (fun _ => 0)))) :: ((rt 3), .inl (cy 1, 3, .inr (.inl (fun _ => 0)))) :: ((rt 4), .inl (cy 1, 3, .inr (.inl (fun _ => 0)))) :: ((rt 5), .inl (cy 1, 3, .inr (.inl (fun _ => 0)))) :: ((rt 6), .inl (cy 1, 3, .inr (.inl (fun _ => 0)))) :: ((rt 7), .inl (cy 1, 3, .inr (.inl (fun _ => 0)))) :: ((rt 8), .inl (cy 1, 3, .inr (.inl (fun _ => 0)))) :: []) := hD
  refine lv_aload_n hx hb dX9_isSound_21 rfl (lv_at hl 0 rfl) ?_
  refine va_get (D := D) (ci := 12) (v := .ref vT) (C := RX9) (T := TX9) (N := 8) hx hb hts iRX9 hown hK hP 0 rfl rfl 2 (by decide) (hts _ q134) (fun _ h9 => h9) rfl dX9_isSound_22 ?_
  refine lv_iload_n hx hb dX9_isSound_25 rfl (lv_at hl 1 rfl) ?_
  refine lv_iconst (v := (-1)) hx hb dX9_isSound_26 (by decide) ?_
  refine zq_v (wc := [(vT, .inr (7, [.ref vC, .ref t1, .ref t2, .ref t3, .ref t4, .ref t5, .ref t6, .ref t7, .int 0, .long 0, .ref t8, .int 0, .int 0, .long 1])), (vC, .inr (3, [.ref sS, .ref sJ, .int 0, .int 0])), (sJ, .inr (5, [.ref j1, .ref j2, .ref j3, .ref jL, .int 0])), (jL, .inl (cy 0, 9, .inl (fun j => nI j))), (t1, .inl (cy 0, 9, .inl (fun _ => 0))), (t2, .inl (cy 2, 9, .inl (fun _ => 0))), (t8, .inl (cy 2, 24, .inl (fun _ => 0)))]) (wr := ((h0, .inr (12, [.ref vC, .ref vP, .ref vT, .ref vS, .ref vF, .ref vN, .ref vY, .int 0])) :: (t3, .inl (cy 0, 9, .inl (fun _ => 0))) :: (t4, .inl (cy 3, 8, .inr (.inr (.inr (.inr (fun k9 => if k9 < 8 then some (rn2 k9) else none)))))) :: ((rn2 0), .inl (cy 1, 11, .inr (.inl (fun _ => 0)))) :: ((rn2 1), .inl (cy 1, 11, .inr (.inl (fun _ => 0)))) :: ((rn2 2), .inl (cy 1, 11, .inr (.inl (fun _ => 0)))) :: ((rn2 3), .inl (cy 1, 11, .inr (.inl (fun _ => 0)))) :: ((rn2 4), .inl (cy 1, 11, .inr (.inl (fun _ => 0)))) :: ((rn2 5), .inl (cy 1, 11, .inr (.inl (fun _ => 0)))) :: ((rn2 6), .inl (cy 1, 11, .inr (.inl (fun _ => 0)))) :: ((rn2 7), .inl (cy 1, 11, .inr (.inl (fun _ => 0)))) :: (t5, .inl (cy 3, 9, .inr (.inr (.inr (.inr (fun k9 => if k9 < 9 then some (rt2 k9) else none)))))) :: ((rt2 0), .inl (cy 1, 3, .inr (.inl (fun _ => 0)))) :: ((rt2 1), .inl (cy 1, 3, .inr (.inl (fun _ => 0)))) :: ((rt2 2), .inl (cy 1, 3, .inr (.inl (fun _ => 0)))) :: ((rt2 3), .inl (cy 1, 3, .inr (.inl (fun _ => 0)))) :: ((rt2 4), .inl (cy 1, 3, .inr (.inl (fun _ => 0)))) :: ((rt2 5), .inl (cy 1, 3, .inr (.inl (fun _ => 0)))) :: ((rt2 6), .inl (cy 1, 3, .inr (.inl (fun _ => 0)))) :: ((rt2 7), .inl (cy 1, 3, .inr (.inl (fun _ => 0)))) :: ((rt2 8), .inl (cy 1, 3, .inr (.inl (fun _ => 0)))) :: (p1, .inl (cy 0, 9, .inl (fun j => nI j))) :: (p8, .inl (cy 2, 24, .inl (fun _ => 0))) :: (vP, .inr (7, [.ref vC, .ref p1, .ref p2, .ref p3, .ref p4, .ref p5, .ref p6, .ref p7, .int 0, .long 0, .ref p8, .int 0, .int 0, .long 1])) :: (p5, .inl (cy 3, 9, .inr (.inr (.inr (.inr (fun k9 => if k9 < 9 then some (rt k9) else none)))))) :: ((rt 0), .inl (cy 1, 3, .inr (.inl (fun _ => 0)))) :: ((rt 1), .inl (cy 1, 3, .inr (.inl (fun _ => 0)))) :: ((rt 2), .inl (cy 1, 3, .inr (.inl (fun _ => 0)))) :: ((rt 3), .inl (cy 1, 3, .inr (.inl (fun _ => 0)))) :: ((rt 4), .inl (cy 1, 3, .inr (.inl (fun _ => 0)))) :: ((rt 5), .inl (cy 1, 3, .inr (.inl (fun _ => 0)))) :: ((rt 6), .inl (cy 1, 3, .inr (.inl (fun _ => 0)))) :: ((rt 7), .inl (cy 1, 3, .inr (.inl (fun _ => 0)))) :: ((rt 8), .inl (cy 1, 3, .inr (.inl (fun _ => 0)))) :: [])) (va_runV (As := [.int d, .int (-1)]) (rest := []) ⟨hx, hb, hml, hown, hts⟩ (k_hang l D cy vT vC t1 t2 t3 t4 t5 t6 t7 t8 0 0 0 0 1 sS sJ j1 j2 j3 jL d (-1) (fun j => nI j) (fun _ => 0) (fun _ => 0) (fun _ => 0) H.size ) (cwV 2 hts (gzV (gz q195) q194 q196 q197 q87) rfl rfl rfl vX4_hang ⟨Nat.le_of_ble_eq_true rfl, Nat.le_of_ble_eq_true rfl⟩) (zpV (ci := 7) (T := TX4) (N := 14) (q0 := 0) hK hX hY hP hD hS hA [1, 30, 25, 26, 2, 3, 4] (by decide) rfl rfl rfl) rfl rfl hl.1 rfl (lv_room (Nat.le_of_ble_eq_true rfl)) dX9_isSound_27 ⟨Nat.le_of_ble_eq_true rfl, Nat.le_of_ble_eq_true rfl⟩) hP hD hS hA [1, 30, 25, 26, 2, 3, 4] (0 :: 5 :: 6 :: 7 :: 8 :: 9 :: 10 :: 11 :: 12 :: 13 :: 14 :: 15 :: 16 :: 17 :: 18 :: 19 :: 20 :: 21 :: 22 :: 23 :: 24 :: 27 :: 28 :: 29 :: 31 :: 32 :: 33 :: 34 :: 35 :: 36 :: 37 :: 38 :: 39 :: 40 :: []) rfl rfl (by decide) (by decide) (fun u7 H locs hw hP hD hS => ?_)
  have hP : va_P D vwCl ((h0, .inr (12, [.ref vC, .ref vP, .ref vT, .ref vS, .ref vF, .ref vN, .ref vY, .int 0])) :: (t3, .inl (cy 0, 9, .inl (fun _ => 0))) :: (t4, .inl (cy 3, 8, .inr (.inr (.inr (.inr (fun k9 => if k9 < 8 then some (rn2 k9) else none)))))) :: ((rn2 0), .inl (cy 1, 11, .inr (.inl (fun _ => 0)))) :: ((rn2 1), .inl (cy 1, 11, .inr (.inl (fun _ => 0)))) :: ((rn2 2), .inl (cy 1, 11, .inr (.inl (fun _ => 0)))) :: ((rn2 3), .inl (cy 1, 11, .inr (.inl (fun _ => 0)))) :: ((rn2 4), .inl (cy 1, 11, .inr (.inl (fun _ => 0)))) :: ((rn2 5), .inl (cy 1, 11, .inr (.inl (fun _ => 0)))) :: ((rn2 6), .inl (cy 1, 11, .inr (.inl (fun _ => 0)))) :: ((rn2 7), .inl (cy 1, 11, .inr (.inl (fun _ => 0)))) :: (t5, .inl (cy 3, 9, .inr (.inr (.inr (.inr (fun k9 => if k9 < 9 then some (rt2 k9) else none)))))) :: ((rt2 0), .inl (cy 1, 3, .inr (.inl (fun _ => 0)))) :: ((rt2 1), .inl (cy 1, 3, .inr (.inl (fun _ => 0)))) :: ((rt2 2), .inl (cy 1, 3, .inr (.inl (fun _ => 0)))) :: ((rt2 3), .inl (cy 1, 3, .inr (.inl (fun _ => 0)))) :: ((rt2 4), .inl (cy 1, 3, .inr (.inl (fun _ => 0)))) :: ((rt2 5), .inl (cy 1, 3, .inr (.inl (fun _ => 0)))) :: ((rt2 6), .inl (cy 1, 3, .inr (.inl (fun _ => 0)))) :: ((rt2 7), .inl (cy 1, 3, .inr (.inl (fun _ => 0)))) :: ((rt2 8), .inl (cy 1, 3, .inr (.inl (fun _ => 0)))) :: (p1, .inl (cy 0, 9, .inl (fun j => nI j))) :: (p8, .inl (cy 2, 24, .inl (fun _ => 0))) :: (vP, .inr (7, [.ref vC, .ref p1, .ref p2, .ref p3, .ref p4, .ref p5, .ref p6, .ref p7, .int 0, .long 0, .ref p8, .int 0, .int 0, .long 1])) :: (p5, .inl (cy 3, 9, .inr (.inr (.inr (.inr (fun k9 => if k9 < 9 then some (rt k9) else none)))))) :: ((rt 0), .inl (cy 1, 3, .inr (.inl (fun _ => 0)))) :: ((rt 1), .inl (cy 1, 3, .inr (.inl (fun _ => 0)))) :: ((rt 2), .inl (cy 1, 3, .inr (.inl (fun _ => 0)))) :: ((rt 3), .inl (cy 1, 3, .inr (.inl (fun _ => 0)))) :: ((rt 4), .inl (cy 1, 3, .inr (.inl (fun _ => 0)))) :: ((rt 5), .inl (cy 1, 3, .inr (.inl (fun _ => 0)))) :: ((rt 6), .inl (cy 1, 3, .inr (.inl (fun _ => 0)))) :: ((rt 7), .inl (cy 1, 3, .inr (.inl (fun _ => 0)))) :: ((rt 8), .inl (cy 1, 3, .inr (.inl (fun _ => 0)))) :: (vT, .inr (7, [.ref vC, .ref t1, .ref t2, .ref t3, .ref t4, .ref t5, .ref t6, .ref t7, .int 0, .long 0, .ref t8, .int 0, .int 0, .long 1])) :: (vC, .inr (3, [.ref sS, .ref sJ, .int 0, .int 0])) :: (sJ, .inr (5, [.ref j1, .ref j2, .ref j3, .ref jL, .int 0])) :: (jL, .inl (cy 0, 9, .inl (fun j => nI j))) :: (t1, .inl (cy 0, 9, .inl (fun j => nI j))) :: (t2, .inl (cy 2, 9, .inl (fun _ => 0))) :: (t8, .inl (cy 2, 24, .inl (fun _ => 0))) :: []) H := hP
  have hD : va_D A ((h0, .inr (12, [.ref vC, .ref vP, .ref vT, .ref vS, .ref vF, .ref vN, .ref vY, .int 0])) :: (t3, .inl (cy 0, 9, .inl (fun _ => 0))) :: (t4, .inl (cy 3, 8, .inr (.inr (.inr (.inr (fun k9 => if k9 < 8 then some (rn2 k9) else none)))))) :: ((rn2 0), .inl (cy 1, 11, .inr (.inl (fun _ => 0)))) :: ((rn2 1), .inl (cy 1, 11, .inr (.inl (fun _ => 0)))) :: ((rn2 2), .inl (cy 1, 11, .inr (.inl (fun _ => 0)))) :: ((rn2 3), .inl (cy 1, 11, .inr (.inl (fun _ => 0)))) :: ((rn2 4), .inl (cy 1, 11, .inr (.inl (fun _ => 0)))) :: ((rn2 5), .inl (cy 1, 11, .inr (.inl (fun _ => 0)))) :: ((rn2 6), .inl (cy 1, 11, .inr (.inl (fun _ => 0)))) :: ((rn2 7), .inl (cy 1, 11, .inr (.inl (fun _ => 0)))) :: (t5, .inl (cy 3, 9, .inr (.inr (.inr (.inr (fun k9 => if k9 < 9 then some (rt2 k9) else none)))))) :: ((rt2 0), .inl (cy 1, 3, .inr (.inl (fun _ => 0)))) :: ((rt2 1), .inl (cy 1, 3, .inr (.inl (fun _ => 0)))) :: ((rt2 2), .inl (cy 1, 3, .inr (.inl (fun _ => 0)))) :: ((rt2 3), .inl (cy 1, 3, .inr (.inl (fun _ => 0)))) :: ((rt2 4), .inl (cy 1, 3, .inr (.inl (fun _ => 0)))) :: ((rt2 5), .inl (cy 1, 3, .inr (.inl (fun _ => 0)))) :: ((rt2 6), .inl (cy 1, 3, .inr (.inl (fun _ => 0)))) :: ((rt2 7), .inl (cy 1, 3, .inr (.inl (fun _ => 0)))) :: ((rt2 8), .inl (cy 1, 3, .inr (.inl (fun _ => 0)))) :: (p1, .inl (cy 0, 9, .inl (fun j => nI j))) :: (p8, .inl (cy 2, 24, .inl (fun _ => 0))) :: (vP, .inr (7, [.ref vC, .ref p1, .ref p2, .ref p3, .ref p4, .ref p5, .ref p6, .ref p7, .int 0, .long 0, .ref p8, .int 0, .int 0, .long 1])) :: (p5, .inl (cy 3, 9, .inr (.inr (.inr (.inr (fun k9 => if k9 < 9 then some (rt k9) else none)))))) :: ((rt 0), .inl (cy 1, 3, .inr (.inl (fun _ => 0)))) :: ((rt 1), .inl (cy 1, 3, .inr (.inl (fun _ => 0)))) :: ((rt 2), .inl (cy 1, 3, .inr (.inl (fun _ => 0)))) :: ((rt 3), .inl (cy 1, 3, .inr (.inl (fun _ => 0)))) :: ((rt 4), .inl (cy 1, 3, .inr (.inl (fun _ => 0)))) :: ((rt 5), .inl (cy 1, 3, .inr (.inl (fun _ => 0)))) :: ((rt 6), .inl (cy 1, 3, .inr (.inl (fun _ => 0)))) :: ((rt 7), .inl (cy 1, 3, .inr (.inl (fun _ => 0)))) :: ((rt 8), .inl (cy 1, 3, .inr (.inl (fun _ => 0)))) :: (vT, .inr (7, [.ref vC, .ref t1, .ref t2, .ref t3, .ref t4, .ref t5, .ref t6, .ref t7, .int 0, .long 0, .ref t8, .int 0, .int 0, .long 1])) :: (vC, .inr (3, [.ref sS, .ref sJ, .int 0, .int 0])) :: (sJ, .inr (5, [.ref j1, .ref j2, .ref j3, .ref jL, .int 0])) :: (jL, .inl (cy 0, 9, .inl (fun j => nI j))) :: (t1, .inl (cy 0, 9, .inl (fun j => nI j))) :: (t2, .inl (cy 2, 9, .inl (fun _ => 0))) :: (t8, .inl (cy 2, 24, .inl (fun _ => 0))) :: []) := hD
  refine lv_aload_n hx hb dX9_isSound_30 rfl (lv_at hl 0 rfl) ?_
  refine va_get (D := D) (ci := 12) (v := .ref vT) (C := RX9) (T := TX9) (N := 8) hx hb hts iRX9 hown hK hP 0 rfl rfl 2 (by decide) (hts _ q134) (fun _ h9 => h9) rfl dX9_isSound_31 ?_
  refine lv_iconst (v := 1) hx hb dX9_isSound_34 (by decide) ?_
  refine zq_v (wc := [(vT, .inr (7, [.ref vC, .ref t1, .ref t2, .ref t3, .ref t4, .ref t5, .ref t6, .ref t7, .int 0, .long 0, .ref t8, .int 0, .int 0, .long 1])), (vC, .inr (3, [.ref sS, .ref sJ, .int 0, .int 0])), (t2, .inl (cy 2, 9, .inl (fun _ => 0))), (t3, .inl (cy 0, 9, .inl (fun _ => 0))), (t4, .inl (cy 3, 8, .inr (.inr (.inr (.inr (fun k9 => if k9 < 8 then some (rn2 k9) else none)))))), ((rn2 0), .inl (cy 1, 11, .inr (.inl (fun _ => 0)))), ((rn2 1), .inl (cy 1, 11, .inr (.inl (fun _ => 0)))), ((rn2 2), .inl (cy 1, 11, .inr (.inl (fun _ => 0)))), ((rn2 3), .inl (cy 1, 11, .inr (.inl (fun _ => 0)))), ((rn2 4), .inl (cy 1, 11, .inr (.inl (fun _ => 0)))), ((rn2 5), .inl (cy 1, 11, .inr (.inl (fun _ => 0)))), ((rn2 6), .inl (cy 1, 11, .inr (.inl (fun _ => 0)))), ((rn2 7), .inl (cy 1, 11, .inr (.inl (fun _ => 0)))), (t5, .inl (cy 3, 9, .inr (.inr (.inr (.inr (fun k9 => if k9 < 9 then some (rt2 k9) else none)))))), ((rt2 0), .inl (cy 1, 3, .inr (.inl (fun _ => 0)))), ((rt2 1), .inl (cy 1, 3, .inr (.inl (fun _ => 0)))), ((rt2 2), .inl (cy 1, 3, .inr (.inl (fun _ => 0)))), ((rt2 3), .inl (cy 1, 3, .inr (.inl (fun _ => 0)))), ((rt2 4), .inl (cy 1, 3, .inr (.inl (fun _ => 0)))), ((rt2 5), .inl (cy 1, 3, .inr (.inl (fun _ => 0)))), ((rt2 6), .inl (cy 1, 3, .inr (.inl (fun _ => 0)))), ((rt2 7), .inl (cy 1, 3, .inr (.inl (fun _ => 0)))), ((rt2 8), .inl (cy 1, 3, .inr (.inl (fun _ => 0))))]) (wr := [(h0, .inr (12, [.ref vC, .ref vP, .ref vT, .ref vS, .ref vF, .ref vN, .ref vY, .int 0])), (p1, .inl (cy 0, 9, .inl (fun j => nI j))), (p8, .inl (cy 2, 24, .inl (fun _ => 0))), (vP, .inr (7, [.ref vC, .ref p1, .ref p2, .ref p3, .ref p4, .ref p5, .ref p6, .ref p7, .int 0, .long 0, .ref p8, .int 0, .int 0, .long 1])), (p5, .inl (cy 3, 9, .inr (.inr (.inr (.inr (fun k9 => if k9 < 9 then some (rt k9) else none)))))), ((rt 0), .inl (cy 1, 3, .inr (.inl (fun _ => 0)))), ((rt 1), .inl (cy 1, 3, .inr (.inl (fun _ => 0)))), ((rt 2), .inl (cy 1, 3, .inr (.inl (fun _ => 0)))), ((rt 3), .inl (cy 1, 3, .inr (.inl (fun _ => 0)))), ((rt 4), .inl (cy 1, 3, .inr (.inl (fun _ => 0)))), ((rt 5), .inl (cy 1, 3, .inr (.inl (fun _ => 0)))), ((rt 6), .inl (cy 1, 3, .inr (.inl (fun _ => 0)))), ((rt 7), .inl (cy 1, 3, .inr (.inl (fun _ => 0)))), ((rt 8), .inl (cy 1, 3, .inr (.inl (fun _ => 0)))), (sJ, .inr (5, [.ref j1, .ref j2, .ref j3, .ref jL, .int 0])), (jL, .inl (cy 0, 9, .inl (fun j => nI j))), (t1, .inl (cy 0, 9, .inl (fun j => nI j))), (t8, .inl (cy 2, 24, .inl (fun _ => 0)))]) (va_runV (As := [.int 1]) (rest := []) ⟨hx, hb, hml, hown, hts⟩ (k_weigh1 l D cy vT vC t1 t2 t3 t4 t5 t6 t7 t8 0 0 0 1 sS sJ rn2 rt2 H.size ) (cwV 1 hts (gzV (gz q201) q200 q202 q203 q87) rfl rfl rfl vX4_weigh ⟨Nat.le_of_ble_eq_true rfl, Nat.le_of_ble_eq_true rfl⟩) (zpV (ci := 7) (T := TX4) (N := 14) (q0 := 0) hK hX hY hP hD hS hA [34, 35, 39, 1, 2, 3, 4, 5, 6, 7, 8, 9, 10, 11, 12, 13, 14, 15, 16, 17, 18, 19, 20] (by decide) rfl rfl rfl) rfl rfl hl.1 rfl (lv_room (Nat.le_of_ble_eq_true rfl)) dX9_isSound_35 ⟨Nat.le_of_ble_eq_true rfl, Nat.le_of_ble_eq_true rfl⟩) hP hD hS hA [34, 35, 39, 1, 2, 3, 4, 5, 6, 7, 8, 9, 10, 11, 12, 13, 14, 15, 16, 17, 18, 19, 20] [0, 21, 22, 23, 24, 25, 26, 27, 28, 29, 30, 31, 32, 33, 36, 37, 38, 40] rfl rfl (by decide) (by decide) (fun u9 H locs hw hP hD hS => ?_)
  have hP : va_P D vwCl ((h0, .inr (12, [.ref vC, .ref vP, .ref vT, .ref vS, .ref vF, .ref vN, .ref vY, .int 0])) :: (p1, .inl (cy 0, 9, .inl (fun j => nI j))) :: (p8, .inl (cy 2, 24, .inl (fun _ => 0))) :: (vP, .inr (7, [.ref vC, .ref p1, .ref p2, .ref p3, .ref p4, .ref p5, .ref p6, .ref p7, .int 0, .long 0, .ref p8, .int 0, .int 0, .long 1])) :: (p5, .inl (cy 3, 9, .inr (.inr (.inr (.inr (fun k9 => if k9 < 9 then some (rt k9) else none)))))) :: ((rt 0), .inl (cy 1, 3, .inr (.inl (fun _ => 0)))) :: ((rt 1), .inl (cy 1, 3, .inr (.inl (fun _ => 0)))) :: ((rt 2), .inl (cy 1, 3, .inr (.inl (fun _ => 0)))) :: ((rt 3), .inl (cy 1, 3, .inr (.inl (fun _ => 0)))) :: ((rt 4), .inl (cy 1, 3, .inr (.inl (fun _ => 0)))) :: ((rt 5), .inl (cy 1, 3, .inr (.inl (fun _ => 0)))) :: ((rt 6), .inl (cy 1, 3, .inr (.inl (fun _ => 0)))) :: ((rt 7), .inl (cy 1, 3, .inr (.inl (fun _ => 0)))) :: ((rt 8), .inl (cy 1, 3, .inr (.inl (fun _ => 0)))) :: (sJ, .inr (5, [.ref j1, .ref j2, .ref j3, .ref jL, .int 0])) :: (jL, .inl (cy 0, 9, .inl (fun j => nI j))) :: (t1, .inl (cy 0, 9, .inl (fun j => nI j))) :: (t8, .inl (cy 2, 24, .inl (fun _ => 0))) :: (vT, .inr (7, [.ref vC, .ref t1, .ref t2, .ref t3, .ref t4, .ref t5, .ref t6, .ref t7, .int 0, .long 0, .ref t8, .int 0, .int 0, .long 1])) :: (vC, .inr (3, [.ref sS, .ref sJ, .int 0, .int 0])) :: (t5, .inl (cy 3, 9, .inr (.inr (.inr (.inr (fun k9 => if k9 < 9 then some (rt2 k9) else none)))))) :: ((rt2 0), .inl (cy 1, 3, .inr (.inl (fun _ => 0)))) :: ((rt2 1), .inl (cy 1, 3, .inr (.inl (fun _ => 0)))) :: ((rt2 2), .inl (cy 1, 3, .inr (.inl (fun _ => 0)))) :: ((rt2 3), .inl (cy 1, 3, .inr (.inl (fun _ => 0)))) :: ((rt2 4), .inl (cy 1, 3, .inr (.inl (fun _ => 0)))) :: ((rt2 5), .inl (cy 1, 3, .inr (.inl (fun _ => 0)))) :: ((rt2 6), .inl (cy 1, 3, .inr (.inl (fun _ => 0)))) :: ((rt2 7), .inl (cy 1, 3, .inr (.inl (fun _ => 0)))) :: ((rt2 8), .inl (cy 1, 3, .inr (.inl (fun _ => 0)))) :: []) H := hP
  have hD : va_D A ((h0, .inr (12, [.ref vC, .ref vP, .ref vT, .ref vS, .ref vF, .ref vN, .ref vY, .int 0])) :: (p1, .inl (cy 0, 9, .inl (fun j => nI j))) :: (p8, .inl (cy 2, 24, .inl (fun _ => 0))) :: (vP, .inr (7, [.ref vC, .ref p1, .ref p2, .ref p3, .ref p4, .ref p5, .ref p6, .ref p7, .int 0, .long 0, .ref p8, .int 0, .int 0, .long 1])) :: (p5, .inl (cy 3, 9, .inr (.inr (.inr (.inr (fun k9 => if k9 < 9 then some (rt k9) else none)))))) :: ((rt 0), .inl (cy 1, 3, .inr (.inl (fun _ => 0)))) :: ((rt 1), .inl (cy 1, 3, .inr (.inl (fun _ => 0)))) :: ((rt 2), .inl (cy 1, 3, .inr (.inl (fun _ => 0)))) :: ((rt 3), .inl (cy 1, 3, .inr (.inl (fun _ => 0)))) :: ((rt 4), .inl (cy 1, 3, .inr (.inl (fun _ => 0)))) :: ((rt 5), .inl (cy 1, 3, .inr (.inl (fun _ => 0)))) :: ((rt 6), .inl (cy 1, 3, .inr (.inl (fun _ => 0)))) :: ((rt 7), .inl (cy 1, 3, .inr (.inl (fun _ => 0)))) :: ((rt 8), .inl (cy 1, 3, .inr (.inl (fun _ => 0)))) :: (sJ, .inr (5, [.ref j1, .ref j2, .ref j3, .ref jL, .int 0])) :: (jL, .inl (cy 0, 9, .inl (fun j => nI j))) :: (t1, .inl (cy 0, 9, .inl (fun j => nI j))) :: (t8, .inl (cy 2, 24, .inl (fun _ => 0))) :: (vT, .inr (7, [.ref vC, .ref t1, .ref t2, .ref t3, .ref t4, .ref t5, .ref t6, .ref t7, .int 0, .long 0, .ref t8, .int 0, .int 0, .long 1])) :: (vC, .inr (3, [.ref sS, .ref sJ, .int 0, .int 0])) :: (t5, .inl (cy 3, 9, .inr (.inr (.inr (.inr (fun k9 => if k9 < 9 then some (rt2 k9) else none)))))) :: ((rt2 0), .inl (cy 1, 3, .inr (.inl (fun _ => 0)))) :: ((rt2 1), .inl (cy 1, 3, .inr (.inl (fun _ => 0)))) :: ((rt2 2), .inl (cy 1, 3, .inr (.inl (fun _ => 0)))) :: ((rt2 3), .inl (cy 1, 3, .inr (.inl (fun _ => 0)))) :: ((rt2 4), .inl (cy 1, 3, .inr (.inl (fun _ => 0)))) :: ((rt2 5), .inl (cy 1, 3, .inr (.inl (fun _ => 0)))) :: ((rt2 6), .inl (cy 1, 3, .inr (.inl (fun _ => 0)))) :: ((rt2 7), .inl (cy 1, 3, .inr (.inl (fun _ => 0)))) :: ((rt2 8), .inl (cy 1, 3, .inr (.inl (fun _ => 0)))) :: []) := hD
  refine lv_aload_n hx hb dX9_isSound_38 rfl (lv_at hl 0 rfl) ?_
  refine va_get (D := D) (ci := 12) (v := .ref vP) (C := RX9) (T := TX9) (N := 8) hx hb hts iRX9 hown hK hP 0 rfl rfl 1 (by decide) (hts _ q133) (fun _ h9 => h9) rfl dX9_isSound_39 ?_
  refine lv_aload_n hx hb dX9_isSound_42 rfl (lv_at hl 0 rfl) ?_
  refine va_get (D := D) (ci := 12) (v := .ref vT) (C := RX9) (T := TX9) (N := 8) hx hb hts iRX9 hown hK hP 0 rfl rfl 2 (by decide) (hts _ q134) (fun _ h9 => h9) rfl dX9_isSound_43 ?_
  refine zq_i (wc := [(vP, .inr (7, [.ref vC, .ref p1, .ref p2, .ref p3, .ref p4, .ref p5, .ref p6, .ref p7, .int 0, .long 0, .ref p8, .int 0, .int 0, .long 1])), (vC, .inr (3, [.ref sS, .ref sJ, .int 0, .int 0]))]) (wr := [(h0, .inr (12, [.ref vC, .ref vP, .ref vT, .ref vS, .ref vF, .ref vN, .ref vY, .int 0])), (p1, .inl (cy 0, 9, .inl (fun j => nI j))), (p8, .inl (cy 2, 24, .inl (fun _ => 0))), (p5, .inl (cy 3, 9, .inr (.inr (.inr (.inr (fun k9 => if k9 < 9 then some (rt k9) else none)))))), ((rt 0), .inl (cy 1, 3, .inr (.inl (fun _ => 0)))), ((rt 1), .inl (cy 1, 3, .inr (.inl (fun _ => 0)))), ((rt 2), .inl (cy 1, 3, .inr (.inl (fun _ => 0)))), ((rt 3), .inl (cy 1, 3, .inr (.inl (fun _ => 0)))), ((rt 4), .inl (cy 1, 3, .inr (.inl (fun _ => 0)))), ((rt 5), .inl (cy 1, 3, .inr (.inl (fun _ => 0)))), ((rt 6), .inl (cy 1, 3, .inr (.inl (fun _ => 0)))), ((rt 7), .inl (cy 1, 3, .inr (.inl (fun _ => 0)))), ((rt 8), .inl (cy 1, 3, .inr (.inl (fun _ => 0)))), (sJ, .inr (5, [.ref j1, .ref j2, .ref j3, .ref jL, .int 0])), (jL, .inl (cy 0, 9, .inl (fun j => nI j))), (t1, .inl (cy 0, 9, .inl (fun j => nI j))), (t8, .inl (cy 2, 24, .inl (fun _ => 0))), (vT, .inr (7, [.ref vC, .ref t1, .ref t2, .ref t3, .ref t4, .ref t5, .ref t6, .ref t7, .int 0, .long 0, .ref t8, .int 0, .int 0, .long 1])), (t5, .inl (cy 3, 9, .inr (.inr (.inr (.inr (fun k9 => if k9 < 9 then some (rt2 k9) else none)))))), ((rt2 0), .inl (cy 1, 3, .inr (.inl (fun _ => 0)))), ((rt2 1), .inl (cy 1, 3, .inr (.inl (fun _ => 0)))), ((rt2 2), .inl (cy 1, 3, .inr (.inl (fun _ => 0)))), ((rt2 3), .inl (cy 1, 3, .inr (.inl (fun _ => 0)))), ((rt2 4), .inl (cy 1, 3, .inr (.inl (fun _ => 0)))), ((rt2 5), .inl (cy 1, 3, .inr (.inl (fun _ => 0)))), ((rt2 6), .inl (cy 1, 3, .inr (.inl (fun _ => 0)))), ((rt2 7), .inl (cy 1, 3, .inr (.inl (fun _ => 0)))), ((rt2 8), .inl (cy 1, 3, .inr (.inl (fun _ => 0))))]) (va_runV (As := [.ref vT]) (rest := []) ⟨hx, hb, hml, hown, hts⟩ (k_agreesWith l D cy vP vC p1 p2 p3 p4 p5 p6 p7 p8 0 0 0 0 1 sS sJ vT H.size ) (cwV 1 hts (gzV (gz q227) q226 q228 q229 q87) rfl rfl rfl vX4_agreesWith ⟨Nat.le_of_ble_eq_true rfl, Nat.le_of_ble_eq_true rfl⟩) (zpV (ci := 7) (T := TX4) (N := 14) (q0 := 0) hK hX hY hP hD hS hA [3, 19] (by decide) rfl rfl rfl) rfl rfl hl.1 rfl (lv_room (Nat.le_of_ble_eq_true rfl)) dX9_isSound_46 ⟨Nat.le_of_ble_eq_true rfl, Nat.le_of_ble_eq_true rfl⟩) hP hD hS hA [3, 19] [0, 1, 2, 4, 5, 6, 7, 8, 9, 10, 11, 12, 13, 14, 15, 16, 17, 18, 20, 21, 22, 23, 24, 25, 26, 27, 28, 29] rfl rfl (by decide) (by decide) (fun x12 u11 H locs hw hP hD hS => ?_)
  obtain rfl : x12 = 1 := hw
  have hP : va_P D vwCl ((h0, .inr (12, [.ref vC, .ref vP, .ref vT, .ref vS, .ref vF, .ref vN, .ref vY, .int 0])) :: (p1, .inl (cy 0, 9, .inl (fun j => nI j))) :: (p8, .inl (cy 2, 24, .inl (fun _ => 0))) :: (p5, .inl (cy 3, 9, .inr (.inr (.inr (.inr (fun k9 => if k9 < 9 then some (rt k9) else none)))))) :: ((rt 0), .inl (cy 1, 3, .inr (.inl (fun _ => 0)))) :: ((rt 1), .inl (cy 1, 3, .inr (.inl (fun _ => 0)))) :: ((rt 2), .inl (cy 1, 3, .inr (.inl (fun _ => 0)))) :: ((rt 3), .inl (cy 1, 3, .inr (.inl (fun _ => 0)))) :: ((rt 4), .inl (cy 1, 3, .inr (.inl (fun _ => 0)))) :: ((rt 5), .inl (cy 1, 3, .inr (.inl (fun _ => 0)))) :: ((rt 6), .inl (cy 1, 3, .inr (.inl (fun _ => 0)))) :: ((rt 7), .inl (cy 1, 3, .inr (.inl (fun _ => 0)))) :: ((rt 8), .inl (cy 1, 3, .inr (.inl (fun _ => 0)))) :: (sJ, .inr (5, [.ref j1, .ref j2, .ref j3, .ref jL, .int 0])) :: (jL, .inl (cy 0, 9, .inl (fun j => nI j))) :: (t1, .inl (cy 0, 9, .inl (fun j => nI j))) :: (t8, .inl (cy 2, 24, .inl (fun _ => 0))) :: (vT, .inr (7, [.ref vC, .ref t1, .ref t2, .ref t3, .ref t4, .ref t5, .ref t6, .ref t7, .int 0, .long 0, .ref t8, .int 0, .int 0, .long 1])) :: (t5, .inl (cy 3, 9, .inr (.inr (.inr (.inr (fun k9 => if k9 < 9 then some (rt2 k9) else none)))))) :: ((rt2 0), .inl (cy 1, 3, .inr (.inl (fun _ => 0)))) :: ((rt2 1), .inl (cy 1, 3, .inr (.inl (fun _ => 0)))) :: ((rt2 2), .inl (cy 1, 3, .inr (.inl (fun _ => 0)))) :: ((rt2 3), .inl (cy 1, 3, .inr (.inl (fun _ => 0)))) :: ((rt2 4), .inl (cy 1, 3, .inr (.inl (fun _ => 0)))) :: ((rt2 5), .inl (cy 1, 3, .inr (.inl (fun _ => 0)))) :: ((rt2 6), .inl (cy 1, 3, .inr (.inl (fun _ => 0)))) :: ((rt2 7), .inl (cy 1, 3, .inr (.inl (fun _ => 0)))) :: ((rt2 8), .inl (cy 1, 3, .inr (.inl (fun _ => 0)))) :: (vP, .inr (7, [.ref vC, .ref p1, .ref p2, .ref p3, .ref p4, .ref p5, .ref p6, .ref p7, .int 0, .long 0, .ref p8, .int 0, .int 0, .long 1])) :: (vC, .inr (3, [.ref sS, .ref sJ, .int 0, .int 0])) :: []) H := hP
  have hD : va_D A ((h0, .inr (12, [.ref vC, .ref vP, .ref vT, .ref vS, .ref vF, .ref vN, .ref vY, .int 0])) :: (p1, .inl (cy 0, 9, .inl (fun j => nI j))) :: (p8, .inl (cy 2, 24, .inl (fun _ => 0))) :: (p5, .inl (cy 3, 9, .inr (.inr (.inr (.inr (fun k9 => if k9 < 9 then some (rt k9) else none)))))) :: ((rt 0), .inl (cy 1, 3, .inr (.inl (fun _ => 0)))) :: ((rt 1), .inl (cy 1, 3, .inr (.inl (fun _ => 0)))) :: ((rt 2), .inl (cy 1, 3, .inr (.inl (fun _ => 0)))) :: ((rt 3), .inl (cy 1, 3, .inr (.inl (fun _ => 0)))) :: ((rt 4), .inl (cy 1, 3, .inr (.inl (fun _ => 0)))) :: ((rt 5), .inl (cy 1, 3, .inr (.inl (fun _ => 0)))) :: ((rt 6), .inl (cy 1, 3, .inr (.inl (fun _ => 0)))) :: ((rt 7), .inl (cy 1, 3, .inr (.inl (fun _ => 0)))) :: ((rt 8), .inl (cy 1, 3, .inr (.inl (fun _ => 0)))) :: (sJ, .inr (5, [.ref j1, .ref j2, .ref j3, .ref jL, .int 0])) :: (jL, .inl (cy 0, 9, .inl (fun j => nI j))) :: (t1, .inl (cy 0, 9, .inl (fun j => nI j))) :: (t8, .inl (cy 2, 24, .inl (fun _ => 0))) :: (vT, .inr (7, [.ref vC, .ref t1, .ref t2, .ref t3, .ref t4, .ref t5, .ref t6, .ref t7, .int 0, .long 0, .ref t8, .int 0, .int 0, .long 1])) :: (t5, .inl (cy 3, 9, .inr (.inr (.inr (.inr (fun k9 => if k9 < 9 then some (rt2 k9) else none)))))) :: ((rt2 0), .inl (cy 1, 3, .inr (.inl (fun _ => 0)))) :: ((rt2 1), .inl (cy 1, 3, .inr (.inl (fun _ => 0)))) :: ((rt2 2), .inl (cy 1, 3, .inr (.inl (fun _ => 0)))) :: ((rt2 3), .inl (cy 1, 3, .inr (.inl (fun _ => 0)))) :: ((rt2 4), .inl (cy 1, 3, .inr (.inl (fun _ => 0)))) :: ((rt2 5), .inl (cy 1, 3, .inr (.inl (fun _ => 0)))) :: ((rt2 6), .inl (cy 1, 3, .inr (.inl (fun _ => 0)))) :: ((rt2 7), .inl (cy 1, 3, .inr (.inl (fun _ => 0)))) :: ((rt2 8), .inl (cy 1, 3, .inr (.inl (fun _ => 0)))) :: (vP, .inr (7, [.ref vC, .ref p1, .ref p2, .ref p3, .ref p4, .ref p5, .ref p6, .ref p7, .int 0, .long 0, .ref p8, .int 0, .int 0, .long 1])) :: (vC, .inr (3, [.ref sS, .ref sJ, .int 0, .int 0])) :: []) := hD
  refine lv_if_ne (tgt := 54) hx hb dX9_isSound_49 (by decide) (fun _ => ?_) (fun c_49_12 => absurd c_49_12 (by decide +kernel))
  refine lv_iconst (v := 0) hx hb dX9_isSound_54 (by decide) ?_
  refine lv_istore_n (lv' := [(2, .int 0), (0, .ref h0), (1, .int d)]) hx hb dX9_isSound_55 rfl hl (by decide) rfl (fun ls hl => ?_)
  refine lv_iload_n hx hb dX9_isSound_56 rfl (lv_at hl 0 rfl) ?_
  refine lv_aload_n hx hb dX9_isSound_57 rfl (lv_at hl 1 rfl) ?_
  refine va_get (D := D) (ci := 12) (v := .int 0) (C := RX9) (T := TX9) (N := 8) hx hb hts iRX9 hown hK hP 0 rfl rfl 7 (by decide) (hts _ q167) (fun _ h9 => h9) rfl dX9_isSound_58 ?_
  refine lv_icmp_ge (tgt := 101) hx hb dX9_isSound_61 (by decide) (fun _ => ?_) (fun c_61_13 => absurd (by decide +kernel) c_61_13)
  refine lv_iconst (v := 1) hx hb dX9_isSound_101 (by decide) ?_
  have hP9 := hP.sub (ws' := []) [] rfl
  have hD9 := hD.sub (ws' := []) [] (by decide) rfl
  refine W.widen (k := 0) (n := 0) (Nat.le_of_ble_eq_true rfl) (Nat.le_of_ble_eq_true rfl) ?_
  rw [hQe]
  exact W.zret (v := 1) hx hb hr rfl (fun t ht hW => ⟨⟨1, (), rfl, rfl, ⟨by rw [ht]; exact hP9, hD9⟩⟩, hS.F ht⟩) hS.2.2 dX9_isSound_102
set_option maxHeartbeats 4000000 in
set_option maxRecDepth 100000 in
/-- no rain: it throws -/
theorem f_meanRain (l : Launch) (hlt : l.stackTraces = false) (D : va_G) (cy : Nat → ClassId) (h0 : Nat) (vC : Nat) (vP : Nat) (vT : Nat) (vS : Nat) (vF : Nat) (vN : Nat) (vY : Nat) (l1 : Nat) (l2 : Nat) (sz : Nat)  : vx_Met l yX9_meanRain (wz yX9_meanRain cX9_meanRain 4 (some .double)) ({ frames := 6, cells := 1, slots := 6, locals := 82 } : Room) (va_Pc [.ref h0] (zPre vwCl D cy [(h0, .inr (12, [.ref vC, .ref vP, .ref vT, .ref vS, .ref vF, .ref vN, .ref vY, .int 0])), (vF, .inr (4, [.ref l1, .ref l2])), (l1, .inl (cy 0, 200, .inl (fun _ => 0))), (l2, .inl (cy 0, 401, .inl (fun _ => 0)))] sz)) zNo (zXC zE4 (va_A [(h0, .inr (12, [.ref vC, .ref vP, .ref vT, .ref vS, .ref vF, .ref vN, .ref vY, .int 0])), (vF, .inr (4, [.ref l1, .ref l2])), (l1, .inl (cy 0, 200, .inl (fun _ => 0))), (l2, .inl (cy 0, 401, .inl (fun _ => 0)))] sz)) 1 6 (va_A [(h0, .inr (12, [.ref vC, .ref vP, .ref vT, .ref vS, .ref vF, .ref vN, .ref vY, .int 0])), (vF, .inr (4, [.ref l1, .ref l2])), (l1, .inl (cy 0, 200, .inl (fun _ => 0))), (l2, .inl (cy 0, 401, .inl (fun _ => 0)))] sz) := by
  refine vx_ofW (cc := cX9_meanRain) (maxL := 4) (ret := (some .double)) (by decide) rfl ?_
  intro p e s m args below meth c s₁ B hml hout hv
  obtain ⟨rfl, hsz, hP, hK, hD0, hX, hY⟩ := hv
  have hx := B.exec
  have hb := B.bytes
  have hr := B.returns
  have hts0 := atoms_spec (ws := wz yX9_meanRain cX9_meanRain 4 (some .double)) B.pre
  have hts : ∀ w ∈ wAll, w.before _ s = true := fun w h => hts0 w (List.mem_cons_of_mem _ h)
  have hown : s.vm.findClass RX9 = some m.cls := findClass_of_methodNamed B.named
  have hlocks := B.notSynchronized
  subst hsz
  have hD := hD0.self (sz := s.heap.size)
  generalize hAe : va_A [(h0, .inr (12, [.ref vC, .ref vP, .ref vT, .ref vS, .ref vF, .ref vN, .ref vY, .int 0])), (vF, .inr (4, [.ref l1, .ref l2])), (l1, .inl (cy 0, 200, .inl (fun _ => 0))), (l2, .inl (cy 0, 401, .inl (fun _ => 0)))] s.heap.size = A at hD hY ⊢
  have hA : ∀ q : Nat, s.heap.size ≤ q → A q := fun q h => by rw [← hAe]; exact Or.inr h
  have hS : va_S A s.heap s.heap [] := va_S.rf
  have hP : va_P D vwCl [(h0, .inr (12, [.ref vC, .ref vP, .ref vT, .ref vS, .ref vF, .ref vN, .ref vY, .int 0])), (vF, .inr (4, [.ref l1, .ref l2])), (l1, .inl (cy 0, 200, .inl (fun _ => 0))), (l2, .inl (cy 0, 401, .inl (fun _ => 0)))] s.heap := hP
  have hl := lv_entry ([.ref h0]) (n := 4) (Nat.le_of_ble_eq_true rfl)
  rw [lg_entry_eq]
  generalize (lg_sl ([.ref h0]) ++ List.replicate (4 - (lg_sl ([.ref h0])).length) Slot.unset).toArray = ls at hl ⊢
  have hl : lv_has ls 4 [(0, .ref h0)] := hl
  refine z_anyQ (fun Q hQe => ?_)
  refine lv_iconst (v := 0) hx hb dX9_meanRain_0 (by decide) ?_
  refine lv_istore_n (lv' := [(1, .int 0), (0, .ref h0)]) hx hb dX9_meanRain_1 rfl hl (by decide) rfl (fun ls hl => ?_)
  refine lv_iconst (v := 0) hx hb dX9_meanRain_2 (by decide) ?_
  refine lv_istore_n (lv' := [(2, .int 0), (1, .int 0), (0, .ref h0)]) hx hb dX9_meanRain_3 rfl hl (by decide) rfl (fun ls hl => ?_)
  refine lv_iconst (v := 0) hx hb dX9_meanRain_4 (by decide) ?_
  refine lv_istore_n (lv' := [(3, .int 0), (2, .int 0), (1, .int 0), (0, .ref h0)]) hx hb dX9_meanRain_5 rfl hl (by decide) rfl (fun ls hl => ?_)
  have lp6_1 : ∀ (n i : Nat), i ≤ 200 → 200 + 1 ≤ i + n → ∀ (H : Heap) (locs : List Loc), va_P D vwCl [(h0, .inr (12, [.ref vC, .ref vP, .ref vT, .ref vS, .ref vF, .ref vN, .ref vY, .int 0])), (vF, .inr (4, [.ref l1, .ref l2])), (l1, .inl (cy 0, 200, .inl (fun _ => 0))), (l2, .inl (cy 0, 401, .inl (fun _ => 0)))] H → va_D A [(h0, .inr (12, [.ref vC, .ref vP, .ref vT, .ref vS, .ref vF, .ref vN, .ref vY, .int 0])), (vF, .inr (4, [.ref l1, .ref l2])), (l1, .inl (cy 0, 200, .inl (fun _ => 0))), (l2, .inl (cy 0, 401, .inl (fun _ => 0)))] → va_S A s.heap H locs → ∀ ls, lv_has ls 4 [(0, .ref h0), (1, .int 0), (2, .int 0), (3, .int (nI i))] → W p l e (headSpec (wz yX9_meanRain cX9_meanRain 4 (some .double)) ({ frames := 6, cells := 1, slots := 6, locals := 82 } : Room)).room s m ([.ref h0] : List Value).toArray below meth c H locs 0 0 Q (F0 m 6 ls []) := by
    intro n
    induction n with
    | zero => intro i h1 h2; exact absurd h2 (by omega)
    | succ n ih6 =>
      intro i hii hni H locs hP hD hS ls hl
      refine lv_iload_n hx hb dX9_meanRain_6 rfl (lv_at hl 3 rfl) ?_
      refine lv_sipush (v := 199) hx hb dX9_meanRain_7 (by decide) ?_
      refine lv_icmp_gt (tgt := 51) hx hb dX9_meanRain_10 (by decide) (fun c_10_1 => ?_) (fun c_10_1 => ?_)
      · skip
        have hE : i = 200 := z_gt (M := 199) (by decide) hii (by decide) c_10_1
        subst hE
        have hl : lv_has ls 4 [(0, .ref h0), (1, .int 0), (2, .int 0), (3, .int 200)] := hl
        refine lv_iload_n hx hb dX9_meanRain_51 rfl (lv_at hl 2 rfl) ?_
        refine lv_if_ne (tgt := 66) hx hb dX9_meanRain_52 (by decide) (fun c_52_2 => absurd (by decide +kernel) c_52_2) (fun _ => ?_)
        obtain ⟨sa, hstr⟩ := hX.2.1.2.2.2.2.2.2.2
        rw [hQe]
        exact vx_throwSW (names := zN) (A := A) hx hb hlt hown (by decide +kernel) (by decide +kernel) (hts _ q224) (hts _ q225) hstr (at_329 hts hX) at_329_g hY.1 hY.2.1 hS (by rw [hml]; exact hl.1) dX9_meanRain_55 dX9_meanRain_58 dX9_meanRain_59 dX9_meanRain_62 dX9_meanRain_65 (fun x h => (hout x h).elim) (Nat.le_of_ble_eq_true rfl) (Nat.le_of_ble_eq_true rfl) (Nat.le_of_ble_eq_true rfl) (Nat.le_of_ble_eq_true rfl) hlocks (fun t hal hz hk => ⟨(), trivial, rfl, z_F hS hz hk⟩) hS.2.2 (Nat.le_of_ble_eq_true rfl) (Nat.le_of_ble_eq_true rfl)
      · skip
        have hlti : i < 200 := Nat.lt_succ_of_le (z_le (M := 199) (by decide) hii (by decide) c_10_1)
        refine lv_iload_n hx hb dX9_meanRain_13 rfl (lv_at hl 1 rfl) ?_
        refine lv_aload_n hx hb dX9_meanRain_14 rfl (lv_at hl 0 rfl) ?_
        refine va_get (D := D) (ci := 12) (v := .ref vF) (C := RX9) (T := TX9) (N := 8) hx hb hts iRX9 hown hK hP 0 rfl rfl 4 (by decide) (hts _ q148) (fun _ h9 => h9) rfl dX9_meanRain_15 ?_
        refine va_get (D := D) (ci := 4) (v := .ref l1) (C := RX1) (T := TX1) (N := 2) hx hb hts iRX1 hown hK hP 1 rfl rfl 0 (by decide) (hts _ q230) (fun _ h9 => h9) rfl dX9_meanRain_18 ?_
        refine lv_iload_n hx hb dX9_meanRain_21 rfl (lv_at hl 3 rfl) ?_
        refine va_iald hx hb hK hP 2 0 rfl rfl (vp_in_nI (by omega) (by decide)) dX9_meanRain_22 ?_
        refine lv_topi (fun y4 ey4 => ?_)
        obtain rfl : y4 = 0 := ey4.trans rfl
        refine lv_iadd hx hb dX9_meanRain_23 ?_
        refine lv_topi (fun y5 ey5 => ?_)
        obtain rfl : y5 = 0 := ey5.trans (by decide +kernel)
        refine lv_istore_n (lv' := [(1, .int 0), (0, .ref h0), (2, .int 0), (3, .int (nI i))]) hx hb dX9_meanRain_24 rfl hl (by decide) rfl (fun ls hl => ?_)
        refine lv_iload_n hx hb dX9_meanRain_25 rfl (lv_at hl 2 rfl) ?_
        refine lv_aload_n hx hb dX9_meanRain_26 rfl (lv_at hl 1 rfl) ?_
        refine va_get (D := D) (ci := 12) (v := .ref vF) (C := RX9) (T := TX9) (N := 8) hx hb hts iRX9 hown hK hP 0 rfl rfl 4 (by decide) (hts _ q148) (fun _ h9 => h9) rfl dX9_meanRain_27 ?_
        refine va_get (D := D) (ci := 4) (v := .ref l1) (C := RX1) (T := TX1) (N := 2) hx hb hts iRX1 hown hK hP 1 rfl rfl 0 (by decide) (hts _ q230) (fun _ h9 => h9) rfl dX9_meanRain_30 ?_
        refine lv_iload_n hx hb dX9_meanRain_33 rfl (lv_at hl 3 rfl) ?_
        refine va_iald hx hb hK hP 2 0 rfl rfl (vp_in_nI (by omega) (by decide)) dX9_meanRain_34 ?_
        refine lv_topi (fun y6 ey6 => ?_)
        obtain rfl : y6 = 0 := ey6.trans rfl
        refine lv_if_le (tgt := 42) hx hb dX9_meanRain_35 (by decide) (fun _ => ?_) (fun c_35_6 => absurd (by decide +kernel) c_35_6)
        refine lv_iconst (v := 0) hx hb dX9_meanRain_42 (by decide) ?_
        refine lv_iadd hx hb dX9_meanRain_43 ?_
        refine lv_topi (fun y8 ey8 => ?_)
        obtain rfl : y8 = 0 := ey8.trans (by decide +kernel)
        refine lv_istore_n (lv' := [(2, .int 0), (1, .int 0), (0, .ref h0), (3, .int (nI i))]) hx hb dX9_meanRain_44 rfl hl (by decide) rfl (fun ls hl => ?_)
        refine lv_iinc (v := (nI (i + 1))) (lv' := [(3, .int (nI (i + 1))), (2, .int 0), (1, .int 0), (0, .ref h0)]) hx hb dX9_meanRain_45 hl (k := 3) rfl (z_n1 i) (by decide) rfl (fun ls hl => ?_)
        refine lv_goto (tgt := 6) hx hb dX9_meanRain_48 (by decide) ?_
        exact ih6 (i + 1) (by omega) (by omega) _ _ (hP.sub [0, 1, 2, 3] rfl) (hD.sub [0, 1, 2, 3] (by decide) rfl) hS ls (lv_sub hl [3, 2, 1, 0] rfl)
  exact lp6_1 (200 + 1) 0 (by decide) (by decide) _ _ hP hD hS ls (lv_sub hl [3, 2, 1, 0] rfl)
set_option maxHeartbeats 4000000 in
set_option maxRecDepth 100000 in
/-- rain of an hour -/
theorem f_rain_ok (l : Launch) (D : va_G) (cy : Nat → ClassId) (h0 : Nat) (vC : Nat) (vP : Nat) (vT : Nat) (vS : Nat) (vF : Nat) (vN : Nat) (vY : Nat) (l1 : Nat) (l2 : Nat) (k : Nat) (r : Int32) (sz : Nat) (hk : k < 200) (h1 : ¬ r < 0) (h2 : r ≤ 99) : Met l yX9_rain (wz yX9_rain cX9_rain 4 (some .int)) ({ frames := 2, cells := 0, slots := 0, locals := 40 } : Room) (va_Pc [.ref h0, .int (nI k), .int r] (zPre vwCl D cy [(h0, .inr (12, [.ref vC, .ref vP, .ref vT, .ref vS, .ref vF, .ref vN, .ref vY, .int 0])), (vF, .inr (4, [.ref l1, .ref l2])), (l1, .inl (cy 0, 200, .inl (fun _ => 0))), (l2, .inl (cy 0, 401, .inl (fun _ => 0)))] sz)) (va_Qi (fun (r : Int32) (_ : Unit) => r = 0) (fun (u : Unit) t => zPost vwCl D (va_A [(h0, .inr (12, [.ref vC, .ref vP, .ref vT, .ref vS, .ref vF, .ref vN, .ref vY, .int 0])), (vF, .inr (4, [.ref l1, .ref l2])), (l1, .inl (cy 0, 200, .inl (fun _ => 0))), (l2, .inl (cy 0, 401, .inl (fun _ => 0)))] sz) [] t) (va_A [(h0, .inr (12, [.ref vC, .ref vP, .ref vT, .ref vS, .ref vF, .ref vN, .ref vY, .int 0])), (vF, .inr (4, [.ref l1, .ref l2])), (l1, .inl (cy 0, 200, .inl (fun _ => 0))), (l2, .inl (cy 0, 401, .inl (fun _ => 0)))] sz)) 0 0 (va_A [(h0, .inr (12, [.ref vC, .ref vP, .ref vT, .ref vS, .ref vF, .ref vN, .ref vY, .int 0])), (vF, .inr (4, [.ref l1, .ref l2])), (l1, .inl (cy 0, 200, .inl (fun _ => 0))), (l2, .inl (cy 0, 401, .inl (fun _ => 0)))] sz) := by
  refine Met.ofW (cc := cX9_rain) (maxL := 4) (ret := (some .int)) (by decide) rfl ?_
  intro p e s m args below meth c s₁ B hml hv
  obtain ⟨rfl, hsz, hP, hK, hD0, hX, hY⟩ := hv
  have hx := B.exec
  have hb := B.bytes
  have hr := B.returns
  have hts0 := atoms_spec (ws := wz yX9_rain cX9_rain 4 (some .int)) B.pre
  have hts : ∀ w ∈ wAll, w.before _ s = true := fun w h => hts0 w (List.mem_cons_of_mem _ h)
  have hown : s.vm.findClass RX9 = some m.cls := findClass_of_methodNamed B.named
  have hlocks := B.notSynchronized
  subst hsz
  have hD := hD0.self (sz := s.heap.size)
  generalize hAe : va_A [(h0, .inr (12, [.ref vC, .ref vP, .ref vT, .ref vS, .ref vF, .ref vN, .ref vY, .int 0])), (vF, .inr (4, [.ref l1, .ref l2])), (l1, .inl (cy 0, 200, .inl (fun _ => 0))), (l2, .inl (cy 0, 401, .inl (fun _ => 0)))] s.heap.size = A at hD hY ⊢
  have hA : ∀ q : Nat, s.heap.size ≤ q → A q := fun q h => by rw [← hAe]; exact Or.inr h
  have hS : va_S A s.heap s.heap [] := va_S.rf
  have hP : va_P D vwCl [(h0, .inr (12, [.ref vC, .ref vP, .ref vT, .ref vS, .ref vF, .ref vN, .ref vY, .int 0])), (vF, .inr (4, [.ref l1, .ref l2])), (l1, .inl (cy 0, 200, .inl (fun _ => 0))), (l2, .inl (cy 0, 401, .inl (fun _ => 0)))] s.heap := hP
  have hl := lv_entry ([.ref h0, .int (nI k), .int r]) (n := 4) (Nat.le_of_ble_eq_true rfl)
  rw [lg_entry_eq]
  generalize (lg_sl ([.ref h0, .int (nI k), .int r]) ++ List.replicate (4 - (lg_sl ([.ref h0, .int (nI k), .int r])).length) Slot.unset).toArray = ls at hl ⊢
  have hl : lv_has ls 4 [(0, .ref h0), (1, .int (nI k)), (2, .int r)] := hl
  refine z_anyQ (fun Q hQe => ?_)
  refine lv_iload_n hx hb dX9_rain_0 rfl (lv_at hl 1 rfl) ?_
  refine lv_iconst (v := 0) hx hb dX9_rain_1 (by decide) ?_
  refine lv_sipush (v := 199) hx hb dX9_rain_2 (by decide) ?_
  refine zq_v (wc := []) (wr := [(h0, .inr (12, [.ref vC, .ref vP, .ref vT, .ref vS, .ref vF, .ref vN, .ref vY, .int 0])), (vF, .inr (4, [.ref l1, .ref l2])), (l1, .inl (cy 0, 200, .inl (fun _ => 0))), (l2, .inl (cy 0, 401, .inl (fun _ => 0)))]) (va_runS (As := [.int (nI k), .int 0, .int 199]) (rest := []) ⟨hx, hb, hml, hown, hts⟩ (k_needRange_ok l D cy (nI k) 0 199 s.heap.size (nI_pos (by omega)) (nI_le (b := 199) (by omega) (by decide))) (va_cwS 3 hts (gzS (gz q232) q231 q233 q174) rfl rfl rfl vX9_needRange.2 ⟨Nat.le_of_ble_eq_true rfl, Nat.le_of_ble_eq_true rfl⟩) (zpS hK hX hY hP hD hS hA [] (by decide) rfl) rfl rfl hl.1 rfl (lv_room (Nat.le_of_ble_eq_true rfl)) dX9_rain_5 ⟨Nat.le_of_ble_eq_true rfl, Nat.le_of_ble_eq_true rfl⟩) hP hD hS hA [] [0, 1, 2, 3] rfl rfl (by decide) (by decide) (fun u1 H locs hw hP hD hS => ?_)
  have hP : va_P D vwCl [(h0, .inr (12, [.ref vC, .ref vP, .ref vT, .ref vS, .ref vF, .ref vN, .ref vY, .int 0])), (vF, .inr (4, [.ref l1, .ref l2])), (l1, .inl (cy 0, 200, .inl (fun _ => 0))), (l2, .inl (cy 0, 401, .inl (fun _ => 0)))] H := hP
  have hD : va_D A [(h0, .inr (12, [.ref vC, .ref vP, .ref vT, .ref vS, .ref vF, .ref vN, .ref vY, .int 0])), (vF, .inr (4, [.ref l1, .ref l2])), (l1, .inl (cy 0, 200, .inl (fun _ => 0))), (l2, .inl (cy 0, 401, .inl (fun _ => 0)))] := hD
  refine lv_iload_n hx hb dX9_rain_8 rfl (lv_at hl 2 rfl) ?_
  refine lv_iconst (v := 0) hx hb dX9_rain_9 (by decide) ?_
  refine lv_bipush (v := 99) hx hb dX9_rain_10 (by decide) ?_
  refine zq_v (wc := []) (wr := [(h0, .inr (12, [.ref vC, .ref vP, .ref vT, .ref vS, .ref vF, .ref vN, .ref vY, .int 0])), (vF, .inr (4, [.ref l1, .ref l2])), (l1, .inl (cy 0, 200, .inl (fun _ => 0))), (l2, .inl (cy 0, 401, .inl (fun _ => 0)))]) (va_runS (As := [.int r, .int 0, .int 99]) (rest := []) ⟨hx, hb, hml, hown, hts⟩ (k_needRange_ok l D cy r 0 99 H.size h1 h2) (va_cwS 3 hts (gzS (gz q232) q231 q233 q174) rfl rfl rfl vX9_needRange.2 ⟨Nat.le_of_ble_eq_true rfl, Nat.le_of_ble_eq_true rfl⟩) (zpS hK hX hY hP hD hS hA [] (by decide) rfl) rfl rfl hl.1 rfl (lv_room (Nat.le_of_ble_eq_true rfl)) dX9_rain_12 ⟨Nat.le_of_ble_eq_true rfl, Nat.le_of_ble_eq_true rfl⟩) hP hD hS hA [] [0, 1, 2, 3] rfl rfl (by decide) (by decide) (fun u3 H locs hw hP hD hS => ?_)
  have hP : va_P D vwCl [(h0, .inr (12, [.ref vC, .ref vP, .ref vT, .ref vS, .ref vF, .ref vN, .ref vY, .int 0])), (vF, .inr (4, [.ref l1, .ref l2])), (l1, .inl (cy 0, 200, .inl (fun _ => 0))), (l2, .inl (cy 0, 401, .inl (fun _ => 0)))] H := hP
  have hD : va_D A [(h0, .inr (12, [.ref vC, .ref vP, .ref vT, .ref vS, .ref vF, .ref vN, .ref vY, .int 0])), (vF, .inr (4, [.ref l1, .ref l2])), (l1, .inl (cy 0, 200, .inl (fun _ => 0))), (l2, .inl (cy 0, 401, .inl (fun _ => 0)))] := hD
  refine lv_aload_n hx hb dX9_rain_15 rfl (lv_at hl 0 rfl) ?_
  refine va_get (D := D) (ci := 12) (v := .ref vF) (C := RX9) (T := TX9) (N := 8) hx hb hts iRX9 hown hK hP 0 rfl rfl 4 (by decide) (hts _ q148) (fun _ h9 => h9) rfl dX9_rain_16 ?_
  refine va_get (D := D) (ci := 4) (v := .ref l1) (C := RX1) (T := TX1) (N := 2) hx hb hts iRX1 hown hK hP 1 rfl rfl 0 (by decide) (hts _ q230) (fun _ h9 => h9) rfl dX9_rain_19 ?_
  refine lv_iload_n hx hb dX9_rain_22 rfl (lv_at hl 1 rfl) ?_
  refine va_iald hx hb hK hP 2 0 rfl rfl (vp_in_nI (by omega) (by decide)) dX9_rain_23 ?_
  refine lv_topi (fun y5 ey5 => ?_)
  obtain rfl : y5 = 0 := ey5.trans rfl
  refine lv_istore_n (lv' := [(3, .int 0), (0, .ref h0), (1, .int (nI k)), (2, .int r)]) hx hb dX9_rain_24 rfl hl (by decide) rfl (fun ls hl => ?_)
  refine lv_aload_n hx hb dX9_rain_25 rfl (lv_at hl 1 rfl) ?_
  refine va_get (D := D) (ci := 12) (v := .ref vF) (C := RX9) (T := TX9) (N := 8) hx hb hts iRX9 hown hK hP 0 rfl rfl 4 (by decide) (hts _ q148) (fun _ h9 => h9) rfl dX9_rain_26 ?_
  refine va_get (D := D) (ci := 4) (v := .ref l1) (C := RX1) (T := TX1) (N := 2) hx hb hts iRX1 hown hK hP 1 rfl rfl 0 (by decide) (hts _ q230) (fun _ h9 => h9) rfl dX9_rain_29 ?_
  refine lv_iload_n hx hb dX9_rain_32 rfl (lv_at hl 2 rfl) ?_
  refine lv_iload_n hx hb dX9_rain_33 rfl (lv_at hl 3 rfl) ?_
  refine va_iast hx hb hK hP hD hS 2 0 rfl rfl (vp_in_nI (by omega) (by decide)) dX9_rain_34 (fun H locs hP hD hS => ?_)
  have hP : va_P D vwCl [(h0, .inr (12, [.ref vC, .ref vP, .ref vT, .ref vS, .ref vF, .ref vN, .ref vY, .int 0])), (vF, .inr (4, [.ref l1, .ref l2])), (l1, .inl (cy 0, 200, .inl (upd (fun _ => 0) (nI k).toNatClampNeg r))), (l2, .inl (cy 0, 401, .inl (fun _ => 0)))] H := hP
  have hD : va_D A [(h0, .inr (12, [.ref vC, .ref vP, .ref vT, .ref vS, .ref vF, .ref vN, .ref vY, .int 0])), (vF, .inr (4, [.ref l1, .ref l2])), (l1, .inl (cy 0, 200, .inl (upd (fun _ => 0) (nI k).toNatClampNeg r))), (l2, .inl (cy 0, 401, .inl (fun _ => 0)))] := hD
  refine lv_aload_n hx hb dX9_rain_35 rfl (lv_at hl 1 rfl) ?_
  refine va_get (D := D) (ci := 12) (v := .ref vF) (C := RX9) (T := TX9) (N := 8) hx hb hts iRX9 hown hK hP 0 rfl rfl 4 (by decide) (hts _ q148) (fun _ h9 => h9) rfl dX9_rain_36 ?_
  refine lv_iload_n hx hb dX9_rain_39 rfl (lv_at hl 2 rfl) ?_
  refine zq_v (wc := [(vF, .inr (4, [.ref l1, .ref l2])), (l1, .inl (cy 0, 200, .inl (upd (fun _ => 0) (nI k).toNatClampNeg r))), (l2, .inl (cy 0, 401, .inl (fun _ => 0)))]) (wr := [(h0, .inr (12, [.ref vC, .ref vP, .ref vT, .ref vS, .ref vF, .ref vN, .ref vY, .int 0]))]) (va_runV (As := [.int (nI k)]) (rest := []) ⟨hx, hb, hml, hown, hts⟩ (k_standFrom l D cy vF l1 l2 (upd (fun _ => 0) (nI k).toNatClampNeg r) (fun _ => 0) k H.size hk) (cwV 1 hts (gzV (gz q235) q234 q236 q237 q144) rfl rfl rfl vX1_standFrom ⟨Nat.le_of_ble_eq_true rfl, Nat.le_of_ble_eq_true rfl⟩) (zpV (ci := 4) (T := TX1) (N := 2) (q0 := 0) hK hX hY hP hD hS hA [1, 2, 3] (by decide) rfl rfl rfl) rfl rfl hl.1 rfl (lv_room (Nat.le_of_ble_eq_true rfl)) dX9_rain_40 ⟨Nat.le_of_ble_eq_true rfl, Nat.le_of_ble_eq_true rfl⟩) hP hD hS hA [1, 2, 3] [0] rfl rfl (by decide) (by decide) (fun u6 H locs hw hP hD hS => ?_)
  have hP : va_P D vwCl [(h0, .inr (12, [.ref vC, .ref vP, .ref vT, .ref vS, .ref vF, .ref vN, .ref vY, .int 0]))] H := hP
  have hD : va_D A [(h0, .inr (12, [.ref vC, .ref vP, .ref vT, .ref vS, .ref vF, .ref vN, .ref vY, .int 0]))] := hD
  refine lv_iload_n hx hb dX9_rain_43 rfl (lv_at hl 0 rfl) ?_
  have hP9 := hP.sub (ws' := []) [] rfl
  have hD9 := hD.sub (ws' := []) [] (by decide) rfl
  refine W.widen (k := 0) (n := 0) (Nat.le_of_ble_eq_true rfl) (Nat.le_of_ble_eq_true rfl) ?_
  rw [hQe]
  exact W.iret (v := 0) hx hb hr (fun t ht hW => ⟨⟨0, (), rfl, rfl, ⟨by rw [ht]; exact hP9, hD9⟩⟩, hS.F ht⟩) hS.2.2 dX9_rain_44
set_option maxHeartbeats 4000000 in
set_option maxRecDepth 100000 in
theorem f_rain_no1 (l : Launch) (hlt : l.stackTraces = false) (D : va_G) (cy : Nat → ClassId) (h0 : Nat) (vC : Nat) (vP : Nat) (vT : Nat) (vS : Nat) (vF : Nat) (vN : Nat) (vY : Nat) (a1 : Int32) (a2 : Int32) (sz : Nat) (hq0 : a1 < 0 ∨ ¬ a1 ≤ 199) : vx_Met l yX9_rain (wz yX9_rain cX9_rain 4 (some .int)) ({ frames := 7, cells := 1, slots := 6, locals := 104 } : Room) (va_Pc [.ref h0, .int a1, .int a2] (zPre vwCl D cy [(h0, .inr (12, [.ref vC, .ref vP, .ref vT, .ref vS, .ref vF, .ref vN, .ref vY, .int 0]))] sz)) zNo (zXC zE2 (va_A [(h0, .inr (12, [.ref vC, .ref vP, .ref vT, .ref vS, .ref vF, .ref vN, .ref vY, .int 0]))] sz)) 1 6 (va_A [(h0, .inr (12, [.ref vC, .ref vP, .ref vT, .ref vS, .ref vF, .ref vN, .ref vY, .int 0]))] sz) := by
  refine vx_ofW (cc := cX9_rain) (maxL := 4) (ret := (some .int)) (by decide) rfl ?_
  intro p e s m args below meth c s₁ B hml hout hv
  obtain ⟨rfl, hsz, hP, hK, hD0, hX, hY⟩ := hv
  have hx := B.exec
  have hb := B.bytes
  have hr := B.returns
  have hts0 := atoms_spec (ws := wz yX9_rain cX9_rain 4 (some .int)) B.pre
  have hts : ∀ w ∈ wAll, w.before _ s = true := fun w h => hts0 w (List.mem_cons_of_mem _ h)
  have hown : s.vm.findClass RX9 = some m.cls := findClass_of_methodNamed B.named
  have hlocks := B.notSynchronized
  subst hsz
  have hD := hD0.self (sz := s.heap.size)
  generalize hAe : va_A [(h0, .inr (12, [.ref vC, .ref vP, .ref vT, .ref vS, .ref vF, .ref vN, .ref vY, .int 0]))] s.heap.size = A at hD hY ⊢
  have hA : ∀ q : Nat, s.heap.size ≤ q → A q := fun q h => by rw [← hAe]; exact Or.inr h
  have hS : va_S A s.heap s.heap [] := va_S.rf
  have hP : va_P D vwCl [(h0, .inr (12, [.ref vC, .ref vP, .ref vT, .ref vS, .ref vF, .ref vN, .ref vY, .int 0]))] s.heap := hP
  have hl := lv_entry ([.ref h0, .int a1, .int a2]) (n := 4) (Nat.le_of_ble_eq_true rfl)
  rw [lg_entry_eq]
  generalize (lg_sl ([.ref h0, .int a1, .int a2]) ++ List.replicate (4 - (lg_sl ([.ref h0, .int a1, .int a2])).length) Slot.unset).toArray = ls at hl ⊢
  have hl : lv_has ls 4 [(0, .ref h0), (1, .int a1), (2, .int a2)] := hl
  refine z_anyQ (fun Q hQe => ?_)
  refine lv_iload_n hx hb dX9_rain_0 rfl (lv_at hl 1 rfl) ?_
  refine lv_iconst (v := 0) hx hb dX9_rain_1 (by decide) ?_
  refine lv_sipush (v := 199) hx hb dX9_rain_2 (by decide) ?_
  rw [hQe]
  exact zx_thru (wc := []) (vx_runS (As := [.int a1, .int 0, .int 199]) (rest := []) ⟨hx, hb, hml, hown, hts⟩ (k_needRange_no l hlt D cy a1 0 199 s.heap.size hq0) (va_cwS 3 hts (gzS (gz q232) q231 q233 q174) rfl rfl rfl vX9_needRange.2 ⟨Nat.le_of_ble_eq_true rfl, Nat.le_of_ble_eq_true rfl⟩) (zpS hK hX hY hP hD hS hA [] (by decide) rfl) rfl rfl hl.1 rfl (lv_room (Nat.le_of_ble_eq_true rfl)) dX9_rain_5 ⟨Nat.le_of_ble_eq_true rfl, Nat.le_of_ble_eq_true rfl⟩) hD hS hA [] rfl hlocks hout (Nat.le_of_ble_eq_true rfl) (Nat.le_of_ble_eq_true rfl)
set_option maxHeartbeats 4000000 in
set_option maxRecDepth 100000 in
theorem f_rain_no2 (l : Launch) (hlt : l.stackTraces = false) (D : va_G) (cy : Nat → ClassId) (h0 : Nat) (vC : Nat) (vP : Nat) (vT : Nat) (vS : Nat) (vF : Nat) (vN : Nat) (vY : Nat) (a1 : Int32) (a2 : Int32) (sz : Nat) (h1 : ¬ a1 < 0) (h2 : a1 ≤ 199) (hq0 : a2 < 0 ∨ ¬ a2 ≤ 99) : vx_Met l yX9_rain (wz yX9_rain cX9_rain 4 (some .int)) ({ frames := 7, cells := 1, slots := 6, locals := 104 } : Room) (va_Pc [.ref h0, .int a1, .int a2] (zPre vwCl D cy [(h0, .inr (12, [.ref vC, .ref vP, .ref vT, .ref vS, .ref vF, .ref vN, .ref vY, .int 0]))] sz)) zNo (zXC zE2 (va_A [(h0, .inr (12, [.ref vC, .ref vP, .ref vT, .ref vS, .ref vF, .ref vN, .ref vY, .int 0]))] sz)) 1 6 (va_A [(h0, .inr (12, [.ref vC, .ref vP, .ref vT, .ref vS, .ref vF, .ref vN, .ref vY, .int 0]))] sz) := by
  refine vx_ofW (cc := cX9_rain) (maxL := 4) (ret := (some .int)) (by decide) rfl ?_
  intro p e s m args below meth c s₁ B hml hout hv
  obtain ⟨rfl, hsz, hP, hK, hD0, hX, hY⟩ := hv
  have hx := B.exec
  have hb := B.bytes
  have hr := B.returns
  have hts0 := atoms_spec (ws := wz yX9_rain cX9_rain 4 (some .int)) B.pre
  have hts : ∀ w ∈ wAll, w.before _ s = true := fun w h => hts0 w (List.mem_cons_of_mem _ h)
  have hown : s.vm.findClass RX9 = some m.cls := findClass_of_methodNamed B.named
  have hlocks := B.notSynchronized
  subst hsz
  have hD := hD0.self (sz := s.heap.size)
  generalize hAe : va_A [(h0, .inr (12, [.ref vC, .ref vP, .ref vT, .ref vS, .ref vF, .ref vN, .ref vY, .int 0]))] s.heap.size = A at hD hY ⊢
  have hA : ∀ q : Nat, s.heap.size ≤ q → A q := fun q h => by rw [← hAe]; exact Or.inr h
  have hS : va_S A s.heap s.heap [] := va_S.rf
  have hP : va_P D vwCl [(h0, .inr (12, [.ref vC, .ref vP, .ref vT, .ref vS, .ref vF, .ref vN, .ref vY, .int 0]))] s.heap := hP
  have hl := lv_entry ([.ref h0, .int a1, .int a2]) (n := 4) (Nat.le_of_ble_eq_true rfl)
  rw [lg_entry_eq]
  generalize (lg_sl ([.ref h0, .int a1, .int a2]) ++ List.replicate (4 - (lg_sl ([.ref h0, .int a1, .int a2])).length) Slot.unset).toArray = ls at hl ⊢
  have hl : lv_has ls 4 [(0, .ref h0), (1, .int a1), (2, .int a2)] := hl
  refine z_anyQ (fun Q hQe => ?_)
  refine lv_iload_n hx hb dX9_rain_0 rfl (lv_at hl 1 rfl) ?_
  refine lv_iconst (v := 0) hx hb dX9_rain_1 (by decide) ?_
  refine lv_sipush (v := 199) hx hb dX9_rain_2 (by decide) ?_
  refine zq_v (wc := []) (wr := [(h0, .inr (12, [.ref vC, .ref vP, .ref vT, .ref vS, .ref vF, .ref vN, .ref vY, .int 0]))]) (va_runS (As := [.int a1, .int 0, .int 199]) (rest := []) ⟨hx, hb, hml, hown, hts⟩ (k_needRange_ok l D cy a1 0 199 s.heap.size h1 h2) (va_cwS 3 hts (gzS (gz q232) q231 q233 q174) rfl rfl rfl vX9_needRange.2 ⟨Nat.le_of_ble_eq_true rfl, Nat.le_of_ble_eq_true rfl⟩) (zpS hK hX hY hP hD hS hA [] (by decide) rfl) rfl rfl hl.1 rfl (lv_room (Nat.le_of_ble_eq_true rfl)) dX9_rain_5 ⟨Nat.le_of_ble_eq_true rfl, Nat.le_of_ble_eq_true rfl⟩) hP hD hS hA [] [0] rfl rfl (by decide) (by decide) (fun u1 H locs hw hP hD hS => ?_)
  have hP : va_P D vwCl [(h0, .inr (12, [.ref vC, .ref vP, .ref vT, .ref vS, .ref vF, .ref vN, .ref vY, .int 0]))] H := hP
  have hD : va_D A [(h0, .inr (12, [.ref vC, .ref vP, .ref vT, .ref vS, .ref vF, .ref vN, .ref vY, .int 0]))] := hD
  refine lv_iload_n hx hb dX9_rain_8 rfl (lv_at hl 2 rfl) ?_
  refine lv_iconst (v := 0) hx hb dX9_rain_9 (by decide) ?_
  refine lv_bipush (v := 99) hx hb dX9_rain_10 (by decide) ?_
  rw [hQe]
  exact zx_thru (wc := []) (vx_runS (As := [.int a2, .int 0, .int 99]) (rest := []) ⟨hx, hb, hml, hown, hts⟩ (k_needRange_no l hlt D cy a2 0 99 H.size hq0) (va_cwS 3 hts (gzS (gz q232) q231 q233 q174) rfl rfl rfl vX9_needRange.2 ⟨Nat.le_of_ble_eq_true rfl, Nat.le_of_ble_eq_true rfl⟩) (zpS hK hX hY hP hD hS hA [] (by decide) rfl) rfl rfl hl.1 rfl (lv_room (Nat.le_of_ble_eq_true rfl)) dX9_rain_12 ⟨Nat.le_of_ble_eq_true rfl, Nat.le_of_ble_eq_true rfl⟩) hD hS hA [] rfl hlocks hout (Nat.le_of_ble_eq_true rfl) (Nat.le_of_ble_eq_true rfl)
set_option maxHeartbeats 4000000 in
set_option maxRecDepth 100000 in
/-- no water -/
theorem f_water_ok (l : Launch) (D : va_G) (cy : Nat → ClassId) (h0 : Nat) (vC : Nat) (vP : Nat) (vT : Nat) (vS : Nat) (vF : Nat) (vN : Nat) (vY : Nat) (l1 : Nat) (l2 : Nat) (k : Nat) (sz : Nat) (hk : k < 401) : Met l yX9_water (wz yX9_water cX9_water 2 (some .int)) ({ frames := 1, cells := 0, slots := 0, locals := 22 } : Room) (va_Pc [.ref h0, .int (nI k)] (zPre vwCl D cy [(h0, .inr (12, [.ref vC, .ref vP, .ref vT, .ref vS, .ref vF, .ref vN, .ref vY, .int 0])), (vF, .inr (4, [.ref l1, .ref l2])), (l1, .inl (cy 0, 200, .inl (fun _ => 0))), (l2, .inl (cy 0, 401, .inl (fun _ => 0)))] sz)) (va_Qi (fun (r : Int32) (_ : Unit) => r = 0) (fun (u : Unit) t => zPost vwCl D (va_A [(h0, .inr (12, [.ref vC, .ref vP, .ref vT, .ref vS, .ref vF, .ref vN, .ref vY, .int 0])), (vF, .inr (4, [.ref l1, .ref l2])), (l1, .inl (cy 0, 200, .inl (fun _ => 0))), (l2, .inl (cy 0, 401, .inl (fun _ => 0)))] sz) [] t) (va_A [(h0, .inr (12, [.ref vC, .ref vP, .ref vT, .ref vS, .ref vF, .ref vN, .ref vY, .int 0])), (vF, .inr (4, [.ref l1, .ref l2])), (l1, .inl (cy 0, 200, .inl (fun _ => 0))), (l2, .inl (cy 0, 401, .inl (fun _ => 0)))] sz)) 0 0 (va_A [(h0, .inr (12, [.ref vC, .ref vP, .ref vT, .ref vS, .ref vF, .ref vN, .ref vY, .int 0])), (vF, .inr (4, [.ref l1, .ref l2])), (l1, .inl (cy 0, 200, .inl (fun _ => 0))), (l2, .inl (cy 0, 401, .inl (fun _ => 0)))] sz) := by
  refine Met.ofW (cc := cX9_water) (maxL := 2) (ret := (some .int)) (by decide) rfl ?_
  intro p e s m args below meth c s₁ B hml hv
  obtain ⟨rfl, hsz, hP, hK, hD0, hX, hY⟩ := hv
  have hx := B.exec
  have hb := B.bytes
  have hr := B.returns
  have hts0 := atoms_spec (ws := wz yX9_water cX9_water 2 (some .int)) B.pre
  have hts : ∀ w ∈ wAll, w.before _ s = true := fun w h => hts0 w (List.mem_cons_of_mem _ h)
  have hown : s.vm.findClass RX9 = some m.cls := findClass_of_methodNamed B.named
  have hlocks := B.notSynchronized
  subst hsz
  have hD := hD0.self (sz := s.heap.size)
  generalize hAe : va_A [(h0, .inr (12, [.ref vC, .ref vP, .ref vT, .ref vS, .ref vF, .ref vN, .ref vY, .int 0])), (vF, .inr (4, [.ref l1, .ref l2])), (l1, .inl (cy 0, 200, .inl (fun _ => 0))), (l2, .inl (cy 0, 401, .inl (fun _ => 0)))] s.heap.size = A at hD hY ⊢
  have hA : ∀ q : Nat, s.heap.size ≤ q → A q := fun q h => by rw [← hAe]; exact Or.inr h
  have hS : va_S A s.heap s.heap [] := va_S.rf
  have hP : va_P D vwCl [(h0, .inr (12, [.ref vC, .ref vP, .ref vT, .ref vS, .ref vF, .ref vN, .ref vY, .int 0])), (vF, .inr (4, [.ref l1, .ref l2])), (l1, .inl (cy 0, 200, .inl (fun _ => 0))), (l2, .inl (cy 0, 401, .inl (fun _ => 0)))] s.heap := hP
  have hl := lv_entry ([.ref h0, .int (nI k)]) (n := 2) (Nat.le_of_ble_eq_true rfl)
  rw [lg_entry_eq]
  generalize (lg_sl ([.ref h0, .int (nI k)]) ++ List.replicate (2 - (lg_sl ([.ref h0, .int (nI k)])).length) Slot.unset).toArray = ls at hl ⊢
  have hl : lv_has ls 2 [(0, .ref h0), (1, .int (nI k))] := hl
  refine z_anyQ (fun Q hQe => ?_)
  refine lv_iload_n hx hb dX9_water_0 rfl (lv_at hl 1 rfl) ?_
  refine lv_iconst (v := 0) hx hb dX9_water_1 (by decide) ?_
  refine lv_sipush (v := 400) hx hb dX9_water_2 (by decide) ?_
  refine zq_v (wc := []) (wr := [(h0, .inr (12, [.ref vC, .ref vP, .ref vT, .ref vS, .ref vF, .ref vN, .ref vY, .int 0])), (vF, .inr (4, [.ref l1, .ref l2])), (l1, .inl (cy 0, 200, .inl (fun _ => 0))), (l2, .inl (cy 0, 401, .inl (fun _ => 0)))]) (va_runS (As := [.int (nI k), .int 0, .int 400]) (rest := []) ⟨hx, hb, hml, hown, hts⟩ (k_needRange_ok l D cy (nI k) 0 400 s.heap.size (nI_pos (by omega)) (nI_le (b := 400) (by omega) (by decide))) (va_cwS 3 hts (gzS (gz q232) q231 q233 q174) rfl rfl rfl vX9_needRange.2 ⟨Nat.le_of_ble_eq_true rfl, Nat.le_of_ble_eq_true rfl⟩) (zpS hK hX hY hP hD hS hA [] (by decide) rfl) rfl rfl hl.1 rfl (lv_room (Nat.le_of_ble_eq_true rfl)) dX9_water_5 ⟨Nat.le_of_ble_eq_true rfl, Nat.le_of_ble_eq_true rfl⟩) hP hD hS hA [] [0, 1, 2, 3] rfl rfl (by decide) (by decide) (fun u1 H locs hw hP hD hS => ?_)
  have hP : va_P D vwCl [(h0, .inr (12, [.ref vC, .ref vP, .ref vT, .ref vS, .ref vF, .ref vN, .ref vY, .int 0])), (vF, .inr (4, [.ref l1, .ref l2])), (l1, .inl (cy 0, 200, .inl (fun _ => 0))), (l2, .inl (cy 0, 401, .inl (fun _ => 0)))] H := hP
  have hD : va_D A [(h0, .inr (12, [.ref vC, .ref vP, .ref vT, .ref vS, .ref vF, .ref vN, .ref vY, .int 0])), (vF, .inr (4, [.ref l1, .ref l2])), (l1, .inl (cy 0, 200, .inl (fun _ => 0))), (l2, .inl (cy 0, 401, .inl (fun _ => 0)))] := hD
  refine lv_aload_n hx hb dX9_water_8 rfl (lv_at hl 0 rfl) ?_
  refine va_get (D := D) (ci := 12) (v := .ref vF) (C := RX9) (T := TX9) (N := 8) hx hb hts iRX9 hown hK hP 0 rfl rfl 4 (by decide) (hts _ q148) (fun _ h9 => h9) rfl dX9_water_9 ?_
  refine va_get (D := D) (ci := 4) (v := .ref l2) (C := RX1) (T := TX1) (N := 2) hx hb hts iRX1 hown hK hP 1 rfl rfl 1 (by decide) (hts _ q238) (fun _ h9 => h9) rfl dX9_water_12 ?_
  refine lv_iload_n hx hb dX9_water_15 rfl (lv_at hl 1 rfl) ?_
  refine va_iald hx hb hK hP 3 0 rfl rfl (vp_in_nI (by omega) (by decide)) dX9_water_16 ?_
  refine lv_topi (fun y3 ey3 => ?_)
  obtain rfl : y3 = 0 := ey3.trans rfl
  have hP9 := hP.sub (ws' := []) [] rfl
  have hD9 := hD.sub (ws' := []) [] (by decide) rfl
  refine W.widen (k := 0) (n := 0) (Nat.le_of_ble_eq_true rfl) (Nat.le_of_ble_eq_true rfl) ?_
  rw [hQe]
  exact W.iret (v := 0) hx hb hr (fun t ht hW => ⟨⟨0, (), rfl, rfl, ⟨by rw [ht]; exact hP9, hD9⟩⟩, hS.F ht⟩) hS.2.2 dX9_water_17
set_option maxHeartbeats 4000000 in
set_option maxRecDepth 100000 in
theorem f_water_no (l : Launch) (hlt : l.stackTraces = false) (D : va_G) (cy : Nat → ClassId) (h0 : Nat) (vC : Nat) (vP : Nat) (vT : Nat) (vS : Nat) (vF : Nat) (vN : Nat) (vY : Nat) (a1 : Int32) (sz : Nat) (hq0 : a1 < 0 ∨ ¬ a1 ≤ 400) : vx_Met l yX9_water (wz yX9_water cX9_water 2 (some .int)) ({ frames := 7, cells := 1, slots := 6, locals := 104 } : Room) (va_Pc [.ref h0, .int a1] (zPre vwCl D cy [(h0, .inr (12, [.ref vC, .ref vP, .ref vT, .ref vS, .ref vF, .ref vN, .ref vY, .int 0]))] sz)) zNo (zXC zE2 (va_A [(h0, .inr (12, [.ref vC, .ref vP, .ref vT, .ref vS, .ref vF, .ref vN, .ref vY, .int 0]))] sz)) 1 6 (va_A [(h0, .inr (12, [.ref vC, .ref vP, .ref vT, .ref vS, .ref vF, .ref vN, .ref vY, .int 0]))] sz) := by
  refine vx_ofW (cc := cX9_water) (maxL := 2) (ret := (some .int)) (by decide) rfl ?_
  intro p e s m args below meth c s₁ B hml hout hv
  obtain ⟨rfl, hsz, hP, hK, hD0, hX, hY⟩ := hv
  have hx := B.exec
  have hb := B.bytes
  have hr := B.returns
  have hts0 := atoms_spec (ws := wz yX9_water cX9_water 2 (some .int)) B.pre
  have hts : ∀ w ∈ wAll, w.before _ s = true := fun w h => hts0 w (List.mem_cons_of_mem _ h)
  have hown : s.vm.findClass RX9 = some m.cls := findClass_of_methodNamed B.named
  have hlocks := B.notSynchronized
  subst hsz
  have hD := hD0.self (sz := s.heap.size)
  generalize hAe : va_A [(h0, .inr (12, [.ref vC, .ref vP, .ref vT, .ref vS, .ref vF, .ref vN, .ref vY, .int 0]))] s.heap.size = A at hD hY ⊢
  have hA : ∀ q : Nat, s.heap.size ≤ q → A q := fun q h => by rw [← hAe]; exact Or.inr h
  have hS : va_S A s.heap s.heap [] := va_S.rf
  have hP : va_P D vwCl [(h0, .inr (12, [.ref vC, .ref vP, .ref vT, .ref vS, .ref vF, .ref vN, .ref vY, .int 0]))] s.heap := hP
  have hl := lv_entry ([.ref h0, .int a1]) (n := 2) (Nat.le_of_ble_eq_true rfl)
  rw [lg_entry_eq]
  generalize (lg_sl ([.ref h0, .int a1]) ++ List.replicate (2 - (lg_sl ([.ref h0, .int a1])).length) Slot.unset).toArray = ls at hl ⊢
  have hl : lv_has ls 2 [(0, .ref h0), (1, .int a1)] := hl
  refine z_anyQ (fun Q hQe => ?_)
  refine lv_iload_n hx hb dX9_water_0 rfl (lv_at hl 1 rfl) ?_
  refine lv_iconst (v := 0) hx hb dX9_water_1 (by decide) ?_
  refine lv_sipush (v := 400) hx hb dX9_water_2 (by decide) ?_
  rw [hQe]
  exact zx_thru (wc := []) (vx_runS (As := [.int a1, .int 0, .int 400]) (rest := []) ⟨hx, hb, hml, hown, hts⟩ (k_needRange_no l hlt D cy a1 0 400 s.heap.size hq0) (va_cwS 3 hts (gzS (gz q232) q231 q233 q174) rfl rfl rfl vX9_needRange.2 ⟨Nat.le_of_ble_eq_true rfl, Nat.le_of_ble_eq_true rfl⟩) (zpS hK hX hY hP hD hS hA [] (by decide) rfl) rfl rfl hl.1 rfl (lv_room (Nat.le_of_ble_eq_true rfl)) dX9_water_5 ⟨Nat.le_of_ble_eq_true rfl, Nat.le_of_ble_eq_true rfl⟩) hD hS hA [] rfl hlocks hout (Nat.le_of_ble_eq_true rfl) (Nat.le_of_ble_eq_true rfl)
