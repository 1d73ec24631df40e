abbrev cL_law : ByteArray := code
def yL_law : MethodName := ⟨RL, "law", "([I)Z"⟩
theorem vL_allFaults : yL_allFaults.cls = RL ∧ yL_allFaults.cls ≠ "java/lang/invoke/MethodHandle" ∧ yL_allFaults.cls ≠ "java/lang/invoke/VarHandle" ∧ (parseMethodDescriptor yL_allFaults.desc).map (fun d => d.parameters.length) = some 3 := by decide +kernel
theorem vL_blunder : yL_blunder.cls = RL ∧ yL_blunder.cls ≠ "java/lang/invoke/MethodHandle" ∧ yL_blunder.cls ≠ "java/lang/invoke/VarHandle" ∧ (parseMethodDescriptor yL_blunder.desc).map (fun d => d.parameters.length) = some 3 := by decide +kernel
theorem vL_bottom : yL_bottom.cls = RL ∧ yL_bottom.cls ≠ "java/lang/invoke/MethodHandle" ∧ yL_bottom.cls ≠ "java/lang/invoke/VarHandle" ∧ (parseMethodDescriptor yL_bottom.desc).map (fun d => d.parameters.length) = some 5 := by decide +kernel
theorem vL_conduit : yL_conduit.cls = RL ∧ yL_conduit.cls ≠ "java/lang/invoke/MethodHandle" ∧ yL_conduit.cls ≠ "java/lang/invoke/VarHandle" ∧ (parseMethodDescriptor yL_conduit.desc).map (fun d => d.parameters.length) = some 6 := by decide +kernel
theorem vL_depth : yL_depth.cls = RL ∧ yL_depth.cls ≠ "java/lang/invoke/MethodHandle" ∧ yL_depth.cls ≠ "java/lang/invoke/VarHandle" ∧ (parseMethodDescriptor yL_depth.desc).map (fun d => d.parameters.length) = some 3 := by decide +kernel
theorem vL_fault : yL_fault.cls = RL ∧ yL_fault.cls ≠ "java/lang/invoke/MethodHandle" ∧ yL_fault.cls ≠ "java/lang/invoke/VarHandle" ∧ (parseMethodDescriptor yL_fault.desc).map (fun d => d.parameters.length) = some 4 := by decide +kernel
theorem vL_isHung : yL_isHung.cls = RL ∧ yL_isHung.cls ≠ "java/lang/invoke/MethodHandle" ∧ yL_isHung.cls ≠ "java/lang/invoke/VarHandle" ∧ (parseMethodDescriptor yL_isHung.desc).map (fun d => d.parameters.length) = some 4 := by decide +kernel
theorem vL_join : yL_join.cls = RL ∧ yL_join.cls ≠ "java/lang/invoke/MethodHandle" ∧ yL_join.cls ≠ "java/lang/invoke/VarHandle" ∧ (parseMethodDescriptor yL_join.desc).map (fun d => d.parameters.length) = some 5 := by decide +kernel
theorem vL_length : yL_length.cls = RL ∧ yL_length.cls ≠ "java/lang/invoke/MethodHandle" ∧ yL_length.cls ≠ "java/lang/invoke/VarHandle" ∧ (parseMethodDescriptor yL_length.desc).map (fun d => d.parameters.length) = some 3 := by decide +kernel
theorem vL_loops : yL_loops.cls = RL ∧ yL_loops.cls ≠ "java/lang/invoke/MethodHandle" ∧ yL_loops.cls ≠ "java/lang/invoke/VarHandle" ∧ (parseMethodDescriptor yL_loops.desc).map (fun d => d.parameters.length) = some 3 := by decide +kernel
theorem vL_oneWith : yL_oneWith.cls = RL ∧ yL_oneWith.cls ≠ "java/lang/invoke/MethodHandle" ∧ yL_oneWith.cls ≠ "java/lang/invoke/VarHandle" ∧ (parseMethodDescriptor yL_oneWith.desc).map (fun d => d.parameters.length) = some 4 := by decide +kernel
theorem vL_setAside : yL_setAside.cls = RL ∧ yL_setAside.cls ≠ "java/lang/invoke/MethodHandle" ∧ yL_setAside.cls ≠ "java/lang/invoke/VarHandle" ∧ (parseMethodDescriptor yL_setAside.desc).map (fun d => d.parameters.length) = some 4 := by decide +kernel
theorem vL_setHeight : yL_setHeight.cls = RL ∧ yL_setHeight.cls ≠ "java/lang/invoke/MethodHandle" ∧ yL_setHeight.cls ≠ "java/lang/invoke/VarHandle" ∧ (parseMethodDescriptor yL_setHeight.desc).map (fun d => d.parameters.length) = some 4 := by decide +kernel
theorem vL_shot : yL_shot.cls = RL ∧ yL_shot.cls ≠ "java/lang/invoke/MethodHandle" ∧ yL_shot.cls ≠ "java/lang/invoke/VarHandle" ∧ (parseMethodDescriptor yL_shot.desc).map (fun d => d.parameters.length) = some 10 := by decide +kernel
theorem vL_station : yL_station.cls = RL ∧ yL_station.cls ≠ "java/lang/invoke/MethodHandle" ∧ yL_station.cls ≠ "java/lang/invoke/VarHandle" ∧ (parseMethodDescriptor yL_station.desc).map (fun d => d.parameters.length) = some 2 := by decide +kernel
theorem vL_top : yL_top.cls = RL ∧ yL_top.cls ≠ "java/lang/invoke/MethodHandle" ∧ yL_top.cls ≠ "java/lang/invoke/VarHandle" ∧ (parseMethodDescriptor yL_top.desc).map (fun d => d.parameters.length) = some 5 := by decide +kernel
theorem vL_trace : yL_trace.cls = RL ∧ yL_trace.cls ≠ "java/lang/invoke/MethodHandle" ∧ yL_trace.cls ≠ "java/lang/invoke/VarHandle" ∧ (parseMethodDescriptor yL_trace.desc).map (fun d => d.parameters.length) = some 4 := by decide +kernel
theorem vL_traced : yL_traced.cls = RL ∧ yL_traced.cls ≠ "java/lang/invoke/MethodHandle" ∧ yL_traced.cls ≠ "java/lang/invoke/VarHandle" ∧ (parseMethodDescriptor yL_traced.desc).map (fun d => d.parameters.length) = some 4 := by decide +kernel
theorem vX14_allFaults : yX14_allFaults.cls = RX14 ∧ yX14_allFaults.cls ≠ "java/lang/invoke/MethodHandle" ∧ yX14_allFaults.cls ≠ "java/lang/invoke/VarHandle" ∧ (parseMethodDescriptor yX14_allFaults.desc).map (fun d => d.parameters.length) = some 1 := by decide +kernel
theorem vX14_blunder : yX14_blunder.cls = RX14 ∧ yX14_blunder.cls ≠ "java/lang/invoke/MethodHandle" ∧ yX14_blunder.cls ≠ "java/lang/invoke/VarHandle" ∧ (parseMethodDescriptor yX14_blunder.desc).map (fun d => d.parameters.length) = some 1 := by decide +kernel
theorem vX14_bottom : yX14_bottom.cls = RX14 ∧ yX14_bottom.cls ≠ "java/lang/invoke/MethodHandle" ∧ yX14_bottom.cls ≠ "java/lang/invoke/VarHandle" ∧ (parseMethodDescriptor yX14_bottom.desc).map (fun d => d.parameters.length) = some 3 := by decide +kernel
theorem vX14_conduit : yX14_conduit.cls = RX14 ∧ yX14_conduit.cls ≠ "java/lang/invoke/MethodHandle" ∧ yX14_conduit.cls ≠ "java/lang/invoke/VarHandle" ∧ (parseMethodDescriptor yX14_conduit.desc).map (fun d => d.parameters.length) = some 4 := by decide +kernel
theorem vX14_depth : yX14_depth.cls = RX14 ∧ yX14_depth.cls ≠ "java/lang/invoke/MethodHandle" ∧ yX14_depth.cls ≠ "java/lang/invoke/VarHandle" ∧ (parseMethodDescriptor yX14_depth.desc).map (fun d => d.parameters.length) = some 1 := by decide +kernel
theorem vX14_fault : yX14_fault.cls = RX14 ∧ yX14_fault.cls ≠ "java/lang/invoke/MethodHandle" ∧ yX14_fault.cls ≠ "java/lang/invoke/VarHandle" ∧ (parseMethodDescriptor yX14_fault.desc).map (fun d => d.parameters.length) = some 2 := by decide +kernel
theorem vX14_init : yX14_init.cls = RX14 ∧ yX14_init.cls ≠ "java/lang/invoke/MethodHandle" ∧ yX14_init.cls ≠ "java/lang/invoke/VarHandle" ∧ (parseMethodDescriptor yX14_init.desc).map (fun d => d.parameters.length) = some 0 := by decide +kernel
theorem vX14_isHung : yX14_isHung.cls = RX14 ∧ yX14_isHung.cls ≠ "java/lang/invoke/MethodHandle" ∧ yX14_isHung.cls ≠ "java/lang/invoke/VarHandle" ∧ (parseMethodDescriptor yX14_isHung.desc).map (fun d => d.parameters.length) = some 2 := by decide +kernel
theorem vX14_join : yX14_join.cls = RX14 ∧ yX14_join.cls ≠ "java/lang/invoke/MethodHandle" ∧ yX14_join.cls ≠ "java/lang/invoke/VarHandle" ∧ (parseMethodDescriptor yX14_join.desc).map (fun d => d.parameters.length) = some 3 := by decide +kernel
theorem vX14_length : yX14_length.cls = RX14 ∧ yX14_length.cls ≠ "java/lang/invoke/MethodHandle" ∧ yX14_length.cls ≠ "java/lang/invoke/VarHandle" ∧ (parseMethodDescriptor yX14_length.desc).map (fun d => d.parameters.length) = some 1 := by decide +kernel
theorem vX14_loops : yX14_loops.cls = RX14 ∧ yX14_loops.cls ≠ "java/lang/invoke/MethodHandle" ∧ yX14_loops.cls ≠ "java/lang/invoke/VarHandle" ∧ (parseMethodDescriptor yX14_loops.desc).map (fun d => d.parameters.length) = some 1 := by decide +kernel
theorem vX14_oneWith : yX14_oneWith.cls = RX14 ∧ yX14_oneWith.cls ≠ "java/lang/invoke/MethodHandle" ∧ yX14_oneWith.cls ≠ "java/lang/invoke/VarHandle" ∧ (parseMethodDescriptor yX14_oneWith.desc).map (fun d => d.parameters.length) = some 2 := by decide +kernel
theorem vX14_setAside : yX14_setAside.cls = RX14 ∧ yX14_setAside.cls ≠ "java/lang/invoke/MethodHandle" ∧ yX14_setAside.cls ≠ "java/lang/invoke/VarHandle" ∧ (parseMethodDescriptor yX14_setAside.desc).map (fun d => d.parameters.length) = some 2 := by decide +kernel
theorem vX14_setHeight : yX14_setHeight.cls = RX14 ∧ yX14_setHeight.cls ≠ "java/lang/invoke/MethodHandle" ∧ yX14_setHeight.cls ≠ "java/lang/invoke/VarHandle" ∧ (parseMethodDescriptor yX14_setHeight.desc).map (fun d => d.parameters.length) = some 2 := by decide +kernel
theorem vX14_shot : yX14_shot.cls = RX14 ∧ yX14_shot.cls ≠ "java/lang/invoke/MethodHandle" ∧ yX14_shot.cls ≠ "java/lang/invoke/VarHandle" ∧ (parseMethodDescriptor yX14_shot.desc).map (fun d => d.parameters.length) = some 8 := by decide +kernel
theorem vX14_station : yX14_station.cls = RX14 ∧ yX14_station.cls ≠ "java/lang/invoke/MethodHandle" ∧ yX14_station.cls ≠ "java/lang/invoke/VarHandle" ∧ (parseMethodDescriptor yX14_station.desc).map (fun d => d.parameters.length) = some 0 := by decide +kernel
theorem vX14_thrown : yX14_thrown.cls = RX14 ∧ yX14_thrown.cls ≠ "java/lang/invoke/MethodHandle" ∧ yX14_thrown.cls ≠ "java/lang/invoke/VarHandle" ∧ (parseMethodDescriptor yX14_thrown.desc).map (fun d => d.parameters.length) = some 0 := by decide +kernel
theorem vX14_top : yX14_top.cls = RX14 ∧ yX14_top.cls ≠ "java/lang/invoke/MethodHandle" ∧ yX14_top.cls ≠ "java/lang/invoke/VarHandle" ∧ (parseMethodDescriptor yX14_top.desc).map (fun d => d.parameters.length) = some 3 := by decide +kernel
theorem vX14_trace : yX14_trace.cls = RX14 ∧ yX14_trace.cls ≠ "java/lang/invoke/MethodHandle" ∧ yX14_trace.cls ≠ "java/lang/invoke/VarHandle" ∧ (parseMethodDescriptor yX14_trace.desc).map (fun d => d.parameters.length) = some 2 := by decide +kernel
theorem vX14_traced : yX14_traced.cls = RX14 ∧ yX14_traced.cls ≠ "java/lang/invoke/MethodHandle" ∧ yX14_traced.cls ≠ "java/lang/invoke/VarHandle" ∧ (parseMethodDescriptor yX14_traced.desc).map (fun d => d.parameters.length) = some 2 := by decide +kernel
theorem vX9_init : yX9_init.cls = RX9 ∧ yX9_init.cls ≠ "java/lang/invoke/MethodHandle" ∧ yX9_init.cls ≠ "java/lang/invoke/VarHandle" ∧ (parseMethodDescriptor yX9_init.desc).map (fun d => d.parameters.length) = some 0 := by decide +kernel
theorem q551 : Cond.classLink RL 8 "Cavernbook" ∈ wAll := wIn (wT1 (List.mem_of_getElem? (i := 37) rfl)) rfl
theorem q552 : Cond.instantiable RX9 8 ∈ wAll := wIn (wT1 (List.mem_of_getElem? (i := 38) rfl)) rfl
theorem q553 : Cond.methodLink RL 142 yX9_init ∈ wAll := wIn (wT1 (List.mem_of_getElem? (i := 39) rfl)) rfl
theorem q554 : Cond.code yX9_init cX9_init 2 none ∈ wAll := wIn (wT1 (List.mem_of_getElem? (i := 41) rfl)) rfl
theorem q555 : Cond.instanceMethod yX9_init ∈ wAll := wIn (wT1 (List.mem_of_getElem? (i := 40) rfl)) rfl
theorem q556 : Cond.classLink RL 143 "CavernbookModel" ∈ wAll := wIn (wT5 (List.mem_of_getElem? (i := 158) rfl)) rfl
theorem q557 : Cond.instantiable RX14 27 ∈ wAll := wIn (wT5 (List.mem_of_getElem? (i := 159) rfl)) rfl
theorem q558 : Cond.methodLink RL 145 yX14_init ∈ wAll := wIn (wT5 (List.mem_of_getElem? (i := 160) rfl)) rfl
theorem q559 : Cond.code yX14_init cX14_init 1 none ∈ wAll := wIn (wT5 (List.mem_of_getElem? (i := 162) rfl)) rfl
theorem q560 : Cond.instanceMethod yX14_init ∈ wAll := wIn (wT5 (List.mem_of_getElem? (i := 161) rfl)) rfl
theorem q561 : Cond.arrayClass .double ∈ wAll := wIn (wT8 (List.mem_of_getElem? (i := 55) rfl)) rfl
theorem q562 : Cond.methodLink RL 146 yL_station ∈ wAll := wIn (wT2 (List.mem_of_getElem? (i := 111) rfl)) rfl
theorem q563 : Cond.codeWith yL_station cL_station 3 (some .int) [(0, 8, 11, 13)] ∈ wAll := wIn (wT2 (List.mem_of_getElem? (i := 113) rfl)) rfl
theorem q564 : Cond.static yL_station ∈ wAll := wIn (wT2 (List.mem_of_getElem? (i := 112) rfl)) rfl
theorem q565 : Cond.initialized RL ∈ wAll := wIn (wT1 (List.mem_of_getElem? (i := 0) rfl)) rfl
theorem q566 : Cond.methodLink RL 151 yX14_station ∈ wAll := wIn (wT6 (List.mem_of_getElem? (i := 36) rfl)) rfl
theorem q567 : Cond.code yX14_station cX14_station 1 (some .int) ∈ wAll := wIn (wT6 (List.mem_of_getElem? (i := 39) rfl)) rfl
theorem q568 : Cond.instanceMethod yX14_station ∈ wAll := wIn (wT6 (List.mem_of_getElem? (i := 37) rfl)) rfl
theorem q569 : Cond.selects RX14 yX14_station yX14_station ∈ wAll := wIn (wT6 (List.mem_of_getElem? (i := 38) rfl)) rfl
theorem q570 : Cond.methodLink RL 152 yX14_thrown ∈ wAll := wIn (wT6 (List.mem_of_getElem? (i := 32) rfl)) rfl
theorem q571 : Cond.code yX14_thrown cX14_thrown 1 (some .int) ∈ wAll := wIn (wT6 (List.mem_of_getElem? (i := 35) rfl)) rfl
theorem q572 : Cond.instanceMethod yX14_thrown ∈ wAll := wIn (wT6 (List.mem_of_getElem? (i := 33) rfl)) rfl
theorem q573 : Cond.selects RX14 yX14_thrown yX14_thrown ∈ wAll := wIn (wT6 (List.mem_of_getElem? (i := 34) rfl)) rfl
theorem q574 : Cond.methodLink RL 155 yL_shot ∈ wAll := wIn (wT2 (List.mem_of_getElem? (i := 191) rfl)) rfl
theorem q575 : Cond.codeWith yL_shot cL_shot 11 (some .int) [(0, 22, 25, 19), (0, 22, 29, 21), (0, 22, 33, 13)] ∈ wAll := wIn (wT2 (List.mem_of_getElem? (i := 193) rfl)) rfl
theorem q576 : Cond.static yL_shot ∈ wAll := wIn (wT2 (List.mem_of_getElem? (i := 192) rfl)) rfl
theorem q577 : Cond.methodLink RL 158 yX14_shot ∈ wAll := wIn (wT6 (List.mem_of_getElem? (i := 48) rfl)) rfl
theorem q578 : Cond.code yX14_shot cX14_shot 11 (some .int) ∈ wAll := wIn (wT6 (List.mem_of_getElem? (i := 51) rfl)) rfl
theorem q579 : Cond.instanceMethod yX14_shot ∈ wAll := wIn (wT6 (List.mem_of_getElem? (i := 49) rfl)) rfl
theorem q580 : Cond.selects RX14 yX14_shot yX14_shot ∈ wAll := wIn (wT6 (List.mem_of_getElem? (i := 50) rfl)) rfl
theorem q581 : Cond.methodLink RL 159 yL_setAside ∈ wAll := wIn (wT3 (List.mem_of_getElem? (i := 28) rfl)) rfl
theorem q582 : Cond.codeWith yL_setAside cL_setAside 5 (some .int) [(0, 17, 20, 19), (0, 17, 24, 21)] ∈ wAll := wIn (wT3 (List.mem_of_getElem? (i := 30) rfl)) rfl
theorem q583 : Cond.static yL_setAside ∈ wAll := wIn (wT3 (List.mem_of_getElem? (i := 29) rfl)) rfl
theorem q584 : Cond.methodLink RL 162 yX14_setAside ∈ wAll := wIn (wT6 (List.mem_of_getElem? (i := 172) rfl)) rfl
theorem q585 : Cond.code yX14_setAside cX14_setAside 4 (some .boolean) ∈ wAll := wIn (wT6 (List.mem_of_getElem? (i := 175) rfl)) rfl
theorem q586 : Cond.instanceMethod yX14_setAside ∈ wAll := wIn (wT6 (List.mem_of_getElem? (i := 173) rfl)) rfl
theorem q587 : Cond.selects RX14 yX14_setAside yX14_setAside ∈ wAll := wIn (wT6 (List.mem_of_getElem? (i := 174) rfl)) rfl
theorem q588 : Cond.methodLink RL 163 yL_join ∈ wAll := wIn (wT3 (List.mem_of_getElem? (i := 44) rfl)) rfl
theorem q589 : Cond.codeWith yL_join cL_join 6 (some .int) [(0, 19, 22, 19), (0, 19, 26, 21), (0, 19, 30, 13)] ∈ wAll := wIn (wT3 (List.mem_of_getElem? (i := 46) rfl)) rfl
theorem q590 : Cond.static yL_join ∈ wAll := wIn (wT3 (List.mem_of_getElem? (i := 45) rfl)) rfl
theorem q591 : Cond.methodLink RL 166 yX14_join ∈ wAll := wIn (wT6 (List.mem_of_getElem? (i := 202) rfl)) rfl
theorem q592 : Cond.code yX14_join cX14_join 5 (some .boolean) ∈ wAll := wIn (wT6 (List.mem_of_getElem? (i := 205) rfl)) rfl
theorem q593 : Cond.instanceMethod yX14_join ∈ wAll := wIn (wT6 (List.mem_of_getElem? (i := 203) rfl)) rfl
theorem q594 : Cond.selects RX14 yX14_join yX14_join ∈ wAll := wIn (wT6 (List.mem_of_getElem? (i := 204) rfl)) rfl
theorem q595 : Cond.methodLink RL 167 yL_oneWith ∈ wAll := wIn (wT3 (List.mem_of_getElem? (i := 70) rfl)) rfl
theorem q596 : Cond.codeWith yL_oneWith cL_oneWith 5 (some .int) [(0, 10, 13, 19), (0, 10, 17, 21)] ∈ wAll := wIn (wT3 (List.mem_of_getElem? (i := 72) rfl)) rfl
theorem q597 : Cond.static yL_oneWith ∈ wAll := wIn (wT3 (List.mem_of_getElem? (i := 71) rfl)) rfl
theorem q598 : Cond.methodLink RL 169 yX14_oneWith ∈ wAll := wIn (wT6 (List.mem_of_getElem? (i := 212) rfl)) rfl
theorem q599 : Cond.code yX14_oneWith cX14_oneWith 3 (some .int) ∈ wAll := wIn (wT6 (List.mem_of_getElem? (i := 215) rfl)) rfl
theorem q600 : Cond.instanceMethod yX14_oneWith ∈ wAll := wIn (wT6 (List.mem_of_getElem? (i := 213) rfl)) rfl
theorem q601 : Cond.selects RX14 yX14_oneWith yX14_oneWith ∈ wAll := wIn (wT6 (List.mem_of_getElem? (i := 214) rfl)) rfl
theorem q602 : Cond.methodLink RL 170 yL_isHung ∈ wAll := wIn (wT3 (List.mem_of_getElem? (i := 77) rfl)) rfl
theorem q603 : Cond.codeWith yL_isHung cL_isHung 5 (some .int) [(0, 17, 20, 19), (0, 17, 24, 21)] ∈ wAll := wIn (wT3 (List.mem_of_getElem? (i := 79) rfl)) rfl
theorem q604 : Cond.static yL_isHung ∈ wAll := wIn (wT3 (List.mem_of_getElem? (i := 78) rfl)) rfl
theorem q605 : Cond.methodLink RL 172 yX14_isHung ∈ wAll := wIn (wT6 (List.mem_of_getElem? (i := 216) rfl)) rfl
theorem q606 : Cond.code yX14_isHung cX14_isHung 3 (some .boolean) ∈ wAll := wIn (wT6 (List.mem_of_getElem? (i := 219) rfl)) rfl
theorem q607 : Cond.instanceMethod yX14_isHung ∈ wAll := wIn (wT6 (List.mem_of_getElem? (i := 217) rfl)) rfl
theorem q608 : Cond.selects RX14 yX14_isHung yX14_isHung ∈ wAll := wIn (wT6 (List.mem_of_getElem? (i := 218) rfl)) rfl
theorem q609 : Cond.methodLink RL 173 yL_top ∈ wAll := wIn (wT3 (List.mem_of_getElem? (i := 105) rfl)) rfl
theorem q610 : Cond.codeWith yL_top cL_top 6 (some .int) [(0, 11, 14, 19), (0, 11, 18, 21), (0, 11, 22, 42)] ∈ wAll := wIn (wT3 (List.mem_of_getElem? (i := 107) rfl)) rfl
theorem q611 : Cond.static yL_top ∈ wAll := wIn (wT3 (List.mem_of_getElem? (i := 106) rfl)) rfl
theorem q612 : Cond.methodLink RL 175 yX14_top ∈ wAll := wIn (wT6 (List.mem_of_getElem? (i := 228) rfl)) rfl
theorem q613 : Cond.code yX14_top cX14_top 4 (some .long) ∈ wAll := wIn (wT6 (List.mem_of_getElem? (i := 231) rfl)) rfl
theorem q614 : Cond.instanceMethod yX14_top ∈ wAll := wIn (wT6 (List.mem_of_getElem? (i := 229) rfl)) rfl
theorem q615 : Cond.selects RX14 yX14_top yX14_top ∈ wAll := wIn (wT6 (List.mem_of_getElem? (i := 230) rfl)) rfl
theorem q616 : Cond.methodLink RL 176 yL_bottom ∈ wAll := wIn (wT3 (List.mem_of_getElem? (i := 209) rfl)) rfl
theorem q617 : Cond.codeWith yL_bottom cL_bottom 6 (some .int) [(0, 11, 14, 19), (0, 11, 18, 21), (0, 11, 22, 42)] ∈ wAll := wIn (wT3 (List.mem_of_getElem? (i := 211) rfl)) rfl
theorem q618 : Cond.static yL_bottom ∈ wAll := wIn (wT3 (List.mem_of_getElem? (i := 210) rfl)) rfl
theorem q619 : Cond.methodLink RL 178 yX14_bottom ∈ wAll := wIn (wT7 (List.mem_of_getElem? (i := 26) rfl)) rfl
theorem q620 : Cond.code yX14_bottom cX14_bottom 4 (some .long) ∈ wAll := wIn (wT7 (List.mem_of_getElem? (i := 29) rfl)) rfl
theorem q621 : Cond.instanceMethod yX14_bottom ∈ wAll := wIn (wT7 (List.mem_of_getElem? (i := 27) rfl)) rfl
theorem q622 : Cond.selects RX14 yX14_bottom yX14_bottom ∈ wAll := wIn (wT7 (List.mem_of_getElem? (i := 28) rfl)) rfl
theorem q623 : Cond.methodLink RL 179 yL_loops ∈ wAll := wIn (wT3 (List.mem_of_getElem? (i := 216) rfl)) rfl
theorem q624 : Cond.codeWith yL_loops cL_loops 4 (some .int) [(0, 9, 12, 21)] ∈ wAll := wIn (wT3 (List.mem_of_getElem? (i := 218) rfl)) rfl
theorem q625 : Cond.static yL_loops ∈ wAll := wIn (wT3 (List.mem_of_getElem? (i := 217) rfl)) rfl
theorem q626 : Cond.methodLink RL 182 yX14_loops ∈ wAll := wIn (wT7 (List.mem_of_getElem? (i := 30) rfl)) rfl
theorem q627 : Cond.code yX14_loops cX14_loops 2 (some .int) ∈ wAll := wIn (wT7 (List.mem_of_getElem? (i := 33) rfl)) rfl
theorem q628 : Cond.instanceMethod yX14_loops ∈ wAll := wIn (wT7 (List.mem_of_getElem? (i := 31) rfl)) rfl
theorem q629 : Cond.selects RX14 yX14_loops yX14_loops ∈ wAll := wIn (wT7 (List.mem_of_getElem? (i := 32) rfl)) rfl
theorem q630 : Cond.methodLink RL 183 yL_fault ∈ wAll := wIn (wT3 (List.mem_of_getElem? (i := 224) rfl)) rfl
theorem q631 : Cond.codeWith yL_fault cL_fault 5 (some .int) [(0, 9, 12, 19), (0, 9, 16, 21), (0, 9, 20, 42)] ∈ wAll := wIn (wT3 (List.mem_of_getElem? (i := 226) rfl)) rfl
theorem q632 : Cond.static yL_fault ∈ wAll := wIn (wT3 (List.mem_of_getElem? (i := 225) rfl)) rfl
theorem q633 : Cond.methodLink RL 185 yX14_fault ∈ wAll := wIn (wT7 (List.mem_of_getElem? (i := 38) rfl)) rfl
theorem q634 : Cond.code yX14_fault cX14_fault 3 (some .long) ∈ wAll := wIn (wT7 (List.mem_of_getElem? (i := 41) rfl)) rfl
theorem q635 : Cond.instanceMethod yX14_fault ∈ wAll := wIn (wT7 (List.mem_of_getElem? (i := 39) rfl)) rfl
theorem q636 : Cond.selects RX14 yX14_fault yX14_fault ∈ wAll := wIn (wT7 (List.mem_of_getElem? (i := 40) rfl)) rfl
theorem q637 : Cond.methodLink RL 186 yL_allFaults ∈ wAll := wIn (wT4 (List.mem_of_getElem? (i := 31) rfl)) rfl
theorem q638 : Cond.codeWith yL_allFaults cL_allFaults 4 (some .int) [(0, 8, 11, 21)] ∈ wAll := wIn (wT4 (List.mem_of_getElem? (i := 33) rfl)) rfl
theorem q639 : Cond.static yL_allFaults ∈ wAll := wIn (wT4 (List.mem_of_getElem? (i := 32) rfl)) rfl
theorem q640 : Cond.methodLink RL 188 yX14_allFaults ∈ wAll := wIn (wT7 (List.mem_of_getElem? (i := 80) rfl)) rfl
theorem q641 : Cond.code yX14_allFaults cX14_allFaults 2 (some .long) ∈ wAll := wIn (wT7 (List.mem_of_getElem? (i := 83) rfl)) rfl
theorem q642 : Cond.instanceMethod yX14_allFaults ∈ wAll := wIn (wT7 (List.mem_of_getElem? (i := 81) rfl)) rfl
theorem q643 : Cond.selects RX14 yX14_allFaults yX14_allFaults ∈ wAll := wIn (wT7 (List.mem_of_getElem? (i := 82) rfl)) rfl
theorem q644 : Cond.methodLink RL 189 yL_blunder ∈ wAll := wIn (wT4 (List.mem_of_getElem? (i := 46) rfl)) rfl
theorem q645 : Cond.codeWith yL_blunder cL_blunder 4 (some .int) [(0, 9, 12, 21), (0, 9, 15, 42)] ∈ wAll := wIn (wT4 (List.mem_of_getElem? (i := 48) rfl)) rfl
theorem q646 : Cond.static yL_blunder ∈ wAll := wIn (wT4 (List.mem_of_getElem? (i := 47) rfl)) rfl
theorem q647 : Cond.methodLink RL 191 yX14_blunder ∈ wAll := wIn (wT7 (List.mem_of_getElem? (i := 92) rfl)) rfl
theorem q648 : Cond.code yX14_blunder cX14_blunder 8 (some .int) ∈ wAll := wIn (wT7 (List.mem_of_getElem? (i := 95) rfl)) rfl
theorem q649 : Cond.instanceMethod yX14_blunder ∈ wAll := wIn (wT7 (List.mem_of_getElem? (i := 93) rfl)) rfl
theorem q650 : Cond.selects RX14 yX14_blunder yX14_blunder ∈ wAll := wIn (wT7 (List.mem_of_getElem? (i := 94) rfl)) rfl
theorem q651 : Cond.methodLink RL 192 yL_length ∈ wAll := wIn (wT4 (List.mem_of_getElem? (i := 63) rfl)) rfl
theorem q652 : Cond.codeWith yL_length cL_length 4 (some .int) [(0, 9, 12, 21)] ∈ wAll := wIn (wT4 (List.mem_of_getElem? (i := 65) rfl)) rfl
theorem q653 : Cond.static yL_length ∈ wAll := wIn (wT4 (List.mem_of_getElem? (i := 64) rfl)) rfl
theorem q654 : Cond.methodLink RL 194 yX14_length ∈ wAll := wIn (wT7 (List.mem_of_getElem? (i := 96) rfl)) rfl
theorem q655 : Cond.code yX14_length cX14_length 4 (some .int) ∈ wAll := wIn (wT7 (List.mem_of_getElem? (i := 99) rfl)) rfl
theorem q656 : Cond.instanceMethod yX14_length ∈ wAll := wIn (wT7 (List.mem_of_getElem? (i := 97) rfl)) rfl
theorem q657 : Cond.selects RX14 yX14_length yX14_length ∈ wAll := wIn (wT7 (List.mem_of_getElem? (i := 98) rfl)) rfl
theorem q658 : Cond.methodLink RL 195 yL_depth ∈ wAll := wIn (wT4 (List.mem_of_getElem? (i := 70) rfl)) rfl
theorem q659 : Cond.codeWith yL_depth cL_depth 4 (some .int) [(0, 8, 11, 21)] ∈ wAll := wIn (wT4 (List.mem_of_getElem? (i := 72) rfl)) rfl
theorem q660 : Cond.static yL_depth ∈ wAll := wIn (wT4 (List.mem_of_getElem? (i := 71) rfl)) rfl
theorem q661 : Cond.methodLink RL 197 yX14_depth ∈ wAll := wIn (wT7 (List.mem_of_getElem? (i := 100) rfl)) rfl
theorem q662 : Cond.code yX14_depth cX14_depth 7 (some .long) ∈ wAll := wIn (wT7 (List.mem_of_getElem? (i := 103) rfl)) rfl
theorem q663 : Cond.instanceMethod yX14_depth ∈ wAll := wIn (wT7 (List.mem_of_getElem? (i := 101) rfl)) rfl
theorem q664 : Cond.selects RX14 yX14_depth yX14_depth ∈ wAll := wIn (wT7 (List.mem_of_getElem? (i := 102) rfl)) rfl
theorem q665 : Cond.methodLink RL 198 yL_setHeight ∈ wAll := wIn (wT4 (List.mem_of_getElem? (i := 83) rfl)) rfl
theorem q666 : Cond.codeWith yL_setHeight cL_setHeight 5 (some .int) [(0, 10, 13, 19), (0, 10, 17, 21), (0, 10, 21, 71)] ∈ wAll := wIn (wT4 (List.mem_of_getElem? (i := 85) rfl)) rfl
theorem q667 : Cond.static yL_setHeight ∈ wAll := wIn (wT4 (List.mem_of_getElem? (i := 84) rfl)) rfl
theorem q668 : Cond.methodLink RL 200 yX14_setHeight ∈ wAll := wIn (wT7 (List.mem_of_getElem? (i := 107) rfl)) rfl
theorem q669 : Cond.code yX14_setHeight cX14_setHeight 6 (some .int) ∈ wAll := wIn (wT7 (List.mem_of_getElem? (i := 110) rfl)) rfl
theorem q670 : Cond.instanceMethod yX14_setHeight ∈ wAll := wIn (wT7 (List.mem_of_getElem? (i := 108) rfl)) rfl
theorem q671 : Cond.selects RX14 yX14_setHeight yX14_setHeight ∈ wAll := wIn (wT7 (List.mem_of_getElem? (i := 109) rfl)) rfl
theorem q672 : Cond.methodLink RL 201 yL_conduit ∈ wAll := wIn (wT4 (List.mem_of_getElem? (i := 111) rfl)) rfl
theorem q673 : Cond.codeWith yL_conduit cL_conduit 7 (some .int) [(0, 14, 17, 19), (0, 14, 21, 21), (0, 14, 25, 71), (0, 14, 29, 13)] ∈ wAll := wIn (wT4 (List.mem_of_getElem? (i := 113) rfl)) rfl
theorem q674 : Cond.static yL_conduit ∈ wAll := wIn (wT4 (List.mem_of_getElem? (i := 112) rfl)) rfl
theorem q675 : Cond.methodLink RL 204 yX14_conduit ∈ wAll := wIn (wT7 (List.mem_of_getElem? (i := 112) rfl)) rfl
theorem q676 : Cond.code yX14_conduit cX14_conduit 7 (some .int) ∈ wAll := wIn (wT7 (List.mem_of_getElem? (i := 115) rfl)) rfl
theorem q677 : Cond.instanceMethod yX14_conduit ∈ wAll := wIn (wT7 (List.mem_of_getElem? (i := 113) rfl)) rfl
theorem q678 : Cond.selects RX14 yX14_conduit yX14_conduit ∈ wAll := wIn (wT7 (List.mem_of_getElem? (i := 114) rfl)) rfl
theorem q679 : Cond.methodLink RL 205 yL_trace ∈ wAll := wIn (wT4 (List.mem_of_getElem? (i := 129) rfl)) rfl
theorem q680 : Cond.codeWith yL_trace cL_trace 5 (some .int) [(0, 10, 13, 19), (0, 10, 17, 21)] ∈ wAll := wIn (wT4 (List.mem_of_getElem? (i := 131) rfl)) rfl
theorem q681 : Cond.static yL_trace ∈ wAll := wIn (wT4 (List.mem_of_getElem? (i := 130) rfl)) rfl
theorem q682 : Cond.methodLink RL 207 yX14_trace ∈ wAll := wIn (wT7 (List.mem_of_getElem? (i := 139) rfl)) rfl
theorem q683 : Cond.code yX14_trace cX14_trace 5 (some .int) ∈ wAll := wIn (wT7 (List.mem_of_getElem? (i := 142) rfl)) rfl
theorem q684 : Cond.instanceMethod yX14_trace ∈ wAll := wIn (wT7 (List.mem_of_getElem? (i := 140) rfl)) rfl
theorem q685 : Cond.selects RX14 yX14_trace yX14_trace ∈ wAll := wIn (wT7 (List.mem_of_getElem? (i := 141) rfl)) rfl
theorem q686 : Cond.methodLink RL 208 yL_traced ∈ wAll := wIn (wT4 (List.mem_of_getElem? (i := 153) rfl)) rfl
theorem q687 : Cond.codeWith yL_traced cL_traced 5 (some .int) [(0, 10, 13, 19), (0, 10, 17, 21)] ∈ wAll := wIn (wT4 (List.mem_of_getElem? (i := 155) rfl)) rfl
theorem q688 : Cond.static yL_traced ∈ wAll := wIn (wT4 (List.mem_of_getElem? (i := 154) rfl)) rfl
theorem q689 : Cond.methodLink RL 210 yX14_traced ∈ wAll := wIn (wT7 (List.mem_of_getElem? (i := 152) rfl)) rfl
theorem q690 : Cond.code yX14_traced cX14_traced 3 (some .int) ∈ wAll := wIn (wT7 (List.mem_of_getElem? (i := 155) rfl)) rfl
theorem q691 : Cond.instanceMethod yX14_traced ∈ wAll := wIn (wT7 (List.mem_of_getElem? (i := 153) rfl)) rfl
theorem q692 : Cond.selects RX14 yX14_traced yX14_traced ∈ wAll := wIn (wT7 (List.mem_of_getElem? (i := 154) rfl)) rfl
theorem dL_law_0 : decode cL_law 0 = .ok (.new 8, 3) := by decide +kernel
theorem dL_law_3 : decode cL_law 3 = .ok (.dup, 1) := by decide +kernel
theorem dL_law_4 : decode cL_law 4 = .ok (.invokespecial 142, 3) := by decide +kernel
theorem dL_law_7 : decode cL_law 7 = .ok (.astore_n 1, 1) := by decide +kernel
theorem dL_law_8 : decode cL_law 8 = .ok (.new 143, 3) := by decide +kernel
theorem dL_law_11 : decode cL_law 11 = .ok (.dup, 1) := by decide +kernel
theorem dL_law_12 : decode cL_law 12 = .ok (.invokespecial 145, 3) := by decide +kernel
theorem dL_law_15 : decode cL_law 15 = .ok (.astore_n 2, 1) := by decide +kernel
theorem dL_law_16 : decode cL_law 16 = .ok (.iconst 1, 1) := by decide +kernel
theorem dL_law_17 : decode cL_law 17 = .ok (.newarray .long, 2) := by decide +kernel
theorem dL_law_19 : decode cL_law 19 = .ok (.astore_n 3, 1) := by decide +kernel
theorem dL_law_20 : decode cL_law 20 = .ok (.iconst 1, 1) := by decide +kernel
theorem dL_law_21 : decode cL_law 21 = .ok (.newarray .double, 2) := by decide +kernel
theorem dL_law_23 : decode cL_law 23 = .ok (.astore 4, 2) := by decide +kernel
theorem dL_law_25 : decode cL_law 25 = .ok (.iconst 0, 1) := by decide +kernel
theorem dL_law_26 : decode cL_law 26 = .ok (.istore 5, 2) := by decide +kernel
theorem dL_law_216 : decode cL_law 216 = .ok (.aload_n 1, 1) := by decide +kernel
theorem dL_law_217 : decode cL_law 217 = .ok (.aload_n 3, 1) := by decide +kernel
theorem dL_law_218 : decode cL_law 218 = .ok (.invokestatic 146, 3) := by decide +kernel
theorem dL_law_221 : decode cL_law 221 = .ok (.istore 6, 2) := by decide +kernel
theorem dL_law_223 : decode cL_law 223 = .ok (.aload_n 2, 1) := by decide +kernel
theorem dL_law_224 : decode cL_law 224 = .ok (.invokevirtual 151, 3) := by decide +kernel
theorem dL_law_227 : decode cL_law 227 = .ok (.istore 7, 2) := by decide +kernel
theorem dL_law_229 : decode cL_law 229 = .ok (.aload_n 2, 1) := by decide +kernel
theorem dL_law_230 : decode cL_law 230 = .ok (.invokevirtual 152, 3) := by decide +kernel
theorem dL_law_233 : decode cL_law 233 = .ok (.iload 6, 2) := by decide +kernel
theorem dL_law_235 : decode cL_law 235 = .ok (.if_icmp .eq 5, 3) := by decide +kernel
theorem dL_law_240 : decode cL_law 240 = .ok (.iload 6, 2) := by decide +kernel
theorem dL_law_242 : decode cL_law 242 = .ok (.ifCond .ne 15, 3) := by decide +kernel
theorem dL_law_245 : decode cL_law 245 = .ok (.aload_n 3, 1) := by decide +kernel
theorem dL_law_246 : decode cL_law 246 = .ok (.iconst 0, 1) := by decide +kernel
theorem dL_law_247 : decode cL_law 247 = .ok (.laload, 1) := by decide +kernel
theorem dL_law_248 : decode cL_law 248 = .ok (.iload 7, 2) := by decide +kernel
theorem dL_law_250 : decode cL_law 250 = .ok (.i2l, 1) := by decide +kernel
theorem dL_law_251 : decode cL_law 251 = .ok (.lcmp, 1) := by decide +kernel
theorem dL_law_252 : decode cL_law 252 = .ok (.ifCond .eq 5, 3) := by decide +kernel
theorem dL_law_257 : decode cL_law 257 = .ok (.goto 2449, 3) := by decide +kernel
theorem dL_law_260 : decode cL_law 260 = .ok (.aload_n 1, 1) := by decide +kernel
theorem dL_law_261 : decode cL_law 261 = .ok (.aload_n 0, 1) := by decide +kernel
theorem dL_law_262 : decode cL_law 262 = .ok (.iload 5, 2) := by decide +kernel
theorem dL_law_264 : decode cL_law 264 = .ok (.iconst 1, 1) := by decide +kernel
theorem dL_law_265 : decode cL_law 265 = .ok (.iadd, 1) := by decide +kernel
theorem dL_law_266 : decode cL_law 266 = .ok (.iaload, 1) := by decide +kernel
theorem dL_law_267 : decode cL_law 267 = .ok (.aload_n 0, 1) := by decide +kernel
theorem dL_law_268 : decode cL_law 268 = .ok (.iload 5, 2) := by decide +kernel
theorem dL_law_270 : decode cL_law 270 = .ok (.iconst 2, 1) := by decide +kernel
theorem dL_law_271 : decode cL_law 271 = .ok (.iadd, 1) := by decide +kernel
theorem dL_law_272 : decode cL_law 272 = .ok (.iaload, 1) := by decide +kernel
theorem dL_law_273 : decode cL_law 273 = .ok (.aload_n 0, 1) := by decide +kernel
theorem dL_law_274 : decode cL_law 274 = .ok (.iload 5, 2) := by decide +kernel
theorem dL_law_276 : decode cL_law 276 = .ok (.iconst 3, 1) := by decide +kernel
theorem dL_law_277 : decode cL_law 277 = .ok (.iadd, 1) := by decide +kernel
theorem dL_law_278 : decode cL_law 278 = .ok (.iaload, 1) := by decide +kernel
theorem dL_law_279 : decode cL_law 279 = .ok (.aload_n 0, 1) := by decide +kernel
theorem dL_law_280 : decode cL_law 280 = .ok (.iload 5, 2) := by decide +kernel
theorem dL_law_282 : decode cL_law 282 = .ok (.iconst 4, 1) := by decide +kernel
theorem dL_law_283 : decode cL_law 283 = .ok (.iadd, 1) := by decide +kernel
theorem dL_law_284 : decode cL_law 284 = .ok (.iaload, 1) := by decide +kernel
theorem dL_law_285 : decode cL_law 285 = .ok (.aload_n 0, 1) := by decide +kernel
theorem dL_law_286 : decode cL_law 286 = .ok (.iload 5, 2) := by decide +kernel
theorem dL_law_288 : decode cL_law 288 = .ok (.iconst 5, 1) := by decide +kernel
theorem dL_law_289 : decode cL_law 289 = .ok (.iadd, 1) := by decide +kernel
theorem dL_law_290 : decode cL_law 290 = .ok (.iaload, 1) := by decide +kernel
theorem dL_law_291 : decode cL_law 291 = .ok (.aload_n 0, 1) := by decide +kernel
theorem dL_law_292 : decode cL_law 292 = .ok (.iload 5, 2) := by decide +kernel
theorem dL_law_294 : decode cL_law 294 = .ok (.bipush 6, 2) := by decide +kernel
theorem dL_law_296 : decode cL_law 296 = .ok (.iadd, 1) := by decide +kernel
theorem dL_law_297 : decode cL_law 297 = .ok (.iaload, 1) := by decide +kernel
theorem dL_law_298 : decode cL_law 298 = .ok (.aload_n 0, 1) := by decide +kernel
theorem dL_law_299 : decode cL_law 299 = .ok (.iload 5, 2) := by decide +kernel
theorem dL_law_301 : decode cL_law 301 = .ok (.bipush 7, 2) := by decide +kernel
theorem dL_law_303 : decode cL_law 303 = .ok (.iadd, 1) := by decide +kernel
theorem dL_law_304 : decode cL_law 304 = .ok (.iaload, 1) := by decide +kernel
theorem dL_law_305 : decode cL_law 305 = .ok (.aload_n 0, 1) := by decide +kernel
theorem dL_law_306 : decode cL_law 306 = .ok (.iload 5, 2) := by decide +kernel
theorem dL_law_308 : decode cL_law 308 = .ok (.bipush 8, 2) := by decide +kernel
theorem dL_law_310 : decode cL_law 310 = .ok (.iadd, 1) := by decide +kernel
theorem dL_law_311 : decode cL_law 311 = .ok (.iaload, 1) := by decide +kernel
theorem dL_law_312 : decode cL_law 312 = .ok (.aload_n 3, 1) := by decide +kernel
theorem dL_law_313 : decode cL_law 313 = .ok (.invokestatic 155, 3) := by decide +kernel
theorem dL_law_316 : decode cL_law 316 = .ok (.istore 6, 2) := by decide +kernel
theorem dL_law_318 : decode cL_law 318 = .ok (.aload_n 2, 1) := by decide +kernel
theorem dL_law_319 : decode cL_law 319 = .ok (.aload_n 0, 1) := by decide +kernel
theorem dL_law_320 : decode cL_law 320 = .ok (.iload 5, 2) := by decide +kernel
theorem dL_law_322 : decode cL_law 322 = .ok (.iconst 1, 1) := by decide +kernel
theorem dL_law_323 : decode cL_law 323 = .ok (.iadd, 1) := by decide +kernel
theorem dL_law_324 : decode cL_law 324 = .ok (.iaload, 1) := by decide +kernel
theorem dL_law_325 : decode cL_law 325 = .ok (.aload_n 0, 1) := by decide +kernel
theorem dL_law_326 : decode cL_law 326 = .ok (.iload 5, 2) := by decide +kernel
theorem dL_law_328 : decode cL_law 328 = .ok (.iconst 2, 1) := by decide +kernel
theorem dL_law_329 : decode cL_law 329 = .ok (.iadd, 1) := by decide +kernel
theorem dL_law_330 : decode cL_law 330 = .ok (.iaload, 1) := by decide +kernel
theorem dL_law_331 : decode cL_law 331 = .ok (.aload_n 0, 1) := by decide +kernel
theorem dL_law_332 : decode cL_law 332 = .ok (.iload 5, 2) := by decide +kernel
theorem dL_law_334 : decode cL_law 334 = .ok (.iconst 3, 1) := by decide +kernel
theorem dL_law_335 : decode cL_law 335 = .ok (.iadd, 1) := by decide +kernel
theorem dL_law_336 : decode cL_law 336 = .ok (.iaload, 1) := by decide +kernel
theorem dL_law_337 : decode cL_law 337 = .ok (.aload_n 0, 1) := by decide +kernel
theorem dL_law_338 : decode cL_law 338 = .ok (.iload 5, 2) := by decide +kernel
theorem dL_law_340 : decode cL_law 340 = .ok (.iconst 4, 1) := by decide +kernel
theorem dL_law_341 : decode cL_law 341 = .ok (.iadd, 1) := by decide +kernel
theorem dL_law_342 : decode cL_law 342 = .ok (.iaload, 1) := by decide +kernel
theorem dL_law_343 : decode cL_law 343 = .ok (.aload_n 0, 1) := by decide +kernel
theorem dL_law_344 : decode cL_law 344 = .ok (.iload 5, 2) := by decide +kernel
theorem dL_law_346 : decode cL_law 346 = .ok (.iconst 5, 1) := by decide +kernel
theorem dL_law_347 : decode cL_law 347 = .ok (.iadd, 1) := by decide +kernel
theorem dL_law_348 : decode cL_law 348 = .ok (.iaload, 1) := by decide +kernel
theorem dL_law_349 : decode cL_law 349 = .ok (.aload_n 0, 1) := by decide +kernel
theorem dL_law_350 : decode cL_law 350 = .ok (.iload 5, 2) := by decide +kernel
theorem dL_law_352 : decode cL_law 352 = .ok (.bipush 6, 2) := by decide +kernel
theorem dL_law_354 : decode cL_law 354 = .ok (.iadd, 1) := by decide +kernel
theorem dL_law_355 : decode cL_law 355 = .ok (.iaload, 1) := by decide +kernel
theorem dL_law_356 : decode cL_law 356 = .ok (.aload_n 0, 1) := by decide +kernel
theorem dL_law_357 : decode cL_law 357 = .ok (.iload 5, 2) := by decide +kernel
theorem dL_law_359 : decode cL_law 359 = .ok (.bipush 7, 2) := by decide +kernel
theorem dL_law_361 : decode cL_law 361 = .ok (.iadd, 1) := by decide +kernel
theorem dL_law_362 : decode cL_law 362 = .ok (.iaload, 1) := by decide +kernel
theorem dL_law_363 : decode cL_law 363 = .ok (.aload_n 0, 1) := by decide +kernel
theorem dL_law_364 : decode cL_law 364 = .ok (.iload 5, 2) := by decide +kernel
theorem dL_law_366 : decode cL_law 366 = .ok (.bipush 8, 2) := by decide +kernel
theorem dL_law_368 : decode cL_law 368 = .ok (.iadd, 1) := by decide +kernel
theorem dL_law_369 : decode cL_law 369 = .ok (.iaload, 1) := by decide +kernel
theorem dL_law_370 : decode cL_law 370 = .ok (.invokevirtual 158, 3) := by decide +kernel
theorem dL_law_373 : decode cL_law 373 = .ok (.istore 7, 2) := by decide +kernel
theorem dL_law_375 : decode cL_law 375 = .ok (.aload_n 2, 1) := by decide +kernel
theorem dL_law_376 : decode cL_law 376 = .ok (.invokevirtual 152, 3) := by decide +kernel
theorem dL_law_379 : decode cL_law 379 = .ok (.iload 6, 2) := by decide +kernel
theorem dL_law_381 : decode cL_law 381 = .ok (.if_icmp .eq 5, 3) := by decide +kernel
theorem dL_law_386 : decode cL_law 386 = .ok (.iload 6, 2) := by decide +kernel
theorem dL_law_388 : decode cL_law 388 = .ok (.ifCond .ne 15, 3) := by decide +kernel
theorem dL_law_403 : decode cL_law 403 = .ok (.goto 2303, 3) := by decide +kernel
theorem dL_law_406 : decode cL_law 406 = .ok (.aload_n 1, 1) := by decide +kernel
theorem dL_law_407 : decode cL_law 407 = .ok (.aload_n 0, 1) := by decide +kernel
theorem dL_law_408 : decode cL_law 408 = .ok (.iload 5, 2) := by decide +kernel
theorem dL_law_410 : decode cL_law 410 = .ok (.iconst 1, 1) := by decide +kernel
theorem dL_law_411 : decode cL_law 411 = .ok (.iadd, 1) := by decide +kernel
theorem dL_law_412 : decode cL_law 412 = .ok (.iaload, 1) := by decide +kernel
theorem dL_law_413 : decode cL_law 413 = .ok (.aload_n 0, 1) := by decide +kernel
theorem dL_law_414 : decode cL_law 414 = .ok (.iload 5, 2) := by decide +kernel
theorem dL_law_416 : decode cL_law 416 = .ok (.iconst 2, 1) := by decide +kernel
theorem dL_law_417 : decode cL_law 417 = .ok (.iadd, 1) := by decide +kernel
theorem dL_law_418 : decode cL_law 418 = .ok (.iaload, 1) := by decide +kernel
theorem dL_law_419 : decode cL_law 419 = .ok (.aload_n 3, 1) := by decide +kernel
theorem dL_law_420 : decode cL_law 420 = .ok (.invokestatic 159, 3) := by decide +kernel
theorem dL_law_423 : decode cL_law 423 = .ok (.istore 6, 2) := by decide +kernel
theorem dL_law_425 : decode cL_law 425 = .ok (.aload_n 2, 1) := by decide +kernel
theorem dL_law_426 : decode cL_law 426 = .ok (.aload_n 0, 1) := by decide +kernel
theorem dL_law_427 : decode cL_law 427 = .ok (.iload 5, 2) := by decide +kernel
theorem dL_law_429 : decode cL_law 429 = .ok (.iconst 1, 1) := by decide +kernel
theorem dL_law_430 : decode cL_law 430 = .ok (.iadd, 1) := by decide +kernel
theorem dL_law_431 : decode cL_law 431 = .ok (.iaload, 1) := by decide +kernel
theorem dL_law_432 : decode cL_law 432 = .ok (.aload_n 0, 1) := by decide +kernel
theorem dL_law_433 : decode cL_law 433 = .ok (.iload 5, 2) := by decide +kernel
theorem dL_law_435 : decode cL_law 435 = .ok (.iconst 2, 1) := by decide +kernel
theorem dL_law_436 : decode cL_law 436 = .ok (.iadd, 1) := by decide +kernel
theorem dL_law_437 : decode cL_law 437 = .ok (.iaload, 1) := by decide +kernel
theorem dL_law_438 : decode cL_law 438 = .ok (.invokevirtual 162, 3) := by decide +kernel
theorem dL_law_441 : decode cL_law 441 = .ok (.istore 7, 2) := by decide +kernel
theorem dL_law_443 : decode cL_law 443 = .ok (.aload_n 2, 1) := by decide +kernel
theorem dL_law_444 : decode cL_law 444 = .ok (.invokevirtual 152, 3) := by decide +kernel
theorem dL_law_447 : decode cL_law 447 = .ok (.iload 6, 2) := by decide +kernel
theorem dL_law_449 : decode cL_law 449 = .ok (.if_icmp .eq 5, 3) := by decide +kernel
theorem dL_law_454 : decode cL_law 454 = .ok (.iload 6, 2) := by decide +kernel
theorem dL_law_456 : decode cL_law 456 = .ok (.ifCond .ne 22, 3) := by decide +kernel
theorem dL_law_478 : decode cL_law 478 = .ok (.goto 2228, 3) := by decide +kernel
theorem dL_law_481 : decode cL_law 481 = .ok (.aload_n 1, 1) := by decide +kernel
theorem dL_law_482 : decode cL_law 482 = .ok (.aload_n 0, 1) := by decide +kernel
theorem dL_law_483 : decode cL_law 483 = .ok (.iload 5, 2) := by decide +kernel
theorem dL_law_485 : decode cL_law 485 = .ok (.iconst 1, 1) := by decide +kernel
theorem dL_law_486 : decode cL_law 486 = .ok (.iadd, 1) := by decide +kernel
theorem dL_law_487 : decode cL_law 487 = .ok (.iaload, 1) := by decide +kernel
theorem dL_law_488 : decode cL_law 488 = .ok (.aload_n 0, 1) := by decide +kernel
theorem dL_law_489 : decode cL_law 489 = .ok (.iload 5, 2) := by decide +kernel
theorem dL_law_491 : decode cL_law 491 = .ok (.iconst 2, 1) := by decide +kernel
theorem dL_law_492 : decode cL_law 492 = .ok (.iadd, 1) := by decide +kernel
theorem dL_law_493 : decode cL_law 493 = .ok (.iaload, 1) := by decide +kernel
theorem dL_law_494 : decode cL_law 494 = .ok (.aload_n 0, 1) := by decide +kernel
theorem dL_law_495 : decode cL_law 495 = .ok (.iload 5, 2) := by decide +kernel
theorem dL_law_497 : decode cL_law 497 = .ok (.iconst 3, 1) := by decide +kernel
theorem dL_law_498 : decode cL_law 498 = .ok (.iadd, 1) := by decide +kernel
theorem dL_law_499 : decode cL_law 499 = .ok (.iaload, 1) := by decide +kernel
theorem dL_law_500 : decode cL_law 500 = .ok (.aload_n 3, 1) := by decide +kernel
theorem dL_law_501 : decode cL_law 501 = .ok (.invokestatic 163, 3) := by decide +kernel
theorem dL_law_504 : decode cL_law 504 = .ok (.istore 6, 2) := by decide +kernel
theorem dL_law_506 : decode cL_law 506 = .ok (.aload_n 2, 1) := by decide +kernel
theorem dL_law_507 : decode cL_law 507 = .ok (.aload_n 0, 1) := by decide +kernel
theorem dL_law_508 : decode cL_law 508 = .ok (.iload 5, 2) := by decide +kernel
theorem dL_law_510 : decode cL_law 510 = .ok (.iconst 1, 1) := by decide +kernel
theorem dL_law_511 : decode cL_law 511 = .ok (.iadd, 1) := by decide +kernel
theorem dL_law_512 : decode cL_law 512 = .ok (.iaload, 1) := by decide +kernel
theorem dL_law_513 : decode cL_law 513 = .ok (.aload_n 0, 1) := by decide +kernel
theorem dL_law_514 : decode cL_law 514 = .ok (.iload 5, 2) := by decide +kernel
theorem dL_law_516 : decode cL_law 516 = .ok (.iconst 2, 1) := by decide +kernel
theorem dL_law_517 : decode cL_law 517 = .ok (.iadd, 1) := by decide +kernel
theorem dL_law_518 : decode cL_law 518 = .ok (.iaload, 1) := by decide +kernel
theorem dL_law_519 : decode cL_law 519 = .ok (.aload_n 0, 1) := by decide +kernel
theorem dL_law_520 : decode cL_law 520 = .ok (.iload 5, 2) := by decide +kernel
theorem dL_law_522 : decode cL_law 522 = .ok (.iconst 3, 1) := by decide +kernel
theorem dL_law_523 : decode cL_law 523 = .ok (.iadd, 1) := by decide +kernel
theorem dL_law_524 : decode cL_law 524 = .ok (.iaload, 1) := by decide +kernel
theorem dL_law_525 : decode cL_law 525 = .ok (.invokevirtual 166, 3) := by decide +kernel
theorem dL_law_528 : decode cL_law 528 = .ok (.istore 7, 2) := by decide +kernel
theorem dL_law_530 : decode cL_law 530 = .ok (.aload_n 2, 1) := by decide +kernel
theorem dL_law_531 : decode cL_law 531 = .ok (.invokevirtual 152, 3) := by decide +kernel
theorem dL_law_534 : decode cL_law 534 = .ok (.iload 6, 2) := by decide +kernel
theorem dL_law_536 : decode cL_law 536 = .ok (.if_icmp .eq 5, 3) := by decide +kernel
theorem dL_law_541 : decode cL_law 541 = .ok (.iload 6, 2) := by decide +kernel
theorem dL_law_543 : decode cL_law 543 = .ok (.ifCond .ne 22, 3) := by decide +kernel
theorem dL_law_565 : decode cL_law 565 = .ok (.goto 2141, 3) := by decide +kernel
theorem dL_law_568 : decode cL_law 568 = .ok (.aload_n 1, 1) := by decide +kernel
theorem dL_law_569 : decode cL_law 569 = .ok (.aload_n 0, 1) := by decide +kernel
theorem dL_law_570 : decode cL_law 570 = .ok (.iload 5, 2) := by decide +kernel
theorem dL_law_572 : decode cL_law 572 = .ok (.iconst 1, 1) := by decide +kernel
theorem dL_law_573 : decode cL_law 573 = .ok (.iadd, 1) := by decide +kernel
theorem dL_law_574 : decode cL_law 574 = .ok (.iaload, 1) := by decide +kernel
theorem dL_law_575 : decode cL_law 575 = .ok (.aload_n 0, 1) := by decide +kernel
theorem dL_law_576 : decode cL_law 576 = .ok (.iload 5, 2) := by decide +kernel
theorem dL_law_578 : decode cL_law 578 = .ok (.iconst 2, 1) := by decide +kernel
theorem dL_law_579 : decode cL_law 579 = .ok (.iadd, 1) := by decide +kernel
theorem dL_law_580 : decode cL_law 580 = .ok (.iaload, 1) := by decide +kernel
theorem dL_law_581 : decode cL_law 581 = .ok (.aload_n 3, 1) := by decide +kernel
theorem dL_law_582 : decode cL_law 582 = .ok (.invokestatic 167, 3) := by decide +kernel
theorem dL_law_585 : decode cL_law 585 = .ok (.istore 6, 2) := by decide +kernel
theorem dL_law_587 : decode cL_law 587 = .ok (.aload_n 2, 1) := by decide +kernel
theorem dL_law_588 : decode cL_law 588 = .ok (.aload_n 0, 1) := by decide +kernel
theorem dL_law_589 : decode cL_law 589 = .ok (.iload 5, 2) := by decide +kernel
theorem dL_law_591 : decode cL_law 591 = .ok (.iconst 1, 1) := by decide +kernel
theorem dL_law_592 : decode cL_law 592 = .ok (.iadd, 1) := by decide +kernel
theorem dL_law_593 : decode cL_law 593 = .ok (.iaload, 1) := by decide +kernel
theorem dL_law_594 : decode cL_law 594 = .ok (.aload_n 0, 1) := by decide +kernel
theorem dL_law_595 : decode cL_law 595 = .ok (.iload 5, 2) := by decide +kernel
theorem dL_law_597 : decode cL_law 597 = .ok (.iconst 2, 1) := by decide +kernel
theorem dL_law_598 : decode cL_law 598 = .ok (.iadd, 1) := by decide +kernel
theorem dL_law_599 : decode cL_law 599 = .ok (.iaload, 1) := by decide +kernel
theorem dL_law_600 : decode cL_law 600 = .ok (.invokevirtual 169, 3) := by decide +kernel
theorem dL_law_603 : decode cL_law 603 = .ok (.istore 7, 2) := by decide +kernel
theorem dL_law_605 : decode cL_law 605 = .ok (.aload_n 2, 1) := by decide +kernel
theorem dL_law_606 : decode cL_law 606 = .ok (.invokevirtual 152, 3) := by decide +kernel
theorem dL_law_609 : decode cL_law 609 = .ok (.iload 6, 2) := by decide +kernel
theorem dL_law_611 : decode cL_law 611 = .ok (.if_icmp .eq 5, 3) := by decide +kernel
theorem dL_law_616 : decode cL_law 616 = .ok (.iload 6, 2) := by decide +kernel
theorem dL_law_618 : decode cL_law 618 = .ok (.ifCond .ne 15, 3) := by decide +kernel
theorem dL_law_633 : decode cL_law 633 = .ok (.goto 2073, 3) := by decide +kernel
theorem dL_law_636 : decode cL_law 636 = .ok (.aload_n 1, 1) := by decide +kernel
theorem dL_law_637 : decode cL_law 637 = .ok (.aload_n 0, 1) := by decide +kernel
theorem dL_law_638 : decode cL_law 638 = .ok (.iload 5, 2) := by decide +kernel
theorem dL_law_640 : decode cL_law 640 = .ok (.iconst 1, 1) := by decide +kernel
theorem dL_law_641 : decode cL_law 641 = .ok (.iadd, 1) := by decide +kernel
theorem dL_law_642 : decode cL_law 642 = .ok (.iaload, 1) := by decide +kernel
theorem dL_law_643 : decode cL_law 643 = .ok (.aload_n 0, 1) := by decide +kernel
theorem dL_law_644 : decode cL_law 644 = .ok (.iload 5, 2) := by decide +kernel
theorem dL_law_646 : decode cL_law 646 = .ok (.iconst 2, 1) := by decide +kernel
theorem dL_law_647 : decode cL_law 647 = .ok (.iadd, 1) := by decide +kernel
theorem dL_law_648 : decode cL_law 648 = .ok (.iaload, 1) := by decide +kernel
theorem dL_law_649 : decode cL_law 649 = .ok (.aload_n 3, 1) := by decide +kernel
theorem dL_law_650 : decode cL_law 650 = .ok (.invokestatic 170, 3) := by decide +kernel
theorem dL_law_653 : decode cL_law 653 = .ok (.istore 6, 2) := by decide +kernel
theorem dL_law_655 : decode cL_law 655 = .ok (.aload_n 2, 1) := by decide +kernel
theorem dL_law_656 : decode cL_law 656 = .ok (.aload_n 0, 1) := by decide +kernel
theorem dL_law_657 : decode cL_law 657 = .ok (.iload 5, 2) := by decide +kernel
theorem dL_law_659 : decode cL_law 659 = .ok (.iconst 1, 1) := by decide +kernel
theorem dL_law_660 : decode cL_law 660 = .ok (.iadd, 1) := by decide +kernel
theorem dL_law_661 : decode cL_law 661 = .ok (.iaload, 1) := by decide +kernel
theorem dL_law_662 : decode cL_law 662 = .ok (.aload_n 0, 1) := by decide +kernel
theorem dL_law_663 : decode cL_law 663 = .ok (.iload 5, 2) := by decide +kernel
theorem dL_law_665 : decode cL_law 665 = .ok (.iconst 2, 1) := by decide +kernel
theorem dL_law_666 : decode cL_law 666 = .ok (.iadd, 1) := by decide +kernel
theorem dL_law_667 : decode cL_law 667 = .ok (.iaload, 1) := by decide +kernel
theorem dL_law_668 : decode cL_law 668 = .ok (.invokevirtual 172, 3) := by decide +kernel
theorem dL_law_671 : decode cL_law 671 = .ok (.istore 7, 2) := by decide +kernel
theorem dL_law_673 : decode cL_law 673 = .ok (.aload_n 2, 1) := by decide +kernel
theorem dL_law_674 : decode cL_law 674 = .ok (.invokevirtual 152, 3) := by decide +kernel
theorem dL_law_677 : decode cL_law 677 = .ok (.iload 6, 2) := by decide +kernel
theorem dL_law_679 : decode cL_law 679 = .ok (.if_icmp .eq 5, 3) := by decide +kernel
theorem dL_law_684 : decode cL_law 684 = .ok (.iload 6, 2) := by decide +kernel
theorem dL_law_686 : decode cL_law 686 = .ok (.ifCond .ne 22, 3) := by decide +kernel
theorem dL_law_708 : decode cL_law 708 = .ok (.goto 1998, 3) := by decide +kernel
theorem dL_law_711 : decode cL_law 711 = .ok (.aload_n 1, 1) := by decide +kernel
theorem dL_law_712 : decode cL_law 712 = .ok (.aload_n 0, 1) := by decide +kernel
theorem dL_law_713 : decode cL_law 713 = .ok (.iload 5, 2) := by decide +kernel
theorem dL_law_715 : decode cL_law 715 = .ok (.iconst 1, 1) := by decide +kernel
theorem dL_law_716 : decode cL_law 716 = .ok (.iadd, 1) := by decide +kernel
theorem dL_law_717 : decode cL_law 717 = .ok (.iaload, 1) := by decide +kernel
theorem dL_law_718 : decode cL_law 718 = .ok (.aload_n 0, 1) := by decide +kernel
theorem dL_law_719 : decode cL_law 719 = .ok (.iload 5, 2) := by decide +kernel
theorem dL_law_721 : decode cL_law 721 = .ok (.iconst 2, 1) := by decide +kernel
theorem dL_law_722 : decode cL_law 722 = .ok (.iadd, 1) := by decide +kernel
theorem dL_law_723 : decode cL_law 723 = .ok (.iaload, 1) := by decide +kernel
theorem dL_law_724 : decode cL_law 724 = .ok (.aload_n 0, 1) := by decide +kernel
theorem dL_law_725 : decode cL_law 725 = .ok (.iload 5, 2) := by decide +kernel
theorem dL_law_727 : decode cL_law 727 = .ok (.iconst 3, 1) := by decide +kernel
theorem dL_law_728 : decode cL_law 728 = .ok (.iadd, 1) := by decide +kernel
theorem dL_law_729 : decode cL_law 729 = .ok (.iaload, 1) := by decide +kernel
theorem dL_law_730 : decode cL_law 730 = .ok (.aload_n 3, 1) := by decide +kernel
theorem dL_law_731 : decode cL_law 731 = .ok (.invokestatic 173, 3) := by decide +kernel
theorem dL_law_734 : decode cL_law 734 = .ok (.istore 6, 2) := by decide +kernel
theorem dL_law_736 : decode cL_law 736 = .ok (.aload_n 2, 1) := by decide +kernel
theorem dL_law_737 : decode cL_law 737 = .ok (.aload_n 0, 1) := by decide +kernel
theorem dL_law_738 : decode cL_law 738 = .ok (.iload 5, 2) := by decide +kernel
theorem dL_law_740 : decode cL_law 740 = .ok (.iconst 1, 1) := by decide +kernel
theorem dL_law_741 : decode cL_law 741 = .ok (.iadd, 1) := by decide +kernel
theorem dL_law_742 : decode cL_law 742 = .ok (.iaload, 1) := by decide +kernel
theorem dL_law_743 : decode cL_law 743 = .ok (.aload_n 0, 1) := by decide +kernel
theorem dL_law_744 : decode cL_law 744 = .ok (.iload 5, 2) := by decide +kernel
theorem dL_law_746 : decode cL_law 746 = .ok (.iconst 2, 1) := by decide +kernel
theorem dL_law_747 : decode cL_law 747 = .ok (.iadd, 1) := by decide +kernel
theorem dL_law_748 : decode cL_law 748 = .ok (.iaload, 1) := by decide +kernel
theorem dL_law_749 : decode cL_law 749 = .ok (.aload_n 0, 1) := by decide +kernel
theorem dL_law_750 : decode cL_law 750 = .ok (.iload 5, 2) := by decide +kernel
theorem dL_law_752 : decode cL_law 752 = .ok (.iconst 3, 1) := by decide +kernel
theorem dL_law_753 : decode cL_law 753 = .ok (.iadd, 1) := by decide +kernel
theorem dL_law_754 : decode cL_law 754 = .ok (.iaload, 1) := by decide +kernel
theorem dL_law_755 : decode cL_law 755 = .ok (.invokevirtual 175, 3) := by decide +kernel
theorem dL_law_758 : decode cL_law 758 = .ok (.lstore 7, 2) := by decide +kernel
theorem dL_law_760 : decode cL_law 760 = .ok (.aload_n 2, 1) := by decide +kernel
theorem dL_law_761 : decode cL_law 761 = .ok (.invokevirtual 152, 3) := by decide +kernel
theorem dL_law_764 : decode cL_law 764 = .ok (.iload 6, 2) := by decide +kernel
theorem dL_law_766 : decode cL_law 766 = .ok (.if_icmp .eq 5, 3) := by decide +kernel
theorem dL_law_771 : decode cL_law 771 = .ok (.iload 6, 2) := by decide +kernel
theorem dL_law_773 : decode cL_law 773 = .ok (.ifCond .ne 14, 3) := by decide +kernel
theorem dL_law_787 : decode cL_law 787 = .ok (.goto 1919, 3) := by decide +kernel
theorem dL_law_790 : decode cL_law 790 = .ok (.aload_n 1, 1) := by decide +kernel
theorem dL_law_791 : decode cL_law 791 = .ok (.aload_n 0, 1) := by decide +kernel
theorem dL_law_792 : decode cL_law 792 = .ok (.iload 5, 2) := by decide +kernel
theorem dL_law_794 : decode cL_law 794 = .ok (.iconst 1, 1) := by decide +kernel
theorem dL_law_795 : decode cL_law 795 = .ok (.iadd, 1) := by decide +kernel
theorem dL_law_796 : decode cL_law 796 = .ok (.iaload, 1) := by decide +kernel
theorem dL_law_797 : decode cL_law 797 = .ok (.aload_n 0, 1) := by decide +kernel
theorem dL_law_798 : decode cL_law 798 = .ok (.iload 5, 2) := by decide +kernel
theorem dL_law_800 : decode cL_law 800 = .ok (.iconst 2, 1) := by decide +kernel
theorem dL_law_801 : decode cL_law 801 = .ok (.iadd, 1) := by decide +kernel
theorem dL_law_802 : decode cL_law 802 = .ok (.iaload, 1) := by decide +kernel
theorem dL_law_803 : decode cL_law 803 = .ok (.aload_n 0, 1) := by decide +kernel
theorem dL_law_804 : decode cL_law 804 = .ok (.iload 5, 2) := by decide +kernel
theorem dL_law_806 : decode cL_law 806 = .ok (.iconst 3, 1) := by decide +kernel
theorem dL_law_807 : decode cL_law 807 = .ok (.iadd, 1) := by decide +kernel
theorem dL_law_808 : decode cL_law 808 = .ok (.iaload, 1) := by decide +kernel
theorem dL_law_809 : decode cL_law 809 = .ok (.aload_n 3, 1) := by decide +kernel
theorem dL_law_810 : decode cL_law 810 = .ok (.invokestatic 176, 3) := by decide +kernel
theorem dL_law_813 : decode cL_law 813 = .ok (.istore 6, 2) := by decide +kernel
theorem dL_law_815 : decode cL_law 815 = .ok (.aload_n 2, 1) := by decide +kernel
theorem dL_law_816 : decode cL_law 816 = .ok (.aload_n 0, 1) := by decide +kernel
theorem dL_law_817 : decode cL_law 817 = .ok (.iload 5, 2) := by decide +kernel
theorem dL_law_819 : decode cL_law 819 = .ok (.iconst 1, 1) := by decide +kernel
theorem dL_law_820 : decode cL_law 820 = .ok (.iadd, 1) := by decide +kernel
theorem dL_law_821 : decode cL_law 821 = .ok (.iaload, 1) := by decide +kernel
theorem dL_law_822 : decode cL_law 822 = .ok (.aload_n 0, 1) := by decide +kernel
theorem dL_law_823 : decode cL_law 823 = .ok (.iload 5, 2) := by decide +kernel
theorem dL_law_825 : decode cL_law 825 = .ok (.iconst 2, 1) := by decide +kernel
theorem dL_law_826 : decode cL_law 826 = .ok (.iadd, 1) := by decide +kernel
theorem dL_law_827 : decode cL_law 827 = .ok (.iaload, 1) := by decide +kernel
theorem dL_law_828 : decode cL_law 828 = .ok (.aload_n 0, 1) := by decide +kernel
theorem dL_law_829 : decode cL_law 829 = .ok (.iload 5, 2) := by decide +kernel
theorem dL_law_831 : decode cL_law 831 = .ok (.iconst 3, 1) := by decide +kernel
theorem dL_law_832 : decode cL_law 832 = .ok (.iadd, 1) := by decide +kernel
theorem dL_law_833 : decode cL_law 833 = .ok (.iaload, 1) := by decide +kernel
theorem dL_law_834 : decode cL_law 834 = .ok (.invokevirtual 178, 3) := by decide +kernel
theorem dL_law_837 : decode cL_law 837 = .ok (.lstore 7, 2) := by decide +kernel
theorem dL_law_839 : decode cL_law 839 = .ok (.aload_n 2, 1) := by decide +kernel
theorem dL_law_840 : decode cL_law 840 = .ok (.invokevirtual 152, 3) := by decide +kernel
theorem dL_law_843 : decode cL_law 843 = .ok (.iload 6, 2) := by decide +kernel
theorem dL_law_845 : decode cL_law 845 = .ok (.if_icmp .eq 5, 3) := by decide +kernel
theorem dL_law_850 : decode cL_law 850 = .ok (.iload 6, 2) := by decide +kernel
theorem dL_law_852 : decode cL_law 852 = .ok (.ifCond .ne 14, 3) := by decide +kernel
theorem dL_law_866 : decode cL_law 866 = .ok (.goto 1840, 3) := by decide +kernel
theorem dL_law_869 : decode cL_law 869 = .ok (.aload_n 1, 1) := by decide +kernel
theorem dL_law_870 : decode cL_law 870 = .ok (.aload_n 0, 1) := by decide +kernel
theorem dL_law_871 : decode cL_law 871 = .ok (.iload 5, 2) := by decide +kernel
theorem dL_law_873 : decode cL_law 873 = .ok (.iconst 1, 1) := by decide +kernel
theorem dL_law_874 : decode cL_law 874 = .ok (.iadd, 1) := by decide +kernel
theorem dL_law_875 : decode cL_law 875 = .ok (.iaload, 1) := by decide +kernel
theorem dL_law_876 : decode cL_law 876 = .ok (.aload_n 3, 1) := by decide +kernel
theorem dL_law_877 : decode cL_law 877 = .ok (.invokestatic 179, 3) := by decide +kernel
theorem dL_law_880 : decode cL_law 880 = .ok (.istore 6, 2) := by decide +kernel
theorem dL_law_882 : decode cL_law 882 = .ok (.aload_n 2, 1) := by decide +kernel
theorem dL_law_883 : decode cL_law 883 = .ok (.aload_n 0, 1) := by decide +kernel
theorem dL_law_884 : decode cL_law 884 = .ok (.iload 5, 2) := by decide +kernel
theorem dL_law_886 : decode cL_law 886 = .ok (.iconst 1, 1) := by decide +kernel
theorem dL_law_887 : decode cL_law 887 = .ok (.iadd, 1) := by decide +kernel
theorem dL_law_888 : decode cL_law 888 = .ok (.iaload, 1) := by decide +kernel
theorem dL_law_889 : decode cL_law 889 = .ok (.invokevirtual 182, 3) := by decide +kernel
theorem dL_law_892 : decode cL_law 892 = .ok (.istore 7, 2) := by decide +kernel
theorem dL_law_894 : decode cL_law 894 = .ok (.aload_n 2, 1) := by decide +kernel
theorem dL_law_895 : decode cL_law 895 = .ok (.invokevirtual 152, 3) := by decide +kernel
theorem dL_law_898 : decode cL_law 898 = .ok (.iload 6, 2) := by decide +kernel
theorem dL_law_900 : decode cL_law 900 = .ok (.if_icmp .eq 5, 3) := by decide +kernel
theorem dL_law_905 : decode cL_law 905 = .ok (.iload 6, 2) := by decide +kernel
theorem dL_law_907 : decode cL_law 907 = .ok (.ifCond .ne 15, 3) := by decide +kernel
theorem dL_law_910 : decode cL_law 910 = .ok (.aload_n 3, 1) := by decide +kernel
theorem dL_law_911 : decode cL_law 911 = .ok (.iconst 0, 1) := by decide +kernel
theorem dL_law_912 : decode cL_law 912 = .ok (.laload, 1) := by decide +kernel
theorem dL_law_913 : decode cL_law 913 = .ok (.iload 7, 2) := by decide +kernel
theorem dL_law_915 : decode cL_law 915 = .ok (.i2l, 1) := by decide +kernel
theorem dL_law_916 : decode cL_law 916 = .ok (.lcmp, 1) := by decide +kernel
theorem dL_law_917 : decode cL_law 917 = .ok (.ifCond .eq 5, 3) := by decide +kernel
theorem dL_law_922 : decode cL_law 922 = .ok (.goto 1784, 3) := by decide +kernel
theorem dL_law_925 : decode cL_law 925 = .ok (.aload_n 1, 1) := by decide +kernel
theorem dL_law_926 : decode cL_law 926 = .ok (.aload_n 0, 1) := by decide +kernel
theorem dL_law_927 : decode cL_law 927 = .ok (.iload 5, 2) := by decide +kernel
theorem dL_law_929 : decode cL_law 929 = .ok (.iconst 1, 1) := by decide +kernel
theorem dL_law_930 : decode cL_law 930 = .ok (.iadd, 1) := by decide +kernel
theorem dL_law_931 : decode cL_law 931 = .ok (.iaload, 1) := by decide +kernel
theorem dL_law_932 : decode cL_law 932 = .ok (.aload_n 0, 1) := by decide +kernel
theorem dL_law_933 : decode cL_law 933 = .ok (.iload 5, 2) := by decide +kernel
theorem dL_law_935 : decode cL_law 935 = .ok (.iconst 2, 1) := by decide +kernel
theorem dL_law_936 : decode cL_law 936 = .ok (.iadd, 1) := by decide +kernel
theorem dL_law_937 : decode cL_law 937 = .ok (.iaload, 1) := by decide +kernel
theorem dL_law_938 : decode cL_law 938 = .ok (.aload_n 3, 1) := by decide +kernel
theorem dL_law_939 : decode cL_law 939 = .ok (.invokestatic 183, 3) := by decide +kernel
theorem dL_law_942 : decode cL_law 942 = .ok (.istore 6, 2) := by decide +kernel
theorem dL_law_944 : decode cL_law 944 = .ok (.aload_n 2, 1) := by decide +kernel
theorem dL_law_945 : decode cL_law 945 = .ok (.aload_n 0, 1) := by decide +kernel
theorem dL_law_946 : decode cL_law 946 = .ok (.iload 5, 2) := by decide +kernel
theorem dL_law_948 : decode cL_law 948 = .ok (.iconst 1, 1) := by decide +kernel
theorem dL_law_949 : decode cL_law 949 = .ok (.iadd, 1) := by decide +kernel
theorem dL_law_950 : decode cL_law 950 = .ok (.iaload, 1) := by decide +kernel
theorem dL_law_951 : decode cL_law 951 = .ok (.aload_n 0, 1) := by decide +kernel
theorem dL_law_952 : decode cL_law 952 = .ok (.iload 5, 2) := by decide +kernel
theorem dL_law_954 : decode cL_law 954 = .ok (.iconst 2, 1) := by decide +kernel
theorem dL_law_955 : decode cL_law 955 = .ok (.iadd, 1) := by decide +kernel
theorem dL_law_956 : decode cL_law 956 = .ok (.iaload, 1) := by decide +kernel
theorem dL_law_957 : decode cL_law 957 = .ok (.invokevirtual 185, 3) := by decide +kernel
theorem dL_law_960 : decode cL_law 960 = .ok (.lstore 7, 2) := by decide +kernel
theorem dL_law_962 : decode cL_law 962 = .ok (.aload_n 2, 1) := by decide +kernel
theorem dL_law_963 : decode cL_law 963 = .ok (.invokevirtual 152, 3) := by decide +kernel
theorem dL_law_966 : decode cL_law 966 = .ok (.iload 6, 2) := by decide +kernel
theorem dL_law_968 : decode cL_law 968 = .ok (.if_icmp .eq 5, 3) := by decide +kernel
theorem dL_law_973 : decode cL_law 973 = .ok (.iload 6, 2) := by decide +kernel
theorem dL_law_975 : decode cL_law 975 = .ok (.ifCond .ne 14, 3) := by decide +kernel
theorem dL_law_989 : decode cL_law 989 = .ok (.goto 1717, 3) := by decide +kernel
theorem dL_law_992 : decode cL_law 992 = .ok (.aload_n 1, 1) := by decide +kernel
theorem dL_law_993 : decode cL_law 993 = .ok (.aload_n 0, 1) := by decide +kernel
theorem dL_law_994 : decode cL_law 994 = .ok (.iload 5, 2) := by decide +kernel
theorem dL_law_996 : decode cL_law 996 = .ok (.iconst 1, 1) := by decide +kernel
theorem dL_law_997 : decode cL_law 997 = .ok (.iadd, 1) := by decide +kernel
theorem dL_law_998 : decode cL_law 998 = .ok (.iaload, 1) := by decide +kernel
theorem dL_law_999 : decode cL_law 999 = .ok (.aload_n 3, 1) := by decide +kernel
theorem dL_law_1000 : decode cL_law 1000 = .ok (.invokestatic 186, 3) := by decide +kernel
theorem dL_law_1003 : decode cL_law 1003 = .ok (.istore 6, 2) := by decide +kernel
theorem dL_law_1005 : decode cL_law 1005 = .ok (.aload_n 2, 1) := by decide +kernel
theorem dL_law_1006 : decode cL_law 1006 = .ok (.aload_n 0, 1) := by decide +kernel
theorem dL_law_1007 : decode cL_law 1007 = .ok (.iload 5, 2) := by decide +kernel
theorem dL_law_1009 : decode cL_law 1009 = .ok (.iconst 1, 1) := by decide +kernel
theorem dL_law_1010 : decode cL_law 1010 = .ok (.iadd, 1) := by decide +kernel
theorem dL_law_1011 : decode cL_law 1011 = .ok (.iaload, 1) := by decide +kernel
theorem dL_law_1012 : decode cL_law 1012 = .ok (.invokevirtual 188, 3) := by decide +kernel
theorem dL_law_1015 : decode cL_law 1015 = .ok (.lstore 7, 2) := by decide +kernel
theorem dL_law_1017 : decode cL_law 1017 = .ok (.aload_n 2, 1) := by decide +kernel
theorem dL_law_1018 : decode cL_law 1018 = .ok (.invokevirtual 152, 3) := by decide +kernel
theorem dL_law_1021 : decode cL_law 1021 = .ok (.iload 6, 2) := by decide +kernel
theorem dL_law_1023 : decode cL_law 1023 = .ok (.if_icmp .eq 5, 3) := by decide +kernel
theorem dL_law_1028 : decode cL_law 1028 = .ok (.iload 6, 2) := by decide +kernel
theorem dL_law_1030 : decode cL_law 1030 = .ok (.ifCond .ne 14, 3) := by decide +kernel
theorem dL_law_1033 : decode cL_law 1033 = .ok (.aload_n 3, 1) := by decide +kernel
theorem dL_law_1034 : decode cL_law 1034 = .ok (.iconst 0, 1) := by decide +kernel
theorem dL_law_1035 : decode cL_law 1035 = .ok (.laload, 1) := by decide +kernel
theorem dL_law_1036 : decode cL_law 1036 = .ok (.lload 7, 2) := by decide +kernel
theorem dL_law_1038 : decode cL_law 1038 = .ok (.lcmp, 1) := by decide +kernel
theorem dL_law_1039 : decode cL_law 1039 = .ok (.ifCond .eq 5, 3) := by decide +kernel
theorem dL_law_1044 : decode cL_law 1044 = .ok (.goto 1662, 3) := by decide +kernel
theorem dL_law_1047 : decode cL_law 1047 = .ok (.aload_n 1, 1) := by decide +kernel
theorem dL_law_1048 : decode cL_law 1048 = .ok (.aload_n 0, 1) := by decide +kernel
theorem dL_law_1049 : decode cL_law 1049 = .ok (.iload 5, 2) := by decide +kernel
theorem dL_law_1051 : decode cL_law 1051 = .ok (.iconst 1, 1) := by decide +kernel
theorem dL_law_1052 : decode cL_law 1052 = .ok (.iadd, 1) := by decide +kernel
theorem dL_law_1053 : decode cL_law 1053 = .ok (.iaload, 1) := by decide +kernel
theorem dL_law_1054 : decode cL_law 1054 = .ok (.aload_n 3, 1) := by decide +kernel
theorem dL_law_1055 : decode cL_law 1055 = .ok (.invokestatic 189, 3) := by decide +kernel
theorem dL_law_1058 : decode cL_law 1058 = .ok (.istore 6, 2) := by decide +kernel
theorem dL_law_1060 : decode cL_law 1060 = .ok (.aload_n 2, 1) := by decide +kernel
theorem dL_law_1061 : decode cL_law 1061 = .ok (.aload_n 0, 1) := by decide +kernel
theorem dL_law_1062 : decode cL_law 1062 = .ok (.iload 5, 2) := by decide +kernel
theorem dL_law_1064 : decode cL_law 1064 = .ok (.iconst 1, 1) := by decide +kernel
theorem dL_law_1065 : decode cL_law 1065 = .ok (.iadd, 1) := by decide +kernel
theorem dL_law_1066 : decode cL_law 1066 = .ok (.iaload, 1) := by decide +kernel
theorem dL_law_1067 : decode cL_law 1067 = .ok (.invokevirtual 191, 3) := by decide +kernel
theorem dL_law_1070 : decode cL_law 1070 = .ok (.istore 7, 2) := by decide +kernel
theorem dL_law_1072 : decode cL_law 1072 = .ok (.aload_n 2, 1) := by decide +kernel
theorem dL_law_1073 : decode cL_law 1073 = .ok (.invokevirtual 152, 3) := by decide +kernel
theorem dL_law_1076 : decode cL_law 1076 = .ok (.iload 6, 2) := by decide +kernel
theorem dL_law_1078 : decode cL_law 1078 = .ok (.if_icmp .eq 5, 3) := by decide +kernel
theorem dL_law_1083 : decode cL_law 1083 = .ok (.iload 6, 2) := by decide +kernel
theorem dL_law_1085 : decode cL_law 1085 = .ok (.ifCond .ne 15, 3) := by decide +kernel
theorem dL_law_1100 : decode cL_law 1100 = .ok (.goto 1606, 3) := by decide +kernel
theorem dL_law_1103 : decode cL_law 1103 = .ok (.aload_n 1, 1) := by decide +kernel
theorem dL_law_1104 : decode cL_law 1104 = .ok (.aload_n 0, 1) := by decide +kernel
theorem dL_law_1105 : decode cL_law 1105 = .ok (.iload 5, 2) := by decide +kernel
theorem dL_law_1107 : decode cL_law 1107 = .ok (.iconst 1, 1) := by decide +kernel
theorem dL_law_1108 : decode cL_law 1108 = .ok (.iadd, 1) := by decide +kernel
theorem dL_law_1109 : decode cL_law 1109 = .ok (.iaload, 1) := by decide +kernel
theorem dL_law_1110 : decode cL_law 1110 = .ok (.aload_n 3, 1) := by decide +kernel
theorem dL_law_1111 : decode cL_law 1111 = .ok (.invokestatic 192, 3) := by decide +kernel
theorem dL_law_1114 : decode cL_law 1114 = .ok (.istore 6, 2) := by decide +kernel
theorem dL_law_1116 : decode cL_law 1116 = .ok (.aload_n 2, 1) := by decide +kernel
theorem dL_law_1117 : decode cL_law 1117 = .ok (.aload_n 0, 1) := by decide +kernel
theorem dL_law_1118 : decode cL_law 1118 = .ok (.iload 5, 2) := by decide +kernel
theorem dL_law_1120 : decode cL_law 1120 = .ok (.iconst 1, 1) := by decide +kernel
theorem dL_law_1121 : decode cL_law 1121 = .ok (.iadd, 1) := by decide +kernel
theorem dL_law_1122 : decode cL_law 1122 = .ok (.iaload, 1) := by decide +kernel
theorem dL_law_1123 : decode cL_law 1123 = .ok (.invokevirtual 194, 3) := by decide +kernel
theorem dL_law_1126 : decode cL_law 1126 = .ok (.istore 7, 2) := by decide +kernel
theorem dL_law_1128 : decode cL_law 1128 = .ok (.aload_n 2, 1) := by decide +kernel
theorem dL_law_1129 : decode cL_law 1129 = .ok (.invokevirtual 152, 3) := by decide +kernel
theorem dL_law_1132 : decode cL_law 1132 = .ok (.iload 6, 2) := by decide +kernel
theorem dL_law_1134 : decode cL_law 1134 = .ok (.if_icmp .eq 5, 3) := by decide +kernel
theorem dL_law_1139 : decode cL_law 1139 = .ok (.iload 6, 2) := by decide +kernel
theorem dL_law_1141 : decode cL_law 1141 = .ok (.ifCond .ne 15, 3) := by decide +kernel
theorem dL_law_1144 : decode cL_law 1144 = .ok (.aload_n 3, 1) := by decide +kernel
theorem dL_law_1145 : decode cL_law 1145 = .ok (.iconst 0, 1) := by decide +kernel
theorem dL_law_1146 : decode cL_law 1146 = .ok (.laload, 1) := by decide +kernel
theorem dL_law_1147 : decode cL_law 1147 = .ok (.iload 7, 2) := by decide +kernel
theorem dL_law_1149 : decode cL_law 1149 = .ok (.i2l, 1) := by decide +kernel
theorem dL_law_1150 : decode cL_law 1150 = .ok (.lcmp, 1) := by decide +kernel
theorem dL_law_1151 : decode cL_law 1151 = .ok (.ifCond .eq 5, 3) := by decide +kernel
theorem dL_law_1156 : decode cL_law 1156 = .ok (.goto 1550, 3) := by decide +kernel
theorem dL_law_1159 : decode cL_law 1159 = .ok (.aload_n 1, 1) := by decide +kernel
theorem dL_law_1160 : decode cL_law 1160 = .ok (.aload_n 0, 1) := by decide +kernel
theorem dL_law_1161 : decode cL_law 1161 = .ok (.iload 5, 2) := by decide +kernel
theorem dL_law_1163 : decode cL_law 1163 = .ok (.iconst 1, 1) := by decide +kernel
theorem dL_law_1164 : decode cL_law 1164 = .ok (.iadd, 1) := by decide +kernel
theorem dL_law_1165 : decode cL_law 1165 = .ok (.iaload, 1) := by decide +kernel
theorem dL_law_1166 : decode cL_law 1166 = .ok (.aload_n 3, 1) := by decide +kernel
theorem dL_law_1167 : decode cL_law 1167 = .ok (.invokestatic 195, 3) := by decide +kernel
theorem dL_law_1170 : decode cL_law 1170 = .ok (.istore 6, 2) := by decide +kernel
theorem dL_law_1172 : decode cL_law 1172 = .ok (.aload_n 2, 1) := by decide +kernel
theorem dL_law_1173 : decode cL_law 1173 = .ok (.aload_n 0, 1) := by decide +kernel
theorem dL_law_1174 : decode cL_law 1174 = .ok (.iload 5, 2) := by decide +kernel
theorem dL_law_1176 : decode cL_law 1176 = .ok (.iconst 1, 1) := by decide +kernel
theorem dL_law_1177 : decode cL_law 1177 = .ok (.iadd, 1) := by decide +kernel
theorem dL_law_1178 : decode cL_law 1178 = .ok (.iaload, 1) := by decide +kernel
theorem dL_law_1179 : decode cL_law 1179 = .ok (.invokevirtual 197, 3) := by decide +kernel
theorem dL_law_1182 : decode cL_law 1182 = .ok (.lstore 7, 2) := by decide +kernel
theorem dL_law_1184 : decode cL_law 1184 = .ok (.aload_n 2, 1) := by decide +kernel
theorem dL_law_1185 : decode cL_law 1185 = .ok (.invokevirtual 152, 3) := by decide +kernel
theorem dL_law_1188 : decode cL_law 1188 = .ok (.iload 6, 2) := by decide +kernel
theorem dL_law_1190 : decode cL_law 1190 = .ok (.if_icmp .eq 5, 3) := by decide +kernel
theorem dL_law_1195 : decode cL_law 1195 = .ok (.iload 6, 2) := by decide +kernel
theorem dL_law_1197 : decode cL_law 1197 = .ok (.ifCond .ne 14, 3) := by decide +kernel
theorem dL_law_1200 : decode cL_law 1200 = .ok (.aload_n 3, 1) := by decide +kernel
theorem dL_law_1201 : decode cL_law 1201 = .ok (.iconst 0, 1) := by decide +kernel
theorem dL_law_1202 : decode cL_law 1202 = .ok (.laload, 1) := by decide +kernel
theorem dL_law_1203 : decode cL_law 1203 = .ok (.lload 7, 2) := by decide +kernel
theorem dL_law_1205 : decode cL_law 1205 = .ok (.lcmp, 1) := by decide +kernel
theorem dL_law_1206 : decode cL_law 1206 = .ok (.ifCond .eq 5, 3) := by decide +kernel
theorem dL_law_1211 : decode cL_law 1211 = .ok (.goto 1495, 3) := by decide +kernel
theorem dL_law_1214 : decode cL_law 1214 = .ok (.aload_n 1, 1) := by decide +kernel
theorem dL_law_1215 : decode cL_law 1215 = .ok (.aload_n 0, 1) := by decide +kernel
theorem dL_law_1216 : decode cL_law 1216 = .ok (.iload 5, 2) := by decide +kernel
theorem dL_law_1218 : decode cL_law 1218 = .ok (.iconst 1, 1) := by decide +kernel
theorem dL_law_1219 : decode cL_law 1219 = .ok (.iadd, 1) := by decide +kernel
theorem dL_law_1220 : decode cL_law 1220 = .ok (.iaload, 1) := by decide +kernel
theorem dL_law_1221 : decode cL_law 1221 = .ok (.aload_n 0, 1) := by decide +kernel
theorem dL_law_1222 : decode cL_law 1222 = .ok (.iload 5, 2) := by decide +kernel
theorem dL_law_1224 : decode cL_law 1224 = .ok (.iconst 2, 1) := by decide +kernel
theorem dL_law_1225 : decode cL_law 1225 = .ok (.iadd, 1) := by decide +kernel
theorem dL_law_1226 : decode cL_law 1226 = .ok (.iaload, 1) := by decide +kernel
theorem dL_law_1227 : decode cL_law 1227 = .ok (.aload_n 3, 1) := by decide +kernel
theorem dL_law_1228 : decode cL_law 1228 = .ok (.invokestatic 198, 3) := by decide +kernel
theorem dL_law_1231 : decode cL_law 1231 = .ok (.istore 6, 2) := by decide +kernel
theorem dL_law_1233 : decode cL_law 1233 = .ok (.aload_n 2, 1) := by decide +kernel
theorem dL_law_1234 : decode cL_law 1234 = .ok (.aload_n 0, 1) := by decide +kernel
theorem dL_law_1235 : decode cL_law 1235 = .ok (.iload 5, 2) := by decide +kernel
theorem dL_law_1237 : decode cL_law 1237 = .ok (.iconst 1, 1) := by decide +kernel
theorem dL_law_1238 : decode cL_law 1238 = .ok (.iadd, 1) := by decide +kernel
theorem dL_law_1239 : decode cL_law 1239 = .ok (.iaload, 1) := by decide +kernel
theorem dL_law_1240 : decode cL_law 1240 = .ok (.aload_n 0, 1) := by decide +kernel
theorem dL_law_1241 : decode cL_law 1241 = .ok (.iload 5, 2) := by decide +kernel
theorem dL_law_1243 : decode cL_law 1243 = .ok (.iconst 2, 1) := by decide +kernel
theorem dL_law_1244 : decode cL_law 1244 = .ok (.iadd, 1) := by decide +kernel
theorem dL_law_1245 : decode cL_law 1245 = .ok (.iaload, 1) := by decide +kernel
theorem dL_law_1246 : decode cL_law 1246 = .ok (.invokevirtual 200, 3) := by decide +kernel
theorem dL_law_1249 : decode cL_law 1249 = .ok (.istore 7, 2) := by decide +kernel
theorem dL_law_1251 : decode cL_law 1251 = .ok (.aload_n 2, 1) := by decide +kernel
theorem dL_law_1252 : decode cL_law 1252 = .ok (.invokevirtual 152, 3) := by decide +kernel
theorem dL_law_1255 : decode cL_law 1255 = .ok (.iload 6, 2) := by decide +kernel
theorem dL_law_1257 : decode cL_law 1257 = .ok (.if_icmp .eq 5, 3) := by decide +kernel
theorem dL_law_1262 : decode cL_law 1262 = .ok (.iload 6, 2) := by decide +kernel
theorem dL_law_1264 : decode cL_law 1264 = .ok (.ifCond .ne 15, 3) := by decide +kernel
theorem dL_law_1279 : decode cL_law 1279 = .ok (.goto 1427, 3) := by decide +kernel
theorem dL_law_1282 : decode cL_law 1282 = .ok (.aload_n 1, 1) := by decide +kernel
theorem dL_law_1283 : decode cL_law 1283 = .ok (.aload_n 0, 1) := by decide +kernel
theorem dL_law_1284 : decode cL_law 1284 = .ok (.iload 5, 2) := by decide +kernel
theorem dL_law_1286 : decode cL_law 1286 = .ok (.iconst 1, 1) := by decide +kernel
theorem dL_law_1287 : decode cL_law 1287 = .ok (.iadd, 1) := by decide +kernel
theorem dL_law_1288 : decode cL_law 1288 = .ok (.iaload, 1) := by decide +kernel
theorem dL_law_1289 : decode cL_law 1289 = .ok (.aload_n 0, 1) := by decide +kernel
theorem dL_law_1290 : decode cL_law 1290 = .ok (.iload 5, 2) := by decide +kernel
theorem dL_law_1292 : decode cL_law 1292 = .ok (.iconst 2, 1) := by decide +kernel
theorem dL_law_1293 : decode cL_law 1293 = .ok (.iadd, 1) := by decide +kernel
theorem dL_law_1294 : decode cL_law 1294 = .ok (.iaload, 1) := by decide +kernel
theorem dL_law_1295 : decode cL_law 1295 = .ok (.aload_n 0, 1) := by decide +kernel
theorem dL_law_1296 : decode cL_law 1296 = .ok (.iload 5, 2) := by decide +kernel
theorem dL_law_1298 : decode cL_law 1298 = .ok (.iconst 3, 1) := by decide +kernel
theorem dL_law_1299 : decode cL_law 1299 = .ok (.iadd, 1) := by decide +kernel
theorem dL_law_1300 : decode cL_law 1300 = .ok (.iaload, 1) := by decide +kernel
theorem dL_law_1301 : decode cL_law 1301 = .ok (.aload_n 0, 1) := by decide +kernel
theorem dL_law_1302 : decode cL_law 1302 = .ok (.iload 5, 2) := by decide +kernel
theorem dL_law_1304 : decode cL_law 1304 = .ok (.iconst 4, 1) := by decide +kernel
theorem dL_law_1305 : decode cL_law 1305 = .ok (.iadd, 1) := by decide +kernel
theorem dL_law_1306 : decode cL_law 1306 = .ok (.iaload, 1) := by decide +kernel
theorem dL_law_1307 : decode cL_law 1307 = .ok (.aload_n 3, 1) := by decide +kernel
theorem dL_law_1308 : decode cL_law 1308 = .ok (.invokestatic 201, 3) := by decide +kernel
theorem dL_law_1311 : decode cL_law 1311 = .ok (.istore 6, 2) := by decide +kernel
theorem dL_law_1313 : decode cL_law 1313 = .ok (.aload_n 2, 1) := by decide +kernel
theorem dL_law_1314 : decode cL_law 1314 = .ok (.aload_n 0, 1) := by decide +kernel
theorem dL_law_1315 : decode cL_law 1315 = .ok (.iload 5, 2) := by decide +kernel
theorem dL_law_1317 : decode cL_law 1317 = .ok (.iconst 1, 1) := by decide +kernel
theorem dL_law_1318 : decode cL_law 1318 = .ok (.iadd, 1) := by decide +kernel
theorem dL_law_1319 : decode cL_law 1319 = .ok (.iaload, 1) := by decide +kernel
theorem dL_law_1320 : decode cL_law 1320 = .ok (.aload_n 0, 1) := by decide +kernel
theorem dL_law_1321 : decode cL_law 1321 = .ok (.iload 5, 2) := by decide +kernel
theorem dL_law_1323 : decode cL_law 1323 = .ok (.iconst 2, 1) := by decide +kernel
theorem dL_law_1324 : decode cL_law 1324 = .ok (.iadd, 1) := by decide +kernel
theorem dL_law_1325 : decode cL_law 1325 = .ok (.iaload, 1) := by decide +kernel
theorem dL_law_1326 : decode cL_law 1326 = .ok (.aload_n 0, 1) := by decide +kernel
theorem dL_law_1327 : decode cL_law 1327 = .ok (.iload 5, 2) := by decide +kernel
theorem dL_law_1329 : decode cL_law 1329 = .ok (.iconst 3, 1) := by decide +kernel
theorem dL_law_1330 : decode cL_law 1330 = .ok (.iadd, 1) := by decide +kernel
theorem dL_law_1331 : decode cL_law 1331 = .ok (.iaload, 1) := by decide +kernel
theorem dL_law_1332 : decode cL_law 1332 = .ok (.aload_n 0, 1) := by decide +kernel
theorem dL_law_1333 : decode cL_law 1333 = .ok (.iload 5, 2) := by decide +kernel
theorem dL_law_1335 : decode cL_law 1335 = .ok (.iconst 4, 1) := by decide +kernel
theorem dL_law_1336 : decode cL_law 1336 = .ok (.iadd, 1) := by decide +kernel
theorem dL_law_1337 : decode cL_law 1337 = .ok (.iaload, 1) := by decide +kernel
theorem dL_law_1338 : decode cL_law 1338 = .ok (.invokevirtual 204, 3) := by decide +kernel
theorem dL_law_1341 : decode cL_law 1341 = .ok (.istore 7, 2) := by decide +kernel
theorem dL_law_1343 : decode cL_law 1343 = .ok (.aload_n 2, 1) := by decide +kernel
theorem dL_law_1344 : decode cL_law 1344 = .ok (.invokevirtual 152, 3) := by decide +kernel
theorem dL_law_1347 : decode cL_law 1347 = .ok (.iload 6, 2) := by decide +kernel
theorem dL_law_1349 : decode cL_law 1349 = .ok (.if_icmp .eq 5, 3) := by decide +kernel
theorem dL_law_1354 : decode cL_law 1354 = .ok (.iload 6, 2) := by decide +kernel
theorem dL_law_1356 : decode cL_law 1356 = .ok (.ifCond .ne 15, 3) := by decide +kernel
theorem dL_law_1371 : decode cL_law 1371 = .ok (.goto 1335, 3) := by decide +kernel
theorem dL_law_1374 : decode cL_law 1374 = .ok (.aload_n 1, 1) := by decide +kernel
theorem dL_law_1375 : decode cL_law 1375 = .ok (.aload_n 0, 1) := by decide +kernel
theorem dL_law_1376 : decode cL_law 1376 = .ok (.iload 5, 2) := by decide +kernel
theorem dL_law_1378 : decode cL_law 1378 = .ok (.iconst 1, 1) := by decide +kernel
theorem dL_law_1379 : decode cL_law 1379 = .ok (.iadd, 1) := by decide +kernel
theorem dL_law_1380 : decode cL_law 1380 = .ok (.iaload, 1) := by decide +kernel
theorem dL_law_1381 : decode cL_law 1381 = .ok (.aload_n 0, 1) := by decide +kernel
theorem dL_law_1382 : decode cL_law 1382 = .ok (.iload 5, 2) := by decide +kernel
theorem dL_law_1384 : decode cL_law 1384 = .ok (.iconst 2, 1) := by decide +kernel
theorem dL_law_1385 : decode cL_law 1385 = .ok (.iadd, 1) := by decide +kernel
theorem dL_law_1386 : decode cL_law 1386 = .ok (.iaload, 1) := by decide +kernel
theorem dL_law_1387 : decode cL_law 1387 = .ok (.aload_n 3, 1) := by decide +kernel
theorem dL_law_1388 : decode cL_law 1388 = .ok (.invokestatic 205, 3) := by decide +kernel
theorem dL_law_1391 : decode cL_law 1391 = .ok (.istore 6, 2) := by decide +kernel
theorem dL_law_1393 : decode cL_law 1393 = .ok (.aload_n 2, 1) := by decide +kernel
theorem dL_law_1394 : decode cL_law 1394 = .ok (.aload_n 0, 1) := by decide +kernel
theorem dL_law_1395 : decode cL_law 1395 = .ok (.iload 5, 2) := by decide +kernel
theorem dL_law_1397 : decode cL_law 1397 = .ok (.iconst 1, 1) := by decide +kernel
theorem dL_law_1398 : decode cL_law 1398 = .ok (.iadd, 1) := by decide +kernel
theorem dL_law_1399 : decode cL_law 1399 = .ok (.iaload, 1) := by decide +kernel
theorem dL_law_1400 : decode cL_law 1400 = .ok (.aload_n 0, 1) := by decide +kernel
theorem dL_law_1401 : decode cL_law 1401 = .ok (.iload 5, 2) := by decide +kernel
theorem dL_law_1403 : decode cL_law 1403 = .ok (.iconst 2, 1) := by decide +kernel
theorem dL_law_1404 : decode cL_law 1404 = .ok (.iadd, 1) := by decide +kernel
theorem dL_law_1405 : decode cL_law 1405 = .ok (.iaload, 1) := by decide +kernel
theorem dL_law_1406 : decode cL_law 1406 = .ok (.invokevirtual 207, 3) := by decide +kernel
theorem dL_law_1409 : decode cL_law 1409 = .ok (.istore 7, 2) := by decide +kernel
theorem dL_law_1411 : decode cL_law 1411 = .ok (.aload_n 2, 1) := by decide +kernel
theorem dL_law_1412 : decode cL_law 1412 = .ok (.invokevirtual 152, 3) := by decide +kernel
theorem dL_law_1415 : decode cL_law 1415 = .ok (.iload 6, 2) := by decide +kernel
theorem dL_law_1417 : decode cL_law 1417 = .ok (.if_icmp .eq 5, 3) := by decide +kernel
theorem dL_law_1422 : decode cL_law 1422 = .ok (.iload 6, 2) := by decide +kernel
theorem dL_law_1424 : decode cL_law 1424 = .ok (.ifCond .ne 15, 3) := by decide +kernel
theorem dL_law_1439 : decode cL_law 1439 = .ok (.goto 1267, 3) := by decide +kernel
theorem dL_law_1442 : decode cL_law 1442 = .ok (.aload_n 1, 1) := by decide +kernel
theorem dL_law_1443 : decode cL_law 1443 = .ok (.aload_n 0, 1) := by decide +kernel
theorem dL_law_1444 : decode cL_law 1444 = .ok (.iload 5, 2) := by decide +kernel
theorem dL_law_1446 : decode cL_law 1446 = .ok (.iconst 1, 1) := by decide +kernel
theorem dL_law_1447 : decode cL_law 1447 = .ok (.iadd, 1) := by decide +kernel
theorem dL_law_1448 : decode cL_law 1448 = .ok (.iaload, 1) := by decide +kernel
theorem dL_law_1449 : decode cL_law 1449 = .ok (.aload_n 0, 1) := by decide +kernel
theorem dL_law_1450 : decode cL_law 1450 = .ok (.iload 5, 2) := by decide +kernel
theorem dL_law_1452 : decode cL_law 1452 = .ok (.iconst 2, 1) := by decide +kernel
theorem dL_law_1453 : decode cL_law 1453 = .ok (.iadd, 1) := by decide +kernel
theorem dL_law_1454 : decode cL_law 1454 = .ok (.iaload, 1) := by decide +kernel
theorem dL_law_1455 : decode cL_law 1455 = .ok (.aload_n 3, 1) := by decide +kernel
theorem dL_law_1456 : decode cL_law 1456 = .ok (.invokestatic 208, 3) := by decide +kernel
theorem dL_law_1459 : decode cL_law 1459 = .ok (.istore 6, 2) := by decide +kernel
theorem dL_law_1461 : decode cL_law 1461 = .ok (.aload_n 2, 1) := by decide +kernel
theorem dL_law_1462 : decode cL_law 1462 = .ok (.aload_n 0, 1) := by decide +kernel
theorem dL_law_1463 : decode cL_law 1463 = .ok (.iload 5, 2) := by decide +kernel
theorem dL_law_1465 : decode cL_law 1465 = .ok (.iconst 1, 1) := by decide +kernel
theorem dL_law_1466 : decode cL_law 1466 = .ok (.iadd, 1) := by decide +kernel
theorem dL_law_1467 : decode cL_law 1467 = .ok (.iaload, 1) := by decide +kernel
theorem dL_law_1468 : decode cL_law 1468 = .ok (.aload_n 0, 1) := by decide +kernel
theorem dL_law_1469 : decode cL_law 1469 = .ok (.iload 5, 2) := by decide +kernel
theorem dL_law_1471 : decode cL_law 1471 = .ok (.iconst 2, 1) := by decide +kernel
theorem dL_law_1472 : decode cL_law 1472 = .ok (.iadd, 1) := by decide +kernel
theorem dL_law_1473 : decode cL_law 1473 = .ok (.iaload, 1) := by decide +kernel
theorem dL_law_1474 : decode cL_law 1474 = .ok (.invokevirtual 210, 3) := by decide +kernel
theorem dL_law_1477 : decode cL_law 1477 = .ok (.istore 7, 2) := by decide +kernel
theorem dL_law_1479 : decode cL_law 1479 = .ok (.aload_n 2, 1) := by decide +kernel
theorem dL_law_1480 : decode cL_law 1480 = .ok (.invokevirtual 152, 3) := by decide +kernel
theorem dL_law_1483 : decode cL_law 1483 = .ok (.iload 6, 2) := by decide +kernel
theorem dL_law_1485 : decode cL_law 1485 = .ok (.if_icmp .eq 5, 3) := by decide +kernel
theorem dL_law_1490 : decode cL_law 1490 = .ok (.iload 6, 2) := by decide +kernel
theorem dL_law_1492 : decode cL_law 1492 = .ok (.ifCond .ne 15, 3) := by decide +kernel
theorem dL_law_1507 : decode cL_law 1507 = .ok (.goto 1199, 3) := by decide +kernel

/-! ===== the law's own body ===== -/
/-- what stands all through the law's run: the code, the words, the picture of what is not the run's own, the script -/
def zLaw (l : Launch) (p : Program) (s : State) (m : MethodId) (c : Code) (D : va_G) (cy : Nat → ClassId) (A : Nat → Prop) (b L : Nat) (xs : Nat → Int32) : Prop :=
  p.tables.exec = Jvm.exec ∧ c.code = cL_law ∧ c.maxLocals = 9 ∧ s.vm.findClass RL = some m.cls ∧ (∀ w ∈ wAll, w.before #[Value.ref b] s = true) ∧ va_K D vwCl (tyA cy) s ∧ zX s ∧ zY A s s.heap ∧ (∀ q : Nat, s.heap.size ≤ q → A q) ∧ va_X b L xs s s.heap ∧ b < s.heap.size ∧ ¬ A b ∧ l.stackTraces = false
theorem z_rng (x M : Int32) : (x < 0 ∨ ¬ x ≤ M) ∨ (¬ x < 0 ∧ x ≤ M) := by
  by_cases h1 : x < 0
  · exact Or.inl (Or.inl h1)
  · by_cases h2 : x ≤ M
    · exact Or.inr ⟨h1, h2⟩
    · exact Or.inl (Or.inr h2)
theorem z_nat {x M : Int32} {n : Nat} (hM : M.toInt = n) (h1 : ¬ x < 0) (h2 : x ≤ M) : ∃ k : Nat, k < n + 1 ∧ x = nI k := by
  obtain ⟨k, hk, e⟩ := nI_of2 hM h1 h2
  exact ⟨k, by omega, e⟩
/-- the world at the head of the law's loop: the class's object, the reference, the two places for answers -/
abbrev zW (cy : Nat → ClassId) (x0 g0 o1 o2 : Nat) (ux : (Nat → Nat) × ((Nat → Nat) × (Nat → Nat)) × ((Nat → Nat) × (Nat → Nat) × (Nat → Nat)) × ((Nat → Nat) × (Nat → Nat) × (Nat → Nat)) × (Nat → Nat)) (um : Nat → Nat) : va_W := ((x0, .inr (12, [.ref (ux.1 0), .ref (ux.1 1), .ref (ux.1 2), .ref (ux.1 3), .ref (ux.1 4), .ref (ux.1 5), .ref (ux.1 6), .int 0])) :: ((ux.1 0), .inr (3, [.ref (ux.2.1.1 0), .ref (ux.2.1.1 1), .int 0, .int 0])) :: ((ux.2.1.1 1), .inr (5, [.ref (ux.2.1.2 0), .ref (ux.2.1.2 1), .ref (ux.2.1.2 2), .ref (ux.2.1.2 3), .int 0])) :: ((ux.2.1.2 3), .inl (cy 0, 9, .inl (fun _ => 0))) :: ((ux.1 1), .inr (7, [.ref (ux.1 0), .ref (ux.2.2.1.1 0), .ref (ux.2.2.1.1 1), .ref (ux.2.2.1.1 2), .ref (ux.2.2.1.1 3), .ref (ux.2.2.1.1 4), .ref (ux.2.2.1.1 5), .ref (ux.2.2.1.1 6), .int 0, .long 0, .ref (ux.2.2.1.1 7), .int 0, .int 0, .long 1])) :: ((ux.2.2.1.1 0), .inl (cy 0, 9, .inl (fun _ => 0))) :: ((ux.2.2.1.1 1), .inl (cy 2, 9, .inl (fun _ => 0))) :: ((ux.2.2.1.1 2), .inl (cy 0, 9, .inl (fun _ => 0))) :: ((ux.2.2.1.1 3), .inl (cy 3, 8, .inr (.inr (.inr (.inr (fun k9 => if k9 < 8 then some (ux.2.2.1.2.1 k9) else none)))))) :: ((ux.2.2.1.2.1 0), .inl (cy 1, 11, .inr (.inl (fun _ => 0)))) :: ((ux.2.2.1.2.1 1), .inl (cy 1, 11, .inr (.inl (fun _ => 0)))) :: ((ux.2.2.1.2.1 2), .inl (cy 1, 11, .inr (.inl (fun _ => 0)))) :: ((ux.2.2.1.2.1 3), .inl (cy 1, 11, .inr (.inl (fun _ => 0)))) :: ((ux.2.2.1.2.1 4), .inl (cy 1, 11, .inr (.inl (fun _ => 0)))) :: ((ux.2.2.1.2.1 5), .inl (cy 1, 11, .inr (.inl (fun _ => 0)))) :: ((ux.2.2.1.2.1 6), .inl (cy 1, 11, .inr (.inl (fun _ => 0)))) :: ((ux.2.2.1.2.1 7), .inl (cy 1, 11, .inr (.inl (fun _ => 0)))) :: ((ux.2.2.1.1 4), .inl (cy 3, 9, .inr (.inr (.inr (.inr (fun k9 => if k9 < 9 then some (ux.2.2.1.2.2 k9) else none)))))) :: ((ux.2.2.1.2.2 0), .inl (cy 1, 3, .inr (.inl (fun _ => 0)))) :: ((ux.2.2.1.2.2 1), .inl (cy 1, 3, .inr (.inl (fun _ => 0)))) :: ((ux.2.2.1.2.2 2), .inl (cy 1, 3, .inr (.inl (fun _ => 0)))) :: ((ux.2.2.1.2.2 3), .inl (cy 1, 3, .inr (.inl (fun _ => 0)))) :: ((ux.2.2.1.2.2 4), .inl (cy 1, 3, .inr (.inl (fun _ => 0)))) :: ((ux.2.2.1.2.2 5), .inl (cy 1, 3, .inr (.inl (fun _ => 0)))) :: ((ux.2.2.1.2.2 6), .inl (cy 1, 3, .inr (.inl (fun _ => 0)))) :: ((ux.2.2.1.2.2 7), .inl (cy 1, 3, .inr (.inl (fun _ => 0)))) :: ((ux.2.2.1.2.2 8), .inl (cy 1, 3, .inr (.inl (fun _ => 0)))) :: ((ux.2.2.1.1 7), .inl (cy 2, 24, .inl (fun _ => 0))) :: ((ux.1 2), .inr (7, [.ref (ux.1 0), .ref (ux.2.2.2.1.1 0), .ref (ux.2.2.2.1.1 1), .ref (ux.2.2.2.1.1 2), .ref (ux.2.2.2.1.1 3), .ref (ux.2.2.2.1.1 4), .ref (ux.2.2.2.1.1 5), .ref (ux.2.2.2.1.1 6), .int 0, .long 0, .ref (ux.2.2.2.1.1 7), .int 0, .int 0, .long 1])) :: ((ux.2.2.2.1.1 0), .inl (cy 0, 9, .inl (fun _ => 0))) :: ((ux.2.2.2.1.1 1), .inl (cy 2, 9, .inl (fun _ => 0))) :: ((ux.2.2.2.1.1 2), .inl (cy 0, 9, .inl (fun _ => 0))) :: ((ux.2.2.2.1.1 3), .inl (cy 3, 8, .inr (.inr (.inr (.inr (fun k9 => if k9 < 8 then some (ux.2.2.2.1.2.1 k9) else none)))))) :: ((ux.2.2.2.1.2.1 0), .inl (cy 1, 11, .inr (.inl (fun _ => 0)))) :: ((ux.2.2.2.1.2.1 1), .inl (cy 1, 11, .inr (.inl (fun _ => 0)))) :: ((ux.2.2.2.1.2.1 2), .inl (cy 1, 11, .inr (.inl (fun _ => 0)))) :: ((ux.2.2.2.1.2.1 3), .inl (cy 1, 11, .inr (.inl (fun _ => 0)))) :: ((ux.2.2.2.1.2.1 4), .inl (cy 1, 11, .inr (.inl (fun _ => 0)))) :: ((ux.2.2.2.1.2.1 5), .inl (cy 1, 11, .inr (.inl (fun _ => 0)))) :: ((ux.2.2.2.1.2.1 6), .inl (cy 1, 11, .inr (.inl (fun _ => 0)))) :: ((ux.2.2.2.1.2.1 7), .inl (cy 1, 11, .inr (.inl (fun _ => 0)))) :: ((ux.2.2.2.1.1 4), .inl (cy 3, 9, .inr (.inr (.inr (.inr (fun k9 => if k9 < 9 then some (ux.2.2.2.1.2.2 k9) else none)))))) :: ((ux.2.2.2.1.2.2 0), .inl (cy 1, 3, .inr (.inl (fun _ => 0)))) :: ((ux.2.2.2.1.2.2 1), .inl (cy 1, 3, .inr (.inl (fun _ => 0)))) :: ((ux.2.2.2.1.2.2 2), .inl (cy 1, 3, .inr (.inl (fun _ => 0)))) :: ((ux.2.2.2.1.2.2 3), .inl (cy 1, 3, .inr (.inl (fun _ => 0)))) :: ((ux.2.2.2.1.2.2 4), .inl (cy 1, 3, .inr (.inl (fun _ => 0)))) :: ((ux.2.2.2.1.2.2 5), .inl (cy 1, 3, .inr (.inl (fun _ => 0)))) :: ((ux.2.2.2.1.2.2 6), .inl (cy 1, 3, .inr (.inl (fun _ => 0)))) :: ((ux.2.2.2.1.2.2 7), .inl (cy 1, 3, .inr (.inl (fun _ => 0)))) :: ((ux.2.2.2.1.2.2 8), .inl (cy 1, 3, .inr (.inl (fun _ => 0)))) :: ((ux.2.2.2.1.1 7), .inl (cy 2, 24, .inl (fun _ => 0))) :: ((ux.1 4), .inr (4, [.ref (ux.2.2.2.2 0), .ref (ux.2.2.2.2 1)])) :: ((ux.2.2.2.2 0), .inl (cy 0, 200, .inl (fun _ => 0))) :: ((ux.2.2.2.2 1), .inl (cy 0, 401, .inl (fun _ => 0))) :: (g0, .inr (17, [.ref (um 0), .ref (um 1), .ref (um 2), .ref (um 3), .ref (um 4), .ref (um 5), .ref (um 6), .ref (um 7), .ref (um 8), .ref (um 9), .ref (um 10), .ref (um 11), .ref (um 12), .ref (um 13), .ref (um 14), .ref (um 15), .ref (um 16), .ref (um 17), .ref (um 18), .ref (um 19), .ref (um 20), .int 0, .int 0, .int 0, .int 0, .long 0, .int 0])) :: ((um 0), .inr (2, [.int 0, .ref (um 21), .int 0])) :: ((um 2), .inr (2, [.int 0, .ref (um 22), .int 0])) :: ((um 7), .inl (cy 0, 200, .inl (fun _ => 0))) :: ((um 8), .inl (cy 0, 401, .inl (fun _ => 0))) :: ((um 9), .inl (cy 0, 9, .inl (fun _ => 0))) :: ((um 10), .inl (cy 0, 9, .inl (fun _ => 0))) :: ((um 12), .inl (cy 2, 9, .inl (fun _ => 0))) :: ((um 14), .inl (cy 1, 256, .inr (.inl (fun _ => 0)))) :: ((um 16), .inl (cy 1, 64, .inr (.inl (fun _ => 0)))) :: ((um 17), .inl (cy 1, 24, .inr (.inl (fun _ => 0)))) :: (o1, .inl (cy 1, 1, .inr (.inl (fun _ => 0)))) :: (o2, .inl (cy 7, 1, .inr (.inr (.inr (.inl (fun _ => 0)))))) :: [])
set_option maxHeartbeats 4000000 in
set_option maxRecDepth 100000 in
theorem law_pre (l : Launch) {p : Program} {e : Env} {s : State} {m : MethodId} {below : List Frame} {meth : Method} {c : Code} {D : va_G} {cy : Nat → ClassId} {A : Nat → Prop} {b L : Nat} {xs : Nat → Int32} {Q : State → Prop} {H : Heap} {locs : List Loc} {ls : Array Slot} (Z : zLaw l p s m c D cy A b L xs)   (hP : va_P D vwCl [] H) (hD : va_D A []) (hS : va_S A s.heap H locs) (hl : lv_has ls 9 [(0, .ref b)]) (kt : ∀ (x0 g0 o1 o2 : Nat) (ux : (Nat → Nat) × ((Nat → Nat) × (Nat → Nat)) × ((Nat → Nat) × (Nat → Nat) × (Nat → Nat)) × ((Nat → Nat) × (Nat → Nat) × (Nat → Nat)) × (Nat → Nat)) (um : Nat → Nat) (H : Heap) (locs : List Loc) (ls : Array Slot), va_P D vwCl (zW cy x0 g0 o1 o2 ux um) H → va_D A (zW cy x0 g0 o1 o2 ux um) → va_S A s.heap H locs → lv_has ls 9 [(0, .ref b), (1, .ref x0), (2, .ref g0), (3, .ref o1), (4, .ref o2), (5, .int 0)] → W p l e room_1 s m #[Value.ref b] below meth c H locs 213 25112 Q (F0 m 28 ls [])) : W p l e room_1 s m #[Value.ref b] below meth c H locs 0 0 Q (F0 m 0 ls []) := by
  obtain ⟨hx, hb, hml, hown, hts, hK, hX, hY, hA, hXs, hbl, hbA, hlt⟩ := id Z
  refine va_new (ci := 12) (fs := [.null, .null, .null, .null, .null, .null, .null, .int 0]) (C := RX9) (T := TX9) (N := 8) hx hb hts iRX9 tyX9 tyX9_ok hown (hts _ q551) (hts _ q552) (hts _ q174) hK hP hD hS hA rfl (fun j hj => by rcases (show j = 0 ∨ j = 1 ∨ j = 2 ∨ j = 3 ∨ j = 4 ∨ j = 5 ∨ j = 6 ∨ j = 7 by omega) with rfl | rfl | rfl | rfl | rfl | rfl | rfl | rfl <;> rfl) (Nat.le_of_ble_eq_true rfl) (Nat.le_of_ble_eq_true rfl) dL_law_0 (fun n1 H hP hD hS => ?_)
  have hP : va_P D vwCl [(n1, .inr (12, [.null, .null, .null, .null, .null, .null, .null, .int 0]))] H := hP
  have hD : va_D A [(n1, .inr (12, [.null, .null, .null, .null, .null, .null, .null, .int 0]))] := hD
  refine W.widen (k := 1) (n := 8) (by omega) (by omega) ?_
  refine lv_dup hx hb dL_law_3 rfl ?_
  refine zq_v (wc := [(n1, .inr (12, [.null, .null, .null, .null, .null, .null, .null, .int 0]))]) (wr := []) (va_runI (As := []) (rest := [.ref n1]) ⟨hx, hb, hml, hown, hts⟩ (k_Cav_init l D cy n1 H.size ) (cwI 0 hts (gz q554) rfl rfl rfl (hts _ q174) (hts _ q553) (hts _ q555) rfl vX9_init.2 ⟨Nat.le_of_ble_eq_true rfl, Nat.le_of_ble_eq_true rfl⟩) (zpS hK hX hY hP hD hS hA [0] (by decide) rfl) rfl rfl hl.1 rfl (lv_room (Nat.le_of_ble_eq_true rfl)) dL_law_4 ⟨Nat.le_of_ble_eq_true rfl, Nat.le_of_ble_eq_true rfl⟩) hP hD hS hA [0] [] rfl rfl (by decide) (by decide) (fun u2 H locs hw hP hD hS => ?_)
  have hP : va_P D vwCl ((n1, .inr (12, [.ref (u2.1 0), .ref (u2.1 1), .ref (u2.1 2), .ref (u2.1 3), .ref (u2.1 4), .ref (u2.1 5), .ref (u2.1 6), .int 0])) :: ((u2.1 0), .inr (3, [.ref (u2.2.1.1 0), .ref (u2.2.1.1 1), .int 0, .int 0])) :: ((u2.2.1.1 1), .inr (5, [.ref (u2.2.1.2 0), .ref (u2.2.1.2 1), .ref (u2.2.1.2 2), .ref (u2.2.1.2 3), .int 0])) :: ((u2.2.1.2 3), .inl (cy 0, 9, .inl (fun _ => 0))) :: ((u2.1 1), .inr (7, [.ref (u2.1 0), .ref (u2.2.2.1.1 0), .ref (u2.2.2.1.1 1), .ref (u2.2.2.1.1 2), .ref (u2.2.2.1.1 3), .ref (u2.2.2.1.1 4), .ref (u2.2.2.1.1 5), .ref (u2.2.2.1.1 6), .int 0, .long 0, .ref (u2.2.2.1.1 7), .int 0, .int 0, .long 1])) :: ((u2.2.2.1.1 0), .inl (cy 0, 9, .inl (fun _ => 0))) :: ((u2.2.2.1.1 1), .inl (cy 2, 9, .inl (fun _ => 0))) :: ((u2.2.2.1.1 2), .inl (cy 0, 9, .inl (fun _ => 0))) :: ((u2.2.2.1.1 3), .inl (cy 3, 8, .inr (.inr (.inr (.inr (fun k9 => if k9 < 8 then some (u2.2.2.1.2.1 k9) else none)))))) :: ((u2.2.2.1.2.1 0), .inl (cy 1, 11, .inr (.inl (fun _ => 0)))) :: ((u2.2.2.1.2.1 1), .inl (cy 1, 11, .inr (.inl (fun _ => 0)))) :: ((u2.2.2.1.2.1 2), .inl (cy 1, 11, .inr (.inl (fun _ => 0)))) :: ((u2.2.2.1.2.1 3), .inl (cy 1, 11, .inr (.inl (fun _ => 0)))) :: ((u2.2.2.1.2.1 4), .inl (cy 1, 11, .inr (.inl (fun _ => 0)))) :: ((u2.2.2.1.2.1 5), .inl (cy 1, 11, .inr (.inl (fun _ => 0)))) :: ((u2.2.2.1.2.1 6), .inl (cy 1, 11, .inr (.inl (fun _ => 0)))) :: ((u2.2.2.1.2.1 7), .inl (cy 1, 11, .inr (.inl (fun _ => 0)))) :: ((u2.2.2.1.1 4), .inl (cy 3, 9, .inr (.inr (.inr (.inr (fun k9 => if k9 < 9 then some (u2.2.2.1.2.2 k9) else none)))))) :: ((u2.2.2.1.2.2 0), .inl (cy 1, 3, .inr (.inl (fun _ => 0)))) :: ((u2.2.2.1.2.2 1), .inl (cy 1, 3, .inr (.inl (fun _ => 0)))) :: ((u2.2.2.1.2.2 2), .inl (cy 1, 3, .inr (.inl (fun _ => 0)))) :: ((u2.2.2.1.2.2 3), .inl (cy 1, 3, .inr (.inl (fun _ => 0)))) :: ((u2.2.2.1.2.2 4), .inl (cy 1, 3, .inr (.inl (fun _ => 0)))) :: ((u2.2.2.1.2.2 5), .inl (cy 1, 3, .inr (.inl (fun _ => 0)))) :: ((u2.2.2.1.2.2 6), .inl (cy 1, 3, .inr (.inl (fun _ => 0)))) :: ((u2.2.2.1.2.2 7), .inl (cy 1, 3, .inr (.inl (fun _ => 0)))) :: ((u2.2.2.1.2.2 8), .inl (cy 1, 3, .inr (.inl (fun _ => 0)))) :: ((u2.2.2.1.1 7), .inl (cy 2, 24, .inl (fun _ => 0))) :: ((u2.1 2), .inr (7, [.ref (u2.1 0), .ref (u2.2.2.2.1.1 0), .ref (u2.2.2.2.1.1 1), .ref (u2.2.2.2.1.1 2), .ref (u2.2.2.2.1.1 3), .ref (u2.2.2.2.1.1 4), .ref (u2.2.2.2.1.1 5), .ref (u2.2.2.2.1.1 6), .int 0, .long 0, .ref (u2.2.2.2.1.1 7), .int 0, .int 0, .long 1])) :: ((u2.2.2.2.1.1 0), .inl (cy 0, 9, .inl (fun _ => 0))) :: ((u2.2.2.2.1.1 1), .inl (cy 2, 9, .inl (fun _ => 0))) :: ((u2.2.2.2.1.1 2), .inl (cy 0, 9, .inl (fun _ => 0))) :: ((u2.2.2.2.1.1 3), .inl (cy 3, 8, .inr (.inr (.inr (.inr (fun k9 => if k9 < 8 then some (u2.2.2.2.1.2.1 k9) else none)))))) :: ((u2.2.2.2.1.2.1 0), .inl (cy 1, 11, .inr (.inl (fun _ => 0)))) :: ((u2.2.2.2.1.2.1 1), .inl (cy 1, 11, .inr (.inl (fun _ => 0)))) :: ((u2.2.2.2.1.2.1 2), .inl (cy 1, 11, .inr (.inl (fun _ => 0)))) :: ((u2.2.2.2.1.2.1 3), .inl (cy 1, 11, .inr (.inl (fun _ => 0)))) :: ((u2.2.2.2.1.2.1 4), .inl (cy 1, 11, .inr (.inl (fun _ => 0)))) :: ((u2.2.2.2.1.2.1 5), .inl (cy 1, 11, .inr (.inl (fun _ => 0)))) :: ((u2.2.2.2.1.2.1 6), .inl (cy 1, 11, .inr (.inl (fun _ => 0)))) :: ((u2.2.2.2.1.2.1 7), .inl (cy 1, 11, .inr (.inl (fun _ => 0)))) :: ((u2.2.2.2.1.1 4), .inl (cy 3, 9, .inr (.inr (.inr (.inr (fun k9 => if k9 < 9 then some (u2.2.2.2.1.2.2 k9) else none)))))) :: ((u2.2.2.2.1.2.2 0), .inl (cy 1, 3, .inr (.inl (fun _ => 0)))) :: ((u2.2.2.2.1.2.2 1), .inl (cy 1, 3, .inr (.inl (fun _ => 0)))) :: ((u2.2.2.2.1.2.2 2), .inl (cy 1, 3, .inr (.inl (fun _ => 0)))) :: ((u2.2.2.2.1.2.2 3), .inl (cy 1, 3, .inr (.inl (fun _ => 0)))) :: ((u2.2.2.2.1.2.2 4), .inl (cy 1, 3, .inr (.inl (fun _ => 0)))) :: ((u2.2.2.2.1.2.2 5), .inl (cy 1, 3, .inr (.inl (fun _ => 0)))) :: ((u2.2.2.2.1.2.2 6), .inl (cy 1, 3, .inr (.inl (fun _ => 0)))) :: ((u2.2.2.2.1.2.2 7), .inl (cy 1, 3, .inr (.inl (fun _ => 0)))) :: ((u2.2.2.2.1.2.2 8), .inl (cy 1, 3, .inr (.inl (fun _ => 0)))) :: ((u2.2.2.2.1.1 7), .inl (cy 2, 24, .inl (fun _ => 0))) :: ((u2.1 4), .inr (4, [.ref (u2.2.2.2.2 0), .ref (u2.2.2.2.2 1)])) :: ((u2.2.2.2.2 0), .inl (cy 0, 200, .inl (fun _ => 0))) :: ((u2.2.2.2.2 1), .inl (cy 0, 401, .inl (fun _ => 0))) :: []) H := hP
  have hD : va_D A ((n1, .inr (12, [.ref (u2.1 0), .ref (u2.1 1), .ref (u2.1 2), .ref (u2.1 3), .ref (u2.1 4), .ref (u2.1 5), .ref (u2.1 6), .int 0])) :: ((u2.1 0), .inr (3, [.ref (u2.2.1.1 0), .ref (u2.2.1.1 1), .int 0, .int 0])) :: ((u2.2.1.1 1), .inr (5, [.ref (u2.2.1.2 0), .ref (u2.2.1.2 1), .ref (u2.2.1.2 2), .ref (u2.2.1.2 3), .int 0])) :: ((u2.2.1.2 3), .inl (cy 0, 9, .inl (fun _ => 0))) :: ((u2.1 1), .inr (7, [.ref (u2.1 0), .ref (u2.2.2.1.1 0), .ref (u2.2.2.1.1 1), .ref (u2.2.2.1.1 2), .ref (u2.2.2.1.1 3), .ref (u2.2.2.1.1 4), .ref (u2.2.2.1.1 5), .ref (u2.2.2.1.1 6), .int 0, .long 0, .ref (u2.2.2.1.1 7), .int 0, .int 0, .long 1])) :: ((u2.2.2.1.1 0), .inl (cy 0, 9, .inl (fun _ => 0))) :: ((u2.2.2.1.1 1), .inl (cy 2, 9, .inl (fun _ => 0))) :: ((u2.2.2.1.1 2), .inl (cy 0, 9, .inl (fun _ => 0))) :: ((u2.2.2.1.1 3), .inl (cy 3, 8, .inr (.inr (.inr (.inr (fun k9 => if k9 < 8 then some (u2.2.2.1.2.1 k9) else none)))))) :: ((u2.2.2.1.2.1 0), .inl (cy 1, 11, .inr (.inl (fun _ => 0)))) :: ((u2.2.2.1.2.1 1), .inl (cy 1, 11, .inr (.inl (fun _ => 0)))) :: ((u2.2.2.1.2.1 2), .inl (cy 1, 11, .inr (.inl (fun _ => 0)))) :: ((u2.2.2.1.2.1 3), .inl (cy 1, 11, .inr (.inl (fun _ => 0)))) :: ((u2.2.2.1.2.1 4), .inl (cy 1, 11, .inr (.inl (fun _ => 0)))) :: ((u2.2.2.1.2.1 5), .inl (cy 1, 11, .inr (.inl (fun _ => 0)))) :: ((u2.2.2.1.2.1 6), .inl (cy 1, 11, .inr (.inl (fun _ => 0)))) :: ((u2.2.2.1.2.1 7), .inl (cy 1, 11, .inr (.inl (fun _ => 0)))) :: ((u2.2.2.1.1 4), .inl (cy 3, 9, .inr (.inr (.inr (.inr (fun k9 => if k9 < 9 then some (u2.2.2.1.2.2 k9) else none)))))) :: ((u2.2.2.1.2.2 0), .inl (cy 1, 3, .inr (.inl (fun _ => 0)))) :: ((u2.2.2.1.2.2 1), .inl (cy 1, 3, .inr (.inl (fun _ => 0)))) :: ((u2.2.2.1.2.2 2), .inl (cy 1, 3, .inr (.inl (fun _ => 0)))) :: ((u2.2.2.1.2.2 3), .inl (cy 1, 3, .inr (.inl (fun _ => 0)))) :: ((u2.2.2.1.2.2 4), .inl (cy 1, 3, .inr (.inl (fun _ => 0)))) :: ((u2.2.2.1.2.2 5), .inl (cy 1, 3, .inr (.inl (fun _ => 0)))) :: ((u2.2.2.1.2.2 6), .inl (cy 1, 3, .inr (.inl (fun _ => 0)))) :: ((u2.2.2.1.2.2 7), .inl (cy 1, 3, .inr (.inl (fun _ => 0)))) :: ((u2.2.2.1.2.2 8), .inl (cy 1, 3, .inr (.inl (fun _ => 0)))) :: ((u2.2.2.1.1 7), .inl (cy 2, 24, .inl (fun _ => 0))) :: ((u2.1 2), .inr (7, [.ref (u2.1 0), .ref (u2.2.2.2.1.1 0), .ref (u2.2.2.2.1.1 1), .ref (u2.2.2.2.1.1 2), .ref (u2.2.2.2.1.1 3), .ref (u2.2.2.2.1.1 4), .ref (u2.2.2.2.1.1 5), .ref (u2.2.2.2.1.1 6), .int 0, .long 0, .ref (u2.2.2.2.1.1 7), .int 0, .int 0, .long 1])) :: ((u2.2.2.2.1.1 0), .inl (cy 0, 9, .inl (fun _ => 0))) :: ((u2.2.2.2.1.1 1), .inl (cy 2, 9, .inl (fun _ => 0))) :: ((u2.2.2.2.1.1 2), .inl (cy 0, 9, .inl (fun _ => 0))) :: ((u2.2.2.2.1.1 3), .inl (cy 3, 8, .inr (.inr (.inr (.inr (fun k9 => if k9 < 8 then some (u2.2.2.2.1.2.1 k9) else none)))))) :: ((u2.2.2.2.1.2.1 0), .inl (cy 1, 11, .inr (.inl (fun _ => 0)))) :: ((u2.2.2.2.1.2.1 1), .inl (cy 1, 11, .inr (.inl (fun _ => 0)))) :: ((u2.2.2.2.1.2.1 2), .inl (cy 1, 11, .inr (.inl (fun _ => 0)))) :: ((u2.2.2.2.1.2.1 3), .inl (cy 1, 11, .inr (.inl (fun _ => 0)))) :: ((u2.2.2.2.1.2.1 4), .inl (cy 1, 11, .inr (.inl (fun _ => 0)))) :: ((u2.2.2.2.1.2.1 5), .inl (cy 1, 11, .inr (.inl (fun _ => 0)))) :: ((u2.2.2.2.1.2.1 6), .inl (cy 1, 11, .inr (.inl (fun _ => 0)))) :: ((u2.2.2.2.1.2.1 7), .inl (cy 1, 11, .inr (.inl (fun _ => 0)))) :: ((u2.2.2.2.1.1 4), .inl (cy 3, 9, .inr (.inr (.inr (.inr (fun k9 => if k9 < 9 then some (u2.2.2.2.1.2.2 k9) else none)))))) :: ((u2.2.2.2.1.2.2 0), .inl (cy 1, 3, .inr (.inl (fun _ => 0)))) :: ((u2.2.2.2.1.2.2 1), .inl (cy 1, 3, .inr (.inl (fun _ => 0)))) :: ((u2.2.2.2.1.2.2 2), .inl (cy 1, 3, .inr (.inl (fun _ => 0)))) :: ((u2.2.2.2.1.2.2 3), .inl (cy 1, 3, .inr (.inl (fun _ => 0)))) :: ((u2.2.2.2.1.2.2 4), .inl (cy 1, 3, .inr (.inl (fun _ => 0)))) :: ((u2.2.2.2.1.2.2 5), .inl (cy 1, 3, .inr (.inl (fun _ => 0)))) :: ((u2.2.2.2.1.2.2 6), .inl (cy 1, 3, .inr (.inl (fun _ => 0)))) :: ((u2.2.2.2.1.2.2 7), .inl (cy 1, 3, .inr (.inl (fun _ => 0)))) :: ((u2.2.2.2.1.2.2 8), .inl (cy 1, 3, .inr (.inl (fun _ => 0)))) :: ((u2.2.2.2.1.1 7), .inl (cy 2, 24, .inl (fun _ => 0))) :: ((u2.1 4), .inr (4, [.ref (u2.2.2.2.2 0), .ref (u2.2.2.2.2 1)])) :: ((u2.2.2.2.2 0), .inl (cy 0, 200, .inl (fun _ => 0))) :: ((u2.2.2.2.2 1), .inl (cy 0, 401, .inl (fun _ => 0))) :: []) := hD
  refine W.widen (k := 189) (n := 9150) (by omega) (by omega) ?_
  refine lv_astore_n (lv' := [(1, .ref n1), (0, .ref b)]) hx hb dL_law_7 rfl hl (by decide) rfl (fun ls hl => ?_)
  refine va_new (ci := 17) (fs := [.null, .null, .null, .null, .null, .null, .null, .null, .null, .null, .null, .null, .null, .null, .null, .null, .null, .null, .null, .null, .null, .int 0, .int 0, .int 0, .int 0, .long 0, .int 0]) (C := RX14) (T := TX14) (N := 27) hx hb hts iRX14 tyX14 tyX14_ok hown (hts _ q556) (hts _ q557) (hts _ q285) hK hP hD hS hA rfl (fun j hj => by rcases (show j = 0 ∨ j = 1 ∨ j = 2 ∨ j = 3 ∨ j = 4 ∨ j = 5 ∨ j = 6 ∨ j = 7 ∨ j = 8 ∨ j = 9 ∨ j = 10 ∨ j = 11 ∨ j = 12 ∨ j = 13 ∨ j = 14 ∨ j = 15 ∨ j = 16 ∨ j = 17 ∨ j = 18 ∨ j = 19 ∨ j = 20 ∨ j = 21 ∨ j = 22 ∨ j = 23 ∨ j = 24 ∨ j = 25 ∨ j = 26 by omega) with rfl | rfl | rfl | rfl | rfl | rfl | rfl | rfl | rfl | rfl | rfl | rfl | rfl | rfl | rfl | rfl | rfl | rfl | rfl | rfl | rfl | rfl | rfl | rfl | rfl | rfl | rfl <;> rfl) (Nat.le_of_ble_eq_true rfl) (Nat.le_of_ble_eq_true rfl) dL_law_8 (fun n4 H hP hD hS => ?_)
  have hP : va_P D vwCl ((n1, .inr (12, [.ref (u2.1 0), .ref (u2.1 1), .ref (u2.1 2), .ref (u2.1 3), .ref (u2.1 4), .ref (u2.1 5), .ref (u2.1 6), .int 0])) :: ((u2.1 0), .inr (3, [.ref (u2.2.1.1 0), .ref (u2.2.1.1 1), .int 0, .int 0])) :: ((u2.2.1.1 1), .inr (5, [.ref (u2.2.1.2 0), .ref (u2.2.1.2 1), .ref (u2.2.1.2 2), .ref (u2.2.1.2 3), .int 0])) :: ((u2.2.1.2 3), .inl (cy 0, 9, .inl (fun _ => 0))) :: ((u2.1 1), .inr (7, [.ref (u2.1 0), .ref (u2.2.2.1.1 0), .ref (u2.2.2.1.1 1), .ref (u2.2.2.1.1 2), .ref (u2.2.2.1.1 3), .ref (u2.2.2.1.1 4), .ref (u2.2.2.1.1 5), .ref (u2.2.2.1.1 6), .int 0, .long 0, .ref (u2.2.2.1.1 7), .int 0, .int 0, .long 1])) :: ((u2.2.2.1.1 0), .inl (cy 0, 9, .inl (fun _ => 0))) :: ((u2.2.2.1.1 1), .inl (cy 2, 9, .inl (fun _ => 0))) :: ((u2.2.2.1.1 2), .inl (cy 0, 9, .inl (fun _ => 0))) :: ((u2.2.2.1.1 3), .inl (cy 3, 8, .inr (.inr (.inr (.inr (fun k9 => if k9 < 8 then some (u2.2.2.1.2.1 k9) else none)))))) :: ((u2.2.2.1.2.1 0), .inl (cy 1, 11, .inr (.inl (fun _ => 0)))) :: ((u2.2.2.1.2.1 1), .inl (cy 1, 11, .inr (.inl (fun _ => 0)))) :: ((u2.2.2.1.2.1 2), .inl (cy 1, 11, .inr (.inl (fun _ => 0)))) :: ((u2.2.2.1.2.1 3), .inl (cy 1, 11, .inr (.inl (fun _ => 0)))) :: ((u2.2.2.1.2.1 4), .inl (cy 1, 11, .inr (.inl (fun _ => 0)))) :: ((u2.2.2.1.2.1 5), .inl (cy 1, 11, .inr (.inl (fun _ => 0)))) :: ((u2.2.2.1.2.1 6), .inl (cy 1, 11, .inr (.inl (fun _ => 0)))) :: ((u2.2.2.1.2.1 7), .inl (cy 1, 11, .inr (.inl (fun _ => 0)))) :: ((u2.2.2.1.1 4), .inl (cy 3, 9, .inr (.inr (.inr (.inr (fun k9 => if k9 < 9 then some (u2.2.2.1.2.2 k9) else none)))))) :: ((u2.2.2.1.2.2 0), .inl (cy 1, 3, .inr (.inl (fun _ => 0)))) :: ((u2.2.2.1.2.2 1), .inl (cy 1, 3, .inr (.inl (fun _ => 0)))) :: ((u2.2.2.1.2.2 2), .inl (cy 1, 3, .inr (.inl (fun _ => 0)))) :: ((u2.2.2.1.2.2 3), .inl (cy 1, 3, .inr (.inl (fun _ => 0)))) :: ((u2.2.2.1.2.2 4), .inl (cy 1, 3, .inr (.inl (fun _ => 0)))) :: ((u2.2.2.1.2.2 5), .inl (cy 1, 3, .inr (.inl (fun _ => 0)))) :: ((u2.2.2.1.2.2 6), .inl (cy 1, 3, .inr (.inl (fun _ => 0)))) :: ((u2.2.2.1.2.2 7), .inl (cy 1, 3, .inr (.inl (fun _ => 0)))) :: ((u2.2.2.1.2.2 8), .inl (cy 1, 3, .inr (.inl (fun _ => 0)))) :: ((u2.2.2.1.1 7), .inl (cy 2, 24, .inl (fun _ => 0))) :: ((u2.1 2), .inr (7, [.ref (u2.1 0), .ref (u2.2.2.2.1.1 0), .ref (u2.2.2.2.1.1 1), .ref (u2.2.2.2.1.1 2), .ref (u2.2.2.2.1.1 3), .ref (u2.2.2.2.1.1 4), .ref (u2.2.2.2.1.1 5), .ref (u2.2.2.2.1.1 6), .int 0, .long 0, .ref (u2.2.2.2.1.1 7), .int 0, .int 0, .long 1])) :: ((u2.2.2.2.1.1 0), .inl (cy 0, 9, .inl (fun _ => 0))) :: ((u2.2.2.2.1.1 1), .inl (cy 2, 9, .inl (fun _ => 0))) :: ((u2.2.2.2.1.1 2), .inl (cy 0, 9, .inl (fun _ => 0))) :: ((u2.2.2.2.1.1 3), .inl (cy 3, 8, .inr (.inr (.inr (.inr (fun k9 => if k9 < 8 then some (u2.2.2.2.1.2.1 k9) else none)))))) :: ((u2.2.2.2.1.2.1 0), .inl (cy 1, 11, .inr (.inl (fun _ => 0)))) :: ((u2.2.2.2.1.2.1 1), .inl (cy 1, 11, .inr (.inl (fun _ => 0)))) :: ((u2.2.2.2.1.2.1 2), .inl (cy 1, 11, .inr (.inl (fun _ => 0)))) :: ((u2.2.2.2.1.2.1 3), .inl (cy 1, 11, .inr (.inl (fun _ => 0)))) :: ((u2.2.2.2.1.2.1 4), .inl (cy 1, 11, .inr (.inl (fun _ => 0)))) :: ((u2.2.2.2.1.2.1 5), .inl (cy 1, 11, .inr (.inl (fun _ => 0)))) :: ((u2.2.2.2.1.2.1 6), .inl (cy 1, 11, .inr (.inl (fun _ => 0)))) :: ((u2.2.2.2.1.2.1 7), .inl (cy 1, 11, .inr (.inl (fun _ => 0)))) :: ((u2.2.2.2.1.1 4), .inl (cy 3, 9, .inr (.inr (.inr (.inr (fun k9 => if k9 < 9 then some (u2.2.2.2.1.2.2 k9) else none)))))) :: ((u2.2.2.2.1.2.2 0), .inl (cy 1, 3, .inr (.inl (fun _ => 0)))) :: ((u2.2.2.2.1.2.2 1), .inl (cy 1, 3, .inr (.inl (fun _ => 0)))) :: ((u2.2.2.2.1.2.2 2), .inl (cy 1, 3, .inr (.inl (fun _ => 0)))) :: ((u2.2.2.2.1.2.2 3), .inl (cy 1, 3, .inr (.inl (fun _ => 0)))) :: ((u2.2.2.2.1.2.2 4), .inl (cy 1, 3, .inr (.inl (fun _ => 0)))) :: ((u2.2.2.2.1.2.2 5), .inl (cy 1, 3, .inr (.inl (fun _ => 0)))) :: ((u2.2.2.2.1.2.2 6), .inl (cy 1, 3, .inr (.inl (fun _ => 0)))) :: ((u2.2.2.2.1.2.2 7), .inl (cy 1, 3, .inr (.inl (fun _ => 0)))) :: ((u2.2.2.2.1.2.2 8), .inl (cy 1, 3, .inr (.inl (fun _ => 0)))) :: ((u2.2.2.2.1.1 7), .inl (cy 2, 24, .inl (fun _ => 0))) :: ((u2.1 4), .inr (4, [.ref (u2.2.2.2.2 0), .ref (u2.2.2.2.2 1)])) :: ((u2.2.2.2.2 0), .inl (cy 0, 200, .inl (fun _ => 0))) :: ((u2.2.2.2.2 1), .inl (cy 0, 401, .inl (fun _ => 0))) :: (n4, .inr (17, [.null, .null, .null, .null, .null, .null, .null, .null, .null, .null, .null, .null, .null, .null, .null, .null, .null, .null, .null, .null, .null, .int 0, .int 0, .int 0, .int 0, .long 0, .int 0])) :: []) H := hP
  have hD : va_D A ((n1, .inr (12, [.ref (u2.1 0), .ref (u2.1 1), .ref (u2.1 2), .ref (u2.1 3), .ref (u2.1 4), .ref (u2.1 5), .ref (u2.1 6), .int 0])) :: ((u2.1 0), .inr (3, [.ref (u2.2.1.1 0), .ref (u2.2.1.1 1), .int 0, .int 0])) :: ((u2.2.1.1 1), .inr (5, [.ref (u2.2.1.2 0), .ref (u2.2.1.2 1), .ref (u2.2.1.2 2), .ref (u2.2.1.2 3), .int 0])) :: ((u2.2.1.2 3), .inl (cy 0, 9, .inl (fun _ => 0))) :: ((u2.1 1), .inr (7, [.ref (u2.1 0), .ref (u2.2.2.1.1 0), .ref (u2.2.2.1.1 1), .ref (u2.2.2.1.1 2), .ref (u2.2.2.1.1 3), .ref (u2.2.2.1.1 4), .ref (u2.2.2.1.1 5), .ref (u2.2.2.1.1 6), .int 0, .long 0, .ref (u2.2.2.1.1 7), .int 0, .int 0, .long 1])) :: ((u2.2.2.1.1 0), .inl (cy 0, 9, .inl (fun _ => 0))) :: ((u2.2.2.1.1 1), .inl (cy 2, 9, .inl (fun _ => 0))) :: ((u2.2.2.1.1 2), .inl (cy 0, 9, .inl (fun _ => 0))) :: ((u2.2.2.1.1 3), .inl (cy 3, 8, .inr (.inr (.inr (.inr (fun k9 => if k9 < 8 then some (u2.2.2.1.2.1 k9) else none)))))) :: ((u2.2.2.1.2.1 0), .inl (cy 1, 11, .inr (.inl (fun _ => 0)))) :: ((u2.2.2.1.2.1 1), .inl (cy 1, 11, .inr (.inl (fun _ => 0)))) :: ((u2.2.2.1.2.1 2), .inl (cy 1, 11, .inr (.inl (fun _ => 0)))) :: ((u2.2.2.1.2.1 3), .inl (cy 1, 11, .inr (.inl (fun _ => 0)))) :: ((u2.2.2.1.2.1 4), .inl (cy 1, 11, .inr (.inl (fun _ => 0)))) :: ((u2.2.2.1.2.1 5), .inl (cy 1, 11, .inr (.inl (fun _ => 0)))) :: ((u2.2.2.1.2.1 6), .inl (cy 1, 11, .inr (.inl (fun _ => 0)))) :: ((u2.2.2.1.2.1 7), .inl (cy 1, 11, .inr (.inl (fun _ => 0)))) :: ((u2.2.2.1.1 4), .inl (cy 3, 9, .inr (.inr (.inr (.inr (fun k9 => if k9 < 9 then some (u2.2.2.1.2.2 k9) else none)))))) :: ((u2.2.2.1.2.2 0), .inl (cy 1, 3, .inr (.inl (fun _ => 0)))) :: ((u2.2.2.1.2.2 1), .inl (cy 1, 3, .inr (.inl (fun _ => 0)))) :: ((u2.2.2.1.2.2 2), .inl (cy 1, 3, .inr (.inl (fun _ => 0)))) :: ((u2.2.2.1.2.2 3), .inl (cy 1, 3, .inr (.inl (fun _ => 0)))) :: ((u2.2.2.1.2.2 4), .inl (cy 1, 3, .inr (.inl (fun _ => 0)))) :: ((u2.2.2.1.2.2 5), .inl (cy 1, 3, .inr (.inl (fun _ => 0)))) :: ((u2.2.2.1.2.2 6), .inl (cy 1, 3, .inr (.inl (fun _ => 0)))) :: ((u2.2.2.1.2.2 7), .inl (cy 1, 3, .inr (.inl (fun _ => 0)))) :: ((u2.2.2.1.2.2 8), .inl (cy 1, 3, .inr (.inl (fun _ => 0)))) :: ((u2.2.2.1.1 7), .inl (cy 2, 24, .inl (fun _ => 0))) :: ((u2.1 2), .inr (7, [.ref (u2.1 0), .ref (u2.2.2.2.1.1 0), .ref (u2.2.2.2.1.1 1), .ref (u2.2.2.2.1.1 2), .ref (u2.2.2.2.1.1 3), .ref (u2.2.2.2.1.1 4), .ref (u2.2.2.2.1.1 5), .ref (u2.2.2.2.1.1 6), .int 0, .long 0, .ref (u2.2.2.2.1.1 7), .int 0, .int 0, .long 1])) :: ((u2.2.2.2.1.1 0), .inl (cy 0, 9, .inl (fun _ => 0))) :: ((u2.2.2.2.1.1 1), .inl (cy 2, 9, .inl (fun _ => 0))) :: ((u2.2.2.2.1.1 2), .inl (cy 0, 9, .inl (fun _ => 0))) :: ((u2.2.2.2.1.1 3), .inl (cy 3, 8, .inr (.inr (.inr (.inr (fun k9 => if k9 < 8 then some (u2.2.2.2.1.2.1 k9) else none)))))) :: ((u2.2.2.2.1.2.1 0), .inl (cy 1, 11, .inr (.inl (fun _ => 0)))) :: ((u2.2.2.2.1.2.1 1), .inl (cy 1, 11, .inr (.inl (fun _ => 0)))) :: ((u2.2.2.2.1.2.1 2), .inl (cy 1, 11, .inr (.inl (fun _ => 0)))) :: ((u2.2.2.2.1.2.1 3), .inl (cy 1, 11, .inr (.inl (fun _ => 0)))) :: ((u2.2.2.2.1.2.1 4), .inl (cy 1, 11, .inr (.inl (fun _ => 0)))) :: ((u2.2.2.2.1.2.1 5), .inl (cy 1, 11, .inr (.inl (fun _ => 0)))) :: ((u2.2.2.2.1.2.1 6), .inl (cy 1, 11, .inr (.inl (fun _ => 0)))) :: ((u2.2.2.2.1.2.1 7), .inl (cy 1, 11, .inr (.inl (fun _ => 0)))) :: ((u2.2.2.2.1.1 4), .inl (cy 3, 9, .inr (.inr (.inr (.inr (fun k9 => if k9 < 9 then some (u2.2.2.2.1.2.2 k9) else none)))))) :: ((u2.2.2.2.1.2.2 0), .inl (cy 1, 3, .inr (.inl (fun _ => 0)))) :: ((u2.2.2.2.1.2.2 1), .inl (cy 1, 3, .inr (.inl (fun _ => 0)))) :: ((u2.2.2.2.1.2.2 2), .inl (cy 1, 3, .inr (.inl (fun _ => 0)))) :: ((u2.2.2.2.1.2.2 3), .inl (cy 1, 3, .inr (.inl (fun _ => 0)))) :: ((u2.2.2.2.1.2.2 4), .inl (cy 1, 3, .inr (.inl (fun _ => 0)))) :: ((u2.2.2.2.1.2.2 5), .inl (cy 1, 3, .inr (.inl (fun _ => 0)))) :: ((u2.2.2.2.1.2.2 6), .inl (cy 1, 3, .inr (.inl (fun _ => 0)))) :: ((u2.2.2.2.1.2.2 7), .inl (cy 1, 3, .inr (.inl (fun _ => 0)))) :: ((u2.2.2.2.1.2.2 8), .inl (cy 1, 3, .inr (.inl (fun _ => 0)))) :: ((u2.2.2.2.1.1 7), .inl (cy 2, 24, .inl (fun _ => 0))) :: ((u2.1 4), .inr (4, [.ref (u2.2.2.2.2 0), .ref (u2.2.2.2.2 1)])) :: ((u2.2.2.2.2 0), .inl (cy 0, 200, .inl (fun _ => 0))) :: ((u2.2.2.2.2 1), .inl (cy 0, 401, .inl (fun _ => 0))) :: (n4, .inr (17, [.null, .null, .null, .null, .null, .null, .null, .null, .null, .null, .null, .null, .null, .null, .null, .null, .null, .null, .null, .null, .null, .int 0, .int 0, .int 0, .int 0, .long 0, .int 0])) :: []) := hD
  refine W.widen (k := 190) (n := 9177) (by omega) (by omega) ?_
  refine lv_dup hx hb dL_law_11 rfl ?_
  refine zq_v (wc := [(n4, .inr (17, [.null, .null, .null, .null, .null, .null, .null, .null, .null, .null, .null, .null, .null, .null, .null, .null, .null, .null, .null, .null, .null, .int 0, .int 0, .int 0, .int 0, .long 0, .int 0]))]) (wr := ((n1, .inr (12, [.ref (u2.1 0), .ref (u2.1 1), .ref (u2.1 2), .ref (u2.1 3), .ref (u2.1 4), .ref (u2.1 5), .ref (u2.1 6), .int 0])) :: ((u2.1 0), .inr (3, [.ref (u2.2.1.1 0), .ref (u2.2.1.1 1), .int 0, .int 0])) :: ((u2.2.1.1 1), .inr (5, [.ref (u2.2.1.2 0), .ref (u2.2.1.2 1), .ref (u2.2.1.2 2), .ref (u2.2.1.2 3), .int 0])) :: ((u2.2.1.2 3), .inl (cy 0, 9, .inl (fun _ => 0))) :: ((u2.1 1), .inr (7, [.ref (u2.1 0), .ref (u2.2.2.1.1 0), .ref (u2.2.2.1.1 1), .ref (u2.2.2.1.1 2), .ref (u2.2.2.1.1 3), .ref (u2.2.2.1.1 4), .ref (u2.2.2.1.1 5), .ref (u2.2.2.1.1 6), .int 0, .long 0, .ref (u2.2.2.1.1 7), .int 0, .int 0, .long 1])) :: ((u2.2.2.1.1 0), .inl (cy 0, 9, .inl (fun _ => 0))) :: ((u2.2.2.1.1 1), .inl (cy 2, 9, .inl (fun _ => 0))) :: ((u2.2.2.1.1 2), .inl (cy 0, 9, .inl (fun _ => 0))) :: ((u2.2.2.1.1 3), .inl (cy 3, 8, .inr (.inr (.inr (.inr (fun k9 => if k9 < 8 then some (u2.2.2.1.2.1 k9) else none)))))) :: ((u2.2.2.1.2.1 0), .inl (cy 1, 11, .inr (.inl (fun _ => 0)))) :: ((u2.2.2.1.2.1 1), .inl (cy 1, 11, .inr (.inl (fun _ => 0)))) :: ((u2.2.2.1.2.1 2), .inl (cy 1, 11, .inr (.inl (fun _ => 0)))) :: ((u2.2.2.1.2.1 3), .inl (cy 1, 11, .inr (.inl (fun _ => 0)))) :: ((u2.2.2.1.2.1 4), .inl (cy 1, 11, .inr (.inl (fun _ => 0)))) :: ((u2.2.2.1.2.1 5), .inl (cy 1, 11, .inr (.inl (fun _ => 0)))) :: ((u2.2.2.1.2.1 6), .inl (cy 1, 11, .inr (.inl (fun _ => 0)))) :: ((u2.2.2.1.2.1 7), .inl (cy 1, 11, .inr (.inl (fun _ => 0)))) :: ((u2.2.2.1.1 4), .inl (cy 3, 9, .inr (.inr (.inr (.inr (fun k9 => if k9 < 9 then some (u2.2.2.1.2.2 k9) else none)))))) :: ((u2.2.2.1.2.2 0), .inl (cy 1, 3, .inr (.inl (fun _ => 0)))) :: ((u2.2.2.1.2.2 1), .inl (cy 1, 3, .inr (.inl (fun _ => 0)))) :: ((u2.2.2.1.2.2 2), .inl (cy 1, 3, .inr (.inl (fun _ => 0)))) :: ((u2.2.2.1.2.2 3), .inl (cy 1, 3, .inr (.inl (fun _ => 0)))) :: ((u2.2.2.1.2.2 4), .inl (cy 1, 3, .inr (.inl (fun _ => 0)))) :: ((u2.2.2.1.2.2 5), .inl (cy 1, 3, .inr (.inl (fun _ => 0)))) :: ((u2.2.2.1.2.2 6), .inl (cy 1, 3, .inr (.inl (fun _ => 0)))) :: ((u2.2.2.1.2.2 7), .inl (cy 1, 3, .inr (.inl (fun _ => 0)))) :: ((u2.2.2.1.2.2 8), .inl (cy 1, 3, .inr (.inl (fun _ => 0)))) :: ((u2.2.2.1.1 7), .inl (cy 2, 24, .inl (fun _ => 0))) :: ((u2.1 2), .inr (7, [.ref (u2.1 0), .ref (u2.2.2.2.1.1 0), .ref (u2.2.2.2.1.1 1), .ref (u2.2.2.2.1.1 2), .ref (u2.2.2.2.1.1 3), .ref (u2.2.2.2.1.1 4), .ref (u2.2.2.2.1.1 5), .ref (u2.2.2.2.1.1 6), .int 0, .long 0, .ref (u2.2.2.2.1.1 7), .int 0, .int 0, .long 1])) :: ((u2.2.2.2.1.1 0), .inl (cy 0, 9, .inl (fun _ => 0))) :: ((u2.2.2.2.1.1 1), .inl (cy 2, 9, .inl (fun _ => 0))) :: ((u2.2.2.2.1.1 2), .inl (cy 0, 9, .inl (fun _ => 0))) :: ((u2.2.2.2.1.1 3), .inl (cy 3, 8, .inr (.inr (.inr (.inr (fun k9 => if k9 < 8 then some (u2.2.2.2.1.2.1 k9) else none)))))) :: ((u2.2.2.2.1.2.1 0), .inl (cy 1, 11, .inr (.inl (fun _ => 0)))) :: ((u2.2.2.2.1.2.1 1), .inl (cy 1, 11, .inr (.inl (fun _ => 0)))) :: ((u2.2.2.2.1.2.1 2), .inl (cy 1, 11, .inr (.inl (fun _ => 0)))) :: ((u2.2.2.2.1.2.1 3), .inl (cy 1, 11, .inr (.inl (fun _ => 0)))) :: ((u2.2.2.2.1.2.1 4), .inl (cy 1, 11, .inr (.inl (fun _ => 0)))) :: ((u2.2.2.2.1.2.1 5), .inl (cy 1, 11, .inr (.inl (fun _ => 0)))) :: ((u2.2.2.2.1.2.1 6), .inl (cy 1, 11, .inr (.inl (fun _ => 0)))) :: ((u2.2.2.2.1.2.1 7), .inl (cy 1, 11, .inr (.inl (fun _ => 0)))) :: ((u2.2.2.2.1.1 4), .inl (cy 3, 9, .inr (.inr (.inr (.inr (fun k9 => if k9 < 9 then some (u2.2.2.2.1.2.2 k9) else none)))))) :: ((u2.2.2.2.1.2.2 0), .inl (cy 1, 3, .inr (.inl (fun _ => 0)))) :: ((u2.2.2.2.1.2.2 1), .inl (cy 1, 3, .inr (.inl (fun _ => 0)))) :: ((u2.2.2.2.1.2.2 2), .inl (cy 1, 3, .inr (.inl (fun _ => 0)))) :: ((u2.2.2.2.1.2.2 3), .inl (cy 1, 3, .inr (.inl (fun _ => 0)))) :: ((u2.2.2.2.1.2.2 4), .inl (cy 1, 3, .inr (.inl (fun _ => 0)))) :: ((u2.2.2.2.1.2.2 5), .inl (cy 1, 3, .inr (.inl (fun _ => 0)))) :: ((u2.2.2.2.1.2.2 6), .inl (cy 1, 3, .inr (.inl (fun _ => 0)))) :: ((u2.2.2.2.1.2.2 7), .inl (cy 1, 3, .inr (.inl (fun _ => 0)))) :: ((u2.2.2.2.1.2.2 8), .inl (cy 1, 3, .inr (.inl (fun _ => 0)))) :: ((u2.2.2.2.1.1 7), .inl (cy 2, 24, .inl (fun _ => 0))) :: ((u2.1 4), .inr (4, [.ref (u2.2.2.2.2 0), .ref (u2.2.2.2.2 1)])) :: ((u2.2.2.2.2 0), .inl (cy 0, 200, .inl (fun _ => 0))) :: ((u2.2.2.2.2 1), .inl (cy 0, 401, .inl (fun _ => 0))) :: [])) (va_runI (As := []) (rest := [.ref n4]) ⟨hx, hb, hml, hown, hts⟩ (k_M_init l D cy n4 H.size ) (cwI 0 hts (gz q559) rfl rfl rfl (hts _ q285) (hts _ q558) (hts _ q560) rfl vX14_init.2 ⟨Nat.le_of_ble_eq_true rfl, Nat.le_of_ble_eq_true rfl⟩) (zpS hK hX hY hP hD hS hA [55] (by decide) rfl) rfl rfl hl.1 rfl (lv_room (Nat.le_of_ble_eq_true rfl)) dL_law_12 ⟨Nat.le_of_ble_eq_true rfl, Nat.le_of_ble_eq_true rfl⟩) hP hD hS hA [55] (0 :: 1 :: 2 :: 3 :: 4 :: 5 :: 6 :: 7 :: 8 :: 9 :: 10 :: 11 :: 12 :: 13 :: 14 :: 15 :: 16 :: 17 :: 18 :: 19 :: 20 :: 21 :: 22 :: 23 :: 24 :: 25 :: 26 :: 27 :: 28 :: 29 :: 30 :: 31 :: 32 :: 33 :: 34 :: 35 :: 36 :: 37 :: 38 :: 39 :: 40 :: 41 :: 42 :: 43 :: 44 :: 45 :: 46 :: 47 :: 48 :: 49 :: 50 :: 51 :: 52 :: 53 :: 54 :: []) rfl rfl (by decide) (by decide) (fun u5 H locs hw hP hD hS => ?_)
  have hP : va_P D vwCl ((n1, .inr (12, [.ref (u2.1 0), .ref (u2.1 1), .ref (u2.1 2), .ref (u2.1 3), .ref (u2.1 4), .ref (u2.1 5), .ref (u2.1 6), .int 0])) :: ((u2.1 0), .inr (3, [.ref (u2.2.1.1 0), .ref (u2.2.1.1 1), .int 0, .int 0])) :: ((u2.2.1.1 1), .inr (5, [.ref (u2.2.1.2 0), .ref (u2.2.1.2 1), .ref (u2.2.1.2 2), .ref (u2.2.1.2 3), .int 0])) :: ((u2.2.1.2 3), .inl (cy 0, 9, .inl (fun _ => 0))) :: ((u2.1 1), .inr (7, [.ref (u2.1 0), .ref (u2.2.2.1.1 0), .ref (u2.2.2.1.1 1), .ref (u2.2.2.1.1 2), .ref (u2.2.2.1.1 3), .ref (u2.2.2.1.1 4), .ref (u2.2.2.1.1 5), .ref (u2.2.2.1.1 6), .int 0, .long 0, .ref (u2.2.2.1.1 7), .int 0, .int 0, .long 1])) :: ((u2.2.2.1.1 0), .inl (cy 0, 9, .inl (fun _ => 0))) :: ((u2.2.2.1.1 1), .inl (cy 2, 9, .inl (fun _ => 0))) :: ((u2.2.2.1.1 2), .inl (cy 0, 9, .inl (fun _ => 0))) :: ((u2.2.2.1.1 3), .inl (cy 3, 8, .inr (.inr (.inr (.inr (fun k9 => if k9 < 8 then some (u2.2.2.1.2.1 k9) else none)))))) :: ((u2.2.2.1.2.1 0), .inl (cy 1, 11, .inr (.inl (fun _ => 0)))) :: ((u2.2.2.1.2.1 1), .inl (cy 1, 11, .inr (.inl (fun _ => 0)))) :: ((u2.2.2.1.2.1 2), .inl (cy 1, 11, .inr (.inl (fun _ => 0)))) :: ((u2.2.2.1.2.1 3), .inl (cy 1, 11, .inr (.inl (fun _ => 0)))) :: ((u2.2.2.1.2.1 4), .inl (cy 1, 11, .inr (.inl (fun _ => 0)))) :: ((u2.2.2.1.2.1 5), .inl (cy 1, 11, .inr (.inl (fun _ => 0)))) :: ((u2.2.2.1.2.1 6), .inl (cy 1, 11, .inr (.inl (fun _ => 0)))) :: ((u2.2.2.1.2.1 7), .inl (cy 1, 11, .inr (.inl (fun _ => 0)))) :: ((u2.2.2.1.1 4), .inl (cy 3, 9, .inr (.inr (.inr (.inr (fun k9 => if k9 < 9 then some (u2.2.2.1.2.2 k9) else none)))))) :: ((u2.2.2.1.2.2 0), .inl (cy 1, 3, .inr (.inl (fun _ => 0)))) :: ((u2.2.2.1.2.2 1), .inl (cy 1, 3, .inr (.inl (fun _ => 0)))) :: ((u2.2.2.1.2.2 2), .inl (cy 1, 3, .inr (.inl (fun _ => 0)))) :: ((u2.2.2.1.2.2 3), .inl (cy 1, 3, .inr (.inl (fun _ => 0)))) :: ((u2.2.2.1.2.2 4), .inl (cy 1, 3, .inr (.inl (fun _ => 0)))) :: ((u2.2.2.1.2.2 5), .inl (cy 1, 3, .inr (.inl (fun _ => 0)))) :: ((u2.2.2.1.2.2 6), .inl (cy 1, 3, .inr (.inl (fun _ => 0)))) :: ((u2.2.2.1.2.2 7), .inl (cy 1, 3, .inr (.inl (fun _ => 0)))) :: ((u2.2.2.1.2.2 8), .inl (cy 1, 3, .inr (.inl (fun _ => 0)))) :: ((u2.2.2.1.1 7), .inl (cy 2, 24, .inl (fun _ => 0))) :: ((u2.1 2), .inr (7, [.ref (u2.1 0), .ref (u2.2.2.2.1.1 0), .ref (u2.2.2.2.1.1 1), .ref (u2.2.2.2.1.1 2), .ref (u2.2.2.2.1.1 3), .ref (u2.2.2.2.1.1 4), .ref (u2.2.2.2.1.1 5), .ref (u2.2.2.2.1.1 6), .int 0, .long 0, .ref (u2.2.2.2.1.1 7), .int 0, .int 0, .long 1])) :: ((u2.2.2.2.1.1 0), .inl (cy 0, 9, .inl (fun _ => 0))) :: ((u2.2.2.2.1.1 1), .inl (cy 2, 9, .inl (fun _ => 0))) :: ((u2.2.2.2.1.1 2), .inl (cy 0, 9, .inl (fun _ => 0))) :: ((u2.2.2.2.1.1 3), .inl (cy 3, 8, .inr (.inr (.inr (.inr (fun k9 => if k9 < 8 then some (u2.2.2.2.1.2.1 k9) else none)))))) :: ((u2.2.2.2.1.2.1 0), .inl (cy 1, 11, .inr (.inl (fun _ => 0)))) :: ((u2.2.2.2.1.2.1 1), .inl (cy 1, 11, .inr (.inl (fun _ => 0)))) :: ((u2.2.2.2.1.2.1 2), .inl (cy 1, 11, .inr (.inl (fun _ => 0)))) :: ((u2.2.2.2.1.2.1 3), .inl (cy 1, 11, .inr (.inl (fun _ => 0)))) :: ((u2.2.2.2.1.2.1 4), .inl (cy 1, 11, .inr (.inl (fun _ => 0)))) :: ((u2.2.2.2.1.2.1 5), .inl (cy 1, 11, .inr (.inl (fun _ => 0)))) :: ((u2.2.2.2.1.2.1 6), .inl (cy 1, 11, .inr (.inl (fun _ => 0)))) :: ((u2.2.2.2.1.2.1 7), .inl (cy 1, 11, .inr (.inl (fun _ => 0)))) :: ((u2.2.2.2.1.1 4), .inl (cy 3, 9, .inr (.inr (.inr (.inr (fun k9 => if k9 < 9 then some (u2.2.2.2.1.2.2 k9) else none)))))) :: ((u2.2.2.2.1.2.2 0), .inl (cy 1, 3, .inr (.inl (fun _ => 0)))) :: ((u2.2.2.2.1.2.2 1), .inl (cy 1, 3, .inr (.inl (fun _ => 0)))) :: ((u2.2.2.2.1.2.2 2), .inl (cy 1, 3, .inr (.inl (fun _ => 0)))) :: ((u2.2.2.2.1.2.2 3), .inl (cy 1, 3, .inr (.inl (fun _ => 0)))) :: ((u2.2.2.2.1.2.2 4), .inl (cy 1, 3, .inr (.inl (fun _ => 0)))) :: ((u2.2.2.2.1.2.2 5), .inl (cy 1, 3, .inr (.inl (fun _ => 0)))) :: ((u2.2.2.2.1.2.2 6), .inl (cy 1, 3, .inr (.inl (fun _ => 0)))) :: ((u2.2.2.2.1.2.2 7), .inl (cy 1, 3, .inr (.inl (fun _ => 0)))) :: ((u2.2.2.2.1.2.2 8), .inl (cy 1, 3, .inr (.inl (fun _ => 0)))) :: ((u2.2.2.2.1.1 7), .inl (cy 2, 24, .inl (fun _ => 0))) :: ((u2.1 4), .inr (4, [.ref (u2.2.2.2.2 0), .ref (u2.2.2.2.2 1)])) :: ((u2.2.2.2.2 0), .inl (cy 0, 200, .inl (fun _ => 0))) :: ((u2.2.2.2.2 1), .inl (cy 0, 401, .inl (fun _ => 0))) :: (n4, .inr (17, [.ref (u5 0), .ref (u5 1), .ref (u5 2), .ref (u5 3), .ref (u5 4), .ref (u5 5), .ref (u5 6), .ref (u5 7), .ref (u5 8), .ref (u5 9), .ref (u5 10), .ref (u5 11), .ref (u5 12), .ref (u5 13), .ref (u5 14), .ref (u5 15), .ref (u5 16), .ref (u5 17), .ref (u5 18), .ref (u5 19), .ref (u5 20), .int 0, .int 0, .int 0, .int 0, .long 0, .int 0])) :: ((u5 0), .inr (2, [.int 0, .ref (u5 21), .int 0])) :: ((u5 2), .inr (2, [.int 0, .ref (u5 22), .int 0])) :: ((u5 7), .inl (cy 0, 200, .inl (fun _ => 0))) :: ((u5 8), .inl (cy 0, 401, .inl (fun _ => 0))) :: ((u5 9), .inl (cy 0, 9, .inl (fun _ => 0))) :: ((u5 10), .inl (cy 0, 9, .inl (fun _ => 0))) :: ((u5 12), .inl (cy 2, 9, .inl (fun _ => 0))) :: ((u5 14), .inl (cy 1, 256, .inr (.inl (fun _ => 0)))) :: ((u5 16), .inl (cy 1, 64, .inr (.inl (fun _ => 0)))) :: ((u5 17), .inl (cy 1, 24, .inr (.inl (fun _ => 0)))) :: []) H := hP
  have hD : va_D A ((n1, .inr (12, [.ref (u2.1 0), .ref (u2.1 1), .ref (u2.1 2), .ref (u2.1 3), .ref (u2.1 4), .ref (u2.1 5), .ref (u2.1 6), .int 0])) :: ((u2.1 0), .inr (3, [.ref (u2.2.1.1 0), .ref (u2.2.1.1 1), .int 0, .int 0])) :: ((u2.2.1.1 1), .inr (5, [.ref (u2.2.1.2 0), .ref (u2.2.1.2 1), .ref (u2.2.1.2 2), .ref (u2.2.1.2 3), .int 0])) :: ((u2.2.1.2 3), .inl (cy 0, 9, .inl (fun _ => 0))) :: ((u2.1 1), .inr (7, [.ref (u2.1 0), .ref (u2.2.2.1.1 0), .ref (u2.2.2.1.1 1), .ref (u2.2.2.1.1 2), .ref (u2.2.2.1.1 3), .ref (u2.2.2.1.1 4), .ref (u2.2.2.1.1 5), .ref (u2.2.2.1.1 6), .int 0, .long 0, .ref (u2.2.2.1.1 7), .int 0, .int 0, .long 1])) :: ((u2.2.2.1.1 0), .inl (cy 0, 9, .inl (fun _ => 0))) :: ((u2.2.2.1.1 1), .inl (cy 2, 9, .inl (fun _ => 0))) :: ((u2.2.2.1.1 2), .inl (cy 0, 9, .inl (fun _ => 0))) :: ((u2.2.2.1.1 3), .inl (cy 3, 8, .inr (.inr (.inr (.inr (fun k9 => if k9 < 8 then some (u2.2.2.1.2.1 k9) else none)))))) :: ((u2.2.2.1.2.1 0), .inl (cy 1, 11, .inr (.inl (fun _ => 0)))) :: ((u2.2.2.1.2.1 1), .inl (cy 1, 11, .inr (.inl (fun _ => 0)))) :: ((u2.2.2.1.2.1 2), .inl (cy 1, 11, .inr (.inl (fun _ => 0)))) :: ((u2.2.2.1.2.1 3), .inl (cy 1, 11, .inr (.inl (fun _ => 0)))) :: ((u2.2.2.1.2.1 4), .inl (cy 1, 11, .inr (.inl (fun _ => 0)))) :: ((u2.2.2.1.2.1 5), .inl (cy 1, 11, .inr (.inl (fun _ => 0)))) :: ((u2.2.2.1.2.1 6), .inl (cy 1, 11, .inr (.inl (fun _ => 0)))) :: ((u2.2.2.1.2.1 7), .inl (cy 1, 11, .inr (.inl (fun _ => 0)))) :: ((u2.2.2.1.1 4), .inl (cy 3, 9, .inr (.inr (.inr (.inr (fun k9 => if k9 < 9 then some (u2.2.2.1.2.2 k9) else none)))))) :: ((u2.2.2.1.2.2 0), .inl (cy 1, 3, .inr (.inl (fun _ => 0)))) :: ((u2.2.2.1.2.2 1), .inl (cy 1, 3, .inr (.inl (fun _ => 0)))) :: ((u2.2.2.1.2.2 2), .inl (cy 1, 3, .inr (.inl (fun _ => 0)))) :: ((u2.2.2.1.2.2 3), .inl (cy 1, 3, .inr (.inl (fun _ => 0)))) :: ((u2.2.2.1.2.2 4), .inl (cy 1, 3, .inr (.inl (fun _ => 0)))) :: ((u2.2.2.1.2.2 5), .inl (cy 1, 3, .inr (.inl (fun _ => 0)))) :: ((u2.2.2.1.2.2 6), .inl (cy 1, 3, .inr (.inl (fun _ => 0)))) :: ((u2.2.2.1.2.2 7), .inl (cy 1, 3, .inr (.inl (fun _ => 0)))) :: ((u2.2.2.1.2.2 8), .inl (cy 1, 3, .inr (.inl (fun _ => 0)))) :: ((u2.2.2.1.1 7), .inl (cy 2, 24, .inl (fun _ => 0))) :: ((u2.1 2), .inr (7, [.ref (u2.1 0), .ref (u2.2.2.2.1.1 0), .ref (u2.2.2.2.1.1 1), .ref (u2.2.2.2.1.1 2), .ref (u2.2.2.2.1.1 3), .ref (u2.2.2.2.1.1 4), .ref (u2.2.2.2.1.1 5), .ref (u2.2.2.2.1.1 6), .int 0, .long 0, .ref (u2.2.2.2.1.1 7), .int 0, .int 0, .long 1])) :: ((u2.2.2.2.1.1 0), .inl (cy 0, 9, .inl (fun _ => 0))) :: ((u2.2.2.2.1.1 1), .inl (cy 2, 9, .inl (fun _ => 0))) :: ((u2.2.2.2.1.1 2), .inl (cy 0, 9, .inl (fun _ => 0))) :: ((u2.2.2.2.1.1 3), .inl (cy 3, 8, .inr (.inr (.inr (.inr (fun k9 => if k9 < 8 then some (u2.2.2.2.1.2.1 k9) else none)))))) :: ((u2.2.2.2.1.2.1 0), .inl (cy 1, 11, .inr (.inl (fun _ => 0)))) :: ((u2.2.2.2.1.2.1 1), .inl (cy 1, 11, .inr (.inl (fun _ => 0)))) :: ((u2.2.2.2.1.2.1 2), .inl (cy 1, 11, .inr (.inl (fun _ => 0)))) :: ((u2.2.2.2.1.2.1 3), .inl (cy 1, 11, .inr (.inl (fun _ => 0)))) :: ((u2.2.2.2.1.2.1 4), .inl (cy 1, 11, .inr (.inl (fun _ => 0)))) :: ((u2.2.2.2.1.2.1 5), .inl (cy 1, 11, .inr (.inl (fun _ => 0)))) :: ((u2.2.2.2.1.2.1 6), .inl (cy 1, 11, .inr (.inl (fun _ => 0)))) :: ((u2.2.2.2.1.2.1 7), .inl (cy 1, 11, .inr (.inl (fun _ => 0)))) :: ((u2.2.2.2.1.1 4), .inl (cy 3, 9, .inr (.inr (.inr (.inr (fun k9 => if k9 < 9 then some (u2.2.2.2.1.2.2 k9) else none)))))) :: ((u2.2.2.2.1.2.2 0), .inl (cy 1, 3, .inr (.inl (fun _ => 0)))) :: ((u2.2.2.2.1.2.2 1), .inl (cy 1, 3, .inr (.inl (fun _ => 0)))) :: ((u2.2.2.2.1.2.2 2), .inl (cy 1, 3, .inr (.inl (fun _ => 0)))) :: ((u2.2.2.2.1.2.2 3), .inl (cy 1, 3, .inr (.inl (fun _ => 0)))) :: ((u2.2.2.2.1.2.2 4), .inl (cy 1, 3, .inr (.inl (fun _ => 0)))) :: ((u2.2.2.2.1.2.2 5), .inl (cy 1, 3, .inr (.inl (fun _ => 0)))) :: ((u2.2.2.2.1.2.2 6), .inl (cy 1, 3, .inr (.inl (fun _ => 0)))) :: ((u2.2.2.2.1.2.2 7), .inl (cy 1, 3, .inr (.inl (fun _ => 0)))) :: ((u2.2.2.2.1.2.2 8), .inl (cy 1, 3, .inr (.inl (fun _ => 0)))) :: ((u2.2.2.2.1.1 7), .inl (cy 2, 24, .inl (fun _ => 0))) :: ((u2.1 4), .inr (4, [.ref (u2.2.2.2.2 0), .ref (u2.2.2.2.2 1)])) :: ((u2.2.2.2.2 0), .inl (cy 0, 200, .inl (fun _ => 0))) :: ((u2.2.2.2.2 1), .inl (cy 0, 401, .inl (fun _ => 0))) :: (n4, .inr (17, [.ref (u5 0), .ref (u5 1), .ref (u5 2), .ref (u5 3), .ref (u5 4), .ref (u5 5), .ref (u5 6), .ref (u5 7), .ref (u5 8), .ref (u5 9), .ref (u5 10), .ref (u5 11), .ref (u5 12), .ref (u5 13), .ref (u5 14), .ref (u5 15), .ref (u5 16), .ref (u5 17), .ref (u5 18), .ref (u5 19), .ref (u5 20), .int 0, .int 0, .int 0, .int 0, .long 0, .int 0])) :: ((u5 0), .inr (2, [.int 0, .ref (u5 21), .int 0])) :: ((u5 2), .inr (2, [.int 0, .ref (u5 22), .int 0])) :: ((u5 7), .inl (cy 0, 200, .inl (fun _ => 0))) :: ((u5 8), .inl (cy 0, 401, .inl (fun _ => 0))) :: ((u5 9), .inl (cy 0, 9, .inl (fun _ => 0))) :: ((u5 10), .inl (cy 0, 9, .inl (fun _ => 0))) :: ((u5 12), .inl (cy 2, 9, .inl (fun _ => 0))) :: ((u5 14), .inl (cy 1, 256, .inr (.inl (fun _ => 0)))) :: ((u5 16), .inl (cy 1, 64, .inr (.inl (fun _ => 0)))) :: ((u5 17), .inl (cy 1, 24, .inr (.inl (fun _ => 0)))) :: []) := hD
  refine W.widen (k := 211) (n := 25110) (by omega) (by omega) ?_
  refine lv_astore_n (lv' := [(2, .ref n4), (1, .ref n1), (0, .ref b)]) hx hb dL_law_15 rfl hl (by decide) rfl (fun ls hl => ?_)
  refine lv_iconst (v := 1) hx hb dL_law_16 (by decide) ?_
  refine z_newa (atype := .long) hx hb (hts _ q41) rfl hK hP hD hS hA 1 rfl (a0 := (1, .inr (.inl (fun _ => 0)))) (fun _ => rfl) (by decide) (by decide) (by decide) (Nat.le_of_ble_eq_true rfl) (Nat.le_of_ble_eq_true rfl) dL_law_17 (fun n7 H hP hD hS => ?_)
  have hP : va_P D vwCl ((n1, .inr (12, [.ref (u2.1 0), .ref (u2.1 1), .ref (u2.1 2), .ref (u2.1 3), .ref (u2.1 4), .ref (u2.1 5), .ref (u2.1 6), .int 0])) :: ((u2.1 0), .inr (3, [.ref (u2.2.1.1 0), .ref (u2.2.1.1 1), .int 0, .int 0])) :: ((u2.2.1.1 1), .inr (5, [.ref (u2.2.1.2 0), .ref (u2.2.1.2 1), .ref (u2.2.1.2 2), .ref (u2.2.1.2 3), .int 0])) :: ((u2.2.1.2 3), .inl (cy 0, 9, .inl (fun _ => 0))) :: ((u2.1 1), .inr (7, [.ref (u2.1 0), .ref (u2.2.2.1.1 0), .ref (u2.2.2.1.1 1), .ref (u2.2.2.1.1 2), .ref (u2.2.2.1.1 3), .ref (u2.2.2.1.1 4), .ref (u2.2.2.1.1 5), .ref (u2.2.2.1.1 6), .int 0, .long 0, .ref (u2.2.2.1.1 7), .int 0, .int 0, .long 1])) :: ((u2.2.2.1.1 0), .inl (cy 0, 9, .inl (fun _ => 0))) :: ((u2.2.2.1.1 1), .inl (cy 2, 9, .inl (fun _ => 0))) :: ((u2.2.2.1.1 2), .inl (cy 0, 9, .inl (fun _ => 0))) :: ((u2.2.2.1.1 3), .inl (cy 3, 8, .inr (.inr (.inr (.inr (fun k9 => if k9 < 8 then some (u2.2.2.1.2.1 k9) else none)))))) :: ((u2.2.2.1.2.1 0), .inl (cy 1, 11, .inr (.inl (fun _ => 0)))) :: ((u2.2.2.1.2.1 1), .inl (cy 1, 11, .inr (.inl (fun _ => 0)))) :: ((u2.2.2.1.2.1 2), .inl (cy 1, 11, .inr (.inl (fun _ => 0)))) :: ((u2.2.2.1.2.1 3), .inl (cy 1, 11, .inr (.inl (fun _ => 0)))) :: ((u2.2.2.1.2.1 4), .inl (cy 1, 11, .inr (.inl (fun _ => 0)))) :: ((u2.2.2.1.2.1 5), .inl (cy 1, 11, .inr (.inl (fun _ => 0)))) :: ((u2.2.2.1.2.1 6), .inl (cy 1, 11, .inr (.inl (fun _ => 0)))) :: ((u2.2.2.1.2.1 7), .inl (cy 1, 11, .inr (.inl (fun _ => 0)))) :: ((u2.2.2.1.1 4), .inl (cy 3, 9, .inr (.inr (.inr (.inr (fun k9 => if k9 < 9 then some (u2.2.2.1.2.2 k9) else none)))))) :: ((u2.2.2.1.2.2 0), .inl (cy 1, 3, .inr (.inl (fun _ => 0)))) :: ((u2.2.2.1.2.2 1), .inl (cy 1, 3, .inr (.inl (fun _ => 0)))) :: ((u2.2.2.1.2.2 2), .inl (cy 1, 3, .inr (.inl (fun _ => 0)))) :: ((u2.2.2.1.2.2 3), .inl (cy 1, 3, .inr (.inl (fun _ => 0)))) :: ((u2.2.2.1.2.2 4), .inl (cy 1, 3, .inr (.inl (fun _ => 0)))) :: ((u2.2.2.1.2.2 5), .inl (cy 1, 3, .inr (.inl (fun _ => 0)))) :: ((u2.2.2.1.2.2 6), .inl (cy 1, 3, .inr (.inl (fun _ => 0)))) :: ((u2.2.2.1.2.2 7), .inl (cy 1, 3, .inr (.inl (fun _ => 0)))) :: ((u2.2.2.1.2.2 8), .inl (cy 1, 3, .inr (.inl (fun _ => 0)))) :: ((u2.2.2.1.1 7), .inl (cy 2, 24, .inl (fun _ => 0))) :: ((u2.1 2), .inr (7, [.ref (u2.1 0), .ref (u2.2.2.2.1.1 0), .ref (u2.2.2.2.1.1 1), .ref (u2.2.2.2.1.1 2), .ref (u2.2.2.2.1.1 3), .ref (u2.2.2.2.1.1 4), .ref (u2.2.2.2.1.1 5), .ref (u2.2.2.2.1.1 6), .int 0, .long 0, .ref (u2.2.2.2.1.1 7), .int 0, .int 0, .long 1])) :: ((u2.2.2.2.1.1 0), .inl (cy 0, 9, .inl (fun _ => 0))) :: ((u2.2.2.2.1.1 1), .inl (cy 2, 9, .inl (fun _ => 0))) :: ((u2.2.2.2.1.1 2), .inl (cy 0, 9, .inl (fun _ => 0))) :: ((u2.2.2.2.1.1 3), .inl (cy 3, 8, .inr (.inr (.inr (.inr (fun k9 => if k9 < 8 then some (u2.2.2.2.1.2.1 k9) else none)))))) :: ((u2.2.2.2.1.2.1 0), .inl (cy 1, 11, .inr (.inl (fun _ => 0)))) :: ((u2.2.2.2.1.2.1 1), .inl (cy 1, 11, .inr (.inl (fun _ => 0)))) :: ((u2.2.2.2.1.2.1 2), .inl (cy 1, 11, .inr (.inl (fun _ => 0)))) :: ((u2.2.2.2.1.2.1 3), .inl (cy 1, 11, .inr (.inl (fun _ => 0)))) :: ((u2.2.2.2.1.2.1 4), .inl (cy 1, 11, .inr (.inl (fun _ => 0)))) :: ((u2.2.2.2.1.2.1 5), .inl (cy 1, 11, .inr (.inl (fun _ => 0)))) :: ((u2.2.2.2.1.2.1 6), .inl (cy 1, 11, .inr (.inl (fun _ => 0)))) :: ((u2.2.2.2.1.2.1 7), .inl (cy 1, 11, .inr (.inl (fun _ => 0)))) :: ((u2.2.2.2.1.1 4), .inl (cy 3, 9, .inr (.inr (.inr (.inr (fun k9 => if k9 < 9 then some (u2.2.2.2.1.2.2 k9) else none)))))) :: ((u2.2.2.2.1.2.2 0), .inl (cy 1, 3, .inr (.inl (fun _ => 0)))) :: ((u2.2.2.2.1.2.2 1), .inl (cy 1, 3, .inr (.inl (fun _ => 0)))) :: ((u2.2.2.2.1.2.2 2), .inl (cy 1, 3, .inr (.inl (fun _ => 0)))) :: ((u2.2.2.2.1.2.2 3), .inl (cy 1, 3, .inr (.inl (fun _ => 0)))) :: ((u2.2.2.2.1.2.2 4), .inl (cy 1, 3, .inr (.inl (fun _ => 0)))) :: ((u2.2.2.2.1.2.2 5), .inl (cy 1, 3, .inr (.inl (fun _ => 0)))) :: ((u2.2.2.2.1.2.2 6), .inl (cy 1, 3, .inr (.inl (fun _ => 0)))) :: ((u2.2.2.2.1.2.2 7), .inl (cy 1, 3, .inr (.inl (fun _ => 0)))) :: ((u2.2.2.2.1.2.2 8), .inl (cy 1, 3, .inr (.inl (fun _ => 0)))) :: ((u2.2.2.2.1.1 7), .inl (cy 2, 24, .inl (fun _ => 0))) :: ((u2.1 4), .inr (4, [.ref (u2.2.2.2.2 0), .ref (u2.2.2.2.2 1)])) :: ((u2.2.2.2.2 0), .inl (cy 0, 200, .inl (fun _ => 0))) :: ((u2.2.2.2.2 1), .inl (cy 0, 401, .inl (fun _ => 0))) :: (n4, .inr (17, [.ref (u5 0), .ref (u5 1), .ref (u5 2), .ref (u5 3), .ref (u5 4), .ref (u5 5), .ref (u5 6), .ref (u5 7), .ref (u5 8), .ref (u5 9), .ref (u5 10), .ref (u5 11), .ref (u5 12), .ref (u5 13), .ref (u5 14), .ref (u5 15), .ref (u5 16), .ref (u5 17), .ref (u5 18), .ref (u5 19), .ref (u5 20), .int 0, .int 0, .int 0, .int 0, .long 0, .int 0])) :: ((u5 0), .inr (2, [.int 0, .ref (u5 21), .int 0])) :: ((u5 2), .inr (2, [.int 0, .ref (u5 22), .int 0])) :: ((u5 7), .inl (cy 0, 200, .inl (fun _ => 0))) :: ((u5 8), .inl (cy 0, 401, .inl (fun _ => 0))) :: ((u5 9), .inl (cy 0, 9, .inl (fun _ => 0))) :: ((u5 10), .inl (cy 0, 9, .inl (fun _ => 0))) :: ((u5 12), .inl (cy 2, 9, .inl (fun _ => 0))) :: ((u5 14), .inl (cy 1, 256, .inr (.inl (fun _ => 0)))) :: ((u5 16), .inl (cy 1, 64, .inr (.inl (fun _ => 0)))) :: ((u5 17), .inl (cy 1, 24, .inr (.inl (fun _ => 0)))) :: (n7, .inl (cy 1, 1, .inr (.inl (fun _ => 0)))) :: []) H := hP
  have hD : va_D A ((n1, .inr (12, [.ref (u2.1 0), .ref (u2.1 1), .ref (u2.1 2), .ref (u2.1 3), .ref (u2.1 4), .ref (u2.1 5), .ref (u2.1 6), .int 0])) :: ((u2.1 0), .inr (3, [.ref (u2.2.1.1 0), .ref (u2.2.1.1 1), .int 0, .int 0])) :: ((u2.2.1.1 1), .inr (5, [.ref (u2.2.1.2 0), .ref (u2.2.1.2 1), .ref (u2.2.1.2 2), .ref (u2.2.1.2 3), .int 0])) :: ((u2.2.1.2 3), .inl (cy 0, 9, .inl (fun _ => 0))) :: ((u2.1 1), .inr (7, [.ref (u2.1 0), .ref (u2.2.2.1.1 0), .ref (u2.2.2.1.1 1), .ref (u2.2.2.1.1 2), .ref (u2.2.2.1.1 3), .ref (u2.2.2.1.1 4), .ref (u2.2.2.1.1 5), .ref (u2.2.2.1.1 6), .int 0, .long 0, .ref (u2.2.2.1.1 7), .int 0, .int 0, .long 1])) :: ((u2.2.2.1.1 0), .inl (cy 0, 9, .inl (fun _ => 0))) :: ((u2.2.2.1.1 1), .inl (cy 2, 9, .inl (fun _ => 0))) :: ((u2.2.2.1.1 2), .inl (cy 0, 9, .inl (fun _ => 0))) :: ((u2.2.2.1.1 3), .inl (cy 3, 8, .inr (.inr (.inr (.inr (fun k9 => if k9 < 8 then some (u2.2.2.1.2.1 k9) else none)))))) :: ((u2.2.2.1.2.1 0), .inl (cy 1, 11, .inr (.inl (fun _ => 0)))) :: ((u2.2.2.1.2.1 1), .inl (cy 1, 11, .inr (.inl (fun _ => 0)))) :: ((u2.2.2.1.2.1 2), .inl (cy 1, 11, .inr (.inl (fun _ => 0)))) :: ((u2.2.2.1.2.1 3), .inl (cy 1, 11, .inr (.inl (fun _ => 0)))) :: ((u2.2.2.1.2.1 4), .inl (cy 1, 11, .inr (.inl (fun _ => 0)))) :: ((u2.2.2.1.2.1 5), .inl (cy 1, 11, .inr (.inl (fun _ => 0)))) :: ((u2.2.2.1.2.1 6), .inl (cy 1, 11, .inr (.inl (fun _ => 0)))) :: ((u2.2.2.1.2.1 7), .inl (cy 1, 11, .inr (.inl (fun _ => 0)))) :: ((u2.2.2.1.1 4), .inl (cy 3, 9, .inr (.inr (.inr (.inr (fun k9 => if k9 < 9 then some (u2.2.2.1.2.2 k9) else none)))))) :: ((u2.2.2.1.2.2 0), .inl (cy 1, 3, .inr (.inl (fun _ => 0)))) :: ((u2.2.2.1.2.2 1), .inl (cy 1, 3, .inr (.inl (fun _ => 0)))) :: ((u2.2.2.1.2.2 2), .inl (cy 1, 3, .inr (.inl (fun _ => 0)))) :: ((u2.2.2.1.2.2 3), .inl (cy 1, 3, .inr (.inl (fun _ => 0)))) :: ((u2.2.2.1.2.2 4), .inl (cy 1, 3, .inr (.inl (fun _ => 0)))) :: ((u2.2.2.1.2.2 5), .inl (cy 1, 3, .inr (.inl (fun _ => 0)))) :: ((u2.2.2.1.2.2 6), .inl (cy 1, 3, .inr (.inl (fun _ => 0)))) :: ((u2.2.2.1.2.2 7), .inl (cy 1, 3, .inr (.inl (fun _ => 0)))) :: ((u2.2.2.1.2.2 8), .inl (cy 1, 3, .inr (.inl (fun _ => 0)))) :: ((u2.2.2.1.1 7), .inl (cy 2, 24, .inl (fun _ => 0))) :: ((u2.1 2), .inr (7, [.ref (u2.1 0), .ref (u2.2.2.2.1.1 0), .ref (u2.2.2.2.1.1 1), .ref (u2.2.2.2.1.1 2), .ref (u2.2.2.2.1.1 3), .ref (u2.2.2.2.1.1 4), .ref (u2.2.2.2.1.1 5), .ref (u2.2.2.2.1.1 6), .int 0, .long 0, .ref (u2.2.2.2.1.1 7), .int 0, .int 0, .long 1])) :: ((u2.2.2.2.1.1 0), .inl (cy 0, 9, .inl (fun _ => 0))) :: ((u2.2.2.2.1.1 1), .inl (cy 2, 9, .inl (fun _ => 0))) :: ((u2.2.2.2.1.1 2), .inl (cy 0, 9, .inl (fun _ => 0))) :: ((u2.2.2.2.1.1 3), .inl (cy 3, 8, .inr (.inr (.inr (.inr (fun k9 => if k9 < 8 then some (u2.2.2.2.1.2.1 k9) else none)))))) :: ((u2.2.2.2.1.2.1 0), .inl (cy 1, 11, .inr (.inl (fun _ => 0)))) :: ((u2.2.2.2.1.2.1 1), .inl (cy 1, 11, .inr (.inl (fun _ => 0)))) :: ((u2.2.2.2.1.2.1 2), .inl (cy 1, 11, .inr (.inl (fun _ => 0)))) :: ((u2.2.2.2.1.2.1 3), .inl (cy 1, 11, .inr (.inl (fun _ => 0)))) :: ((u2.2.2.2.1.2.1 4), .inl (cy 1, 11, .inr (.inl (fun _ => 0)))) :: ((u2.2.2.2.1.2.1 5), .inl (cy 1, 11, .inr (.inl (fun _ => 0)))) :: ((u2.2.2.2.1.2.1 6), .inl (cy 1, 11, .inr (.inl (fun _ => 0)))) :: ((u2.2.2.2.1.2.1 7), .inl (cy 1, 11, .inr (.inl (fun _ => 0)))) :: ((u2.2.2.2.1.1 4), .inl (cy 3, 9, .inr (.inr (.inr (.inr (fun k9 => if k9 < 9 then some (u2.2.2.2.1.2.2 k9) else none)))))) :: ((u2.2.2.2.1.2.2 0), .inl (cy 1, 3, .inr (.inl (fun _ => 0)))) :: ((u2.2.2.2.1.2.2 1), .inl (cy 1, 3, .inr (.inl (fun _ => 0)))) :: ((u2.2.2.2.1.2.2 2), .inl (cy 1, 3, .inr (.inl (fun _ => 0)))) :: ((u2.2.2.2.1.2.2 3), .inl (cy 1, 3, .inr (.inl (fun _ => 0)))) :: ((u2.2.2.2.1.2.2 4), .inl (cy 1, 3, .inr (.inl (fun _ => 0)))) :: ((u2.2.2.2.1.2.2 5), .inl (cy 1, 3, .inr (.inl (fun _ => 0)))) :: ((u2.2.2.2.1.2.2 6), .inl (cy 1, 3, .inr (.inl (fun _ => 0)))) :: ((u2.2.2.2.1.2.2 7), .inl (cy 1, 3, .inr (.inl (fun _ => 0)))) :: ((u2.2.2.2.1.2.2 8), .inl (cy 1, 3, .inr (.inl (fun _ => 0)))) :: ((u2.2.2.2.1.1 7), .inl (cy 2, 24, .inl (fun _ => 0))) :: ((u2.1 4), .inr (4, [.ref (u2.2.2.2.2 0), .ref (u2.2.2.2.2 1)])) :: ((u2.2.2.2.2 0), .inl (cy 0, 200, .inl (fun _ => 0))) :: ((u2.2.2.2.2 1), .inl (cy 0, 401, .inl (fun _ => 0))) :: (n4, .inr (17, [.ref (u5 0), .ref (u5 1), .ref (u5 2), .ref (u5 3), .ref (u5 4), .ref (u5 5), .ref (u5 6), .ref (u5 7), .ref (u5 8), .ref (u5 9), .ref (u5 10), .ref (u5 11), .ref (u5 12), .ref (u5 13), .ref (u5 14), .ref (u5 15), .ref (u5 16), .ref (u5 17), .ref (u5 18), .ref (u5 19), .ref (u5 20), .int 0, .int 0, .int 0, .int 0, .long 0, .int 0])) :: ((u5 0), .inr (2, [.int 0, .ref (u5 21), .int 0])) :: ((u5 2), .inr (2, [.int 0, .ref (u5 22), .int 0])) :: ((u5 7), .inl (cy 0, 200, .inl (fun _ => 0))) :: ((u5 8), .inl (cy 0, 401, .inl (fun _ => 0))) :: ((u5 9), .inl (cy 0, 9, .inl (fun _ => 0))) :: ((u5 10), .inl (cy 0, 9, .inl (fun _ => 0))) :: ((u5 12), .inl (cy 2, 9, .inl (fun _ => 0))) :: ((u5 14), .inl (cy 1, 256, .inr (.inl (fun _ => 0)))) :: ((u5 16), .inl (cy 1, 64, .inr (.inl (fun _ => 0)))) :: ((u5 17), .inl (cy 1, 24, .inr (.inl (fun _ => 0)))) :: (n7, .inl (cy 1, 1, .inr (.inl (fun _ => 0)))) :: []) := hD
  refine W.widen (k := 212) (n := 25111) (by omega) (by omega) ?_
  refine lv_astore_n (lv' := [(3, .ref n7), (2, .ref n4), (1, .ref n1), (0, .ref b)]) hx hb dL_law_19 rfl hl (by decide) rfl (fun ls hl => ?_)
  refine lv_iconst (v := 1) hx hb dL_law_20 (by decide) ?_
  refine z_newa (atype := .double) hx hb (hts _ q561) rfl hK hP hD hS hA 7 rfl (a0 := (1, .inr (.inr (.inr (.inl (fun _ => 0)))))) (fun _ => rfl) (by decide) (by decide) (by decide) (Nat.le_of_ble_eq_true rfl) (Nat.le_of_ble_eq_true rfl) dL_law_21 (fun n8 H hP hD hS => ?_)
  have hP : va_P D vwCl ((n1, .inr (12, [.ref (u2.1 0), .ref (u2.1 1), .ref (u2.1 2), .ref (u2.1 3), .ref (u2.1 4), .ref (u2.1 5), .ref (u2.1 6), .int 0])) :: ((u2.1 0), .inr (3, [.ref (u2.2.1.1 0), .ref (u2.2.1.1 1), .int 0, .int 0])) :: ((u2.2.1.1 1), .inr (5, [.ref (u2.2.1.2 0), .ref (u2.2.1.2 1), .ref (u2.2.1.2 2), .ref (u2.2.1.2 3), .int 0])) :: ((u2.2.1.2 3), .inl (cy 0, 9, .inl (fun _ => 0))) :: ((u2.1 1), .inr (7, [.ref (u2.1 0), .ref (u2.2.2.1.1 0), .ref (u2.2.2.1.1 1), .ref (u2.2.2.1.1 2), .ref (u2.2.2.1.1 3), .ref (u2.2.2.1.1 4), .ref (u2.2.2.1.1 5), .ref (u2.2.2.1.1 6), .int 0, .long 0, .ref (u2.2.2.1.1 7), .int 0, .int 0, .long 1])) :: ((u2.2.2.1.1 0), .inl (cy 0, 9, .inl (fun _ => 0))) :: ((u2.2.2.1.1 1), .inl (cy 2, 9, .inl (fun _ => 0))) :: ((u2.2.2.1.1 2), .inl (cy 0, 9, .inl (fun _ => 0))) :: ((u2.2.2.1.1 3), .inl (cy 3, 8, .inr (.inr (.inr (.inr (fun k9 => if k9 < 8 then some (u2.2.2.1.2.1 k9) else none)))))) :: ((u2.2.2.1.2.1 0), .inl (cy 1, 11, .inr (.inl (fun _ => 0)))) :: ((u2.2.2.1.2.1 1), .inl (cy 1, 11, .inr (.inl (fun _ => 0)))) :: ((u2.2.2.1.2.1 2), .inl (cy 1, 11, .inr (.inl (fun _ => 0)))) :: ((u2.2.2.1.2.1 3), .inl (cy 1, 11, .inr (.inl (fun _ => 0)))) :: ((u2.2.2.1.2.1 4), .inl (cy 1, 11, .inr (.inl (fun _ => 0)))) :: ((u2.2.2.1.2.1 5), .inl (cy 1, 11, .inr (.inl (fun _ => 0)))) :: ((u2.2.2.1.2.1 6), .inl (cy 1, 11, .inr (.inl (fun _ => 0)))) :: ((u2.2.2.1.2.1 7), .inl (cy 1, 11, .inr (.inl (fun _ => 0)))) :: ((u2.2.2.1.1 4), .inl (cy 3, 9, .inr (.inr (.inr (.inr (fun k9 => if k9 < 9 then some (u2.2.2.1.2.2 k9) else none)))))) :: ((u2.2.2.1.2.2 0), .inl (cy 1, 3, .inr (.inl (fun _ => 0)))) :: ((u2.2.2.1.2.2 1), .inl (cy 1, 3, .inr (.inl (fun _ => 0)))) :: ((u2.2.2.1.2.2 2), .inl (cy 1, 3, .inr (.inl (fun _ => 0)))) :: ((u2.2.2.1.2.2 3), .inl (cy 1, 3, .inr (.inl (fun _ => 0)))) :: ((u2.2.2.1.2.2 4), .inl (cy 1, 3, .inr (.inl (fun _ => 0)))) :: ((u2.2.2.1.2.2 5), .inl (cy 1, 3, .inr (.inl (fun _ => 0)))) :: ((u2.2.2.1.2.2 6), .inl (cy 1, 3, .inr (.inl (fun _ => 0)))) :: ((u2.2.2.1.2.2 7), .inl (cy 1, 3, .inr (.inl (fun _ => 0)))) :: ((u2.2.2.1.2.2 8), .inl (cy 1, 3, .inr (.inl (fun _ => 0)))) :: ((u2.2.2.1.1 7), .inl (cy 2, 24, .inl (fun _ => 0))) :: ((u2.1 2), .inr (7, [.ref (u2.1 0), .ref (u2.2.2.2.1.1 0), .ref (u2.2.2.2.1.1 1), .ref (u2.2.2.2.1.1 2), .ref (u2.2.2.2.1.1 3), .ref (u2.2.2.2.1.1 4), .ref (u2.2.2.2.1.1 5), .ref (u2.2.2.2.1.1 6), .int 0, .long 0, .ref (u2.2.2.2.1.1 7), .int 0, .int 0, .long 1])) :: ((u2.2.2.2.1.1 0), .inl (cy 0, 9, .inl (fun _ => 0))) :: ((u2.2.2.2.1.1 1), .inl (cy 2, 9, .inl (fun _ => 0))) :: ((u2.2.2.2.1.1 2), .inl (cy 0, 9, .inl (fun _ => 0))) :: ((u2.2.2.2.1.1 3), .inl (cy 3, 8, .inr (.inr (.inr (.inr (fun k9 => if k9 < 8 then some (u2.2.2.2.1.2.1 k9) else none)))))) :: ((u2.2.2.2.1.2.1 0), .inl (cy 1, 11, .inr (.inl (fun _ => 0)))) :: ((u2.2.2.2.1.2.1 1), .inl (cy 1, 11, .inr (.inl (fun _ => 0)))) :: ((u2.2.2.2.1.2.1 2), .inl (cy 1, 11, .inr (.inl (fun _ => 0)))) :: ((u2.2.2.2.1.2.1 3), .inl (cy 1, 11, .inr (.inl (fun _ => 0)))) :: ((u2.2.2.2.1.2.1 4), .inl (cy 1, 11, .inr (.inl (fun _ => 0)))) :: ((u2.2.2.2.1.2.1 5), .inl (cy 1, 11, .inr (.inl (fun _ => 0)))) :: ((u2.2.2.2.1.2.1 6), .inl (cy 1, 11, .inr (.inl (fun _ => 0)))) :: ((u2.2.2.2.1.2.1 7), .inl (cy 1, 11, .inr (.inl (fun _ => 0)))) :: ((u2.2.2.2.1.1 4), .inl (cy 3, 9, .inr (.inr (.inr (.inr (fun k9 => if k9 < 9 then some (u2.2.2.2.1.2.2 k9) else none)))))) :: ((u2.2.2.2.1.2.2 0), .inl (cy 1, 3, .inr (.inl (fun _ => 0)))) :: ((u2.2.2.2.1.2.2 1), .inl (cy 1, 3, .inr (.inl (fun _ => 0)))) :: ((u2.2.2.2.1.2.2 2), .inl (cy 1, 3, .inr (.inl (fun _ => 0)))) :: ((u2.2.2.2.1.2.2 3), .inl (cy 1, 3, .inr (.inl (fun _ => 0)))) :: ((u2.2.2.2.1.2.2 4), .inl (cy 1, 3, .inr (.inl (fun _ => 0)))) :: ((u2.2.2.2.1.2.2 5), .inl (cy 1, 3, .inr (.inl (fun _ => 0)))) :: ((u2.2.2.2.1.2.2 6), .inl (cy 1, 3, .inr (.inl (fun _ => 0)))) :: ((u2.2.2.2.1.2.2 7), .inl (cy 1, 3, .inr (.inl (fun _ => 0)))) :: ((u2.2.2.2.1.2.2 8), .inl (cy 1, 3, .inr (.inl (fun _ => 0)))) :: ((u2.2.2.2.1.1 7), .inl (cy 2, 24, .inl (fun _ => 0))) :: ((u2.1 4), .inr (4, [.ref (u2.2.2.2.2 0), .ref (u2.2.2.2.2 1)])) :: ((u2.2.2.2.2 0), .inl (cy 0, 200, .inl (fun _ => 0))) :: ((u2.2.2.2.2 1), .inl (cy 0, 401, .inl (fun _ => 0))) :: (n4, .inr (17, [.ref (u5 0), .ref (u5 1), .ref (u5 2), .ref (u5 3), .ref (u5 4), .ref (u5 5), .ref (u5 6), .ref (u5 7), .ref (u5 8), .ref (u5 9), .ref (u5 10), .ref (u5 11), .ref (u5 12), .ref (u5 13), .ref (u5 14), .ref (u5 15), .ref (u5 16), .ref (u5 17), .ref (u5 18), .ref (u5 19), .ref (u5 20), .int 0, .int 0, .int 0, .int 0, .long 0, .int 0])) :: ((u5 0), .inr (2, [.int 0, .ref (u5 21), .int 0])) :: ((u5 2), .inr (2, [.int 0, .ref (u5 22), .int 0])) :: ((u5 7), .inl (cy 0, 200, .inl (fun _ => 0))) :: ((u5 8), .inl (cy 0, 401, .inl (fun _ => 0))) :: ((u5 9), .inl (cy 0, 9, .inl (fun _ => 0))) :: ((u5 10), .inl (cy 0, 9, .inl (fun _ => 0))) :: ((u5 12), .inl (cy 2, 9, .inl (fun _ => 0))) :: ((u5 14), .inl (cy 1, 256, .inr (.inl (fun _ => 0)))) :: ((u5 16), .inl (cy 1, 64, .inr (.inl (fun _ => 0)))) :: ((u5 17), .inl (cy 1, 24, .inr (.inl (fun _ => 0)))) :: (n7, .inl (cy 1, 1, .inr (.inl (fun _ => 0)))) :: (n8, .inl (cy 7, 1, .inr (.inr (.inr (.inl (fun _ => 0)))))) :: []) H := hP
  have hD : va_D A ((n1, .inr (12, [.ref (u2.1 0), .ref (u2.1 1), .ref (u2.1 2), .ref (u2.1 3), .ref (u2.1 4), .ref (u2.1 5), .ref (u2.1 6), .int 0])) :: ((u2.1 0), .inr (3, [.ref (u2.2.1.1 0), .ref (u2.2.1.1 1), .int 0, .int 0])) :: ((u2.2.1.1 1), .inr (5, [.ref (u2.2.1.2 0), .ref (u2.2.1.2 1), .ref (u2.2.1.2 2), .ref (u2.2.1.2 3), .int 0])) :: ((u2.2.1.2 3), .inl (cy 0, 9, .inl (fun _ => 0))) :: ((u2.1 1), .inr (7, [.ref (u2.1 0), .ref (u2.2.2.1.1 0), .ref (u2.2.2.1.1 1), .ref (u2.2.2.1.1 2), .ref (u2.2.2.1.1 3), .ref (u2.2.2.1.1 4), .ref (u2.2.2.1.1 5), .ref (u2.2.2.1.1 6), .int 0, .long 0, .ref (u2.2.2.1.1 7), .int 0, .int 0, .long 1])) :: ((u2.2.2.1.1 0), .inl (cy 0, 9, .inl (fun _ => 0))) :: ((u2.2.2.1.1 1), .inl (cy 2, 9, .inl (fun _ => 0))) :: ((u2.2.2.1.1 2), .inl (cy 0, 9, .inl (fun _ => 0))) :: ((u2.2.2.1.1 3), .inl (cy 3, 8, .inr (.inr (.inr (.inr (fun k9 => if k9 < 8 then some (u2.2.2.1.2.1 k9) else none)))))) :: ((u2.2.2.1.2.1 0), .inl (cy 1, 11, .inr (.inl (fun _ => 0)))) :: ((u2.2.2.1.2.1 1), .inl (cy 1, 11, .inr (.inl (fun _ => 0)))) :: ((u2.2.2.1.2.1 2), .inl (cy 1, 11, .inr (.inl (fun _ => 0)))) :: ((u2.2.2.1.2.1 3), .inl (cy 1, 11, .inr (.inl (fun _ => 0)))) :: ((u2.2.2.1.2.1 4), .inl (cy 1, 11, .inr (.inl (fun _ => 0)))) :: ((u2.2.2.1.2.1 5), .inl (cy 1, 11, .inr (.inl (fun _ => 0)))) :: ((u2.2.2.1.2.1 6), .inl (cy 1, 11, .inr (.inl (fun _ => 0)))) :: ((u2.2.2.1.2.1 7), .inl (cy 1, 11, .inr (.inl (fun _ => 0)))) :: ((u2.2.2.1.1 4), .inl (cy 3, 9, .inr (.inr (.inr (.inr (fun k9 => if k9 < 9 then some (u2.2.2.1.2.2 k9) else none)))))) :: ((u2.2.2.1.2.2 0), .inl (cy 1, 3, .inr (.inl (fun _ => 0)))) :: ((u2.2.2.1.2.2 1), .inl (cy 1, 3, .inr (.inl (fun _ => 0)))) :: ((u2.2.2.1.2.2 2), .inl (cy 1, 3, .inr (.inl (fun _ => 0)))) :: ((u2.2.2.1.2.2 3), .inl (cy 1, 3, .inr (.inl (fun _ => 0)))) :: ((u2.2.2.1.2.2 4), .inl (cy 1, 3, .inr (.inl (fun _ => 0)))) :: ((u2.2.2.1.2.2 5), .inl (cy 1, 3, .inr (.inl (fun _ => 0)))) :: ((u2.2.2.1.2.2 6), .inl (cy 1, 3, .inr (.inl (fun _ => 0)))) :: ((u2.2.2.1.2.2 7), .inl (cy 1, 3, .inr (.inl (fun _ => 0)))) :: ((u2.2.2.1.2.2 8), .inl (cy 1, 3, .inr (.inl (fun _ => 0)))) :: ((u2.2.2.1.1 7), .inl (cy 2, 24, .inl (fun _ => 0))) :: ((u2.1 2), .inr (7, [.ref (u2.1 0), .ref (u2.2.2.2.1.1 0), .ref (u2.2.2.2.1.1 1), .ref (u2.2.2.2.1.1 2), .ref (u2.2.2.2.1.1 3), .ref (u2.2.2.2.1.1 4), .ref (u2.2.2.2.1.1 5), .ref (u2.2.2.2.1.1 6), .int 0, .long 0, .ref (u2.2.2.2.1.1 7), .int 0, .int 0, .long 1])) :: ((u2.2.2.2.1.1 0), .inl (cy 0, 9, .inl (fun _ => 0))) :: ((u2.2.2.2.1.1 1), .inl (cy 2, 9, .inl (fun _ => 0))) :: ((u2.2.2.2.1.1 2), .inl (cy 0, 9, .inl (fun _ => 0))) :: ((u2.2.2.2.1.1 3), .inl (cy 3, 8, .inr (.inr (.inr (.inr (fun k9 => if k9 < 8 then some (u2.2.2.2.1.2.1 k9) else none)))))) :: ((u2.2.2.2.1.2.1 0), .inl (cy 1, 11, .inr (.inl (fun _ => 0)))) :: ((u2.2.2.2.1.2.1 1), .inl (cy 1, 11, .inr (.inl (fun _ => 0)))) :: ((u2.2.2.2.1.2.1 2), .inl (cy 1, 11, .inr (.inl (fun _ => 0)))) :: ((u2.2.2.2.1.2.1 3), .inl (cy 1, 11, .inr (.inl (fun _ => 0)))) :: ((u2.2.2.2.1.2.1 4), .inl (cy 1, 11, .inr (.inl (fun _ => 0)))) :: ((u2.2.2.2.1.2.1 5), .inl (cy 1, 11, .inr (.inl (fun _ => 0)))) :: ((u2.2.2.2.1.2.1 6), .inl (cy 1, 11, .inr (.inl (fun _ => 0)))) :: ((u2.2.2.2.1.2.1 7), .inl (cy 1, 11, .inr (.inl (fun _ => 0)))) :: ((u2.2.2.2.1.1 4), .inl (cy 3, 9, .inr (.inr (.inr (.inr (fun k9 => if k9 < 9 then some (u2.2.2.2.1.2.2 k9) else none)))))) :: ((u2.2.2.2.1.2.2 0), .inl (cy 1, 3, .inr (.inl (fun _ => 0)))) :: ((u2.2.2.2.1.2.2 1), .inl (cy 1, 3, .inr (.inl (fun _ => 0)))) :: ((u2.2.2.2.1.2.2 2), .inl (cy 1, 3, .inr (.inl (fun _ => 0)))) :: ((u2.2.2.2.1.2.2 3), .inl (cy 1, 3, .inr (.inl (fun _ => 0)))) :: ((u2.2.2.2.1.2.2 4), .inl (cy 1, 3, .inr (.inl (fun _ => 0)))) :: ((u2.2.2.2.1.2.2 5), .inl (cy 1, 3, .inr (.inl (fun _ => 0)))) :: ((u2.2.2.2.1.2.2 6), .inl (cy 1, 3, .inr (.inl (fun _ => 0)))) :: ((u2.2.2.2.1.2.2 7), .inl (cy 1, 3, .inr (.inl (fun _ => 0)))) :: ((u2.2.2.2.1.2.2 8), .inl (cy 1, 3, .inr (.inl (fun _ => 0)))) :: ((u2.2.2.2.1.1 7), .inl (cy 2, 24, .inl (fun _ => 0))) :: ((u2.1 4), .inr (4, [.ref (u2.2.2.2.2 0), .ref (u2.2.2.2.2 1)])) :: ((u2.2.2.2.2 0), .inl (cy 0, 200, .inl (fun _ => 0))) :: ((u2.2.2.2.2 1), .inl (cy 0, 401, .inl (fun _ => 0))) :: (n4, .inr (17, [.ref (u5 0), .ref (u5 1), .ref (u5 2), .ref (u5 3), .ref (u5 4), .ref (u5 5), .ref (u5 6), .ref (u5 7), .ref (u5 8), .ref (u5 9), .ref (u5 10), .ref (u5 11), .ref (u5 12), .ref (u5 13), .ref (u5 14), .ref (u5 15), .ref (u5 16), .ref (u5 17), .ref (u5 18), .ref (u5 19), .ref (u5 20), .int 0, .int 0, .int 0, .int 0, .long 0, .int 0])) :: ((u5 0), .inr (2, [.int 0, .ref (u5 21), .int 0])) :: ((u5 2), .inr (2, [.int 0, .ref (u5 22), .int 0])) :: ((u5 7), .inl (cy 0, 200, .inl (fun _ => 0))) :: ((u5 8), .inl (cy 0, 401, .inl (fun _ => 0))) :: ((u5 9), .inl (cy 0, 9, .inl (fun _ => 0))) :: ((u5 10), .inl (cy 0, 9, .inl (fun _ => 0))) :: ((u5 12), .inl (cy 2, 9, .inl (fun _ => 0))) :: ((u5 14), .inl (cy 1, 256, .inr (.inl (fun _ => 0)))) :: ((u5 16), .inl (cy 1, 64, .inr (.inl (fun _ => 0)))) :: ((u5 17), .inl (cy 1, 24, .inr (.inl (fun _ => 0)))) :: (n7, .inl (cy 1, 1, .inr (.inl (fun _ => 0)))) :: (n8, .inl (cy 7, 1, .inr (.inr (.inr (.inl (fun _ => 0)))))) :: []) := hD
  refine W.widen (k := 213) (n := 25112) (by omega) (by omega) ?_
  refine lv_astore (lv' := [(4, .ref n8), (3, .ref n7), (2, .ref n4), (1, .ref n1), (0, .ref b)]) hx hb dL_law_23 hl (by decide) rfl (fun ls hl => ?_)
  refine lv_iconst (v := 0) hx hb dL_law_25 (by decide) ?_
  refine lv_istore (lv' := [(5, .int 0), (4, .ref n8), (3, .ref n7), (2, .ref n4), (1, .ref n1), (0, .ref b)]) hx hb dL_law_26 hl (by decide) rfl (fun ls hl => ?_)
  exact kt n1 n4 n7 n8 u2 u5 _ _ _ hP hD hS (lv_sub hl [5, 4, 3, 2, 1, 0] rfl)
set_option maxHeartbeats 4000000 in
set_option maxRecDepth 100000 in
theorem c_station (l : Launch) {p : Program} {e : Env} {s : State} {m : MethodId} {below : List Frame} {meth : Method} {c : Code} {D : va_G} {cy : Nat → ClassId} {A : Nat → Prop} {b : Nat} {xs : Nat → Int32} {Q : State → Prop} {H : Heap} {locs : List Loc} {ls : Array Slot} (Z : zLaw l p s m c D cy A b 9 xs) (x0 : Nat) (g0 : Nat) (o1 : Nat) (o2 : Nat) (vC : Nat) (vP : Nat) (vT : Nat) (vS : Nat) (vF : Nat) (vN : Nat) (vY : Nat) (sS : Nat) (sJ : Nat) (m0 : Nat) (m1 : Nat) (m2 : Nat) (m3 : Nat) (m4 : Nat) (m5 : Nat) (m6 : Nat) (m7 : Nat) (m8 : Nat) (m9 : Nat) (m10 : Nat) (m11 : Nat) (m12 : Nat) (m13 : Nat) (m14 : Nat) (m15 : Nat) (m16 : Nat) (m17 : Nat) (m18 : Nat) (m19 : Nat) (m20 : Nat)  (hP : va_P D vwCl [(x0, .inr (12, [.ref vC, .ref vP, .ref vT, .ref vS, .ref vF, .ref vN, .ref vY, .int 0])), (vC, .inr (3, [.ref sS, .ref sJ, .int 0, .int 0])), (o1, .inl (cy 1, 1, .inr (.inl (fun _ => 0)))), (g0, .inr (17, [.ref m0, .ref m1, .ref m2, .ref m3, .ref m4, .ref m5, .ref m6, .ref m7, .ref m8, .ref m9, .ref m10, .ref m11, .ref m12, .ref m13, .ref m14, .ref m15, .ref m16, .ref m17, .ref m18, .ref m19, .ref m20, .int 0, .int 0, .int 0, .int 0, .long 0, .int 0]))] H) (hD : va_D A [(x0, .inr (12, [.ref vC, .ref vP, .ref vT, .ref vS, .ref vF, .ref vN, .ref vY, .int 0])), (vC, .inr (3, [.ref sS, .ref sJ, .int 0, .int 0])), (o1, .inl (cy 1, 1, .inr (.inl (fun _ => 0)))), (g0, .inr (17, [.ref m0, .ref m1, .ref m2, .ref m3, .ref m4, .ref m5, .ref m6, .ref m7, .ref m8, .ref m9, .ref m10, .ref m11, .ref m12, .ref m13, .ref m14, .ref m15, .ref m16, .ref m17, .ref m18, .ref m19, .ref m20, .int 0, .int 0, .int 0, .int 0, .long 0, .int 0]))]) (hS : va_S A s.heap H locs) (hl : lv_has ls 9 [(0, .ref b), (1, .ref x0), (2, .ref g0), (3, .ref o1), (4, .ref o2), (5, .int 0)]) (kt : ∀ (H : Heap) (locs : List Loc) (ls : Array Slot), va_S A s.heap H locs → lv_has ls 9 [(0, .ref b), (5, .int 0)] → W p l e room_1 s m #[Value.ref b] below meth c H locs 600006 7302040 Q (F0 m 2706 ls [])) : W p l e room_1 s m #[Value.ref b] below meth c H locs 213 25112 Q (F0 m 216 ls []) := by
  obtain ⟨hx, hb, hml, hown, hts, hK, hX, hY, hA, hXs, hbl, hbA, hlt⟩ := id Z
  refine lv_aload_n hx hb dL_law_216 rfl (lv_at hl 1 rfl) ?_
  refine lv_aload_n hx hb dL_law_217 rfl (lv_at hl 3 rfl) ?_
  refine zq_i (wc := [(x0, .inr (12, [.ref vC, .ref vP, .ref vT, .ref vS, .ref vF, .ref vN, .ref vY, .int 0])), (vC, .inr (3, [.ref sS, .ref sJ, .int 0, .int 0])), (o1, .inl (cy 1, 1, .inr (.inl (fun _ => 0))))]) (wr := [(g0, .inr (17, [.ref m0, .ref m1, .ref m2, .ref m3, .ref m4, .ref m5, .ref m6, .ref m7, .ref m8, .ref m9, .ref m10, .ref m11, .ref m12, .ref m13, .ref m14, .ref m15, .ref m16, .ref m17, .ref m18, .ref m19, .ref m20, .int 0, .int 0, .int 0, .int 0, .long 0, .int 0]))]) (vx_runSW (As := [.ref x0, .ref o1]) (rest := []) ⟨hx, hb, hml, hown, hts⟩ (w_station l hlt D cy x0 vC vP vT vS vF vN vY sS sJ o1 H.size ) (vx_cwSW 2 hts (gzS (gzW q563) q562 q564 q565) rfl rfl rfl vL_station.2 ⟨Nat.le_of_ble_eq_true rfl, Nat.le_of_ble_eq_true rfl⟩) (zpS hK hX hY hP hD hS hA [0, 1, 2] (by decide) rfl) rfl rfl hl.1 rfl (lv_room (Nat.le_of_ble_eq_true rfl)) dL_law_218 ⟨Nat.le_of_ble_eq_true rfl, Nat.le_of_ble_eq_true rfl⟩) hP hD hS hA [0, 1, 2] [3] rfl rfl (by decide) (by decide) (fun x2 u1 H locs hw hP hD hS => ?_)
  obtain rfl : x2 = 0 := hw
  have hP : va_P D vwCl [(g0, .inr (17, [.ref m0, .ref m1, .ref m2, .ref m3, .ref m4, .ref m5, .ref m6, .ref m7, .ref m8, .ref m9, .ref m10, .ref m11, .ref m12, .ref m13, .ref m14, .ref m15, .ref m16, .ref m17, .ref m18, .ref m19, .ref m20, .int 0, .int 0, .int 0, .int 0, .long 0, .int 0])), (o1, .inl (cy 1, 1, .inr (.inl (fun _ => 0))))] H := hP
  have hD : va_D A [(g0, .inr (17, [.ref m0, .ref m1, .ref m2, .ref m3, .ref m4, .ref m5, .ref m6, .ref m7, .ref m8, .ref m9, .ref m10, .ref m11, .ref m12, .ref m13, .ref m14, .ref m15, .ref m16, .ref m17, .ref m18, .ref m19, .ref m20, .int 0, .int 0, .int 0, .int 0, .long 0, .int 0])), (o1, .inl (cy 1, 1, .inr (.inl (fun _ => 0))))] := hD
  refine lv_istore (lv' := [(6, .int 0), (0, .ref b), (1, .ref x0), (2, .ref g0), (3, .ref o1), (4, .ref o2), (5, .int 0)]) hx hb dL_law_221 hl (by decide) rfl (fun ls hl => ?_)
  refine lv_aload_n hx hb dL_law_223 rfl (lv_at hl 3 rfl) ?_
  refine zq_i (wc := [(g0, .inr (17, [.ref m0, .ref m1, .ref m2, .ref m3, .ref m4, .ref m5, .ref m6, .ref m7, .ref m8, .ref m9, .ref m10, .ref m11, .ref m12, .ref m13, .ref m14, .ref m15, .ref m16, .ref m17, .ref m18, .ref m19, .ref m20, .int 0, .int 0, .int 0, .int 0, .long 0, .int 0]))]) (wr := [(o1, .inl (cy 1, 1, .inr (.inl (fun _ => 0))))]) (va_runV (As := []) (rest := []) ⟨hx, hb, hml, hown, hts⟩ (g_station l D cy g0 m0 m1 m2 m3 m4 m5 m6 m7 m8 m9 m10 m11 m12 m13 m14 m15 m16 m17 m18 m19 m20 H.size ) (cwV 0 hts (gzV (gz q567) q566 q568 q569 q285) rfl rfl rfl vX14_station ⟨Nat.le_of_ble_eq_true rfl, Nat.le_of_ble_eq_true rfl⟩) (zpV (ci := 17) (T := TX14) (N := 27) (q0 := 0) hK hX hY hP hD hS hA [0] (by decide) rfl rfl rfl) rfl rfl hl.1 rfl (lv_room (Nat.le_of_ble_eq_true rfl)) dL_law_224 ⟨Nat.le_of_ble_eq_true rfl, Nat.le_of_ble_eq_true rfl⟩) hP hD hS hA [0] [1] rfl rfl (by decide) (by decide) (fun x4 u3 H locs hw hP hD hS => ?_)
  obtain rfl : x4 = 0 := hw
  have hP : va_P D vwCl [(o1, .inl (cy 1, 1, .inr (.inl (fun _ => 0)))), (g0, .inr (17, [.ref m0, .ref m1, .ref m2, .ref m3, .ref m4, .ref m5, .ref m6, .ref m7, .ref m8, .ref m9, .ref m10, .ref m11, .ref m12, .ref m13, .ref m14, .ref m15, .ref m16, .ref m17, .ref m18, .ref m19, .ref m20, .int 0, .int 1, .int 0, .int 0, .long 0, .int 0]))] H := hP
  have hD : va_D A [(o1, .inl (cy 1, 1, .inr (.inl (fun _ => 0)))), (g0, .inr (17, [.ref m0, .ref m1, .ref m2, .ref m3, .ref m4, .ref m5, .ref m6, .ref m7, .ref m8, .ref m9, .ref m10, .ref m11, .ref m12, .ref m13, .ref m14, .ref m15, .ref m16, .ref m17, .ref m18, .ref m19, .ref m20, .int 0, .int 1, .int 0, .int 0, .long 0, .int 0]))] := hD
  refine lv_istore (lv' := [(7, .int 0), (6, .int 0), (0, .ref b), (1, .ref x0), (2, .ref g0), (3, .ref o1), (4, .ref o2), (5, .int 0)]) hx hb dL_law_227 hl (by decide) rfl (fun ls hl => ?_)
  refine lv_aload_n hx hb dL_law_229 rfl (lv_at hl 4 rfl) ?_
  refine zq_i (wc := [(g0, .inr (17, [.ref m0, .ref m1, .ref m2, .ref m3, .ref m4, .ref m5, .ref m6, .ref m7, .ref m8, .ref m9, .ref m10, .ref m11, .ref m12, .ref m13, .ref m14, .ref m15, .ref m16, .ref m17, .ref m18, .ref m19, .ref m20, .int 0, .int 1, .int 0, .int 0, .long 0, .int 0]))]) (wr := [(o1, .inl (cy 1, 1, .inr (.inl (fun _ => 0))))]) (va_runV (As := []) (rest := []) ⟨hx, hb, hml, hown, hts⟩ (k_thrown l D cy g0 m0 m1 m2 m3 m4 m5 m6 m7 m8 m9 m10 m11 m12 m13 m14 m15 m16 m17 m18 m19 m20 0 1 0 0 0 0 H.size ) (cwV 0 hts (gzV (gz q571) q570 q572 q573 q285) rfl rfl rfl vX14_thrown ⟨Nat.le_of_ble_eq_true rfl, Nat.le_of_ble_eq_true rfl⟩) (zpV (ci := 17) (T := TX14) (N := 27) (q0 := 0) hK hX hY hP hD hS hA [1] (by decide) rfl rfl rfl) rfl rfl hl.1 rfl (lv_room (Nat.le_of_ble_eq_true rfl)) dL_law_230 ⟨Nat.le_of_ble_eq_true rfl, Nat.le_of_ble_eq_true rfl⟩) hP hD hS hA [1] [0] rfl rfl (by decide) (by decide) (fun x6 u5 H locs hw hP hD hS => ?_)
  obtain rfl : x6 = 0 := hw
  have hP : va_P D vwCl [(o1, .inl (cy 1, 1, .inr (.inl (fun _ => 0)))), (g0, .inr (17, [.ref m0, .ref m1, .ref m2, .ref m3, .ref m4, .ref m5, .ref m6, .ref m7, .ref m8, .ref m9, .ref m10, .ref m11, .ref m12, .ref m13, .ref m14, .ref m15, .ref m16, .ref m17, .ref m18, .ref m19, .ref m20, .int 0, .int 1, .int 0, .int 0, .long 0, .int 0]))] H := hP
  have hD : va_D A [(o1, .inl (cy 1, 1, .inr (.inl (fun _ => 0)))), (g0, .inr (17, [.ref m0, .ref m1, .ref m2, .ref m3, .ref m4, .ref m5, .ref m6, .ref m7, .ref m8, .ref m9, .ref m10, .ref m11, .ref m12, .ref m13, .ref m14, .ref m15, .ref m16, .ref m17, .ref m18, .ref m19, .ref m20, .int 0, .int 1, .int 0, .int 0, .long 0, .int 0]))] := hD
  refine lv_iload hx hb dL_law_233 (lv_at hl 1 rfl) ?_
  refine lv_icmp_eq (tgt := 240) hx hb dL_law_235 (by decide) (fun _ => ?_) (fun c_235_6 => absurd (by decide +kernel) c_235_6)
  refine lv_iload hx hb dL_law_240 (lv_at hl 1 rfl) ?_
  refine lv_if_ne (tgt := 257) hx hb dL_law_242 (by decide) (fun c_242_7 => absurd (by decide +kernel) c_242_7) (fun _ => ?_)
  refine lv_aload_n hx hb dL_law_245 rfl (lv_at hl 5 rfl) ?_
  refine lv_iconst (v := 0) hx hb dL_law_246 (by decide) ?_
  refine va_lald hx hb hK hP 0 1 rfl rfl (z_in 0 (by decide) (by decide)) dL_law_247 ?_
  refine lv_topl (fun y9 ey9 => ?_)
  obtain rfl : y9 = 0 := ey9.trans rfl
  refine lv_iload hx hb dL_law_248 (lv_at hl 0 rfl) ?_
  refine lv_i2l (v := 0) hx hb dL_law_250 (by decide) ?_
  refine W.lcmp hx hb dL_law_251 ?_
  refine lv_topi (fun y10 ey10 => ?_)
  obtain rfl : y10 = 0 := ey10.trans (by decide +kernel)
  refine lv_if_eq (tgt := 257) hx hb dL_law_252 (by decide) (fun _ => ?_) (fun c_252_10 => absurd (by decide +kernel) c_252_10)
  refine lv_goto (tgt := 2706) hx hb dL_law_257 (by decide) ?_
  exact W.widen (k := 600006) (n := 7302040) (Nat.le_of_ble_eq_true rfl) (Nat.le_of_ble_eq_true rfl) (kt _ _ _ hS (lv_sub hl [2, 7] rfl))
set_option maxHeartbeats 4000000 in
set_option maxRecDepth 100000 in
theorem c_shot (l : Launch) {p : Program} {e : Env} {s : State} {m : MethodId} {below : List Frame} {meth : Method} {c : Code} {D : va_G} {cy : Nat → ClassId} {A : Nat → Prop} {b : Nat} {xs : Nat → Int32} {Q : State → Prop} {H : Heap} {locs : List Loc} {ls : Array Slot} (Z : zLaw l p s m c D cy A b 9 xs) (x0 : Nat) (g0 : Nat) (o1 : Nat) (o2 : Nat) (vC : Nat) (vP : Nat) (vT : Nat) (vS : Nat) (vF : Nat) (vN : Nat) (vY : Nat) (sS : Nat) (sJ : Nat) (m0 : Nat) (m1 : Nat) (m2 : Nat) (m3 : Nat) (m4 : Nat) (m5 : Nat) (m6 : Nat) (m7 : Nat) (m8 : Nat) (m9 : Nat) (m10 : Nat) (m11 : Nat) (m12 : Nat) (m13 : Nat) (m14 : Nat) (m15 : Nat) (m16 : Nat) (m17 : Nat) (m18 : Nat) (m19 : Nat) (m20 : Nat)  (hP : va_P D vwCl [(x0, .inr (12, [.ref vC, .ref vP, .ref vT, .ref vS, .ref vF, .ref vN, .ref vY, .int 0])), (vC, .inr (3, [.ref sS, .ref sJ, .int 0, .int 0])), (g0, .inr (17, [.ref m0, .ref m1, .ref m2, .ref m3, .ref m4, .ref m5, .ref m6, .ref m7, .ref m8, .ref m9, .ref m10, .ref m11, .ref m12, .ref m13, .ref m14, .ref m15, .ref m16, .ref m17, .ref m18, .ref m19, .ref m20, .int 0, .int 0, .int 0, .int 0, .long 0, .int 0]))] H) (hD : va_D A [(x0, .inr (12, [.ref vC, .ref vP, .ref vT, .ref vS, .ref vF, .ref vN, .ref vY, .int 0])), (vC, .inr (3, [.ref sS, .ref sJ, .int 0, .int 0])), (g0, .inr (17, [.ref m0, .ref m1, .ref m2, .ref m3, .ref m4, .ref m5, .ref m6, .ref m7, .ref m8, .ref m9, .ref m10, .ref m11, .ref m12, .ref m13, .ref m14, .ref m15, .ref m16, .ref m17, .ref m18, .ref m19, .ref m20, .int 0, .int 0, .int 0, .int 0, .long 0, .int 0]))]) (hS : va_S A s.heap H locs) (hl : lv_has ls 9 [(0, .ref b), (1, .ref x0), (2, .ref g0), (3, .ref o1), (4, .ref o2), (5, .int 0)]) (kt : ∀ (H : Heap) (locs : List Loc) (ls : Array Slot), va_S A s.heap H locs → lv_has ls 9 [(0, .ref b), (5, .int 0)] → W p l e room_1 s m #[Value.ref b] below meth c H locs 600006 7302040 Q (F0 m 2706 ls [])) : W p l e room_1 s m #[Value.ref b] below meth c H locs 213 25112 Q (F0 m 260 ls []) := by
  obtain ⟨hx, hb, hml, hown, hts, hK, hX, hY, hA, hXs, hbl, hbA, hlt⟩ := id Z
  refine lv_aload_n hx hb dL_law_260 rfl (lv_at hl 1 rfl) ?_
  refine lv_aload_n hx hb dL_law_261 rfl (lv_at hl 0 rfl) ?_
  refine lv_iload hx hb dL_law_262 (lv_at hl 5 rfl) ?_
  refine lv_iconst (v := 1) hx hb dL_law_264 (by decide) ?_
  refine lv_iadd hx hb dL_law_265 ?_
  refine lv_topi (fun y1 ey1 => ?_)
  obtain rfl : y1 = 1 := ey1.trans (by decide +kernel)
  refine va_sld hx hb hXs hbl hbA hS (z_in 1 (by decide) (by decide)) dL_law_266 ?_
  refine lv_topi (fun y2 ey2 => ?_)
  obtain rfl : y2 = (xs 1) := ey2.trans rfl
  refine lv_aload_n hx hb dL_law_267 rfl (lv_at hl 0 rfl) ?_
  refine lv_iload hx hb dL_law_268 (lv_at hl 5 rfl) ?_
  refine lv_iconst (v := 2) hx hb dL_law_270 (by decide) ?_
  refine lv_iadd hx hb dL_law_271 ?_
  refine lv_topi (fun y3 ey3 => ?_)
  obtain rfl : y3 = 2 := ey3.trans (by decide +kernel)
  refine va_sld hx hb hXs hbl hbA hS (z_in 2 (by decide) (by decide)) dL_law_272 ?_
  refine lv_topi (fun y4 ey4 => ?_)
  obtain rfl : y4 = (xs 2) := ey4.trans rfl
  refine lv_aload_n hx hb dL_law_273 rfl (lv_at hl 0 rfl) ?_
  refine lv_iload hx hb dL_law_274 (lv_at hl 5 rfl) ?_
  refine lv_iconst (v := 3) hx hb dL_law_276 (by decide) ?_
  refine lv_iadd hx hb dL_law_277 ?_
  refine lv_topi (fun y5 ey5 => ?_)
  obtain rfl : y5 = 3 := ey5.trans (by decide +kernel)
  refine va_sld hx hb hXs hbl hbA hS (z_in 3 (by decide) (by decide)) dL_law_278 ?_
  refine lv_topi (fun y6 ey6 => ?_)
  obtain rfl : y6 = (xs 3) := ey6.trans rfl
  refine lv_aload_n hx hb dL_law_279 rfl (lv_at hl 0 rfl) ?_
  refine lv_iload hx hb dL_law_280 (lv_at hl 5 rfl) ?_
  refine lv_iconst (v := 4) hx hb dL_law_282 (by decide) ?_
  refine lv_iadd hx hb dL_law_283 ?_
  refine lv_topi (fun y7 ey7 => ?_)
  obtain rfl : y7 = 4 := ey7.trans (by decide +kernel)
  refine va_sld hx hb hXs hbl hbA hS (z_in 4 (by decide) (by decide)) dL_law_284 ?_
  refine lv_topi (fun y8 ey8 => ?_)
  obtain rfl : y8 = (xs 4) := ey8.trans rfl
  refine lv_aload_n hx hb dL_law_285 rfl (lv_at hl 0 rfl) ?_
  refine lv_iload hx hb dL_law_286 (lv_at hl 5 rfl) ?_
  refine lv_iconst (v := 5) hx hb dL_law_288 (by decide) ?_
  refine lv_iadd hx hb dL_law_289 ?_
  refine lv_topi (fun y9 ey9 => ?_)
  obtain rfl : y9 = 5 := ey9.trans (by decide +kernel)
  refine va_sld hx hb hXs hbl hbA hS (z_in 5 (by decide) (by decide)) dL_law_290 ?_
  refine lv_topi (fun y10 ey10 => ?_)
  obtain rfl : y10 = (xs 5) := ey10.trans rfl
  refine lv_aload_n hx hb dL_law_291 rfl (lv_at hl 0 rfl) ?_
  refine lv_iload hx hb dL_law_292 (lv_at hl 5 rfl) ?_
  refine lv_bipush (v := 6) hx hb dL_law_294 (by decide) ?_
  refine lv_iadd hx hb dL_law_296 ?_
  refine lv_topi (fun y11 ey11 => ?_)
  obtain rfl : y11 = 6 := ey11.trans (by decide +kernel)
  refine va_sld hx hb hXs hbl hbA hS (z_in 6 (by decide) (by decide)) dL_law_297 ?_
  refine lv_topi (fun y12 ey12 => ?_)
  obtain rfl : y12 = (xs 6) := ey12.trans rfl
  refine lv_aload_n hx hb dL_law_298 rfl (lv_at hl 0 rfl) ?_
  refine lv_iload hx hb dL_law_299 (lv_at hl 5 rfl) ?_
  refine lv_bipush (v := 7) hx hb dL_law_301 (by decide) ?_
  refine lv_iadd hx hb dL_law_303 ?_
  refine lv_topi (fun y13 ey13 => ?_)
  obtain rfl : y13 = 7 := ey13.trans (by decide +kernel)
  refine va_sld hx hb hXs hbl hbA hS (z_in 7 (by decide) (by decide)) dL_law_304 ?_
  refine lv_topi (fun y14 ey14 => ?_)
  obtain rfl : y14 = (xs 7) := ey14.trans rfl
  refine lv_aload_n hx hb dL_law_305 rfl (lv_at hl 0 rfl) ?_
  refine lv_iload hx hb dL_law_306 (lv_at hl 5 rfl) ?_
  refine lv_bipush (v := 8) hx hb dL_law_308 (by decide) ?_
  refine lv_iadd hx hb dL_law_310 ?_
  refine lv_topi (fun y15 ey15 => ?_)
  obtain rfl : y15 = 8 := ey15.trans (by decide +kernel)
  refine va_sld hx hb hXs hbl hbA hS (z_in 8 (by decide) (by decide)) dL_law_311 ?_
  refine lv_topi (fun y16 ey16 => ?_)
  obtain rfl : y16 = (xs 8) := ey16.trans rfl
  refine lv_aload_n hx hb dL_law_312 rfl (lv_at hl 3 rfl) ?_
  refine zq_i (wc := [(x0, .inr (12, [.ref vC, .ref vP, .ref vT, .ref vS, .ref vF, .ref vN, .ref vY, .int 0])), (vC, .inr (3, [.ref sS, .ref sJ, .int 0, .int 0]))]) (wr := [(g0, .inr (17, [.ref m0, .ref m1, .ref m2, .ref m3, .ref m4, .ref m5, .ref m6, .ref m7, .ref m8, .ref m9, .ref m10, .ref m11, .ref m12, .ref m13, .ref m14, .ref m15, .ref m16, .ref m17, .ref m18, .ref m19, .ref m20, .int 0, .int 0, .int 0, .int 0, .long 0, .int 0]))]) (vx_runSW (As := [.ref x0, .int (xs 1), .int (xs 2), .int (xs 3), .int (xs 4), .int (xs 5), .int (xs 6), .int (xs 7), .int (xs 8), .ref o1]) (rest := []) ⟨hx, hb, hml, hown, hts⟩ (w_shot l hlt D cy x0 vC vP vT vS vF vN vY sS sJ (xs 1) (xs 2) (xs 3) (xs 4) (xs 5) (xs 6) (xs 7) (xs 8) o1 H.size ) (vx_cwSW 10 hts (gzS (gzW q575) q574 q576 q565) rfl rfl rfl vL_shot.2 ⟨Nat.le_of_ble_eq_true rfl, Nat.le_of_ble_eq_true rfl⟩) (zpS hK hX hY hP hD hS hA [0, 1] (by decide) rfl) rfl rfl hl.1 rfl (lv_room (Nat.le_of_ble_eq_true rfl)) dL_law_313 ⟨Nat.le_of_ble_eq_true rfl, Nat.le_of_ble_eq_true rfl⟩) hP hD hS hA [0, 1] [2] rfl rfl (by decide) (by decide) (fun x18 u17 H locs hw hP hD hS => ?_)
  obtain rfl : x18 = 1 := hw
  have hP : va_P D vwCl [(g0, .inr (17, [.ref m0, .ref m1, .ref m2, .ref m3, .ref m4, .ref m5, .ref m6, .ref m7, .ref m8, .ref m9, .ref m10, .ref m11, .ref m12, .ref m13, .ref m14, .ref m15, .ref m16, .ref m17, .ref m18, .ref m19, .ref m20, .int 0, .int 0, .int 0, .int 0, .long 0, .int 0]))] H := hP
  have hD : va_D A [(g0, .inr (17, [.ref m0, .ref m1, .ref m2, .ref m3, .ref m4, .ref m5, .ref m6, .ref m7, .ref m8, .ref m9, .ref m10, .ref m11, .ref m12, .ref m13, .ref m14, .ref m15, .ref m16, .ref m17, .ref m18, .ref m19, .ref m20, .int 0, .int 0, .int 0, .int 0, .long 0, .int 0]))] := hD
  refine W.widen (k := 214) (n := 25118) (by omega) (by omega) ?_
  refine lv_istore (lv' := [(6, .int 1), (0, .ref b), (1, .ref x0), (2, .ref g0), (3, .ref o1), (4, .ref o2), (5, .int 0)]) hx hb dL_law_316 hl (by decide) rfl (fun ls hl => ?_)
  refine lv_aload_n hx hb dL_law_318 rfl (lv_at hl 3 rfl) ?_
  refine lv_aload_n hx hb dL_law_319 rfl (lv_at hl 1 rfl) ?_
  refine lv_iload hx hb dL_law_320 (lv_at hl 6 rfl) ?_
  refine lv_iconst (v := 1) hx hb dL_law_322 (by decide) ?_
  refine lv_iadd hx hb dL_law_323 ?_
  refine lv_topi (fun y19 ey19 => ?_)
  obtain rfl : y19 = 1 := ey19.trans (by decide +kernel)
  refine va_sld hx hb hXs hbl hbA hS (z_in 1 (by decide) (by decide)) dL_law_324 ?_
  refine lv_topi (fun y20 ey20 => ?_)
  obtain rfl : y20 = (xs 1) := ey20.trans rfl
  refine lv_aload_n hx hb dL_law_325 rfl (lv_at hl 1 rfl) ?_
  refine lv_iload hx hb dL_law_326 (lv_at hl 6 rfl) ?_
  refine lv_iconst (v := 2) hx hb dL_law_328 (by decide) ?_
  refine lv_iadd hx hb dL_law_329 ?_
  refine lv_topi (fun y21 ey21 => ?_)
  obtain rfl : y21 = 2 := ey21.trans (by decide +kernel)
  refine va_sld hx hb hXs hbl hbA hS (z_in 2 (by decide) (by decide)) dL_law_330 ?_
  refine lv_topi (fun y22 ey22 => ?_)
  obtain rfl : y22 = (xs 2) := ey22.trans rfl
  refine lv_aload_n hx hb dL_law_331 rfl (lv_at hl 1 rfl) ?_
  refine lv_iload hx hb dL_law_332 (lv_at hl 6 rfl) ?_
  refine lv_iconst (v := 3) hx hb dL_law_334 (by decide) ?_
  refine lv_iadd hx hb dL_law_335 ?_
  refine lv_topi (fun y23 ey23 => ?_)
  obtain rfl : y23 = 3 := ey23.trans (by decide +kernel)
  refine va_sld hx hb hXs hbl hbA hS (z_in 3 (by decide) (by decide)) dL_law_336 ?_
  refine lv_topi (fun y24 ey24 => ?_)
  obtain rfl : y24 = (xs 3) := ey24.trans rfl
  refine lv_aload_n hx hb dL_law_337 rfl (lv_at hl 1 rfl) ?_
  refine lv_iload hx hb dL_law_338 (lv_at hl 6 rfl) ?_
  refine lv_iconst (v := 4) hx hb dL_law_340 (by decide) ?_
  refine lv_iadd hx hb dL_law_341 ?_
  refine lv_topi (fun y25 ey25 => ?_)
  obtain rfl : y25 = 4 := ey25.trans (by decide +kernel)
  refine va_sld hx hb hXs hbl hbA hS (z_in 4 (by decide) (by decide)) dL_law_342 ?_
  refine lv_topi (fun y26 ey26 => ?_)
  obtain rfl : y26 = (xs 4) := ey26.trans rfl
  refine lv_aload_n hx hb dL_law_343 rfl (lv_at hl 1 rfl) ?_
  refine lv_iload hx hb dL_law_344 (lv_at hl 6 rfl) ?_
  refine lv_iconst (v := 5) hx hb dL_law_346 (by decide) ?_
  refine lv_iadd hx hb dL_law_347 ?_
  refine lv_topi (fun y27 ey27 => ?_)
  obtain rfl : y27 = 5 := ey27.trans (by decide +kernel)
  refine va_sld hx hb hXs hbl hbA hS (z_in 5 (by decide) (by decide)) dL_law_348 ?_
  refine lv_topi (fun y28 ey28 => ?_)
  obtain rfl : y28 = (xs 5) := ey28.trans rfl
  refine lv_aload_n hx hb dL_law_349 rfl (lv_at hl 1 rfl) ?_
  refine lv_iload hx hb dL_law_350 (lv_at hl 6 rfl) ?_
  refine lv_bipush (v := 6) hx hb dL_law_352 (by decide) ?_
  refine lv_iadd hx hb dL_law_354 ?_
  refine lv_topi (fun y29 ey29 => ?_)
  obtain rfl : y29 = 6 := ey29.trans (by decide +kernel)
  refine va_sld hx hb hXs hbl hbA hS (z_in 6 (by decide) (by decide)) dL_law_355 ?_
  refine lv_topi (fun y30 ey30 => ?_)
  obtain rfl : y30 = (xs 6) := ey30.trans rfl
  refine lv_aload_n hx hb dL_law_356 rfl (lv_at hl 1 rfl) ?_
  refine lv_iload hx hb dL_law_357 (lv_at hl 6 rfl) ?_
  refine lv_bipush (v := 7) hx hb dL_law_359 (by decide) ?_
  refine lv_iadd hx hb dL_law_361 ?_
  refine lv_topi (fun y31 ey31 => ?_)
  obtain rfl : y31 = 7 := ey31.trans (by decide +kernel)
  refine va_sld hx hb hXs hbl hbA hS (z_in 7 (by decide) (by decide)) dL_law_362 ?_
  refine lv_topi (fun y32 ey32 => ?_)
  obtain rfl : y32 = (xs 7) := ey32.trans rfl
  refine lv_aload_n hx hb dL_law_363 rfl (lv_at hl 1 rfl) ?_
  refine lv_iload hx hb dL_law_364 (lv_at hl 6 rfl) ?_
  refine lv_bipush (v := 8) hx hb dL_law_366 (by decide) ?_
  refine lv_iadd hx hb dL_law_368 ?_
  refine lv_topi (fun y33 ey33 => ?_)
  obtain rfl : y33 = 8 := ey33.trans (by decide +kernel)
  refine va_sld hx hb hXs hbl hbA hS (z_in 8 (by decide) (by decide)) dL_law_369 ?_
  refine lv_topi (fun y34 ey34 => ?_)
  obtain rfl : y34 = (xs 8) := ey34.trans rfl
  refine zq_i (wc := [(g0, .inr (17, [.ref m0, .ref m1, .ref m2, .ref m3, .ref m4, .ref m5, .ref m6, .ref m7, .ref m8, .ref m9, .ref m10, .ref m11, .ref m12, .ref m13, .ref m14, .ref m15, .ref m16, .ref m17, .ref m18, .ref m19, .ref m20, .int 0, .int 0, .int 0, .int 0, .long 0, .int 0]))]) (wr := []) (va_runV (As := [.int (xs 1), .int (xs 2), .int (xs 3), .int (xs 4), .int (xs 5), .int (xs 6), .int (xs 7), .int (xs 8)]) (rest := []) ⟨hx, hb, hml, hown, hts⟩ (g_shot l D cy g0 m0 m1 m2 m3 m4 m5 m6 m7 m8 m9 m10 m11 m12 m13 m14 m15 m16 m17 m18 m19 m20 (xs 1) (xs 2) (xs 3) (xs 4) (xs 5) (xs 6) (xs 7) (xs 8) H.size ) (cwV 8 hts (gzV (gz q578) q577 q579 q580 q285) rfl rfl rfl vX14_shot ⟨Nat.le_of_ble_eq_true rfl, Nat.le_of_ble_eq_true rfl⟩) (zpV (ci := 17) (T := TX14) (N := 27) (q0 := 0) hK hX hY hP hD hS hA [0] (by decide) rfl rfl rfl) rfl rfl hl.1 rfl (lv_room (Nat.le_of_ble_eq_true rfl)) dL_law_370 ⟨Nat.le_of_ble_eq_true rfl, Nat.le_of_ble_eq_true rfl⟩) hP hD hS hA [0] [] rfl rfl (by decide) (by decide) (fun x36 u35 H locs hw hP hD hS => ?_)
  obtain rfl : x36 = 0 := hw
  have hP : va_P D vwCl [(g0, .inr (17, [.ref m0, .ref m1, .ref m2, .ref m3, .ref m4, .ref m5, .ref m6, .ref m7, .ref m8, .ref m9, .ref m10, .ref m11, .ref m12, .ref m13, .ref m14, .ref m15, .ref m16, .ref m17, .ref m18, .ref m19, .ref m20, .int 1, .int 0, .int 0, .int 0, .long 0, .int 0]))] H := hP
  have hD : va_D A [(g0, .inr (17, [.ref m0, .ref m1, .ref m2, .ref m3, .ref m4, .ref m5, .ref m6, .ref m7, .ref m8, .ref m9, .ref m10, .ref m11, .ref m12, .ref m13, .ref m14, .ref m15, .ref m16, .ref m17, .ref m18, .ref m19, .ref m20, .int 1, .int 0, .int 0, .int 0, .long 0, .int 0]))] := hD
  refine lv_istore (lv' := [(7, .int 0), (6, .int 1), (0, .ref b), (1, .ref x0), (2, .ref g0), (3, .ref o1), (4, .ref o2), (5, .int 0)]) hx hb dL_law_373 hl (by decide) rfl (fun ls hl => ?_)
  refine lv_aload_n hx hb dL_law_375 rfl (lv_at hl 4 rfl) ?_
  refine zq_i (wc := [(g0, .inr (17, [.ref m0, .ref m1, .ref m2, .ref m3, .ref m4, .ref m5, .ref m6, .ref m7, .ref m8, .ref m9, .ref m10, .ref m11, .ref m12, .ref m13, .ref m14, .ref m15, .ref m16, .ref m17, .ref m18, .ref m19, .ref m20, .int 1, .int 0, .int 0, .int 0, .long 0, .int 0]))]) (wr := []) (va_runV (As := []) (rest := []) ⟨hx, hb, hml, hown, hts⟩ (k_thrown l D cy g0 m0 m1 m2 m3 m4 m5 m6 m7 m8 m9 m10 m11 m12 m13 m14 m15 m16 m17 m18 m19 m20 1 0 0 0 0 0 H.size ) (cwV 0 hts (gzV (gz q571) q570 q572 q573 q285) rfl rfl rfl vX14_thrown ⟨Nat.le_of_ble_eq_true rfl, Nat.le_of_ble_eq_true rfl⟩) (zpV (ci := 17) (T := TX14) (N := 27) (q0 := 0) hK hX hY hP hD hS hA [0] (by decide) rfl rfl rfl) rfl rfl hl.1 rfl (lv_room (Nat.le_of_ble_eq_true rfl)) dL_law_376 ⟨Nat.le_of_ble_eq_true rfl, Nat.le_of_ble_eq_true rfl⟩) hP hD hS hA [0] [] rfl rfl (by decide) (by decide) (fun x38 u37 H locs hw hP hD hS => ?_)
  obtain rfl : x38 = 1 := hw
  have hP : va_P D vwCl [(g0, .inr (17, [.ref m0, .ref m1, .ref m2, .ref m3, .ref m4, .ref m5, .ref m6, .ref m7, .ref m8, .ref m9, .ref m10, .ref m11, .ref m12, .ref m13, .ref m14, .ref m15, .ref m16, .ref m17, .ref m18, .ref m19, .ref m20, .int 1, .int 0, .int 0, .int 0, .long 0, .int 0]))] H := hP
  have hD : va_D A [(g0, .inr (17, [.ref m0, .ref m1, .ref m2, .ref m3, .ref m4, .ref m5, .ref m6, .ref m7, .ref m8, .ref m9, .ref m10, .ref m11, .ref m12, .ref m13, .ref m14, .ref m15, .ref m16, .ref m17, .ref m18, .ref m19, .ref m20, .int 1, .int 0, .int 0, .int 0, .long 0, .int 0]))] := hD
  refine lv_iload hx hb dL_law_379 (lv_at hl 1 rfl) ?_
  refine lv_icmp_eq (tgt := 386) hx hb dL_law_381 (by decide) (fun _ => ?_) (fun c_381_38 => absurd (by decide +kernel) c_381_38)
  refine lv_iload hx hb dL_law_386 (lv_at hl 1 rfl) ?_
  refine lv_if_ne (tgt := 403) hx hb dL_law_388 (by decide) (fun _ => ?_) (fun c_388_39 => absurd c_388_39 (by decide +kernel))
  refine lv_goto (tgt := 2706) hx hb dL_law_403 (by decide) ?_
  exact W.widen (k := 600006) (n := 7302040) (Nat.le_of_ble_eq_true rfl) (Nat.le_of_ble_eq_true rfl) (kt _ _ _ hS (lv_sub hl [2, 7] rfl))
set_option maxHeartbeats 4000000 in
set_option maxRecDepth 100000 in
theorem c_setAside (l : Launch) {p : Program} {e : Env} {s : State} {m : MethodId} {below : List Frame} {meth : Method} {c : Code} {D : va_G} {cy : Nat → ClassId} {A : Nat → Prop} {b : Nat} {xs : Nat → Int32} {Q : State → Prop} {H : Heap} {locs : List Loc} {ls : Array Slot} (Z : zLaw l p s m c D cy A b 9 xs) (x0 : Nat) (g0 : Nat) (o1 : Nat) (o2 : Nat) (vC : Nat) (vP : Nat) (vT : Nat) (vS : Nat) (vF : Nat) (vN : Nat) (vY : Nat) (sS : Nat) (sJ : Nat) (m0 : Nat) (m1 : Nat) (m2 : Nat) (m3 : Nat) (m4 : Nat) (m5 : Nat) (m6 : Nat) (m7 : Nat) (m8 : Nat) (m9 : Nat) (m10 : Nat) (m11 : Nat) (m12 : Nat) (m13 : Nat) (m14 : Nat) (m15 : Nat) (m16 : Nat) (m17 : Nat) (m18 : Nat) (m19 : Nat) (m20 : Nat) (b1 : Nat)  (hP : va_P D vwCl [(x0, .inr (12, [.ref vC, .ref vP, .ref vT, .ref vS, .ref vF, .ref vN, .ref vY, .int 0])), (vC, .inr (3, [.ref sS, .ref sJ, .int 0, .int 0])), (g0, .inr (17, [.ref m0, .ref m1, .ref m2, .ref m3, .ref m4, .ref m5, .ref m6, .ref m7, .ref m8, .ref m9, .ref m10, .ref m11, .ref m12, .ref m13, .ref m14, .ref m15, .ref m16, .ref m17, .ref m18, .ref m19, .ref m20, .int 0, .int 0, .int 0, .int 0, .long 0, .int 0])), (m0, .inr (2, [.int 0, .ref b1, .int 0]))] H) (hD : va_D A [(x0, .inr (12, [.ref vC, .ref vP, .ref vT, .ref vS, .ref vF, .ref vN, .ref vY, .int 0])), (vC, .inr (3, [.ref sS, .ref sJ, .int 0, .int 0])), (g0, .inr (17, [.ref m0, .ref m1, .ref m2, .ref m3, .ref m4, .ref m5, .ref m6, .ref m7, .ref m8, .ref m9, .ref m10, .ref m11, .ref m12, .ref m13, .ref m14, .ref m15, .ref m16, .ref m17, .ref m18, .ref m19, .ref m20, .int 0, .int 0, .int 0, .int 0, .long 0, .int 0])), (m0, .inr (2, [.int 0, .ref b1, .int 0]))]) (hS : va_S A s.heap H locs) (hl : lv_has ls 9 [(0, .ref b), (1, .ref x0), (2, .ref g0), (3, .ref o1), (4, .ref o2), (5, .int 0)]) (kt : ∀ (H : Heap) (locs : List Loc) (ls : Array Slot), va_S A s.heap H locs → lv_has ls 9 [(0, .ref b), (5, .int 0)] → W p l e room_1 s m #[Value.ref b] below meth c H locs 600006 7302040 Q (F0 m 2706 ls [])) : W p l e room_1 s m #[Value.ref b] below meth c H locs 213 25112 Q (F0 m 406 ls []) := by
  obtain ⟨hx, hb, hml, hown, hts, hK, hX, hY, hA, hXs, hbl, hbA, hlt⟩ := id Z
  refine lv_aload_n hx hb dL_law_406 rfl (lv_at hl 1 rfl) ?_
  refine lv_aload_n hx hb dL_law_407 rfl (lv_at hl 0 rfl) ?_
  refine lv_iload hx hb dL_law_408 (lv_at hl 5 rfl) ?_
  refine lv_iconst (v := 1) hx hb dL_law_410 (by decide) ?_
  refine lv_iadd hx hb dL_law_411 ?_
  refine lv_topi (fun y1 ey1 => ?_)
  obtain rfl : y1 = 1 := ey1.trans (by decide +kernel)
  refine va_sld hx hb hXs hbl hbA hS (z_in 1 (by decide) (by decide)) dL_law_412 ?_
  refine lv_topi (fun y2 ey2 => ?_)
  obtain rfl : y2 = (xs 1) := ey2.trans rfl
  refine lv_aload_n hx hb dL_law_413 rfl (lv_at hl 0 rfl) ?_
  refine lv_iload hx hb dL_law_414 (lv_at hl 5 rfl) ?_
  refine lv_iconst (v := 2) hx hb dL_law_416 (by decide) ?_
  refine lv_iadd hx hb dL_law_417 ?_
  refine lv_topi (fun y3 ey3 => ?_)
  obtain rfl : y3 = 2 := ey3.trans (by decide +kernel)
  refine va_sld hx hb hXs hbl hbA hS (z_in 2 (by decide) (by decide)) dL_law_418 ?_
  refine lv_topi (fun y4 ey4 => ?_)
  obtain rfl : y4 = (xs 2) := ey4.trans rfl
  refine lv_aload_n hx hb dL_law_419 rfl (lv_at hl 3 rfl) ?_
  refine zq_i (wc := [(x0, .inr (12, [.ref vC, .ref vP, .ref vT, .ref vS, .ref vF, .ref vN, .ref vY, .int 0])), (vC, .inr (3, [.ref sS, .ref sJ, .int 0, .int 0]))]) (wr := [(g0, .inr (17, [.ref m0, .ref m1, .ref m2, .ref m3, .ref m4, .ref m5, .ref m6, .ref m7, .ref m8, .ref m9, .ref m10, .ref m11, .ref m12, .ref m13, .ref m14, .ref m15, .ref m16, .ref m17, .ref m18, .ref m19, .ref m20, .int 0, .int 0, .int 0, .int 0, .long 0, .int 0])), (m0, .inr (2, [.int 0, .ref b1, .int 0]))]) (vx_runSW (As := [.ref x0, .int (xs 1), .int (xs 2), .ref o1]) (rest := []) ⟨hx, hb, hml, hown, hts⟩ (w_setAside l hlt D cy x0 vC vP vT vS vF vN vY sS sJ (xs 1) (xs 2) o1 H.size ) (vx_cwSW 4 hts (gzS (gzW q582) q581 q583 q565) rfl rfl rfl vL_setAside.2 ⟨Nat.le_of_ble_eq_true rfl, Nat.le_of_ble_eq_true rfl⟩) (zpS hK hX hY hP hD hS hA [0, 1] (by decide) rfl) rfl rfl hl.1 rfl (lv_room (Nat.le_of_ble_eq_true rfl)) dL_law_420 ⟨Nat.le_of_ble_eq_true rfl, Nat.le_of_ble_eq_true rfl⟩) hP hD hS hA [0, 1] [2, 3] rfl rfl (by decide) (by decide) (fun x6 u5 H locs hw hP hD hS => ?_)
  obtain rfl : x6 = 1 := hw
  have hP : va_P D vwCl [(g0, .inr (17, [.ref m0, .ref m1, .ref m2, .ref m3, .ref m4, .ref m5, .ref m6, .ref m7, .ref m8, .ref m9, .ref m10, .ref m11, .ref m12, .ref m13, .ref m14, .ref m15, .ref m16, .ref m17, .ref m18, .ref m19, .ref m20, .int 0, .int 0, .int 0, .int 0, .long 0, .int 0])), (m0, .inr (2, [.int 0, .ref b1, .int 0]))] H := hP
  have hD : va_D A [(g0, .inr (17, [.ref m0, .ref m1, .ref m2, .ref m3, .ref m4, .ref m5, .ref m6, .ref m7, .ref m8, .ref m9, .ref m10, .ref m11, .ref m12, .ref m13, .ref m14, .ref m15, .ref m16, .ref m17, .ref m18, .ref m19, .ref m20, .int 0, .int 0, .int 0, .int 0, .long 0, .int 0])), (m0, .inr (2, [.int 0, .ref b1, .int 0]))] := hD
  refine W.widen (k := 214) (n := 25118) (by omega) (by omega) ?_
  refine lv_istore (lv' := [(6, .int 1), (0, .ref b), (1, .ref x0), (2, .ref g0), (3, .ref o1), (4, .ref o2), (5, .int 0)]) hx hb dL_law_423 hl (by decide) rfl (fun ls hl => ?_)
  refine lv_aload_n hx hb dL_law_425 rfl (lv_at hl 3 rfl) ?_
  refine lv_aload_n hx hb dL_law_426 rfl (lv_at hl 1 rfl) ?_
  refine lv_iload hx hb dL_law_427 (lv_at hl 6 rfl) ?_
  refine lv_iconst (v := 1) hx hb dL_law_429 (by decide) ?_
  refine lv_iadd hx hb dL_law_430 ?_
  refine lv_topi (fun y7 ey7 => ?_)
  obtain rfl : y7 = 1 := ey7.trans (by decide +kernel)
  refine va_sld hx hb hXs hbl hbA hS (z_in 1 (by decide) (by decide)) dL_law_431 ?_
  refine lv_topi (fun y8 ey8 => ?_)
  obtain rfl : y8 = (xs 1) := ey8.trans rfl
  refine lv_aload_n hx hb dL_law_432 rfl (lv_at hl 1 rfl) ?_
  refine lv_iload hx hb dL_law_433 (lv_at hl 6 rfl) ?_
  refine lv_iconst (v := 2) hx hb dL_law_435 (by decide) ?_
  refine lv_iadd hx hb dL_law_436 ?_
  refine lv_topi (fun y9 ey9 => ?_)
  obtain rfl : y9 = 2 := ey9.trans (by decide +kernel)
  refine va_sld hx hb hXs hbl hbA hS (z_in 2 (by decide) (by decide)) dL_law_437 ?_
  refine lv_topi (fun y10 ey10 => ?_)
  obtain rfl : y10 = (xs 2) := ey10.trans rfl
  refine zq_i (wc := [(g0, .inr (17, [.ref m0, .ref m1, .ref m2, .ref m3, .ref m4, .ref m5, .ref m6, .ref m7, .ref m8, .ref m9, .ref m10, .ref m11, .ref m12, .ref m13, .ref m14, .ref m15, .ref m16, .ref m17, .ref m18, .ref m19, .ref m20, .int 0, .int 0, .int 0, .int 0, .long 0, .int 0])), (m0, .inr (2, [.int 0, .ref b1, .int 0]))]) (wr := []) (va_runV (As := [.int (xs 1), .int (xs 2)]) (rest := []) ⟨hx, hb, hml, hown, hts⟩ (g_setAside l D cy g0 m0 m1 m2 m3 m4 m5 m6 m7 m8 m9 m10 m11 m12 m13 m14 m15 m16 m17 m18 m19 m20 b1 (xs 1) (xs 2) H.size ) (cwV 2 hts (gzV (gz q585) q584 q586 q587 q285) rfl rfl rfl vX14_setAside ⟨Nat.le_of_ble_eq_true rfl, Nat.le_of_ble_eq_true rfl⟩) (zpV (ci := 17) (T := TX14) (N := 27) (q0 := 0) hK hX hY hP hD hS hA [0, 1] (by decide) rfl rfl rfl) rfl rfl hl.1 rfl (lv_room (Nat.le_of_ble_eq_true rfl)) dL_law_438 ⟨Nat.le_of_ble_eq_true rfl, Nat.le_of_ble_eq_true rfl⟩) hP hD hS hA [0, 1] [] rfl rfl (by decide) (by decide) (fun x12 u11 H locs hw hP hD hS => ?_)
  obtain rfl : x12 = 0 := hw
  have hP : va_P D vwCl [(g0, .inr (17, [.ref m0, .ref m1, .ref m2, .ref m3, .ref m4, .ref m5, .ref m6, .ref m7, .ref m8, .ref m9, .ref m10, .ref m11, .ref m12, .ref m13, .ref m14, .ref m15, .ref m16, .ref m17, .ref m18, .ref m19, .ref m20, .int 1, .int 0, .int 0, .int 0, .long 0, .int 0]))] H := hP
  have hD : va_D A [(g0, .inr (17, [.ref m0, .ref m1, .ref m2, .ref m3, .ref m4, .ref m5, .ref m6, .ref m7, .ref m8, .ref m9, .ref m10, .ref m11, .ref m12, .ref m13, .ref m14, .ref m15, .ref m16, .ref m17, .ref m18, .ref m19, .ref m20, .int 1, .int 0, .int 0, .int 0, .long 0, .int 0]))] := hD
  refine lv_istore (lv' := [(7, .int 0), (6, .int 1), (0, .ref b), (1, .ref x0), (2, .ref g0), (3, .ref o1), (4, .ref o2), (5, .int 0)]) hx hb dL_law_441 hl (by decide) rfl (fun ls hl => ?_)
  refine lv_aload_n hx hb dL_law_443 rfl (lv_at hl 4 rfl) ?_
  refine zq_i (wc := [(g0, .inr (17, [.ref m0, .ref m1, .ref m2, .ref m3, .ref m4, .ref m5, .ref m6, .ref m7, .ref m8, .ref m9, .ref m10, .ref m11, .ref m12, .ref m13, .ref m14, .ref m15, .ref m16, .ref m17, .ref m18, .ref m19, .ref m20, .int 1, .int 0, .int 0, .int 0, .long 0, .int 0]))]) (wr := []) (va_runV (As := []) (rest := []) ⟨hx, hb, hml, hown, hts⟩ (k_thrown l D cy g0 m0 m1 m2 m3 m4 m5 m6 m7 m8 m9 m10 m11 m12 m13 m14 m15 m16 m17 m18 m19 m20 1 0 0 0 0 0 H.size ) (cwV 0 hts (gzV (gz q571) q570 q572 q573 q285) rfl rfl rfl vX14_thrown ⟨Nat.le_of_ble_eq_true rfl, Nat.le_of_ble_eq_true rfl⟩) (zpV (ci := 17) (T := TX14) (N := 27) (q0 := 0) hK hX hY hP hD hS hA [0] (by decide) rfl rfl rfl) rfl rfl hl.1 rfl (lv_room (Nat.le_of_ble_eq_true rfl)) dL_law_444 ⟨Nat.le_of_ble_eq_true rfl, Nat.le_of_ble_eq_true rfl⟩) hP hD hS hA [0] [] rfl rfl (by decide) (by decide) (fun x14 u13 H locs hw hP hD hS => ?_)
  obtain rfl : x14 = 1 := hw
  have hP : va_P D vwCl [(g0, .inr (17, [.ref m0, .ref m1, .ref m2, .ref m3, .ref m4, .ref m5, .ref m6, .ref m7, .ref m8, .ref m9, .ref m10, .ref m11, .ref m12, .ref m13, .ref m14, .ref m15, .ref m16, .ref m17, .ref m18, .ref m19, .ref m20, .int 1, .int 0, .int 0, .int 0, .long 0, .int 0]))] H := hP
  have hD : va_D A [(g0, .inr (17, [.ref m0, .ref m1, .ref m2, .ref m3, .ref m4, .ref m5, .ref m6, .ref m7, .ref m8, .ref m9, .ref m10, .ref m11, .ref m12, .ref m13, .ref m14, .ref m15, .ref m16, .ref m17, .ref m18, .ref m19, .ref m20, .int 1, .int 0, .int 0, .int 0, .long 0, .int 0]))] := hD
  refine lv_iload hx hb dL_law_447 (lv_at hl 1 rfl) ?_
  refine lv_icmp_eq (tgt := 454) hx hb dL_law_449 (by decide) (fun _ => ?_) (fun c_449_14 => absurd (by decide +kernel) c_449_14)
  refine lv_iload hx hb dL_law_454 (lv_at hl 1 rfl) ?_
  refine lv_if_ne (tgt := 478) hx hb dL_law_456 (by decide) (fun _ => ?_) (fun c_456_15 => absurd c_456_15 (by decide +kernel))
  refine lv_goto (tgt := 2706) hx hb dL_law_478 (by decide) ?_
  exact W.widen (k := 600006) (n := 7302040) (Nat.le_of_ble_eq_true rfl) (Nat.le_of_ble_eq_true rfl) (kt _ _ _ hS (lv_sub hl [2, 7] rfl))
set_option maxHeartbeats 4000000 in
set_option maxRecDepth 100000 in
theorem c_join (l : Launch) {p : Program} {e : Env} {s : State} {m : MethodId} {below : List Frame} {meth : Method} {c : Code} {D : va_G} {cy : Nat → ClassId} {A : Nat → Prop} {b : Nat} {xs : Nat → Int32} {Q : State → Prop} {H : Heap} {locs : List Loc} {ls : Array Slot} (Z : zLaw l p s m c D cy A b 9 xs) (x0 : Nat) (g0 : Nat) (o1 : Nat) (o2 : Nat) (vC : Nat) (vP : Nat) (vT : Nat) (vS : Nat) (vF : Nat) (vN : Nat) (vY : Nat) (sS : Nat) (sJ : Nat) (m0 : Nat) (m1 : Nat) (m2 : Nat) (m3 : Nat) (m4 : Nat) (m5 : Nat) (m6 : Nat) (m7 : Nat) (m8 : Nat) (m9 : Nat) (m10 : Nat) (m11 : Nat) (m12 : Nat) (m13 : Nat) (m14 : Nat) (m15 : Nat) (m16 : Nat) (m17 : Nat) (m18 : Nat) (m19 : Nat) (m20 : Nat)  (hP : va_P D vwCl [(x0, .inr (12, [.ref vC, .ref vP, .ref vT, .ref vS, .ref vF, .ref vN, .ref vY, .int 0])), (vC, .inr (3, [.ref sS, .ref sJ, .int 0, .int 0])), (g0, .inr (17, [.ref m0, .ref m1, .ref m2, .ref m3, .ref m4, .ref m5, .ref m6, .ref m7, .ref m8, .ref m9, .ref m10, .ref m11, .ref m12, .ref m13, .ref m14, .ref m15, .ref m16, .ref m17, .ref m18, .ref m19, .ref m20, .int 0, .int 0, .int 0, .int 0, .long 0, .int 0]))] H) (hD : va_D A [(x0, .inr (12, [.ref vC, .ref vP, .ref vT, .ref vS, .ref vF, .ref vN, .ref vY, .int 0])), (vC, .inr (3, [.ref sS, .ref sJ, .int 0, .int 0])), (g0, .inr (17, [.ref m0, .ref m1, .ref m2, .ref m3, .ref m4, .ref m5, .ref m6, .ref m7, .ref m8, .ref m9, .ref m10, .ref m11, .ref m12, .ref m13, .ref m14, .ref m15, .ref m16, .ref m17, .ref m18, .ref m19, .ref m20, .int 0, .int 0, .int 0, .int 0, .long 0, .int 0]))]) (hS : va_S A s.heap H locs) (hl : lv_has ls 9 [(0, .ref b), (1, .ref x0), (2, .ref g0), (3, .ref o1), (4, .ref o2), (5, .int 0)]) (kt : ∀ (H : Heap) (locs : List Loc) (ls : Array Slot), va_S A s.heap H locs → lv_has ls 9 [(0, .ref b), (5, .int 0)] → W p l e room_1 s m #[Value.ref b] below meth c H locs 600006 7302040 Q (F0 m 2706 ls [])) : W p l e room_1 s m #[Value.ref b] below meth c H locs 213 25112 Q (F0 m 481 ls []) := by
  obtain ⟨hx, hb, hml, hown, hts, hK, hX, hY, hA, hXs, hbl, hbA, hlt⟩ := id Z
  refine lv_aload_n hx hb dL_law_481 rfl (lv_at hl 1 rfl) ?_
  refine lv_aload_n hx hb dL_law_482 rfl (lv_at hl 0 rfl) ?_
  refine lv_iload hx hb dL_law_483 (lv_at hl 5 rfl) ?_
  refine lv_iconst (v := 1) hx hb dL_law_485 (by decide) ?_
  refine lv_iadd hx hb dL_law_486 ?_
  refine lv_topi (fun y1 ey1 => ?_)
  obtain rfl : y1 = 1 := ey1.trans (by decide +kernel)
  refine va_sld hx hb hXs hbl hbA hS (z_in 1 (by decide) (by decide)) dL_law_487 ?_
  refine lv_topi (fun y2 ey2 => ?_)
  obtain rfl : y2 = (xs 1) := ey2.trans rfl
  refine lv_aload_n hx hb dL_law_488 rfl (lv_at hl 0 rfl) ?_
  refine lv_iload hx hb dL_law_489 (lv_at hl 5 rfl) ?_
  refine lv_iconst (v := 2) hx hb dL_law_491 (by decide) ?_
  refine lv_iadd hx hb dL_law_492 ?_
  refine lv_topi (fun y3 ey3 => ?_)
  obtain rfl : y3 = 2 := ey3.trans (by decide +kernel)
  refine va_sld hx hb hXs hbl hbA hS (z_in 2 (by decide) (by decide)) dL_law_493 ?_
  refine lv_topi (fun y4 ey4 => ?_)
  obtain rfl : y4 = (xs 2) := ey4.trans rfl
  refine lv_aload_n hx hb dL_law_494 rfl (lv_at hl 0 rfl) ?_
  refine lv_iload hx hb dL_law_495 (lv_at hl 5 rfl) ?_
  refine lv_iconst (v := 3) hx hb dL_law_497 (by decide) ?_
  refine lv_iadd hx hb dL_law_498 ?_
  refine lv_topi (fun y5 ey5 => ?_)
  obtain rfl : y5 = 3 := ey5.trans (by decide +kernel)
  refine va_sld hx hb hXs hbl hbA hS (z_in 3 (by decide) (by decide)) dL_law_499 ?_
  refine lv_topi (fun y6 ey6 => ?_)
  obtain rfl : y6 = (xs 3) := ey6.trans rfl
  refine lv_aload_n hx hb dL_law_500 rfl (lv_at hl 3 rfl) ?_
  refine zq_i (wc := [(x0, .inr (12, [.ref vC, .ref vP, .ref vT, .ref vS, .ref vF, .ref vN, .ref vY, .int 0])), (vC, .inr (3, [.ref sS, .ref sJ, .int 0, .int 0]))]) (wr := [(g0, .inr (17, [.ref m0, .ref m1, .ref m2, .ref m3, .ref m4, .ref m5, .ref m6, .ref m7, .ref m8, .ref m9, .ref m10, .ref m11, .ref m12, .ref m13, .ref m14, .ref m15, .ref m16, .ref m17, .ref m18, .ref m19, .ref m20, .int 0, .int 0, .int 0, .int 0, .long 0, .int 0]))]) (vx_runSW (As := [.ref x0, .int (xs 1), .int (xs 2), .int (xs 3), .ref o1]) (rest := []) ⟨hx, hb, hml, hown, hts⟩ (w_join l hlt D cy x0 vC vP vT vS vF vN vY sS sJ (xs 1) (xs 2) (xs 3) o1 H.size ) (vx_cwSW 5 hts (gzS (gzW q589) q588 q590 q565) rfl rfl rfl vL_join.2 ⟨Nat.le_of_ble_eq_true rfl, Nat.le_of_ble_eq_true rfl⟩) (zpS hK hX hY hP hD hS hA [0, 1] (by decide) rfl) rfl rfl hl.1 rfl (lv_room (Nat.le_of_ble_eq_true rfl)) dL_law_501 ⟨Nat.le_of_ble_eq_true rfl, Nat.le_of_ble_eq_true rfl⟩) hP hD hS hA [0, 1] [2] rfl rfl (by decide) (by decide) (fun x8 u7 H locs hw hP hD hS => ?_)
  obtain rfl : x8 = 1 := hw
  have hP : va_P D vwCl [(g0, .inr (17, [.ref m0, .ref m1, .ref m2, .ref m3, .ref m4, .ref m5, .ref m6, .ref m7, .ref m8, .ref m9, .ref m10, .ref m11, .ref m12, .ref m13, .ref m14, .ref m15, .ref m16, .ref m17, .ref m18, .ref m19, .ref m20, .int 0, .int 0, .int 0, .int 0, .long 0, .int 0]))] H := hP
  have hD : va_D A [(g0, .inr (17, [.ref m0, .ref m1, .ref m2, .ref m3, .ref m4, .ref m5, .ref m6, .ref m7, .ref m8, .ref m9, .ref m10, .ref m11, .ref m12, .ref m13, .ref m14, .ref m15, .ref m16, .ref m17, .ref m18, .ref m19, .ref m20, .int 0, .int 0, .int 0, .int 0, .long 0, .int 0]))] := hD
  refine W.widen (k := 214) (n := 25118) (by omega) (by omega) ?_
  refine lv_istore (lv' := [(6, .int 1), (0, .ref b), (1, .ref x0), (2, .ref g0), (3, .ref o1), (4, .ref o2), (5, .int 0)]) hx hb dL_law_504 hl (by decide) rfl (fun ls hl => ?_)
  refine lv_aload_n hx hb dL_law_506 rfl (lv_at hl 3 rfl) ?_
  refine lv_aload_n hx hb dL_law_507 rfl (lv_at hl 1 rfl) ?_
  refine lv_iload hx hb dL_law_508 (lv_at hl 6 rfl) ?_
  refine lv_iconst (v := 1) hx hb dL_law_510 (by decide) ?_
  refine lv_iadd hx hb dL_law_511 ?_
  refine lv_topi (fun y9 ey9 => ?_)
  obtain rfl : y9 = 1 := ey9.trans (by decide +kernel)
  refine va_sld hx hb hXs hbl hbA hS (z_in 1 (by decide) (by decide)) dL_law_512 ?_
  refine lv_topi (fun y10 ey10 => ?_)
  obtain rfl : y10 = (xs 1) := ey10.trans rfl
  refine lv_aload_n hx hb dL_law_513 rfl (lv_at hl 1 rfl) ?_
  refine lv_iload hx hb dL_law_514 (lv_at hl 6 rfl) ?_
  refine lv_iconst (v := 2) hx hb dL_law_516 (by decide) ?_
  refine lv_iadd hx hb dL_law_517 ?_
  refine lv_topi (fun y11 ey11 => ?_)
  obtain rfl : y11 = 2 := ey11.trans (by decide +kernel)
  refine va_sld hx hb hXs hbl hbA hS (z_in 2 (by decide) (by decide)) dL_law_518 ?_
  refine lv_topi (fun y12 ey12 => ?_)
  obtain rfl : y12 = (xs 2) := ey12.trans rfl
  refine lv_aload_n hx hb dL_law_519 rfl (lv_at hl 1 rfl) ?_
  refine lv_iload hx hb dL_law_520 (lv_at hl 6 rfl) ?_
  refine lv_iconst (v := 3) hx hb dL_law_522 (by decide) ?_
  refine lv_iadd hx hb dL_law_523 ?_
  refine lv_topi (fun y13 ey13 => ?_)
  obtain rfl : y13 = 3 := ey13.trans (by decide +kernel)
  refine va_sld hx hb hXs hbl hbA hS (z_in 3 (by decide) (by decide)) dL_law_524 ?_
  refine lv_topi (fun y14 ey14 => ?_)
  obtain rfl : y14 = (xs 3) := ey14.trans rfl
  refine zq_i (wc := [(g0, .inr (17, [.ref m0, .ref m1, .ref m2, .ref m3, .ref m4, .ref m5, .ref m6, .ref m7, .ref m8, .ref m9, .ref m10, .ref m11, .ref m12, .ref m13, .ref m14, .ref m15, .ref m16, .ref m17, .ref m18, .ref m19, .ref m20, .int 0, .int 0, .int 0, .int 0, .long 0, .int 0]))]) (wr := []) (va_runV (As := [.int (xs 1), .int (xs 2), .int (xs 3)]) (rest := []) ⟨hx, hb, hml, hown, hts⟩ (g_join l D cy g0 m0 m1 m2 m3 m4 m5 m6 m7 m8 m9 m10 m11 m12 m13 m14 m15 m16 m17 m18 m19 m20 (xs 1) (xs 2) (xs 3) H.size ) (cwV 3 hts (gzV (gz q592) q591 q593 q594 q285) rfl rfl rfl vX14_join ⟨Nat.le_of_ble_eq_true rfl, Nat.le_of_ble_eq_true rfl⟩) (zpV (ci := 17) (T := TX14) (N := 27) (q0 := 0) hK hX hY hP hD hS hA [0] (by decide) rfl rfl rfl) rfl rfl hl.1 rfl (lv_room (Nat.le_of_ble_eq_true rfl)) dL_law_525 ⟨Nat.le_of_ble_eq_true rfl, Nat.le_of_ble_eq_true rfl⟩) hP hD hS hA [0] [] rfl rfl (by decide) (by decide) (fun x16 u15 H locs hw hP hD hS => ?_)
  obtain rfl : x16 = 0 := hw
  have hP : va_P D vwCl [(g0, .inr (17, [.ref m0, .ref m1, .ref m2, .ref m3, .ref m4, .ref m5, .ref m6, .ref m7, .ref m8, .ref m9, .ref m10, .ref m11, .ref m12, .ref m13, .ref m14, .ref m15, .ref m16, .ref m17, .ref m18, .ref m19, .ref m20, .int 1, .int 0, .int 0, .int 0, .long 0, .int 0]))] H := hP
  have hD : va_D A [(g0, .inr (17, [.ref m0, .ref m1, .ref m2, .ref m3, .ref m4, .ref m5, .ref m6, .ref m7, .ref m8, .ref m9, .ref m10, .ref m11, .ref m12, .ref m13, .ref m14, .ref m15, .ref m16, .ref m17, .ref m18, .ref m19, .ref m20, .int 1, .int 0, .int 0, .int 0, .long 0, .int 0]))] := hD
  refine lv_istore (lv' := [(7, .int 0), (6, .int 1), (0, .ref b), (1, .ref x0), (2, .ref g0), (3, .ref o1), (4, .ref o2), (5, .int 0)]) hx hb dL_law_528 hl (by decide) rfl (fun ls hl => ?_)
  refine lv_aload_n hx hb dL_law_530 rfl (lv_at hl 4 rfl) ?_
  refine zq_i (wc := [(g0, .inr (17, [.ref m0, .ref m1, .ref m2, .ref m3, .ref m4, .ref m5, .ref m6, .ref m7, .ref m8, .ref m9, .ref m10, .ref m11, .ref m12, .ref m13, .ref m14, .ref m15, .ref m16, .ref m17, .ref m18, .ref m19, .ref m20, .int 1, .int 0, .int 0, .int 0, .long 0, .int 0]))]) (wr := []) (va_runV (As := []) (rest := []) ⟨hx, hb, hml, hown, hts⟩ (k_thrown l D cy g0 m0 m1 m2 m3 m4 m5 m6 m7 m8 m9 m10 m11 m12 m13 m14 m15 m16 m17 m18 m19 m20 1 0 0 0 0 0 H.size ) (cwV 0 hts (gzV (gz q571) q570 q572 q573 q285) rfl rfl rfl vX14_thrown ⟨Nat.le_of_ble_eq_true rfl, Nat.le_of_ble_eq_true rfl⟩) (zpV (ci := 17) (T := TX14) (N := 27) (q0 := 0) hK hX hY hP hD hS hA [0] (by decide) rfl rfl rfl) rfl rfl hl.1 rfl (lv_room (Nat.le_of_ble_eq_true rfl)) dL_law_531 ⟨Nat.le_of_ble_eq_true rfl, Nat.le_of_ble_eq_true rfl⟩) hP hD hS hA [0] [] rfl rfl (by decide) (by decide) (fun x18 u17 H locs hw hP hD hS => ?_)
  obtain rfl : x18 = 1 := hw
  have hP : va_P D vwCl [(g0, .inr (17, [.ref m0, .ref m1, .ref m2, .ref m3, .ref m4, .ref m5, .ref m6, .ref m7, .ref m8, .ref m9, .ref m10, .ref m11, .ref m12, .ref m13, .ref m14, .ref m15, .ref m16, .ref m17, .ref m18, .ref m19, .ref m20, .int 1, .int 0, .int 0, .int 0, .long 0, .int 0]))] H := hP
  have hD : va_D A [(g0, .inr (17, [.ref m0, .ref m1, .ref m2, .ref m3, .ref m4, .ref m5, .ref m6, .ref m7, .ref m8, .ref m9, .ref m10, .ref m11, .ref m12, .ref m13, .ref m14, .ref m15, .ref m16, .ref m17, .ref m18, .ref m19, .ref m20, .int 1, .int 0, .int 0, .int 0, .long 0, .int 0]))] := hD
  refine lv_iload hx hb dL_law_534 (lv_at hl 1 rfl) ?_
  refine lv_icmp_eq (tgt := 541) hx hb dL_law_536 (by decide) (fun _ => ?_) (fun c_536_18 => absurd (by decide +kernel) c_536_18)
  refine lv_iload hx hb dL_law_541 (lv_at hl 1 rfl) ?_
  refine lv_if_ne (tgt := 565) hx hb dL_law_543 (by decide) (fun _ => ?_) (fun c_543_19 => absurd c_543_19 (by decide +kernel))
  refine lv_goto (tgt := 2706) hx hb dL_law_565 (by decide) ?_
  exact W.widen (k := 600006) (n := 7302040) (Nat.le_of_ble_eq_true rfl) (Nat.le_of_ble_eq_true rfl) (kt _ _ _ hS (lv_sub hl [2, 7] rfl))
set_option maxHeartbeats 4000000 in
set_option maxRecDepth 100000 in
theorem c_oneWith (l : Launch) {p : Program} {e : Env} {s : State} {m : MethodId} {below : List Frame} {meth : Method} {c : Code} {D : va_G} {cy : Nat → ClassId} {A : Nat → Prop} {b : Nat} {xs : Nat → Int32} {Q : State → Prop} {H : Heap} {locs : List Loc} {ls : Array Slot} (Z : zLaw l p s m c D cy A b 9 xs) (x0 : Nat) (g0 : Nat) (o1 : Nat) (o2 : Nat) (vC : Nat) (vP : Nat) (vT : Nat) (vS : Nat) (vF : Nat) (vN : Nat) (vY : Nat) (sS : Nat) (sJ : Nat) (m0 : Nat) (m1 : Nat) (m2 : Nat) (m3 : Nat) (m4 : Nat) (m5 : Nat) (m6 : Nat) (m7 : Nat) (m8 : Nat) (m9 : Nat) (m10 : Nat) (m11 : Nat) (m12 : Nat) (m13 : Nat) (m14 : Nat) (m15 : Nat) (m16 : Nat) (m17 : Nat) (m18 : Nat) (m19 : Nat) (m20 : Nat)  (hP : va_P D vwCl [(x0, .inr (12, [.ref vC, .ref vP, .ref vT, .ref vS, .ref vF, .ref vN, .ref vY, .int 0])), (vC, .inr (3, [.ref sS, .ref sJ, .int 0, .int 0])), (g0, .inr (17, [.ref m0, .ref m1, .ref m2, .ref m3, .ref m4, .ref m5, .ref m6, .ref m7, .ref m8, .ref m9, .ref m10, .ref m11, .ref m12, .ref m13, .ref m14, .ref m15, .ref m16, .ref m17, .ref m18, .ref m19, .ref m20, .int 0, .int 0, .int 0, .int 0, .long 0, .int 0]))] H) (hD : va_D A [(x0, .inr (12, [.ref vC, .ref vP, .ref vT, .ref vS, .ref vF, .ref vN, .ref vY, .int 0])), (vC, .inr (3, [.ref sS, .ref sJ, .int 0, .int 0])), (g0, .inr (17, [.ref m0, .ref m1, .ref m2, .ref m3, .ref m4, .ref m5, .ref m6, .ref m7, .ref m8, .ref m9, .ref m10, .ref m11, .ref m12, .ref m13, .ref m14, .ref m15, .ref m16, .ref m17, .ref m18, .ref m19, .ref m20, .int 0, .int 0, .int 0, .int 0, .long 0, .int 0]))]) (hS : va_S A s.heap H locs) (hl : lv_has ls 9 [(0, .ref b), (1, .ref x0), (2, .ref g0), (3, .ref o1), (4, .ref o2), (5, .int 0)]) (kt : ∀ (H : Heap) (locs : List Loc) (ls : Array Slot), va_S A s.heap H locs → lv_has ls 9 [(0, .ref b), (5, .int 0)] → W p l e room_1 s m #[Value.ref b] below meth c H locs 600006 7302040 Q (F0 m 2706 ls [])) : W p l e room_1 s m #[Value.ref b] below meth c H locs 213 25112 Q (F0 m 568 ls []) := by
  obtain ⟨hx, hb, hml, hown, hts, hK, hX, hY, hA, hXs, hbl, hbA, hlt⟩ := id Z
  refine lv_aload_n hx hb dL_law_568 rfl (lv_at hl 1 rfl) ?_
  refine lv_aload_n hx hb dL_law_569 rfl (lv_at hl 0 rfl) ?_
  refine lv_iload hx hb dL_law_570 (lv_at hl 5 rfl) ?_
  refine lv_iconst (v := 1) hx hb dL_law_572 (by decide) ?_
  refine lv_iadd hx hb dL_law_573 ?_
  refine lv_topi (fun y1 ey1 => ?_)
  obtain rfl : y1 = 1 := ey1.trans (by decide +kernel)
  refine va_sld hx hb hXs hbl hbA hS (z_in 1 (by decide) (by decide)) dL_law_574 ?_
  refine lv_topi (fun y2 ey2 => ?_)
  obtain rfl : y2 = (xs 1) := ey2.trans rfl
  refine lv_aload_n hx hb dL_law_575 rfl (lv_at hl 0 rfl) ?_
  refine lv_iload hx hb dL_law_576 (lv_at hl 5 rfl) ?_
  refine lv_iconst (v := 2) hx hb dL_law_578 (by decide) ?_
  refine lv_iadd hx hb dL_law_579 ?_
  refine lv_topi (fun y3 ey3 => ?_)
  obtain rfl : y3 = 2 := ey3.trans (by decide +kernel)
  refine va_sld hx hb hXs hbl hbA hS (z_in 2 (by decide) (by decide)) dL_law_580 ?_
  refine lv_topi (fun y4 ey4 => ?_)
  obtain rfl : y4 = (xs 2) := ey4.trans rfl
  refine lv_aload_n hx hb dL_law_581 rfl (lv_at hl 3 rfl) ?_
  refine zq_i (wc := [(x0, .inr (12, [.ref vC, .ref vP, .ref vT, .ref vS, .ref vF, .ref vN, .ref vY, .int 0])), (vC, .inr (3, [.ref sS, .ref sJ, .int 0, .int 0]))]) (wr := [(g0, .inr (17, [.ref m0, .ref m1, .ref m2, .ref m3, .ref m4, .ref m5, .ref m6, .ref m7, .ref m8, .ref m9, .ref m10, .ref m11, .ref m12, .ref m13, .ref m14, .ref m15, .ref m16, .ref m17, .ref m18, .ref m19, .ref m20, .int 0, .int 0, .int 0, .int 0, .long 0, .int 0]))]) (vx_runSW (As := [.ref x0, .int (xs 1), .int (xs 2), .ref o1]) (rest := []) ⟨hx, hb, hml, hown, hts⟩ (w_oneWith l hlt D cy x0 vC vP vT vS vF vN vY sS sJ (xs 1) (xs 2) o1 H.size ) (vx_cwSW 4 hts (gzS (gzW q596) q595 q597 q565) rfl rfl rfl vL_oneWith.2 ⟨Nat.le_of_ble_eq_true rfl, Nat.le_of_ble_eq_true rfl⟩) (zpS hK hX hY hP hD hS hA [0, 1] (by decide) rfl) rfl rfl hl.1 rfl (lv_room (Nat.le_of_ble_eq_true rfl)) dL_law_582 ⟨Nat.le_of_ble_eq_true rfl, Nat.le_of_ble_eq_true rfl⟩) hP hD hS hA [0, 1] [2] rfl rfl (by decide) (by decide) (fun x6 u5 H locs hw hP hD hS => ?_)
  obtain rfl : x6 = 1 := hw
  have hP : va_P D vwCl [(g0, .inr (17, [.ref m0, .ref m1, .ref m2, .ref m3, .ref m4, .ref m5, .ref m6, .ref m7, .ref m8, .ref m9, .ref m10, .ref m11, .ref m12, .ref m13, .ref m14, .ref m15, .ref m16, .ref m17, .ref m18, .ref m19, .ref m20, .int 0, .int 0, .int 0, .int 0, .long 0, .int 0]))] H := hP
  have hD : va_D A [(g0, .inr (17, [.ref m0, .ref m1, .ref m2, .ref m3, .ref m4, .ref m5, .ref m6, .ref m7, .ref m8, .ref m9, .ref m10, .ref m11, .ref m12, .ref m13, .ref m14, .ref m15, .ref m16, .ref m17, .ref m18, .ref m19, .ref m20, .int 0, .int 0, .int 0, .int 0, .long 0, .int 0]))] := hD
  refine W.widen (k := 214) (n := 25118) (by omega) (by omega) ?_
  refine lv_istore (lv' := [(6, .int 1), (0, .ref b), (1, .ref x0), (2, .ref g0), (3, .ref o1), (4, .ref o2), (5, .int 0)]) hx hb dL_law_585 hl (by decide) rfl (fun ls hl => ?_)
  refine lv_aload_n hx hb dL_law_587 rfl (lv_at hl 3 rfl) ?_
  refine lv_aload_n hx hb dL_law_588 rfl (lv_at hl 1 rfl) ?_
  refine lv_iload hx hb dL_law_589 (lv_at hl 6 rfl) ?_
  refine lv_iconst (v := 1) hx hb dL_law_591 (by decide) ?_
  refine lv_iadd hx hb dL_law_592 ?_
  refine lv_topi (fun y7 ey7 => ?_)
  obtain rfl : y7 = 1 := ey7.trans (by decide +kernel)
  refine va_sld hx hb hXs hbl hbA hS (z_in 1 (by decide) (by decide)) dL_law_593 ?_
  refine lv_topi (fun y8 ey8 => ?_)
  obtain rfl : y8 = (xs 1) := ey8.trans rfl
  refine lv_aload_n hx hb dL_law_594 rfl (lv_at hl 1 rfl) ?_
  refine lv_iload hx hb dL_law_595 (lv_at hl 6 rfl) ?_
  refine lv_iconst (v := 2) hx hb dL_law_597 (by decide) ?_
  refine lv_iadd hx hb dL_law_598 ?_
  refine lv_topi (fun y9 ey9 => ?_)
  obtain rfl : y9 = 2 := ey9.trans (by decide +kernel)
  refine va_sld hx hb hXs hbl hbA hS (z_in 2 (by decide) (by decide)) dL_law_599 ?_
  refine lv_topi (fun y10 ey10 => ?_)
  obtain rfl : y10 = (xs 2) := ey10.trans rfl
  refine zq_i (wc := [(g0, .inr (17, [.ref m0, .ref m1, .ref m2, .ref m3, .ref m4, .ref m5, .ref m6, .ref m7, .ref m8, .ref m9, .ref m10, .ref m11, .ref m12, .ref m13, .ref m14, .ref m15, .ref m16, .ref m17, .ref m18, .ref m19, .ref m20, .int 0, .int 0, .int 0, .int 0, .long 0, .int 0]))]) (wr := []) (va_runV (As := [.int (xs 1), .int (xs 2)]) (rest := []) ⟨hx, hb, hml, hown, hts⟩ (g_oneWith l D cy g0 m0 m1 m2 m3 m4 m5 m6 m7 m8 m9 m10 m11 m12 m13 m14 m15 m16 m17 m18 m19 m20 (xs 1) (xs 2) H.size ) (cwV 2 hts (gzV (gz q599) q598 q600 q601 q285) rfl rfl rfl vX14_oneWith ⟨Nat.le_of_ble_eq_true rfl, Nat.le_of_ble_eq_true rfl⟩) (zpV (ci := 17) (T := TX14) (N := 27) (q0 := 0) hK hX hY hP hD hS hA [0] (by decide) rfl rfl rfl) rfl rfl hl.1 rfl (lv_room (Nat.le_of_ble_eq_true rfl)) dL_law_600 ⟨Nat.le_of_ble_eq_true rfl, Nat.le_of_ble_eq_true rfl⟩) hP hD hS hA [0] [] rfl rfl (by decide) (by decide) (fun x12 u11 H locs hw hP hD hS => ?_)
  obtain rfl : x12 = 0 := hw
  have hP : va_P D vwCl [(g0, .inr (17, [.ref m0, .ref m1, .ref m2, .ref m3, .ref m4, .ref m5, .ref m6, .ref m7, .ref m8, .ref m9, .ref m10, .ref m11, .ref m12, .ref m13, .ref m14, .ref m15, .ref m16, .ref m17, .ref m18, .ref m19, .ref m20, .int 1, .int 0, .int 0, .int 0, .long 0, .int 0]))] H := hP
  have hD : va_D A [(g0, .inr (17, [.ref m0, .ref m1, .ref m2, .ref m3, .ref m4, .ref m5, .ref m6, .ref m7, .ref m8, .ref m9, .ref m10, .ref m11, .ref m12, .ref m13, .ref m14, .ref m15, .ref m16, .ref m17, .ref m18, .ref m19, .ref m20, .int 1, .int 0, .int 0, .int 0, .long 0, .int 0]))] := hD
  refine lv_istore (lv' := [(7, .int 0), (6, .int 1), (0, .ref b), (1, .ref x0), (2, .ref g0), (3, .ref o1), (4, .ref o2), (5, .int 0)]) hx hb dL_law_603 hl (by decide) rfl (fun ls hl => ?_)
  refine lv_aload_n hx hb dL_law_605 rfl (lv_at hl 4 rfl) ?_
  refine zq_i (wc := [(g0, .inr (17, [.ref m0, .ref m1, .ref m2, .ref m3, .ref m4, .ref m5, .ref m6, .ref m7, .ref m8, .ref m9, .ref m10, .ref m11, .ref m12, .ref m13, .ref m14, .ref m15, .ref m16, .ref m17, .ref m18, .ref m19, .ref m20, .int 1, .int 0, .int 0, .int 0, .long 0, .int 0]))]) (wr := []) (va_runV (As := []) (rest := []) ⟨hx, hb, hml, hown, hts⟩ (k_thrown l D cy g0 m0 m1 m2 m3 m4 m5 m6 m7 m8 m9 m10 m11 m12 m13 m14 m15 m16 m17 m18 m19 m20 1 0 0 0 0 0 H.size ) (cwV 0 hts (gzV (gz q571) q570 q572 q573 q285) rfl rfl rfl vX14_thrown ⟨Nat.le_of_ble_eq_true rfl, Nat.le_of_ble_eq_true rfl⟩) (zpV (ci := 17) (T := TX14) (N := 27) (q0 := 0) hK hX hY hP hD hS hA [0] (by decide) rfl rfl rfl) rfl rfl hl.1 rfl (lv_room (Nat.le_of_ble_eq_true rfl)) dL_law_606 ⟨Nat.le_of_ble_eq_true rfl, Nat.le_of_ble_eq_true rfl⟩) hP hD hS hA [0] [] rfl rfl (by decide) (by decide) (fun x14 u13 H locs hw hP hD hS => ?_)
  obtain rfl : x14 = 1 := hw
  have hP : va_P D vwCl [(g0, .inr (17, [.ref m0, .ref m1, .ref m2, .ref m3, .ref m4, .ref m5, .ref m6, .ref m7, .ref m8, .ref m9, .ref m10, .ref m11, .ref m12, .ref m13, .ref m14, .ref m15, .ref m16, .ref m17, .ref m18, .ref m19, .ref m20, .int 1, .int 0, .int 0, .int 0, .long 0, .int 0]))] H := hP
  have hD : va_D A [(g0, .inr (17, [.ref m0, .ref m1, .ref m2, .ref m3, .ref m4, .ref m5, .ref m6, .ref m7, .ref m8, .ref m9, .ref m10, .ref m11, .ref m12, .ref m13, .ref m14, .ref m15, .ref m16, .ref m17, .ref m18, .ref m19, .ref m20, .int 1, .int 0, .int 0, .int 0, .long 0, .int 0]))] := hD
  refine lv_iload hx hb dL_law_609 (lv_at hl 1 rfl) ?_
  refine lv_icmp_eq (tgt := 616) hx hb dL_law_611 (by decide) (fun _ => ?_) (fun c_611_14 => absurd (by decide +kernel) c_611_14)
  refine lv_iload hx hb dL_law_616 (lv_at hl 1 rfl) ?_
  refine lv_if_ne (tgt := 633) hx hb dL_law_618 (by decide) (fun _ => ?_) (fun c_618_15 => absurd c_618_15 (by decide +kernel))
  refine lv_goto (tgt := 2706) hx hb dL_law_633 (by decide) ?_
  exact W.widen (k := 600006) (n := 7302040) (Nat.le_of_ble_eq_true rfl) (Nat.le_of_ble_eq_true rfl) (kt _ _ _ hS (lv_sub hl [2, 7] rfl))
set_option maxHeartbeats 4000000 in
set_option maxRecDepth 100000 in
theorem c_isHung (l : Launch) {p : Program} {e : Env} {s : State} {m : MethodId} {below : List Frame} {meth : Method} {c : Code} {D : va_G} {cy : Nat → ClassId} {A : Nat → Prop} {b : Nat} {xs : Nat → Int32} {Q : State → Prop} {H : Heap} {locs : List Loc} {ls : Array Slot} (Z : zLaw l p s m c D cy A b 9 xs) (x0 : Nat) (g0 : Nat) (o1 : Nat) (o2 : Nat) (vC : Nat) (vP : Nat) (vT : Nat) (vS : Nat) (vF : Nat) (vN : Nat) (vY : Nat) (sS : Nat) (sJ : Nat) (m0 : Nat) (m1 : Nat) (m2 : Nat) (m3 : Nat) (m4 : Nat) (m5 : Nat) (m6 : Nat) (m7 : Nat) (m8 : Nat) (m9 : Nat) (m10 : Nat) (m11 : Nat) (m12 : Nat) (m13 : Nat) (m14 : Nat) (m15 : Nat) (m16 : Nat) (m17 : Nat) (m18 : Nat) (m19 : Nat) (m20 : Nat)  (hP : va_P D vwCl [(x0, .inr (12, [.ref vC, .ref vP, .ref vT, .ref vS, .ref vF, .ref vN, .ref vY, .int 0])), (vC, .inr (3, [.ref sS, .ref sJ, .int 0, .int 0])), (g0, .inr (17, [.ref m0, .ref m1, .ref m2, .ref m3, .ref m4, .ref m5, .ref m6, .ref m7, .ref m8, .ref m9, .ref m10, .ref m11, .ref m12, .ref m13, .ref m14, .ref m15, .ref m16, .ref m17, .ref m18, .ref m19, .ref m20, .int 0, .int 0, .int 0, .int 0, .long 0, .int 0]))] H) (hD : va_D A [(x0, .inr (12, [.ref vC, .ref vP, .ref vT, .ref vS, .ref vF, .ref vN, .ref vY, .int 0])), (vC, .inr (3, [.ref sS, .ref sJ, .int 0, .int 0])), (g0, .inr (17, [.ref m0, .ref m1, .ref m2, .ref m3, .ref m4, .ref m5, .ref m6, .ref m7, .ref m8, .ref m9, .ref m10, .ref m11, .ref m12, .ref m13, .ref m14, .ref m15, .ref m16, .ref m17, .ref m18, .ref m19, .ref m20, .int 0, .int 0, .int 0, .int 0, .long 0, .int 0]))]) (hS : va_S A s.heap H locs) (hl : lv_has ls 9 [(0, .ref b), (1, .ref x0), (2, .ref g0), (3, .ref o1), (4, .ref o2), (5, .int 0)]) (kt : ∀ (H : Heap) (locs : List Loc) (ls : Array Slot), va_S A s.heap H locs → lv_has ls 9 [(0, .ref b), (5, .int 0)] → W p l e room_1 s m #[Value.ref b] below meth c H locs 600006 7302040 Q (F0 m 2706 ls [])) : W p l e room_1 s m #[Value.ref b] below meth c H locs 213 25112 Q (F0 m 636 ls []) := by
  obtain ⟨hx, hb, hml, hown, hts, hK, hX, hY, hA, hXs, hbl, hbA, hlt⟩ := id Z
  refine lv_aload_n hx hb dL_law_636 rfl (lv_at hl 1 rfl) ?_
  refine lv_aload_n hx hb dL_law_637 rfl (lv_at hl 0 rfl) ?_
  refine lv_iload hx hb dL_law_638 (lv_at hl 5 rfl) ?_
  refine lv_iconst (v := 1) hx hb dL_law_640 (by decide) ?_
  refine lv_iadd hx hb dL_law_641 ?_
  refine lv_topi (fun y1 ey1 => ?_)
  obtain rfl : y1 = 1 := ey1.trans (by decide +kernel)
  refine va_sld hx hb hXs hbl hbA hS (z_in 1 (by decide) (by decide)) dL_law_642 ?_
  refine lv_topi (fun y2 ey2 => ?_)
  obtain rfl : y2 = (xs 1) := ey2.trans rfl
  refine lv_aload_n hx hb dL_law_643 rfl (lv_at hl 0 rfl) ?_
  refine lv_iload hx hb dL_law_644 (lv_at hl 5 rfl) ?_
  refine lv_iconst (v := 2) hx hb dL_law_646 (by decide) ?_
  refine lv_iadd hx hb dL_law_647 ?_
  refine lv_topi (fun y3 ey3 => ?_)
  obtain rfl : y3 = 2 := ey3.trans (by decide +kernel)
  refine va_sld hx hb hXs hbl hbA hS (z_in 2 (by decide) (by decide)) dL_law_648 ?_
  refine lv_topi (fun y4 ey4 => ?_)
  obtain rfl : y4 = (xs 2) := ey4.trans rfl
  refine lv_aload_n hx hb dL_law_649 rfl (lv_at hl 3 rfl) ?_
  refine zq_i (wc := [(x0, .inr (12, [.ref vC, .ref vP, .ref vT, .ref vS, .ref vF, .ref vN, .ref vY, .int 0])), (vC, .inr (3, [.ref sS, .ref sJ, .int 0, .int 0]))]) (wr := [(g0, .inr (17, [.ref m0, .ref m1, .ref m2, .ref m3, .ref m4, .ref m5, .ref m6, .ref m7, .ref m8, .ref m9, .ref m10, .ref m11, .ref m12, .ref m13, .ref m14, .ref m15, .ref m16, .ref m17, .ref m18, .ref m19, .ref m20, .int 0, .int 0, .int 0, .int 0, .long 0, .int 0]))]) (vx_runSW (As := [.ref x0, .int (xs 1), .int (xs 2), .ref o1]) (rest := []) ⟨hx, hb, hml, hown, hts⟩ (w_isHung l hlt D cy x0 vC vP vT vS vF vN vY sS sJ (xs 1) (xs 2) o1 H.size ) (vx_cwSW 4 hts (gzS (gzW q603) q602 q604 q565) rfl rfl rfl vL_isHung.2 ⟨Nat.le_of_ble_eq_true rfl, Nat.le_of_ble_eq_true rfl⟩) (zpS hK hX hY hP hD hS hA [0, 1] (by decide) rfl) rfl rfl hl.1 rfl (lv_room (Nat.le_of_ble_eq_true rfl)) dL_law_650 ⟨Nat.le_of_ble_eq_true rfl, Nat.le_of_ble_eq_true rfl⟩) hP hD hS hA [0, 1] [2] rfl rfl (by decide) (by decide) (fun x6 u5 H locs hw hP hD hS => ?_)
  obtain rfl : x6 = 1 := hw
  have hP : va_P D vwCl [(g0, .inr (17, [.ref m0, .ref m1, .ref m2, .ref m3, .ref m4, .ref m5, .ref m6, .ref m7, .ref m8, .ref m9, .ref m10, .ref m11, .ref m12, .ref m13, .ref m14, .ref m15, .ref m16, .ref m17, .ref m18, .ref m19, .ref m20, .int 0, .int 0, .int 0, .int 0, .long 0, .int 0]))] H := hP
  have hD : va_D A [(g0, .inr (17, [.ref m0, .ref m1, .ref m2, .ref m3, .ref m4, .ref m5, .ref m6, .ref m7, .ref m8, .ref m9, .ref m10, .ref m11, .ref m12, .ref m13, .ref m14, .ref m15, .ref m16, .ref m17, .ref m18, .ref m19, .ref m20, .int 0, .int 0, .int 0, .int 0, .long 0, .int 0]))] := hD
  refine W.widen (k := 214) (n := 25118) (by omega) (by omega) ?_
  refine lv_istore (lv' := [(6, .int 1), (0, .ref b), (1, .ref x0), (2, .ref g0), (3, .ref o1), (4, .ref o2), (5, .int 0)]) hx hb dL_law_653 hl (by decide) rfl (fun ls hl => ?_)
  refine lv_aload_n hx hb dL_law_655 rfl (lv_at hl 3 rfl) ?_
  refine lv_aload_n hx hb dL_law_656 rfl (lv_at hl 1 rfl) ?_
  refine lv_iload hx hb dL_law_657 (lv_at hl 6 rfl) ?_
  refine lv_iconst (v := 1) hx hb dL_law_659 (by decide) ?_
  refine lv_iadd hx hb dL_law_660 ?_
  refine lv_topi (fun y7 ey7 => ?_)
  obtain rfl : y7 = 1 := ey7.trans (by decide +kernel)
  refine va_sld hx hb hXs hbl hbA hS (z_in 1 (by decide) (by decide)) dL_law_661 ?_
  refine lv_topi (fun y8 ey8 => ?_)
  obtain rfl : y8 = (xs 1) := ey8.trans rfl
  refine lv_aload_n hx hb dL_law_662 rfl (lv_at hl 1 rfl) ?_
  refine lv_iload hx hb dL_law_663 (lv_at hl 6 rfl) ?_
  refine lv_iconst (v := 2) hx hb dL_law_665 (by decide) ?_
  refine lv_iadd hx hb dL_law_666 ?_
  refine lv_topi (fun y9 ey9 => ?_)
  obtain rfl : y9 = 2 := ey9.trans (by decide +kernel)
  refine va_sld hx hb hXs hbl hbA hS (z_in 2 (by decide) (by decide)) dL_law_667 ?_
  refine lv_topi (fun y10 ey10 => ?_)
  obtain rfl : y10 = (xs 2) := ey10.trans rfl
  refine zq_i (wc := [(g0, .inr (17, [.ref m0, .ref m1, .ref m2, .ref m3, .ref m4, .ref m5, .ref m6, .ref m7, .ref m8, .ref m9, .ref m10, .ref m11, .ref m12, .ref m13, .ref m14, .ref m15, .ref m16, .ref m17, .ref m18, .ref m19, .ref m20, .int 0, .int 0, .int 0, .int 0, .long 0, .int 0]))]) (wr := []) (va_runV (As := [.int (xs 1), .int (xs 2)]) (rest := []) ⟨hx, hb, hml, hown, hts⟩ (g_isHung l D cy g0 m0 m1 m2 m3 m4 m5 m6 m7 m8 m9 m10 m11 m12 m13 m14 m15 m16 m17 m18 m19 m20 (xs 1) (xs 2) H.size ) (cwV 2 hts (gzV (gz q606) q605 q607 q608 q285) rfl rfl rfl vX14_isHung ⟨Nat.le_of_ble_eq_true rfl, Nat.le_of_ble_eq_true rfl⟩) (zpV (ci := 17) (T := TX14) (N := 27) (q0 := 0) hK hX hY hP hD hS hA [0] (by decide) rfl rfl rfl) rfl rfl hl.1 rfl (lv_room (Nat.le_of_ble_eq_true rfl)) dL_law_668 ⟨Nat.le_of_ble_eq_true rfl, Nat.le_of_ble_eq_true rfl⟩) hP hD hS hA [0] [] rfl rfl (by decide) (by decide) (fun x12 u11 H locs hw hP hD hS => ?_)
  obtain rfl : x12 = 0 := hw
  have hP : va_P D vwCl [(g0, .inr (17, [.ref m0, .ref m1, .ref m2, .ref m3, .ref m4, .ref m5, .ref m6, .ref m7, .ref m8, .ref m9, .ref m10, .ref m11, .ref m12, .ref m13, .ref m14, .ref m15, .ref m16, .ref m17, .ref m18, .ref m19, .ref m20, .int 1, .int 0, .int 0, .int 0, .long 0, .int 0]))] H := hP
  have hD : va_D A [(g0, .inr (17, [.ref m0, .ref m1, .ref m2, .ref m3, .ref m4, .ref m5, .ref m6, .ref m7, .ref m8, .ref m9, .ref m10, .ref m11, .ref m12, .ref m13, .ref m14, .ref m15, .ref m16, .ref m17, .ref m18, .ref m19, .ref m20, .int 1, .int 0, .int 0, .int 0, .long 0, .int 0]))] := hD
  refine lv_istore (lv' := [(7, .int 0), (6, .int 1), (0, .ref b), (1, .ref x0), (2, .ref g0), (3, .ref o1), (4, .ref o2), (5, .int 0)]) hx hb dL_law_671 hl (by decide) rfl (fun ls hl => ?_)
  refine lv_aload_n hx hb dL_law_673 rfl (lv_at hl 4 rfl) ?_
  refine zq_i (wc := [(g0, .inr (17, [.ref m0, .ref m1, .ref m2, .ref m3, .ref m4, .ref m5, .ref m6, .ref m7, .ref m8, .ref m9, .ref m10, .ref m11, .ref m12, .ref m13, .ref m14, .ref m15, .ref m16, .ref m17, .ref m18, .ref m19, .ref m20, .int 1, .int 0, .int 0, .int 0, .long 0, .int 0]))]) (wr := []) (va_runV (As := []) (rest := []) ⟨hx, hb, hml, hown, hts⟩ (k_thrown l D cy g0 m0 m1 m2 m3 m4 m5 m6 m7 m8 m9 m10 m11 m12 m13 m14 m15 m16 m17 m18 m19 m20 1 0 0 0 0 0 H.size ) (cwV 0 hts (gzV (gz q571) q570 q572 q573 q285) rfl rfl rfl vX14_thrown ⟨Nat.le_of_ble_eq_true rfl, Nat.le_of_ble_eq_true rfl⟩) (zpV (ci := 17) (T := TX14) (N := 27) (q0 := 0) hK hX hY hP hD hS hA [0] (by decide) rfl rfl rfl) rfl rfl hl.1 rfl (lv_room (Nat.le_of_ble_eq_true rfl)) dL_law_674 ⟨Nat.le_of_ble_eq_true rfl, Nat.le_of_ble_eq_true rfl⟩) hP hD hS hA [0] [] rfl rfl (by decide) (by decide) (fun x14 u13 H locs hw hP hD hS => ?_)
  obtain rfl : x14 = 1 := hw
  have hP : va_P D vwCl [(g0, .inr (17, [.ref m0, .ref m1, .ref m2, .ref m3, .ref m4, .ref m5, .ref m6, .ref m7, .ref m8, .ref m9, .ref m10, .ref m11, .ref m12, .ref m13, .ref m14, .ref m15, .ref m16, .ref m17, .ref m18, .ref m19, .ref m20, .int 1, .int 0, .int 0, .int 0, .long 0, .int 0]))] H := hP
  have hD : va_D A [(g0, .inr (17, [.ref m0, .ref m1, .ref m2, .ref m3, .ref m4, .ref m5, .ref m6, .ref m7, .ref m8, .ref m9, .ref m10, .ref m11, .ref m12, .ref m13, .ref m14, .ref m15, .ref m16, .ref m17, .ref m18, .ref m19, .ref m20, .int 1, .int 0, .int 0, .int 0, .long 0, .int 0]))] := hD
  refine lv_iload hx hb dL_law_677 (lv_at hl 1 rfl) ?_
  refine lv_icmp_eq (tgt := 684) hx hb dL_law_679 (by decide) (fun _ => ?_) (fun c_679_14 => absurd (by decide +kernel) c_679_14)
  refine lv_iload hx hb dL_law_684 (lv_at hl 1 rfl) ?_
  refine lv_if_ne (tgt := 708) hx hb dL_law_686 (by decide) (fun _ => ?_) (fun c_686_15 => absurd c_686_15 (by decide +kernel))
  refine lv_goto (tgt := 2706) hx hb dL_law_708 (by decide) ?_
  exact W.widen (k := 600006) (n := 7302040) (Nat.le_of_ble_eq_true rfl) (Nat.le_of_ble_eq_true rfl) (kt _ _ _ hS (lv_sub hl [2, 7] rfl))
set_option maxHeartbeats 4000000 in
set_option maxRecDepth 100000 in
theorem c_top (l : Launch) {p : Program} {e : Env} {s : State} {m : MethodId} {below : List Frame} {meth : Method} {c : Code} {D : va_G} {cy : Nat → ClassId} {A : Nat → Prop} {b : Nat} {xs : Nat → Int32} {Q : State → Prop} {H : Heap} {locs : List Loc} {ls : Array Slot} (Z : zLaw l p s m c D cy A b 9 xs) (x0 : Nat) (g0 : Nat) (o1 : Nat) (o2 : Nat) (vC : Nat) (vP : Nat) (vT : Nat) (vS : Nat) (vF : Nat) (vN : Nat) (vY : Nat) (sS : Nat) (sJ : Nat) (m0 : Nat) (m1 : Nat) (m2 : Nat) (m3 : Nat) (m4 : Nat) (m5 : Nat) (m6 : Nat) (m7 : Nat) (m8 : Nat) (m9 : Nat) (m10 : Nat) (m11 : Nat) (m12 : Nat) (m13 : Nat) (m14 : Nat) (m15 : Nat) (m16 : Nat) (m17 : Nat) (m18 : Nat) (m19 : Nat) (m20 : Nat)  (hP : va_P D vwCl [(x0, .inr (12, [.ref vC, .ref vP, .ref vT, .ref vS, .ref vF, .ref vN, .ref vY, .int 0])), (vC, .inr (3, [.ref sS, .ref sJ, .int 0, .int 0])), (g0, .inr (17, [.ref m0, .ref m1, .ref m2, .ref m3, .ref m4, .ref m5, .ref m6, .ref m7, .ref m8, .ref m9, .ref m10, .ref m11, .ref m12, .ref m13, .ref m14, .ref m15, .ref m16, .ref m17, .ref m18, .ref m19, .ref m20, .int 0, .int 0, .int 0, .int 0, .long 0, .int 0]))] H) (hD : va_D A [(x0, .inr (12, [.ref vC, .ref vP, .ref vT, .ref vS, .ref vF, .ref vN, .ref vY, .int 0])), (vC, .inr (3, [.ref sS, .ref sJ, .int 0, .int 0])), (g0, .inr (17, [.ref m0, .ref m1, .ref m2, .ref m3, .ref m4, .ref m5, .ref m6, .ref m7, .ref m8, .ref m9, .ref m10, .ref m11, .ref m12, .ref m13, .ref m14, .ref m15, .ref m16, .ref m17, .ref m18, .ref m19, .ref m20, .int 0, .int 0, .int 0, .int 0, .long 0, .int 0]))]) (hS : va_S A s.heap H locs) (hl : lv_has ls 9 [(0, .ref b), (1, .ref x0), (2, .ref g0), (3, .ref o1), (4, .ref o2), (5, .int 0)]) (kt : ∀ (H : Heap) (locs : List Loc) (ls : Array Slot), va_S A s.heap H locs → lv_has ls 9 [(0, .ref b), (5, .int 0)] → W p l e room_1 s m #[Value.ref b] below meth c H locs 600006 7302040 Q (F0 m 2706 ls [])) : W p l e room_1 s m #[Value.ref b] below meth c H locs 213 25112 Q (F0 m 711 ls []) := by
  obtain ⟨hx, hb, hml, hown, hts, hK, hX, hY, hA, hXs, hbl, hbA, hlt⟩ := id Z
  refine lv_aload_n hx hb dL_law_711 rfl (lv_at hl 1 rfl) ?_
  refine lv_aload_n hx hb dL_law_712 rfl (lv_at hl 0 rfl) ?_
  refine lv_iload hx hb dL_law_713 (lv_at hl 5 rfl) ?_
  refine lv_iconst (v := 1) hx hb dL_law_715 (by decide) ?_
  refine lv_iadd hx hb dL_law_716 ?_
  refine lv_topi (fun y1 ey1 => ?_)
  obtain rfl : y1 = 1 := ey1.trans (by decide +kernel)
  refine va_sld hx hb hXs hbl hbA hS (z_in 1 (by decide) (by decide)) dL_law_717 ?_
  refine lv_topi (fun y2 ey2 => ?_)
  obtain rfl : y2 = (xs 1) := ey2.trans rfl
  refine lv_aload_n hx hb dL_law_718 rfl (lv_at hl 0 rfl) ?_
  refine lv_iload hx hb dL_law_719 (lv_at hl 5 rfl) ?_
  refine lv_iconst (v := 2) hx hb dL_law_721 (by decide) ?_
  refine lv_iadd hx hb dL_law_722 ?_
  refine lv_topi (fun y3 ey3 => ?_)
  obtain rfl : y3 = 2 := ey3.trans (by decide +kernel)
  refine va_sld hx hb hXs hbl hbA hS (z_in 2 (by decide) (by decide)) dL_law_723 ?_
  refine lv_topi (fun y4 ey4 => ?_)
  obtain rfl : y4 = (xs 2) := ey4.trans rfl
  refine lv_aload_n hx hb dL_law_724 rfl (lv_at hl 0 rfl) ?_
  refine lv_iload hx hb dL_law_725 (lv_at hl 5 rfl) ?_
  refine lv_iconst (v := 3) hx hb dL_law_727 (by decide) ?_
  refine lv_iadd hx hb dL_law_728 ?_
  refine lv_topi (fun y5 ey5 => ?_)
  obtain rfl : y5 = 3 := ey5.trans (by decide +kernel)
  refine va_sld hx hb hXs hbl hbA hS (z_in 3 (by decide) (by decide)) dL_law_729 ?_
  refine lv_topi (fun y6 ey6 => ?_)
  obtain rfl : y6 = (xs 3) := ey6.trans rfl
  refine lv_aload_n hx hb dL_law_730 rfl (lv_at hl 3 rfl) ?_
  refine zq_i (wc := [(x0, .inr (12, [.ref vC, .ref vP, .ref vT, .ref vS, .ref vF, .ref vN, .ref vY, .int 0])), (vC, .inr (3, [.ref sS, .ref sJ, .int 0, .int 0]))]) (wr := [(g0, .inr (17, [.ref m0, .ref m1, .ref m2, .ref m3, .ref m4, .ref m5, .ref m6, .ref m7, .ref m8, .ref m9, .ref m10, .ref m11, .ref m12, .ref m13, .ref m14, .ref m15, .ref m16, .ref m17, .ref m18, .ref m19, .ref m20, .int 0, .int 0, .int 0, .int 0, .long 0, .int 0]))]) (vx_runSW (As := [.ref x0, .int (xs 1), .int (xs 2), .int (xs 3), .ref o1]) (rest := []) ⟨hx, hb, hml, hown, hts⟩ (w_top l hlt D cy x0 vC vP vT vS vF vN vY sS sJ (xs 1) (xs 2) (xs 3) o1 H.size ) (vx_cwSW 5 hts (gzS (gzW q610) q609 q611 q565) rfl rfl rfl vL_top.2 ⟨Nat.le_of_ble_eq_true rfl, Nat.le_of_ble_eq_true rfl⟩) (zpS hK hX hY hP hD hS hA [0, 1] (by decide) rfl) rfl rfl hl.1 rfl (lv_room (Nat.le_of_ble_eq_true rfl)) dL_law_731 ⟨Nat.le_of_ble_eq_true rfl, Nat.le_of_ble_eq_true rfl⟩) hP hD hS hA [0, 1] [2] rfl rfl (by decide) (by decide) (fun x8 u7 H locs hw hP hD hS => ?_)
  obtain rfl : x8 = 1 := hw
  have hP : va_P D vwCl [(g0, .inr (17, [.ref m0, .ref m1, .ref m2, .ref m3, .ref m4, .ref m5, .ref m6, .ref m7, .ref m8, .ref m9, .ref m10, .ref m11, .ref m12, .ref m13, .ref m14, .ref m15, .ref m16, .ref m17, .ref m18, .ref m19, .ref m20, .int 0, .int 0, .int 0, .int 0, .long 0, .int 0]))] H := hP
  have hD : va_D A [(g0, .inr (17, [.ref m0, .ref m1, .ref m2, .ref m3, .ref m4, .ref m5, .ref m6, .ref m7, .ref m8, .ref m9, .ref m10, .ref m11, .ref m12, .ref m13, .ref m14, .ref m15, .ref m16, .ref m17, .ref m18, .ref m19, .ref m20, .int 0, .int 0, .int 0, .int 0, .long 0, .int 0]))] := hD
  refine W.widen (k := 214) (n := 25118) (by omega) (by omega) ?_
  refine lv_istore (lv' := [(6, .int 1), (0, .ref b), (1, .ref x0), (2, .ref g0), (3, .ref o1), (4, .ref o2), (5, .int 0)]) hx hb dL_law_734 hl (by decide) rfl (fun ls hl => ?_)
  refine lv_aload_n hx hb dL_law_736 rfl (lv_at hl 3 rfl) ?_
  refine lv_aload_n hx hb dL_law_737 rfl (lv_at hl 1 rfl) ?_
  refine lv_iload hx hb dL_law_738 (lv_at hl 6 rfl) ?_
  refine lv_iconst (v := 1) hx hb dL_law_740 (by decide) ?_
  refine lv_iadd hx hb dL_law_741 ?_
  refine lv_topi (fun y9 ey9 => ?_)
  obtain rfl : y9 = 1 := ey9.trans (by decide +kernel)
  refine va_sld hx hb hXs hbl hbA hS (z_in 1 (by decide) (by decide)) dL_law_742 ?_
  refine lv_topi (fun y10 ey10 => ?_)
  obtain rfl : y10 = (xs 1) := ey10.trans rfl
  refine lv_aload_n hx hb dL_law_743 rfl (lv_at hl 1 rfl) ?_
  refine lv_iload hx hb dL_law_744 (lv_at hl 6 rfl) ?_
  refine lv_iconst (v := 2) hx hb dL_law_746 (by decide) ?_
  refine lv_iadd hx hb dL_law_747 ?_
  refine lv_topi (fun y11 ey11 => ?_)
  obtain rfl : y11 = 2 := ey11.trans (by decide +kernel)
  refine va_sld hx hb hXs hbl hbA hS (z_in 2 (by decide) (by decide)) dL_law_748 ?_
  refine lv_topi (fun y12 ey12 => ?_)
  obtain rfl : y12 = (xs 2) := ey12.trans rfl
  refine lv_aload_n hx hb dL_law_749 rfl (lv_at hl 1 rfl) ?_
  refine lv_iload hx hb dL_law_750 (lv_at hl 6 rfl) ?_
  refine lv_iconst (v := 3) hx hb dL_law_752 (by decide) ?_
  refine lv_iadd hx hb dL_law_753 ?_
  refine lv_topi (fun y13 ey13 => ?_)
  obtain rfl : y13 = 3 := ey13.trans (by decide +kernel)
  refine va_sld hx hb hXs hbl hbA hS (z_in 3 (by decide) (by decide)) dL_law_754 ?_
  refine lv_topi (fun y14 ey14 => ?_)
  obtain rfl : y14 = (xs 3) := ey14.trans rfl
  refine zq_l (wc := [(g0, .inr (17, [.ref m0, .ref m1, .ref m2, .ref m3, .ref m4, .ref m5, .ref m6, .ref m7, .ref m8, .ref m9, .ref m10, .ref m11, .ref m12, .ref m13, .ref m14, .ref m15, .ref m16, .ref m17, .ref m18, .ref m19, .ref m20, .int 0, .int 0, .int 0, .int 0, .long 0, .int 0]))]) (wr := []) (va_runV (As := [.int (xs 1), .int (xs 2), .int (xs 3)]) (rest := []) ⟨hx, hb, hml, hown, hts⟩ (g_top l D cy g0 m0 m1 m2 m3 m4 m5 m6 m7 m8 m9 m10 m11 m12 m13 m14 m15 m16 m17 m18 m19 m20 (xs 1) (xs 2) (xs 3) H.size ) (cwV 3 hts (gzV (gz q613) q612 q614 q615 q285) rfl rfl rfl vX14_top ⟨Nat.le_of_ble_eq_true rfl, Nat.le_of_ble_eq_true rfl⟩) (zpV (ci := 17) (T := TX14) (N := 27) (q0 := 0) hK hX hY hP hD hS hA [0] (by decide) rfl rfl rfl) rfl rfl hl.1 rfl (lv_room (Nat.le_of_ble_eq_true rfl)) dL_law_755 ⟨Nat.le_of_ble_eq_true rfl, Nat.le_of_ble_eq_true rfl⟩) hP hD hS hA [0] [] rfl rfl (by decide) (by decide) (fun x16 u15 H locs hw hP hD hS => ?_)
  obtain rfl : x16 = 0 := hw
  have hP : va_P D vwCl [(g0, .inr (17, [.ref m0, .ref m1, .ref m2, .ref m3, .ref m4, .ref m5, .ref m6, .ref m7, .ref m8, .ref m9, .ref m10, .ref m11, .ref m12, .ref m13, .ref m14, .ref m15, .ref m16, .ref m17, .ref m18, .ref m19, .ref m20, .int 1, .int 0, .int 0, .int 0, .long 0, .int 0]))] H := hP
  have hD : va_D A [(g0, .inr (17, [.ref m0, .ref m1, .ref m2, .ref m3, .ref m4, .ref m5, .ref m6, .ref m7, .ref m8, .ref m9, .ref m10, .ref m11, .ref m12, .ref m13, .ref m14, .ref m15, .ref m16, .ref m17, .ref m18, .ref m19, .ref m20, .int 1, .int 0, .int 0, .int 0, .long 0, .int 0]))] := hD
  refine lv_lstore (lv' := [(7, .long 0), (6, .int 1), (0, .ref b), (1, .ref x0), (2, .ref g0), (3, .ref o1), (4, .ref o2), (5, .int 0)]) hx hb dL_law_758 hl (by decide) rfl (fun ls hl => ?_)
  refine lv_aload_n hx hb dL_law_760 rfl (lv_at hl 4 rfl) ?_
  refine zq_i (wc := [(g0, .inr (17, [.ref m0, .ref m1, .ref m2, .ref m3, .ref m4, .ref m5, .ref m6, .ref m7, .ref m8, .ref m9, .ref m10, .ref m11, .ref m12, .ref m13, .ref m14, .ref m15, .ref m16, .ref m17, .ref m18, .ref m19, .ref m20, .int 1, .int 0, .int 0, .int 0, .long 0, .int 0]))]) (wr := []) (va_runV (As := []) (rest := []) ⟨hx, hb, hml, hown, hts⟩ (k_thrown l D cy g0 m0 m1 m2 m3 m4 m5 m6 m7 m8 m9 m10 m11 m12 m13 m14 m15 m16 m17 m18 m19 m20 1 0 0 0 0 0 H.size ) (cwV 0 hts (gzV (gz q571) q570 q572 q573 q285) rfl rfl rfl vX14_thrown ⟨Nat.le_of_ble_eq_true rfl, Nat.le_of_ble_eq_true rfl⟩) (zpV (ci := 17) (T := TX14) (N := 27) (q0 := 0) hK hX hY hP hD hS hA [0] (by decide) rfl rfl rfl) rfl rfl hl.1 rfl (lv_room (Nat.le_of_ble_eq_true rfl)) dL_law_761 ⟨Nat.le_of_ble_eq_true rfl, Nat.le_of_ble_eq_true rfl⟩) hP hD hS hA [0] [] rfl rfl (by decide) (by decide) (fun x18 u17 H locs hw hP hD hS => ?_)
  obtain rfl : x18 = 1 := hw
  have hP : va_P D vwCl [(g0, .inr (17, [.ref m0, .ref m1, .ref m2, .ref m3, .ref m4, .ref m5, .ref m6, .ref m7, .ref m8, .ref m9, .ref m10, .ref m11, .ref m12, .ref m13, .ref m14, .ref m15, .ref m16, .ref m17, .ref m18, .ref m19, .ref m20, .int 1, .int 0, .int 0, .int 0, .long 0, .int 0]))] H := hP
  have hD : va_D A [(g0, .inr (17, [.ref m0, .ref m1, .ref m2, .ref m3, .ref m4, .ref m5, .ref m6, .ref m7, .ref m8, .ref m9, .ref m10, .ref m11, .ref m12, .ref m13, .ref m14, .ref m15, .ref m16, .ref m17, .ref m18, .ref m19, .ref m20, .int 1, .int 0, .int 0, .int 0, .long 0, .int 0]))] := hD
  refine lv_iload hx hb dL_law_764 (lv_at hl 1 rfl) ?_
  refine lv_icmp_eq (tgt := 771) hx hb dL_law_766 (by decide) (fun _ => ?_) (fun c_766_18 => absurd (by decide +kernel) c_766_18)
  refine lv_iload hx hb dL_law_771 (lv_at hl 1 rfl) ?_
  refine lv_if_ne (tgt := 787) hx hb dL_law_773 (by decide) (fun _ => ?_) (fun c_773_19 => absurd c_773_19 (by decide +kernel))
  refine lv_goto (tgt := 2706) hx hb dL_law_787 (by decide) ?_
  exact W.widen (k := 600006) (n := 7302040) (Nat.le_of_ble_eq_true rfl) (Nat.le_of_ble_eq_true rfl) (kt _ _ _ hS (lv_sub hl [2, 7] rfl))
set_option maxHeartbeats 4000000 in
set_option maxRecDepth 100000 in
theorem c_bottom (l : Launch) {p : Program} {e : Env} {s : State} {m : MethodId} {below : List Frame} {meth : Method} {c : Code} {D : va_G} {cy : Nat → ClassId} {A : Nat → Prop} {b : Nat} {xs : Nat → Int32} {Q : State → Prop} {H : Heap} {locs : List Loc} {ls : Array Slot} (Z : zLaw l p s m c D cy A b 9 xs) (x0 : Nat) (g0 : Nat) (o1 : Nat) (o2 : Nat) (vC : Nat) (vP : Nat) (vT : Nat) (vS : Nat) (vF : Nat) (vN : Nat) (vY : Nat) (sS : Nat) (sJ : Nat) (m0 : Nat) (m1 : Nat) (m2 : Nat) (m3 : Nat) (m4 : Nat) (m5 : Nat) (m6 : Nat) (m7 : Nat) (m8 : Nat) (m9 : Nat) (m10 : Nat) (m11 : Nat) (m12 : Nat) (m13 : Nat) (m14 : Nat) (m15 : Nat) (m16 : Nat) (m17 : Nat) (m18 : Nat) (m19 : Nat) (m20 : Nat)  (hP : va_P D vwCl [(x0, .inr (12, [.ref vC, .ref vP, .ref vT, .ref vS, .ref vF, .ref vN, .ref vY, .int 0])), (vC, .inr (3, [.ref sS, .ref sJ, .int 0, .int 0])), (g0, .inr (17, [.ref m0, .ref m1, .ref m2, .ref m3, .ref m4, .ref m5, .ref m6, .ref m7, .ref m8, .ref m9, .ref m10, .ref m11, .ref m12, .ref m13, .ref m14, .ref m15, .ref m16, .ref m17, .ref m18, .ref m19, .ref m20, .int 0, .int 0, .int 0, .int 0, .long 0, .int 0]))] H) (hD : va_D A [(x0, .inr (12, [.ref vC, .ref vP, .ref vT, .ref vS, .ref vF, .ref vN, .ref vY, .int 0])), (vC, .inr (3, [.ref sS, .ref sJ, .int 0, .int 0])), (g0, .inr (17, [.ref m0, .ref m1, .ref m2, .ref m3, .ref m4, .ref m5, .ref m6, .ref m7, .ref m8, .ref m9, .ref m10, .ref m11, .ref m12, .ref m13, .ref m14, .ref m15, .ref m16, .ref m17, .ref m18, .ref m19, .ref m20, .int 0, .int 0, .int 0, .int 0, .long 0, .int 0]))]) (hS : va_S A s.heap H locs) (hl : lv_has ls 9 [(0, .ref b), (1, .ref x0), (2, .ref g0), (3, .ref o1), (4, .ref o2), (5, .int 0)]) (kt : ∀ (H : Heap) (locs : List Loc) (ls : Array Slot), va_S A s.heap H locs → lv_has ls 9 [(0, .ref b), (5, .int 0)] → W p l e room_1 s m #[Value.ref b] below meth c H locs 600006 7302040 Q (F0 m 2706 ls [])) : W p l e room_1 s m #[Value.ref b] below meth c H locs 213 25112 Q (F0 m 790 ls []) := by
  obtain ⟨hx, hb, hml, hown, hts, hK, hX, hY, hA, hXs, hbl, hbA, hlt⟩ := id Z
  refine lv_aload_n hx hb dL_law_790 rfl (lv_at hl 1 rfl) ?_
  refine lv_aload_n hx hb dL_law_791 rfl (lv_at hl 0 rfl) ?_
  refine lv_iload hx hb dL_law_792 (lv_at hl 5 rfl) ?_
  refine lv_iconst (v := 1) hx hb dL_law_794 (by decide) ?_
  refine lv_iadd hx hb dL_law_795 ?_
  refine lv_topi (fun y1 ey1 => ?_)
  obtain rfl : y1 = 1 := ey1.trans (by decide +kernel)
  refine va_sld hx hb hXs hbl hbA hS (z_in 1 (by decide) (by decide)) dL_law_796 ?_
  refine lv_topi (fun y2 ey2 => ?_)
  obtain rfl : y2 = (xs 1) := ey2.trans rfl
  refine lv_aload_n hx hb dL_law_797 rfl (lv_at hl 0 rfl) ?_
  refine lv_iload hx hb dL_law_798 (lv_at hl 5 rfl) ?_
  refine lv_iconst (v := 2) hx hb dL_law_800 (by decide) ?_
  refine lv_iadd hx hb dL_law_801 ?_
  refine lv_topi (fun y3 ey3 => ?_)
  obtain rfl : y3 = 2 := ey3.trans (by decide +kernel)
  refine va_sld hx hb hXs hbl hbA hS (z_in 2 (by decide) (by decide)) dL_law_802 ?_
  refine lv_topi (fun y4 ey4 => ?_)
  obtain rfl : y4 = (xs 2) := ey4.trans rfl
  refine lv_aload_n hx hb dL_law_803 rfl (lv_at hl 0 rfl) ?_
  refine lv_iload hx hb dL_law_804 (lv_at hl 5 rfl) ?_
  refine lv_iconst (v := 3) hx hb dL_law_806 (by decide) ?_
  refine lv_iadd hx hb dL_law_807 ?_
  refine lv_topi (fun y5 ey5 => ?_)
  obtain rfl : y5 = 3 := ey5.trans (by decide +kernel)
  refine va_sld hx hb hXs hbl hbA hS (z_in 3 (by decide) (by decide)) dL_law_808 ?_
  refine lv_topi (fun y6 ey6 => ?_)
  obtain rfl : y6 = (xs 3) := ey6.trans rfl
  refine lv_aload_n hx hb dL_law_809 rfl (lv_at hl 3 rfl) ?_
  refine zq_i (wc := [(x0, .inr (12, [.ref vC, .ref vP, .ref vT, .ref vS, .ref vF, .ref vN, .ref vY, .int 0])), (vC, .inr (3, [.ref sS, .ref sJ, .int 0, .int 0]))]) (wr := [(g0, .inr (17, [.ref m0, .ref m1, .ref m2, .ref m3, .ref m4, .ref m5, .ref m6, .ref m7, .ref m8, .ref m9, .ref m10, .ref m11, .ref m12, .ref m13, .ref m14, .ref m15, .ref m16, .ref m17, .ref m18, .ref m19, .ref m20, .int 0, .int 0, .int 0, .int 0, .long 0, .int 0]))]) (vx_runSW (As := [.ref x0, .int (xs 1), .int (xs 2), .int (xs 3), .ref o1]) (rest := []) ⟨hx, hb, hml, hown, hts⟩ (w_bottom l hlt D cy x0 vC vP vT vS vF vN vY sS sJ (xs 1) (xs 2) (xs 3) o1 H.size ) (vx_cwSW 5 hts (gzS (gzW q617) q616 q618 q565) rfl rfl rfl vL_bottom.2 ⟨Nat.le_of_ble_eq_true rfl, Nat.le_of_ble_eq_true rfl⟩) (zpS hK hX hY hP hD hS hA [0, 1] (by decide) rfl) rfl rfl hl.1 rfl (lv_room (Nat.le_of_ble_eq_true rfl)) dL_law_810 ⟨Nat.le_of_ble_eq_true rfl, Nat.le_of_ble_eq_true rfl⟩) hP hD hS hA [0, 1] [2] rfl rfl (by decide) (by decide) (fun x8 u7 H locs hw hP hD hS => ?_)
  obtain rfl : x8 = 1 := hw
  have hP : va_P D vwCl [(g0, .inr (17, [.ref m0, .ref m1, .ref m2, .ref m3, .ref m4, .ref m5, .ref m6, .ref m7, .ref m8, .ref m9, .ref m10, .ref m11, .ref m12, .ref m13, .ref m14, .ref m15, .ref m16, .ref m17, .ref m18, .ref m19, .ref m20, .int 0, .int 0, .int 0, .int 0, .long 0, .int 0]))] H := hP
  have hD : va_D A [(g0, .inr (17, [.ref m0, .ref m1, .ref m2, .ref m3, .ref m4, .ref m5, .ref m6, .ref m7, .ref m8, .ref m9, .ref m10, .ref m11, .ref m12, .ref m13, .ref m14, .ref m15, .ref m16, .ref m17, .ref m18, .ref m19, .ref m20, .int 0, .int 0, .int 0, .int 0, .long 0, .int 0]))] := hD
  refine W.widen (k := 214) (n := 25118) (by omega) (by omega) ?_
  refine lv_istore (lv' := [(6, .int 1), (0, .ref b), (1, .ref x0), (2, .ref g0), (3, .ref o1), (4, .ref o2), (5, .int 0)]) hx hb dL_law_813 hl (by decide) rfl (fun ls hl => ?_)
  refine lv_aload_n hx hb dL_law_815 rfl (lv_at hl 3 rfl) ?_
  refine lv_aload_n hx hb dL_law_816 rfl (lv_at hl 1 rfl) ?_
  refine lv_iload hx hb dL_law_817 (lv_at hl 6 rfl) ?_
  refine lv_iconst (v := 1) hx hb dL_law_819 (by decide) ?_
  refine lv_iadd hx hb dL_law_820 ?_
  refine lv_topi (fun y9 ey9 => ?_)
  obtain rfl : y9 = 1 := ey9.trans (by decide +kernel)
  refine va_sld hx hb hXs hbl hbA hS (z_in 1 (by decide) (by decide)) dL_law_821 ?_
  refine lv_topi (fun y10 ey10 => ?_)
  obtain rfl : y10 = (xs 1) := ey10.trans rfl
  refine lv_aload_n hx hb dL_law_822 rfl (lv_at hl 1 rfl) ?_
  refine lv_iload hx hb dL_law_823 (lv_at hl 6 rfl) ?_
  refine lv_iconst (v := 2) hx hb dL_law_825 (by decide) ?_
  refine lv_iadd hx hb dL_law_826 ?_
  refine lv_topi (fun y11 ey11 => ?_)
  obtain rfl : y11 = 2 := ey11.trans (by decide +kernel)
  refine va_sld hx hb hXs hbl hbA hS (z_in 2 (by decide) (by decide)) dL_law_827 ?_
  refine lv_topi (fun y12 ey12 => ?_)
  obtain rfl : y12 = (xs 2) := ey12.trans rfl
  refine lv_aload_n hx hb dL_law_828 rfl (lv_at hl 1 rfl) ?_
  refine lv_iload hx hb dL_law_829 (lv_at hl 6 rfl) ?_
  refine lv_iconst (v := 3) hx hb dL_law_831 (by decide) ?_
  refine lv_iadd hx hb dL_law_832 ?_
  refine lv_topi (fun y13 ey13 => ?_)
  obtain rfl : y13 = 3 := ey13.trans (by decide +kernel)
  refine va_sld hx hb hXs hbl hbA hS (z_in 3 (by decide) (by decide)) dL_law_833 ?_
  refine lv_topi (fun y14 ey14 => ?_)
  obtain rfl : y14 = (xs 3) := ey14.trans rfl
  refine zq_l (wc := [(g0, .inr (17, [.ref m0, .ref m1, .ref m2, .ref m3, .ref m4, .ref m5, .ref m6, .ref m7, .ref m8, .ref m9, .ref m10, .ref m11, .ref m12, .ref m13, .ref m14, .ref m15, .ref m16, .ref m17, .ref m18, .ref m19, .ref m20, .int 0, .int 0, .int 0, .int 0, .long 0, .int 0]))]) (wr := []) (va_runV (As := [.int (xs 1), .int (xs 2), .int (xs 3)]) (rest := []) ⟨hx, hb, hml, hown, hts⟩ (g_bottom l D cy g0 m0 m1 m2 m3 m4 m5 m6 m7 m8 m9 m10 m11 m12 m13 m14 m15 m16 m17 m18 m19 m20 (xs 1) (xs 2) (xs 3) H.size ) (cwV 3 hts (gzV (gz q620) q619 q621 q622 q285) rfl rfl rfl vX14_bottom ⟨Nat.le_of_ble_eq_true rfl, Nat.le_of_ble_eq_true rfl⟩) (zpV (ci := 17) (T := TX14) (N := 27) (q0 := 0) hK hX hY hP hD hS hA [0] (by decide) rfl rfl rfl) rfl rfl hl.1 rfl (lv_room (Nat.le_of_ble_eq_true rfl)) dL_law_834 ⟨Nat.le_of_ble_eq_true rfl, Nat.le_of_ble_eq_true rfl⟩) hP hD hS hA [0] [] rfl rfl (by decide) (by decide) (fun x16 u15 H locs hw hP hD hS => ?_)
  obtain rfl : x16 = 0 := hw
  have hP : va_P D vwCl [(g0, .inr (17, [.ref m0, .ref m1, .ref m2, .ref m3, .ref m4, .ref m5, .ref m6, .ref m7, .ref m8, .ref m9, .ref m10, .ref m11, .ref m12, .ref m13, .ref m14, .ref m15, .ref m16, .ref m17, .ref m18, .ref m19, .ref m20, .int 1, .int 0, .int 0, .int 0, .long 0, .int 0]))] H := hP
  have hD : va_D A [(g0, .inr (17, [.ref m0, .ref m1, .ref m2, .ref m3, .ref m4, .ref m5, .ref m6, .ref m7, .ref m8, .ref m9, .ref m10, .ref m11, .ref m12, .ref m13, .ref m14, .ref m15, .ref m16, .ref m17, .ref m18, .ref m19, .ref m20, .int 1, .int 0, .int 0, .int 0, .long 0, .int 0]))] := hD
  refine lv_lstore (lv' := [(7, .long 0), (6, .int 1), (0, .ref b), (1, .ref x0), (2, .ref g0), (3, .ref o1), (4, .ref o2), (5, .int 0)]) hx hb dL_law_837 hl (by decide) rfl (fun ls hl => ?_)
  refine lv_aload_n hx hb dL_law_839 rfl (lv_at hl 4 rfl) ?_
  refine zq_i (wc := [(g0, .inr (17, [.ref m0, .ref m1, .ref m2, .ref m3, .ref m4, .ref m5, .ref m6, .ref m7, .ref m8, .ref m9, .ref m10, .ref m11, .ref m12, .ref m13, .ref m14, .ref m15, .ref m16, .ref m17, .ref m18, .ref m19, .ref m20, .int 1, .int 0, .int 0, .int 0, .long 0, .int 0]))]) (wr := []) (va_runV (As := []) (rest := []) ⟨hx, hb, hml, hown, hts⟩ (k_thrown l D cy g0 m0 m1 m2 m3 m4 m5 m6 m7 m8 m9 m10 m11 m12 m13 m14 m15 m16 m17 m18 m19 m20 1 0 0 0 0 0 H.size ) (cwV 0 hts (gzV (gz q571) q570 q572 q573 q285) rfl rfl rfl vX14_thrown ⟨Nat.le_of_ble_eq_true rfl, Nat.le_of_ble_eq_true rfl⟩) (zpV (ci := 17) (T := TX14) (N := 27) (q0 := 0) hK hX hY hP hD hS hA [0] (by decide) rfl rfl rfl) rfl rfl hl.1 rfl (lv_room (Nat.le_of_ble_eq_true rfl)) dL_law_840 ⟨Nat.le_of_ble_eq_true rfl, Nat.le_of_ble_eq_true rfl⟩) hP hD hS hA [0] [] rfl rfl (by decide) (by decide) (fun x18 u17 H locs hw hP hD hS => ?_)
  obtain rfl : x18 = 1 := hw
  have hP : va_P D vwCl [(g0, .inr (17, [.ref m0, .ref m1, .ref m2, .ref m3, .ref m4, .ref m5, .ref m6, .ref m7, .ref m8, .ref m9, .ref m10, .ref m11, .ref m12, .ref m13, .ref m14, .ref m15, .ref m16, .ref m17, .ref m18, .ref m19, .ref m20, .int 1, .int 0, .int 0, .int 0, .long 0, .int 0]))] H := hP
  have hD : va_D A [(g0, .inr (17, [.ref m0, .ref m1, .ref m2, .ref m3, .ref m4, .ref m5, .ref m6, .ref m7, .ref m8, .ref m9, .ref m10, .ref m11, .ref m12, .ref m13, .ref m14, .ref m15, .ref m16, .ref m17, .ref m18, .ref m19, .ref m20, .int 1, .int 0, .int 0, .int 0, .long 0, .int 0]))] := hD
  refine lv_iload hx hb dL_law_843 (lv_at hl 1 rfl) ?_
  refine lv_icmp_eq (tgt := 850) hx hb dL_law_845 (by decide) (fun _ => ?_) (fun c_845_18 => absurd (by decide +kernel) c_845_18)
  refine lv_iload hx hb dL_law_850 (lv_at hl 1 rfl) ?_
  refine lv_if_ne (tgt := 866) hx hb dL_law_852 (by decide) (fun _ => ?_) (fun c_852_19 => absurd c_852_19 (by decide +kernel))
  refine lv_goto (tgt := 2706) hx hb dL_law_866 (by decide) ?_
  exact W.widen (k := 600006) (n := 7302040) (Nat.le_of_ble_eq_true rfl) (Nat.le_of_ble_eq_true rfl) (kt _ _ _ hS (lv_sub hl [2, 7] rfl))
set_option maxHeartbeats 4000000 in
set_option maxRecDepth 100000 in
theorem c_loops_in (l : Launch) {p : Program} {e : Env} {s : State} {m : MethodId} {below : List Frame} {meth : Method} {c : Code} {D : va_G} {cy : Nat → ClassId} {A : Nat → Prop} {b : Nat} {xs : Nat → Int32} {Q : State → Prop} {H : Heap} {locs : List Loc} {ls : Array Slot} (Z : zLaw l p s m c D cy A b 9 xs) (x0 : Nat) (g0 : Nat) (o1 : Nat) (o2 : Nat) (vC : Nat) (vP : Nat) (vT : Nat) (vS : Nat) (vF : Nat) (vN : Nat) (vY : Nat) (sS : Nat) (sJ : Nat) (j1 : Nat) (j2 : Nat) (j3 : Nat) (jL : Nat) (p1 : Nat) (p2 : Nat) (p3 : Nat) (p4 : Nat) (p5 : Nat) (p6 : Nat) (p7 : Nat) (p8 : Nat) (m0 : Nat) (m1 : Nat) (m2 : Nat) (m3 : Nat) (m4 : Nat) (m5 : Nat) (m6 : Nat) (m7 : Nat) (m8 : Nat) (m9 : Nat) (m10 : Nat) (m11 : Nat) (m12 : Nat) (m13 : Nat) (m14 : Nat) (m15 : Nat) (m16 : Nat) (m17 : Nat) (m18 : Nat) (m19 : Nat) (m20 : Nat) (b1 : Nat) (hd : zDay (xs 1)) (hP : va_P D vwCl [(x0, .inr (12, [.ref vC, .ref vP, .ref vT, .ref vS, .ref vF, .ref vN, .ref vY, .int 0])), (vC, .inr (3, [.ref sS, .ref sJ, .int 0, .int 0])), (sJ, .inr (5, [.ref j1, .ref j2, .ref j3, .ref jL, .int 0])), (jL, .inl (cy 0, 9, .inl (fun _ => 0))), (vP, .inr (7, [.ref vC, .ref p1, .ref p2, .ref p3, .ref p4, .ref p5, .ref p6, .ref p7, .int 0, .long 0, .ref p8, .int 0, .int 0, .long 1])), (p1, .inl (cy 0, 9, .inl (fun _ => 0))), (p2, .inl (cy 2, 9, .inl (fun _ => 0))), (p8, .inl (cy 2, 24, .inl (fun _ => 0))), (o1, .inl (cy 1, 1, .inr (.inl (fun _ => 0)))), (g0, .inr (17, [.ref m0, .ref m1, .ref m2, .ref m3, .ref m4, .ref m5, .ref m6, .ref m7, .ref m8, .ref m9, .ref m10, .ref m11, .ref m12, .ref m13, .ref m14, .ref m15, .ref m16, .ref m17, .ref m18, .ref m19, .ref m20, .int 0, .int 0, .int 0, .int 0, .long 0, .int 0])), (m0, .inr (2, [.int 0, .ref b1, .int 0])), (m9, .inl (cy 0, 9, .inl (fun _ => 0))), (m12, .inl (cy 2, 9, .inl (fun _ => 0))), (m10, .inl (cy 0, 9, .inl (fun _ => 0)))] H) (hD : va_D A [(x0, .inr (12, [.ref vC, .ref vP, .ref vT, .ref vS, .ref vF, .ref vN, .ref vY, .int 0])), (vC, .inr (3, [.ref sS, .ref sJ, .int 0, .int 0])), (sJ, .inr (5, [.ref j1, .ref j2, .ref j3, .ref jL, .int 0])), (jL, .inl (cy 0, 9, .inl (fun _ => 0))), (vP, .inr (7, [.ref vC, .ref p1, .ref p2, .ref p3, .ref p4, .ref p5, .ref p6, .ref p7, .int 0, .long 0, .ref p8, .int 0, .int 0, .long 1])), (p1, .inl (cy 0, 9, .inl (fun _ => 0))), (p2, .inl (cy 2, 9, .inl (fun _ => 0))), (p8, .inl (cy 2, 24, .inl (fun _ => 0))), (o1, .inl (cy 1, 1, .inr (.inl (fun _ => 0)))), (g0, .inr (17, [.ref m0, .ref m1, .ref m2, .ref m3, .ref m4, .ref m5, .ref m6, .ref m7, .ref m8, .ref m9, .ref m10, .ref m11, .ref m12, .ref m13, .ref m14, .ref m15, .ref m16, .ref m17, .ref m18, .ref m19, .ref m20, .int 0, .int 0, .int 0, .int 0, .long 0, .int 0])), (m0, .inr (2, [.int 0, .ref b1, .int 0])), (m9, .inl (cy 0, 9, .inl (fun _ => 0))), (m12, .inl (cy 2, 9, .inl (fun _ => 0))), (m10, .inl (cy 0, 9, .inl (fun _ => 0)))]) (hS : va_S A s.heap H locs) (hl : lv_has ls 9 [(0, .ref b), (1, .ref x0), (2, .ref g0), (3, .ref o1), (4, .ref o2), (5, .int 0)]) (kt : ∀ (H : Heap) (locs : List Loc) (ls : Array Slot), va_S A s.heap H locs → lv_has ls 9 [(0, .ref b), (5, .int 0)] → W p l e room_1 s m #[Value.ref b] below meth c H locs 600006 7302040 Q (F0 m 2706 ls [])) : W p l e room_1 s m #[Value.ref b] below meth c H locs 213 25112 Q (F0 m 869 ls []) := by
  obtain ⟨hx, hb, hml, hown, hts, hK, hX, hY, hA, hXs, hbl, hbA, hlt⟩ := id Z
  refine lv_aload_n hx hb dL_law_869 rfl (lv_at hl 1 rfl) ?_
  refine lv_aload_n hx hb dL_law_870 rfl (lv_at hl 0 rfl) ?_
  refine lv_iload hx hb dL_law_871 (lv_at hl 5 rfl) ?_
  refine lv_iconst (v := 1) hx hb dL_law_873 (by decide) ?_
  refine lv_iadd hx hb dL_law_874 ?_
  refine lv_topi (fun y1 ey1 => ?_)
  obtain rfl : y1 = 1 := ey1.trans (by decide +kernel)
  refine va_sld hx hb hXs hbl hbA hS (z_in 1 (by decide) (by decide)) dL_law_875 ?_
  refine lv_topi (fun y2 ey2 => ?_)
  obtain rfl : y2 = (xs 1) := ey2.trans rfl
  refine lv_aload_n hx hb dL_law_876 rfl (lv_at hl 3 rfl) ?_
  refine zq_i (wc := [(x0, .inr (12, [.ref vC, .ref vP, .ref vT, .ref vS, .ref vF, .ref vN, .ref vY, .int 0])), (vC, .inr (3, [.ref sS, .ref sJ, .int 0, .int 0])), (sJ, .inr (5, [.ref j1, .ref j2, .ref j3, .ref jL, .int 0])), (jL, .inl (cy 0, 9, .inl (fun _ => 0))), (vP, .inr (7, [.ref vC, .ref p1, .ref p2, .ref p3, .ref p4, .ref p5, .ref p6, .ref p7, .int 0, .long 0, .ref p8, .int 0, .int 0, .long 1])), (p1, .inl (cy 0, 9, .inl (fun _ => 0))), (p2, .inl (cy 2, 9, .inl (fun _ => 0))), (p8, .inl (cy 2, 24, .inl (fun _ => 0))), (o1, .inl (cy 1, 1, .inr (.inl (fun _ => 0))))]) (wr := [(g0, .inr (17, [.ref m0, .ref m1, .ref m2, .ref m3, .ref m4, .ref m5, .ref m6, .ref m7, .ref m8, .ref m9, .ref m10, .ref m11, .ref m12, .ref m13, .ref m14, .ref m15, .ref m16, .ref m17, .ref m18, .ref m19, .ref m20, .int 0, .int 0, .int 0, .int 0, .long 0, .int 0])), (m0, .inr (2, [.int 0, .ref b1, .int 0])), (m9, .inl (cy 0, 9, .inl (fun _ => 0))), (m12, .inl (cy 2, 9, .inl (fun _ => 0))), (m10, .inl (cy 0, 9, .inl (fun _ => 0)))]) (vx_runSW (As := [.ref x0, .int (xs 1), .ref o1]) (rest := []) ⟨hx, hb, hml, hown, hts⟩ (w_loops_in l hlt D cy x0 vC vP vT vS vF vN vY sS sJ j1 j2 j3 jL p1 p2 p3 p4 p5 p6 p7 p8 (xs 1) o1 H.size hd) (vx_cwSW 3 hts (gzS (gzW q624) q623 q625 q565) rfl rfl rfl vL_loops.2 ⟨Nat.le_of_ble_eq_true rfl, Nat.le_of_ble_eq_true rfl⟩) (zpS hK hX hY hP hD hS hA [0, 1, 2, 3, 4, 5, 6, 7, 8] (by decide) rfl) rfl rfl hl.1 rfl (lv_room (Nat.le_of_ble_eq_true rfl)) dL_law_877 ⟨Nat.le_of_ble_eq_true rfl, Nat.le_of_ble_eq_true rfl⟩) hP hD hS hA [0, 1, 2, 3, 4, 5, 6, 7, 8] [9, 10, 11, 12, 13] rfl rfl (by decide) (by decide) (fun x4 u3 H locs hw hP hD hS => ?_)
  obtain rfl : x4 = 0 := hw
  have hP : va_P D vwCl [(g0, .inr (17, [.ref m0, .ref m1, .ref m2, .ref m3, .ref m4, .ref m5, .ref m6, .ref m7, .ref m8, .ref m9, .ref m10, .ref m11, .ref m12, .ref m13, .ref m14, .ref m15, .ref m16, .ref m17, .ref m18, .ref m19, .ref m20, .int 0, .int 0, .int 0, .int 0, .long 0, .int 0])), (m0, .inr (2, [.int 0, .ref b1, .int 0])), (m9, .inl (cy 0, 9, .inl (fun _ => 0))), (m12, .inl (cy 2, 9, .inl (fun _ => 0))), (m10, .inl (cy 0, 9, .inl (fun _ => 0))), (o1, .inl (cy 1, 1, .inr (.inl (fun _ => 0))))] H := hP
  have hD : va_D A [(g0, .inr (17, [.ref m0, .ref m1, .ref m2, .ref m3, .ref m4, .ref m5, .ref m6, .ref m7, .ref m8, .ref m9, .ref m10, .ref m11, .ref m12, .ref m13, .ref m14, .ref m15, .ref m16, .ref m17, .ref m18, .ref m19, .ref m20, .int 0, .int 0, .int 0, .int 0, .long 0, .int 0])), (m0, .inr (2, [.int 0, .ref b1, .int 0])), (m9, .inl (cy 0, 9, .inl (fun _ => 0))), (m12, .inl (cy 2, 9, .inl (fun _ => 0))), (m10, .inl (cy 0, 9, .inl (fun _ => 0))), (o1, .inl (cy 1, 1, .inr (.inl (fun _ => 0))))] := hD
  refine lv_istore (lv' := [(6, .int 0), (0, .ref b), (1, .ref x0), (2, .ref g0), (3, .ref o1), (4, .ref o2), (5, .int 0)]) hx hb dL_law_880 hl (by decide) rfl (fun ls hl => ?_)
  refine lv_aload_n hx hb dL_law_882 rfl (lv_at hl 3 rfl) ?_
  refine lv_aload_n hx hb dL_law_883 rfl (lv_at hl 1 rfl) ?_
  refine lv_iload hx hb dL_law_884 (lv_at hl 6 rfl) ?_
  refine lv_iconst (v := 1) hx hb dL_law_886 (by decide) ?_
  refine lv_iadd hx hb dL_law_887 ?_
  refine lv_topi (fun y5 ey5 => ?_)
  obtain rfl : y5 = 1 := ey5.trans (by decide +kernel)
  refine va_sld hx hb hXs hbl hbA hS (z_in 1 (by decide) (by decide)) dL_law_888 ?_
  refine lv_topi (fun y6 ey6 => ?_)
  obtain rfl : y6 = (xs 1) := ey6.trans rfl
  refine zq_i (wc := [(g0, .inr (17, [.ref m0, .ref m1, .ref m2, .ref m3, .ref m4, .ref m5, .ref m6, .ref m7, .ref m8, .ref m9, .ref m10, .ref m11, .ref m12, .ref m13, .ref m14, .ref m15, .ref m16, .ref m17, .ref m18, .ref m19, .ref m20, .int 0, .int 0, .int 0, .int 0, .long 0, .int 0])), (m0, .inr (2, [.int 0, .ref b1, .int 0])), (m9, .inl (cy 0, 9, .inl (fun _ => 0))), (m12, .inl (cy 2, 9, .inl (fun _ => 0))), (m10, .inl (cy 0, 9, .inl (fun _ => 0)))]) (wr := [(o1, .inl (cy 1, 1, .inr (.inl (fun _ => 0))))]) (va_runV (As := [.int (xs 1)]) (rest := []) ⟨hx, hb, hml, hown, hts⟩ (g_loops_in l D cy g0 m0 m1 m2 m3 m4 m5 m6 m7 m8 m9 m10 m11 m12 m13 m14 m15 m16 m17 m18 m19 m20 b1 (xs 1) H.size hd) (cwV 1 hts (gzV (gz q627) q626 q628 q629 q285) rfl rfl rfl vX14_loops ⟨Nat.le_of_ble_eq_true rfl, Nat.le_of_ble_eq_true rfl⟩) (zpV (ci := 17) (T := TX14) (N := 27) (q0 := 0) hK hX hY hP hD hS hA [0, 1, 2, 3, 4] (by decide) rfl rfl rfl) rfl rfl hl.1 rfl (lv_room (Nat.le_of_ble_eq_true rfl)) dL_law_889 ⟨Nat.le_of_ble_eq_true rfl, Nat.le_of_ble_eq_true rfl⟩) hP hD hS hA [0, 1, 2, 3, 4] [5] rfl rfl (by decide) (by decide) (fun x8 u7 H locs hw hP hD hS => ?_)
  obtain rfl : x8 = 0 := hw
  have hP : va_P D vwCl [(o1, .inl (cy 1, 1, .inr (.inl (fun _ => 0)))), (g0, .inr (17, [.ref m0, .ref m1, .ref m2, .ref m3, .ref m4, .ref m5, .ref m6, .ref m7, .ref m8, .ref m9, .ref m10, .ref m11, .ref m12, .ref m13, .ref m14, .ref m15, .ref m16, .ref m17, .ref m18, .ref m19, .ref m20, .int 0, .int 0, .int 0, .int 0, .long 0, .int 0]))] H := hP
  have hD : va_D A [(o1, .inl (cy 1, 1, .inr (.inl (fun _ => 0)))), (g0, .inr (17, [.ref m0, .ref m1, .ref m2, .ref m3, .ref m4, .ref m5, .ref m6, .ref m7, .ref m8, .ref m9, .ref m10, .ref m11, .ref m12, .ref m13, .ref m14, .ref m15, .ref m16, .ref m17, .ref m18, .ref m19, .ref m20, .int 0, .int 0, .int 0, .int 0, .long 0, .int 0]))] := hD
  refine lv_istore (lv' := [(7, .int 0), (6, .int 0), (0, .ref b), (1, .ref x0), (2, .ref g0), (3, .ref o1), (4, .ref o2), (5, .int 0)]) hx hb dL_law_892 hl (by decide) rfl (fun ls hl => ?_)
  refine lv_aload_n hx hb dL_law_894 rfl (lv_at hl 4 rfl) ?_
  refine zq_i (wc := [(g0, .inr (17, [.ref m0, .ref m1, .ref m2, .ref m3, .ref m4, .ref m5, .ref m6, .ref m7, .ref m8, .ref m9, .ref m10, .ref m11, .ref m12, .ref m13, .ref m14, .ref m15, .ref m16, .ref m17, .ref m18, .ref m19, .ref m20, .int 0, .int 0, .int 0, .int 0, .long 0, .int 0]))]) (wr := [(o1, .inl (cy 1, 1, .inr (.inl (fun _ => 0))))]) (va_runV (As := []) (rest := []) ⟨hx, hb, hml, hown, hts⟩ (k_thrown l D cy g0 m0 m1 m2 m3 m4 m5 m6 m7 m8 m9 m10 m11 m12 m13 m14 m15 m16 m17 m18 m19 m20 0 0 0 0 0 0 H.size ) (cwV 0 hts (gzV (gz q571) q570 q572 q573 q285) rfl rfl rfl vX14_thrown ⟨Nat.le_of_ble_eq_true rfl, Nat.le_of_ble_eq_true rfl⟩) (zpV (ci := 17) (T := TX14) (N := 27) (q0 := 0) hK hX hY hP hD hS hA [1] (by decide) rfl rfl rfl) rfl rfl hl.1 rfl (lv_room (Nat.le_of_ble_eq_true rfl)) dL_law_895 ⟨Nat.le_of_ble_eq_true rfl, Nat.le_of_ble_eq_true rfl⟩) hP hD hS hA [1] [0] rfl rfl (by decide) (by decide) (fun x10 u9 H locs hw hP hD hS => ?_)
  obtain rfl : x10 = 0 := hw
  have hP : va_P D vwCl [(o1, .inl (cy 1, 1, .inr (.inl (fun _ => 0)))), (g0, .inr (17, [.ref m0, .ref m1, .ref m2, .ref m3, .ref m4, .ref m5, .ref m6, .ref m7, .ref m8, .ref m9, .ref m10, .ref m11, .ref m12, .ref m13, .ref m14, .ref m15, .ref m16, .ref m17, .ref m18, .ref m19, .ref m20, .int 0, .int 0, .int 0, .int 0, .long 0, .int 0]))] H := hP
  have hD : va_D A [(o1, .inl (cy 1, 1, .inr (.inl (fun _ => 0)))), (g0, .inr (17, [.ref m0, .ref m1, .ref m2, .ref m3, .ref m4, .ref m5, .ref m6, .ref m7, .ref m8, .ref m9, .ref m10, .ref m11, .ref m12, .ref m13, .ref m14, .ref m15, .ref m16, .ref m17, .ref m18, .ref m19, .ref m20, .int 0, .int 0, .int 0, .int 0, .long 0, .int 0]))] := hD
  refine lv_iload hx hb dL_law_898 (lv_at hl 1 rfl) ?_
  refine lv_icmp_eq (tgt := 905) hx hb dL_law_900 (by decide) (fun _ => ?_) (fun c_900_10 => absurd (by decide +kernel) c_900_10)
  refine lv_iload hx hb dL_law_905 (lv_at hl 1 rfl) ?_
  refine lv_if_ne (tgt := 922) hx hb dL_law_907 (by decide) (fun c_907_11 => absurd (by decide +kernel) c_907_11) (fun _ => ?_)
  refine lv_aload_n hx hb dL_law_910 rfl (lv_at hl 5 rfl) ?_
  refine lv_iconst (v := 0) hx hb dL_law_911 (by decide) ?_
  refine va_lald hx hb hK hP 0 1 rfl rfl (z_in 0 (by decide) (by decide)) dL_law_912 ?_
  refine lv_topl (fun y13 ey13 => ?_)
  obtain rfl : y13 = 0 := ey13.trans rfl
  refine lv_iload hx hb dL_law_913 (lv_at hl 0 rfl) ?_
  refine lv_i2l (v := 0) hx hb dL_law_915 (by decide) ?_
  refine W.lcmp hx hb dL_law_916 ?_
  refine lv_topi (fun y14 ey14 => ?_)
  obtain rfl : y14 = 0 := ey14.trans (by decide +kernel)
  refine lv_if_eq (tgt := 922) hx hb dL_law_917 (by decide) (fun _ => ?_) (fun c_917_14 => absurd (by decide +kernel) c_917_14)
  refine lv_goto (tgt := 2706) hx hb dL_law_922 (by decide) ?_
  exact W.widen (k := 600006) (n := 7302040) (Nat.le_of_ble_eq_true rfl) (Nat.le_of_ble_eq_true rfl) (kt _ _ _ hS (lv_sub hl [2, 7] rfl))
set_option maxHeartbeats 4000000 in
set_option maxRecDepth 100000 in
theorem c_loops_no (l : Launch) {p : Program} {e : Env} {s : State} {m : MethodId} {below : List Frame} {meth : Method} {c : Code} {D : va_G} {cy : Nat → ClassId} {A : Nat → Prop} {b : Nat} {xs : Nat → Int32} {Q : State → Prop} {H : Heap} {locs : List Loc} {ls : Array Slot} (Z : zLaw l p s m c D cy A b 9 xs) (x0 : Nat) (g0 : Nat) (o1 : Nat) (o2 : Nat) (vC : Nat) (vP : Nat) (vT : Nat) (vS : Nat) (vF : Nat) (vN : Nat) (vY : Nat) (m0 : Nat) (m1 : Nat) (m2 : Nat) (m3 : Nat) (m4 : Nat) (m5 : Nat) (m6 : Nat) (m7 : Nat) (m8 : Nat) (m9 : Nat) (m10 : Nat) (m11 : Nat) (m12 : Nat) (m13 : Nat) (m14 : Nat) (m15 : Nat) (m16 : Nat) (m17 : Nat) (m18 : Nat) (m19 : Nat) (m20 : Nat) (hd : zNoDay (xs 1)) (hP : va_P D vwCl [(x0, .inr (12, [.ref vC, .ref vP, .ref vT, .ref vS, .ref vF, .ref vN, .ref vY, .int 0])), (g0, .inr (17, [.ref m0, .ref m1, .ref m2, .ref m3, .ref m4, .ref m5, .ref m6, .ref m7, .ref m8, .ref m9, .ref m10, .ref m11, .ref m12, .ref m13, .ref m14, .ref m15, .ref m16, .ref m17, .ref m18, .ref m19, .ref m20, .int 0, .int 0, .int 0, .int 0, .long 0, .int 0]))] H) (hD : va_D A [(x0, .inr (12, [.ref vC, .ref vP, .ref vT, .ref vS, .ref vF, .ref vN, .ref vY, .int 0])), (g0, .inr (17, [.ref m0, .ref m1, .ref m2, .ref m3, .ref m4, .ref m5, .ref m6, .ref m7, .ref m8, .ref m9, .ref m10, .ref m11, .ref m12, .ref m13, .ref m14, .ref m15, .ref m16, .ref m17, .ref m18, .ref m19, .ref m20, .int 0, .int 0, .int 0, .int 0, .long 0, .int 0]))]) (hS : va_S A s.heap H locs) (hl : lv_has ls 9 [(0, .ref b), (1, .ref x0), (2, .ref g0), (3, .ref o1), (4, .ref o2), (5, .int 0)]) (kt : ∀ (H : Heap) (locs : List Loc) (ls : Array Slot), va_S A s.heap H locs → lv_has ls 9 [(0, .ref b), (5, .int 0)] → W p l e room_1 s m #[Value.ref b] below meth c H locs 600006 7302040 Q (F0 m 2706 ls [])) : W p l e room_1 s m #[Value.ref b] below meth c H locs 213 25112 Q (F0 m 869 ls []) := by
  obtain ⟨hx, hb, hml, hown, hts, hK, hX, hY, hA, hXs, hbl, hbA, hlt⟩ := id Z
  refine lv_aload_n hx hb dL_law_869 rfl (lv_at hl 1 rfl) ?_
  refine lv_aload_n hx hb dL_law_870 rfl (lv_at hl 0 rfl) ?_
  refine lv_iload hx hb dL_law_871 (lv_at hl 5 rfl) ?_
  refine lv_iconst (v := 1) hx hb dL_law_873 (by decide) ?_
  refine lv_iadd hx hb dL_law_874 ?_
  refine lv_topi (fun y1 ey1 => ?_)
  obtain rfl : y1 = 1 := ey1.trans (by decide +kernel)
  refine va_sld hx hb hXs hbl hbA hS (z_in 1 (by decide) (by decide)) dL_law_875 ?_
  refine lv_topi (fun y2 ey2 => ?_)
  obtain rfl : y2 = (xs 1) := ey2.trans rfl
  refine lv_aload_n hx hb dL_law_876 rfl (lv_at hl 3 rfl) ?_
  refine zq_i (wc := [(x0, .inr (12, [.ref vC, .ref vP, .ref vT, .ref vS, .ref vF, .ref vN, .ref vY, .int 0]))]) (wr := [(g0, .inr (17, [.ref m0, .ref m1, .ref m2, .ref m3, .ref m4, .ref m5, .ref m6, .ref m7, .ref m8, .ref m9, .ref m10, .ref m11, .ref m12, .ref m13, .ref m14, .ref m15, .ref m16, .ref m17, .ref m18, .ref m19, .ref m20, .int 0, .int 0, .int 0, .int 0, .long 0, .int 0]))]) (vx_runSW (As := [.ref x0, .int (xs 1), .ref o1]) (rest := []) ⟨hx, hb, hml, hown, hts⟩ (w_loops_no l hlt D cy x0 vC vP vT vS vF vN vY (xs 1) o1 H.size hd) (vx_cwSW 3 hts (gzS (gzW q624) q623 q625 q565) rfl rfl rfl vL_loops.2 ⟨Nat.le_of_ble_eq_true rfl, Nat.le_of_ble_eq_true rfl⟩) (zpS hK hX hY hP hD hS hA [0] (by decide) rfl) rfl rfl hl.1 rfl (lv_room (Nat.le_of_ble_eq_true rfl)) dL_law_877 ⟨Nat.le_of_ble_eq_true rfl, Nat.le_of_ble_eq_true rfl⟩) hP hD hS hA [0] [1] rfl rfl (by decide) (by decide) (fun x4 u3 H locs hw hP hD hS => ?_)
  obtain rfl : x4 = 1 := hw
  have hP : va_P D vwCl [(g0, .inr (17, [.ref m0, .ref m1, .ref m2, .ref m3, .ref m4, .ref m5, .ref m6, .ref m7, .ref m8, .ref m9, .ref m10, .ref m11, .ref m12, .ref m13, .ref m14, .ref m15, .ref m16, .ref m17, .ref m18, .ref m19, .ref m20, .int 0, .int 0, .int 0, .int 0, .long 0, .int 0]))] H := hP
  have hD : va_D A [(g0, .inr (17, [.ref m0, .ref m1, .ref m2, .ref m3, .ref m4, .ref m5, .ref m6, .ref m7, .ref m8, .ref m9, .ref m10, .ref m11, .ref m12, .ref m13, .ref m14, .ref m15, .ref m16, .ref m17, .ref m18, .ref m19, .ref m20, .int 0, .int 0, .int 0, .int 0, .long 0, .int 0]))] := hD
  refine W.widen (k := 214) (n := 25118) (by omega) (by omega) ?_
  refine lv_istore (lv' := [(6, .int 1), (0, .ref b), (1, .ref x0), (2, .ref g0), (3, .ref o1), (4, .ref o2), (5, .int 0)]) hx hb dL_law_880 hl (by decide) rfl (fun ls hl => ?_)
  refine lv_aload_n hx hb dL_law_882 rfl (lv_at hl 3 rfl) ?_
  refine lv_aload_n hx hb dL_law_883 rfl (lv_at hl 1 rfl) ?_
  refine lv_iload hx hb dL_law_884 (lv_at hl 6 rfl) ?_
  refine lv_iconst (v := 1) hx hb dL_law_886 (by decide) ?_
  refine lv_iadd hx hb dL_law_887 ?_
  refine lv_topi (fun y5 ey5 => ?_)
  obtain rfl : y5 = 1 := ey5.trans (by decide +kernel)
  refine va_sld hx hb hXs hbl hbA hS (z_in 1 (by decide) (by decide)) dL_law_888 ?_
  refine lv_topi (fun y6 ey6 => ?_)
  obtain rfl : y6 = (xs 1) := ey6.trans rfl
  refine zq_i (wc := [(g0, .inr (17, [.ref m0, .ref m1, .ref m2, .ref m3, .ref m4, .ref m5, .ref m6, .ref m7, .ref m8, .ref m9, .ref m10, .ref m11, .ref m12, .ref m13, .ref m14, .ref m15, .ref m16, .ref m17, .ref m18, .ref m19, .ref m20, .int 0, .int 0, .int 0, .int 0, .long 0, .int 0]))]) (wr := []) (va_runV (As := [.int (xs 1)]) (rest := []) ⟨hx, hb, hml, hown, hts⟩ (g_loops_no l D cy g0 m0 m1 m2 m3 m4 m5 m6 m7 m8 m9 m10 m11 m12 m13 m14 m15 m16 m17 m18 m19 m20 (xs 1) H.size hd) (cwV 1 hts (gzV (gz q627) q626 q628 q629 q285) rfl rfl rfl vX14_loops ⟨Nat.le_of_ble_eq_true rfl, Nat.le_of_ble_eq_true rfl⟩) (zpV (ci := 17) (T := TX14) (N := 27) (q0 := 0) hK hX hY hP hD hS hA [0] (by decide) rfl rfl rfl) rfl rfl hl.1 rfl (lv_room (Nat.le_of_ble_eq_true rfl)) dL_law_889 ⟨Nat.le_of_ble_eq_true rfl, Nat.le_of_ble_eq_true rfl⟩) hP hD hS hA [0] [] rfl rfl (by decide) (by decide) (fun x8 u7 H locs hw hP hD hS => ?_)
  obtain rfl : x8 = 0 := hw
  have hP : va_P D vwCl [(g0, .inr (17, [.ref m0, .ref m1, .ref m2, .ref m3, .ref m4, .ref m5, .ref m6, .ref m7, .ref m8, .ref m9, .ref m10, .ref m11, .ref m12, .ref m13, .ref m14, .ref m15, .ref m16, .ref m17, .ref m18, .ref m19, .ref m20, .int 1, .int 0, .int 0, .int 0, .long 0, .int 0]))] H := hP
  have hD : va_D A [(g0, .inr (17, [.ref m0, .ref m1, .ref m2, .ref m3, .ref m4, .ref m5, .ref m6, .ref m7, .ref m8, .ref m9, .ref m10, .ref m11, .ref m12, .ref m13, .ref m14, .ref m15, .ref m16, .ref m17, .ref m18, .ref m19, .ref m20, .int 1, .int 0, .int 0, .int 0, .long 0, .int 0]))] := hD
  refine lv_istore (lv' := [(7, .int 0), (6, .int 1), (0, .ref b), (1, .ref x0), (2, .ref g0), (3, .ref o1), (4, .ref o2), (5, .int 0)]) hx hb dL_law_892 hl (by decide) rfl (fun ls hl => ?_)
  refine lv_aload_n hx hb dL_law_894 rfl (lv_at hl 4 rfl) ?_
  refine zq_i (wc := [(g0, .inr (17, [.ref m0, .ref m1, .ref m2, .ref m3, .ref m4, .ref m5, .ref m6, .ref m7, .ref m8, .ref m9, .ref m10, .ref m11, .ref m12, .ref m13, .ref m14, .ref m15, .ref m16, .ref m17, .ref m18, .ref m19, .ref m20, .int 1, .int 0, .int 0, .int 0, .long 0, .int 0]))]) (wr := []) (va_runV (As := []) (rest := []) ⟨hx, hb, hml, hown, hts⟩ (k_thrown l D cy g0 m0 m1 m2 m3 m4 m5 m6 m7 m8 m9 m10 m11 m12 m13 m14 m15 m16 m17 m18 m19 m20 1 0 0 0 0 0 H.size ) (cwV 0 hts (gzV (gz q571) q570 q572 q573 q285) rfl rfl rfl vX14_thrown ⟨Nat.le_of_ble_eq_true rfl, Nat.le_of_ble_eq_true rfl⟩) (zpV (ci := 17) (T := TX14) (N := 27) (q0 := 0) hK hX hY hP hD hS hA [0] (by decide) rfl rfl rfl) rfl rfl hl.1 rfl (lv_room (Nat.le_of_ble_eq_true rfl)) dL_law_895 ⟨Nat.le_of_ble_eq_true rfl, Nat.le_of_ble_eq_true rfl⟩) hP hD hS hA [0] [] rfl rfl (by decide) (by decide) (fun x10 u9 H locs hw hP hD hS => ?_)
  obtain rfl : x10 = 1 := hw
  have hP : va_P D vwCl [(g0, .inr (17, [.ref m0, .ref m1, .ref m2, .ref m3, .ref m4, .ref m5, .ref m6, .ref m7, .ref m8, .ref m9, .ref m10, .ref m11, .ref m12, .ref m13, .ref m14, .ref m15, .ref m16, .ref m17, .ref m18, .ref m19, .ref m20, .int 1, .int 0, .int 0, .int 0, .long 0, .int 0]))] H := hP
  have hD : va_D A [(g0, .inr (17, [.ref m0, .ref m1, .ref m2, .ref m3, .ref m4, .ref m5, .ref m6, .ref m7, .ref m8, .ref m9, .ref m10, .ref m11, .ref m12, .ref m13, .ref m14, .ref m15, .ref m16, .ref m17, .ref m18, .ref m19, .ref m20, .int 1, .int 0, .int 0, .int 0, .long 0, .int 0]))] := hD
  refine lv_iload hx hb dL_law_898 (lv_at hl 1 rfl) ?_
  refine lv_icmp_eq (tgt := 905) hx hb dL_law_900 (by decide) (fun _ => ?_) (fun c_900_10 => absurd (by decide +kernel) c_900_10)
  refine lv_iload hx hb dL_law_905 (lv_at hl 1 rfl) ?_
  refine lv_if_ne (tgt := 922) hx hb dL_law_907 (by decide) (fun _ => ?_) (fun c_907_11 => absurd c_907_11 (by decide +kernel))
  refine lv_goto (tgt := 2706) hx hb dL_law_922 (by decide) ?_
  exact W.widen (k := 600006) (n := 7302040) (Nat.le_of_ble_eq_true rfl) (Nat.le_of_ble_eq_true rfl) (kt _ _ _ hS (lv_sub hl [2, 7] rfl))
set_option maxHeartbeats 4000000 in
set_option maxRecDepth 100000 in
theorem c_fault (l : Launch) {p : Program} {e : Env} {s : State} {m : MethodId} {below : List Frame} {meth : Method} {c : Code} {D : va_G} {cy : Nat → ClassId} {A : Nat → Prop} {b : Nat} {xs : Nat → Int32} {Q : State → Prop} {H : Heap} {locs : List Loc} {ls : Array Slot} (Z : zLaw l p s m c D cy A b 9 xs) (x0 : Nat) (g0 : Nat) (o1 : Nat) (o2 : Nat) (vC : Nat) (vP : Nat) (vT : Nat) (vS : Nat) (vF : Nat) (vN : Nat) (vY : Nat) (sS : Nat) (sJ : Nat) (m0 : Nat) (m1 : Nat) (m2 : Nat) (m3 : Nat) (m4 : Nat) (m5 : Nat) (m6 : Nat) (m7 : Nat) (m8 : Nat) (m9 : Nat) (m10 : Nat) (m11 : Nat) (m12 : Nat) (m13 : Nat) (m14 : Nat) (m15 : Nat) (m16 : Nat) (m17 : Nat) (m18 : Nat) (m19 : Nat) (m20 : Nat) (b1 : Nat)  (hP : va_P D vwCl [(x0, .inr (12, [.ref vC, .ref vP, .ref vT, .ref vS, .ref vF, .ref vN, .ref vY, .int 0])), (vC, .inr (3, [.ref sS, .ref sJ, .int 0, .int 0])), (g0, .inr (17, [.ref m0, .ref m1, .ref m2, .ref m3, .ref m4, .ref m5, .ref m6, .ref m7, .ref m8, .ref m9, .ref m10, .ref m11, .ref m12, .ref m13, .ref m14, .ref m15, .ref m16, .ref m17, .ref m18, .ref m19, .ref m20, .int 0, .int 0, .int 0, .int 0, .long 0, .int 0])), (m0, .inr (2, [.int 0, .ref b1, .int 0]))] H) (hD : va_D A [(x0, .inr (12, [.ref vC, .ref vP, .ref vT, .ref vS, .ref vF, .ref vN, .ref vY, .int 0])), (vC, .inr (3, [.ref sS, .ref sJ, .int 0, .int 0])), (g0, .inr (17, [.ref m0, .ref m1, .ref m2, .ref m3, .ref m4, .ref m5, .ref m6, .ref m7, .ref m8, .ref m9, .ref m10, .ref m11, .ref m12, .ref m13, .ref m14, .ref m15, .ref m16, .ref m17, .ref m18, .ref m19, .ref m20, .int 0, .int 0, .int 0, .int 0, .long 0, .int 0])), (m0, .inr (2, [.int 0, .ref b1, .int 0]))]) (hS : va_S A s.heap H locs) (hl : lv_has ls 9 [(0, .ref b), (1, .ref x0), (2, .ref g0), (3, .ref o1), (4, .ref o2), (5, .int 0)]) (kt : ∀ (H : Heap) (locs : List Loc) (ls : Array Slot), va_S A s.heap H locs → lv_has ls 9 [(0, .ref b), (5, .int 0)] → W p l e room_1 s m #[Value.ref b] below meth c H locs 600006 7302040 Q (F0 m 2706 ls [])) : W p l e room_1 s m #[Value.ref b] below meth c H locs 213 25112 Q (F0 m 925 ls []) := by
  obtain ⟨hx, hb, hml, hown, hts, hK, hX, hY, hA, hXs, hbl, hbA, hlt⟩ := id Z
  refine lv_aload_n hx hb dL_law_925 rfl (lv_at hl 1 rfl) ?_
  refine lv_aload_n hx hb dL_law_926 rfl (lv_at hl 0 rfl) ?_
  refine lv_iload hx hb dL_law_927 (lv_at hl 5 rfl) ?_
  refine lv_iconst (v := 1) hx hb dL_law_929 (by decide) ?_
  refine lv_iadd hx hb dL_law_930 ?_
  refine lv_topi (fun y1 ey1 => ?_)
  obtain rfl : y1 = 1 := ey1.trans (by decide +kernel)
  refine va_sld hx hb hXs hbl hbA hS (z_in 1 (by decide) (by decide)) dL_law_931 ?_
  refine lv_topi (fun y2 ey2 => ?_)
  obtain rfl : y2 = (xs 1) := ey2.trans rfl
  refine lv_aload_n hx hb dL_law_932 rfl (lv_at hl 0 rfl) ?_
  refine lv_iload hx hb dL_law_933 (lv_at hl 5 rfl) ?_
  refine lv_iconst (v := 2) hx hb dL_law_935 (by decide) ?_
  refine lv_iadd hx hb dL_law_936 ?_
  refine lv_topi (fun y3 ey3 => ?_)
  obtain rfl : y3 = 2 := ey3.trans (by decide +kernel)
  refine va_sld hx hb hXs hbl hbA hS (z_in 2 (by decide) (by decide)) dL_law_937 ?_
  refine lv_topi (fun y4 ey4 => ?_)
  obtain rfl : y4 = (xs 2) := ey4.trans rfl
  refine lv_aload_n hx hb dL_law_938 rfl (lv_at hl 3 rfl) ?_
  refine zq_i (wc := [(x0, .inr (12, [.ref vC, .ref vP, .ref vT, .ref vS, .ref vF, .ref vN, .ref vY, .int 0])), (vC, .inr (3, [.ref sS, .ref sJ, .int 0, .int 0]))]) (wr := [(g0, .inr (17, [.ref m0, .ref m1, .ref m2, .ref m3, .ref m4, .ref m5, .ref m6, .ref m7, .ref m8, .ref m9, .ref m10, .ref m11, .ref m12, .ref m13, .ref m14, .ref m15, .ref m16, .ref m17, .ref m18, .ref m19, .ref m20, .int 0, .int 0, .int 0, .int 0, .long 0, .int 0])), (m0, .inr (2, [.int 0, .ref b1, .int 0]))]) (vx_runSW (As := [.ref x0, .int (xs 1), .int (xs 2), .ref o1]) (rest := []) ⟨hx, hb, hml, hown, hts⟩ (w_fault l hlt D cy x0 vC vP vT vS vF vN vY sS sJ (xs 1) (xs 2) o1 H.size ) (vx_cwSW 4 hts (gzS (gzW q631) q630 q632 q565) rfl rfl rfl vL_fault.2 ⟨Nat.le_of_ble_eq_true rfl, Nat.le_of_ble_eq_true rfl⟩) (zpS hK hX hY hP hD hS hA [0, 1] (by decide) rfl) rfl rfl hl.1 rfl (lv_room (Nat.le_of_ble_eq_true rfl)) dL_law_939 ⟨Nat.le_of_ble_eq_true rfl, Nat.le_of_ble_eq_true rfl⟩) hP hD hS hA [0, 1] [2, 3] rfl rfl (by decide) (by decide) (fun x6 u5 H locs hw hP hD hS => ?_)
  obtain rfl : x6 = 1 := hw
  have hP : va_P D vwCl [(g0, .inr (17, [.ref m0, .ref m1, .ref m2, .ref m3, .ref m4, .ref m5, .ref m6, .ref m7, .ref m8, .ref m9, .ref m10, .ref m11, .ref m12, .ref m13, .ref m14, .ref m15, .ref m16, .ref m17, .ref m18, .ref m19, .ref m20, .int 0, .int 0, .int 0, .int 0, .long 0, .int 0])), (m0, .inr (2, [.int 0, .ref b1, .int 0]))] H := hP
  have hD : va_D A [(g0, .inr (17, [.ref m0, .ref m1, .ref m2, .ref m3, .ref m4, .ref m5, .ref m6, .ref m7, .ref m8, .ref m9, .ref m10, .ref m11, .ref m12, .ref m13, .ref m14, .ref m15, .ref m16, .ref m17, .ref m18, .ref m19, .ref m20, .int 0, .int 0, .int 0, .int 0, .long 0, .int 0])), (m0, .inr (2, [.int 0, .ref b1, .int 0]))] := hD
  refine W.widen (k := 214) (n := 25118) (by omega) (by omega) ?_
  refine lv_istore (lv' := [(6, .int 1), (0, .ref b), (1, .ref x0), (2, .ref g0), (3, .ref o1), (4, .ref o2), (5, .int 0)]) hx hb dL_law_942 hl (by decide) rfl (fun ls hl => ?_)
  refine lv_aload_n hx hb dL_law_944 rfl (lv_at hl 3 rfl) ?_
  refine lv_aload_n hx hb dL_law_945 rfl (lv_at hl 1 rfl) ?_
  refine lv_iload hx hb dL_law_946 (lv_at hl 6 rfl) ?_
  refine lv_iconst (v := 1) hx hb dL_law_948 (by decide) ?_
  refine lv_iadd hx hb dL_law_949 ?_
  refine lv_topi (fun y7 ey7 => ?_)
  obtain rfl : y7 = 1 := ey7.trans (by decide +kernel)
  refine va_sld hx hb hXs hbl hbA hS (z_in 1 (by decide) (by decide)) dL_law_950 ?_
  refine lv_topi (fun y8 ey8 => ?_)
  obtain rfl : y8 = (xs 1) := ey8.trans rfl
  refine lv_aload_n hx hb dL_law_951 rfl (lv_at hl 1 rfl) ?_
  refine lv_iload hx hb dL_law_952 (lv_at hl 6 rfl) ?_
  refine lv_iconst (v := 2) hx hb dL_law_954 (by decide) ?_
  refine lv_iadd hx hb dL_law_955 ?_
  refine lv_topi (fun y9 ey9 => ?_)
  obtain rfl : y9 = 2 := ey9.trans (by decide +kernel)
  refine va_sld hx hb hXs hbl hbA hS (z_in 2 (by decide) (by decide)) dL_law_956 ?_
  refine lv_topi (fun y10 ey10 => ?_)
  obtain rfl : y10 = (xs 2) := ey10.trans rfl
  refine zq_l (wc := [(g0, .inr (17, [.ref m0, .ref m1, .ref m2, .ref m3, .ref m4, .ref m5, .ref m6, .ref m7, .ref m8, .ref m9, .ref m10, .ref m11, .ref m12, .ref m13, .ref m14, .ref m15, .ref m16, .ref m17, .ref m18, .ref m19, .ref m20, .int 0, .int 0, .int 0, .int 0, .long 0, .int 0])), (m0, .inr (2, [.int 0, .ref b1, .int 0]))]) (wr := []) (va_runV (As := [.int (xs 1), .int (xs 2)]) (rest := []) ⟨hx, hb, hml, hown, hts⟩ (g_fault l D cy g0 m0 m1 m2 m3 m4 m5 m6 m7 m8 m9 m10 m11 m12 m13 m14 m15 m16 m17 m18 m19 m20 b1 (xs 1) (xs 2) H.size ) (cwV 2 hts (gzV (gz q634) q633 q635 q636 q285) rfl rfl rfl vX14_fault ⟨Nat.le_of_ble_eq_true rfl, Nat.le_of_ble_eq_true rfl⟩) (zpV (ci := 17) (T := TX14) (N := 27) (q0 := 0) hK hX hY hP hD hS hA [0, 1] (by decide) rfl rfl rfl) rfl rfl hl.1 rfl (lv_room (Nat.le_of_ble_eq_true rfl)) dL_law_957 ⟨Nat.le_of_ble_eq_true rfl, Nat.le_of_ble_eq_true rfl⟩) hP hD hS hA [0, 1] [] rfl rfl (by decide) (by decide) (fun x12 u11 H locs hw hP hD hS => ?_)
  obtain rfl : x12 = 0 := hw
  have hP : va_P D vwCl [(g0, .inr (17, [.ref m0, .ref m1, .ref m2, .ref m3, .ref m4, .ref m5, .ref m6, .ref m7, .ref m8, .ref m9, .ref m10, .ref m11, .ref m12, .ref m13, .ref m14, .ref m15, .ref m16, .ref m17, .ref m18, .ref m19, .ref m20, .int 1, .int 0, .int 0, .int 0, .long 0, .int 0]))] H := hP
  have hD : va_D A [(g0, .inr (17, [.ref m0, .ref m1, .ref m2, .ref m3, .ref m4, .ref m5, .ref m6, .ref m7, .ref m8, .ref m9, .ref m10, .ref m11, .ref m12, .ref m13, .ref m14, .ref m15, .ref m16, .ref m17, .ref m18, .ref m19, .ref m20, .int 1, .int 0, .int 0, .int 0, .long 0, .int 0]))] := hD
  refine lv_lstore (lv' := [(7, .long 0), (6, .int 1), (0, .ref b), (1, .ref x0), (2, .ref g0), (3, .ref o1), (4, .ref o2), (5, .int 0)]) hx hb dL_law_960 hl (by decide) rfl (fun ls hl => ?_)
  refine lv_aload_n hx hb dL_law_962 rfl (lv_at hl 4 rfl) ?_
  refine zq_i (wc := [(g0, .inr (17, [.ref m0, .ref m1, .ref m2, .ref m3, .ref m4, .ref m5, .ref m6, .ref m7, .ref m8, .ref m9, .ref m10, .ref m11, .ref m12, .ref m13, .ref m14, .ref m15, .ref m16, .ref m17, .ref m18, .ref m19, .ref m20, .int 1, .int 0, .int 0, .int 0, .long 0, .int 0]))]) (wr := []) (va_runV (As := []) (rest := []) ⟨hx, hb, hml, hown, hts⟩ (k_thrown l D cy g0 m0 m1 m2 m3 m4 m5 m6 m7 m8 m9 m10 m11 m12 m13 m14 m15 m16 m17 m18 m19 m20 1 0 0 0 0 0 H.size ) (cwV 0 hts (gzV (gz q571) q570 q572 q573 q285) rfl rfl rfl vX14_thrown ⟨Nat.le_of_ble_eq_true rfl, Nat.le_of_ble_eq_true rfl⟩) (zpV (ci := 17) (T := TX14) (N := 27) (q0 := 0) hK hX hY hP hD hS hA [0] (by decide) rfl rfl rfl) rfl rfl hl.1 rfl (lv_room (Nat.le_of_ble_eq_true rfl)) dL_law_963 ⟨Nat.le_of_ble_eq_true rfl, Nat.le_of_ble_eq_true rfl⟩) hP hD hS hA [0] [] rfl rfl (by decide) (by decide) (fun x14 u13 H locs hw hP hD hS => ?_)
  obtain rfl : x14 = 1 := hw
  have hP : va_P D vwCl [(g0, .inr (17, [.ref m0, .ref m1, .ref m2, .ref m3, .ref m4, .ref m5, .ref m6, .ref m7, .ref m8, .ref m9, .ref m10, .ref m11, .ref m12, .ref m13, .ref m14, .ref m15, .ref m16, .ref m17, .ref m18, .ref m19, .ref m20, .int 1, .int 0, .int 0, .int 0, .long 0, .int 0]))] H := hP
  have hD : va_D A [(g0, .inr (17, [.ref m0, .ref m1, .ref m2, .ref m3, .ref m4, .ref m5, .ref m6, .ref m7, .ref m8, .ref m9, .ref m10, .ref m11, .ref m12, .ref m13, .ref m14, .ref m15, .ref m16, .ref m17, .ref m18, .ref m19, .ref m20, .int 1, .int 0, .int 0, .int 0, .long 0, .int 0]))] := hD
  refine lv_iload hx hb dL_law_966 (lv_at hl 1 rfl) ?_
  refine lv_icmp_eq (tgt := 973) hx hb dL_law_968 (by decide) (fun _ => ?_) (fun c_968_14 => absurd (by decide +kernel) c_968_14)
  refine lv_iload hx hb dL_law_973 (lv_at hl 1 rfl) ?_
  refine lv_if_ne (tgt := 989) hx hb dL_law_975 (by decide) (fun _ => ?_) (fun c_975_15 => absurd c_975_15 (by decide +kernel))
  refine lv_goto (tgt := 2706) hx hb dL_law_989 (by decide) ?_
  exact W.widen (k := 600006) (n := 7302040) (Nat.le_of_ble_eq_true rfl) (Nat.le_of_ble_eq_true rfl) (kt _ _ _ hS (lv_sub hl [2, 7] rfl))
set_option maxHeartbeats 4000000 in
set_option maxRecDepth 100000 in
theorem c_allFaults_in (l : Launch) {p : Program} {e : Env} {s : State} {m : MethodId} {below : List Frame} {meth : Method} {c : Code} {D : va_G} {cy : Nat → ClassId} {A : Nat → Prop} {b : Nat} {xs : Nat → Int32} {Q : State → Prop} {H : Heap} {locs : List Loc} {ls : Array Slot} (Z : zLaw l p s m c D cy A b 9 xs) (x0 : Nat) (g0 : Nat) (o1 : Nat) (o2 : Nat) (vC : Nat) (vP : Nat) (vT : Nat) (vS : Nat) (vF : Nat) (vN : Nat) (vY : Nat) (sS : Nat) (sJ : Nat) (j1 : Nat) (j2 : Nat) (j3 : Nat) (jL : Nat) (p1 : Nat) (p2 : Nat) (p3 : Nat) (p4 : Nat) (p5 : Nat) (p6 : Nat) (p7 : Nat) (p8 : Nat) (rn : Nat → Nat) (rt : Nat → Nat) (m0 : Nat) (m1 : Nat) (m2 : Nat) (m3 : Nat) (m4 : Nat) (m5 : Nat) (m6 : Nat) (m7 : Nat) (m8 : Nat) (m9 : Nat) (m10 : Nat) (m11 : Nat) (m12 : Nat) (m13 : Nat) (m14 : Nat) (m15 : Nat) (m16 : Nat) (m17 : Nat) (m18 : Nat) (m19 : Nat) (m20 : Nat) (b1 : Nat) (hd : zDay (xs 1)) (hP : va_P D vwCl ((x0, .inr (12, [.ref vC, .ref vP, .ref vT, .ref vS, .ref vF, .ref vN, .ref vY, .int 0])) :: (vC, .inr (3, [.ref sS, .ref sJ, .int 0, .int 0])) :: (sJ, .inr (5, [.ref j1, .ref j2, .ref j3, .ref jL, .int 0])) :: (jL, .inl (cy 0, 9, .inl (fun _ => 0))) :: (vP, .inr (7, [.ref vC, .ref p1, .ref p2, .ref p3, .ref p4, .ref p5, .ref p6, .ref p7, .int 0, .long 0, .ref p8, .int 0, .int 0, .long 1])) :: (p1, .inl (cy 0, 9, .inl (fun _ => 0))) :: (p2, .inl (cy 2, 9, .inl (fun _ => 0))) :: (p8, .inl (cy 2, 24, .inl (fun _ => 0))) :: (p3, .inl (cy 0, 9, .inl (fun _ => 0))) :: (p4, .inl (cy 3, 8, .inr (.inr (.inr (.inr (fun k9 => if k9 < 8 then some (rn k9) else none)))))) :: ((rn 0), .inl (cy 1, 11, .inr (.inl (fun _ => 0)))) :: ((rn 1), .inl (cy 1, 11, .inr (.inl (fun _ => 0)))) :: ((rn 2), .inl (cy 1, 11, .inr (.inl (fun _ => 0)))) :: ((rn 3), .inl (cy 1, 11, .inr (.inl (fun _ => 0)))) :: ((rn 4), .inl (cy 1, 11, .inr (.inl (fun _ => 0)))) :: ((rn 5), .inl (cy 1, 11, .inr (.inl (fun _ => 0)))) :: ((rn 6), .inl (cy 1, 11, .inr (.inl (fun _ => 0)))) :: ((rn 7), .inl (cy 1, 11, .inr (.inl (fun _ => 0)))) :: (p5, .inl (cy 3, 9, .inr (.inr (.inr (.inr (fun k9 => if k9 < 9 then some (rt k9) else none)))))) :: ((rt 0), .inl (cy 1, 3, .inr (.inl (fun _ => 0)))) :: ((rt 1), .inl (cy 1, 3, .inr (.inl (fun _ => 0)))) :: ((rt 2), .inl (cy 1, 3, .inr (.inl (fun _ => 0)))) :: ((rt 3), .inl (cy 1, 3, .inr (.inl (fun _ => 0)))) :: ((rt 4), .inl (cy 1, 3, .inr (.inl (fun _ => 0)))) :: ((rt 5), .inl (cy 1, 3, .inr (.inl (fun _ => 0)))) :: ((rt 6), .inl (cy 1, 3, .inr (.inl (fun _ => 0)))) :: ((rt 7), .inl (cy 1, 3, .inr (.inl (fun _ => 0)))) :: ((rt 8), .inl (cy 1, 3, .inr (.inl (fun _ => 0)))) :: (o1, .inl (cy 1, 1, .inr (.inl (fun _ => 0)))) :: (g0, .inr (17, [.ref m0, .ref m1, .ref m2, .ref m3, .ref m4, .ref m5, .ref m6, .ref m7, .ref m8, .ref m9, .ref m10, .ref m11, .ref m12, .ref m13, .ref m14, .ref m15, .ref m16, .ref m17, .ref m18, .ref m19, .ref m20, .int 0, .int 0, .int 0, .int 0, .long 0, .int 0])) :: (m0, .inr (2, [.int 0, .ref b1, .int 0])) :: (m9, .inl (cy 0, 9, .inl (fun _ => 0))) :: (m12, .inl (cy 2, 9, .inl (fun _ => 0))) :: (m10, .inl (cy 0, 9, .inl (fun _ => 0))) :: (m14, .inl (cy 1, 256, .inr (.inl (fun _ => 0)))) :: (m16, .inl (cy 1, 64, .inr (.inl (fun _ => 0)))) :: (m17, .inl (cy 1, 24, .inr (.inl (fun _ => 0)))) :: []) H) (hD : va_D A ((x0, .inr (12, [.ref vC, .ref vP, .ref vT, .ref vS, .ref vF, .ref vN, .ref vY, .int 0])) :: (vC, .inr (3, [.ref sS, .ref sJ, .int 0, .int 0])) :: (sJ, .inr (5, [.ref j1, .ref j2, .ref j3, .ref jL, .int 0])) :: (jL, .inl (cy 0, 9, .inl (fun _ => 0))) :: (vP, .inr (7, [.ref vC, .ref p1, .ref p2, .ref p3, .ref p4, .ref p5, .ref p6, .ref p7, .int 0, .long 0, .ref p8, .int 0, .int 0, .long 1])) :: (p1, .inl (cy 0, 9, .inl (fun _ => 0))) :: (p2, .inl (cy 2, 9, .inl (fun _ => 0))) :: (p8, .inl (cy 2, 24, .inl (fun _ => 0))) :: (p3, .inl (cy 0, 9, .inl (fun _ => 0))) :: (p4, .inl (cy 3, 8, .inr (.inr (.inr (.inr (fun k9 => if k9 < 8 then some (rn k9) else none)))))) :: ((rn 0), .inl (cy 1, 11, .inr (.inl (fun _ => 0)))) :: ((rn 1), .inl (cy 1, 11, .inr (.inl (fun _ => 0)))) :: ((rn 2), .inl (cy 1, 11, .inr (.inl (fun _ => 0)))) :: ((rn 3), .inl (cy 1, 11, .inr (.inl (fun _ => 0)))) :: ((rn 4), .inl (cy 1, 11, .inr (.inl (fun _ => 0)))) :: ((rn 5), .inl (cy 1, 11, .inr (.inl (fun _ => 0)))) :: ((rn 6), .inl (cy 1, 11, .inr (.inl (fun _ => 0)))) :: ((rn 7), .inl (cy 1, 11, .inr (.inl (fun _ => 0)))) :: (p5, .inl (cy 3, 9, .inr (.inr (.inr (.inr (fun k9 => if k9 < 9 then some (rt k9) else none)))))) :: ((rt 0), .inl (cy 1, 3, .inr (.inl (fun _ => 0)))) :: ((rt 1), .inl (cy 1, 3, .inr (.inl (fun _ => 0)))) :: ((rt 2), .inl (cy 1, 3, .inr (.inl (fun _ => 0)))) :: ((rt 3), .inl (cy 1, 3, .inr (.inl (fun _ => 0)))) :: ((rt 4), .inl (cy 1, 3, .inr (.inl (fun _ => 0)))) :: ((rt 5), .inl (cy 1, 3, .inr (.inl (fun _ => 0)))) :: ((rt 6), .inl (cy 1, 3, .inr (.inl (fun _ => 0)))) :: ((rt 7), .inl (cy 1, 3, .inr (.inl (fun _ => 0)))) :: ((rt 8), .inl (cy 1, 3, .inr (.inl (fun _ => 0)))) :: (o1, .inl (cy 1, 1, .inr (.inl (fun _ => 0)))) :: (g0, .inr (17, [.ref m0, .ref m1, .ref m2, .ref m3, .ref m4, .ref m5, .ref m6, .ref m7, .ref m8, .ref m9, .ref m10, .ref m11, .ref m12, .ref m13, .ref m14, .ref m15, .ref m16, .ref m17, .ref m18, .ref m19, .ref m20, .int 0, .int 0, .int 0, .int 0, .long 0, .int 0])) :: (m0, .inr (2, [.int 0, .ref b1, .int 0])) :: (m9, .inl (cy 0, 9, .inl (fun _ => 0))) :: (m12, .inl (cy 2, 9, .inl (fun _ => 0))) :: (m10, .inl (cy 0, 9, .inl (fun _ => 0))) :: (m14, .inl (cy 1, 256, .inr (.inl (fun _ => 0)))) :: (m16, .inl (cy 1, 64, .inr (.inl (fun _ => 0)))) :: (m17, .inl (cy 1, 24, .inr (.inl (fun _ => 0)))) :: [])) (hS : va_S A s.heap H locs) (hl : lv_has ls 9 [(0, .ref b), (1, .ref x0), (2, .ref g0), (3, .ref o1), (4, .ref o2), (5, .int 0)]) (kt : ∀ (H : Heap) (locs : List Loc) (ls : Array Slot), va_S A s.heap H locs → lv_has ls 9 [(0, .ref b), (5, .int 0)] → W p l e room_1 s m #[Value.ref b] below meth c H locs 600006 7302040 Q (F0 m 2706 ls [])) : W p l e room_1 s m #[Value.ref b] below meth c H locs 213 25112 Q (F0 m 992 ls []) := by
  obtain ⟨hx, hb, hml, hown, hts, hK, hX, hY, hA, hXs, hbl, hbA, hlt⟩ := id Z
  refine lv_aload_n hx hb dL_law_992 rfl (lv_at hl 1 rfl) ?_
  refine lv_aload_n hx hb dL_law_993 rfl (lv_at hl 0 rfl) ?_
  refine lv_iload hx hb dL_law_994 (lv_at hl 5 rfl) ?_
  refine lv_iconst (v := 1) hx hb dL_law_996 (by decide) ?_
  refine lv_iadd hx hb dL_law_997 ?_
  refine lv_topi (fun y1 ey1 => ?_)
  obtain rfl : y1 = 1 := ey1.trans (by decide +kernel)
  refine va_sld hx hb hXs hbl hbA hS (z_in 1 (by decide) (by decide)) dL_law_998 ?_
  refine lv_topi (fun y2 ey2 => ?_)
  obtain rfl : y2 = (xs 1) := ey2.trans rfl
  refine lv_aload_n hx hb dL_law_999 rfl (lv_at hl 3 rfl) ?_
  refine zq_i (wc := [(x0, .inr (12, [.ref vC, .ref vP, .ref vT, .ref vS, .ref vF, .ref vN, .ref vY, .int 0])), (vC, .inr (3, [.ref sS, .ref sJ, .int 0, .int 0])), (sJ, .inr (5, [.ref j1, .ref j2, .ref j3, .ref jL, .int 0])), (jL, .inl (cy 0, 9, .inl (fun _ => 0))), (vP, .inr (7, [.ref vC, .ref p1, .ref p2, .ref p3, .ref p4, .ref p5, .ref p6, .ref p7, .int 0, .long 0, .ref p8, .int 0, .int 0, .long 1])), (p1, .inl (cy 0, 9, .inl (fun _ => 0))), (p2, .inl (cy 2, 9, .inl (fun _ => 0))), (p8, .inl (cy 2, 24, .inl (fun _ => 0))), (p3, .inl (cy 0, 9, .inl (fun _ => 0))), (p4, .inl (cy 3, 8, .inr (.inr (.inr (.inr (fun k9 => if k9 < 8 then some (rn k9) else none)))))), ((rn 0), .inl (cy 1, 11, .inr (.inl (fun _ => 0)))), ((rn 1), .inl (cy 1, 11, .inr (.inl (fun _ => 0)))), ((rn 2), .inl (cy 1, 11, .inr (.inl (fun _ => 0)))), ((rn 3), .inl (cy 1, 11, .inr (.inl (fun _ => 0)))), ((rn 4), .inl (cy 1, 11, .inr (.inl (fun _ => 0)))), ((rn 5), .inl (cy 1, 11, .inr (.inl (fun _ => 0)))), ((rn 6), .inl (cy 1, 11, .inr (.inl (fun _ => 0)))), ((rn 7), .inl (cy 1, 11, .inr (.inl (fun _ => 0)))), (p5, .inl (cy 3, 9, .inr (.inr (.inr (.inr (fun k9 => if k9 < 9 then some (rt k9) else none)))))), ((rt 0), .inl (cy 1, 3, .inr (.inl (fun _ => 0)))), ((rt 1), .inl (cy 1, 3, .inr (.inl (fun _ => 0)))), ((rt 2), .inl (cy 1, 3, .inr (.inl (fun _ => 0)))), ((rt 3), .inl (cy 1, 3, .inr (.inl (fun _ => 0)))), ((rt 4), .inl (cy 1, 3, .inr (.inl (fun _ => 0)))), ((rt 5), .inl (cy 1, 3, .inr (.inl (fun _ => 0)))), ((rt 6), .inl (cy 1, 3, .inr (.inl (fun _ => 0)))), ((rt 7), .inl (cy 1, 3, .inr (.inl (fun _ => 0)))), ((rt 8), .inl (cy 1, 3, .inr (.inl (fun _ => 0)))), (o1, .inl (cy 1, 1, .inr (.inl (fun _ => 0))))]) (wr := [(g0, .inr (17, [.ref m0, .ref m1, .ref m2, .ref m3, .ref m4, .ref m5, .ref m6, .ref m7, .ref m8, .ref m9, .ref m10, .ref m11, .ref m12, .ref m13, .ref m14, .ref m15, .ref m16, .ref m17, .ref m18, .ref m19, .ref m20, .int 0, .int 0, .int 0, .int 0, .long 0, .int 0])), (m0, .inr (2, [.int 0, .ref b1, .int 0])), (m9, .inl (cy 0, 9, .inl (fun _ => 0))), (m12, .inl (cy 2, 9, .inl (fun _ => 0))), (m10, .inl (cy 0, 9, .inl (fun _ => 0))), (m14, .inl (cy 1, 256, .inr (.inl (fun _ => 0)))), (m16, .inl (cy 1, 64, .inr (.inl (fun _ => 0)))), (m17, .inl (cy 1, 24, .inr (.inl (fun _ => 0))))]) (vx_runSW (As := [.ref x0, .int (xs 1), .ref o1]) (rest := []) ⟨hx, hb, hml, hown, hts⟩ (w_allFaults_in l hlt D cy x0 vC vP vT vS vF vN vY sS sJ j1 j2 j3 jL p1 p2 p3 p4 p5 p6 p7 p8 rn rt (xs 1) o1 H.size hd) (vx_cwSW 3 hts (gzS (gzW q638) q637 q639 q565) rfl rfl rfl vL_allFaults.2 ⟨Nat.le_of_ble_eq_true rfl, Nat.le_of_ble_eq_true rfl⟩) (zpS hK hX hY hP hD hS hA [0, 1, 2, 3, 4, 5, 6, 7, 8, 9, 10, 11, 12, 13, 14, 15, 16, 17, 18, 19, 20, 21, 22, 23, 24, 25, 26, 27, 28] (by decide) rfl) rfl rfl hl.1 rfl (lv_room (Nat.le_of_ble_eq_true rfl)) dL_law_1000 ⟨Nat.le_of_ble_eq_true rfl, Nat.le_of_ble_eq_true rfl⟩) hP hD hS hA [0, 1, 2, 3, 4, 5, 6, 7, 8, 9, 10, 11, 12, 13, 14, 15, 16, 17, 18, 19, 20, 21, 22, 23, 24, 25, 26, 27, 28] [29, 30, 31, 32, 33, 34, 35, 36] rfl rfl (by decide) (by decide) (fun x4 u3 H locs hw hP hD hS => ?_)
  obtain rfl : x4 = 0 := hw
  have hP : va_P D vwCl [(g0, .inr (17, [.ref m0, .ref m1, .ref m2, .ref m3, .ref m4, .ref m5, .ref m6, .ref m7, .ref m8, .ref m9, .ref m10, .ref m11, .ref m12, .ref m13, .ref m14, .ref m15, .ref m16, .ref m17, .ref m18, .ref m19, .ref m20, .int 0, .int 0, .int 0, .int 0, .long 0, .int 0])), (m0, .inr (2, [.int 0, .ref b1, .int 0])), (m9, .inl (cy 0, 9, .inl (fun _ => 0))), (m12, .inl (cy 2, 9, .inl (fun _ => 0))), (m10, .inl (cy 0, 9, .inl (fun _ => 0))), (m14, .inl (cy 1, 256, .inr (.inl (fun _ => 0)))), (m16, .inl (cy 1, 64, .inr (.inl (fun _ => 0)))), (m17, .inl (cy 1, 24, .inr (.inl (fun _ => 0)))), (o1, .inl (cy 1, 1, .inr (.inl (fun _ => 0))))] H := hP
  have hD : va_D A [(g0, .inr (17, [.ref m0, .ref m1, .ref m2, .ref m3, .ref m4, .ref m5, .ref m6, .ref m7, .ref m8, .ref m9, .ref m10, .ref m11, .ref m12, .ref m13, .ref m14, .ref m15, .ref m16, .ref m17, .ref m18, .ref m19, .ref m20, .int 0, .int 0, .int 0, .int 0, .long 0, .int 0])), (m0, .inr (2, [.int 0, .ref b1, .int 0])), (m9, .inl (cy 0, 9, .inl (fun _ => 0))), (m12, .inl (cy 2, 9, .inl (fun _ => 0))), (m10, .inl (cy 0, 9, .inl (fun _ => 0))), (m14, .inl (cy 1, 256, .inr (.inl (fun _ => 0)))), (m16, .inl (cy 1, 64, .inr (.inl (fun _ => 0)))), (m17, .inl (cy 1, 24, .inr (.inl (fun _ => 0)))), (o1, .inl (cy 1, 1, .inr (.inl (fun _ => 0))))] := hD
  refine lv_istore (lv' := [(6, .int 0), (0, .ref b), (1, .ref x0), (2, .ref g0), (3, .ref o1), (4, .ref o2), (5, .int 0)]) hx hb dL_law_1003 hl (by decide) rfl (fun ls hl => ?_)
  refine lv_aload_n hx hb dL_law_1005 rfl (lv_at hl 3 rfl) ?_
  refine lv_aload_n hx hb dL_law_1006 rfl (lv_at hl 1 rfl) ?_
  refine lv_iload hx hb dL_law_1007 (lv_at hl 6 rfl) ?_
  refine lv_iconst (v := 1) hx hb dL_law_1009 (by decide) ?_
  refine lv_iadd hx hb dL_law_1010 ?_
  refine lv_topi (fun y5 ey5 => ?_)
  obtain rfl : y5 = 1 := ey5.trans (by decide +kernel)
  refine va_sld hx hb hXs hbl hbA hS (z_in 1 (by decide) (by decide)) dL_law_1011 ?_
  refine lv_topi (fun y6 ey6 => ?_)
  obtain rfl : y6 = (xs 1) := ey6.trans rfl
  refine zq_l (wc := [(g0, .inr (17, [.ref m0, .ref m1, .ref m2, .ref m3, .ref m4, .ref m5, .ref m6, .ref m7, .ref m8, .ref m9, .ref m10, .ref m11, .ref m12, .ref m13, .ref m14, .ref m15, .ref m16, .ref m17, .ref m18, .ref m19, .ref m20, .int 0, .int 0, .int 0, .int 0, .long 0, .int 0])), (m0, .inr (2, [.int 0, .ref b1, .int 0])), (m9, .inl (cy 0, 9, .inl (fun _ => 0))), (m12, .inl (cy 2, 9, .inl (fun _ => 0))), (m10, .inl (cy 0, 9, .inl (fun _ => 0))), (m14, .inl (cy 1, 256, .inr (.inl (fun _ => 0)))), (m16, .inl (cy 1, 64, .inr (.inl (fun _ => 0)))), (m17, .inl (cy 1, 24, .inr (.inl (fun _ => 0))))]) (wr := [(o1, .inl (cy 1, 1, .inr (.inl (fun _ => 0))))]) (va_runV (As := [.int (xs 1)]) (rest := []) ⟨hx, hb, hml, hown, hts⟩ (g_allFaults_in l D cy g0 m0 m1 m2 m3 m4 m5 m6 m7 m8 m9 m10 m11 m12 m13 m14 m15 m16 m17 m18 m19 m20 b1 (xs 1) H.size hd) (cwV 1 hts (gzV (gz q641) q640 q642 q643 q285) rfl rfl rfl vX14_allFaults ⟨Nat.le_of_ble_eq_true rfl, Nat.le_of_ble_eq_true rfl⟩) (zpV (ci := 17) (T := TX14) (N := 27) (q0 := 0) hK hX hY hP hD hS hA [0, 1, 2, 3, 4, 5, 6, 7] (by decide) rfl rfl rfl) rfl rfl hl.1 rfl (lv_room (Nat.le_of_ble_eq_true rfl)) dL_law_1012 ⟨Nat.le_of_ble_eq_true rfl, Nat.le_of_ble_eq_true rfl⟩) hP hD hS hA [0, 1, 2, 3, 4, 5, 6, 7] [8] rfl rfl (by decide) (by decide) (fun x8 u7 H locs hw hP hD hS => ?_)
  obtain rfl : x8 = 0 := hw
  have hP : va_P D vwCl [(o1, .inl (cy 1, 1, .inr (.inl (fun _ => 0)))), (g0, .inr (17, [.ref m0, .ref m1, .ref m2, .ref m3, .ref m4, .ref m5, .ref m6, .ref m7, .ref m8, .ref m9, .ref m10, .ref m11, .ref m12, .ref m13, .ref m14, .ref m15, .ref m16, .ref m17, .ref m18, .ref m19, .ref m20, .int 0, .int 0, .int 0, .int 0, .long 1, .int 0]))] H := hP
  have hD : va_D A [(o1, .inl (cy 1, 1, .inr (.inl (fun _ => 0)))), (g0, .inr (17, [.ref m0, .ref m1, .ref m2, .ref m3, .ref m4, .ref m5, .ref m6, .ref m7, .ref m8, .ref m9, .ref m10, .ref m11, .ref m12, .ref m13, .ref m14, .ref m15, .ref m16, .ref m17, .ref m18, .ref m19, .ref m20, .int 0, .int 0, .int 0, .int 0, .long 1, .int 0]))] := hD
  refine W.widen (k := 231) (n := 25337) (by omega) (by omega) ?_
  refine lv_lstore (lv' := [(7, .long 0), (6, .int 0), (0, .ref b), (1, .ref x0), (2, .ref g0), (3, .ref o1), (4, .ref o2), (5, .int 0)]) hx hb dL_law_1015 hl (by decide) rfl (fun ls hl => ?_)
  refine lv_aload_n hx hb dL_law_1017 rfl (lv_at hl 4 rfl) ?_
  refine zq_i (wc := [(g0, .inr (17, [.ref m0, .ref m1, .ref m2, .ref m3, .ref m4, .ref m5, .ref m6, .ref m7, .ref m8, .ref m9, .ref m10, .ref m11, .ref m12, .ref m13, .ref m14, .ref m15, .ref m16, .ref m17, .ref m18, .ref m19, .ref m20, .int 0, .int 0, .int 0, .int 0, .long 1, .int 0]))]) (wr := [(o1, .inl (cy 1, 1, .inr (.inl (fun _ => 0))))]) (va_runV (As := []) (rest := []) ⟨hx, hb, hml, hown, hts⟩ (k_thrown l D cy g0 m0 m1 m2 m3 m4 m5 m6 m7 m8 m9 m10 m11 m12 m13 m14 m15 m16 m17 m18 m19 m20 0 0 0 0 1 0 H.size ) (cwV 0 hts (gzV (gz q571) q570 q572 q573 q285) rfl rfl rfl vX14_thrown ⟨Nat.le_of_ble_eq_true rfl, Nat.le_of_ble_eq_true rfl⟩) (zpV (ci := 17) (T := TX14) (N := 27) (q0 := 0) hK hX hY hP hD hS hA [1] (by decide) rfl rfl rfl) rfl rfl hl.1 rfl (lv_room (Nat.le_of_ble_eq_true rfl)) dL_law_1018 ⟨Nat.le_of_ble_eq_true rfl, Nat.le_of_ble_eq_true rfl⟩) hP hD hS hA [1] [0] rfl rfl (by decide) (by decide) (fun x10 u9 H locs hw hP hD hS => ?_)
  obtain rfl : x10 = 0 := hw
  have hP : va_P D vwCl [(o1, .inl (cy 1, 1, .inr (.inl (fun _ => 0)))), (g0, .inr (17, [.ref m0, .ref m1, .ref m2, .ref m3, .ref m4, .ref m5, .ref m6, .ref m7, .ref m8, .ref m9, .ref m10, .ref m11, .ref m12, .ref m13, .ref m14, .ref m15, .ref m16, .ref m17, .ref m18, .ref m19, .ref m20, .int 0, .int 0, .int 0, .int 0, .long 1, .int 0]))] H := hP
  have hD : va_D A [(o1, .inl (cy 1, 1, .inr (.inl (fun _ => 0)))), (g0, .inr (17, [.ref m0, .ref m1, .ref m2, .ref m3, .ref m4, .ref m5, .ref m6, .ref m7, .ref m8, .ref m9, .ref m10, .ref m11, .ref m12, .ref m13, .ref m14, .ref m15, .ref m16, .ref m17, .ref m18, .ref m19, .ref m20, .int 0, .int 0, .int 0, .int 0, .long 1, .int 0]))] := hD
  refine lv_iload hx hb dL_law_1021 (lv_at hl 1 rfl) ?_
  refine lv_icmp_eq (tgt := 1028) hx hb dL_law_1023 (by decide) (fun _ => ?_) (fun c_1023_10 => absurd (by decide +kernel) c_1023_10)
  refine lv_iload hx hb dL_law_1028 (lv_at hl 1 rfl) ?_
  refine lv_if_ne (tgt := 1044) hx hb dL_law_1030 (by decide) (fun c_1030_11 => absurd (by decide +kernel) c_1030_11) (fun _ => ?_)
  refine lv_aload_n hx hb dL_law_1033 rfl (lv_at hl 5 rfl) ?_
  refine lv_iconst (v := 0) hx hb dL_law_1034 (by decide) ?_
  refine va_lald hx hb hK hP 0 1 rfl rfl (z_in 0 (by decide) (by decide)) dL_law_1035 ?_
  refine lv_topl (fun y13 ey13 => ?_)
  obtain rfl : y13 = 0 := ey13.trans rfl
  refine lv_lload hx hb dL_law_1036 (lv_at hl 0 rfl) ?_
  refine W.lcmp hx hb dL_law_1038 ?_
  refine lv_topi (fun y14 ey14 => ?_)
  obtain rfl : y14 = 0 := ey14.trans (by decide +kernel)
  refine lv_if_eq (tgt := 1044) hx hb dL_law_1039 (by decide) (fun _ => ?_) (fun c_1039_14 => absurd (by decide +kernel) c_1039_14)
  refine lv_goto (tgt := 2706) hx hb dL_law_1044 (by decide) ?_
  exact W.widen (k := 600006) (n := 7302040) (Nat.le_of_ble_eq_true rfl) (Nat.le_of_ble_eq_true rfl) (kt _ _ _ hS (lv_sub hl [2, 7] rfl))
set_option maxHeartbeats 4000000 in
set_option maxRecDepth 100000 in
theorem c_allFaults_no (l : Launch) {p : Program} {e : Env} {s : State} {m : MethodId} {below : List Frame} {meth : Method} {c : Code} {D : va_G} {cy : Nat → ClassId} {A : Nat → Prop} {b : Nat} {xs : Nat → Int32} {Q : State → Prop} {H : Heap} {locs : List Loc} {ls : Array Slot} (Z : zLaw l p s m c D cy A b 9 xs) (x0 : Nat) (g0 : Nat) (o1 : Nat) (o2 : Nat) (vC : Nat) (vP : Nat) (vT : Nat) (vS : Nat) (vF : Nat) (vN : Nat) (vY : Nat) (m0 : Nat) (m1 : Nat) (m2 : Nat) (m3 : Nat) (m4 : Nat) (m5 : Nat) (m6 : Nat) (m7 : Nat) (m8 : Nat) (m9 : Nat) (m10 : Nat) (m11 : Nat) (m12 : Nat) (m13 : Nat) (m14 : Nat) (m15 : Nat) (m16 : Nat) (m17 : Nat) (m18 : Nat) (m19 : Nat) (m20 : Nat) (hd : zNoDay (xs 1)) (hP : va_P D vwCl [(x0, .inr (12, [.ref vC, .ref vP, .ref vT, .ref vS, .ref vF, .ref vN, .ref vY, .int 0])), (g0, .inr (17, [.ref m0, .ref m1, .ref m2, .ref m3, .ref m4, .ref m5, .ref m6, .ref m7, .ref m8, .ref m9, .ref m10, .ref m11, .ref m12, .ref m13, .ref m14, .ref m15, .ref m16, .ref m17, .ref m18, .ref m19, .ref m20, .int 0, .int 0, .int 0, .int 0, .long 0, .int 0]))] H) (hD : va_D A [(x0, .inr (12, [.ref vC, .ref vP, .ref vT, .ref vS, .ref vF, .ref vN, .ref vY, .int 0])), (g0, .inr (17, [.ref m0, .ref m1, .ref m2, .ref m3, .ref m4, .ref m5, .ref m6, .ref m7, .ref m8, .ref m9, .ref m10, .ref m11, .ref m12, .ref m13, .ref m14, .ref m15, .ref m16, .ref m17, .ref m18, .ref m19, .ref m20, .int 0, .int 0, .int 0, .int 0, .long 0, .int 0]))]) (hS : va_S A s.heap H locs) (hl : lv_has ls 9 [(0, .ref b), (1, .ref x0), (2, .ref g0), (3, .ref o1), (4, .ref o2), (5, .int 0)]) (kt : ∀ (H : Heap) (locs : List Loc) (ls : Array Slot), va_S A s.heap H locs → lv_has ls 9 [(0, .ref b), (5, .int 0)] → W p l e room_1 s m #[Value.ref b] below meth c H locs 600006 7302040 Q (F0 m 2706 ls [])) : W p l e room_1 s m #[Value.ref b] below meth c H locs 213 25112 Q (F0 m 992 ls []) := by
  obtain ⟨hx, hb, hml, hown, hts, hK, hX, hY, hA, hXs, hbl, hbA, hlt⟩ := id Z
  refine lv_aload_n hx hb dL_law_992 rfl (lv_at hl 1 rfl) ?_
  refine lv_aload_n hx hb dL_law_993 rfl (lv_at hl 0 rfl) ?_
  refine lv_iload hx hb dL_law_994 (lv_at hl 5 rfl) ?_
  refine lv_iconst (v := 1) hx hb dL_law_996 (by decide) ?_
  refine lv_iadd hx hb dL_law_997 ?_
  refine lv_topi (fun y1 ey1 => ?_)
  obtain rfl : y1 = 1 := ey1.trans (by decide +kernel)
  refine va_sld hx hb hXs hbl hbA hS (z_in 1 (by decide) (by decide)) dL_law_998 ?_
  refine lv_topi (fun y2 ey2 => ?_)
  obtain rfl : y2 = (xs 1) := ey2.trans rfl
  refine lv_aload_n hx hb dL_law_999 rfl (lv_at hl 3 rfl) ?_
  refine zq_i (wc := [(x0, .inr (12, [.ref vC, .ref vP, .ref vT, .ref vS, .ref vF, .ref vN, .ref vY, .int 0]))]) (wr := [(g0, .inr (17, [.ref m0, .ref m1, .ref m2, .ref m3, .ref m4, .ref m5, .ref m6, .ref m7, .ref m8, .ref m9, .ref m10, .ref m11, .ref m12, .ref m13, .ref m14, .ref m15, .ref m16, .ref m17, .ref m18, .ref m19, .ref m20, .int 0, .int 0, .int 0, .int 0, .long 0, .int 0]))]) (vx_runSW (As := [.ref x0, .int (xs 1), .ref o1]) (rest := []) ⟨hx, hb, hml, hown, hts⟩ (w_allFaults_no l hlt D cy x0 vC vP vT vS vF vN vY (xs 1) o1 H.size hd) (vx_cwSW 3 hts (gzS (gzW q638) q637 q639 q565) rfl rfl rfl vL_allFaults.2 ⟨Nat.le_of_ble_eq_true rfl, Nat.le_of_ble_eq_true rfl⟩) (zpS hK hX hY hP hD hS hA [0] (by decide) rfl) rfl rfl hl.1 rfl (lv_room (Nat.le_of_ble_eq_true rfl)) dL_law_1000 ⟨Nat.le_of_ble_eq_true rfl, Nat.le_of_ble_eq_true rfl⟩) hP hD hS hA [0] [1] rfl rfl (by decide) (by decide) (fun x4 u3 H locs hw hP hD hS => ?_)
  obtain rfl : x4 = 1 := hw
  have hP : va_P D vwCl [(g0, .inr (17, [.ref m0, .ref m1, .ref m2, .ref m3, .ref m4, .ref m5, .ref m6, .ref m7, .ref m8, .ref m9, .ref m10, .ref m11, .ref m12, .ref m13, .ref m14, .ref m15, .ref m16, .ref m17, .ref m18, .ref m19, .ref m20, .int 0, .int 0, .int 0, .int 0, .long 0, .int 0]))] H := hP
  have hD : va_D A [(g0, .inr (17, [.ref m0, .ref m1, .ref m2, .ref m3, .ref m4, .ref m5, .ref m6, .ref m7, .ref m8, .ref m9, .ref m10, .ref m11, .ref m12, .ref m13, .ref m14, .ref m15, .ref m16, .ref m17, .ref m18, .ref m19, .ref m20, .int 0, .int 0, .int 0, .int 0, .long 0, .int 0]))] := hD
  refine W.widen (k := 214) (n := 25118) (by omega) (by omega) ?_
  refine lv_istore (lv' := [(6, .int 1), (0, .ref b), (1, .ref x0), (2, .ref g0), (3, .ref o1), (4, .ref o2), (5, .int 0)]) hx hb dL_law_1003 hl (by decide) rfl (fun ls hl => ?_)
  refine lv_aload_n hx hb dL_law_1005 rfl (lv_at hl 3 rfl) ?_
  refine lv_aload_n hx hb dL_law_1006 rfl (lv_at hl 1 rfl) ?_
  refine lv_iload hx hb dL_law_1007 (lv_at hl 6 rfl) ?_
  refine lv_iconst (v := 1) hx hb dL_law_1009 (by decide) ?_
  refine lv_iadd hx hb dL_law_1010 ?_
  refine lv_topi (fun y5 ey5 => ?_)
  obtain rfl : y5 = 1 := ey5.trans (by decide +kernel)
  refine va_sld hx hb hXs hbl hbA hS (z_in 1 (by decide) (by decide)) dL_law_1011 ?_
  refine lv_topi (fun y6 ey6 => ?_)
  obtain rfl : y6 = (xs 1) := ey6.trans rfl
  refine zq_l (wc := [(g0, .inr (17, [.ref m0, .ref m1, .ref m2, .ref m3, .ref m4, .ref m5, .ref m6, .ref m7, .ref m8, .ref m9, .ref m10, .ref m11, .ref m12, .ref m13, .ref m14, .ref m15, .ref m16, .ref m17, .ref m18, .ref m19, .ref m20, .int 0, .int 0, .int 0, .int 0, .long 0, .int 0]))]) (wr := []) (va_runV (As := [.int (xs 1)]) (rest := []) ⟨hx, hb, hml, hown, hts⟩ (g_allFaults_no l D cy g0 m0 m1 m2 m3 m4 m5 m6 m7 m8 m9 m10 m11 m12 m13 m14 m15 m16 m17 m18 m19 m20 (xs 1) H.size hd) (cwV 1 hts (gzV (gz q641) q640 q642 q643 q285) rfl rfl rfl vX14_allFaults ⟨Nat.le_of_ble_eq_true rfl, Nat.le_of_ble_eq_true rfl⟩) (zpV (ci := 17) (T := TX14) (N := 27) (q0 := 0) hK hX hY hP hD hS hA [0] (by decide) rfl rfl rfl) rfl rfl hl.1 rfl (lv_room (Nat.le_of_ble_eq_true rfl)) dL_law_1012 ⟨Nat.le_of_ble_eq_true rfl, Nat.le_of_ble_eq_true rfl⟩) hP hD hS hA [0] [] rfl rfl (by decide) (by decide) (fun x8 u7 H locs hw hP hD hS => ?_)
  obtain rfl : x8 = 0 := hw
  have hP : va_P D vwCl [(g0, .inr (17, [.ref m0, .ref m1, .ref m2, .ref m3, .ref m4, .ref m5, .ref m6, .ref m7, .ref m8, .ref m9, .ref m10, .ref m11, .ref m12, .ref m13, .ref m14, .ref m15, .ref m16, .ref m17, .ref m18, .ref m19, .ref m20, .int 1, .int 0, .int 0, .int 0, .long 0, .int 0]))] H := hP
  have hD : va_D A [(g0, .inr (17, [.ref m0, .ref m1, .ref m2, .ref m3, .ref m4, .ref m5, .ref m6, .ref m7, .ref m8, .ref m9, .ref m10, .ref m11, .ref m12, .ref m13, .ref m14, .ref m15, .ref m16, .ref m17, .ref m18, .ref m19, .ref m20, .int 1, .int 0, .int 0, .int 0, .long 0, .int 0]))] := hD
  refine lv_lstore (lv' := [(7, .long 0), (6, .int 1), (0, .ref b), (1, .ref x0), (2, .ref g0), (3, .ref o1), (4, .ref o2), (5, .int 0)]) hx hb dL_law_1015 hl (by decide) rfl (fun ls hl => ?_)
  refine lv_aload_n hx hb dL_law_1017 rfl (lv_at hl 4 rfl) ?_
  refine zq_i (wc := [(g0, .inr (17, [.ref m0, .ref m1, .ref m2, .ref m3, .ref m4, .ref m5, .ref m6, .ref m7, .ref m8, .ref m9, .ref m10, .ref m11, .ref m12, .ref m13, .ref m14, .ref m15, .ref m16, .ref m17, .ref m18, .ref m19, .ref m20, .int 1, .int 0, .int 0, .int 0, .long 0, .int 0]))]) (wr := []) (va_runV (As := []) (rest := []) ⟨hx, hb, hml, hown, hts⟩ (k_thrown l D cy g0 m0 m1 m2 m3 m4 m5 m6 m7 m8 m9 m10 m11 m12 m13 m14 m15 m16 m17 m18 m19 m20 1 0 0 0 0 0 H.size ) (cwV 0 hts (gzV (gz q571) q570 q572 q573 q285) rfl rfl rfl vX14_thrown ⟨Nat.le_of_ble_eq_true rfl, Nat.le_of_ble_eq_true rfl⟩) (zpV (ci := 17) (T := TX14) (N := 27) (q0 := 0) hK hX hY hP hD hS hA [0] (by decide) rfl rfl rfl) rfl rfl hl.1 rfl (lv_room (Nat.le_of_ble_eq_true rfl)) dL_law_1018 ⟨Nat.le_of_ble_eq_true rfl, Nat.le_of_ble_eq_true rfl⟩) hP hD hS hA [0] [] rfl rfl (by decide) (by decide) (fun x10 u9 H locs hw hP hD hS => ?_)
  obtain rfl : x10 = 1 := hw
  have hP : va_P D vwCl [(g0, .inr (17, [.ref m0, .ref m1, .ref m2, .ref m3, .ref m4, .ref m5, .ref m6, .ref m7, .ref m8, .ref m9, .ref m10, .ref m11, .ref m12, .ref m13, .ref m14, .ref m15, .ref m16, .ref m17, .ref m18, .ref m19, .ref m20, .int 1, .int 0, .int 0, .int 0, .long 0, .int 0]))] H := hP
  have hD : va_D A [(g0, .inr (17, [.ref m0, .ref m1, .ref m2, .ref m3, .ref m4, .ref m5, .ref m6, .ref m7, .ref m8, .ref m9, .ref m10, .ref m11, .ref m12, .ref m13, .ref m14, .ref m15, .ref m16, .ref m17, .ref m18, .ref m19, .ref m20, .int 1, .int 0, .int 0, .int 0, .long 0, .int 0]))] := hD
  refine lv_iload hx hb dL_law_1021 (lv_at hl 1 rfl) ?_
  refine lv_icmp_eq (tgt := 1028) hx hb dL_law_1023 (by decide) (fun _ => ?_) (fun c_1023_10 => absurd (by decide +kernel) c_1023_10)
  refine lv_iload hx hb dL_law_1028 (lv_at hl 1 rfl) ?_
  refine lv_if_ne (tgt := 1044) hx hb dL_law_1030 (by decide) (fun _ => ?_) (fun c_1030_11 => absurd c_1030_11 (by decide +kernel))
  refine lv_goto (tgt := 2706) hx hb dL_law_1044 (by decide) ?_
  exact W.widen (k := 600006) (n := 7302040) (Nat.le_of_ble_eq_true rfl) (Nat.le_of_ble_eq_true rfl) (kt _ _ _ hS (lv_sub hl [2, 7] rfl))
set_option maxHeartbeats 4000000 in
set_option maxRecDepth 100000 in
theorem c_blunder_in (l : Launch) {p : Program} {e : Env} {s : State} {m : MethodId} {below : List Frame} {meth : Method} {c : Code} {D : va_G} {cy : Nat → ClassId} {A : Nat → Prop} {b : Nat} {xs : Nat → Int32} {Q : State → Prop} {H : Heap} {locs : List Loc} {ls : Array Slot} (Z : zLaw l p s m c D cy A b 9 xs) (x0 : Nat) (g0 : Nat) (o1 : Nat) (o2 : Nat) (vC : Nat) (vP : Nat) (vT : Nat) (vS : Nat) (vF : Nat) (vN : Nat) (vY : Nat) (sS : Nat) (sJ : Nat) (j1 : Nat) (j2 : Nat) (j3 : Nat) (jL : Nat) (p1 : Nat) (p2 : Nat) (p3 : Nat) (p4 : Nat) (p5 : Nat) (p6 : Nat) (p7 : Nat) (p8 : Nat) (rn : Nat → Nat) (rt : Nat → Nat) (m0 : Nat) (m1 : Nat) (m2 : Nat) (m3 : Nat) (m4 : Nat) (m5 : Nat) (m6 : Nat) (m7 : Nat) (m8 : Nat) (m9 : Nat) (m10 : Nat) (m11 : Nat) (m12 : Nat) (m13 : Nat) (m14 : Nat) (m15 : Nat) (m16 : Nat) (m17 : Nat) (m18 : Nat) (m19 : Nat) (m20 : Nat) (b1 : Nat) (hd : zDay (xs 1)) (hP : va_P D vwCl ((x0, .inr (12, [.ref vC, .ref vP, .ref vT, .ref vS, .ref vF, .ref vN, .ref vY, .int 0])) :: (vC, .inr (3, [.ref sS, .ref sJ, .int 0, .int 0])) :: (sJ, .inr (5, [.ref j1, .ref j2, .ref j3, .ref jL, .int 0])) :: (jL, .inl (cy 0, 9, .inl (fun _ => 0))) :: (vP, .inr (7, [.ref vC, .ref p1, .ref p2, .ref p3, .ref p4, .ref p5, .ref p6, .ref p7, .int 0, .long 0, .ref p8, .int 0, .int 0, .long 1])) :: (p1, .inl (cy 0, 9, .inl (fun _ => 0))) :: (p2, .inl (cy 2, 9, .inl (fun _ => 0))) :: (p8, .inl (cy 2, 24, .inl (fun _ => 0))) :: (p3, .inl (cy 0, 9, .inl (fun _ => 0))) :: (p4, .inl (cy 3, 8, .inr (.inr (.inr (.inr (fun k9 => if k9 < 8 then some (rn k9) else none)))))) :: ((rn 0), .inl (cy 1, 11, .inr (.inl (fun _ => 0)))) :: ((rn 1), .inl (cy 1, 11, .inr (.inl (fun _ => 0)))) :: ((rn 2), .inl (cy 1, 11, .inr (.inl (fun _ => 0)))) :: ((rn 3), .inl (cy 1, 11, .inr (.inl (fun _ => 0)))) :: ((rn 4), .inl (cy 1, 11, .inr (.inl (fun _ => 0)))) :: ((rn 5), .inl (cy 1, 11, .inr (.inl (fun _ => 0)))) :: ((rn 6), .inl (cy 1, 11, .inr (.inl (fun _ => 0)))) :: ((rn 7), .inl (cy 1, 11, .inr (.inl (fun _ => 0)))) :: (p5, .inl (cy 3, 9, .inr (.inr (.inr (.inr (fun k9 => if k9 < 9 then some (rt k9) else none)))))) :: ((rt 0), .inl (cy 1, 3, .inr (.inl (fun _ => 0)))) :: ((rt 1), .inl (cy 1, 3, .inr (.inl (fun _ => 0)))) :: ((rt 2), .inl (cy 1, 3, .inr (.inl (fun _ => 0)))) :: ((rt 3), .inl (cy 1, 3, .inr (.inl (fun _ => 0)))) :: ((rt 4), .inl (cy 1, 3, .inr (.inl (fun _ => 0)))) :: ((rt 5), .inl (cy 1, 3, .inr (.inl (fun _ => 0)))) :: ((rt 6), .inl (cy 1, 3, .inr (.inl (fun _ => 0)))) :: ((rt 7), .inl (cy 1, 3, .inr (.inl (fun _ => 0)))) :: ((rt 8), .inl (cy 1, 3, .inr (.inl (fun _ => 0)))) :: (g0, .inr (17, [.ref m0, .ref m1, .ref m2, .ref m3, .ref m4, .ref m5, .ref m6, .ref m7, .ref m8, .ref m9, .ref m10, .ref m11, .ref m12, .ref m13, .ref m14, .ref m15, .ref m16, .ref m17, .ref m18, .ref m19, .ref m20, .int 0, .int 0, .int 0, .int 0, .long 0, .int 0])) :: (m0, .inr (2, [.int 0, .ref b1, .int 0])) :: (m9, .inl (cy 0, 9, .inl (fun _ => 0))) :: (m12, .inl (cy 2, 9, .inl (fun _ => 0))) :: (m10, .inl (cy 0, 9, .inl (fun _ => 0))) :: (m14, .inl (cy 1, 256, .inr (.inl (fun _ => 0)))) :: (m16, .inl (cy 1, 64, .inr (.inl (fun _ => 0)))) :: (m17, .inl (cy 1, 24, .inr (.inl (fun _ => 0)))) :: []) H) (hD : va_D A ((x0, .inr (12, [.ref vC, .ref vP, .ref vT, .ref vS, .ref vF, .ref vN, .ref vY, .int 0])) :: (vC, .inr (3, [.ref sS, .ref sJ, .int 0, .int 0])) :: (sJ, .inr (5, [.ref j1, .ref j2, .ref j3, .ref jL, .int 0])) :: (jL, .inl (cy 0, 9, .inl (fun _ => 0))) :: (vP, .inr (7, [.ref vC, .ref p1, .ref p2, .ref p3, .ref p4, .ref p5, .ref p6, .ref p7, .int 0, .long 0, .ref p8, .int 0, .int 0, .long 1])) :: (p1, .inl (cy 0, 9, .inl (fun _ => 0))) :: (p2, .inl (cy 2, 9, .inl (fun _ => 0))) :: (p8, .inl (cy 2, 24, .inl (fun _ => 0))) :: (p3, .inl (cy 0, 9, .inl (fun _ => 0))) :: (p4, .inl (cy 3, 8, .inr (.inr (.inr (.inr (fun k9 => if k9 < 8 then some (rn k9) else none)))))) :: ((rn 0), .inl (cy 1, 11, .inr (.inl (fun _ => 0)))) :: ((rn 1), .inl (cy 1, 11, .inr (.inl (fun _ => 0)))) :: ((rn 2), .inl (cy 1, 11, .inr (.inl (fun _ => 0)))) :: ((rn 3), .inl (cy 1, 11, .inr (.inl (fun _ => 0)))) :: ((rn 4), .inl (cy 1, 11, .inr (.inl (fun _ => 0)))) :: ((rn 5), .inl (cy 1, 11, .inr (.inl (fun _ => 0)))) :: ((rn 6), .inl (cy 1, 11, .inr (.inl (fun _ => 0)))) :: ((rn 7), .inl (cy 1, 11, .inr (.inl (fun _ => 0)))) :: (p5, .inl (cy 3, 9, .inr (.inr (.inr (.inr (fun k9 => if k9 < 9 then some (rt k9) else none)))))) :: ((rt 0), .inl (cy 1, 3, .inr (.inl (fun _ => 0)))) :: ((rt 1), .inl (cy 1, 3, .inr (.inl (fun _ => 0)))) :: ((rt 2), .inl (cy 1, 3, .inr (.inl (fun _ => 0)))) :: ((rt 3), .inl (cy 1, 3, .inr (.inl (fun _ => 0)))) :: ((rt 4), .inl (cy 1, 3, .inr (.inl (fun _ => 0)))) :: ((rt 5), .inl (cy 1, 3, .inr (.inl (fun _ => 0)))) :: ((rt 6), .inl (cy 1, 3, .inr (.inl (fun _ => 0)))) :: ((rt 7), .inl (cy 1, 3, .inr (.inl (fun _ => 0)))) :: ((rt 8), .inl (cy 1, 3, .inr (.inl (fun _ => 0)))) :: (g0, .inr (17, [.ref m0, .ref m1, .ref m2, .ref m3, .ref m4, .ref m5, .ref m6, .ref m7, .ref m8, .ref m9, .ref m10, .ref m11, .ref m12, .ref m13, .ref m14, .ref m15, .ref m16, .ref m17, .ref m18, .ref m19, .ref m20, .int 0, .int 0, .int 0, .int 0, .long 0, .int 0])) :: (m0, .inr (2, [.int 0, .ref b1, .int 0])) :: (m9, .inl (cy 0, 9, .inl (fun _ => 0))) :: (m12, .inl (cy 2, 9, .inl (fun _ => 0))) :: (m10, .inl (cy 0, 9, .inl (fun _ => 0))) :: (m14, .inl (cy 1, 256, .inr (.inl (fun _ => 0)))) :: (m16, .inl (cy 1, 64, .inr (.inl (fun _ => 0)))) :: (m17, .inl (cy 1, 24, .inr (.inl (fun _ => 0)))) :: [])) (hS : va_S A s.heap H locs) (hl : lv_has ls 9 [(0, .ref b), (1, .ref x0), (2, .ref g0), (3, .ref o1), (4, .ref o2), (5, .int 0)]) (kt : ∀ (H : Heap) (locs : List Loc) (ls : Array Slot), va_S A s.heap H locs → lv_has ls 9 [(0, .ref b), (5, .int 0)] → W p l e room_1 s m #[Value.ref b] below meth c H locs 600006 7302040 Q (F0 m 2706 ls [])) : W p l e room_1 s m #[Value.ref b] below meth c H locs 213 25112 Q (F0 m 1047 ls []) := by
  obtain ⟨hx, hb, hml, hown, hts, hK, hX, hY, hA, hXs, hbl, hbA, hlt⟩ := id Z
  refine lv_aload_n hx hb dL_law_1047 rfl (lv_at hl 1 rfl) ?_
  refine lv_aload_n hx hb dL_law_1048 rfl (lv_at hl 0 rfl) ?_
  refine lv_iload hx hb dL_law_1049 (lv_at hl 5 rfl) ?_
  refine lv_iconst (v := 1) hx hb dL_law_1051 (by decide) ?_
  refine lv_iadd hx hb dL_law_1052 ?_
  refine lv_topi (fun y1 ey1 => ?_)
  obtain rfl : y1 = 1 := ey1.trans (by decide +kernel)
  refine va_sld hx hb hXs hbl hbA hS (z_in 1 (by decide) (by decide)) dL_law_1053 ?_
  refine lv_topi (fun y2 ey2 => ?_)
  obtain rfl : y2 = (xs 1) := ey2.trans rfl
  refine lv_aload_n hx hb dL_law_1054 rfl (lv_at hl 3 rfl) ?_
  refine zq_i (wc := [(x0, .inr (12, [.ref vC, .ref vP, .ref vT, .ref vS, .ref vF, .ref vN, .ref vY, .int 0])), (vC, .inr (3, [.ref sS, .ref sJ, .int 0, .int 0])), (sJ, .inr (5, [.ref j1, .ref j2, .ref j3, .ref jL, .int 0])), (jL, .inl (cy 0, 9, .inl (fun _ => 0))), (vP, .inr (7, [.ref vC, .ref p1, .ref p2, .ref p3, .ref p4, .ref p5, .ref p6, .ref p7, .int 0, .long 0, .ref p8, .int 0, .int 0, .long 1])), (p1, .inl (cy 0, 9, .inl (fun _ => 0))), (p2, .inl (cy 2, 9, .inl (fun _ => 0))), (p8, .inl (cy 2, 24, .inl (fun _ => 0))), (p3, .inl (cy 0, 9, .inl (fun _ => 0))), (p4, .inl (cy 3, 8, .inr (.inr (.inr (.inr (fun k9 => if k9 < 8 then some (rn k9) else none)))))), ((rn 0), .inl (cy 1, 11, .inr (.inl (fun _ => 0)))), ((rn 1), .inl (cy 1, 11, .inr (.inl (fun _ => 0)))), ((rn 2), .inl (cy 1, 11, .inr (.inl (fun _ => 0)))), ((rn 3), .inl (cy 1, 11, .inr (.inl (fun _ => 0)))), ((rn 4), .inl (cy 1, 11, .inr (.inl (fun _ => 0)))), ((rn 5), .inl (cy 1, 11, .inr (.inl (fun _ => 0)))), ((rn 6), .inl (cy 1, 11, .inr (.inl (fun _ => 0)))), ((rn 7), .inl (cy 1, 11, .inr (.inl (fun _ => 0)))), (p5, .inl (cy 3, 9, .inr (.inr (.inr (.inr (fun k9 => if k9 < 9 then some (rt k9) else none)))))), ((rt 0), .inl (cy 1, 3, .inr (.inl (fun _ => 0)))), ((rt 1), .inl (cy 1, 3, .inr (.inl (fun _ => 0)))), ((rt 2), .inl (cy 1, 3, .inr (.inl (fun _ => 0)))), ((rt 3), .inl (cy 1, 3, .inr (.inl (fun _ => 0)))), ((rt 4), .inl (cy 1, 3, .inr (.inl (fun _ => 0)))), ((rt 5), .inl (cy 1, 3, .inr (.inl (fun _ => 0)))), ((rt 6), .inl (cy 1, 3, .inr (.inl (fun _ => 0)))), ((rt 7), .inl (cy 1, 3, .inr (.inl (fun _ => 0)))), ((rt 8), .inl (cy 1, 3, .inr (.inl (fun _ => 0))))]) (wr := [(g0, .inr (17, [.ref m0, .ref m1, .ref m2, .ref m3, .ref m4, .ref m5, .ref m6, .ref m7, .ref m8, .ref m9, .ref m10, .ref m11, .ref m12, .ref m13, .ref m14, .ref m15, .ref m16, .ref m17, .ref m18, .ref m19, .ref m20, .int 0, .int 0, .int 0, .int 0, .long 0, .int 0])), (m0, .inr (2, [.int 0, .ref b1, .int 0])), (m9, .inl (cy 0, 9, .inl (fun _ => 0))), (m12, .inl (cy 2, 9, .inl (fun _ => 0))), (m10, .inl (cy 0, 9, .inl (fun _ => 0))), (m14, .inl (cy 1, 256, .inr (.inl (fun _ => 0)))), (m16, .inl (cy 1, 64, .inr (.inl (fun _ => 0)))), (m17, .inl (cy 1, 24, .inr (.inl (fun _ => 0))))]) (vx_runSW (As := [.ref x0, .int (xs 1), .ref o1]) (rest := []) ⟨hx, hb, hml, hown, hts⟩ (w_blunder_in l hlt D cy x0 vC vP vT vS vF vN vY sS sJ j1 j2 j3 jL p1 p2 p3 p4 p5 p6 p7 p8 rn rt (xs 1) o1 H.size hd) (vx_cwSW 3 hts (gzS (gzW q645) q644 q646 q565) rfl rfl rfl vL_blunder.2 ⟨Nat.le_of_ble_eq_true rfl, Nat.le_of_ble_eq_true rfl⟩) (zpS hK hX hY hP hD hS hA [0, 1, 2, 3, 4, 5, 6, 7, 8, 9, 10, 11, 12, 13, 14, 15, 16, 17, 18, 19, 20, 21, 22, 23, 24, 25, 26, 27] (by decide) rfl) rfl rfl hl.1 rfl (lv_room (Nat.le_of_ble_eq_true rfl)) dL_law_1055 ⟨Nat.le_of_ble_eq_true rfl, Nat.le_of_ble_eq_true rfl⟩) hP hD hS hA [0, 1, 2, 3, 4, 5, 6, 7, 8, 9, 10, 11, 12, 13, 14, 15, 16, 17, 18, 19, 20, 21, 22, 23, 24, 25, 26, 27] [28, 29, 30, 31, 32, 33, 34, 35] rfl rfl (by decide) (by decide) (fun x4 u3 H locs hw hP hD hS => ?_)
  obtain rfl : x4 = 2 := hw
  have hP : va_P D vwCl [(g0, .inr (17, [.ref m0, .ref m1, .ref m2, .ref m3, .ref m4, .ref m5, .ref m6, .ref m7, .ref m8, .ref m9, .ref m10, .ref m11, .ref m12, .ref m13, .ref m14, .ref m15, .ref m16, .ref m17, .ref m18, .ref m19, .ref m20, .int 0, .int 0, .int 0, .int 0, .long 0, .int 0])), (m0, .inr (2, [.int 0, .ref b1, .int 0])), (m9, .inl (cy 0, 9, .inl (fun _ => 0))), (m12, .inl (cy 2, 9, .inl (fun _ => 0))), (m10, .inl (cy 0, 9, .inl (fun _ => 0))), (m14, .inl (cy 1, 256, .inr (.inl (fun _ => 0)))), (m16, .inl (cy 1, 64, .inr (.inl (fun _ => 0)))), (m17, .inl (cy 1, 24, .inr (.inl (fun _ => 0))))] H := hP
  have hD : va_D A [(g0, .inr (17, [.ref m0, .ref m1, .ref m2, .ref m3, .ref m4, .ref m5, .ref m6, .ref m7, .ref m8, .ref m9, .ref m10, .ref m11, .ref m12, .ref m13, .ref m14, .ref m15, .ref m16, .ref m17, .ref m18, .ref m19, .ref m20, .int 0, .int 0, .int 0, .int 0, .long 0, .int 0])), (m0, .inr (2, [.int 0, .ref b1, .int 0])), (m9, .inl (cy 0, 9, .inl (fun _ => 0))), (m12, .inl (cy 2, 9, .inl (fun _ => 0))), (m10, .inl (cy 0, 9, .inl (fun _ => 0))), (m14, .inl (cy 1, 256, .inr (.inl (fun _ => 0)))), (m16, .inl (cy 1, 64, .inr (.inl (fun _ => 0)))), (m17, .inl (cy 1, 24, .inr (.inl (fun _ => 0))))] := hD
  refine W.widen (k := 214) (n := 25118) (by omega) (by omega) ?_
  refine lv_istore (lv' := [(6, .int 2), (0, .ref b), (1, .ref x0), (2, .ref g0), (3, .ref o1), (4, .ref o2), (5, .int 0)]) hx hb dL_law_1058 hl (by decide) rfl (fun ls hl => ?_)
  refine lv_aload_n hx hb dL_law_1060 rfl (lv_at hl 3 rfl) ?_
  refine lv_aload_n hx hb dL_law_1061 rfl (lv_at hl 1 rfl) ?_
  refine lv_iload hx hb dL_law_1062 (lv_at hl 6 rfl) ?_
  refine lv_iconst (v := 1) hx hb dL_law_1064 (by decide) ?_
  refine lv_iadd hx hb dL_law_1065 ?_
  refine lv_topi (fun y5 ey5 => ?_)
  obtain rfl : y5 = 1 := ey5.trans (by decide +kernel)
  refine va_sld hx hb hXs hbl hbA hS (z_in 1 (by decide) (by decide)) dL_law_1066 ?_
  refine lv_topi (fun y6 ey6 => ?_)
  obtain rfl : y6 = (xs 1) := ey6.trans rfl
  refine zq_i (wc := [(g0, .inr (17, [.ref m0, .ref m1, .ref m2, .ref m3, .ref m4, .ref m5, .ref m6, .ref m7, .ref m8, .ref m9, .ref m10, .ref m11, .ref m12, .ref m13, .ref m14, .ref m15, .ref m16, .ref m17, .ref m18, .ref m19, .ref m20, .int 0, .int 0, .int 0, .int 0, .long 0, .int 0])), (m0, .inr (2, [.int 0, .ref b1, .int 0])), (m9, .inl (cy 0, 9, .inl (fun _ => 0))), (m12, .inl (cy 2, 9, .inl (fun _ => 0))), (m10, .inl (cy 0, 9, .inl (fun _ => 0))), (m14, .inl (cy 1, 256, .inr (.inl (fun _ => 0)))), (m16, .inl (cy 1, 64, .inr (.inl (fun _ => 0)))), (m17, .inl (cy 1, 24, .inr (.inl (fun _ => 0))))]) (wr := []) (va_runV (As := [.int (xs 1)]) (rest := []) ⟨hx, hb, hml, hown, hts⟩ (g_blunder_in l D cy g0 m0 m1 m2 m3 m4 m5 m6 m7 m8 m9 m10 m11 m12 m13 m14 m15 m16 m17 m18 m19 m20 b1 (xs 1) H.size hd) (cwV 1 hts (gzV (gz q648) q647 q649 q650 q285) rfl rfl rfl vX14_blunder ⟨Nat.le_of_ble_eq_true rfl, Nat.le_of_ble_eq_true rfl⟩) (zpV (ci := 17) (T := TX14) (N := 27) (q0 := 0) hK hX hY hP hD hS hA [0, 1, 2, 3, 4, 5, 6, 7] (by decide) rfl rfl rfl) rfl rfl hl.1 rfl (lv_room (Nat.le_of_ble_eq_true rfl)) dL_law_1067 ⟨Nat.le_of_ble_eq_true rfl, Nat.le_of_ble_eq_true rfl⟩) hP hD hS hA [0, 1, 2, 3, 4, 5, 6, 7] [] rfl rfl (by decide) (by decide) (fun x8 u7 H locs hw hP hD hS => ?_)
  obtain rfl : x8 = 0 := hw
  have hP : va_P D vwCl [(g0, .inr (17, [.ref m0, .ref m1, .ref m2, .ref m3, .ref m4, .ref m5, .ref m6, .ref m7, .ref m8, .ref m9, .ref m10, .ref m11, .ref m12, .ref m13, .ref m14, .ref m15, .ref m16, .ref m17, .ref m18, .ref m19, .ref m20, .int 2, .int 0, .int 0, .int 0, .long 1, .int 0]))] H := hP
  have hD : va_D A [(g0, .inr (17, [.ref m0, .ref m1, .ref m2, .ref m3, .ref m4, .ref m5, .ref m6, .ref m7, .ref m8, .ref m9, .ref m10, .ref m11, .ref m12, .ref m13, .ref m14, .ref m15, .ref m16, .ref m17, .ref m18, .ref m19, .ref m20, .int 2, .int 0, .int 0, .int 0, .long 1, .int 0]))] := hD
  refine W.widen (k := 220) (n := 25193) (by omega) (by omega) ?_
  refine lv_istore (lv' := [(7, .int 0), (6, .int 2), (0, .ref b), (1, .ref x0), (2, .ref g0), (3, .ref o1), (4, .ref o2), (5, .int 0)]) hx hb dL_law_1070 hl (by decide) rfl (fun ls hl => ?_)
  refine lv_aload_n hx hb dL_law_1072 rfl (lv_at hl 4 rfl) ?_
  refine zq_i (wc := [(g0, .inr (17, [.ref m0, .ref m1, .ref m2, .ref m3, .ref m4, .ref m5, .ref m6, .ref m7, .ref m8, .ref m9, .ref m10, .ref m11, .ref m12, .ref m13, .ref m14, .ref m15, .ref m16, .ref m17, .ref m18, .ref m19, .ref m20, .int 2, .int 0, .int 0, .int 0, .long 1, .int 0]))]) (wr := []) (va_runV (As := []) (rest := []) ⟨hx, hb, hml, hown, hts⟩ (k_thrown l D cy g0 m0 m1 m2 m3 m4 m5 m6 m7 m8 m9 m10 m11 m12 m13 m14 m15 m16 m17 m18 m19 m20 2 0 0 0 1 0 H.size ) (cwV 0 hts (gzV (gz q571) q570 q572 q573 q285) rfl rfl rfl vX14_thrown ⟨Nat.le_of_ble_eq_true rfl, Nat.le_of_ble_eq_true rfl⟩) (zpV (ci := 17) (T := TX14) (N := 27) (q0 := 0) hK hX hY hP hD hS hA [0] (by decide) rfl rfl rfl) rfl rfl hl.1 rfl (lv_room (Nat.le_of_ble_eq_true rfl)) dL_law_1073 ⟨Nat.le_of_ble_eq_true rfl, Nat.le_of_ble_eq_true rfl⟩) hP hD hS hA [0] [] rfl rfl (by decide) (by decide) (fun x10 u9 H locs hw hP hD hS => ?_)
  obtain rfl : x10 = 2 := hw
  have hP : va_P D vwCl [(g0, .inr (17, [.ref m0, .ref m1, .ref m2, .ref m3, .ref m4, .ref m5, .ref m6, .ref m7, .ref m8, .ref m9, .ref m10, .ref m11, .ref m12, .ref m13, .ref m14, .ref m15, .ref m16, .ref m17, .ref m18, .ref m19, .ref m20, .int 2, .int 0, .int 0, .int 0, .long 1, .int 0]))] H := hP
  have hD : va_D A [(g0, .inr (17, [.ref m0, .ref m1, .ref m2, .ref m3, .ref m4, .ref m5, .ref m6, .ref m7, .ref m8, .ref m9, .ref m10, .ref m11, .ref m12, .ref m13, .ref m14, .ref m15, .ref m16, .ref m17, .ref m18, .ref m19, .ref m20, .int 2, .int 0, .int 0, .int 0, .long 1, .int 0]))] := hD
  refine lv_iload hx hb dL_law_1076 (lv_at hl 1 rfl) ?_
  refine lv_icmp_eq (tgt := 1083) hx hb dL_law_1078 (by decide) (fun _ => ?_) (fun c_1078_10 => absurd (by decide +kernel) c_1078_10)
  refine lv_iload hx hb dL_law_1083 (lv_at hl 1 rfl) ?_
  refine lv_if_ne (tgt := 1100) hx hb dL_law_1085 (by decide) (fun _ => ?_) (fun c_1085_11 => absurd c_1085_11 (by decide +kernel))
  refine lv_goto (tgt := 2706) hx hb dL_law_1100 (by decide) ?_
  exact W.widen (k := 600006) (n := 7302040) (Nat.le_of_ble_eq_true rfl) (Nat.le_of_ble_eq_true rfl) (kt _ _ _ hS (lv_sub hl [2, 7] rfl))
set_option maxHeartbeats 4000000 in
set_option maxRecDepth 100000 in
theorem c_blunder_no (l : Launch) {p : Program} {e : Env} {s : State} {m : MethodId} {below : List Frame} {meth : Method} {c : Code} {D : va_G} {cy : Nat → ClassId} {A : Nat → Prop} {b : Nat} {xs : Nat → Int32} {Q : State → Prop} {H : Heap} {locs : List Loc} {ls : Array Slot} (Z : zLaw l p s m c D cy A b 9 xs) (x0 : Nat) (g0 : Nat) (o1 : Nat) (o2 : Nat) (vC : Nat) (vP : Nat) (vT : Nat) (vS : Nat) (vF : Nat) (vN : Nat) (vY : Nat) (m0 : Nat) (m1 : Nat) (m2 : Nat) (m3 : Nat) (m4 : Nat) (m5 : Nat) (m6 : Nat) (m7 : Nat) (m8 : Nat) (m9 : Nat) (m10 : Nat) (m11 : Nat) (m12 : Nat) (m13 : Nat) (m14 : Nat) (m15 : Nat) (m16 : Nat) (m17 : Nat) (m18 : Nat) (m19 : Nat) (m20 : Nat) (hd : zNoDay (xs 1)) (hP : va_P D vwCl [(x0, .inr (12, [.ref vC, .ref vP, .ref vT, .ref vS, .ref vF, .ref vN, .ref vY, .int 0])), (g0, .inr (17, [.ref m0, .ref m1, .ref m2, .ref m3, .ref m4, .ref m5, .ref m6, .ref m7, .ref m8, .ref m9, .ref m10, .ref m11, .ref m12, .ref m13, .ref m14, .ref m15, .ref m16, .ref m17, .ref m18, .ref m19, .ref m20, .int 0, .int 0, .int 0, .int 0, .long 0, .int 0]))] H) (hD : va_D A [(x0, .inr (12, [.ref vC, .ref vP, .ref vT, .ref vS, .ref vF, .ref vN, .ref vY, .int 0])), (g0, .inr (17, [.ref m0, .ref m1, .ref m2, .ref m3, .ref m4, .ref m5, .ref m6, .ref m7, .ref m8, .ref m9, .ref m10, .ref m11, .ref m12, .ref m13, .ref m14, .ref m15, .ref m16, .ref m17, .ref m18, .ref m19, .ref m20, .int 0, .int 0, .int 0, .int 0, .long 0, .int 0]))]) (hS : va_S A s.heap H locs) (hl : lv_has ls 9 [(0, .ref b), (1, .ref x0), (2, .ref g0), (3, .ref o1), (4, .ref o2), (5, .int 0)]) (kt : ∀ (H : Heap) (locs : List Loc) (ls : Array Slot), va_S A s.heap H locs → lv_has ls 9 [(0, .ref b), (5, .int 0)] → W p l e room_1 s m #[Value.ref b] below meth c H locs 600006 7302040 Q (F0 m 2706 ls [])) : W p l e room_1 s m #[Value.ref b] below meth c H locs 213 25112 Q (F0 m 1047 ls []) := by
  obtain ⟨hx, hb, hml, hown, hts, hK, hX, hY, hA, hXs, hbl, hbA, hlt⟩ := id Z
  refine lv_aload_n hx hb dL_law_1047 rfl (lv_at hl 1 rfl) ?_
  refine lv_aload_n hx hb dL_law_1048 rfl (lv_at hl 0 rfl) ?_
  refine lv_iload hx hb dL_law_1049 (lv_at hl 5 rfl) ?_
  refine lv_iconst (v := 1) hx hb dL_law_1051 (by decide) ?_
  refine lv_iadd hx hb dL_law_1052 ?_
  refine lv_topi (fun y1 ey1 => ?_)
  obtain rfl : y1 = 1 := ey1.trans (by decide +kernel)
  refine va_sld hx hb hXs hbl hbA hS (z_in 1 (by decide) (by decide)) dL_law_1053 ?_
  refine lv_topi (fun y2 ey2 => ?_)
  obtain rfl : y2 = (xs 1) := ey2.trans rfl
  refine lv_aload_n hx hb dL_law_1054 rfl (lv_at hl 3 rfl) ?_
  refine zq_i (wc := [(x0, .inr (12, [.ref vC, .ref vP, .ref vT, .ref vS, .ref vF, .ref vN, .ref vY, .int 0]))]) (wr := [(g0, .inr (17, [.ref m0, .ref m1, .ref m2, .ref m3, .ref m4, .ref m5, .ref m6, .ref m7, .ref m8, .ref m9, .ref m10, .ref m11, .ref m12, .ref m13, .ref m14, .ref m15, .ref m16, .ref m17, .ref m18, .ref m19, .ref m20, .int 0, .int 0, .int 0, .int 0, .long 0, .int 0]))]) (vx_runSW (As := [.ref x0, .int (xs 1), .ref o1]) (rest := []) ⟨hx, hb, hml, hown, hts⟩ (w_blunder_no l hlt D cy x0 vC vP vT vS vF vN vY (xs 1) o1 H.size hd) (vx_cwSW 3 hts (gzS (gzW q645) q644 q646 q565) rfl rfl rfl vL_blunder.2 ⟨Nat.le_of_ble_eq_true rfl, Nat.le_of_ble_eq_true rfl⟩) (zpS hK hX hY hP hD hS hA [0] (by decide) rfl) rfl rfl hl.1 rfl (lv_room (Nat.le_of_ble_eq_true rfl)) dL_law_1055 ⟨Nat.le_of_ble_eq_true rfl, Nat.le_of_ble_eq_true rfl⟩) hP hD hS hA [0] [1] rfl rfl (by decide) (by decide) (fun x4 u3 H locs hw hP hD hS => ?_)
  obtain rfl : x4 = 1 := hw
  have hP : va_P D vwCl [(g0, .inr (17, [.ref m0, .ref m1, .ref m2, .ref m3, .ref m4, .ref m5, .ref m6, .ref m7, .ref m8, .ref m9, .ref m10, .ref m11, .ref m12, .ref m13, .ref m14, .ref m15, .ref m16, .ref m17, .ref m18, .ref m19, .ref m20, .int 0, .int 0, .int 0, .int 0, .long 0, .int 0]))] H := hP
  have hD : va_D A [(g0, .inr (17, [.ref m0, .ref m1, .ref m2, .ref m3, .ref m4, .ref m5, .ref m6, .ref m7, .ref m8, .ref m9, .ref m10, .ref m11, .ref m12, .ref m13, .ref m14, .ref m15, .ref m16, .ref m17, .ref m18, .ref m19, .ref m20, .int 0, .int 0, .int 0, .int 0, .long 0, .int 0]))] := hD
  refine W.widen (k := 214) (n := 25118) (by omega) (by omega) ?_
  refine lv_istore (lv' := [(6, .int 1), (0, .ref b), (1, .ref x0), (2, .ref g0), (3, .ref o1), (4, .ref o2), (5, .int 0)]) hx hb dL_law_1058 hl (by decide) rfl (fun ls hl => ?_)
  refine lv_aload_n hx hb dL_law_1060 rfl (lv_at hl 3 rfl) ?_
  refine lv_aload_n hx hb dL_law_1061 rfl (lv_at hl 1 rfl) ?_
  refine lv_iload hx hb dL_law_1062 (lv_at hl 6 rfl) ?_
  refine lv_iconst (v := 1) hx hb dL_law_1064 (by decide) ?_
  refine lv_iadd hx hb dL_law_1065 ?_
  refine lv_topi (fun y5 ey5 => ?_)
  obtain rfl : y5 = 1 := ey5.trans (by decide +kernel)
  refine va_sld hx hb hXs hbl hbA hS (z_in 1 (by decide) (by decide)) dL_law_1066 ?_
  refine lv_topi (fun y6 ey6 => ?_)
  obtain rfl : y6 = (xs 1) := ey6.trans rfl
  refine zq_i (wc := [(g0, .inr (17, [.ref m0, .ref m1, .ref m2, .ref m3, .ref m4, .ref m5, .ref m6, .ref m7, .ref m8, .ref m9, .ref m10, .ref m11, .ref m12, .ref m13, .ref m14, .ref m15, .ref m16, .ref m17, .ref m18, .ref m19, .ref m20, .int 0, .int 0, .int 0, .int 0, .long 0, .int 0]))]) (wr := []) (va_runV (As := [.int (xs 1)]) (rest := []) ⟨hx, hb, hml, hown, hts⟩ (g_blunder_no l D cy g0 m0 m1 m2 m3 m4 m5 m6 m7 m8 m9 m10 m11 m12 m13 m14 m15 m16 m17 m18 m19 m20 (xs 1) H.size hd) (cwV 1 hts (gzV (gz q648) q647 q649 q650 q285) rfl rfl rfl vX14_blunder ⟨Nat.le_of_ble_eq_true rfl, Nat.le_of_ble_eq_true rfl⟩) (zpV (ci := 17) (T := TX14) (N := 27) (q0 := 0) hK hX hY hP hD hS hA [0] (by decide) rfl rfl rfl) rfl rfl hl.1 rfl (lv_room (Nat.le_of_ble_eq_true rfl)) dL_law_1067 ⟨Nat.le_of_ble_eq_true rfl, Nat.le_of_ble_eq_true rfl⟩) hP hD hS hA [0] [] rfl rfl (by decide) (by decide) (fun x8 u7 H locs hw hP hD hS => ?_)
  obtain rfl : x8 = 0 := hw
  have hP : va_P D vwCl [(g0, .inr (17, [.ref m0, .ref m1, .ref m2, .ref m3, .ref m4, .ref m5, .ref m6, .ref m7, .ref m8, .ref m9, .ref m10, .ref m11, .ref m12, .ref m13, .ref m14, .ref m15, .ref m16, .ref m17, .ref m18, .ref m19, .ref m20, .int 1, .int 0, .int 0, .int 0, .long 0, .int 0]))] H := hP
  have hD : va_D A [(g0, .inr (17, [.ref m0, .ref m1, .ref m2, .ref m3, .ref m4, .ref m5, .ref m6, .ref m7, .ref m8, .ref m9, .ref m10, .ref m11, .ref m12, .ref m13, .ref m14, .ref m15, .ref m16, .ref m17, .ref m18, .ref m19, .ref m20, .int 1, .int 0, .int 0, .int 0, .long 0, .int 0]))] := hD
  refine lv_istore (lv' := [(7, .int 0), (6, .int 1), (0, .ref b), (1, .ref x0), (2, .ref g0), (3, .ref o1), (4, .ref o2), (5, .int 0)]) hx hb dL_law_1070 hl (by decide) rfl (fun ls hl => ?_)
  refine lv_aload_n hx hb dL_law_1072 rfl (lv_at hl 4 rfl) ?_
  refine zq_i (wc := [(g0, .inr (17, [.ref m0, .ref m1, .ref m2, .ref m3, .ref m4, .ref m5, .ref m6, .ref m7, .ref m8, .ref m9, .ref m10, .ref m11, .ref m12, .ref m13, .ref m14, .ref m15, .ref m16, .ref m17, .ref m18, .ref m19, .ref m20, .int 1, .int 0, .int 0, .int 0, .long 0, .int 0]))]) (wr := []) (va_runV (As := []) (rest := []) ⟨hx, hb, hml, hown, hts⟩ (k_thrown l D cy g0 m0 m1 m2 m3 m4 m5 m6 m7 m8 m9 m10 m11 m12 m13 m14 m15 m16 m17 m18 m19 m20 1 0 0 0 0 0 H.size ) (cwV 0 hts (gzV (gz q571) q570 q572 q573 q285) rfl rfl rfl vX14_thrown ⟨Nat.le_of_ble_eq_true rfl, Nat.le_of_ble_eq_true rfl⟩) (zpV (ci := 17) (T := TX14) (N := 27) (q0 := 0) hK hX hY hP hD hS hA [0] (by decide) rfl rfl rfl) rfl rfl hl.1 rfl (lv_room (Nat.le_of_ble_eq_true rfl)) dL_law_1073 ⟨Nat.le_of_ble_eq_true rfl, Nat.le_of_ble_eq_true rfl⟩) hP hD hS hA [0] [] rfl rfl (by decide) (by decide) (fun x10 u9 H locs hw hP hD hS => ?_)
  obtain rfl : x10 = 1 := hw
  have hP : va_P D vwCl [(g0, .inr (17, [.ref m0, .ref m1, .ref m2, .ref m3, .ref m4, .ref m5, .ref m6, .ref m7, .ref m8, .ref m9, .ref m10, .ref m11, .ref m12, .ref m13, .ref m14, .ref m15, .ref m16, .ref m17, .ref m18, .ref m19, .ref m20, .int 1, .int 0, .int 0, .int 0, .long 0, .int 0]))] H := hP
  have hD : va_D A [(g0, .inr (17, [.ref m0, .ref m1, .ref m2, .ref m3, .ref m4, .ref m5, .ref m6, .ref m7, .ref m8, .ref m9, .ref m10, .ref m11, .ref m12, .ref m13, .ref m14, .ref m15, .ref m16, .ref m17, .ref m18, .ref m19, .ref m20, .int 1, .int 0, .int 0, .int 0, .long 0, .int 0]))] := hD
  refine lv_iload hx hb dL_law_1076 (lv_at hl 1 rfl) ?_
  refine lv_icmp_eq (tgt := 1083) hx hb dL_law_1078 (by decide) (fun _ => ?_) (fun c_1078_10 => absurd (by decide +kernel) c_1078_10)
  refine lv_iload hx hb dL_law_1083 (lv_at hl 1 rfl) ?_
  refine lv_if_ne (tgt := 1100) hx hb dL_law_1085 (by decide) (fun _ => ?_) (fun c_1085_11 => absurd c_1085_11 (by decide +kernel))
  refine lv_goto (tgt := 2706) hx hb dL_law_1100 (by decide) ?_
  exact W.widen (k := 600006) (n := 7302040) (Nat.le_of_ble_eq_true rfl) (Nat.le_of_ble_eq_true rfl) (kt _ _ _ hS (lv_sub hl [2, 7] rfl))
set_option maxHeartbeats 4000000 in
set_option maxRecDepth 100000 in
theorem c_length_in (l : Launch) {p : Program} {e : Env} {s : State} {m : MethodId} {below : List Frame} {meth : Method} {c : Code} {D : va_G} {cy : Nat → ClassId} {A : Nat → Prop} {b : Nat} {xs : Nat → Int32} {Q : State → Prop} {H : Heap} {locs : List Loc} {ls : Array Slot} (Z : zLaw l p s m c D cy A b 9 xs) (x0 : Nat) (g0 : Nat) (o1 : Nat) (o2 : Nat) (vC : Nat) (vP : Nat) (vT : Nat) (vS : Nat) (vF : Nat) (vN : Nat) (vY : Nat) (sS : Nat) (sJ : Nat) (j1 : Nat) (j2 : Nat) (j3 : Nat) (jL : Nat) (p1 : Nat) (p2 : Nat) (p3 : Nat) (p4 : Nat) (p5 : Nat) (p6 : Nat) (p7 : Nat) (p8 : Nat) (m0 : Nat) (m1 : Nat) (m2 : Nat) (m3 : Nat) (m4 : Nat) (m5 : Nat) (m6 : Nat) (m7 : Nat) (m8 : Nat) (m9 : Nat) (m10 : Nat) (m11 : Nat) (m12 : Nat) (m13 : Nat) (m14 : Nat) (m15 : Nat) (m16 : Nat) (m17 : Nat) (m18 : Nat) (m19 : Nat) (m20 : Nat) (b1 : Nat) (hd : zDay (xs 1)) (hP : va_P D vwCl [(x0, .inr (12, [.ref vC, .ref vP, .ref vT, .ref vS, .ref vF, .ref vN, .ref vY, .int 0])), (vC, .inr (3, [.ref sS, .ref sJ, .int 0, .int 0])), (sJ, .inr (5, [.ref j1, .ref j2, .ref j3, .ref jL, .int 0])), (jL, .inl (cy 0, 9, .inl (fun _ => 0))), (vP, .inr (7, [.ref vC, .ref p1, .ref p2, .ref p3, .ref p4, .ref p5, .ref p6, .ref p7, .int 0, .long 0, .ref p8, .int 0, .int 0, .long 1])), (p1, .inl (cy 0, 9, .inl (fun _ => 0))), (p2, .inl (cy 2, 9, .inl (fun _ => 0))), (p8, .inl (cy 2, 24, .inl (fun _ => 0))), (o1, .inl (cy 1, 1, .inr (.inl (fun _ => 0)))), (g0, .inr (17, [.ref m0, .ref m1, .ref m2, .ref m3, .ref m4, .ref m5, .ref m6, .ref m7, .ref m8, .ref m9, .ref m10, .ref m11, .ref m12, .ref m13, .ref m14, .ref m15, .ref m16, .ref m17, .ref m18, .ref m19, .ref m20, .int 0, .int 0, .int 0, .int 0, .long 0, .int 0])), (m0, .inr (2, [.int 0, .ref b1, .int 0])), (m9, .inl (cy 0, 9, .inl (fun _ => 0))), (m12, .inl (cy 2, 9, .inl (fun _ => 0))), (m10, .inl (cy 0, 9, .inl (fun _ => 0)))] H) (hD : va_D A [(x0, .inr (12, [.ref vC, .ref vP, .ref vT, .ref vS, .ref vF, .ref vN, .ref vY, .int 0])), (vC, .inr (3, [.ref sS, .ref sJ, .int 0, .int 0])), (sJ, .inr (5, [.ref j1, .ref j2, .ref j3, .ref jL, .int 0])), (jL, .inl (cy 0, 9, .inl (fun _ => 0))), (vP, .inr (7, [.ref vC, .ref p1, .ref p2, .ref p3, .ref p4, .ref p5, .ref p6, .ref p7, .int 0, .long 0, .ref p8, .int 0, .int 0, .long 1])), (p1, .inl (cy 0, 9, .inl (fun _ => 0))), (p2, .inl (cy 2, 9, .inl (fun _ => 0))), (p8, .inl (cy 2, 24, .inl (fun _ => 0))), (o1, .inl (cy 1, 1, .inr (.inl (fun _ => 0)))), (g0, .inr (17, [.ref m0, .ref m1, .ref m2, .ref m3, .ref m4, .ref m5, .ref m6, .ref m7, .ref m8, .ref m9, .ref m10, .ref m11, .ref m12, .ref m13, .ref m14, .ref m15, .ref m16, .ref m17, .ref m18, .ref m19, .ref m20, .int 0, .int 0, .int 0, .int 0, .long 0, .int 0])), (m0, .inr (2, [.int 0, .ref b1, .int 0])), (m9, .inl (cy 0, 9, .inl (fun _ => 0))), (m12, .inl (cy 2, 9, .inl (fun _ => 0))), (m10, .inl (cy 0, 9, .inl (fun _ => 0)))]) (hS : va_S A s.heap H locs) (hl : lv_has ls 9 [(0, .ref b), (1, .ref x0), (2, .ref g0), (3, .ref o1), (4, .ref o2), (5, .int 0)]) (kt : ∀ (H : Heap) (locs : List Loc) (ls : Array Slot), va_S A s.heap H locs → lv_has ls 9 [(0, .ref b), (5, .int 0)] → W p l e room_1 s m #[Value.ref b] below meth c H locs 600006 7302040 Q (F0 m 2706 ls [])) : W p l e room_1 s m #[Value.ref b] below meth c H locs 213 25112 Q (F0 m 1103 ls []) := by
  obtain ⟨hx, hb, hml, hown, hts, hK, hX, hY, hA, hXs, hbl, hbA, hlt⟩ := id Z
  refine lv_aload_n hx hb dL_law_1103 rfl (lv_at hl 1 rfl) ?_
  refine lv_aload_n hx hb dL_law_1104 rfl (lv_at hl 0 rfl) ?_
  refine lv_iload hx hb dL_law_1105 (lv_at hl 5 rfl) ?_
  refine lv_iconst (v := 1) hx hb dL_law_1107 (by decide) ?_
  refine lv_iadd hx hb dL_law_1108 ?_
  refine lv_topi (fun y1 ey1 => ?_)
  obtain rfl : y1 = 1 := ey1.trans (by decide +kernel)
  refine va_sld hx hb hXs hbl hbA hS (z_in 1 (by decide) (by decide)) dL_law_1109 ?_
  refine lv_topi (fun y2 ey2 => ?_)
  obtain rfl : y2 = (xs 1) := ey2.trans rfl
  refine lv_aload_n hx hb dL_law_1110 rfl (lv_at hl 3 rfl) ?_
  refine zq_i (wc := [(x0, .inr (12, [.ref vC, .ref vP, .ref vT, .ref vS, .ref vF, .ref vN, .ref vY, .int 0])), (vC, .inr (3, [.ref sS, .ref sJ, .int 0, .int 0])), (sJ, .inr (5, [.ref j1, .ref j2, .ref j3, .ref jL, .int 0])), (jL, .inl (cy 0, 9, .inl (fun _ => 0))), (vP, .inr (7, [.ref vC, .ref p1, .ref p2, .ref p3, .ref p4, .ref p5, .ref p6, .ref p7, .int 0, .long 0, .ref p8, .int 0, .int 0, .long 1])), (p1, .inl (cy 0, 9, .inl (fun _ => 0))), (p2, .inl (cy 2, 9, .inl (fun _ => 0))), (p8, .inl (cy 2, 24, .inl (fun _ => 0))), (o1, .inl (cy 1, 1, .inr (.inl (fun _ => 0))))]) (wr := [(g0, .inr (17, [.ref m0, .ref m1, .ref m2, .ref m3, .ref m4, .ref m5, .ref m6, .ref m7, .ref m8, .ref m9, .ref m10, .ref m11, .ref m12, .ref m13, .ref m14, .ref m15, .ref m16, .ref m17, .ref m18, .ref m19, .ref m20, .int 0, .int 0, .int 0, .int 0, .long 0, .int 0])), (m0, .inr (2, [.int 0, .ref b1, .int 0])), (m9, .inl (cy 0, 9, .inl (fun _ => 0))), (m12, .inl (cy 2, 9, .inl (fun _ => 0))), (m10, .inl (cy 0, 9, .inl (fun _ => 0)))]) (vx_runSW (As := [.ref x0, .int (xs 1), .ref o1]) (rest := []) ⟨hx, hb, hml, hown, hts⟩ (w_length_in l hlt D cy x0 vC vP vT vS vF vN vY sS sJ j1 j2 j3 jL p1 p2 p3 p4 p5 p6 p7 p8 (xs 1) o1 H.size hd) (vx_cwSW 3 hts (gzS (gzW q652) q651 q653 q565) rfl rfl rfl vL_length.2 ⟨Nat.le_of_ble_eq_true rfl, Nat.le_of_ble_eq_true rfl⟩) (zpS hK hX hY hP hD hS hA [0, 1, 2, 3, 4, 5, 6, 7, 8] (by decide) rfl) rfl rfl hl.1 rfl (lv_room (Nat.le_of_ble_eq_true rfl)) dL_law_1111 ⟨Nat.le_of_ble_eq_true rfl, Nat.le_of_ble_eq_true rfl⟩) hP hD hS hA [0, 1, 2, 3, 4, 5, 6, 7, 8] [9, 10, 11, 12, 13] rfl rfl (by decide) (by decide) (fun x4 u3 H locs hw hP hD hS => ?_)
  obtain rfl : x4 = 0 := hw
  have hP : va_P D vwCl [(g0, .inr (17, [.ref m0, .ref m1, .ref m2, .ref m3, .ref m4, .ref m5, .ref m6, .ref m7, .ref m8, .ref m9, .ref m10, .ref m11, .ref m12, .ref m13, .ref m14, .ref m15, .ref m16, .ref m17, .ref m18, .ref m19, .ref m20, .int 0, .int 0, .int 0, .int 0, .long 0, .int 0])), (m0, .inr (2, [.int 0, .ref b1, .int 0])), (m9, .inl (cy 0, 9, .inl (fun _ => 0))), (m12, .inl (cy 2, 9, .inl (fun _ => 0))), (m10, .inl (cy 0, 9, .inl (fun _ => 0))), (o1, .inl (cy 1, 1, .inr (.inl (fun _ => 0))))] H := hP
  have hD : va_D A [(g0, .inr (17, [.ref m0, .ref m1, .ref m2, .ref m3, .ref m4, .ref m5, .ref m6, .ref m7, .ref m8, .ref m9, .ref m10, .ref m11, .ref m12, .ref m13, .ref m14, .ref m15, .ref m16, .ref m17, .ref m18, .ref m19, .ref m20, .int 0, .int 0, .int 0, .int 0, .long 0, .int 0])), (m0, .inr (2, [.int 0, .ref b1, .int 0])), (m9, .inl (cy 0, 9, .inl (fun _ => 0))), (m12, .inl (cy 2, 9, .inl (fun _ => 0))), (m10, .inl (cy 0, 9, .inl (fun _ => 0))), (o1, .inl (cy 1, 1, .inr (.inl (fun _ => 0))))] := hD
  refine lv_istore (lv' := [(6, .int 0), (0, .ref b), (1, .ref x0), (2, .ref g0), (3, .ref o1), (4, .ref o2), (5, .int 0)]) hx hb dL_law_1114 hl (by decide) rfl (fun ls hl => ?_)
  refine lv_aload_n hx hb dL_law_1116 rfl (lv_at hl 3 rfl) ?_
  refine lv_aload_n hx hb dL_law_1117 rfl (lv_at hl 1 rfl) ?_
  refine lv_iload hx hb dL_law_1118 (lv_at hl 6 rfl) ?_
  refine lv_iconst (v := 1) hx hb dL_law_1120 (by decide) ?_
  refine lv_iadd hx hb dL_law_1121 ?_
  refine lv_topi (fun y5 ey5 => ?_)
  obtain rfl : y5 = 1 := ey5.trans (by decide +kernel)
  refine va_sld hx hb hXs hbl hbA hS (z_in 1 (by decide) (by decide)) dL_law_1122 ?_
  refine lv_topi (fun y6 ey6 => ?_)
  obtain rfl : y6 = (xs 1) := ey6.trans rfl
  refine zq_i (wc := [(g0, .inr (17, [.ref m0, .ref m1, .ref m2, .ref m3, .ref m4, .ref m5, .ref m6, .ref m7, .ref m8, .ref m9, .ref m10, .ref m11, .ref m12, .ref m13, .ref m14, .ref m15, .ref m16, .ref m17, .ref m18, .ref m19, .ref m20, .int 0, .int 0, .int 0, .int 0, .long 0, .int 0])), (m0, .inr (2, [.int 0, .ref b1, .int 0])), (m9, .inl (cy 0, 9, .inl (fun _ => 0))), (m12, .inl (cy 2, 9, .inl (fun _ => 0))), (m10, .inl (cy 0, 9, .inl (fun _ => 0)))]) (wr := [(o1, .inl (cy 1, 1, .inr (.inl (fun _ => 0))))]) (va_runV (As := [.int (xs 1)]) (rest := []) ⟨hx, hb, hml, hown, hts⟩ (g_length_in l D cy g0 m0 m1 m2 m3 m4 m5 m6 m7 m8 m9 m10 m11 m12 m13 m14 m15 m16 m17 m18 m19 m20 b1 (xs 1) H.size hd) (cwV 1 hts (gzV (gz q655) q654 q656 q657 q285) rfl rfl rfl vX14_length ⟨Nat.le_of_ble_eq_true rfl, Nat.le_of_ble_eq_true rfl⟩) (zpV (ci := 17) (T := TX14) (N := 27) (q0 := 0) hK hX hY hP hD hS hA [0, 1, 2, 3, 4] (by decide) rfl rfl rfl) rfl rfl hl.1 rfl (lv_room (Nat.le_of_ble_eq_true rfl)) dL_law_1123 ⟨Nat.le_of_ble_eq_true rfl, Nat.le_of_ble_eq_true rfl⟩) hP hD hS hA [0, 1, 2, 3, 4] [5] rfl rfl (by decide) (by decide) (fun x8 u7 H locs hw hP hD hS => ?_)
  obtain rfl : x8 = 0 := hw
  have hP : va_P D vwCl [(o1, .inl (cy 1, 1, .inr (.inl (fun _ => 0)))), (g0, .inr (17, [.ref m0, .ref m1, .ref m2, .ref m3, .ref m4, .ref m5, .ref m6, .ref m7, .ref m8, .ref m9, .ref m10, .ref m11, .ref m12, .ref m13, .ref m14, .ref m15, .ref m16, .ref m17, .ref m18, .ref m19, .ref m20, .int 0, .int 0, .int 0, .int 0, .long 0, .int 0]))] H := hP
  have hD : va_D A [(o1, .inl (cy 1, 1, .inr (.inl (fun _ => 0)))), (g0, .inr (17, [.ref m0, .ref m1, .ref m2, .ref m3, .ref m4, .ref m5, .ref m6, .ref m7, .ref m8, .ref m9, .ref m10, .ref m11, .ref m12, .ref m13, .ref m14, .ref m15, .ref m16, .ref m17, .ref m18, .ref m19, .ref m20, .int 0, .int 0, .int 0, .int 0, .long 0, .int 0]))] := hD
  refine lv_istore (lv' := [(7, .int 0), (6, .int 0), (0, .ref b), (1, .ref x0), (2, .ref g0), (3, .ref o1), (4, .ref o2), (5, .int 0)]) hx hb dL_law_1126 hl (by decide) rfl (fun ls hl => ?_)
  refine lv_aload_n hx hb dL_law_1128 rfl (lv_at hl 4 rfl) ?_
  refine zq_i (wc := [(g0, .inr (17, [.ref m0, .ref m1, .ref m2, .ref m3, .ref m4, .ref m5, .ref m6, .ref m7, .ref m8, .ref m9, .ref m10, .ref m11, .ref m12, .ref m13, .ref m14, .ref m15, .ref m16, .ref m17, .ref m18, .ref m19, .ref m20, .int 0, .int 0, .int 0, .int 0, .long 0, .int 0]))]) (wr := [(o1, .inl (cy 1, 1, .inr (.inl (fun _ => 0))))]) (va_runV (As := []) (rest := []) ⟨hx, hb, hml, hown, hts⟩ (k_thrown l D cy g0 m0 m1 m2 m3 m4 m5 m6 m7 m8 m9 m10 m11 m12 m13 m14 m15 m16 m17 m18 m19 m20 0 0 0 0 0 0 H.size ) (cwV 0 hts (gzV (gz q571) q570 q572 q573 q285) rfl rfl rfl vX14_thrown ⟨Nat.le_of_ble_eq_true rfl, Nat.le_of_ble_eq_true rfl⟩) (zpV (ci := 17) (T := TX14) (N := 27) (q0 := 0) hK hX hY hP hD hS hA [1] (by decide) rfl rfl rfl) rfl rfl hl.1 rfl (lv_room (Nat.le_of_ble_eq_true rfl)) dL_law_1129 ⟨Nat.le_of_ble_eq_true rfl, Nat.le_of_ble_eq_true rfl⟩) hP hD hS hA [1] [0] rfl rfl (by decide) (by decide) (fun x10 u9 H locs hw hP hD hS => ?_)
  obtain rfl : x10 = 0 := hw
  have hP : va_P D vwCl [(o1, .inl (cy 1, 1, .inr (.inl (fun _ => 0)))), (g0, .inr (17, [.ref m0, .ref m1, .ref m2, .ref m3, .ref m4, .ref m5, .ref m6, .ref m7, .ref m8, .ref m9, .ref m10, .ref m11, .ref m12, .ref m13, .ref m14, .ref m15, .ref m16, .ref m17, .ref m18, .ref m19, .ref m20, .int 0, .int 0, .int 0, .int 0, .long 0, .int 0]))] H := hP
  have hD : va_D A [(o1, .inl (cy 1, 1, .inr (.inl (fun _ => 0)))), (g0, .inr (17, [.ref m0, .ref m1, .ref m2, .ref m3, .ref m4, .ref m5, .ref m6, .ref m7, .ref m8, .ref m9, .ref m10, .ref m11, .ref m12, .ref m13, .ref m14, .ref m15, .ref m16, .ref m17, .ref m18, .ref m19, .ref m20, .int 0, .int 0, .int 0, .int 0, .long 0, .int 0]))] := hD
  refine lv_iload hx hb dL_law_1132 (lv_at hl 1 rfl) ?_
  refine lv_icmp_eq (tgt := 1139) hx hb dL_law_1134 (by decide) (fun _ => ?_) (fun c_1134_10 => absurd (by decide +kernel) c_1134_10)
  refine lv_iload hx hb dL_law_1139 (lv_at hl 1 rfl) ?_
  refine lv_if_ne (tgt := 1156) hx hb dL_law_1141 (by decide) (fun c_1141_11 => absurd (by decide +kernel) c_1141_11) (fun _ => ?_)
  refine lv_aload_n hx hb dL_law_1144 rfl (lv_at hl 5 rfl) ?_
  refine lv_iconst (v := 0) hx hb dL_law_1145 (by decide) ?_
  refine va_lald hx hb hK hP 0 1 rfl rfl (z_in 0 (by decide) (by decide)) dL_law_1146 ?_
  refine lv_topl (fun y13 ey13 => ?_)
  obtain rfl : y13 = 0 := ey13.trans rfl
  refine lv_iload hx hb dL_law_1147 (lv_at hl 0 rfl) ?_
  refine lv_i2l (v := 0) hx hb dL_law_1149 (by decide) ?_
  refine W.lcmp hx hb dL_law_1150 ?_
  refine lv_topi (fun y14 ey14 => ?_)
  obtain rfl : y14 = 0 := ey14.trans (by decide +kernel)
  refine lv_if_eq (tgt := 1156) hx hb dL_law_1151 (by decide) (fun _ => ?_) (fun c_1151_14 => absurd (by decide +kernel) c_1151_14)
  refine lv_goto (tgt := 2706) hx hb dL_law_1156 (by decide) ?_
  exact W.widen (k := 600006) (n := 7302040) (Nat.le_of_ble_eq_true rfl) (Nat.le_of_ble_eq_true rfl) (kt _ _ _ hS (lv_sub hl [2, 7] rfl))
set_option maxHeartbeats 4000000 in
set_option maxRecDepth 100000 in
theorem c_length_no (l : Launch) {p : Program} {e : Env} {s : State} {m : MethodId} {below : List Frame} {meth : Method} {c : Code} {D : va_G} {cy : Nat → ClassId} {A : Nat → Prop} {b : Nat} {xs : Nat → Int32} {Q : State → Prop} {H : Heap} {locs : List Loc} {ls : Array Slot} (Z : zLaw l p s m c D cy A b 9 xs) (x0 : Nat) (g0 : Nat) (o1 : Nat) (o2 : Nat) (vC : Nat) (vP : Nat) (vT : Nat) (vS : Nat) (vF : Nat) (vN : Nat) (vY : Nat) (m0 : Nat) (m1 : Nat) (m2 : Nat) (m3 : Nat) (m4 : Nat) (m5 : Nat) (m6 : Nat) (m7 : Nat) (m8 : Nat) (m9 : Nat) (m10 : Nat) (m11 : Nat) (m12 : Nat) (m13 : Nat) (m14 : Nat) (m15 : Nat) (m16 : Nat) (m17 : Nat) (m18 : Nat) (m19 : Nat) (m20 : Nat) (hd : zNoDay (xs 1)) (hP : va_P D vwCl [(x0, .inr (12, [.ref vC, .ref vP, .ref vT, .ref vS, .ref vF, .ref vN, .ref vY, .int 0])), (g0, .inr (17, [.ref m0, .ref m1, .ref m2, .ref m3, .ref m4, .ref m5, .ref m6, .ref m7, .ref m8, .ref m9, .ref m10, .ref m11, .ref m12, .ref m13, .ref m14, .ref m15, .ref m16, .ref m17, .ref m18, .ref m19, .ref m20, .int 0, .int 0, .int 0, .int 0, .long 0, .int 0]))] H) (hD : va_D A [(x0, .inr (12, [.ref vC, .ref vP, .ref vT, .ref vS, .ref vF, .ref vN, .ref vY, .int 0])), (g0, .inr (17, [.ref m0, .ref m1, .ref m2, .ref m3, .ref m4, .ref m5, .ref m6, .ref m7, .ref m8, .ref m9, .ref m10, .ref m11, .ref m12, .ref m13, .ref m14, .ref m15, .ref m16, .ref m17, .ref m18, .ref m19, .ref m20, .int 0, .int 0, .int 0, .int 0, .long 0, .int 0]))]) (hS : va_S A s.heap H locs) (hl : lv_has ls 9 [(0, .ref b), (1, .ref x0), (2, .ref g0), (3, .ref o1), (4, .ref o2), (5, .int 0)]) (kt : ∀ (H : Heap) (locs : List Loc) (ls : Array Slot), va_S A s.heap H locs → lv_has ls 9 [(0, .ref b), (5, .int 0)] → W p l e room_1 s m #[Value.ref b] below meth c H locs 600006 7302040 Q (F0 m 2706 ls [])) : W p l e room_1 s m #[Value.ref b] below meth c H locs 213 25112 Q (F0 m 1103 ls []) := by
  obtain ⟨hx, hb, hml, hown, hts, hK, hX, hY, hA, hXs, hbl, hbA, hlt⟩ := id Z
  refine lv_aload_n hx hb dL_law_1103 rfl (lv_at hl 1 rfl) ?_
  refine lv_aload_n hx hb dL_law_1104 rfl (lv_at hl 0 rfl) ?_
  refine lv_iload hx hb dL_law_1105 (lv_at hl 5 rfl) ?_
  refine lv_iconst (v := 1) hx hb dL_law_1107 (by decide) ?_
  refine lv_iadd hx hb dL_law_1108 ?_
  refine lv_topi (fun y1 ey1 => ?_)
  obtain rfl : y1 = 1 := ey1.trans (by decide +kernel)
  refine va_sld hx hb hXs hbl hbA hS (z_in 1 (by decide) (by decide)) dL_law_1109 ?_
  refine lv_topi (fun y2 ey2 => ?_)
  obtain rfl : y2 = (xs 1) := ey2.trans rfl
  refine lv_aload_n hx hb dL_law_1110 rfl (lv_at hl 3 rfl) ?_
  refine zq_i (wc := [(x0, .inr (12, [.ref vC, .ref vP, .ref vT, .ref vS, .ref vF, .ref vN, .ref vY, .int 0]))]) (wr := [(g0, .inr (17, [.ref m0, .ref m1, .ref m2, .ref m3, .ref m4, .ref m5, .ref m6, .ref m7, .ref m8, .ref m9, .ref m10, .ref m11, .ref m12, .ref m13, .ref m14, .ref m15, .ref m16, .ref m17, .ref m18, .ref m19, .ref m20, .int 0, .int 0, .int 0, .int 0, .long 0, .int 0]))]) (vx_runSW (As := [.ref x0, .int (xs 1), .ref o1]) (rest := []) ⟨hx, hb, hml, hown, hts⟩ (w_length_no l hlt D cy x0 vC vP vT vS vF vN vY (xs 1) o1 H.size hd) (vx_cwSW 3 hts (gzS (gzW q652) q651 q653 q565) rfl rfl rfl vL_length.2 ⟨Nat.le_of_ble_eq_true rfl, Nat.le_of_ble_eq_true rfl⟩) (zpS hK hX hY hP hD hS hA [0] (by decide) rfl) rfl rfl hl.1 rfl (lv_room (Nat.le_of_ble_eq_true rfl)) dL_law_1111 ⟨Nat.le_of_ble_eq_true rfl, Nat.le_of_ble_eq_true rfl⟩) hP hD hS hA [0] [1] rfl rfl (by decide) (by decide) (fun x4 u3 H locs hw hP hD hS => ?_)
  obtain rfl : x4 = 1 := hw
  have hP : va_P D vwCl [(g0, .inr (17, [.ref m0, .ref m1, .ref m2, .ref m3, .ref m4, .ref m5, .ref m6, .ref m7, .ref m8, .ref m9, .ref m10, .ref m11, .ref m12, .ref m13, .ref m14, .ref m15, .ref m16, .ref m17, .ref m18, .ref m19, .ref m20, .int 0, .int 0, .int 0, .int 0, .long 0, .int 0]))] H := hP
  have hD : va_D A [(g0, .inr (17, [.ref m0, .ref m1, .ref m2, .ref m3, .ref m4, .ref m5, .ref m6, .ref m7, .ref m8, .ref m9, .ref m10, .ref m11, .ref m12, .ref m13, .ref m14, .ref m15, .ref m16, .ref m17, .ref m18, .ref m19, .ref m20, .int 0, .int 0, .int 0, .int 0, .long 0, .int 0]))] := hD
  refine W.widen (k := 214) (n := 25118) (by omega) (by omega) ?_
  refine lv_istore (lv' := [(6, .int 1), (0, .ref b), (1, .ref x0), (2, .ref g0), (3, .ref o1), (4, .ref o2), (5, .int 0)]) hx hb dL_law_1114 hl (by decide) rfl (fun ls hl => ?_)
  refine lv_aload_n hx hb dL_law_1116 rfl (lv_at hl 3 rfl) ?_
  refine lv_aload_n hx hb dL_law_1117 rfl (lv_at hl 1 rfl) ?_
  refine lv_iload hx hb dL_law_1118 (lv_at hl 6 rfl) ?_
  refine lv_iconst (v := 1) hx hb dL_law_1120 (by decide) ?_
  refine lv_iadd hx hb dL_law_1121 ?_
  refine lv_topi (fun y5 ey5 => ?_)
  obtain rfl : y5 = 1 := ey5.trans (by decide +kernel)
  refine va_sld hx hb hXs hbl hbA hS (z_in 1 (by decide) (by decide)) dL_law_1122 ?_
  refine lv_topi (fun y6 ey6 => ?_)
  obtain rfl : y6 = (xs 1) := ey6.trans rfl
  refine zq_i (wc := [(g0, .inr (17, [.ref m0, .ref m1, .ref m2, .ref m3, .ref m4, .ref m5, .ref m6, .ref m7, .ref m8, .ref m9, .ref m10, .ref m11, .ref m12, .ref m13, .ref m14, .ref m15, .ref m16, .ref m17, .ref m18, .ref m19, .ref m20, .int 0, .int 0, .int 0, .int 0, .long 0, .int 0]))]) (wr := []) (va_runV (As := [.int (xs 1)]) (rest := []) ⟨hx, hb, hml, hown, hts⟩ (g_length_no l D cy g0 m0 m1 m2 m3 m4 m5 m6 m7 m8 m9 m10 m11 m12 m13 m14 m15 m16 m17 m18 m19 m20 (xs 1) H.size hd) (cwV 1 hts (gzV (gz q655) q654 q656 q657 q285) rfl rfl rfl vX14_length ⟨Nat.le_of_ble_eq_true rfl, Nat.le_of_ble_eq_true rfl⟩) (zpV (ci := 17) (T := TX14) (N := 27) (q0 := 0) hK hX hY hP hD hS hA [0] (by decide) rfl rfl rfl) rfl rfl hl.1 rfl (lv_room (Nat.le_of_ble_eq_true rfl)) dL_law_1123 ⟨Nat.le_of_ble_eq_true rfl, Nat.le_of_ble_eq_true rfl⟩) hP hD hS hA [0] [] rfl rfl (by decide) (by decide) (fun x8 u7 H locs hw hP hD hS => ?_)
  obtain rfl : x8 = 0 := hw
  have hP : va_P D vwCl [(g0, .inr (17, [.ref m0, .ref m1, .ref m2, .ref m3, .ref m4, .ref m5, .ref m6, .ref m7, .ref m8, .ref m9, .ref m10, .ref m11, .ref m12, .ref m13, .ref m14, .ref m15, .ref m16, .ref m17, .ref m18, .ref m19, .ref m20, .int 1, .int 0, .int 0, .int 0, .long 0, .int 0]))] H := hP
  have hD : va_D A [(g0, .inr (17, [.ref m0, .ref m1, .ref m2, .ref m3, .ref m4, .ref m5, .ref m6, .ref m7, .ref m8, .ref m9, .ref m10, .ref m11, .ref m12, .ref m13, .ref m14, .ref m15, .ref m16, .ref m17, .ref m18, .ref m19, .ref m20, .int 1, .int 0, .int 0, .int 0, .long 0, .int 0]))] := hD
  refine lv_istore (lv' := [(7, .int 0), (6, .int 1), (0, .ref b), (1, .ref x0), (2, .ref g0), (3, .ref o1), (4, .ref o2), (5, .int 0)]) hx hb dL_law_1126 hl (by decide) rfl (fun ls hl => ?_)
  refine lv_aload_n hx hb dL_law_1128 rfl (lv_at hl 4 rfl) ?_
  refine zq_i (wc := [(g0, .inr (17, [.ref m0, .ref m1, .ref m2, .ref m3, .ref m4, .ref m5, .ref m6, .ref m7, .ref m8, .ref m9, .ref m10, .ref m11, .ref m12, .ref m13, .ref m14, .ref m15, .ref m16, .ref m17, .ref m18, .ref m19, .ref m20, .int 1, .int 0, .int 0, .int 0, .long 0, .int 0]))]) (wr := []) (va_runV (As := []) (rest := []) ⟨hx, hb, hml, hown, hts⟩ (k_thrown l D cy g0 m0 m1 m2 m3 m4 m5 m6 m7 m8 m9 m10 m11 m12 m13 m14 m15 m16 m17 m18 m19 m20 1 0 0 0 0 0 H.size ) (cwV 0 hts (gzV (gz q571) q570 q572 q573 q285) rfl rfl rfl vX14_thrown ⟨Nat.le_of_ble_eq_true rfl, Nat.le_of_ble_eq_true rfl⟩) (zpV (ci := 17) (T := TX14) (N := 27) (q0 := 0) hK hX hY hP hD hS hA [0] (by decide) rfl rfl rfl) rfl rfl hl.1 rfl (lv_room (Nat.le_of_ble_eq_true rfl)) dL_law_1129 ⟨Nat.le_of_ble_eq_true rfl, Nat.le_of_ble_eq_true rfl⟩) hP hD hS hA [0] [] rfl rfl (by decide) (by decide) (fun x10 u9 H locs hw hP hD hS => ?_)
  obtain rfl : x10 = 1 := hw
  have hP : va_P D vwCl [(g0, .inr (17, [.ref m0, .ref m1, .ref m2, .ref m3, .ref m4, .ref m5, .ref m6, .ref m7, .ref m8, .ref m9, .ref m10, .ref m11, .ref m12, .ref m13, .ref m14, .ref m15, .ref m16, .ref m17, .ref m18, .ref m19, .ref m20, .int 1, .int 0, .int 0, .int 0, .long 0, .int 0]))] H := hP
  have hD : va_D A [(g0, .inr (17, [.ref m0, .ref m1, .ref m2, .ref m3, .ref m4, .ref m5, .ref m6, .ref m7, .ref m8, .ref m9, .ref m10, .ref m11, .ref m12, .ref m13, .ref m14, .ref m15, .ref m16, .ref m17, .ref m18, .ref m19, .ref m20, .int 1, .int 0, .int 0, .int 0, .long 0, .int 0]))] := hD
  refine lv_iload hx hb dL_law_1132 (lv_at hl 1 rfl) ?_
  refine lv_icmp_eq (tgt := 1139) hx hb dL_law_1134 (by decide) (fun _ => ?_) (fun c_1134_10 => absurd (by decide +kernel) c_1134_10)
  refine lv_iload hx hb dL_law_1139 (lv_at hl 1 rfl) ?_
  refine lv_if_ne (tgt := 1156) hx hb dL_law_1141 (by decide) (fun _ => ?_) (fun c_1141_11 => absurd c_1141_11 (by decide +kernel))
  refine lv_goto (tgt := 2706) hx hb dL_law_1156 (by decide) ?_
  exact W.widen (k := 600006) (n := 7302040) (Nat.le_of_ble_eq_true rfl) (Nat.le_of_ble_eq_true rfl) (kt _ _ _ hS (lv_sub hl [2, 7] rfl))
set_option maxHeartbeats 4000000 in
set_option maxRecDepth 100000 in
theorem c_depth_in (l : Launch) {p : Program} {e : Env} {s : State} {m : MethodId} {below : List Frame} {meth : Method} {c : Code} {D : va_G} {cy : Nat → ClassId} {A : Nat → Prop} {b : Nat} {xs : Nat → Int32} {Q : State → Prop} {H : Heap} {locs : List Loc} {ls : Array Slot} (Z : zLaw l p s m c D cy A b 9 xs) (x0 : Nat) (g0 : Nat) (o1 : Nat) (o2 : Nat) (vC : Nat) (vP : Nat) (vT : Nat) (vS : Nat) (vF : Nat) (vN : Nat) (vY : Nat) (sS : Nat) (sJ : Nat) (j1 : Nat) (j2 : Nat) (j3 : Nat) (jL : Nat) (p1 : Nat) (p2 : Nat) (p3 : Nat) (p4 : Nat) (p5 : Nat) (p6 : Nat) (p7 : Nat) (p8 : Nat) (rn : Nat → Nat) (rt : Nat → Nat) (m0 : Nat) (m1 : Nat) (m2 : Nat) (m3 : Nat) (m4 : Nat) (m5 : Nat) (m6 : Nat) (m7 : Nat) (m8 : Nat) (m9 : Nat) (m10 : Nat) (m11 : Nat) (m12 : Nat) (m13 : Nat) (m14 : Nat) (m15 : Nat) (m16 : Nat) (m17 : Nat) (m18 : Nat) (m19 : Nat) (m20 : Nat) (b1 : Nat) (hd : zDay (xs 1)) (hP : va_P D vwCl ((x0, .inr (12, [.ref vC, .ref vP, .ref vT, .ref vS, .ref vF, .ref vN, .ref vY, .int 0])) :: (vC, .inr (3, [.ref sS, .ref sJ, .int 0, .int 0])) :: (sJ, .inr (5, [.ref j1, .ref j2, .ref j3, .ref jL, .int 0])) :: (jL, .inl (cy 0, 9, .inl (fun _ => 0))) :: (vP, .inr (7, [.ref vC, .ref p1, .ref p2, .ref p3, .ref p4, .ref p5, .ref p6, .ref p7, .int 0, .long 0, .ref p8, .int 0, .int 0, .long 1])) :: (p1, .inl (cy 0, 9, .inl (fun _ => 0))) :: (p2, .inl (cy 2, 9, .inl (fun _ => 0))) :: (p8, .inl (cy 2, 24, .inl (fun _ => 0))) :: (p3, .inl (cy 0, 9, .inl (fun _ => 0))) :: (p4, .inl (cy 3, 8, .inr (.inr (.inr (.inr (fun k9 => if k9 < 8 then some (rn k9) else none)))))) :: ((rn 0), .inl (cy 1, 11, .inr (.inl (fun _ => 0)))) :: ((rn 1), .inl (cy 1, 11, .inr (.inl (fun _ => 0)))) :: ((rn 2), .inl (cy 1, 11, .inr (.inl (fun _ => 0)))) :: ((rn 3), .inl (cy 1, 11, .inr (.inl (fun _ => 0)))) :: ((rn 4), .inl (cy 1, 11, .inr (.inl (fun _ => 0)))) :: ((rn 5), .inl (cy 1, 11, .inr (.inl (fun _ => 0)))) :: ((rn 6), .inl (cy 1, 11, .inr (.inl (fun _ => 0)))) :: ((rn 7), .inl (cy 1, 11, .inr (.inl (fun _ => 0)))) :: (p5, .inl (cy 3, 9, .inr (.inr (.inr (.inr (fun k9 => if k9 < 9 then some (rt k9) else none)))))) :: ((rt 0), .inl (cy 1, 3, .inr (.inl (fun _ => 0)))) :: ((rt 1), .inl (cy 1, 3, .inr (.inl (fun _ => 0)))) :: ((rt 2), .inl (cy 1, 3, .inr (.inl (fun _ => 0)))) :: ((rt 3), .inl (cy 1, 3, .inr (.inl (fun _ => 0)))) :: ((rt 4), .inl (cy 1, 3, .inr (.inl (fun _ => 0)))) :: ((rt 5), .inl (cy 1, 3, .inr (.inl (fun _ => 0)))) :: ((rt 6), .inl (cy 1, 3, .inr (.inl (fun _ => 0)))) :: ((rt 7), .inl (cy 1, 3, .inr (.inl (fun _ => 0)))) :: ((rt 8), .inl (cy 1, 3, .inr (.inl (fun _ => 0)))) :: (o1, .inl (cy 1, 1, .inr (.inl (fun _ => 0)))) :: (g0, .inr (17, [.ref m0, .ref m1, .ref m2, .ref m3, .ref m4, .ref m5, .ref m6, .ref m7, .ref m8, .ref m9, .ref m10, .ref m11, .ref m12, .ref m13, .ref m14, .ref m15, .ref m16, .ref m17, .ref m18, .ref m19, .ref m20, .int 0, .int 0, .int 0, .int 0, .long 0, .int 0])) :: (m0, .inr (2, [.int 0, .ref b1, .int 0])) :: (m9, .inl (cy 0, 9, .inl (fun _ => 0))) :: (m12, .inl (cy 2, 9, .inl (fun _ => 0))) :: (m10, .inl (cy 0, 9, .inl (fun _ => 0))) :: (m14, .inl (cy 1, 256, .inr (.inl (fun _ => 0)))) :: (m16, .inl (cy 1, 64, .inr (.inl (fun _ => 0)))) :: (m17, .inl (cy 1, 24, .inr (.inl (fun _ => 0)))) :: []) H) (hD : va_D A ((x0, .inr (12, [.ref vC, .ref vP, .ref vT, .ref vS, .ref vF, .ref vN, .ref vY, .int 0])) :: (vC, .inr (3, [.ref sS, .ref sJ, .int 0, .int 0])) :: (sJ, .inr (5, [.ref j1, .ref j2, .ref j3, .ref jL, .int 0])) :: (jL, .inl (cy 0, 9, .inl (fun _ => 0))) :: (vP, .inr (7, [.ref vC, .ref p1, .ref p2, .ref p3, .ref p4, .ref p5, .ref p6, .ref p7, .int 0, .long 0, .ref p8, .int 0, .int 0, .long 1])) :: (p1, .inl (cy 0, 9, .inl (fun _ => 0))) :: (p2, .inl (cy 2, 9, .inl (fun _ => 0))) :: (p8, .inl (cy 2, 24, .inl (fun _ => 0))) :: (p3, .inl (cy 0, 9, .inl (fun _ => 0))) :: (p4, .inl (cy 3, 8, .inr (.inr (.inr (.inr (fun k9 => if k9 < 8 then some (rn k9) else none)))))) :: ((rn 0), .inl (cy 1, 11, .inr (.inl (fun _ => 0)))) :: ((rn 1), .inl (cy 1, 11, .inr (.inl (fun _ => 0)))) :: ((rn 2), .inl (cy 1, 11, .inr (.inl (fun _ => 0)))) :: ((rn 3), .inl (cy 1, 11, .inr (.inl (fun _ => 0)))) :: ((rn 4), .inl (cy 1, 11, .inr (.inl (fun _ => 0)))) :: ((rn 5), .inl (cy 1, 11, .inr (.inl (fun _ => 0)))) :: ((rn 6), .inl (cy 1, 11, .inr (.inl (fun _ => 0)))) :: ((rn 7), .inl (cy 1, 11, .inr (.inl (fun _ => 0)))) :: (p5, .inl (cy 3, 9, .inr (.inr (.inr (.inr (fun k9 => if k9 < 9 then some (rt k9) else none)))))) :: ((rt 0), .inl (cy 1, 3, .inr (.inl (fun _ => 0)))) :: ((rt 1), .inl (cy 1, 3, .inr (.inl (fun _ => 0)))) :: ((rt 2), .inl (cy 1, 3, .inr (.inl (fun _ => 0)))) :: ((rt 3), .inl (cy 1, 3, .inr (.inl (fun _ => 0)))) :: ((rt 4), .inl (cy 1, 3, .inr (.inl (fun _ => 0)))) :: ((rt 5), .inl (cy 1, 3, .inr (.inl (fun _ => 0)))) :: ((rt 6), .inl (cy 1, 3, .inr (.inl (fun _ => 0)))) :: ((rt 7), .inl (cy 1, 3, .inr (.inl (fun _ => 0)))) :: ((rt 8), .inl (cy 1, 3, .inr (.inl (fun _ => 0)))) :: (o1, .inl (cy 1, 1, .inr (.inl (fun _ => 0)))) :: (g0, .inr (17, [.ref m0, .ref m1, .ref m2, .ref m3, .ref m4, .ref m5, .ref m6, .ref m7, .ref m8, .ref m9, .ref m10, .ref m11, .ref m12, .ref m13, .ref m14, .ref m15, .ref m16, .ref m17, .ref m18, .ref m19, .ref m20, .int 0, .int 0, .int 0, .int 0, .long 0, .int 0])) :: (m0, .inr (2, [.int 0, .ref b1, .int 0])) :: (m9, .inl (cy 0, 9, .inl (fun _ => 0))) :: (m12, .inl (cy 2, 9, .inl (fun _ => 0))) :: (m10, .inl (cy 0, 9, .inl (fun _ => 0))) :: (m14, .inl (cy 1, 256, .inr (.inl (fun _ => 0)))) :: (m16, .inl (cy 1, 64, .inr (.inl (fun _ => 0)))) :: (m17, .inl (cy 1, 24, .inr (.inl (fun _ => 0)))) :: [])) (hS : va_S A s.heap H locs) (hl : lv_has ls 9 [(0, .ref b), (1, .ref x0), (2, .ref g0), (3, .ref o1), (4, .ref o2), (5, .int 0)]) (kt : ∀ (H : Heap) (locs : List Loc) (ls : Array Slot), va_S A s.heap H locs → lv_has ls 9 [(0, .ref b), (5, .int 0)] → W p l e room_1 s m #[Value.ref b] below meth c H locs 600006 7302040 Q (F0 m 2706 ls [])) : W p l e room_1 s m #[Value.ref b] below meth c H locs 213 25112 Q (F0 m 1159 ls []) := by
  obtain ⟨hx, hb, hml, hown, hts, hK, hX, hY, hA, hXs, hbl, hbA, hlt⟩ := id Z
  refine lv_aload_n hx hb dL_law_1159 rfl (lv_at hl 1 rfl) ?_
  refine lv_aload_n hx hb dL_law_1160 rfl (lv_at hl 0 rfl) ?_
  refine lv_iload hx hb dL_law_1161 (lv_at hl 5 rfl) ?_
  refine lv_iconst (v := 1) hx hb dL_law_1163 (by decide) ?_
  refine lv_iadd hx hb dL_law_1164 ?_
  refine lv_topi (fun y1 ey1 => ?_)
  obtain rfl : y1 = 1 := ey1.trans (by decide +kernel)
  refine va_sld hx hb hXs hbl hbA hS (z_in 1 (by decide) (by decide)) dL_law_1165 ?_
  refine lv_topi (fun y2 ey2 => ?_)
  obtain rfl : y2 = (xs 1) := ey2.trans rfl
  refine lv_aload_n hx hb dL_law_1166 rfl (lv_at hl 3 rfl) ?_
  refine zq_i (wc := [(x0, .inr (12, [.ref vC, .ref vP, .ref vT, .ref vS, .ref vF, .ref vN, .ref vY, .int 0])), (vC, .inr (3, [.ref sS, .ref sJ, .int 0, .int 0])), (sJ, .inr (5, [.ref j1, .ref j2, .ref j3, .ref jL, .int 0])), (jL, .inl (cy 0, 9, .inl (fun _ => 0))), (vP, .inr (7, [.ref vC, .ref p1, .ref p2, .ref p3, .ref p4, .ref p5, .ref p6, .ref p7, .int 0, .long 0, .ref p8, .int 0, .int 0, .long 1])), (p1, .inl (cy 0, 9, .inl (fun _ => 0))), (p2, .inl (cy 2, 9, .inl (fun _ => 0))), (p8, .inl (cy 2, 24, .inl (fun _ => 0))), (p3, .inl (cy 0, 9, .inl (fun _ => 0))), (p4, .inl (cy 3, 8, .inr (.inr (.inr (.inr (fun k9 => if k9 < 8 then some (rn k9) else none)))))), ((rn 0), .inl (cy 1, 11, .inr (.inl (fun _ => 0)))), ((rn 1), .inl (cy 1, 11, .inr (.inl (fun _ => 0)))), ((rn 2), .inl (cy 1, 11, .inr (.inl (fun _ => 0)))), ((rn 3), .inl (cy 1, 11, .inr (.inl (fun _ => 0)))), ((rn 4), .inl (cy 1, 11, .inr (.inl (fun _ => 0)))), ((rn 5), .inl (cy 1, 11, .inr (.inl (fun _ => 0)))), ((rn 6), .inl (cy 1, 11, .inr (.inl (fun _ => 0)))), ((rn 7), .inl (cy 1, 11, .inr (.inl (fun _ => 0)))), (p5, .inl (cy 3, 9, .inr (.inr (.inr (.inr (fun k9 => if k9 < 9 then some (rt k9) else none)))))), ((rt 0), .inl (cy 1, 3, .inr (.inl (fun _ => 0)))), ((rt 1), .inl (cy 1, 3, .inr (.inl (fun _ => 0)))), ((rt 2), .inl (cy 1, 3, .inr (.inl (fun _ => 0)))), ((rt 3), .inl (cy 1, 3, .inr (.inl (fun _ => 0)))), ((rt 4), .inl (cy 1, 3, .inr (.inl (fun _ => 0)))), ((rt 5), .inl (cy 1, 3, .inr (.inl (fun _ => 0)))), ((rt 6), .inl (cy 1, 3, .inr (.inl (fun _ => 0)))), ((rt 7), .inl (cy 1, 3, .inr (.inl (fun _ => 0)))), ((rt 8), .inl (cy 1, 3, .inr (.inl (fun _ => 0)))), (o1, .inl (cy 1, 1, .inr (.inl (fun _ => 0))))]) (wr := [(g0, .inr (17, [.ref m0, .ref m1, .ref m2, .ref m3, .ref m4, .ref m5, .ref m6, .ref m7, .ref m8, .ref m9, .ref m10, .ref m11, .ref m12, .ref m13, .ref m14, .ref m15, .ref m16, .ref m17, .ref m18, .ref m19, .ref m20, .int 0, .int 0, .int 0, .int 0, .long 0, .int 0])), (m0, .inr (2, [.int 0, .ref b1, .int 0])), (m9, .inl (cy 0, 9, .inl (fun _ => 0))), (m12, .inl (cy 2, 9, .inl (fun _ => 0))), (m10, .inl (cy 0, 9, .inl (fun _ => 0))), (m14, .inl (cy 1, 256, .inr (.inl (fun _ => 0)))), (m16, .inl (cy 1, 64, .inr (.inl (fun _ => 0)))), (m17, .inl (cy 1, 24, .inr (.inl (fun _ => 0))))]) (vx_runSW (As := [.ref x0, .int (xs 1), .ref o1]) (rest := []) ⟨hx, hb, hml, hown, hts⟩ (w_depth_in l hlt D cy x0 vC vP vT vS vF vN vY sS sJ j1 j2 j3 jL p1 p2 p3 p4 p5 p6 p7 p8 rn rt (xs 1) o1 H.size hd) (vx_cwSW 3 hts (gzS (gzW q659) q658 q660 q565) rfl rfl rfl vL_depth.2 ⟨Nat.le_of_ble_eq_true rfl, Nat.le_of_ble_eq_true rfl⟩) (zpS hK hX hY hP hD hS hA [0, 1, 2, 3, 4, 5, 6, 7, 8, 9, 10, 11, 12, 13, 14, 15, 16, 17, 18, 19, 20, 21, 22, 23, 24, 25, 26, 27, 28] (by decide) rfl) rfl rfl hl.1 rfl (lv_room (Nat.le_of_ble_eq_true rfl)) dL_law_1167 ⟨Nat.le_of_ble_eq_true rfl, Nat.le_of_ble_eq_true rfl⟩) hP hD hS hA [0, 1, 2, 3, 4, 5, 6, 7, 8, 9, 10, 11, 12, 13, 14, 15, 16, 17, 18, 19, 20, 21, 22, 23, 24, 25, 26, 27, 28] [29, 30, 31, 32, 33, 34, 35, 36] rfl rfl (by decide) (by decide) (fun x4 u3 H locs hw hP hD hS => ?_)
  obtain rfl : x4 = 0 := hw
  have hP : va_P D vwCl [(g0, .inr (17, [.ref m0, .ref m1, .ref m2, .ref m3, .ref m4, .ref m5, .ref m6, .ref m7, .ref m8, .ref m9, .ref m10, .ref m11, .ref m12, .ref m13, .ref m14, .ref m15, .ref m16, .ref m17, .ref m18, .ref m19, .ref m20, .int 0, .int 0, .int 0, .int 0, .long 0, .int 0])), (m0, .inr (2, [.int 0, .ref b1, .int 0])), (m9, .inl (cy 0, 9, .inl (fun _ => 0))), (m12, .inl (cy 2, 9, .inl (fun _ => 0))), (m10, .inl (cy 0, 9, .inl (fun _ => 0))), (m14, .inl (cy 1, 256, .inr (.inl (fun _ => 0)))), (m16, .inl (cy 1, 64, .inr (.inl (fun _ => 0)))), (m17, .inl (cy 1, 24, .inr (.inl (fun _ => 0)))), (o1, .inl (cy 1, 1, .inr (.inl (fun _ => 0))))] H := hP
  have hD : va_D A [(g0, .inr (17, [.ref m0, .ref m1, .ref m2, .ref m3, .ref m4, .ref m5, .ref m6, .ref m7, .ref m8, .ref m9, .ref m10, .ref m11, .ref m12, .ref m13, .ref m14, .ref m15, .ref m16, .ref m17, .ref m18, .ref m19, .ref m20, .int 0, .int 0, .int 0, .int 0, .long 0, .int 0])), (m0, .inr (2, [.int 0, .ref b1, .int 0])), (m9, .inl (cy 0, 9, .inl (fun _ => 0))), (m12, .inl (cy 2, 9, .inl (fun _ => 0))), (m10, .inl (cy 0, 9, .inl (fun _ => 0))), (m14, .inl (cy 1, 256, .inr (.inl (fun _ => 0)))), (m16, .inl (cy 1, 64, .inr (.inl (fun _ => 0)))), (m17, .inl (cy 1, 24, .inr (.inl (fun _ => 0)))), (o1, .inl (cy 1, 1, .inr (.inl (fun _ => 0))))] := hD
  refine lv_istore (lv' := [(6, .int 0), (0, .ref b), (1, .ref x0), (2, .ref g0), (3, .ref o1), (4, .ref o2), (5, .int 0)]) hx hb dL_law_1170 hl (by decide) rfl (fun ls hl => ?_)
  refine lv_aload_n hx hb dL_law_1172 rfl (lv_at hl 3 rfl) ?_
  refine lv_aload_n hx hb dL_law_1173 rfl (lv_at hl 1 rfl) ?_
  refine lv_iload hx hb dL_law_1174 (lv_at hl 6 rfl) ?_
  refine lv_iconst (v := 1) hx hb dL_law_1176 (by decide) ?_
  refine lv_iadd hx hb dL_law_1177 ?_
  refine lv_topi (fun y5 ey5 => ?_)
  obtain rfl : y5 = 1 := ey5.trans (by decide +kernel)
  refine va_sld hx hb hXs hbl hbA hS (z_in 1 (by decide) (by decide)) dL_law_1178 ?_
  refine lv_topi (fun y6 ey6 => ?_)
  obtain rfl : y6 = (xs 1) := ey6.trans rfl
  refine zq_l (wc := [(g0, .inr (17, [.ref m0, .ref m1, .ref m2, .ref m3, .ref m4, .ref m5, .ref m6, .ref m7, .ref m8, .ref m9, .ref m10, .ref m11, .ref m12, .ref m13, .ref m14, .ref m15, .ref m16, .ref m17, .ref m18, .ref m19, .ref m20, .int 0, .int 0, .int 0, .int 0, .long 0, .int 0])), (m0, .inr (2, [.int 0, .ref b1, .int 0])), (m9, .inl (cy 0, 9, .inl (fun _ => 0))), (m12, .inl (cy 2, 9, .inl (fun _ => 0))), (m10, .inl (cy 0, 9, .inl (fun _ => 0))), (m14, .inl (cy 1, 256, .inr (.inl (fun _ => 0)))), (m16, .inl (cy 1, 64, .inr (.inl (fun _ => 0)))), (m17, .inl (cy 1, 24, .inr (.inl (fun _ => 0))))]) (wr := [(o1, .inl (cy 1, 1, .inr (.inl (fun _ => 0))))]) (va_runV (As := [.int (xs 1)]) (rest := []) ⟨hx, hb, hml, hown, hts⟩ (g_depth_in l D cy g0 m0 m1 m2 m3 m4 m5 m6 m7 m8 m9 m10 m11 m12 m13 m14 m15 m16 m17 m18 m19 m20 b1 (xs 1) H.size hd) (cwV 1 hts (gzV (gz q662) q661 q663 q664 q285) rfl rfl rfl vX14_depth ⟨Nat.le_of_ble_eq_true rfl, Nat.le_of_ble_eq_true rfl⟩) (zpV (ci := 17) (T := TX14) (N := 27) (q0 := 0) hK hX hY hP hD hS hA [0, 1, 2, 3, 4, 5, 6, 7] (by decide) rfl rfl rfl) rfl rfl hl.1 rfl (lv_room (Nat.le_of_ble_eq_true rfl)) dL_law_1179 ⟨Nat.le_of_ble_eq_true rfl, Nat.le_of_ble_eq_true rfl⟩) hP hD hS hA [0, 1, 2, 3, 4, 5, 6, 7] [8] rfl rfl (by decide) (by decide) (fun x8 u7 H locs hw hP hD hS => ?_)
  obtain rfl : x8 = 0 := hw
  have hP : va_P D vwCl [(o1, .inl (cy 1, 1, .inr (.inl (fun _ => 0)))), (g0, .inr (17, [.ref m0, .ref m1, .ref m2, .ref m3, .ref m4, .ref m5, .ref m6, .ref m7, .ref m8, .ref m9, .ref m10, .ref m11, .ref m12, .ref m13, .ref m14, .ref m15, .ref m16, .ref m17, .ref m18, .ref m19, .ref m20, .int 0, .int 0, .int 0, .int 0, .long 1, .int 0]))] H := hP
  have hD : va_D A [(o1, .inl (cy 1, 1, .inr (.inl (fun _ => 0)))), (g0, .inr (17, [.ref m0, .ref m1, .ref m2, .ref m3, .ref m4, .ref m5, .ref m6, .ref m7, .ref m8, .ref m9, .ref m10, .ref m11, .ref m12, .ref m13, .ref m14, .ref m15, .ref m16, .ref m17, .ref m18, .ref m19, .ref m20, .int 0, .int 0, .int 0, .int 0, .long 1, .int 0]))] := hD
  refine lv_lstore (lv' := [(7, .long 0), (6, .int 0), (0, .ref b), (1, .ref x0), (2, .ref g0), (3, .ref o1), (4, .ref o2), (5, .int 0)]) hx hb dL_law_1182 hl (by decide) rfl (fun ls hl => ?_)
  refine lv_aload_n hx hb dL_law_1184 rfl (lv_at hl 4 rfl) ?_
  refine zq_i (wc := [(g0, .inr (17, [.ref m0, .ref m1, .ref m2, .ref m3, .ref m4, .ref m5, .ref m6, .ref m7, .ref m8, .ref m9, .ref m10, .ref m11, .ref m12, .ref m13, .ref m14, .ref m15, .ref m16, .ref m17, .ref m18, .ref m19, .ref m20, .int 0, .int 0, .int 0, .int 0, .long 1, .int 0]))]) (wr := [(o1, .inl (cy 1, 1, .inr (.inl (fun _ => 0))))]) (va_runV (As := []) (rest := []) ⟨hx, hb, hml, hown, hts⟩ (k_thrown l D cy g0 m0 m1 m2 m3 m4 m5 m6 m7 m8 m9 m10 m11 m12 m13 m14 m15 m16 m17 m18 m19 m20 0 0 0 0 1 0 H.size ) (cwV 0 hts (gzV (gz q571) q570 q572 q573 q285) rfl rfl rfl vX14_thrown ⟨Nat.le_of_ble_eq_true rfl, Nat.le_of_ble_eq_true rfl⟩) (zpV (ci := 17) (T := TX14) (N := 27) (q0 := 0) hK hX hY hP hD hS hA [1] (by decide) rfl rfl rfl) rfl rfl hl.1 rfl (lv_room (Nat.le_of_ble_eq_true rfl)) dL_law_1185 ⟨Nat.le_of_ble_eq_true rfl, Nat.le_of_ble_eq_true rfl⟩) hP hD hS hA [1] [0] rfl rfl (by decide) (by decide) (fun x10 u9 H locs hw hP hD hS => ?_)
  obtain rfl : x10 = 0 := hw
  have hP : va_P D vwCl [(o1, .inl (cy 1, 1, .inr (.inl (fun _ => 0)))), (g0, .inr (17, [.ref m0, .ref m1, .ref m2, .ref m3, .ref m4, .ref m5, .ref m6, .ref m7, .ref m8, .ref m9, .ref m10, .ref m11, .ref m12, .ref m13, .ref m14, .ref m15, .ref m16, .ref m17, .ref m18, .ref m19, .ref m20, .int 0, .int 0, .int 0, .int 0, .long 1, .int 0]))] H := hP
  have hD : va_D A [(o1, .inl (cy 1, 1, .inr (.inl (fun _ => 0)))), (g0, .inr (17, [.ref m0, .ref m1, .ref m2, .ref m3, .ref m4, .ref m5, .ref m6, .ref m7, .ref m8, .ref m9, .ref m10, .ref m11, .ref m12, .ref m13, .ref m14, .ref m15, .ref m16, .ref m17, .ref m18, .ref m19, .ref m20, .int 0, .int 0, .int 0, .int 0, .long 1, .int 0]))] := hD
  refine lv_iload hx hb dL_law_1188 (lv_at hl 1 rfl) ?_
  refine lv_icmp_eq (tgt := 1195) hx hb dL_law_1190 (by decide) (fun _ => ?_) (fun c_1190_10 => absurd (by decide +kernel) c_1190_10)
  refine lv_iload hx hb dL_law_1195 (lv_at hl 1 rfl) ?_
  refine lv_if_ne (tgt := 1211) hx hb dL_law_1197 (by decide) (fun c_1197_11 => absurd (by decide +kernel) c_1197_11) (fun _ => ?_)
  refine lv_aload_n hx hb dL_law_1200 rfl (lv_at hl 5 rfl) ?_
  refine lv_iconst (v := 0) hx hb dL_law_1201 (by decide) ?_
  refine va_lald hx hb hK hP 0 1 rfl rfl (z_in 0 (by decide) (by decide)) dL_law_1202 ?_
  refine lv_topl (fun y13 ey13 => ?_)
  obtain rfl : y13 = 0 := ey13.trans rfl
  refine lv_lload hx hb dL_law_1203 (lv_at hl 0 rfl) ?_
  refine W.lcmp hx hb dL_law_1205 ?_
  refine lv_topi (fun y14 ey14 => ?_)
  obtain rfl : y14 = 0 := ey14.trans (by decide +kernel)
  refine lv_if_eq (tgt := 1211) hx hb dL_law_1206 (by decide) (fun _ => ?_) (fun c_1206_14 => absurd (by decide +kernel) c_1206_14)
  refine lv_goto (tgt := 2706) hx hb dL_law_1211 (by decide) ?_
  exact W.widen (k := 600006) (n := 7302040) (Nat.le_of_ble_eq_true rfl) (Nat.le_of_ble_eq_true rfl) (kt _ _ _ hS (lv_sub hl [2, 7] rfl))
set_option maxHeartbeats 4000000 in
set_option maxRecDepth 100000 in
theorem c_depth_no (l : Launch) {p : Program} {e : Env} {s : State} {m : MethodId} {below : List Frame} {meth : Method} {c : Code} {D : va_G} {cy : Nat → ClassId} {A : Nat → Prop} {b : Nat} {xs : Nat → Int32} {Q : State → Prop} {H : Heap} {locs : List Loc} {ls : Array Slot} (Z : zLaw l p s m c D cy A b 9 xs) (x0 : Nat) (g0 : Nat) (o1 : Nat) (o2 : Nat) (vC : Nat) (vP : Nat) (vT : Nat) (vS : Nat) (vF : Nat) (vN : Nat) (vY : Nat) (m0 : Nat) (m1 : Nat) (m2 : Nat) (m3 : Nat) (m4 : Nat) (m5 : Nat) (m6 : Nat) (m7 : Nat) (m8 : Nat) (m9 : Nat) (m10 : Nat) (m11 : Nat) (m12 : Nat) (m13 : Nat) (m14 : Nat) (m15 : Nat) (m16 : Nat) (m17 : Nat) (m18 : Nat) (m19 : Nat) (m20 : Nat) (hd : zNoDay (xs 1)) (hP : va_P D vwCl [(x0, .inr (12, [.ref vC, .ref vP, .ref vT, .ref vS, .ref vF, .ref vN, .ref vY, .int 0])), (g0, .inr (17, [.ref m0, .ref m1, .ref m2, .ref m3, .ref m4, .ref m5, .ref m6, .ref m7, .ref m8, .ref m9, .ref m10, .ref m11, .ref m12, .ref m13, .ref m14, .ref m15, .ref m16, .ref m17, .ref m18, .ref m19, .ref m20, .int 0, .int 0, .int 0, .int 0, .long 0, .int 0]))] H) (hD : va_D A [(x0, .inr (12, [.ref vC, .ref vP, .ref vT, .ref vS, .ref vF, .ref vN, .ref vY, .int 0])), (g0, .inr (17, [.ref m0, .ref m1, .ref m2, .ref m3, .ref m4, .ref m5, .ref m6, .ref m7, .ref m8, .ref m9, .ref m10, .ref m11, .ref m12, .ref m13, .ref m14, .ref m15, .ref m16, .ref m17, .ref m18, .ref m19, .ref m20, .int 0, .int 0, .int 0, .int 0, .long 0, .int 0]))]) (hS : va_S A s.heap H locs) (hl : lv_has ls 9 [(0, .ref b), (1, .ref x0), (2, .ref g0), (3, .ref o1), (4, .ref o2), (5, .int 0)]) (kt : ∀ (H : Heap) (locs : List Loc) (ls : Array Slot), va_S A s.heap H locs → lv_has ls 9 [(0, .ref b), (5, .int 0)] → W p l e room_1 s m #[Value.ref b] below meth c H locs 600006 7302040 Q (F0 m 2706 ls [])) : W p l e room_1 s m #[Value.ref b] below meth c H locs 213 25112 Q (F0 m 1159 ls []) := by
  obtain ⟨hx, hb, hml, hown, hts, hK, hX, hY, hA, hXs, hbl, hbA, hlt⟩ := id Z
  refine lv_aload_n hx hb dL_law_1159 rfl (lv_at hl 1 rfl) ?_
  refine lv_aload_n hx hb dL_law_1160 rfl (lv_at hl 0 rfl) ?_
  refine lv_iload hx hb dL_law_1161 (lv_at hl 5 rfl) ?_
  refine lv_iconst (v := 1) hx hb dL_law_1163 (by decide) ?_
  refine lv_iadd hx hb dL_law_1164 ?_
  refine lv_topi (fun y1 ey1 => ?_)
  obtain rfl : y1 = 1 := ey1.trans (by decide +kernel)
  refine va_sld hx hb hXs hbl hbA hS (z_in 1 (by decide) (by decide)) dL_law_1165 ?_
  refine lv_topi (fun y2 ey2 => ?_)
  obtain rfl : y2 = (xs 1) := ey2.trans rfl
  refine lv_aload_n hx hb dL_law_1166 rfl (lv_at hl 3 rfl) ?_
  refine zq_i (wc := [(x0, .inr (12, [.ref vC, .ref vP, .ref vT, .ref vS, .ref vF, .ref vN, .ref vY, .int 0]))]) (wr := [(g0, .inr (17, [.ref m0, .ref m1, .ref m2, .ref m3, .ref m4, .ref m5, .ref m6, .ref m7, .ref m8, .ref m9, .ref m10, .ref m11, .ref m12, .ref m13, .ref m14, .ref m15, .ref m16, .ref m17, .ref m18, .ref m19, .ref m20, .int 0, .int 0, .int 0, .int 0, .long 0, .int 0]))]) (vx_runSW (As := [.ref x0, .int (xs 1), .ref o1]) (rest := []) ⟨hx, hb, hml, hown, hts⟩ (w_depth_no l hlt D cy x0 vC vP vT vS vF vN vY (xs 1) o1 H.size hd) (vx_cwSW 3 hts (gzS (gzW q659) q658 q660 q565) rfl rfl rfl vL_depth.2 ⟨Nat.le_of_ble_eq_true rfl, Nat.le_of_ble_eq_true rfl⟩) (zpS hK hX hY hP hD hS hA [0] (by decide) rfl) rfl rfl hl.1 rfl (lv_room (Nat.le_of_ble_eq_true rfl)) dL_law_1167 ⟨Nat.le_of_ble_eq_true rfl, Nat.le_of_ble_eq_true rfl⟩) hP hD hS hA [0] [1] rfl rfl (by decide) (by decide) (fun x4 u3 H locs hw hP hD hS => ?_)
  obtain rfl : x4 = 1 := hw
  have hP : va_P D vwCl [(g0, .inr (17, [.ref m0, .ref m1, .ref m2, .ref m3, .ref m4, .ref m5, .ref m6, .ref m7, .ref m8, .ref m9, .ref m10, .ref m11, .ref m12, .ref m13, .ref m14, .ref m15, .ref m16, .ref m17, .ref m18, .ref m19, .ref m20, .int 0, .int 0, .int 0, .int 0, .long 0, .int 0]))] H := hP
  have hD : va_D A [(g0, .inr (17, [.ref m0, .ref m1, .ref m2, .ref m3, .ref m4, .ref m5, .ref m6, .ref m7, .ref m8, .ref m9, .ref m10, .ref m11, .ref m12, .ref m13, .ref m14, .ref m15, .ref m16, .ref m17, .ref m18, .ref m19, .ref m20, .int 0, .int 0, .int 0, .int 0, .long 0, .int 0]))] := hD
  refine W.widen (k := 214) (n := 25118) (by omega) (by omega) ?_
  refine lv_istore (lv' := [(6, .int 1), (0, .ref b), (1, .ref x0), (2, .ref g0), (3, .ref o1), (4, .ref o2), (5, .int 0)]) hx hb dL_law_1170 hl (by decide) rfl (fun ls hl => ?_)
  refine lv_aload_n hx hb dL_law_1172 rfl (lv_at hl 3 rfl) ?_
  refine lv_aload_n hx hb dL_law_1173 rfl (lv_at hl 1 rfl) ?_
  refine lv_iload hx hb dL_law_1174 (lv_at hl 6 rfl) ?_
  refine lv_iconst (v := 1) hx hb dL_law_1176 (by decide) ?_
  refine lv_iadd hx hb dL_law_1177 ?_
  refine lv_topi (fun y5 ey5 => ?_)
  obtain rfl : y5 = 1 := ey5.trans (by decide +kernel)
  refine va_sld hx hb hXs hbl hbA hS (z_in 1 (by decide) (by decide)) dL_law_1178 ?_
  refine lv_topi (fun y6 ey6 => ?_)
  obtain rfl : y6 = (xs 1) := ey6.trans rfl
  refine zq_l (wc := [(g0, .inr (17, [.ref m0, .ref m1, .ref m2, .ref m3, .ref m4, .ref m5, .ref m6, .ref m7, .ref m8, .ref m9, .ref m10, .ref m11, .ref m12, .ref m13, .ref m14, .ref m15, .ref m16, .ref m17, .ref m18, .ref m19, .ref m20, .int 0, .int 0, .int 0, .int 0, .long 0, .int 0]))]) (wr := []) (va_runV (As := [.int (xs 1)]) (rest := []) ⟨hx, hb, hml, hown, hts⟩ (g_depth_no l D cy g0 m0 m1 m2 m3 m4 m5 m6 m7 m8 m9 m10 m11 m12 m13 m14 m15 m16 m17 m18 m19 m20 (xs 1) H.size hd) (cwV 1 hts (gzV (gz q662) q661 q663 q664 q285) rfl rfl rfl vX14_depth ⟨Nat.le_of_ble_eq_true rfl, Nat.le_of_ble_eq_true rfl⟩) (zpV (ci := 17) (T := TX14) (N := 27) (q0 := 0) hK hX hY hP hD hS hA [0] (by decide) rfl rfl rfl) rfl rfl hl.1 rfl (lv_room (Nat.le_of_ble_eq_true rfl)) dL_law_1179 ⟨Nat.le_of_ble_eq_true rfl, Nat.le_of_ble_eq_true rfl⟩) hP hD hS hA [0] [] rfl rfl (by decide) (by decide) (fun x8 u7 H locs hw hP hD hS => ?_)
  obtain rfl : x8 = 0 := hw
  have hP : va_P D vwCl [(g0, .inr (17, [.ref m0, .ref m1, .ref m2, .ref m3, .ref m4, .ref m5, .ref m6, .ref m7, .ref m8, .ref m9, .ref m10, .ref m11, .ref m12, .ref m13, .ref m14, .ref m15, .ref m16, .ref m17, .ref m18, .ref m19, .ref m20, .int 1, .int 0, .int 0, .int 0, .long 0, .int 0]))] H := hP
  have hD : va_D A [(g0, .inr (17, [.ref m0, .ref m1, .ref m2, .ref m3, .ref m4, .ref m5, .ref m6, .ref m7, .ref m8, .ref m9, .ref m10, .ref m11, .ref m12, .ref m13, .ref m14, .ref m15, .ref m16, .ref m17, .ref m18, .ref m19, .ref m20, .int 1, .int 0, .int 0, .int 0, .long 0, .int 0]))] := hD
  refine lv_lstore (lv' := [(7, .long 0), (6, .int 1), (0, .ref b), (1, .ref x0), (2, .ref g0), (3, .ref o1), (4, .ref o2), (5, .int 0)]) hx hb dL_law_1182 hl (by decide) rfl (fun ls hl => ?_)
  refine lv_aload_n hx hb dL_law_1184 rfl (lv_at hl 4 rfl) ?_
  refine zq_i (wc := [(g0, .inr (17, [.ref m0, .ref m1, .ref m2, .ref m3, .ref m4, .ref m5, .ref m6, .ref m7, .ref m8, .ref m9, .ref m10, .ref m11, .ref m12, .ref m13, .ref m14, .ref m15, .ref m16, .ref m17, .ref m18, .ref m19, .ref m20, .int 1, .int 0, .int 0, .int 0, .long 0, .int 0]))]) (wr := []) (va_runV (As := []) (rest := []) ⟨hx, hb, hml, hown, hts⟩ (k_thrown l D cy g0 m0 m1 m2 m3 m4 m5 m6 m7 m8 m9 m10 m11 m12 m13 m14 m15 m16 m17 m18 m19 m20 1 0 0 0 0 0 H.size ) (cwV 0 hts (gzV (gz q571) q570 q572 q573 q285) rfl rfl rfl vX14_thrown ⟨Nat.le_of_ble_eq_true rfl, Nat.le_of_ble_eq_true rfl⟩) (zpV (ci := 17) (T := TX14) (N := 27) (q0 := 0) hK hX hY hP hD hS hA [0] (by decide) rfl rfl rfl) rfl rfl hl.1 rfl (lv_room (Nat.le_of_ble_eq_true rfl)) dL_law_1185 ⟨Nat.le_of_ble_eq_true rfl, Nat.le_of_ble_eq_true rfl⟩) hP hD hS hA [0] [] rfl rfl (by decide) (by decide) (fun x10 u9 H locs hw hP hD hS => ?_)
  obtain rfl : x10 = 1 := hw
  have hP : va_P D vwCl [(g0, .inr (17, [.ref m0, .ref m1, .ref m2, .ref m3, .ref m4, .ref m5, .ref m6, .ref m7, .ref m8, .ref m9, .ref m10, .ref m11, .ref m12, .ref m13, .ref m14, .ref m15, .ref m16, .ref m17, .ref m18, .ref m19, .ref m20, .int 1, .int 0, .int 0, .int 0, .long 0, .int 0]))] H := hP
  have hD : va_D A [(g0, .inr (17, [.ref m0, .ref m1, .ref m2, .ref m3, .ref m4, .ref m5, .ref m6, .ref m7, .ref m8, .ref m9, .ref m10, .ref m11, .ref m12, .ref m13, .ref m14, .ref m15, .ref m16, .ref m17, .ref m18, .ref m19, .ref m20, .int 1, .int 0, .int 0, .int 0, .long 0, .int 0]))] := hD
  refine lv_iload hx hb dL_law_1188 (lv_at hl 1 rfl) ?_
  refine lv_icmp_eq (tgt := 1195) hx hb dL_law_1190 (by decide) (fun _ => ?_) (fun c_1190_10 => absurd (by decide +kernel) c_1190_10)
  refine lv_iload hx hb dL_law_1195 (lv_at hl 1 rfl) ?_
  refine lv_if_ne (tgt := 1211) hx hb dL_law_1197 (by decide) (fun _ => ?_) (fun c_1197_11 => absurd c_1197_11 (by decide +kernel))
  refine lv_goto (tgt := 2706) hx hb dL_law_1211 (by decide) ?_
  exact W.widen (k := 600006) (n := 7302040) (Nat.le_of_ble_eq_true rfl) (Nat.le_of_ble_eq_true rfl) (kt _ _ _ hS (lv_sub hl [2, 7] rfl))
set_option maxHeartbeats 4000000 in
set_option maxRecDepth 100000 in
theorem c_setHeight (l : Launch) {p : Program} {e : Env} {s : State} {m : MethodId} {below : List Frame} {meth : Method} {c : Code} {D : va_G} {cy : Nat → ClassId} {A : Nat → Prop} {b : Nat} {xs : Nat → Int32} {Q : State → Prop} {H : Heap} {locs : List Loc} {ls : Array Slot} (Z : zLaw l p s m c D cy A b 9 xs) (x0 : Nat) (g0 : Nat) (o1 : Nat) (o2 : Nat) (vC : Nat) (vP : Nat) (vT : Nat) (vS : Nat) (vF : Nat) (vN : Nat) (vY : Nat) (sS : Nat) (sJ : Nat) (m0 : Nat) (m1 : Nat) (m2 : Nat) (m3 : Nat) (m4 : Nat) (m5 : Nat) (m6 : Nat) (m7 : Nat) (m8 : Nat) (m9 : Nat) (m10 : Nat) (m11 : Nat) (m12 : Nat) (m13 : Nat) (m14 : Nat) (m15 : Nat) (m16 : Nat) (m17 : Nat) (m18 : Nat) (m19 : Nat) (m20 : Nat)  (hP : va_P D vwCl [(x0, .inr (12, [.ref vC, .ref vP, .ref vT, .ref vS, .ref vF, .ref vN, .ref vY, .int 0])), (vC, .inr (3, [.ref sS, .ref sJ, .int 0, .int 0])), (g0, .inr (17, [.ref m0, .ref m1, .ref m2, .ref m3, .ref m4, .ref m5, .ref m6, .ref m7, .ref m8, .ref m9, .ref m10, .ref m11, .ref m12, .ref m13, .ref m14, .ref m15, .ref m16, .ref m17, .ref m18, .ref m19, .ref m20, .int 0, .int 0, .int 0, .int 0, .long 0, .int 0]))] H) (hD : va_D A [(x0, .inr (12, [.ref vC, .ref vP, .ref vT, .ref vS, .ref vF, .ref vN, .ref vY, .int 0])), (vC, .inr (3, [.ref sS, .ref sJ, .int 0, .int 0])), (g0, .inr (17, [.ref m0, .ref m1, .ref m2, .ref m3, .ref m4, .ref m5, .ref m6, .ref m7, .ref m8, .ref m9, .ref m10, .ref m11, .ref m12, .ref m13, .ref m14, .ref m15, .ref m16, .ref m17, .ref m18, .ref m19, .ref m20, .int 0, .int 0, .int 0, .int 0, .long 0, .int 0]))]) (hS : va_S A s.heap H locs) (hl : lv_has ls 9 [(0, .ref b), (1, .ref x0), (2, .ref g0), (3, .ref o1), (4, .ref o2), (5, .int 0)]) (kt : ∀ (H : Heap) (locs : List Loc) (ls : Array Slot), va_S A s.heap H locs → lv_has ls 9 [(0, .ref b), (5, .int 0)] → W p l e room_1 s m #[Value.ref b] below meth c H locs 600006 7302040 Q (F0 m 2706 ls [])) : W p l e room_1 s m #[Value.ref b] below meth c H locs 213 25112 Q (F0 m 1214 ls []) := by
  obtain ⟨hx, hb, hml, hown, hts, hK, hX, hY, hA, hXs, hbl, hbA, hlt⟩ := id Z
  refine lv_aload_n hx hb dL_law_1214 rfl (lv_at hl 1 rfl) ?_
  refine lv_aload_n hx hb dL_law_1215 rfl (lv_at hl 0 rfl) ?_
  refine lv_iload hx hb dL_law_1216 (lv_at hl 5 rfl) ?_
  refine lv_iconst (v := 1) hx hb dL_law_1218 (by decide) ?_
  refine lv_iadd hx hb dL_law_1219 ?_
  refine lv_topi (fun y1 ey1 => ?_)
  obtain rfl : y1 = 1 := ey1.trans (by decide +kernel)
  refine va_sld hx hb hXs hbl hbA hS (z_in 1 (by decide) (by decide)) dL_law_1220 ?_
  refine lv_topi (fun y2 ey2 => ?_)
  obtain rfl : y2 = (xs 1) := ey2.trans rfl
  refine lv_aload_n hx hb dL_law_1221 rfl (lv_at hl 0 rfl) ?_
  refine lv_iload hx hb dL_law_1222 (lv_at hl 5 rfl) ?_
  refine lv_iconst (v := 2) hx hb dL_law_1224 (by decide) ?_
  refine lv_iadd hx hb dL_law_1225 ?_
  refine lv_topi (fun y3 ey3 => ?_)
  obtain rfl : y3 = 2 := ey3.trans (by decide +kernel)
  refine va_sld hx hb hXs hbl hbA hS (z_in 2 (by decide) (by decide)) dL_law_1226 ?_
  refine lv_topi (fun y4 ey4 => ?_)
  obtain rfl : y4 = (xs 2) := ey4.trans rfl
  refine lv_aload_n hx hb dL_law_1227 rfl (lv_at hl 3 rfl) ?_
  refine zq_i (wc := [(x0, .inr (12, [.ref vC, .ref vP, .ref vT, .ref vS, .ref vF, .ref vN, .ref vY, .int 0])), (vC, .inr (3, [.ref sS, .ref sJ, .int 0, .int 0]))]) (wr := [(g0, .inr (17, [.ref m0, .ref m1, .ref m2, .ref m3, .ref m4, .ref m5, .ref m6, .ref m7, .ref m8, .ref m9, .ref m10, .ref m11, .ref m12, .ref m13, .ref m14, .ref m15, .ref m16, .ref m17, .ref m18, .ref m19, .ref m20, .int 0, .int 0, .int 0, .int 0, .long 0, .int 0]))]) (vx_runSW (As := [.ref x0, .int (xs 1), .int (xs 2), .ref o1]) (rest := []) ⟨hx, hb, hml, hown, hts⟩ (w_setHeight l hlt D cy x0 vC vP vT vS vF vN vY sS sJ (xs 1) (xs 2) o1 H.size ) (vx_cwSW 4 hts (gzS (gzW q666) q665 q667 q565) rfl rfl rfl vL_setHeight.2 ⟨Nat.le_of_ble_eq_true rfl, Nat.le_of_ble_eq_true rfl⟩) (zpS hK hX hY hP hD hS hA [0, 1] (by decide) rfl) rfl rfl hl.1 rfl (lv_room (Nat.le_of_ble_eq_true rfl)) dL_law_1228 ⟨Nat.le_of_ble_eq_true rfl, Nat.le_of_ble_eq_true rfl⟩) hP hD hS hA [0, 1] [2] rfl rfl (by decide) (by decide) (fun x6 u5 H locs hw hP hD hS => ?_)
  obtain rfl : x6 = 1 := hw
  have hP : va_P D vwCl [(g0, .inr (17, [.ref m0, .ref m1, .ref m2, .ref m3, .ref m4, .ref m5, .ref m6, .ref m7, .ref m8, .ref m9, .ref m10, .ref m11, .ref m12, .ref m13, .ref m14, .ref m15, .ref m16, .ref m17, .ref m18, .ref m19, .ref m20, .int 0, .int 0, .int 0, .int 0, .long 0, .int 0]))] H := hP
  have hD : va_D A [(g0, .inr (17, [.ref m0, .ref m1, .ref m2, .ref m3, .ref m4, .ref m5, .ref m6, .ref m7, .ref m8, .ref m9, .ref m10, .ref m11, .ref m12, .ref m13, .ref m14, .ref m15, .ref m16, .ref m17, .ref m18, .ref m19, .ref m20, .int 0, .int 0, .int 0, .int 0, .long 0, .int 0]))] := hD
  refine W.widen (k := 214) (n := 25118) (by omega) (by omega) ?_
  refine lv_istore (lv' := [(6, .int 1), (0, .ref b), (1, .ref x0), (2, .ref g0), (3, .ref o1), (4, .ref o2), (5, .int 0)]) hx hb dL_law_1231 hl (by decide) rfl (fun ls hl => ?_)
  refine lv_aload_n hx hb dL_law_1233 rfl (lv_at hl 3 rfl) ?_
  refine lv_aload_n hx hb dL_law_1234 rfl (lv_at hl 1 rfl) ?_
  refine lv_iload hx hb dL_law_1235 (lv_at hl 6 rfl) ?_
  refine lv_iconst (v := 1) hx hb dL_law_1237 (by decide) ?_
  refine lv_iadd hx hb dL_law_1238 ?_
  refine lv_topi (fun y7 ey7 => ?_)
  obtain rfl : y7 = 1 := ey7.trans (by decide +kernel)
  refine va_sld hx hb hXs hbl hbA hS (z_in 1 (by decide) (by decide)) dL_law_1239 ?_
  refine lv_topi (fun y8 ey8 => ?_)
  obtain rfl : y8 = (xs 1) := ey8.trans rfl
  refine lv_aload_n hx hb dL_law_1240 rfl (lv_at hl 1 rfl) ?_
  refine lv_iload hx hb dL_law_1241 (lv_at hl 6 rfl) ?_
  refine lv_iconst (v := 2) hx hb dL_law_1243 (by decide) ?_
  refine lv_iadd hx hb dL_law_1244 ?_
  refine lv_topi (fun y9 ey9 => ?_)
  obtain rfl : y9 = 2 := ey9.trans (by decide +kernel)
  refine va_sld hx hb hXs hbl hbA hS (z_in 2 (by decide) (by decide)) dL_law_1245 ?_
  refine lv_topi (fun y10 ey10 => ?_)
  obtain rfl : y10 = (xs 2) := ey10.trans rfl
  refine zq_i (wc := [(g0, .inr (17, [.ref m0, .ref m1, .ref m2, .ref m3, .ref m4, .ref m5, .ref m6, .ref m7, .ref m8, .ref m9, .ref m10, .ref m11, .ref m12, .ref m13, .ref m14, .ref m15, .ref m16, .ref m17, .ref m18, .ref m19, .ref m20, .int 0, .int 0, .int 0, .int 0, .long 0, .int 0]))]) (wr := []) (va_runV (As := [.int (xs 1), .int (xs 2)]) (rest := []) ⟨hx, hb, hml, hown, hts⟩ (g_setHeight l D cy g0 m0 m1 m2 m3 m4 m5 m6 m7 m8 m9 m10 m11 m12 m13 m14 m15 m16 m17 m18 m19 m20 (xs 1) (xs 2) H.size ) (cwV 2 hts (gzV (gz q669) q668 q670 q671 q285) rfl rfl rfl vX14_setHeight ⟨Nat.le_of_ble_eq_true rfl, Nat.le_of_ble_eq_true rfl⟩) (zpV (ci := 17) (T := TX14) (N := 27) (q0 := 0) hK hX hY hP hD hS hA [0] (by decide) rfl rfl rfl) rfl rfl hl.1 rfl (lv_room (Nat.le_of_ble_eq_true rfl)) dL_law_1246 ⟨Nat.le_of_ble_eq_true rfl, Nat.le_of_ble_eq_true rfl⟩) hP hD hS hA [0] [] rfl rfl (by decide) (by decide) (fun x12 u11 H locs hw hP hD hS => ?_)
  obtain rfl : x12 = 0 := hw
  have hP : va_P D vwCl [(g0, .inr (17, [.ref m0, .ref m1, .ref m2, .ref m3, .ref m4, .ref m5, .ref m6, .ref m7, .ref m8, .ref m9, .ref m10, .ref m11, .ref m12, .ref m13, .ref m14, .ref m15, .ref m16, .ref m17, .ref m18, .ref m19, .ref m20, .int 1, .int 0, .int 0, .int 0, .long 0, .int 0]))] H := hP
  have hD : va_D A [(g0, .inr (17, [.ref m0, .ref m1, .ref m2, .ref m3, .ref m4, .ref m5, .ref m6, .ref m7, .ref m8, .ref m9, .ref m10, .ref m11, .ref m12, .ref m13, .ref m14, .ref m15, .ref m16, .ref m17, .ref m18, .ref m19, .ref m20, .int 1, .int 0, .int 0, .int 0, .long 0, .int 0]))] := hD
  refine lv_istore (lv' := [(7, .int 0), (6, .int 1), (0, .ref b), (1, .ref x0), (2, .ref g0), (3, .ref o1), (4, .ref o2), (5, .int 0)]) hx hb dL_law_1249 hl (by decide) rfl (fun ls hl => ?_)
  refine lv_aload_n hx hb dL_law_1251 rfl (lv_at hl 4 rfl) ?_
  refine zq_i (wc := [(g0, .inr (17, [.ref m0, .ref m1, .ref m2, .ref m3, .ref m4, .ref m5, .ref m6, .ref m7, .ref m8, .ref m9, .ref m10, .ref m11, .ref m12, .ref m13, .ref m14, .ref m15, .ref m16, .ref m17, .ref m18, .ref m19, .ref m20, .int 1, .int 0, .int 0, .int 0, .long 0, .int 0]))]) (wr := []) (va_runV (As := []) (rest := []) ⟨hx, hb, hml, hown, hts⟩ (k_thrown l D cy g0 m0 m1 m2 m3 m4 m5 m6 m7 m8 m9 m10 m11 m12 m13 m14 m15 m16 m17 m18 m19 m20 1 0 0 0 0 0 H.size ) (cwV 0 hts (gzV (gz q571) q570 q572 q573 q285) rfl rfl rfl vX14_thrown ⟨Nat.le_of_ble_eq_true rfl, Nat.le_of_ble_eq_true rfl⟩) (zpV (ci := 17) (T := TX14) (N := 27) (q0 := 0) hK hX hY hP hD hS hA [0] (by decide) rfl rfl rfl) rfl rfl hl.1 rfl (lv_room (Nat.le_of_ble_eq_true rfl)) dL_law_1252 ⟨Nat.le_of_ble_eq_true rfl, Nat.le_of_ble_eq_true rfl⟩) hP hD hS hA [0] [] rfl rfl (by decide) (by decide) (fun x14 u13 H locs hw hP hD hS => ?_)
  obtain rfl : x14 = 1 := hw
  have hP : va_P D vwCl [(g0, .inr (17, [.ref m0, .ref m1, .ref m2, .ref m3, .ref m4, .ref m5, .ref m6, .ref m7, .ref m8, .ref m9, .ref m10, .ref m11, .ref m12, .ref m13, .ref m14, .ref m15, .ref m16, .ref m17, .ref m18, .ref m19, .ref m20, .int 1, .int 0, .int 0, .int 0, .long 0, .int 0]))] H := hP
  have hD : va_D A [(g0, .inr (17, [.ref m0, .ref m1, .ref m2, .ref m3, .ref m4, .ref m5, .ref m6, .ref m7, .ref m8, .ref m9, .ref m10, .ref m11, .ref m12, .ref m13, .ref m14, .ref m15, .ref m16, .ref m17, .ref m18, .ref m19, .ref m20, .int 1, .int 0, .int 0, .int 0, .long 0, .int 0]))] := hD
  refine lv_iload hx hb dL_law_1255 (lv_at hl 1 rfl) ?_
  refine lv_icmp_eq (tgt := 1262) hx hb dL_law_1257 (by decide) (fun _ => ?_) (fun c_1257_14 => absurd (by decide +kernel) c_1257_14)
  refine lv_iload hx hb dL_law_1262 (lv_at hl 1 rfl) ?_
  refine lv_if_ne (tgt := 1279) hx hb dL_law_1264 (by decide) (fun _ => ?_) (fun c_1264_15 => absurd c_1264_15 (by decide +kernel))
  refine lv_goto (tgt := 2706) hx hb dL_law_1279 (by decide) ?_
  exact W.widen (k := 600006) (n := 7302040) (Nat.le_of_ble_eq_true rfl) (Nat.le_of_ble_eq_true rfl) (kt _ _ _ hS (lv_sub hl [2, 7] rfl))
set_option maxHeartbeats 4000000 in
set_option maxRecDepth 100000 in
theorem c_conduit (l : Launch) {p : Program} {e : Env} {s : State} {m : MethodId} {below : List Frame} {meth : Method} {c : Code} {D : va_G} {cy : Nat → ClassId} {A : Nat → Prop} {b : Nat} {xs : Nat → Int32} {Q : State → Prop} {H : Heap} {locs : List Loc} {ls : Array Slot} (Z : zLaw l p s m c D cy A b 9 xs) (x0 : Nat) (g0 : Nat) (o1 : Nat) (o2 : Nat) (vC : Nat) (vP : Nat) (vT : Nat) (vS : Nat) (vF : Nat) (vN : Nat) (vY : Nat) (sS : Nat) (sJ : Nat) (m0 : Nat) (m1 : Nat) (m2 : Nat) (m3 : Nat) (m4 : Nat) (m5 : Nat) (m6 : Nat) (m7 : Nat) (m8 : Nat) (m9 : Nat) (m10 : Nat) (m11 : Nat) (m12 : Nat) (m13 : Nat) (m14 : Nat) (m15 : Nat) (m16 : Nat) (m17 : Nat) (m18 : Nat) (m19 : Nat) (m20 : Nat)  (hP : va_P D vwCl [(x0, .inr (12, [.ref vC, .ref vP, .ref vT, .ref vS, .ref vF, .ref vN, .ref vY, .int 0])), (vC, .inr (3, [.ref sS, .ref sJ, .int 0, .int 0])), (g0, .inr (17, [.ref m0, .ref m1, .ref m2, .ref m3, .ref m4, .ref m5, .ref m6, .ref m7, .ref m8, .ref m9, .ref m10, .ref m11, .ref m12, .ref m13, .ref m14, .ref m15, .ref m16, .ref m17, .ref m18, .ref m19, .ref m20, .int 0, .int 0, .int 0, .int 0, .long 0, .int 0]))] H) (hD : va_D A [(x0, .inr (12, [.ref vC, .ref vP, .ref vT, .ref vS, .ref vF, .ref vN, .ref vY, .int 0])), (vC, .inr (3, [.ref sS, .ref sJ, .int 0, .int 0])), (g0, .inr (17, [.ref m0, .ref m1, .ref m2, .ref m3, .ref m4, .ref m5, .ref m6, .ref m7, .ref m8, .ref m9, .ref m10, .ref m11, .ref m12, .ref m13, .ref m14, .ref m15, .ref m16, .ref m17, .ref m18, .ref m19, .ref m20, .int 0, .int 0, .int 0, .int 0, .long 0, .int 0]))]) (hS : va_S A s.heap H locs) (hl : lv_has ls 9 [(0, .ref b), (1, .ref x0), (2, .ref g0), (3, .ref o1), (4, .ref o2), (5, .int 0)]) (kt : ∀ (H : Heap) (locs : List Loc) (ls : Array Slot), va_S A s.heap H locs → lv_has ls 9 [(0, .ref b), (5, .int 0)] → W p l e room_1 s m #[Value.ref b] below meth c H locs 600006 7302040 Q (F0 m 2706 ls [])) : W p l e room_1 s m #[Value.ref b] below meth c H locs 213 25112 Q (F0 m 1282 ls []) := by
  obtain ⟨hx, hb, hml, hown, hts, hK, hX, hY, hA, hXs, hbl, hbA, hlt⟩ := id Z
  refine lv_aload_n hx hb dL_law_1282 rfl (lv_at hl 1 rfl) ?_
  refine lv_aload_n hx hb dL_law_1283 rfl (lv_at hl 0 rfl) ?_
  refine lv_iload hx hb dL_law_1284 (lv_at hl 5 rfl) ?_
  refine lv_iconst (v := 1) hx hb dL_law_1286 (by decide) ?_
  refine lv_iadd hx hb dL_law_1287 ?_
  refine lv_topi (fun y1 ey1 => ?_)
  obtain rfl : y1 = 1 := ey1.trans (by decide +kernel)
  refine va_sld hx hb hXs hbl hbA hS (z_in 1 (by decide) (by decide)) dL_law_1288 ?_
  refine lv_topi (fun y2 ey2 => ?_)
  obtain rfl : y2 = (xs 1) := ey2.trans rfl
  refine lv_aload_n hx hb dL_law_1289 rfl (lv_at hl 0 rfl) ?_
  refine lv_iload hx hb dL_law_1290 (lv_at hl 5 rfl) ?_
  refine lv_iconst (v := 2) hx hb dL_law_1292 (by decide) ?_
  refine lv_iadd hx hb dL_law_1293 ?_
  refine lv_topi (fun y3 ey3 => ?_)
  obtain rfl : y3 = 2 := ey3.trans (by decide +kernel)
  refine va_sld hx hb hXs hbl hbA hS (z_in 2 (by decide) (by decide)) dL_law_1294 ?_
  refine lv_topi (fun y4 ey4 => ?_)
  obtain rfl : y4 = (xs 2) := ey4.trans rfl
  refine lv_aload_n hx hb dL_law_1295 rfl (lv_at hl 0 rfl) ?_
  refine lv_iload hx hb dL_law_1296 (lv_at hl 5 rfl) ?_
  refine lv_iconst (v := 3) hx hb dL_law_1298 (by decide) ?_
  refine lv_iadd hx hb dL_law_1299 ?_
  refine lv_topi (fun y5 ey5 => ?_)
  obtain rfl : y5 = 3 := ey5.trans (by decide +kernel)
  refine va_sld hx hb hXs hbl hbA hS (z_in 3 (by decide) (by decide)) dL_law_1300 ?_
  refine lv_topi (fun y6 ey6 => ?_)
  obtain rfl : y6 = (xs 3) := ey6.trans rfl
  refine lv_aload_n hx hb dL_law_1301 rfl (lv_at hl 0 rfl) ?_
  refine lv_iload hx hb dL_law_1302 (lv_at hl 5 rfl) ?_
  refine lv_iconst (v := 4) hx hb dL_law_1304 (by decide) ?_
  refine lv_iadd hx hb dL_law_1305 ?_
  refine lv_topi (fun y7 ey7 => ?_)
  obtain rfl : y7 = 4 := ey7.trans (by decide +kernel)
  refine va_sld hx hb hXs hbl hbA hS (z_in 4 (by decide) (by decide)) dL_law_1306 ?_
  refine lv_topi (fun y8 ey8 => ?_)
  obtain rfl : y8 = (xs 4) := ey8.trans rfl
  refine lv_aload_n hx hb dL_law_1307 rfl (lv_at hl 3 rfl) ?_
  refine zq_i (wc := [(x0, .inr (12, [.ref vC, .ref vP, .ref vT, .ref vS, .ref vF, .ref vN, .ref vY, .int 0])), (vC, .inr (3, [.ref sS, .ref sJ, .int 0, .int 0]))]) (wr := [(g0, .inr (17, [.ref m0, .ref m1, .ref m2, .ref m3, .ref m4, .ref m5, .ref m6, .ref m7, .ref m8, .ref m9, .ref m10, .ref m11, .ref m12, .ref m13, .ref m14, .ref m15, .ref m16, .ref m17, .ref m18, .ref m19, .ref m20, .int 0, .int 0, .int 0, .int 0, .long 0, .int 0]))]) (vx_runSW (As := [.ref x0, .int (xs 1), .int (xs 2), .int (xs 3), .int (xs 4), .ref o1]) (rest := []) ⟨hx, hb, hml, hown, hts⟩ (w_conduit l hlt D cy x0 vC vP vT vS vF vN vY sS sJ (xs 1) (xs 2) (xs 3) (xs 4) o1 H.size ) (vx_cwSW 6 hts (gzS (gzW q673) q672 q674 q565) rfl rfl rfl vL_conduit.2 ⟨Nat.le_of_ble_eq_true rfl, Nat.le_of_ble_eq_true rfl⟩) (zpS hK hX hY hP hD hS hA [0, 1] (by decide) rfl) rfl rfl hl.1 rfl (lv_room (Nat.le_of_ble_eq_true rfl)) dL_law_1308 ⟨Nat.le_of_ble_eq_true rfl, Nat.le_of_ble_eq_true rfl⟩) hP hD hS hA [0, 1] [2] rfl rfl (by decide) (by decide) (fun x10 u9 H locs hw hP hD hS => ?_)
  obtain rfl : x10 = 1 := hw
  have hP : va_P D vwCl [(g0, .inr (17, [.ref m0, .ref m1, .ref m2, .ref m3, .ref m4, .ref m5, .ref m6, .ref m7, .ref m8, .ref m9, .ref m10, .ref m11, .ref m12, .ref m13, .ref m14, .ref m15, .ref m16, .ref m17, .ref m18, .ref m19, .ref m20, .int 0, .int 0, .int 0, .int 0, .long 0, .int 0]))] H := hP
  have hD : va_D A [(g0, .inr (17, [.ref m0, .ref m1, .ref m2, .ref m3, .ref m4, .ref m5, .ref m6, .ref m7, .ref m8, .ref m9, .ref m10, .ref m11, .ref m12, .ref m13, .ref m14, .ref m15, .ref m16, .ref m17, .ref m18, .ref m19, .ref m20, .int 0, .int 0, .int 0, .int 0, .long 0, .int 0]))] := hD
  refine W.widen (k := 214) (n := 25118) (by omega) (by omega) ?_
  refine lv_istore (lv' := [(6, .int 1), (0, .ref b), (1, .ref x0), (2, .ref g0), (3, .ref o1), (4, .ref o2), (5, .int 0)]) hx hb dL_law_1311 hl (by decide) rfl (fun ls hl => ?_)
  refine lv_aload_n hx hb dL_law_1313 rfl (lv_at hl 3 rfl) ?_
  refine lv_aload_n hx hb dL_law_1314 rfl (lv_at hl 1 rfl) ?_
  refine lv_iload hx hb dL_law_1315 (lv_at hl 6 rfl) ?_
  refine lv_iconst (v := 1) hx hb dL_law_1317 (by decide) ?_
  refine lv_iadd hx hb dL_law_1318 ?_
  refine lv_topi (fun y11 ey11 => ?_)
  obtain rfl : y11 = 1 := ey11.trans (by decide +kernel)
  refine va_sld hx hb hXs hbl hbA hS (z_in 1 (by decide) (by decide)) dL_law_1319 ?_
  refine lv_topi (fun y12 ey12 => ?_)
  obtain rfl : y12 = (xs 1) := ey12.trans rfl
  refine lv_aload_n hx hb dL_law_1320 rfl (lv_at hl 1 rfl) ?_
  refine lv_iload hx hb dL_law_1321 (lv_at hl 6 rfl) ?_
  refine lv_iconst (v := 2) hx hb dL_law_1323 (by decide) ?_
  refine lv_iadd hx hb dL_law_1324 ?_
  refine lv_topi (fun y13 ey13 => ?_)
  obtain rfl : y13 = 2 := ey13.trans (by decide +kernel)
  refine va_sld hx hb hXs hbl hbA hS (z_in 2 (by decide) (by decide)) dL_law_1325 ?_
  refine lv_topi (fun y14 ey14 => ?_)
  obtain rfl : y14 = (xs 2) := ey14.trans rfl
  refine lv_aload_n hx hb dL_law_1326 rfl (lv_at hl 1 rfl) ?_
  refine lv_iload hx hb dL_law_1327 (lv_at hl 6 rfl) ?_
  refine lv_iconst (v := 3) hx hb dL_law_1329 (by decide) ?_
  refine lv_iadd hx hb dL_law_1330 ?_
  refine lv_topi (fun y15 ey15 => ?_)
  obtain rfl : y15 = 3 := ey15.trans (by decide +kernel)
  refine va_sld hx hb hXs hbl hbA hS (z_in 3 (by decide) (by decide)) dL_law_1331 ?_
  refine lv_topi (fun y16 ey16 => ?_)
  obtain rfl : y16 = (xs 3) := ey16.trans rfl
  refine lv_aload_n hx hb dL_law_1332 rfl (lv_at hl 1 rfl) ?_
  refine lv_iload hx hb dL_law_1333 (lv_at hl 6 rfl) ?_
  refine lv_iconst (v := 4) hx hb dL_law_1335 (by decide) ?_
  refine lv_iadd hx hb dL_law_1336 ?_
  refine lv_topi (fun y17 ey17 => ?_)
  obtain rfl : y17 = 4 := ey17.trans (by decide +kernel)
  refine va_sld hx hb hXs hbl hbA hS (z_in 4 (by decide) (by decide)) dL_law_1337 ?_
  refine lv_topi (fun y18 ey18 => ?_)
  obtain rfl : y18 = (xs 4) := ey18.trans rfl
  refine zq_i (wc := [(g0, .inr (17, [.ref m0, .ref m1, .ref m2, .ref m3, .ref m4, .ref m5, .ref m6, .ref m7, .ref m8, .ref m9, .ref m10, .ref m11, .ref m12, .ref m13, .ref m14, .ref m15, .ref m16, .ref m17, .ref m18, .ref m19, .ref m20, .int 0, .int 0, .int 0, .int 0, .long 0, .int 0]))]) (wr := []) (va_runV (As := [.int (xs 1), .int (xs 2), .int (xs 3), .int (xs 4)]) (rest := []) ⟨hx, hb, hml, hown, hts⟩ (g_conduit l D cy g0 m0 m1 m2 m3 m4 m5 m6 m7 m8 m9 m10 m11 m12 m13 m14 m15 m16 m17 m18 m19 m20 (xs 1) (xs 2) (xs 3) (xs 4) H.size ) (cwV 4 hts (gzV (gz q676) q675 q677 q678 q285) rfl rfl rfl vX14_conduit ⟨Nat.le_of_ble_eq_true rfl, Nat.le_of_ble_eq_true rfl⟩) (zpV (ci := 17) (T := TX14) (N := 27) (q0 := 0) hK hX hY hP hD hS hA [0] (by decide) rfl rfl rfl) rfl rfl hl.1 rfl (lv_room (Nat.le_of_ble_eq_true rfl)) dL_law_1338 ⟨Nat.le_of_ble_eq_true rfl, Nat.le_of_ble_eq_true rfl⟩) hP hD hS hA [0] [] rfl rfl (by decide) (by decide) (fun x20 u19 H locs hw hP hD hS => ?_)
  obtain rfl : x20 = 0 := hw
  have hP : va_P D vwCl [(g0, .inr (17, [.ref m0, .ref m1, .ref m2, .ref m3, .ref m4, .ref m5, .ref m6, .ref m7, .ref m8, .ref m9, .ref m10, .ref m11, .ref m12, .ref m13, .ref m14, .ref m15, .ref m16, .ref m17, .ref m18, .ref m19, .ref m20, .int 1, .int 0, .int 0, .int 0, .long 0, .int 0]))] H := hP
  have hD : va_D A [(g0, .inr (17, [.ref m0, .ref m1, .ref m2, .ref m3, .ref m4, .ref m5, .ref m6, .ref m7, .ref m8, .ref m9, .ref m10, .ref m11, .ref m12, .ref m13, .ref m14, .ref m15, .ref m16, .ref m17, .ref m18, .ref m19, .ref m20, .int 1, .int 0, .int 0, .int 0, .long 0, .int 0]))] := hD
  refine lv_istore (lv' := [(7, .int 0), (6, .int 1), (0, .ref b), (1, .ref x0), (2, .ref g0), (3, .ref o1), (4, .ref o2), (5, .int 0)]) hx hb dL_law_1341 hl (by decide) rfl (fun ls hl => ?_)
  refine lv_aload_n hx hb dL_law_1343 rfl (lv_at hl 4 rfl) ?_
  refine zq_i (wc := [(g0, .inr (17, [.ref m0, .ref m1, .ref m2, .ref m3, .ref m4, .ref m5, .ref m6, .ref m7, .ref m8, .ref m9, .ref m10, .ref m11, .ref m12, .ref m13, .ref m14, .ref m15, .ref m16, .ref m17, .ref m18, .ref m19, .ref m20, .int 1, .int 0, .int 0, .int 0, .long 0, .int 0]))]) (wr := []) (va_runV (As := []) (rest := []) ⟨hx, hb, hml, hown, hts⟩ (k_thrown l D cy g0 m0 m1 m2 m3 m4 m5 m6 m7 m8 m9 m10 m11 m12 m13 m14 m15 m16 m17 m18 m19 m20 1 0 0 0 0 0 H.size ) (cwV 0 hts (gzV (gz q571) q570 q572 q573 q285) rfl rfl rfl vX14_thrown ⟨Nat.le_of_ble_eq_true rfl, Nat.le_of_ble_eq_true rfl⟩) (zpV (ci := 17) (T := TX14) (N := 27) (q0 := 0) hK hX hY hP hD hS hA [0] (by decide) rfl rfl rfl) rfl rfl hl.1 rfl (lv_room (Nat.le_of_ble_eq_true rfl)) dL_law_1344 ⟨Nat.le_of_ble_eq_true rfl, Nat.le_of_ble_eq_true rfl⟩) hP hD hS hA [0] [] rfl rfl (by decide) (by decide) (fun x22 u21 H locs hw hP hD hS => ?_)
  obtain rfl : x22 = 1 := hw
  have hP : va_P D vwCl [(g0, .inr (17, [.ref m0, .ref m1, .ref m2, .ref m3, .ref m4, .ref m5, .ref m6, .ref m7, .ref m8, .ref m9, .ref m10, .ref m11, .ref m12, .ref m13, .ref m14, .ref m15, .ref m16, .ref m17, .ref m18, .ref m19, .ref m20, .int 1, .int 0, .int 0, .int 0, .long 0, .int 0]))] H := hP
  have hD : va_D A [(g0, .inr (17, [.ref m0, .ref m1, .ref m2, .ref m3, .ref m4, .ref m5, .ref m6, .ref m7, .ref m8, .ref m9, .ref m10, .ref m11, .ref m12, .ref m13, .ref m14, .ref m15, .ref m16, .ref m17, .ref m18, .ref m19, .ref m20, .int 1, .int 0, .int 0, .int 0, .long 0, .int 0]))] := hD
  refine lv_iload hx hb dL_law_1347 (lv_at hl 1 rfl) ?_
  refine lv_icmp_eq (tgt := 1354) hx hb dL_law_1349 (by decide) (fun _ => ?_) (fun c_1349_22 => absurd (by decide +kernel) c_1349_22)
  refine lv_iload hx hb dL_law_1354 (lv_at hl 1 rfl) ?_
  refine lv_if_ne (tgt := 1371) hx hb dL_law_1356 (by decide) (fun _ => ?_) (fun c_1356_23 => absurd c_1356_23 (by decide +kernel))
  refine lv_goto (tgt := 2706) hx hb dL_law_1371 (by decide) ?_
  exact W.widen (k := 600006) (n := 7302040) (Nat.le_of_ble_eq_true rfl) (Nat.le_of_ble_eq_true rfl) (kt _ _ _ hS (lv_sub hl [2, 7] rfl))
set_option maxHeartbeats 4000000 in
set_option maxRecDepth 100000 in
theorem c_trace (l : Launch) {p : Program} {e : Env} {s : State} {m : MethodId} {below : List Frame} {meth : Method} {c : Code} {D : va_G} {cy : Nat → ClassId} {A : Nat → Prop} {b : Nat} {xs : Nat → Int32} {Q : State → Prop} {H : Heap} {locs : List Loc} {ls : Array Slot} (Z : zLaw l p s m c D cy A b 9 xs) (x0 : Nat) (g0 : Nat) (o1 : Nat) (o2 : Nat) (vC : Nat) (vP : Nat) (vT : Nat) (vS : Nat) (vF : Nat) (vN : Nat) (vY : Nat) (sS : Nat) (sJ : Nat) (m0 : Nat) (m1 : Nat) (m2 : Nat) (m3 : Nat) (m4 : Nat) (m5 : Nat) (m6 : Nat) (m7 : Nat) (m8 : Nat) (m9 : Nat) (m10 : Nat) (m11 : Nat) (m12 : Nat) (m13 : Nat) (m14 : Nat) (m15 : Nat) (m16 : Nat) (m17 : Nat) (m18 : Nat) (m19 : Nat) (m20 : Nat)  (hP : va_P D vwCl [(x0, .inr (12, [.ref vC, .ref vP, .ref vT, .ref vS, .ref vF, .ref vN, .ref vY, .int 0])), (vC, .inr (3, [.ref sS, .ref sJ, .int 0, .int 0])), (g0, .inr (17, [.ref m0, .ref m1, .ref m2, .ref m3, .ref m4, .ref m5, .ref m6, .ref m7, .ref m8, .ref m9, .ref m10, .ref m11, .ref m12, .ref m13, .ref m14, .ref m15, .ref m16, .ref m17, .ref m18, .ref m19, .ref m20, .int 0, .int 0, .int 0, .int 0, .long 0, .int 0]))] H) (hD : va_D A [(x0, .inr (12, [.ref vC, .ref vP, .ref vT, .ref vS, .ref vF, .ref vN, .ref vY, .int 0])), (vC, .inr (3, [.ref sS, .ref sJ, .int 0, .int 0])), (g0, .inr (17, [.ref m0, .ref m1, .ref m2, .ref m3, .ref m4, .ref m5, .ref m6, .ref m7, .ref m8, .ref m9, .ref m10, .ref m11, .ref m12, .ref m13, .ref m14, .ref m15, .ref m16, .ref m17, .ref m18, .ref m19, .ref m20, .int 0, .int 0, .int 0, .int 0, .long 0, .int 0]))]) (hS : va_S A s.heap H locs) (hl : lv_has ls 9 [(0, .ref b), (1, .ref x0), (2, .ref g0), (3, .ref o1), (4, .ref o2), (5, .int 0)]) (kt : ∀ (H : Heap) (locs : List Loc) (ls : Array Slot), va_S A s.heap H locs → lv_has ls 9 [(0, .ref b), (5, .int 0)] → W p l e room_1 s m #[Value.ref b] below meth c H locs 600006 7302040 Q (F0 m 2706 ls [])) : W p l e room_1 s m #[Value.ref b] below meth c H locs 213 25112 Q (F0 m 1374 ls []) := by
  obtain ⟨hx, hb, hml, hown, hts, hK, hX, hY, hA, hXs, hbl, hbA, hlt⟩ := id Z
  refine lv_aload_n hx hb dL_law_1374 rfl (lv_at hl 1 rfl) ?_
  refine lv_aload_n hx hb dL_law_1375 rfl (lv_at hl 0 rfl) ?_
  refine lv_iload hx hb dL_law_1376 (lv_at hl 5 rfl) ?_
  refine lv_iconst (v := 1) hx hb dL_law_1378 (by decide) ?_
  refine lv_iadd hx hb dL_law_1379 ?_
  refine lv_topi (fun y1 ey1 => ?_)
  obtain rfl : y1 = 1 := ey1.trans (by decide +kernel)
  refine va_sld hx hb hXs hbl hbA hS (z_in 1 (by decide) (by decide)) dL_law_1380 ?_
  refine lv_topi (fun y2 ey2 => ?_)
  obtain rfl : y2 = (xs 1) := ey2.trans rfl
  refine lv_aload_n hx hb dL_law_1381 rfl (lv_at hl 0 rfl) ?_
  refine lv_iload hx hb dL_law_1382 (lv_at hl 5 rfl) ?_
  refine lv_iconst (v := 2) hx hb dL_law_1384 (by decide) ?_
  refine lv_iadd hx hb dL_law_1385 ?_
  refine lv_topi (fun y3 ey3 => ?_)
  obtain rfl : y3 = 2 := ey3.trans (by decide +kernel)
  refine va_sld hx hb hXs hbl hbA hS (z_in 2 (by decide) (by decide)) dL_law_1386 ?_
  refine lv_topi (fun y4 ey4 => ?_)
  obtain rfl : y4 = (xs 2) := ey4.trans rfl
  refine lv_aload_n hx hb dL_law_1387 rfl (lv_at hl 3 rfl) ?_
  refine zq_i (wc := [(x0, .inr (12, [.ref vC, .ref vP, .ref vT, .ref vS, .ref vF, .ref vN, .ref vY, .int 0])), (vC, .inr (3, [.ref sS, .ref sJ, .int 0, .int 0]))]) (wr := [(g0, .inr (17, [.ref m0, .ref m1, .ref m2, .ref m3, .ref m4, .ref m5, .ref m6, .ref m7, .ref m8, .ref m9, .ref m10, .ref m11, .ref m12, .ref m13, .ref m14, .ref m15, .ref m16, .ref m17, .ref m18, .ref m19, .ref m20, .int 0, .int 0, .int 0, .int 0, .long 0, .int 0]))]) (vx_runSW (As := [.ref x0, .int (xs 1), .int (xs 2), .ref o1]) (rest := []) ⟨hx, hb, hml, hown, hts⟩ (w_trace l hlt D cy x0 vC vP vT vS vF vN vY sS sJ (xs 1) (xs 2) o1 H.size ) (vx_cwSW 4 hts (gzS (gzW q680) q679 q681 q565) rfl rfl rfl vL_trace.2 ⟨Nat.le_of_ble_eq_true rfl, Nat.le_of_ble_eq_true rfl⟩) (zpS hK hX hY hP hD hS hA [0, 1] (by decide) rfl) rfl rfl hl.1 rfl (lv_room (Nat.le_of_ble_eq_true rfl)) dL_law_1388 ⟨Nat.le_of_ble_eq_true rfl, Nat.le_of_ble_eq_true rfl⟩) hP hD hS hA [0, 1] [2] rfl rfl (by decide) (by decide) (fun x6 u5 H locs hw hP hD hS => ?_)
  obtain rfl : x6 = 1 := hw
  have hP : va_P D vwCl [(g0, .inr (17, [.ref m0, .ref m1, .ref m2, .ref m3, .ref m4, .ref m5, .ref m6, .ref m7, .ref m8, .ref m9, .ref m10, .ref m11, .ref m12, .ref m13, .ref m14, .ref m15, .ref m16, .ref m17, .ref m18, .ref m19, .ref m20, .int 0, .int 0, .int 0, .int 0, .long 0, .int 0]))] H := hP
  have hD : va_D A [(g0, .inr (17, [.ref m0, .ref m1, .ref m2, .ref m3, .ref m4, .ref m5, .ref m6, .ref m7, .ref m8, .ref m9, .ref m10, .ref m11, .ref m12, .ref m13, .ref m14, .ref m15, .ref m16, .ref m17, .ref m18, .ref m19, .ref m20, .int 0, .int 0, .int 0, .int 0, .long 0, .int 0]))] := hD
  refine W.widen (k := 214) (n := 25118) (by omega) (by omega) ?_
  refine lv_istore (lv' := [(6, .int 1), (0, .ref b), (1, .ref x0), (2, .ref g0), (3, .ref o1), (4, .ref o2), (5, .int 0)]) hx hb dL_law_1391 hl (by decide) rfl (fun ls hl => ?_)
  refine lv_aload_n hx hb dL_law_1393 rfl (lv_at hl 3 rfl) ?_
  refine lv_aload_n hx hb dL_law_1394 rfl (lv_at hl 1 rfl) ?_
  refine lv_iload hx hb dL_law_1395 (lv_at hl 6 rfl) ?_
  refine lv_iconst (v := 1) hx hb dL_law_1397 (by decide) ?_
  refine lv_iadd hx hb dL_law_1398 ?_
  refine lv_topi (fun y7 ey7 => ?_)
  obtain rfl : y7 = 1 := ey7.trans (by decide +kernel)
  refine va_sld hx hb hXs hbl hbA hS (z_in 1 (by decide) (by decide)) dL_law_1399 ?_
  refine lv_topi (fun y8 ey8 => ?_)
  obtain rfl : y8 = (xs 1) := ey8.trans rfl
  refine lv_aload_n hx hb dL_law_1400 rfl (lv_at hl 1 rfl) ?_
  refine lv_iload hx hb dL_law_1401 (lv_at hl 6 rfl) ?_
  refine lv_iconst (v := 2) hx hb dL_law_1403 (by decide) ?_
  refine lv_iadd hx hb dL_law_1404 ?_
  refine lv_topi (fun y9 ey9 => ?_)
  obtain rfl : y9 = 2 := ey9.trans (by decide +kernel)
  refine va_sld hx hb hXs hbl hbA hS (z_in 2 (by decide) (by decide)) dL_law_1405 ?_
  refine lv_topi (fun y10 ey10 => ?_)
  obtain rfl : y10 = (xs 2) := ey10.trans rfl
  refine zq_i (wc := [(g0, .inr (17, [.ref m0, .ref m1, .ref m2, .ref m3, .ref m4, .ref m5, .ref m6, .ref m7, .ref m8, .ref m9, .ref m10, .ref m11, .ref m12, .ref m13, .ref m14, .ref m15, .ref m16, .ref m17, .ref m18, .ref m19, .ref m20, .int 0, .int 0, .int 0, .int 0, .long 0, .int 0]))]) (wr := []) (va_runV (As := [.int (xs 1), .int (xs 2)]) (rest := []) ⟨hx, hb, hml, hown, hts⟩ (g_trace l D cy g0 m0 m1 m2 m3 m4 m5 m6 m7 m8 m9 m10 m11 m12 m13 m14 m15 m16 m17 m18 m19 m20 (xs 1) (xs 2) H.size ) (cwV 2 hts (gzV (gz q683) q682 q684 q685 q285) rfl rfl rfl vX14_trace ⟨Nat.le_of_ble_eq_true rfl, Nat.le_of_ble_eq_true rfl⟩) (zpV (ci := 17) (T := TX14) (N := 27) (q0 := 0) hK hX hY hP hD hS hA [0] (by decide) rfl rfl rfl) rfl rfl hl.1 rfl (lv_room (Nat.le_of_ble_eq_true rfl)) dL_law_1406 ⟨Nat.le_of_ble_eq_true rfl, Nat.le_of_ble_eq_true rfl⟩) hP hD hS hA [0] [] rfl rfl (by decide) (by decide) (fun x12 u11 H locs hw hP hD hS => ?_)
  obtain rfl : x12 = 0 := hw
  have hP : va_P D vwCl [(g0, .inr (17, [.ref m0, .ref m1, .ref m2, .ref m3, .ref m4, .ref m5, .ref m6, .ref m7, .ref m8, .ref m9, .ref m10, .ref m11, .ref m12, .ref m13, .ref m14, .ref m15, .ref m16, .ref m17, .ref m18, .ref m19, .ref m20, .int 1, .int 0, .int 0, .int 0, .long 0, .int 0]))] H := hP
  have hD : va_D A [(g0, .inr (17, [.ref m0, .ref m1, .ref m2, .ref m3, .ref m4, .ref m5, .ref m6, .ref m7, .ref m8, .ref m9, .ref m10, .ref m11, .ref m12, .ref m13, .ref m14, .ref m15, .ref m16, .ref m17, .ref m18, .ref m19, .ref m20, .int 1, .int 0, .int 0, .int 0, .long 0, .int 0]))] := hD
  refine lv_istore (lv' := [(7, .int 0), (6, .int 1), (0, .ref b), (1, .ref x0), (2, .ref g0), (3, .ref o1), (4, .ref o2), (5, .int 0)]) hx hb dL_law_1409 hl (by decide) rfl (fun ls hl => ?_)
  refine lv_aload_n hx hb dL_law_1411 rfl (lv_at hl 4 rfl) ?_
  refine zq_i (wc := [(g0, .inr (17, [.ref m0, .ref m1, .ref m2, .ref m3, .ref m4, .ref m5, .ref m6, .ref m7, .ref m8, .ref m9, .ref m10, .ref m11, .ref m12, .ref m13, .ref m14, .ref m15, .ref m16, .ref m17, .ref m18, .ref m19, .ref m20, .int 1, .int 0, .int 0, .int 0, .long 0, .int 0]))]) (wr := []) (va_runV (As := []) (rest := []) ⟨hx, hb, hml, hown, hts⟩ (k_thrown l D cy g0 m0 m1 m2 m3 m4 m5 m6 m7 m8 m9 m10 m11 m12 m13 m14 m15 m16 m17 m18 m19 m20 1 0 0 0 0 0 H.size ) (cwV 0 hts (gzV (gz q571) q570 q572 q573 q285) rfl rfl rfl vX14_thrown ⟨Nat.le_of_ble_eq_true rfl, Nat.le_of_ble_eq_true rfl⟩) (zpV (ci := 17) (T := TX14) (N := 27) (q0 := 0) hK hX hY hP hD hS hA [0] (by decide) rfl rfl rfl) rfl rfl hl.1 rfl (lv_room (Nat.le_of_ble_eq_true rfl)) dL_law_1412 ⟨Nat.le_of_ble_eq_true rfl, Nat.le_of_ble_eq_true rfl⟩) hP hD hS hA [0] [] rfl rfl (by decide) (by decide) (fun x14 u13 H locs hw hP hD hS => ?_)
  obtain rfl : x14 = 1 := hw
  have hP : va_P D vwCl [(g0, .inr (17, [.ref m0, .ref m1, .ref m2, .ref m3, .ref m4, .ref m5, .ref m6, .ref m7, .ref m8, .ref m9, .ref m10, .ref m11, .ref m12, .ref m13, .ref m14, .ref m15, .ref m16, .ref m17, .ref m18, .ref m19, .ref m20, .int 1, .int 0, .int 0, .int 0, .long 0, .int 0]))] H := hP
  have hD : va_D A [(g0, .inr (17, [.ref m0, .ref m1, .ref m2, .ref m3, .ref m4, .ref m5, .ref m6, .ref m7, .ref m8, .ref m9, .ref m10, .ref m11, .ref m12, .ref m13, .ref m14, .ref m15, .ref m16, .ref m17, .ref m18, .ref m19, .ref m20, .int 1, .int 0, .int 0, .int 0, .long 0, .int 0]))] := hD
  refine lv_iload hx hb dL_law_1415 (lv_at hl 1 rfl) ?_
  refine lv_icmp_eq (tgt := 1422) hx hb dL_law_1417 (by decide) (fun _ => ?_) (fun c_1417_14 => absurd (by decide +kernel) c_1417_14)
  refine lv_iload hx hb dL_law_1422 (lv_at hl 1 rfl) ?_
  refine lv_if_ne (tgt := 1439) hx hb dL_law_1424 (by decide) (fun _ => ?_) (fun c_1424_15 => absurd c_1424_15 (by decide +kernel))
  refine lv_goto (tgt := 2706) hx hb dL_law_1439 (by decide) ?_
  exact W.widen (k := 600006) (n := 7302040) (Nat.le_of_ble_eq_true rfl) (Nat.le_of_ble_eq_true rfl) (kt _ _ _ hS (lv_sub hl [2, 7] rfl))
set_option maxHeartbeats 4000000 in
set_option maxRecDepth 100000 in
theorem c_traced (l : Launch) {p : Program} {e : Env} {s : State} {m : MethodId} {below : List Frame} {meth : Method} {c : Code} {D : va_G} {cy : Nat → ClassId} {A : Nat → Prop} {b : Nat} {xs : Nat → Int32} {Q : State → Prop} {H : Heap} {locs : List Loc} {ls : Array Slot} (Z : zLaw l p s m c D cy A b 9 xs) (x0 : Nat) (g0 : Nat) (o1 : Nat) (o2 : Nat) (vC : Nat) (vP : Nat) (vT : Nat) (vS : Nat) (vF : Nat) (vN : Nat) (vY : Nat) (sS : Nat) (sJ : Nat) (m0 : Nat) (m1 : Nat) (m2 : Nat) (m3 : Nat) (m4 : Nat) (m5 : Nat) (m6 : Nat) (m7 : Nat) (m8 : Nat) (m9 : Nat) (m10 : Nat) (m11 : Nat) (m12 : Nat) (m13 : Nat) (m14 : Nat) (m15 : Nat) (m16 : Nat) (m17 : Nat) (m18 : Nat) (m19 : Nat) (m20 : Nat)  (hP : va_P D vwCl [(x0, .inr (12, [.ref vC, .ref vP, .ref vT, .ref vS, .ref vF, .ref vN, .ref vY, .int 0])), (vC, .inr (3, [.ref sS, .ref sJ, .int 0, .int 0])), (g0, .inr (17, [.ref m0, .ref m1, .ref m2, .ref m3, .ref m4, .ref m5, .ref m6, .ref m7, .ref m8, .ref m9, .ref m10, .ref m11, .ref m12, .ref m13, .ref m14, .ref m15, .ref m16, .ref m17, .ref m18, .ref m19, .ref m20, .int 0, .int 0, .int 0, .int 0, .long 0, .int 0]))] H) (hD : va_D A [(x0, .inr (12, [.ref vC, .ref vP, .ref vT, .ref vS, .ref vF, .ref vN, .ref vY, .int 0])), (vC, .inr (3, [.ref sS, .ref sJ, .int 0, .int 0])), (g0, .inr (17, [.ref m0, .ref m1, .ref m2, .ref m3, .ref m4, .ref m5, .ref m6, .ref m7, .ref m8, .ref m9, .ref m10, .ref m11, .ref m12, .ref m13, .ref m14, .ref m15, .ref m16, .ref m17, .ref m18, .ref m19, .ref m20, .int 0, .int 0, .int 0, .int 0, .long 0, .int 0]))]) (hS : va_S A s.heap H locs) (hl : lv_has ls 9 [(0, .ref b), (1, .ref x0), (2, .ref g0), (3, .ref o1), (4, .ref o2), (5, .int 0)]) (kt : ∀ (H : Heap) (locs : List Loc) (ls : Array Slot), va_S A s.heap H locs → lv_has ls 9 [(0, .ref b), (5, .int 0)] → W p l e room_1 s m #[Value.ref b] below meth c H locs 600006 7302040 Q (F0 m 2706 ls [])) : W p l e room_1 s m #[Value.ref b] below meth c H locs 213 25112 Q (F0 m 1442 ls []) := by
  obtain ⟨hx, hb, hml, hown, hts, hK, hX, hY, hA, hXs, hbl, hbA, hlt⟩ := id Z
  refine lv_aload_n hx hb dL_law_1442 rfl (lv_at hl 1 rfl) ?_
  refine lv_aload_n hx hb dL_law_1443 rfl (lv_at hl 0 rfl) ?_
  refine lv_iload hx hb dL_law_1444 (lv_at hl 5 rfl) ?_
  refine lv_iconst (v := 1) hx hb dL_law_1446 (by decide) ?_
  refine lv_iadd hx hb dL_law_1447 ?_
  refine lv_topi (fun y1 ey1 => ?_)
  obtain rfl : y1 = 1 := ey1.trans (by decide +kernel)
  refine va_sld hx hb hXs hbl hbA hS (z_in 1 (by decide) (by decide)) dL_law_1448 ?_
  refine lv_topi (fun y2 ey2 => ?_)
  obtain rfl : y2 = (xs 1) := ey2.trans rfl
  refine lv_aload_n hx hb dL_law_1449 rfl (lv_at hl 0 rfl) ?_
  refine lv_iload hx hb dL_law_1450 (lv_at hl 5 rfl) ?_
  refine lv_iconst (v := 2) hx hb dL_law_1452 (by decide) ?_
  refine lv_iadd hx hb dL_law_1453 ?_
  refine lv_topi (fun y3 ey3 => ?_)
  obtain rfl : y3 = 2 := ey3.trans (by decide +kernel)
  refine va_sld hx hb hXs hbl hbA hS (z_in 2 (by decide) (by decide)) dL_law_1454 ?_
  refine lv_topi (fun y4 ey4 => ?_)
  obtain rfl : y4 = (xs 2) := ey4.trans rfl
  refine lv_aload_n hx hb dL_law_1455 rfl (lv_at hl 3 rfl) ?_
  refine zq_i (wc := [(x0, .inr (12, [.ref vC, .ref vP, .ref vT, .ref vS, .ref vF, .ref vN, .ref vY, .int 0])), (vC, .inr (3, [.ref sS, .ref sJ, .int 0, .int 0]))]) (wr := [(g0, .inr (17, [.ref m0, .ref m1, .ref m2, .ref m3, .ref m4, .ref m5, .ref m6, .ref m7, .ref m8, .ref m9, .ref m10, .ref m11, .ref m12, .ref m13, .ref m14, .ref m15, .ref m16, .ref m17, .ref m18, .ref m19, .ref m20, .int 0, .int 0, .int 0, .int 0, .long 0, .int 0]))]) (vx_runSW (As := [.ref x0, .int (xs 1), .int (xs 2), .ref o1]) (rest := []) ⟨hx, hb, hml, hown, hts⟩ (w_traced l hlt D cy x0 vC vP vT vS vF vN vY sS sJ (xs 1) (xs 2) o1 H.size ) (vx_cwSW 4 hts (gzS (gzW q687) q686 q688 q565) rfl rfl rfl vL_traced.2 ⟨Nat.le_of_ble_eq_true rfl, Nat.le_of_ble_eq_true rfl⟩) (zpS hK hX hY hP hD hS hA [0, 1] (by decide) rfl) rfl rfl hl.1 rfl (lv_room (Nat.le_of_ble_eq_true rfl)) dL_law_1456 ⟨Nat.le_of_ble_eq_true rfl, Nat.le_of_ble_eq_true rfl⟩) hP hD hS hA [0, 1] [2] rfl rfl (by decide) (by decide) (fun x6 u5 H locs hw hP hD hS => ?_)
  obtain rfl : x6 = 1 := hw
  have hP : va_P D vwCl [(g0, .inr (17, [.ref m0, .ref m1, .ref m2, .ref m3, .ref m4, .ref m5, .ref m6, .ref m7, .ref m8, .ref m9, .ref m10, .ref m11, .ref m12, .ref m13, .ref m14, .ref m15, .ref m16, .ref m17, .ref m18, .ref m19, .ref m20, .int 0, .int 0, .int 0, .int 0, .long 0, .int 0]))] H := hP
  have hD : va_D A [(g0, .inr (17, [.ref m0, .ref m1, .ref m2, .ref m3, .ref m4, .ref m5, .ref m6, .ref m7, .ref m8, .ref m9, .ref m10, .ref m11, .ref m12, .ref m13, .ref m14, .ref m15, .ref m16, .ref m17, .ref m18, .ref m19, .ref m20, .int 0, .int 0, .int 0, .int 0, .long 0, .int 0]))] := hD
  refine W.widen (k := 214) (n := 25118) (by omega) (by omega) ?_
  refine lv_istore (lv' := [(6, .int 1), (0, .ref b), (1, .ref x0), (2, .ref g0), (3, .ref o1), (4, .ref o2), (5, .int 0)]) hx hb dL_law_1459 hl (by decide) rfl (fun ls hl => ?_)
  refine lv_aload_n hx hb dL_law_1461 rfl (lv_at hl 3 rfl) ?_
  refine lv_aload_n hx hb dL_law_1462 rfl (lv_at hl 1 rfl) ?_
  refine lv_iload hx hb dL_law_1463 (lv_at hl 6 rfl) ?_
  refine lv_iconst (v := 1) hx hb dL_law_1465 (by decide) ?_
  refine lv_iadd hx hb dL_law_1466 ?_
  refine lv_topi (fun y7 ey7 => ?_)
  obtain rfl : y7 = 1 := ey7.trans (by decide +kernel)
  refine va_sld hx hb hXs hbl hbA hS (z_in 1 (by decide) (by decide)) dL_law_1467 ?_
  refine lv_topi (fun y8 ey8 => ?_)
  obtain rfl : y8 = (xs 1) := ey8.trans rfl
  refine lv_aload_n hx hb dL_law_1468 rfl (lv_at hl 1 rfl) ?_
  refine lv_iload hx hb dL_law_1469 (lv_at hl 6 rfl) ?_
  refine lv_iconst (v := 2) hx hb dL_law_1471 (by decide) ?_
  refine lv_iadd hx hb dL_law_1472 ?_
  refine lv_topi (fun y9 ey9 => ?_)
  obtain rfl : y9 = 2 := ey9.trans (by decide +kernel)
  refine va_sld hx hb hXs hbl hbA hS (z_in 2 (by decide) (by decide)) dL_law_1473 ?_
  refine lv_topi (fun y10 ey10 => ?_)
  obtain rfl : y10 = (xs 2) := ey10.trans rfl
  refine zq_i (wc := [(g0, .inr (17, [.ref m0, .ref m1, .ref m2, .ref m3, .ref m4, .ref m5, .ref m6, .ref m7, .ref m8, .ref m9, .ref m10, .ref m11, .ref m12, .ref m13, .ref m14, .ref m15, .ref m16, .ref m17, .ref m18, .ref m19, .ref m20, .int 0, .int 0, .int 0, .int 0, .long 0, .int 0]))]) (wr := []) (va_runV (As := [.int (xs 1), .int (xs 2)]) (rest := []) ⟨hx, hb, hml, hown, hts⟩ (g_traced l D cy g0 m0 m1 m2 m3 m4 m5 m6 m7 m8 m9 m10 m11 m12 m13 m14 m15 m16 m17 m18 m19 m20 (xs 1) (xs 2) H.size ) (cwV 2 hts (gzV (gz q690) q689 q691 q692 q285) rfl rfl rfl vX14_traced ⟨Nat.le_of_ble_eq_true rfl, Nat.le_of_ble_eq_true rfl⟩) (zpV (ci := 17) (T := TX14) (N := 27) (q0 := 0) hK hX hY hP hD hS hA [0] (by decide) rfl rfl rfl) rfl rfl hl.1 rfl (lv_room (Nat.le_of_ble_eq_true rfl)) dL_law_1474 ⟨Nat.le_of_ble_eq_true rfl, Nat.le_of_ble_eq_true rfl⟩) hP hD hS hA [0] [] rfl rfl (by decide) (by decide) (fun x12 u11 H locs hw hP hD hS => ?_)
  obtain rfl : x12 = 0 := hw
  have hP : va_P D vwCl [(g0, .inr (17, [.ref m0, .ref m1, .ref m2, .ref m3, .ref m4, .ref m5, .ref m6, .ref m7, .ref m8, .ref m9, .ref m10, .ref m11, .ref m12, .ref m13, .ref m14, .ref m15, .ref m16, .ref m17, .ref m18, .ref m19, .ref m20, .int 1, .int 0, .int 0, .int 0, .long 0, .int 0]))] H := hP
  have hD : va_D A [(g0, .inr (17, [.ref m0, .ref m1, .ref m2, .ref m3, .ref m4, .ref m5, .ref m6, .ref m7, .ref m8, .ref m9, .ref m10, .ref m11, .ref m12, .ref m13, .ref m14, .ref m15, .ref m16, .ref m17, .ref m18, .ref m19, .ref m20, .int 1, .int 0, .int 0, .int 0, .long 0, .int 0]))] := hD
  refine lv_istore (lv' := [(7, .int 0), (6, .int 1), (0, .ref b), (1, .ref x0), (2, .ref g0), (3, .ref o1), (4, .ref o2), (5, .int 0)]) hx hb dL_law_1477 hl (by decide) rfl (fun ls hl => ?_)
  refine lv_aload_n hx hb dL_law_1479 rfl (lv_at hl 4 rfl) ?_
  refine zq_i (wc := [(g0, .inr (17, [.ref m0, .ref m1, .ref m2, .ref m3, .ref m4, .ref m5, .ref m6, .ref m7, .ref m8, .ref m9, .ref m10, .ref m11, .ref m12, .ref m13, .ref m14, .ref m15, .ref m16, .ref m17, .ref m18, .ref m19, .ref m20, .int 1, .int 0, .int 0, .int 0, .long 0, .int 0]))]) (wr := []) (va_runV (As := []) (rest := []) ⟨hx, hb, hml, hown, hts⟩ (k_thrown l D cy g0 m0 m1 m2 m3 m4 m5 m6 m7 m8 m9 m10 m11 m12 m13 m14 m15 m16 m17 m18 m19 m20 1 0 0 0 0 0 H.size ) (cwV 0 hts (gzV (gz q571) q570 q572 q573 q285) rfl rfl rfl vX14_thrown ⟨Nat.le_of_ble_eq_true rfl, Nat.le_of_ble_eq_true rfl⟩) (zpV (ci := 17) (T := TX14) (N := 27) (q0 := 0) hK hX hY hP hD hS hA [0] (by decide) rfl rfl rfl) rfl rfl hl.1 rfl (lv_room (Nat.le_of_ble_eq_true rfl)) dL_law_1480 ⟨Nat.le_of_ble_eq_true rfl, Nat.le_of_ble_eq_true rfl⟩) hP hD hS hA [0] [] rfl rfl (by decide) (by decide) (fun x14 u13 H locs hw hP hD hS => ?_)
  obtain rfl : x14 = 1 := hw
  have hP : va_P D vwCl [(g0, .inr (17, [.ref m0, .ref m1, .ref m2, .ref m3, .ref m4, .ref m5, .ref m6, .ref m7, .ref m8, .ref m9, .ref m10, .ref m11, .ref m12, .ref m13, .ref m14, .ref m15, .ref m16, .ref m17, .ref m18, .ref m19, .ref m20, .int 1, .int 0, .int 0, .int 0, .long 0, .int 0]))] H := hP
  have hD : va_D A [(g0, .inr (17, [.ref m0, .ref m1, .ref m2, .ref m3, .ref m4, .ref m5, .ref m6, .ref m7, .ref m8, .ref m9, .ref m10, .ref m11, .ref m12, .ref m13, .ref m14, .ref m15, .ref m16, .ref m17, .ref m18, .ref m19, .ref m20, .int 1, .int 0, .int 0, .int 0, .long 0, .int 0]))] := hD
  refine lv_iload hx hb dL_law_1483 (lv_at hl 1 rfl) ?_
  refine lv_icmp_eq (tgt := 1490) hx hb dL_law_1485 (by decide) (fun _ => ?_) (fun c_1485_14 => absurd (by decide +kernel) c_1485_14)
  refine lv_iload hx hb dL_law_1490 (lv_at hl 1 rfl) ?_
  refine lv_if_ne (tgt := 1507) hx hb dL_law_1492 (by decide) (fun _ => ?_) (fun c_1492_15 => absurd c_1492_15 (by decide +kernel))
  refine lv_goto (tgt := 2706) hx hb dL_law_1507 (by decide) ?_
  exact W.widen (k := 600006) (n := 7302040) (Nat.le_of_ble_eq_true rfl) (Nat.le_of_ble_eq_true rfl) (kt _ _ _ hS (lv_sub hl [2, 7] rfl))
