abbrev cJx4a65c_init_da8c8 : ByteArray := prog_35_method_2_code
def yJx4a65c_init_da8c8 : MethodName := ⟨RJx4a65c, "<init>", "()V"⟩
abbrev cJx4a65c_size_8abf5 : ByteArray := prog_35_method_8_code
def yJx4a65c_size_8abf5 : MethodName := ⟨RJx4a65c, "size", "()I"⟩
abbrev cJxa1e45_init_da8c8 : ByteArray := prog_33_method_1_code
def yJxa1e45_init_da8c8 : MethodName := ⟨RJxa1e45, "<init>", "()V"⟩
abbrev cJxc12de_init_da8c8 : ByteArray := prog_34_method_1_code
def yJxc12de_init_da8c8 : MethodName := ⟨RJxc12de, "<init>", "()V"⟩
abbrev cX13_against : ByteArray := prog_16_method_4_code
def yX13_against : MethodName := ⟨RX13, "against", "(LCavernbookModel$Wide;)I"⟩
abbrev cX13_init : ByteArray := prog_16_method_1_code
def yX13_init : MethodName := ⟨RX13, "<init>", "(J)V"⟩
abbrev cX13_times : ByteArray := prog_16_method_2_code
def yX13_times : MethodName := ⟨RX13, "times", "(LCavernbookModel$Wide;)LCavernbookModel$Wide;"⟩
abbrev cX14_allSquares : ByteArray := prog_12_method_20_code
def yX14_allSquares : MethodName := ⟨RX14, "allSquares", "()LCavernbookModel$Wide;"⟩
abbrev cX14_answer : ByteArray := prog_12_method_4_code
def yX14_answer : MethodName := ⟨RX14, "answer", "(I)I"⟩
abbrev cX14_baseSquare : ByteArray := prog_12_method_21_code
def yX14_baseSquare : MethodName := ⟨RX14, "baseSquare", "()LCavernbookModel$Wide;"⟩
abbrev cX14_determinant : ByteArray := prog_12_method_16_code
def yX14_determinant : MethodName := ⟨RX14, "determinant", "(II)J"⟩
abbrev cX14_fails : ByteArray := prog_12_method_3_code
def yX14_fails : MethodName := ⟨RX14, "fails", "(I)I"⟩
abbrev cX14_groups : ByteArray := prog_12_method_12_code
def yX14_groups : MethodName := ⟨RX14, "groups", "([II)V"⟩
abbrev cX14_hangs : ByteArray := prog_12_method_13_code
def yX14_hangs : MethodName := ⟨RX14, "hangs", "(II)V"⟩
abbrev cX14_hasPlan : ByteArray := prog_12_method_66_code
def yX14_hasPlan : MethodName := ⟨RX14, "hasPlan", "(II)Z"⟩
abbrev cX14_in : ByteArray := prog_12_method_8_code
def yX14_in : MethodName := ⟨RX14, "in", "(JJJ)Z"⟩
abbrev cX14_init : ByteArray := prog_12_method_1_code
def yX14_init : MethodName := ⟨RX14, "<init>", "()V"⟩
abbrev cX14_isDay : ByteArray := prog_12_method_11_code
def yX14_isDay : MethodName := ⟨RX14, "isDay", "(I)Z"⟩
abbrev cX14_isParty : ByteArray := prog_12_method_54_code
def yX14_isParty : MethodName := ⟨RX14, "isParty", "(I)Z"⟩
abbrev cX14_isPlace : ByteArray := prog_12_method_30_code
def yX14_isPlace : MethodName := ⟨RX14, "isPlace", "(III)Z"⟩
abbrev cX14_isShot : ByteArray := prog_12_method_10_code
def yX14_isShot : MethodName := ⟨RX14, "isShot", "(I)Z"⟩
abbrev cX14_isStation : ByteArray := prog_12_method_9_code
def yX14_isStation : MethodName := ⟨RX14, "isStation", "(I)Z"⟩
abbrev cX14_laysOut : ByteArray := prog_12_method_14_code
def yX14_laysOut : MethodName := ⟨RX14, "laysOut", "()V"⟩
abbrev cX14_places : ByteArray := prog_12_method_17_code
def yX14_places : MethodName := ⟨RX14, "places", "(II)V"⟩
abbrev cX14_refuses : ByteArray := prog_12_method_6_code
def yX14_refuses : MethodName := ⟨RX14, "refuses", "(I)Z"⟩
abbrev cX14_tellLong : ByteArray := prog_12_method_5_code
def yX14_tellLong : MethodName := ⟨RX14, "tellLong", "(J)J"⟩
abbrev cX14_tells : ByteArray := prog_12_method_7_code
def yX14_tells : MethodName := ⟨RX14, "tells", "(Z)Z"⟩
abbrev cX14_thousandths : ByteArray := prog_12_method_22_code
def yX14_thousandths : MethodName := ⟨RX14, "thousandths", "(LCavernbookModel$Wide;)J"⟩
abbrev cX14_thrown : ByteArray := prog_12_method_2_code
def yX14_thrown : MethodName := ⟨RX14, "thrown", "()I"⟩
abbrev cX14_used : ByteArray := prog_12_method_34_code
def yX14_used : MethodName := ⟨RX14, "used", "()I"⟩
abbrev cX14_waterIn : ByteArray := prog_12_method_48_code
def yX14_waterIn : MethodName := ⟨RX14, "waterIn", "(I)I"⟩
theorem vJx4a65c_init_da8c8 : yJx4a65c_init_da8c8.cls = RJx4a65c ∧ yJx4a65c_init_da8c8.cls ≠ "java/lang/invoke/MethodHandle" ∧ yJx4a65c_init_da8c8.cls ≠ "java/lang/invoke/VarHandle" ∧ (parseMethodDescriptor yJx4a65c_init_da8c8.desc).map (fun d => d.parameters.length) = some 0 := by decide +kernel
theorem vJx4a65c_size_8abf5 : yJx4a65c_size_8abf5.cls = RJx4a65c ∧ yJx4a65c_size_8abf5.cls ≠ "java/lang/invoke/MethodHandle" ∧ yJx4a65c_size_8abf5.cls ≠ "java/lang/invoke/VarHandle" ∧ (parseMethodDescriptor yJx4a65c_size_8abf5.desc).map (fun d => d.parameters.length) = some 0 := by decide +kernel
theorem vJxa1e45_init_da8c8 : yJxa1e45_init_da8c8.cls = RJxa1e45 ∧ yJxa1e45_init_da8c8.cls ≠ "java/lang/invoke/MethodHandle" ∧ yJxa1e45_init_da8c8.cls ≠ "java/lang/invoke/VarHandle" ∧ (parseMethodDescriptor yJxa1e45_init_da8c8.desc).map (fun d => d.parameters.length) = some 0 := by decide +kernel
theorem vJxc12de_init_da8c8 : yJxc12de_init_da8c8.cls = RJxc12de ∧ yJxc12de_init_da8c8.cls ≠ "java/lang/invoke/MethodHandle" ∧ yJxc12de_init_da8c8.cls ≠ "java/lang/invoke/VarHandle" ∧ (parseMethodDescriptor yJxc12de_init_da8c8.desc).map (fun d => d.parameters.length) = some 0 := by decide +kernel
theorem vX13_against : yX13_against.cls = RX13 ∧ yX13_against.cls ≠ "java/lang/invoke/MethodHandle" ∧ yX13_against.cls ≠ "java/lang/invoke/VarHandle" ∧ (parseMethodDescriptor yX13_against.desc).map (fun d => d.parameters.length) = some 1 := by decide +kernel
theorem vX13_init : yX13_init.cls = RX13 ∧ yX13_init.cls ≠ "java/lang/invoke/MethodHandle" ∧ yX13_init.cls ≠ "java/lang/invoke/VarHandle" ∧ (parseMethodDescriptor yX13_init.desc).map (fun d => d.parameters.length) = some 1 := by decide +kernel
theorem vX13_times : yX13_times.cls = RX13 ∧ yX13_times.cls ≠ "java/lang/invoke/MethodHandle" ∧ yX13_times.cls ≠ "java/lang/invoke/VarHandle" ∧ (parseMethodDescriptor yX13_times.desc).map (fun d => d.parameters.length) = some 1 := by decide +kernel
theorem vX14_baseSquare : yX14_baseSquare.cls = RX14 ∧ yX14_baseSquare.cls ≠ "java/lang/invoke/MethodHandle" ∧ yX14_baseSquare.cls ≠ "java/lang/invoke/VarHandle" ∧ (parseMethodDescriptor yX14_baseSquare.desc).map (fun d => d.parameters.length) = some 0 := by decide +kernel
theorem vX14_determinant : yX14_determinant.cls = RX14 ∧ yX14_determinant.cls ≠ "java/lang/invoke/MethodHandle" ∧ yX14_determinant.cls ≠ "java/lang/invoke/VarHandle" ∧ (parseMethodDescriptor yX14_determinant.desc).map (fun d => d.parameters.length) = some 2 := by decide +kernel
theorem vX14_groups : yX14_groups.cls = RX14 ∧ yX14_groups.cls ≠ "java/lang/invoke/MethodHandle" ∧ yX14_groups.cls ≠ "java/lang/invoke/VarHandle" ∧ (parseMethodDescriptor yX14_groups.desc).map (fun d => d.parameters.length) = some 2 := by decide +kernel
theorem vX14_hangs : yX14_hangs.cls = RX14 ∧ yX14_hangs.cls ≠ "java/lang/invoke/MethodHandle" ∧ yX14_hangs.cls ≠ "java/lang/invoke/VarHandle" ∧ (parseMethodDescriptor yX14_hangs.desc).map (fun d => d.parameters.length) = some 2 := by decide +kernel
theorem vX14_in : yX14_in.cls = RX14 ∧ yX14_in.cls ≠ "java/lang/invoke/MethodHandle" ∧ yX14_in.cls ≠ "java/lang/invoke/VarHandle" ∧ (parseMethodDescriptor yX14_in.desc).map (fun d => d.parameters.length) = some 3 := by decide +kernel
theorem vX14_isParty : yX14_isParty.cls = RX14 ∧ yX14_isParty.cls ≠ "java/lang/invoke/MethodHandle" ∧ yX14_isParty.cls ≠ "java/lang/invoke/VarHandle" ∧ (parseMethodDescriptor yX14_isParty.desc).map (fun d => d.parameters.length) = some 1 := by decide +kernel
theorem vX14_isStation : yX14_isStation.cls = RX14 ∧ yX14_isStation.cls ≠ "java/lang/invoke/MethodHandle" ∧ yX14_isStation.cls ≠ "java/lang/invoke/VarHandle" ∧ (parseMethodDescriptor yX14_isStation.desc).map (fun d => d.parameters.length) = some 1 := by decide +kernel
theorem vX14_laysOut : yX14_laysOut.cls = RX14 ∧ yX14_laysOut.cls ≠ "java/lang/invoke/MethodHandle" ∧ yX14_laysOut.cls ≠ "java/lang/invoke/VarHandle" ∧ (parseMethodDescriptor yX14_laysOut.desc).map (fun d => d.parameters.length) = some 0 := by decide +kernel
theorem q239 : Cond.methodLink RJxa1e45 1 objectInit ∈ wAll := wIn (wT5 (List.mem_of_getElem? (i := 175) rfl)) rfl
theorem q240 : Cond.methodLink RJxc12de 1 yJxa1e45_init_da8c8 ∈ wAll := wIn (wT5 (List.mem_of_getElem? (i := 172) rfl)) rfl
theorem q241 : Cond.code yJxa1e45_init_da8c8 cJxa1e45_init_da8c8 1 none ∈ wAll := wIn (wT5 (List.mem_of_getElem? (i := 174) rfl)) rfl
theorem q242 : Cond.initialized RJxa1e45 ∈ wAll := wIn (wT1 (List.mem_of_getElem? (i := 12) rfl)) rfl
theorem q243 : Cond.instanceMethod yJxa1e45_init_da8c8 ∈ wAll := wIn (wT5 (List.mem_of_getElem? (i := 173) rfl)) rfl
theorem q244 : Cond.fieldLink RJxc12de 7 "java/util/AbstractList" "modCount" "I" ∈ wAll := wIn (wT5 (List.mem_of_getElem? (i := 180) rfl)) rfl
theorem q245 : Cond.methodLink RJx4a65c 1 yJxc12de_init_da8c8 ∈ wAll := wIn (wT5 (List.mem_of_getElem? (i := 169) rfl)) rfl
theorem q246 : Cond.code yJxc12de_init_da8c8 cJxc12de_init_da8c8 1 none ∈ wAll := wIn (wT5 (List.mem_of_getElem? (i := 171) rfl)) rfl
theorem q247 : Cond.initialized RJxc12de ∈ wAll := wIn (wT1 (List.mem_of_getElem? (i := 13) rfl)) rfl
theorem q248 : Cond.instanceMethod yJxc12de_init_da8c8 ∈ wAll := wIn (wT5 (List.mem_of_getElem? (i := 170) rfl)) rfl
theorem q249 : Cond.fieldLink RJx4a65c 39 "java/util/ArrayList" "DEFAULTCAPACITY_EMPTY_ELEMENTDATA" "[Ljava/lang/Object;" ∈ wAll := wIn (wT5 (List.mem_of_getElem? (i := 176) rfl)) rfl
theorem q250 : Cond.fieldLink RJx4a65c 9 "java/util/ArrayList" "elementData" "[Ljava/lang/Object;" ∈ wAll := wIn (wT5 (List.mem_of_getElem? (i := 178) rfl)) rfl
theorem q251 : Cond.fieldLink RJx4a65c 48 "java/util/ArrayList" "size" "I" ∈ wAll := wIn (wT5 (List.mem_of_getElem? (i := 179) rfl)) rfl
theorem q252 : Cond.methodLink RX14 1 objectInit ∈ wAll := wIn (wT5 (List.mem_of_getElem? (i := 163) rfl)) rfl
theorem q253 : Cond.classLink RX14 7 "java/util/ArrayList" ∈ wAll := wIn (wT5 (List.mem_of_getElem? (i := 164) rfl)) rfl
theorem q254 : Cond.instantiable RJx4a65c 3 ∈ wAll := wIn (wT5 (List.mem_of_getElem? (i := 165) rfl)) rfl
theorem q255 : Cond.initialized RJx4a65c ∈ wAll := wIn (wT1 (List.mem_of_getElem? (i := 14) rfl)) rfl
theorem q256 : Cond.methodLink RX14 9 yJx4a65c_init_da8c8 ∈ wAll := wIn (wT5 (List.mem_of_getElem? (i := 166) rfl)) rfl
theorem q257 : Cond.code yJx4a65c_init_da8c8 cJx4a65c_init_da8c8 1 none ∈ wAll := wIn (wT5 (List.mem_of_getElem? (i := 168) rfl)) rfl
theorem q258 : Cond.instanceMethod yJx4a65c_init_da8c8 ∈ wAll := wIn (wT5 (List.mem_of_getElem? (i := 167) rfl)) rfl
theorem q259 : Cond.fieldLink RX14 10 "CavernbookModel" "shots" "Ljava/util/ArrayList;" ∈ wAll := wIn (wT5 (List.mem_of_getElem? (i := 190) rfl)) rfl
theorem q260 : Cond.fieldLink RX14 16 "CavernbookModel" "conduits" "Ljava/util/ArrayList;" ∈ wAll := wIn (wT5 (List.mem_of_getElem? (i := 191) rfl)) rfl
theorem q261 : Cond.fieldLink RX14 19 "CavernbookModel" "parties" "Ljava/util/ArrayList;" ∈ wAll := wIn (wT5 (List.mem_of_getElem? (i := 192) rfl)) rfl
theorem q262 : Cond.fieldLink RX14 22 "CavernbookModel" "heights" "[I" ∈ wAll := wIn (wT5 (List.mem_of_getElem? (i := 193) rfl)) rfl
theorem q263 : Cond.fieldLink RX14 26 "CavernbookModel" "joinA" "[I" ∈ wAll := wIn (wT5 (List.mem_of_getElem? (i := 194) rfl)) rfl
theorem q264 : Cond.fieldLink RX14 29 "CavernbookModel" "joinB" "[I" ∈ wAll := wIn (wT5 (List.mem_of_getElem? (i := 195) rfl)) rfl
theorem q265 : Cond.fieldLink RX14 32 "CavernbookModel" "joinDay" "[I" ∈ wAll := wIn (wT5 (List.mem_of_getElem? (i := 196) rfl)) rfl
theorem q266 : Cond.fieldLink RX14 35 "CavernbookModel" "rains" "[I" ∈ wAll := wIn (wT5 (List.mem_of_getElem? (i := 197) rfl)) rfl
theorem q267 : Cond.fieldLink RX14 38 "CavernbookModel" "waters" "[I" ∈ wAll := wIn (wT5 (List.mem_of_getElem? (i := 198) rfl)) rfl
theorem q268 : Cond.fieldLink RX14 41 "CavernbookModel" "group" "[I" ∈ wAll := wIn (wT5 (List.mem_of_getElem? (i := 199) rfl)) rfl
theorem q269 : Cond.fieldLink RX14 44 "CavernbookModel" "column" "[I" ∈ wAll := wIn (wT5 (List.mem_of_getElem? (i := 200) rfl)) rfl
theorem q270 : Cond.fieldLink RX14 47 "CavernbookModel" "everGroup" "[I" ∈ wAll := wIn (wT5 (List.mem_of_getElem? (i := 201) rfl)) rfl
theorem q271 : Cond.fieldLink RX14 50 "CavernbookModel" "isHung" "[Z" ∈ wAll := wIn (wT5 (List.mem_of_getElem? (i := 202) rfl)) rfl
theorem q272 : Cond.fieldLink RX14 54 "CavernbookModel" "isUsed" "[Z" ∈ wAll := wIn (wT5 (List.mem_of_getElem? (i := 203) rfl)) rfl
theorem q273 : Cond.fieldLink RX14 57 "CavernbookModel" "minors" "[J" ∈ wAll := wIn (wT5 (List.mem_of_getElem? (i := 204) rfl)) rfl
theorem q274 : Cond.fieldLink RX14 61 "CavernbookModel" "tops" "[J" ∈ wAll := wIn (wT5 (List.mem_of_getElem? (i := 205) rfl)) rfl
theorem q275 : Cond.fieldLink RX14 64 "CavernbookModel" "matrix" "[J" ∈ wAll := wIn (wT5 (List.mem_of_getElem? (i := 206) rfl)) rfl
theorem q276 : Cond.fieldLink RX14 67 "CavernbookModel" "rights" "[J" ∈ wAll := wIn (wT5 (List.mem_of_getElem? (i := 207) rfl)) rfl
theorem q277 : Cond.fieldLink RX14 70 "CavernbookModel" "comes" "[I" ∈ wAll := wIn (wT5 (List.mem_of_getElem? (i := 208) rfl)) rfl
theorem q278 : Cond.fieldLink RX14 73 "CavernbookModel" "outs" "[I" ∈ wAll := wIn (wT5 (List.mem_of_getElem? (i := 209) rfl)) rfl
theorem q279 : Cond.fieldLink RX14 76 "CavernbookModel" "good" "[Z" ∈ wAll := wIn (wT5 (List.mem_of_getElem? (i := 210) rfl)) rfl
theorem q280 : Cond.fieldLink RX14 79 "CavernbookModel" "thrown" "I" ∈ wAll := wIn (wT5 (List.mem_of_getElem? (i := 211) rfl)) rfl
theorem q281 : Cond.fieldLink RX14 83 "CavernbookModel" "stations" "I" ∈ wAll := wIn (wT5 (List.mem_of_getElem? (i := 212) rfl)) rfl
theorem q282 : Cond.methodLink RX14 86 yX14_in ∈ wAll := wIn (wT6 (List.mem_of_getElem? (i := 56) rfl)) rfl
theorem q283 : Cond.code yX14_in cX14_in 6 (some .boolean) ∈ wAll := wIn (wT6 (List.mem_of_getElem? (i := 58) rfl)) rfl
theorem q284 : Cond.static yX14_in ∈ wAll := wIn (wT6 (List.mem_of_getElem? (i := 57) rfl)) rfl
theorem q285 : Cond.initialized RX14 ∈ wAll := wIn (wT1 (List.mem_of_getElem? (i := 11) rfl)) rfl
theorem q286 : Cond.methodLink RX14 90 yJx4a65c_size_8abf5 ∈ wAll := wIn (wT6 (List.mem_of_getElem? (i := 65) rfl)) rfl
theorem q287 : Cond.code yJx4a65c_size_8abf5 cJx4a65c_size_8abf5 1 (some .int) ∈ wAll := wIn (wT6 (List.mem_of_getElem? (i := 68) rfl)) rfl
theorem q288 : Cond.instanceMethod yJx4a65c_size_8abf5 ∈ wAll := wIn (wT6 (List.mem_of_getElem? (i := 66) rfl)) rfl
theorem q289 : Cond.selects RJx4a65c yJx4a65c_size_8abf5 yJx4a65c_size_8abf5 ∈ wAll := wIn (wT6 (List.mem_of_getElem? (i := 67) rfl)) rfl
theorem q290 : Cond.constantLong RX14 94 999 ∈ wAll := wIn (wT6 (List.mem_of_getElem? (i := 60) rfl)) rfl
theorem q291 : Cond.fieldLink RX14 96 "CavernbookModel" "joins" "I" ∈ wAll := wIn (wT5 (List.mem_of_getElem? (i := 213) rfl)) rfl
theorem q292 : Cond.methodLink RX14 108 yX14_groups ∈ wAll := wIn (wT6 (List.mem_of_getElem? (i := 206) rfl)) rfl
theorem q293 : Cond.code yX14_groups cX14_groups 8 none ∈ wAll := wIn (wT6 (List.mem_of_getElem? (i := 209) rfl)) rfl
theorem q294 : Cond.instanceMethod yX14_groups ∈ wAll := wIn (wT6 (List.mem_of_getElem? (i := 208) rfl)) rfl
theorem q295 : Cond.selects RX14 yX14_groups yX14_groups ∈ wAll := wIn (wT0 (List.mem_of_getElem? (i := 36) rfl)) rfl
theorem q296 : Cond.fieldLink RX14 128 "CavernbookModel" "unknowns" "I" ∈ wAll := wIn (wT5 (List.mem_of_getElem? (i := 214) rfl)) rfl
theorem q297 : Cond.methodLink RX14 147 yX14_hangs ∈ wAll := wIn (wT6 (List.mem_of_getElem? (i := 220) rfl)) rfl
theorem q298 : Cond.code yX14_hangs cX14_hangs 7 none ∈ wAll := wIn (wT6 (List.mem_of_getElem? (i := 223) rfl)) rfl
theorem q299 : Cond.instanceMethod yX14_hangs ∈ wAll := wIn (wT6 (List.mem_of_getElem? (i := 222) rfl)) rfl
theorem q300 : Cond.selects RX14 yX14_hangs yX14_hangs ∈ wAll := wIn (wT0 (List.mem_of_getElem? (i := 37) rfl)) rfl
theorem q301 : Cond.methodLink RX14 151 yX14_laysOut ∈ wAll := wIn (wT7 (List.mem_of_getElem? (i := 1) rfl)) rfl
theorem q302 : Cond.code yX14_laysOut cX14_laysOut 3 none ∈ wAll := wIn (wT7 (List.mem_of_getElem? (i := 4) rfl)) rfl
theorem q303 : Cond.instanceMethod yX14_laysOut ∈ wAll := wIn (wT7 (List.mem_of_getElem? (i := 3) rfl)) rfl
theorem q304 : Cond.selects RX14 yX14_laysOut yX14_laysOut ∈ wAll := wIn (wT0 (List.mem_of_getElem? (i := 40) rfl)) rfl
theorem q305 : Cond.methodLink RX14 154 yX14_determinant ∈ wAll := wIn (wT7 (List.mem_of_getElem? (i := 9) rfl)) rfl
theorem q306 : Cond.code yX14_determinant cX14_determinant 11 (some .long) ∈ wAll := wIn (wT7 (List.mem_of_getElem? (i := 12) rfl)) rfl
theorem q307 : Cond.instanceMethod yX14_determinant ∈ wAll := wIn (wT7 (List.mem_of_getElem? (i := 11) rfl)) rfl
theorem q308 : Cond.selects RX14 yX14_determinant yX14_determinant ∈ wAll := wIn (wT0 (List.mem_of_getElem? (i := 42) rfl)) rfl
theorem q309 : Cond.fieldLink RX14 158 "CavernbookModel" "base" "J" ∈ wAll := wIn (wT5 (List.mem_of_getElem? (i := 215) rfl)) rfl
theorem q310 : Cond.methodLink RX13 1 objectInit ∈ wAll := wIn (wT7 (List.mem_of_getElem? (i := 51) rfl)) rfl
theorem q311 : Cond.fieldLink RX13 7 "CavernbookModel$Wide" "limbs" "[I" ∈ wAll := wIn (wT7 (List.mem_of_getElem? (i := 53) rfl)) rfl
theorem q312 : Cond.constantLong RX13 13 32767 ∈ wAll := wIn (wT7 (List.mem_of_getElem? (i := 52) rfl)) rfl
theorem q313 : Cond.classLink RX13 8 "CavernbookModel$Wide" ∈ wAll := wIn (wT7 (List.mem_of_getElem? (i := 61) rfl)) rfl
theorem q314 : Cond.instantiable RX13 1 ∈ wAll := wIn (wT7 (List.mem_of_getElem? (i := 47) rfl)) rfl
theorem q315 : Cond.initialized RX13 ∈ wAll := wIn (wT1 (List.mem_of_getElem? (i := 32) rfl)) rfl
theorem q316 : Cond.methodLink RX13 15 yX13_init ∈ wAll := wIn (wT7 (List.mem_of_getElem? (i := 62) rfl)) rfl
theorem q317 : Cond.code yX13_init cX13_init 6 none ∈ wAll := wIn (wT7 (List.mem_of_getElem? (i := 50) rfl)) rfl
theorem q318 : Cond.instanceMethod yX13_init ∈ wAll := wIn (wT7 (List.mem_of_getElem? (i := 49) rfl)) rfl
theorem q319 : Cond.classLink RX14 162 "CavernbookModel$Wide" ∈ wAll := wIn (wT7 (List.mem_of_getElem? (i := 46) rfl)) rfl
theorem q320 : Cond.methodLink RX14 164 yX13_init ∈ wAll := wIn (wT7 (List.mem_of_getElem? (i := 48) rfl)) rfl
theorem q321 : Cond.methodLink RX14 174 yX13_times ∈ wAll := wIn (wT7 (List.mem_of_getElem? (i := 57) rfl)) rfl
theorem q322 : Cond.code yX13_times cX13_times 9 (some (.object "CavernbookModel$Wide")) ∈ wAll := wIn (wT7 (List.mem_of_getElem? (i := 60) rfl)) rfl
theorem q323 : Cond.instanceMethod yX13_times ∈ wAll := wIn (wT7 (List.mem_of_getElem? (i := 58) rfl)) rfl
theorem q324 : Cond.selects RX13 yX13_times yX13_times ∈ wAll := wIn (wT7 (List.mem_of_getElem? (i := 59) rfl)) rfl
theorem q325 : Cond.constantLong RX14 186 1000 ∈ wAll := wIn (wT7 (List.mem_of_getElem? (i := 71) rfl)) rfl
theorem q326 : Cond.methodLink RX14 188 yX14_baseSquare ∈ wAll := wIn (wT7 (List.mem_of_getElem? (i := 72) rfl)) rfl
theorem q327 : Cond.code yX14_baseSquare cX14_baseSquare 2 (some (.object "CavernbookModel$Wide")) ∈ wAll := wIn (wT7 (List.mem_of_getElem? (i := 75) rfl)) rfl
theorem q328 : Cond.instanceMethod yX14_baseSquare ∈ wAll := wIn (wT7 (List.mem_of_getElem? (i := 74) rfl)) rfl
theorem q329 : Cond.selects RX14 yX14_baseSquare yX14_baseSquare ∈ wAll := wIn (wT0 (List.mem_of_getElem? (i := 48) rfl)) rfl
theorem q330 : Cond.methodLink RX14 192 yX13_against ∈ wAll := wIn (wT7 (List.mem_of_getElem? (i := 76) rfl)) rfl
theorem q331 : Cond.code yX13_against cX13_against 3 (some .int) ∈ wAll := wIn (wT7 (List.mem_of_getElem? (i := 79) rfl)) rfl
theorem q332 : Cond.instanceMethod yX13_against ∈ wAll := wIn (wT7 (List.mem_of_getElem? (i := 77) rfl)) rfl
theorem q333 : Cond.selects RX13 yX13_against yX13_against ∈ wAll := wIn (wT7 (List.mem_of_getElem? (i := 78) rfl)) rfl
theorem q334 : Cond.constantLong RX14 196 2 ∈ wAll := wIn (wT6 (List.mem_of_getElem? (i := 236) rfl)) rfl
theorem q335 : Cond.fieldLink RX14 294 "CavernbookModel" "areWaters" "Z" ∈ wAll := wIn (wT5 (List.mem_of_getElem? (i := 216) rfl)) rfl
theorem q336 : Cond.methodLink RX14 208 yX14_isStation ∈ wAll := wIn (wT6 (List.mem_of_getElem? (i := 52) rfl)) rfl
theorem q337 : Cond.code yX14_isStation cX14_isStation 2 (some .boolean) ∈ wAll := wIn (wT6 (List.mem_of_getElem? (i := 55) rfl)) rfl
theorem q338 : Cond.instanceMethod yX14_isStation ∈ wAll := wIn (wT6 (List.mem_of_getElem? (i := 54) rfl)) rfl
theorem q339 : Cond.selects RX14 yX14_isStation yX14_isStation ∈ wAll := wIn (wT0 (List.mem_of_getElem? (i := 29) rfl)) rfl
theorem q340 : Cond.methodLink RX14 318 yX14_isParty ∈ wAll := wIn (wT7 (List.mem_of_getElem? (i := 211) rfl)) rfl
theorem q341 : Cond.code yX14_isParty cX14_isParty 2 (some .boolean) ∈ wAll := wIn (wT7 (List.mem_of_getElem? (i := 214) rfl)) rfl
theorem q342 : Cond.instanceMethod yX14_isParty ∈ wAll := wIn (wT7 (List.mem_of_getElem? (i := 213) rfl)) rfl
theorem q343 : Cond.selects RX14 yX14_isParty yX14_isParty ∈ wAll := wIn (wT0 (List.mem_of_getElem? (i := 55) rfl)) rfl
theorem iRJx4a65c_l : ∀ w ∈ u_ws RJx4a65c TJx4a65c 3, w ∈ lw_tbl ∧ goodWord w = true := by decide +kernel
theorem iRJx4a65c : ∀ w ∈ u_ws RJx4a65c TJx4a65c 3, w ∈ wAll := fun w h => wIn (iRJx4a65c_l w h).1 (iRJx4a65c_l w h).2
theorem iRX13_l : ∀ w ∈ u_ws RX13 TX13 1, w ∈ lw_tbl ∧ goodWord w = true := by decide +kernel
theorem iRX13 : ∀ w ∈ u_ws RX13 TX13 1, w ∈ wAll := fun w h => wIn (iRX13_l w h).1 (iRX13_l w h).2
theorem iRX14_l : ∀ w ∈ u_ws RX14 TX14 27, w ∈ lw_tbl ∧ goodWord w = true := by decide +kernel
theorem iRX14 : ∀ w ∈ u_ws RX14 TX14 27, w ∈ wAll := fun w h => wIn (iRX14_l w h).1 (iRX14_l w h).2
theorem dJx4a65c_init_da8c8_0 : decode cJx4a65c_init_da8c8 0 = .ok (.aload_n 0, 1) := by decide +kernel
theorem dJx4a65c_init_da8c8_1 : decode cJx4a65c_init_da8c8 1 = .ok (.invokespecial 1, 3) := by decide +kernel
theorem dJx4a65c_init_da8c8_4 : decode cJx4a65c_init_da8c8 4 = .ok (.aload_n 0, 1) := by decide +kernel
theorem dJx4a65c_init_da8c8_5 : decode cJx4a65c_init_da8c8 5 = .ok (.getstatic 39, 3) := by decide +kernel
theorem dJx4a65c_init_da8c8_8 : decode cJx4a65c_init_da8c8 8 = .ok (.putfield 9, 3) := by decide +kernel
theorem dJx4a65c_init_da8c8_11 : decode cJx4a65c_init_da8c8 11 = .ok (.return_, 1) := by decide +kernel
theorem dJx4a65c_size_8abf5_0 : decode cJx4a65c_size_8abf5 0 = .ok (.aload_n 0, 1) := by decide +kernel
theorem dJx4a65c_size_8abf5_1 : decode cJx4a65c_size_8abf5 1 = .ok (.getfield 48, 3) := by decide +kernel
theorem dJx4a65c_size_8abf5_4 : decode cJx4a65c_size_8abf5 4 = .ok (.ireturn, 1) := by decide +kernel
theorem dJxa1e45_init_da8c8_0 : decode cJxa1e45_init_da8c8 0 = .ok (.aload_n 0, 1) := by decide +kernel
theorem dJxa1e45_init_da8c8_1 : decode cJxa1e45_init_da8c8 1 = .ok (.invokespecial 1, 3) := by decide +kernel
theorem dJxa1e45_init_da8c8_4 : decode cJxa1e45_init_da8c8 4 = .ok (.return_, 1) := by decide +kernel
theorem dJxc12de_init_da8c8_0 : decode cJxc12de_init_da8c8 0 = .ok (.aload_n 0, 1) := by decide +kernel
theorem dJxc12de_init_da8c8_1 : decode cJxc12de_init_da8c8 1 = .ok (.invokespecial 1, 3) := by decide +kernel
theorem dJxc12de_init_da8c8_4 : decode cJxc12de_init_da8c8 4 = .ok (.aload_n 0, 1) := by decide +kernel
theorem dJxc12de_init_da8c8_5 : decode cJxc12de_init_da8c8 5 = .ok (.iconst 0, 1) := by decide +kernel
theorem dJxc12de_init_da8c8_6 : decode cJxc12de_init_da8c8 6 = .ok (.putfield 7, 3) := by decide +kernel
theorem dJxc12de_init_da8c8_9 : decode cJxc12de_init_da8c8 9 = .ok (.return_, 1) := by decide +kernel
theorem dX13_against_0 : decode cX13_against 0 = .ok (.bipush 23, 2) := by decide +kernel
theorem dX13_against_2 : decode cX13_against 2 = .ok (.istore_n 2, 1) := by decide +kernel
theorem dX13_against_3 : decode cX13_against 3 = .ok (.iload_n 2, 1) := by decide +kernel
theorem dX13_against_4 : decode cX13_against 4 = .ok (.ifCond .lt 45, 3) := by decide +kernel
theorem dX13_against_7 : decode cX13_against 7 = .ok (.aload_n 0, 1) := by decide +kernel
theorem dX13_against_8 : decode cX13_against 8 = .ok (.getfield 7, 3) := by decide +kernel
theorem dX13_against_11 : decode cX13_against 11 = .ok (.iload_n 2, 1) := by decide +kernel
theorem dX13_against_12 : decode cX13_against 12 = .ok (.iaload, 1) := by decide +kernel
theorem dX13_against_13 : decode cX13_against 13 = .ok (.aload_n 1, 1) := by decide +kernel
theorem dX13_against_14 : decode cX13_against 14 = .ok (.getfield 7, 3) := by decide +kernel
theorem dX13_against_17 : decode cX13_against 17 = .ok (.iload_n 2, 1) := by decide +kernel
theorem dX13_against_18 : decode cX13_against 18 = .ok (.iaload, 1) := by decide +kernel
theorem dX13_against_19 : decode cX13_against 19 = .ok (.if_icmp .eq 24, 3) := by decide +kernel
theorem dX13_against_22 : decode cX13_against 22 = .ok (.aload_n 0, 1) := by decide +kernel
theorem dX13_against_23 : decode cX13_against 23 = .ok (.getfield 7, 3) := by decide +kernel
theorem dX13_against_26 : decode cX13_against 26 = .ok (.iload_n 2, 1) := by decide +kernel
theorem dX13_against_27 : decode cX13_against 27 = .ok (.iaload, 1) := by decide +kernel
theorem dX13_against_28 : decode cX13_against 28 = .ok (.aload_n 1, 1) := by decide +kernel
theorem dX13_against_29 : decode cX13_against 29 = .ok (.getfield 7, 3) := by decide +kernel
theorem dX13_against_32 : decode cX13_against 32 = .ok (.iload_n 2, 1) := by decide +kernel
theorem dX13_against_33 : decode cX13_against 33 = .ok (.iaload, 1) := by decide +kernel
theorem dX13_against_34 : decode cX13_against 34 = .ok (.if_icmp .le 7, 3) := by decide +kernel
theorem dX13_against_37 : decode cX13_against 37 = .ok (.iconst 1, 1) := by decide +kernel
theorem dX13_against_38 : decode cX13_against 38 = .ok (.goto 4, 3) := by decide +kernel
theorem dX13_against_42 : decode cX13_against 42 = .ok (.ireturn, 1) := by decide +kernel
theorem dX13_against_43 : decode cX13_against 43 = .ok (.iinc 2 (-1), 3) := by decide +kernel
theorem dX13_against_46 : decode cX13_against 46 = .ok (.goto (-43), 3) := by decide +kernel
theorem dX13_against_49 : decode cX13_against 49 = .ok (.iconst 0, 1) := by decide +kernel
theorem dX13_against_50 : decode cX13_against 50 = .ok (.ireturn, 1) := by decide +kernel
theorem dX13_init_0 : decode cX13_init 0 = .ok (.aload_n 0, 1) := by decide +kernel
theorem dX13_init_1 : decode cX13_init 1 = .ok (.invokespecial 1, 3) := by decide +kernel
theorem dX13_init_4 : decode cX13_init 4 = .ok (.aload_n 0, 1) := by decide +kernel
theorem dX13_init_5 : decode cX13_init 5 = .ok (.bipush 24, 2) := by decide +kernel
theorem dX13_init_7 : decode cX13_init 7 = .ok (.newarray .int, 2) := by decide +kernel
theorem dX13_init_9 : decode cX13_init 9 = .ok (.putfield 7, 3) := by decide +kernel
theorem dX13_init_12 : decode cX13_init 12 = .ok (.lload_n 1, 1) := by decide +kernel
theorem dX13_init_13 : decode cX13_init 13 = .ok (.lstore_n 3, 1) := by decide +kernel
theorem dX13_init_14 : decode cX13_init 14 = .ok (.iconst 0, 1) := by decide +kernel
theorem dX13_init_15 : decode cX13_init 15 = .ok (.istore 5, 2) := by decide +kernel
theorem dX13_init_17 : decode cX13_init 17 = .ok (.iload 5, 2) := by decide +kernel
theorem dX13_init_19 : decode cX13_init 19 = .ok (.iconst 5, 1) := by decide +kernel
theorem dX13_init_20 : decode cX13_init 20 = .ok (.if_icmp .ge 27, 3) := by decide +kernel
theorem dX13_init_23 : decode cX13_init 23 = .ok (.aload_n 0, 1) := by decide +kernel
theorem dX13_init_24 : decode cX13_init 24 = .ok (.getfield 7, 3) := by decide +kernel
theorem dX13_init_27 : decode cX13_init 27 = .ok (.iload 5, 2) := by decide +kernel
theorem dX13_init_29 : decode cX13_init 29 = .ok (.lload_n 3, 1) := by decide +kernel
theorem dX13_init_30 : decode cX13_init 30 = .ok (.ldc2_w 13, 3) := by decide +kernel
theorem dX13_init_33 : decode cX13_init 33 = .ok (.land, 1) := by decide +kernel
theorem dX13_init_34 : decode cX13_init 34 = .ok (.l2i, 1) := by decide +kernel
theorem dX13_init_35 : decode cX13_init 35 = .ok (.iastore, 1) := by decide +kernel
theorem dX13_init_36 : decode cX13_init 36 = .ok (.lload_n 3, 1) := by decide +kernel
theorem dX13_init_37 : decode cX13_init 37 = .ok (.bipush 15, 2) := by decide +kernel
theorem dX13_init_39 : decode cX13_init 39 = .ok (.lushr, 1) := by decide +kernel
theorem dX13_init_40 : decode cX13_init 40 = .ok (.lstore_n 3, 1) := by decide +kernel
theorem dX13_init_41 : decode cX13_init 41 = .ok (.iinc 5 1, 3) := by decide +kernel
theorem dX13_init_44 : decode cX13_init 44 = .ok (.goto (-27), 3) := by decide +kernel
theorem dX13_init_47 : decode cX13_init 47 = .ok (.return_, 1) := by decide +kernel
theorem dX13_times_0 : decode cX13_times 0 = .ok (.new 8, 3) := by decide +kernel
theorem dX13_times_3 : decode cX13_times 3 = .ok (.dup, 1) := by decide +kernel
theorem dX13_times_4 : decode cX13_times 4 = .ok (.lconst 0, 1) := by decide +kernel
theorem dX13_times_5 : decode cX13_times 5 = .ok (.invokespecial 15, 3) := by decide +kernel
theorem dX13_times_8 : decode cX13_times 8 = .ok (.astore_n 2, 1) := by decide +kernel
theorem dX13_times_9 : decode cX13_times 9 = .ok (.iconst 0, 1) := by decide +kernel
theorem dX13_times_10 : decode cX13_times 10 = .ok (.istore_n 3, 1) := by decide +kernel
theorem dX13_times_11 : decode cX13_times 11 = .ok (.iload_n 3, 1) := by decide +kernel
theorem dX13_times_12 : decode cX13_times 12 = .ok (.bipush 24, 2) := by decide +kernel
theorem dX13_times_14 : decode cX13_times 14 = .ok (.if_icmp .ge 85, 3) := by decide +kernel
theorem dX13_times_17 : decode cX13_times 17 = .ok (.lconst 0, 1) := by decide +kernel
theorem dX13_times_18 : decode cX13_times 18 = .ok (.lstore 4, 2) := by decide +kernel
theorem dX13_times_20 : decode cX13_times 20 = .ok (.iconst 0, 1) := by decide +kernel
theorem dX13_times_21 : decode cX13_times 21 = .ok (.istore 6, 2) := by decide +kernel
theorem dX13_times_23 : decode cX13_times 23 = .ok (.iload 6, 2) := by decide +kernel
theorem dX13_times_25 : decode cX13_times 25 = .ok (.iload_n 3, 1) := by decide +kernel
theorem dX13_times_26 : decode cX13_times 26 = .ok (.iadd, 1) := by decide +kernel
theorem dX13_times_27 : decode cX13_times 27 = .ok (.bipush 24, 2) := by decide +kernel
theorem dX13_times_29 : decode cX13_times 29 = .ok (.if_icmp .ge 64, 3) := by decide +kernel
theorem dX13_times_32 : decode cX13_times 32 = .ok (.aload_n 2, 1) := by decide +kernel
theorem dX13_times_33 : decode cX13_times 33 = .ok (.getfield 7, 3) := by decide +kernel
theorem dX13_times_36 : decode cX13_times 36 = .ok (.iload_n 3, 1) := by decide +kernel
theorem dX13_times_37 : decode cX13_times 37 = .ok (.iload 6, 2) := by decide +kernel
theorem dX13_times_39 : decode cX13_times 39 = .ok (.iadd, 1) := by decide +kernel
theorem dX13_times_40 : decode cX13_times 40 = .ok (.iaload, 1) := by decide +kernel
theorem dX13_times_41 : decode cX13_times 41 = .ok (.i2l, 1) := by decide +kernel
theorem dX13_times_42 : decode cX13_times 42 = .ok (.aload_n 0, 1) := by decide +kernel
theorem dX13_times_43 : decode cX13_times 43 = .ok (.getfield 7, 3) := by decide +kernel
theorem dX13_times_46 : decode cX13_times 46 = .ok (.iload_n 3, 1) := by decide +kernel
theorem dX13_times_47 : decode cX13_times 47 = .ok (.iaload, 1) := by decide +kernel
theorem dX13_times_48 : decode cX13_times 48 = .ok (.i2l, 1) := by decide +kernel
theorem dX13_times_49 : decode cX13_times 49 = .ok (.aload_n 1, 1) := by decide +kernel
theorem dX13_times_50 : decode cX13_times 50 = .ok (.getfield 7, 3) := by decide +kernel
theorem dX13_times_53 : decode cX13_times 53 = .ok (.iload 6, 2) := by decide +kernel
theorem dX13_times_55 : decode cX13_times 55 = .ok (.iaload, 1) := by decide +kernel
theorem dX13_times_56 : decode cX13_times 56 = .ok (.i2l, 1) := by decide +kernel
theorem dX13_times_57 : decode cX13_times 57 = .ok (.lmul, 1) := by decide +kernel
theorem dX13_times_58 : decode cX13_times 58 = .ok (.ladd, 1) := by decide +kernel
theorem dX13_times_59 : decode cX13_times 59 = .ok (.lload 4, 2) := by decide +kernel
theorem dX13_times_61 : decode cX13_times 61 = .ok (.ladd, 1) := by decide +kernel
theorem dX13_times_62 : decode cX13_times 62 = .ok (.lstore 7, 2) := by decide +kernel
theorem dX13_times_64 : decode cX13_times 64 = .ok (.aload_n 2, 1) := by decide +kernel
theorem dX13_times_65 : decode cX13_times 65 = .ok (.getfield 7, 3) := by decide +kernel
theorem dX13_times_68 : decode cX13_times 68 = .ok (.iload_n 3, 1) := by decide +kernel
theorem dX13_times_69 : decode cX13_times 69 = .ok (.iload 6, 2) := by decide +kernel
theorem dX13_times_71 : decode cX13_times 71 = .ok (.iadd, 1) := by decide +kernel
theorem dX13_times_72 : decode cX13_times 72 = .ok (.lload 7, 2) := by decide +kernel
theorem dX13_times_74 : decode cX13_times 74 = .ok (.ldc2_w 13, 3) := by decide +kernel
theorem dX13_times_77 : decode cX13_times 77 = .ok (.land, 1) := by decide +kernel
theorem dX13_times_78 : decode cX13_times 78 = .ok (.l2i, 1) := by decide +kernel
theorem dX13_times_79 : decode cX13_times 79 = .ok (.iastore, 1) := by decide +kernel
theorem dX13_times_80 : decode cX13_times 80 = .ok (.lload 7, 2) := by decide +kernel
theorem dX13_times_82 : decode cX13_times 82 = .ok (.bipush 15, 2) := by decide +kernel
theorem dX13_times_84 : decode cX13_times 84 = .ok (.lshr, 1) := by decide +kernel
theorem dX13_times_85 : decode cX13_times 85 = .ok (.lstore 4, 2) := by decide +kernel
theorem dX13_times_87 : decode cX13_times 87 = .ok (.iinc 6 1, 3) := by decide +kernel
theorem dX13_times_90 : decode cX13_times 90 = .ok (.goto (-67), 3) := by decide +kernel
theorem dX13_times_93 : decode cX13_times 93 = .ok (.iinc 3 1, 3) := by decide +kernel
theorem dX13_times_96 : decode cX13_times 96 = .ok (.goto (-85), 3) := by decide +kernel
theorem dX13_times_99 : decode cX13_times 99 = .ok (.aload_n 2, 1) := by decide +kernel
theorem dX13_times_100 : decode cX13_times 100 = .ok (.areturn, 1) := by decide +kernel
theorem dX14_allSquares_0 : decode cX14_allSquares 0 = .ok (.new 162, 3) := by decide +kernel
theorem dX14_allSquares_3 : decode cX14_allSquares 3 = .ok (.dup, 1) := by decide +kernel
theorem dX14_allSquares_4 : decode cX14_allSquares 4 = .ok (.lconst 0, 1) := by decide +kernel
theorem dX14_allSquares_5 : decode cX14_allSquares 5 = .ok (.invokespecial 164, 3) := by decide +kernel
theorem dX14_allSquares_8 : decode cX14_allSquares 8 = .ok (.astore_n 1, 1) := by decide +kernel
theorem dX14_allSquares_9 : decode cX14_allSquares 9 = .ok (.iconst 0, 1) := by decide +kernel
theorem dX14_allSquares_10 : decode cX14_allSquares 10 = .ok (.istore_n 2, 1) := by decide +kernel
theorem dX14_allSquares_11 : decode cX14_allSquares 11 = .ok (.iload_n 2, 1) := by decide +kernel
theorem dX14_allSquares_12 : decode cX14_allSquares 12 = .ok (.aload_n 0, 1) := by decide +kernel
theorem dX14_allSquares_13 : decode cX14_allSquares 13 = .ok (.getfield 10, 3) := by decide +kernel
theorem dX14_allSquares_16 : decode cX14_allSquares 16 = .ok (.invokevirtual 90, 3) := by decide +kernel
theorem dX14_allSquares_19 : decode cX14_allSquares 19 = .ok (.if_icmp .ge 62, 3) := by decide +kernel
theorem dX14_allSquares_81 : decode cX14_allSquares 81 = .ok (.aload_n 1, 1) := by decide +kernel
theorem dX14_allSquares_82 : decode cX14_allSquares 82 = .ok (.areturn, 1) := by decide +kernel
theorem dX14_answer_0 : decode cX14_answer 0 = .ok (.aload_n 0, 1) := by decide +kernel
theorem dX14_answer_1 : decode cX14_answer 1 = .ok (.iconst 0, 1) := by decide +kernel
theorem dX14_answer_2 : decode cX14_answer 2 = .ok (.putfield 79, 3) := by decide +kernel
theorem dX14_answer_5 : decode cX14_answer 5 = .ok (.iload_n 1, 1) := by decide +kernel
theorem dX14_answer_6 : decode cX14_answer 6 = .ok (.ireturn, 1) := by decide +kernel
theorem dX14_baseSquare_0 : decode cX14_baseSquare 0 = .ok (.new 162, 3) := by decide +kernel
theorem dX14_baseSquare_3 : decode cX14_baseSquare 3 = .ok (.dup, 1) := by decide +kernel
theorem dX14_baseSquare_4 : decode cX14_baseSquare 4 = .ok (.aload_n 0, 1) := by decide +kernel
theorem dX14_baseSquare_5 : decode cX14_baseSquare 5 = .ok (.getfield 158, 3) := by decide +kernel
theorem dX14_baseSquare_8 : decode cX14_baseSquare 8 = .ok (.invokespecial 164, 3) := by decide +kernel
theorem dX14_baseSquare_11 : decode cX14_baseSquare 11 = .ok (.astore_n 1, 1) := by decide +kernel
theorem dX14_baseSquare_12 : decode cX14_baseSquare 12 = .ok (.aload_n 1, 1) := by decide +kernel
theorem dX14_baseSquare_13 : decode cX14_baseSquare 13 = .ok (.aload_n 1, 1) := by decide +kernel
theorem dX14_baseSquare_14 : decode cX14_baseSquare 14 = .ok (.invokevirtual 174, 3) := by decide +kernel
theorem dX14_baseSquare_17 : decode cX14_baseSquare 17 = .ok (.areturn, 1) := by decide +kernel
theorem dX14_determinant_0 : decode cX14_determinant 0 = .ok (.iconst 0, 1) := by decide +kernel
theorem dX14_determinant_1 : decode cX14_determinant 1 = .ok (.istore_n 3, 1) := by decide +kernel
theorem dX14_determinant_2 : decode cX14_determinant 2 = .ok (.iload_n 3, 1) := by decide +kernel
theorem dX14_determinant_3 : decode cX14_determinant 3 = .ok (.iconst 1, 1) := by decide +kernel
theorem dX14_determinant_4 : decode cX14_determinant 4 = .ok (.aload_n 0, 1) := by decide +kernel
theorem dX14_determinant_5 : decode cX14_determinant 5 = .ok (.getfield 128, 3) := by decide +kernel
theorem dX14_determinant_8 : decode cX14_determinant 8 = .ok (.ishl, 1) := by decide +kernel
theorem dX14_determinant_9 : decode cX14_determinant 9 = .ok (.if_icmp .ge 16, 3) := by decide +kernel
theorem dX14_determinant_12 : decode cX14_determinant 12 = .ok (.aload_n 0, 1) := by decide +kernel
theorem dX14_determinant_13 : decode cX14_determinant 13 = .ok (.getfield 57, 3) := by decide +kernel
theorem dX14_determinant_16 : decode cX14_determinant 16 = .ok (.iload_n 3, 1) := by decide +kernel
theorem dX14_determinant_17 : decode cX14_determinant 17 = .ok (.lconst 0, 1) := by decide +kernel
theorem dX14_determinant_18 : decode cX14_determinant 18 = .ok (.lastore, 1) := by decide +kernel
theorem dX14_determinant_19 : decode cX14_determinant 19 = .ok (.iinc 3 1, 3) := by decide +kernel
theorem dX14_determinant_22 : decode cX14_determinant 22 = .ok (.goto (-20), 3) := by decide +kernel
theorem dX14_determinant_25 : decode cX14_determinant 25 = .ok (.aload_n 0, 1) := by decide +kernel
theorem dX14_determinant_26 : decode cX14_determinant 26 = .ok (.getfield 57, 3) := by decide +kernel
theorem dX14_determinant_29 : decode cX14_determinant 29 = .ok (.iconst 0, 1) := by decide +kernel
theorem dX14_determinant_30 : decode cX14_determinant 30 = .ok (.lconst 1, 1) := by decide +kernel
theorem dX14_determinant_31 : decode cX14_determinant 31 = .ok (.lastore, 1) := by decide +kernel
theorem dX14_determinant_32 : decode cX14_determinant 32 = .ok (.iconst 0, 1) := by decide +kernel
theorem dX14_determinant_33 : decode cX14_determinant 33 = .ok (.istore_n 3, 1) := by decide +kernel
theorem dX14_determinant_34 : decode cX14_determinant 34 = .ok (.iload_n 3, 1) := by decide +kernel
theorem dX14_determinant_35 : decode cX14_determinant 35 = .ok (.aload_n 0, 1) := by decide +kernel
theorem dX14_determinant_36 : decode cX14_determinant 36 = .ok (.getfield 128, 3) := by decide +kernel
theorem dX14_determinant_39 : decode cX14_determinant 39 = .ok (.if_icmp .ge 166, 3) := by decide +kernel
theorem dX14_determinant_205 : decode cX14_determinant 205 = .ok (.aload_n 0, 1) := by decide +kernel
theorem dX14_determinant_206 : decode cX14_determinant 206 = .ok (.getfield 57, 3) := by decide +kernel
theorem dX14_determinant_209 : decode cX14_determinant 209 = .ok (.iconst 1, 1) := by decide +kernel
theorem dX14_determinant_210 : decode cX14_determinant 210 = .ok (.aload_n 0, 1) := by decide +kernel
theorem dX14_determinant_211 : decode cX14_determinant 211 = .ok (.getfield 128, 3) := by decide +kernel
theorem dX14_determinant_214 : decode cX14_determinant 214 = .ok (.ishl, 1) := by decide +kernel
theorem dX14_determinant_215 : decode cX14_determinant 215 = .ok (.iconst 1, 1) := by decide +kernel
theorem dX14_determinant_216 : decode cX14_determinant 216 = .ok (.isub, 1) := by decide +kernel
theorem dX14_determinant_217 : decode cX14_determinant 217 = .ok (.laload, 1) := by decide +kernel
theorem dX14_determinant_218 : decode cX14_determinant 218 = .ok (.lreturn, 1) := by decide +kernel
theorem dX14_fails_0 : decode cX14_fails 0 = .ok (.aload_n 0, 1) := by decide +kernel
theorem dX14_fails_1 : decode cX14_fails 1 = .ok (.iload_n 1, 1) := by decide +kernel
theorem dX14_fails_2 : decode cX14_fails 2 = .ok (.putfield 79, 3) := by decide +kernel
theorem dX14_fails_5 : decode cX14_fails 5 = .ok (.iconst 0, 1) := by decide +kernel
theorem dX14_fails_6 : decode cX14_fails 6 = .ok (.ireturn, 1) := by decide +kernel
theorem dX14_groups_0 : decode cX14_groups 0 = .ok (.iconst 0, 1) := by decide +kernel
theorem dX14_groups_1 : decode cX14_groups 1 = .ok (.istore_n 3, 1) := by decide +kernel
theorem dX14_groups_2 : decode cX14_groups 2 = .ok (.iload_n 3, 1) := by decide +kernel
theorem dX14_groups_3 : decode cX14_groups 3 = .ok (.bipush 9, 2) := by decide +kernel
theorem dX14_groups_5 : decode cX14_groups 5 = .ok (.if_icmp .ge 13, 3) := by decide +kernel
theorem dX14_groups_8 : decode cX14_groups 8 = .ok (.aload_n 1, 1) := by decide +kernel
theorem dX14_groups_9 : decode cX14_groups 9 = .ok (.iload_n 3, 1) := by decide +kernel
theorem dX14_groups_10 : decode cX14_groups 10 = .ok (.iload_n 3, 1) := by decide +kernel
theorem dX14_groups_11 : decode cX14_groups 11 = .ok (.iastore, 1) := by decide +kernel
theorem dX14_groups_12 : decode cX14_groups 12 = .ok (.iinc 3 1, 3) := by decide +kernel
theorem dX14_groups_15 : decode cX14_groups 15 = .ok (.goto (-13), 3) := by decide +kernel
theorem dX14_groups_18 : decode cX14_groups 18 = .ok (.iconst 0, 1) := by decide +kernel
theorem dX14_groups_19 : decode cX14_groups 19 = .ok (.istore_n 3, 1) := by decide +kernel
theorem dX14_groups_20 : decode cX14_groups 20 = .ok (.iload_n 3, 1) := by decide +kernel
theorem dX14_groups_21 : decode cX14_groups 21 = .ok (.bipush 9, 2) := by decide +kernel
theorem dX14_groups_23 : decode cX14_groups 23 = .ok (.if_icmp .ge 125, 3) := by decide +kernel
theorem dX14_groups_26 : decode cX14_groups 26 = .ok (.iconst 0, 1) := by decide +kernel
theorem dX14_groups_27 : decode cX14_groups 27 = .ok (.istore 4, 2) := by decide +kernel
theorem dX14_groups_29 : decode cX14_groups 29 = .ok (.iload 4, 2) := by decide +kernel
theorem dX14_groups_31 : decode cX14_groups 31 = .ok (.aload_n 0, 1) := by decide +kernel
theorem dX14_groups_32 : decode cX14_groups 32 = .ok (.getfield 96, 3) := by decide +kernel
theorem dX14_groups_35 : decode cX14_groups 35 = .ok (.if_icmp .ge 107, 3) := by decide +kernel
theorem dX14_groups_142 : decode cX14_groups 142 = .ok (.iinc 3 1, 3) := by decide +kernel
theorem dX14_groups_145 : decode cX14_groups 145 = .ok (.goto (-125), 3) := by decide +kernel
theorem dX14_groups_148 : decode cX14_groups 148 = .ok (.return_, 1) := by decide +kernel
theorem dX14_hangs_0 : decode cX14_hangs 0 = .ok (.aload_n 0, 1) := by decide +kernel
theorem dX14_hangs_1 : decode cX14_hangs 1 = .ok (.aload_n 0, 1) := by decide +kernel
theorem dX14_hangs_2 : decode cX14_hangs 2 = .ok (.getfield 41, 3) := by decide +kernel
theorem dX14_hangs_5 : decode cX14_hangs 5 = .ok (.iload_n 1, 1) := by decide +kernel
theorem dX14_hangs_6 : decode cX14_hangs 6 = .ok (.invokevirtual 108, 3) := by decide +kernel
theorem dX14_hangs_9 : decode cX14_hangs 9 = .ok (.iconst 0, 1) := by decide +kernel
theorem dX14_hangs_10 : decode cX14_hangs 10 = .ok (.istore_n 3, 1) := by decide +kernel
theorem dX14_hangs_11 : decode cX14_hangs 11 = .ok (.iload_n 3, 1) := by decide +kernel
theorem dX14_hangs_12 : decode cX14_hangs 12 = .ok (.bipush 9, 2) := by decide +kernel
theorem dX14_hangs_14 : decode cX14_hangs 14 = .ok (.if_icmp .ge 37, 3) := by decide +kernel
theorem dX14_hangs_17 : decode cX14_hangs 17 = .ok (.aload_n 0, 1) := by decide +kernel
theorem dX14_hangs_18 : decode cX14_hangs 18 = .ok (.getfield 50, 3) := by decide +kernel
theorem dX14_hangs_21 : decode cX14_hangs 21 = .ok (.iload_n 3, 1) := by decide +kernel
theorem dX14_hangs_22 : decode cX14_hangs 22 = .ok (.iload_n 3, 1) := by decide +kernel
theorem dX14_hangs_23 : decode cX14_hangs 23 = .ok (.aload_n 0, 1) := by decide +kernel
theorem dX14_hangs_24 : decode cX14_hangs 24 = .ok (.getfield 83, 3) := by decide +kernel
theorem dX14_hangs_27 : decode cX14_hangs 27 = .ok (.if_icmp .ge 16, 3) := by decide +kernel
theorem dX14_hangs_43 : decode cX14_hangs 43 = .ok (.iconst 0, 1) := by decide +kernel
theorem dX14_hangs_44 : decode cX14_hangs 44 = .ok (.bastore, 1) := by decide +kernel
theorem dX14_hangs_45 : decode cX14_hangs 45 = .ok (.iinc 3 1, 3) := by decide +kernel
theorem dX14_hangs_48 : decode cX14_hangs 48 = .ok (.goto (-37), 3) := by decide +kernel
theorem dX14_hangs_51 : decode cX14_hangs 51 = .ok (.iconst 1, 1) := by decide +kernel
theorem dX14_hangs_52 : decode cX14_hangs 52 = .ok (.istore_n 3, 1) := by decide +kernel
theorem dX14_hangs_53 : decode cX14_hangs 53 = .ok (.iload_n 3, 1) := by decide +kernel
theorem dX14_hangs_54 : decode cX14_hangs 54 = .ok (.ifCond .eq 240, 3) := by decide +kernel
theorem dX14_hangs_57 : decode cX14_hangs 57 = .ok (.iconst 0, 1) := by decide +kernel
theorem dX14_hangs_58 : decode cX14_hangs 58 = .ok (.istore_n 3, 1) := by decide +kernel
theorem dX14_hangs_59 : decode cX14_hangs 59 = .ok (.iconst 0, 1) := by decide +kernel
theorem dX14_hangs_60 : decode cX14_hangs 60 = .ok (.istore 4, 2) := by decide +kernel
theorem dX14_hangs_62 : decode cX14_hangs 62 = .ok (.iload 4, 2) := by decide +kernel
theorem dX14_hangs_64 : decode cX14_hangs 64 = .ok (.aload_n 0, 1) := by decide +kernel
theorem dX14_hangs_65 : decode cX14_hangs 65 = .ok (.getfield 10, 3) := by decide +kernel
theorem dX14_hangs_68 : decode cX14_hangs 68 = .ok (.invokevirtual 90, 3) := by decide +kernel
theorem dX14_hangs_71 : decode cX14_hangs 71 = .ok (.if_icmp .ge 220, 3) := by decide +kernel
theorem dX14_hangs_291 : decode cX14_hangs 291 = .ok (.goto (-238), 3) := by decide +kernel
theorem dX14_hangs_294 : decode cX14_hangs 294 = .ok (.aload_n 0, 1) := by decide +kernel
theorem dX14_hangs_295 : decode cX14_hangs 295 = .ok (.iconst 0, 1) := by decide +kernel
theorem dX14_hangs_296 : decode cX14_hangs 296 = .ok (.putfield 128, 3) := by decide +kernel
theorem dX14_hangs_299 : decode cX14_hangs 299 = .ok (.iconst 0, 1) := by decide +kernel
theorem dX14_hangs_300 : decode cX14_hangs 300 = .ok (.istore 4, 2) := by decide +kernel
theorem dX14_hangs_302 : decode cX14_hangs 302 = .ok (.iload 4, 2) := by decide +kernel
theorem dX14_hangs_304 : decode cX14_hangs 304 = .ok (.bipush 9, 2) := by decide +kernel
theorem dX14_hangs_306 : decode cX14_hangs 306 = .ok (.if_icmp .ge 85, 3) := by decide +kernel
theorem dX14_hangs_309 : decode cX14_hangs 309 = .ok (.aload_n 0, 1) := by decide +kernel
theorem dX14_hangs_310 : decode cX14_hangs 310 = .ok (.getfield 44, 3) := by decide +kernel
theorem dX14_hangs_313 : decode cX14_hangs 313 = .ok (.iload 4, 2) := by decide +kernel
theorem dX14_hangs_315 : decode cX14_hangs 315 = .ok (.iload 4, 2) := by decide +kernel
theorem dX14_hangs_317 : decode cX14_hangs 317 = .ok (.aload_n 0, 1) := by decide +kernel
theorem dX14_hangs_318 : decode cX14_hangs 318 = .ok (.getfield 83, 3) := by decide +kernel
theorem dX14_hangs_321 : decode cX14_hangs 321 = .ok (.if_icmp .ge 37, 3) := by decide +kernel
theorem dX14_hangs_358 : decode cX14_hangs 358 = .ok (.iconst (-1), 1) := by decide +kernel
theorem dX14_hangs_359 : decode cX14_hangs 359 = .ok (.iastore, 1) := by decide +kernel
theorem dX14_hangs_360 : decode cX14_hangs 360 = .ok (.aload_n 0, 1) := by decide +kernel
theorem dX14_hangs_361 : decode cX14_hangs 361 = .ok (.dup, 1) := by decide +kernel
theorem dX14_hangs_362 : decode cX14_hangs 362 = .ok (.getfield 128, 3) := by decide +kernel
theorem dX14_hangs_365 : decode cX14_hangs 365 = .ok (.aload_n 0, 1) := by decide +kernel
theorem dX14_hangs_366 : decode cX14_hangs 366 = .ok (.getfield 44, 3) := by decide +kernel
theorem dX14_hangs_369 : decode cX14_hangs 369 = .ok (.iload 4, 2) := by decide +kernel
theorem dX14_hangs_371 : decode cX14_hangs 371 = .ok (.iaload, 1) := by decide +kernel
theorem dX14_hangs_372 : decode cX14_hangs 372 = .ok (.iconst (-1), 1) := by decide +kernel
theorem dX14_hangs_373 : decode cX14_hangs 373 = .ok (.if_icmp .ne 7, 3) := by decide +kernel
theorem dX14_hangs_376 : decode cX14_hangs 376 = .ok (.iconst 0, 1) := by decide +kernel
theorem dX14_hangs_377 : decode cX14_hangs 377 = .ok (.goto 4, 3) := by decide +kernel
theorem dX14_hangs_381 : decode cX14_hangs 381 = .ok (.iadd, 1) := by decide +kernel
theorem dX14_hangs_382 : decode cX14_hangs 382 = .ok (.putfield 128, 3) := by decide +kernel
theorem dX14_hangs_385 : decode cX14_hangs 385 = .ok (.iinc 4 1, 3) := by decide +kernel
theorem dX14_hangs_388 : decode cX14_hangs 388 = .ok (.goto (-86), 3) := by decide +kernel
theorem dX14_hangs_391 : decode cX14_hangs 391 = .ok (.return_, 1) := by decide +kernel
theorem dX14_hasPlan_0 : decode cX14_hasPlan 0 = .ok (.aload_n 0, 1) := by decide +kernel
theorem dX14_hasPlan_1 : decode cX14_hasPlan 1 = .ok (.aload_n 0, 1) := by decide +kernel
theorem dX14_hasPlan_2 : decode cX14_hasPlan 2 = .ok (.iload_n 1, 1) := by decide +kernel
theorem dX14_hasPlan_3 : decode cX14_hasPlan 3 = .ok (.invokevirtual 318, 3) := by decide +kernel
theorem dX14_hasPlan_6 : decode cX14_hasPlan 6 = .ok (.ifCond .ne 7, 3) := by decide +kernel
theorem dX14_hasPlan_9 : decode cX14_hasPlan 9 = .ok (.iconst 1, 1) := by decide +kernel
theorem dX14_hasPlan_10 : decode cX14_hasPlan 10 = .ok (.goto 27, 3) := by decide +kernel
theorem dX14_hasPlan_37 : decode cX14_hasPlan 37 = .ok (.putfield 79, 3) := by decide +kernel
theorem dX14_hasPlan_40 : decode cX14_hasPlan 40 = .ok (.aload_n 0, 1) := by decide +kernel
theorem dX14_hasPlan_41 : decode cX14_hasPlan 41 = .ok (.getfield 79, 3) := by decide +kernel
theorem dX14_hasPlan_44 : decode cX14_hasPlan 44 = .ok (.ifCond .ne 7, 3) := by decide +kernel
theorem dX14_hasPlan_51 : decode cX14_hasPlan 51 = .ok (.iconst 0, 1) := by decide +kernel
theorem dX14_hasPlan_52 : decode cX14_hasPlan 52 = .ok (.ireturn, 1) := by decide +kernel
theorem dX14_in_0 : decode cX14_in 0 = .ok (.lload_n 0, 1) := by decide +kernel
theorem dX14_in_1 : decode cX14_in 1 = .ok (.lload_n 2, 1) := by decide +kernel
theorem dX14_in_2 : decode cX14_in 2 = .ok (.lcmp, 1) := by decide +kernel
theorem dX14_in_3 : decode cX14_in 3 = .ok (.ifCond .lt 14, 3) := by decide +kernel
theorem dX14_in_6 : decode cX14_in 6 = .ok (.lload_n 0, 1) := by decide +kernel
theorem dX14_in_7 : decode cX14_in 7 = .ok (.lload 4, 2) := by decide +kernel
theorem dX14_in_9 : decode cX14_in 9 = .ok (.lcmp, 1) := by decide +kernel
theorem dX14_in_10 : decode cX14_in 10 = .ok (.ifCond .gt 7, 3) := by decide +kernel
theorem dX14_in_13 : decode cX14_in 13 = .ok (.iconst 1, 1) := by decide +kernel
theorem dX14_in_14 : decode cX14_in 14 = .ok (.goto 4, 3) := by decide +kernel
theorem dX14_in_17 : decode cX14_in 17 = .ok (.iconst 0, 1) := by decide +kernel
theorem dX14_in_18 : decode cX14_in 18 = .ok (.ireturn, 1) := by decide +kernel
theorem dX14_init_0 : decode cX14_init 0 = .ok (.aload_n 0, 1) := by decide +kernel
theorem dX14_init_1 : decode cX14_init 1 = .ok (.invokespecial 1, 3) := by decide +kernel
theorem dX14_init_4 : decode cX14_init 4 = .ok (.aload_n 0, 1) := by decide +kernel
theorem dX14_init_5 : decode cX14_init 5 = .ok (.new 7, 3) := by decide +kernel
theorem dX14_init_8 : decode cX14_init 8 = .ok (.dup, 1) := by decide +kernel
theorem dX14_init_9 : decode cX14_init 9 = .ok (.invokespecial 9, 3) := by decide +kernel
theorem dX14_init_12 : decode cX14_init 12 = .ok (.putfield 10, 3) := by decide +kernel
theorem dX14_init_15 : decode cX14_init 15 = .ok (.aload_n 0, 1) := by decide +kernel
theorem dX14_init_16 : decode cX14_init 16 = .ok (.new 7, 3) := by decide +kernel
theorem dX14_init_19 : decode cX14_init 19 = .ok (.dup, 1) := by decide +kernel
theorem dX14_init_20 : decode cX14_init 20 = .ok (.invokespecial 9, 3) := by decide +kernel
theorem dX14_init_23 : decode cX14_init 23 = .ok (.putfield 16, 3) := by decide +kernel
theorem dX14_init_26 : decode cX14_init 26 = .ok (.aload_n 0, 1) := by decide +kernel
theorem dX14_init_27 : decode cX14_init 27 = .ok (.new 7, 3) := by decide +kernel
theorem dX14_init_30 : decode cX14_init 30 = .ok (.dup, 1) := by decide +kernel
theorem dX14_init_31 : decode cX14_init 31 = .ok (.invokespecial 9, 3) := by decide +kernel
theorem dX14_init_34 : decode cX14_init 34 = .ok (.putfield 19, 3) := by decide +kernel
theorem dX14_init_37 : decode cX14_init 37 = .ok (.aload_n 0, 1) := by decide +kernel
theorem dX14_init_38 : decode cX14_init 38 = .ok (.bipush 9, 2) := by decide +kernel
theorem dX14_init_40 : decode cX14_init 40 = .ok (.newarray .int, 2) := by decide +kernel
theorem dX14_init_42 : decode cX14_init 42 = .ok (.putfield 22, 3) := by decide +kernel
theorem dX14_init_45 : decode cX14_init 45 = .ok (.aload_n 0, 1) := by decide +kernel
theorem dX14_init_46 : decode cX14_init 46 = .ok (.bipush 8, 2) := by decide +kernel
theorem dX14_init_48 : decode cX14_init 48 = .ok (.newarray .int, 2) := by decide +kernel
theorem dX14_init_50 : decode cX14_init 50 = .ok (.putfield 26, 3) := by decide +kernel
theorem dX14_init_53 : decode cX14_init 53 = .ok (.aload_n 0, 1) := by decide +kernel
theorem dX14_init_54 : decode cX14_init 54 = .ok (.bipush 8, 2) := by decide +kernel
theorem dX14_init_56 : decode cX14_init 56 = .ok (.newarray .int, 2) := by decide +kernel
theorem dX14_init_58 : decode cX14_init 58 = .ok (.putfield 29, 3) := by decide +kernel
theorem dX14_init_61 : decode cX14_init 61 = .ok (.aload_n 0, 1) := by decide +kernel
theorem dX14_init_62 : decode cX14_init 62 = .ok (.bipush 8, 2) := by decide +kernel
theorem dX14_init_64 : decode cX14_init 64 = .ok (.newarray .int, 2) := by decide +kernel
theorem dX14_init_66 : decode cX14_init 66 = .ok (.putfield 32, 3) := by decide +kernel
theorem dX14_init_69 : decode cX14_init 69 = .ok (.aload_n 0, 1) := by decide +kernel
theorem dX14_init_70 : decode cX14_init 70 = .ok (.sipush 200, 3) := by decide +kernel
theorem dX14_init_73 : decode cX14_init 73 = .ok (.newarray .int, 2) := by decide +kernel
theorem dX14_init_75 : decode cX14_init 75 = .ok (.putfield 35, 3) := by decide +kernel
theorem dX14_init_78 : decode cX14_init 78 = .ok (.aload_n 0, 1) := by decide +kernel
theorem dX14_init_79 : decode cX14_init 79 = .ok (.sipush 401, 3) := by decide +kernel
theorem dX14_init_82 : decode cX14_init 82 = .ok (.newarray .int, 2) := by decide +kernel
theorem dX14_init_84 : decode cX14_init 84 = .ok (.putfield 38, 3) := by decide +kernel
theorem dX14_init_87 : decode cX14_init 87 = .ok (.aload_n 0, 1) := by decide +kernel
theorem dX14_init_88 : decode cX14_init 88 = .ok (.bipush 9, 2) := by decide +kernel
theorem dX14_init_90 : decode cX14_init 90 = .ok (.newarray .int, 2) := by decide +kernel
theorem dX14_init_92 : decode cX14_init 92 = .ok (.putfield 41, 3) := by decide +kernel
theorem dX14_init_95 : decode cX14_init 95 = .ok (.aload_n 0, 1) := by decide +kernel
theorem dX14_init_96 : decode cX14_init 96 = .ok (.bipush 9, 2) := by decide +kernel
theorem dX14_init_98 : decode cX14_init 98 = .ok (.newarray .int, 2) := by decide +kernel
theorem dX14_init_100 : decode cX14_init 100 = .ok (.putfield 44, 3) := by decide +kernel
theorem dX14_init_103 : decode cX14_init 103 = .ok (.aload_n 0, 1) := by decide +kernel
theorem dX14_init_104 : decode cX14_init 104 = .ok (.bipush 9, 2) := by decide +kernel
theorem dX14_init_106 : decode cX14_init 106 = .ok (.newarray .int, 2) := by decide +kernel
theorem dX14_init_108 : decode cX14_init 108 = .ok (.putfield 47, 3) := by decide +kernel
theorem dX14_init_111 : decode cX14_init 111 = .ok (.aload_n 0, 1) := by decide +kernel
theorem dX14_init_112 : decode cX14_init 112 = .ok (.bipush 9, 2) := by decide +kernel
theorem dX14_init_114 : decode cX14_init 114 = .ok (.newarray .boolean, 2) := by decide +kernel
theorem dX14_init_116 : decode cX14_init 116 = .ok (.putfield 50, 3) := by decide +kernel
theorem dX14_init_119 : decode cX14_init 119 = .ok (.aload_n 0, 1) := by decide +kernel
theorem dX14_init_120 : decode cX14_init 120 = .ok (.bipush 24, 2) := by decide +kernel
theorem dX14_init_122 : decode cX14_init 122 = .ok (.newarray .boolean, 2) := by decide +kernel
theorem dX14_init_124 : decode cX14_init 124 = .ok (.putfield 54, 3) := by decide +kernel
theorem dX14_init_127 : decode cX14_init 127 = .ok (.aload_n 0, 1) := by decide +kernel
theorem dX14_init_128 : decode cX14_init 128 = .ok (.sipush 256, 3) := by decide +kernel
theorem dX14_init_131 : decode cX14_init 131 = .ok (.newarray .long, 2) := by decide +kernel
theorem dX14_init_133 : decode cX14_init 133 = .ok (.putfield 57, 3) := by decide +kernel
theorem dX14_init_136 : decode cX14_init 136 = .ok (.aload_n 0, 1) := by decide +kernel
theorem dX14_init_137 : decode cX14_init 137 = .ok (.bipush 27, 2) := by decide +kernel
theorem dX14_init_139 : decode cX14_init 139 = .ok (.newarray .long, 2) := by decide +kernel
theorem dX14_init_141 : decode cX14_init 141 = .ok (.putfield 61, 3) := by decide +kernel
theorem dX14_init_144 : decode cX14_init 144 = .ok (.aload_n 0, 1) := by decide +kernel
theorem dX14_init_145 : decode cX14_init 145 = .ok (.bipush 64, 2) := by decide +kernel
theorem dX14_init_147 : decode cX14_init 147 = .ok (.newarray .long, 2) := by decide +kernel
theorem dX14_init_149 : decode cX14_init 149 = .ok (.putfield 64, 3) := by decide +kernel
theorem dX14_init_152 : decode cX14_init 152 = .ok (.aload_n 0, 1) := by decide +kernel
theorem dX14_init_153 : decode cX14_init 153 = .ok (.bipush 24, 2) := by decide +kernel
theorem dX14_init_155 : decode cX14_init 155 = .ok (.newarray .long, 2) := by decide +kernel
theorem dX14_init_157 : decode cX14_init 157 = .ok (.putfield 67, 3) := by decide +kernel
theorem dX14_init_160 : decode cX14_init 160 = .ok (.aload_n 0, 1) := by decide +kernel
theorem dX14_init_161 : decode cX14_init 161 = .ok (.sipush 7200, 3) := by decide +kernel
theorem dX14_init_164 : decode cX14_init 164 = .ok (.newarray .int, 2) := by decide +kernel
theorem dX14_init_166 : decode cX14_init 166 = .ok (.putfield 70, 3) := by decide +kernel
theorem dX14_init_169 : decode cX14_init 169 = .ok (.aload_n 0, 1) := by decide +kernel
theorem dX14_init_170 : decode cX14_init 170 = .ok (.sipush 7200, 3) := by decide +kernel
theorem dX14_init_173 : decode cX14_init 173 = .ok (.newarray .int, 2) := by decide +kernel
theorem dX14_init_175 : decode cX14_init 175 = .ok (.putfield 73, 3) := by decide +kernel
theorem dX14_init_178 : decode cX14_init 178 = .ok (.aload_n 0, 1) := by decide +kernel
theorem dX14_init_179 : decode cX14_init 179 = .ok (.sipush 459, 3) := by decide +kernel
theorem dX14_init_182 : decode cX14_init 182 = .ok (.newarray .boolean, 2) := by decide +kernel
theorem dX14_init_184 : decode cX14_init 184 = .ok (.putfield 76, 3) := by decide +kernel
theorem dX14_init_187 : decode cX14_init 187 = .ok (.return_, 1) := by decide +kernel
theorem dX14_isDay_0 : decode cX14_isDay 0 = .ok (.iload_n 0, 1) := by decide +kernel
theorem dX14_isDay_1 : decode cX14_isDay 1 = .ok (.i2l, 1) := by decide +kernel
theorem dX14_isDay_2 : decode cX14_isDay 2 = .ok (.lconst 0, 1) := by decide +kernel
theorem dX14_isDay_3 : decode cX14_isDay 3 = .ok (.ldc2_w 94, 3) := by decide +kernel
theorem dX14_isDay_6 : decode cX14_isDay 6 = .ok (.invokestatic 86, 3) := by decide +kernel
theorem dX14_isDay_9 : decode cX14_isDay 9 = .ok (.ireturn, 1) := by decide +kernel
theorem dX14_isParty_0 : decode cX14_isParty 0 = .ok (.iload_n 1, 1) := by decide +kernel
theorem dX14_isParty_1 : decode cX14_isParty 1 = .ok (.i2l, 1) := by decide +kernel
theorem dX14_isParty_2 : decode cX14_isParty 2 = .ok (.lconst 0, 1) := by decide +kernel
theorem dX14_isParty_3 : decode cX14_isParty 3 = .ok (.aload_n 0, 1) := by decide +kernel
theorem dX14_isParty_4 : decode cX14_isParty 4 = .ok (.getfield 19, 3) := by decide +kernel
theorem dX14_isParty_7 : decode cX14_isParty 7 = .ok (.invokevirtual 90, 3) := by decide +kernel
theorem dX14_isParty_10 : decode cX14_isParty 10 = .ok (.iconst 1, 1) := by decide +kernel
theorem dX14_isParty_11 : decode cX14_isParty 11 = .ok (.isub, 1) := by decide +kernel
theorem dX14_isParty_12 : decode cX14_isParty 12 = .ok (.i2l, 1) := by decide +kernel
theorem dX14_isParty_13 : decode cX14_isParty 13 = .ok (.invokestatic 86, 3) := by decide +kernel
theorem dX14_isParty_16 : decode cX14_isParty 16 = .ok (.ireturn, 1) := by decide +kernel
theorem dX14_isPlace_0 : decode cX14_isPlace 0 = .ok (.aload_n 0, 1) := by decide +kernel
theorem dX14_isPlace_1 : decode cX14_isPlace 1 = .ok (.aload_n 0, 1) := by decide +kernel
theorem dX14_isPlace_2 : decode cX14_isPlace 2 = .ok (.iload_n 1, 1) := by decide +kernel
theorem dX14_isPlace_3 : decode cX14_isPlace 3 = .ok (.invokevirtual 208, 3) := by decide +kernel
theorem dX14_isPlace_6 : decode cX14_isPlace 6 = .ok (.ifCond .eq 15, 3) := by decide +kernel
theorem dX14_isPlace_21 : decode cX14_isPlace 21 = .ok (.iconst 1, 1) := by decide +kernel
theorem dX14_isPlace_22 : decode cX14_isPlace 22 = .ok (.goto 15, 3) := by decide +kernel
theorem dX14_isPlace_37 : decode cX14_isPlace 37 = .ok (.putfield 79, 3) := by decide +kernel
theorem dX14_isPlace_40 : decode cX14_isPlace 40 = .ok (.aload_n 0, 1) := by decide +kernel
theorem dX14_isPlace_41 : decode cX14_isPlace 41 = .ok (.getfield 79, 3) := by decide +kernel
theorem dX14_isPlace_44 : decode cX14_isPlace 44 = .ok (.ifCond .le 5, 3) := by decide +kernel
theorem dX14_isPlace_47 : decode cX14_isPlace 47 = .ok (.iconst 0, 1) := by decide +kernel
theorem dX14_isPlace_48 : decode cX14_isPlace 48 = .ok (.ireturn, 1) := by decide +kernel
theorem dX14_isShot_0 : decode cX14_isShot 0 = .ok (.iload_n 1, 1) := by decide +kernel
theorem dX14_isShot_1 : decode cX14_isShot 1 = .ok (.i2l, 1) := by decide +kernel
theorem dX14_isShot_2 : decode cX14_isShot 2 = .ok (.lconst 0, 1) := by decide +kernel
theorem dX14_isShot_3 : decode cX14_isShot 3 = .ok (.aload_n 0, 1) := by decide +kernel
theorem dX14_isShot_4 : decode cX14_isShot 4 = .ok (.getfield 10, 3) := by decide +kernel
theorem dX14_isShot_7 : decode cX14_isShot 7 = .ok (.invokevirtual 90, 3) := by decide +kernel
theorem dX14_isShot_10 : decode cX14_isShot 10 = .ok (.iconst 1, 1) := by decide +kernel
theorem dX14_isShot_11 : decode cX14_isShot 11 = .ok (.isub, 1) := by decide +kernel
theorem dX14_isShot_12 : decode cX14_isShot 12 = .ok (.i2l, 1) := by decide +kernel
theorem dX14_isShot_13 : decode cX14_isShot 13 = .ok (.invokestatic 86, 3) := by decide +kernel
theorem dX14_isShot_16 : decode cX14_isShot 16 = .ok (.ireturn, 1) := by decide +kernel
theorem dX14_isStation_0 : decode cX14_isStation 0 = .ok (.iload_n 1, 1) := by decide +kernel
theorem dX14_isStation_1 : decode cX14_isStation 1 = .ok (.i2l, 1) := by decide +kernel
theorem dX14_isStation_2 : decode cX14_isStation 2 = .ok (.lconst 0, 1) := by decide +kernel
theorem dX14_isStation_3 : decode cX14_isStation 3 = .ok (.aload_n 0, 1) := by decide +kernel
theorem dX14_isStation_4 : decode cX14_isStation 4 = .ok (.getfield 83, 3) := by decide +kernel
theorem dX14_isStation_7 : decode cX14_isStation 7 = .ok (.iconst 1, 1) := by decide +kernel
theorem dX14_isStation_8 : decode cX14_isStation 8 = .ok (.isub, 1) := by decide +kernel
theorem dX14_isStation_9 : decode cX14_isStation 9 = .ok (.i2l, 1) := by decide +kernel
theorem dX14_isStation_10 : decode cX14_isStation 10 = .ok (.invokestatic 86, 3) := by decide +kernel
theorem dX14_isStation_13 : decode cX14_isStation 13 = .ok (.ireturn, 1) := by decide +kernel
theorem dX14_laysOut_0 : decode cX14_laysOut 0 = .ok (.iconst 0, 1) := by decide +kernel
theorem dX14_laysOut_1 : decode cX14_laysOut 1 = .ok (.istore_n 1, 1) := by decide +kernel
theorem dX14_laysOut_2 : decode cX14_laysOut 2 = .ok (.iload_n 1, 1) := by decide +kernel
theorem dX14_laysOut_3 : decode cX14_laysOut 3 = .ok (.bipush 64, 2) := by decide +kernel
theorem dX14_laysOut_5 : decode cX14_laysOut 5 = .ok (.if_icmp .ge 16, 3) := by decide +kernel
theorem dX14_laysOut_8 : decode cX14_laysOut 8 = .ok (.aload_n 0, 1) := by decide +kernel
theorem dX14_laysOut_9 : decode cX14_laysOut 9 = .ok (.getfield 64, 3) := by decide +kernel
theorem dX14_laysOut_12 : decode cX14_laysOut 12 = .ok (.iload_n 1, 1) := by decide +kernel
theorem dX14_laysOut_13 : decode cX14_laysOut 13 = .ok (.lconst 0, 1) := by decide +kernel
theorem dX14_laysOut_14 : decode cX14_laysOut 14 = .ok (.lastore, 1) := by decide +kernel
theorem dX14_laysOut_15 : decode cX14_laysOut 15 = .ok (.iinc 1 1, 3) := by decide +kernel
theorem dX14_laysOut_18 : decode cX14_laysOut 18 = .ok (.goto (-16), 3) := by decide +kernel
theorem dX14_laysOut_21 : decode cX14_laysOut 21 = .ok (.iconst 0, 1) := by decide +kernel
theorem dX14_laysOut_22 : decode cX14_laysOut 22 = .ok (.istore_n 1, 1) := by decide +kernel
theorem dX14_laysOut_23 : decode cX14_laysOut 23 = .ok (.iload_n 1, 1) := by decide +kernel
theorem dX14_laysOut_24 : decode cX14_laysOut 24 = .ok (.bipush 24, 2) := by decide +kernel
theorem dX14_laysOut_26 : decode cX14_laysOut 26 = .ok (.if_icmp .ge 16, 3) := by decide +kernel
theorem dX14_laysOut_29 : decode cX14_laysOut 29 = .ok (.aload_n 0, 1) := by decide +kernel
theorem dX14_laysOut_30 : decode cX14_laysOut 30 = .ok (.getfield 67, 3) := by decide +kernel
theorem dX14_laysOut_33 : decode cX14_laysOut 33 = .ok (.iload_n 1, 1) := by decide +kernel
theorem dX14_laysOut_34 : decode cX14_laysOut 34 = .ok (.lconst 0, 1) := by decide +kernel
theorem dX14_laysOut_35 : decode cX14_laysOut 35 = .ok (.lastore, 1) := by decide +kernel
theorem dX14_laysOut_36 : decode cX14_laysOut 36 = .ok (.iinc 1 1, 3) := by decide +kernel
theorem dX14_laysOut_39 : decode cX14_laysOut 39 = .ok (.goto (-16), 3) := by decide +kernel
theorem dX14_laysOut_42 : decode cX14_laysOut 42 = .ok (.iconst 0, 1) := by decide +kernel
theorem dX14_laysOut_43 : decode cX14_laysOut 43 = .ok (.istore_n 1, 1) := by decide +kernel
theorem dX14_laysOut_44 : decode cX14_laysOut 44 = .ok (.iload_n 1, 1) := by decide +kernel
theorem dX14_laysOut_45 : decode cX14_laysOut 45 = .ok (.aload_n 0, 1) := by decide +kernel
theorem dX14_laysOut_46 : decode cX14_laysOut 46 = .ok (.getfield 10, 3) := by decide +kernel
theorem dX14_laysOut_49 : decode cX14_laysOut 49 = .ok (.invokevirtual 90, 3) := by decide +kernel
theorem dX14_laysOut_52 : decode cX14_laysOut 52 = .ok (.if_icmp .ge 101, 3) := by decide +kernel
theorem dX14_laysOut_153 : decode cX14_laysOut 153 = .ok (.return_, 1) := by decide +kernel
theorem dX14_places_0 : decode cX14_places 0 = .ok (.aload_n 0, 1) := by decide +kernel
theorem dX14_places_1 : decode cX14_places 1 = .ok (.iload_n 1, 1) := by decide +kernel
theorem dX14_places_2 : decode cX14_places 2 = .ok (.iload_n 2, 1) := by decide +kernel
theorem dX14_places_3 : decode cX14_places 3 = .ok (.invokevirtual 147, 3) := by decide +kernel
theorem dX14_places_6 : decode cX14_places 6 = .ok (.aload_n 0, 1) := by decide +kernel
theorem dX14_places_7 : decode cX14_places 7 = .ok (.invokevirtual 151, 3) := by decide +kernel
theorem dX14_places_10 : decode cX14_places 10 = .ok (.aload_n 0, 1) := by decide +kernel
theorem dX14_places_11 : decode cX14_places 11 = .ok (.aload_n 0, 1) := by decide +kernel
theorem dX14_places_12 : decode cX14_places 12 = .ok (.iconst 0, 1) := by decide +kernel
theorem dX14_places_13 : decode cX14_places 13 = .ok (.iconst (-1), 1) := by decide +kernel
theorem dX14_places_14 : decode cX14_places 14 = .ok (.invokevirtual 154, 3) := by decide +kernel
theorem dX14_places_17 : decode cX14_places 17 = .ok (.putfield 158, 3) := by decide +kernel
theorem dX14_places_20 : decode cX14_places 20 = .ok (.iconst 0, 1) := by decide +kernel
theorem dX14_places_21 : decode cX14_places 21 = .ok (.istore_n 3, 1) := by decide +kernel
theorem dX14_places_22 : decode cX14_places 22 = .ok (.iload_n 3, 1) := by decide +kernel
theorem dX14_places_23 : decode cX14_places 23 = .ok (.iconst 3, 1) := by decide +kernel
theorem dX14_places_24 : decode cX14_places 24 = .ok (.if_icmp .ge 46, 3) := by decide +kernel
theorem dX14_places_27 : decode cX14_places 27 = .ok (.iconst 0, 1) := by decide +kernel
theorem dX14_places_28 : decode cX14_places 28 = .ok (.istore 4, 2) := by decide +kernel
theorem dX14_places_30 : decode cX14_places 30 = .ok (.iload 4, 2) := by decide +kernel
theorem dX14_places_32 : decode cX14_places 32 = .ok (.aload_n 0, 1) := by decide +kernel
theorem dX14_places_33 : decode cX14_places 33 = .ok (.getfield 128, 3) := by decide +kernel
theorem dX14_places_36 : decode cX14_places 36 = .ok (.if_icmp .ge 28, 3) := by decide +kernel
theorem dX14_places_64 : decode cX14_places 64 = .ok (.iinc 3 1, 3) := by decide +kernel
theorem dX14_places_67 : decode cX14_places 67 = .ok (.goto (-45), 3) := by decide +kernel
theorem dX14_places_70 : decode cX14_places 70 = .ok (.return_, 1) := by decide +kernel
theorem dX14_refuses_0 : decode cX14_refuses 0 = .ok (.aload_n 0, 1) := by decide +kernel
theorem dX14_refuses_1 : decode cX14_refuses 1 = .ok (.iload_n 1, 1) := by decide +kernel
theorem dX14_refuses_2 : decode cX14_refuses 2 = .ok (.putfield 79, 3) := by decide +kernel
theorem dX14_refuses_5 : decode cX14_refuses 5 = .ok (.iconst 0, 1) := by decide +kernel
theorem dX14_refuses_6 : decode cX14_refuses 6 = .ok (.ireturn, 1) := by decide +kernel
theorem dX14_tellLong_0 : decode cX14_tellLong 0 = .ok (.aload_n 0, 1) := by decide +kernel
theorem dX14_tellLong_1 : decode cX14_tellLong 1 = .ok (.iconst 0, 1) := by decide +kernel
theorem dX14_tellLong_2 : decode cX14_tellLong 2 = .ok (.putfield 79, 3) := by decide +kernel
theorem dX14_tellLong_5 : decode cX14_tellLong 5 = .ok (.lload_n 1, 1) := by decide +kernel
theorem dX14_tellLong_6 : decode cX14_tellLong 6 = .ok (.lreturn, 1) := by decide +kernel
theorem dX14_tells_0 : decode cX14_tells 0 = .ok (.aload_n 0, 1) := by decide +kernel
theorem dX14_tells_1 : decode cX14_tells 1 = .ok (.iconst 0, 1) := by decide +kernel
theorem dX14_tells_2 : decode cX14_tells 2 = .ok (.putfield 79, 3) := by decide +kernel
theorem dX14_tells_5 : decode cX14_tells 5 = .ok (.iload_n 1, 1) := by decide +kernel
theorem dX14_tells_6 : decode cX14_tells 6 = .ok (.ireturn, 1) := by decide +kernel
theorem dX14_thousandths_0 : decode cX14_thousandths 0 = .ok (.aload_n 1, 1) := by decide +kernel
theorem dX14_thousandths_1 : decode cX14_thousandths 1 = .ok (.new 162, 3) := by decide +kernel
theorem dX14_thousandths_4 : decode cX14_thousandths 4 = .ok (.dup, 1) := by decide +kernel
theorem dX14_thousandths_5 : decode cX14_thousandths 5 = .ok (.ldc2_w 186, 3) := by decide +kernel
theorem dX14_thousandths_8 : decode cX14_thousandths 8 = .ok (.invokespecial 164, 3) := by decide +kernel
theorem dX14_thousandths_11 : decode cX14_thousandths 11 = .ok (.invokevirtual 174, 3) := by decide +kernel
theorem dX14_thousandths_14 : decode cX14_thousandths 14 = .ok (.astore_n 2, 1) := by decide +kernel
theorem dX14_thousandths_15 : decode cX14_thousandths 15 = .ok (.aload_n 0, 1) := by decide +kernel
theorem dX14_thousandths_16 : decode cX14_thousandths 16 = .ok (.invokevirtual 188, 3) := by decide +kernel
theorem dX14_thousandths_19 : decode cX14_thousandths 19 = .ok (.astore_n 3, 1) := by decide +kernel
theorem dX14_thousandths_20 : decode cX14_thousandths 20 = .ok (.lconst 1, 1) := by decide +kernel
theorem dX14_thousandths_21 : decode cX14_thousandths 21 = .ok (.lstore 4, 2) := by decide +kernel
theorem dX14_thousandths_23 : decode cX14_thousandths 23 = .ok (.new 162, 3) := by decide +kernel
theorem dX14_thousandths_26 : decode cX14_thousandths 26 = .ok (.dup, 1) := by decide +kernel
theorem dX14_thousandths_27 : decode cX14_thousandths 27 = .ok (.lload 4, 2) := by decide +kernel
theorem dX14_thousandths_29 : decode cX14_thousandths 29 = .ok (.invokespecial 164, 3) := by decide +kernel
theorem dX14_thousandths_32 : decode cX14_thousandths 32 = .ok (.aload_n 3, 1) := by decide +kernel
theorem dX14_thousandths_33 : decode cX14_thousandths 33 = .ok (.invokevirtual 174, 3) := by decide +kernel
theorem dX14_thousandths_36 : decode cX14_thousandths 36 = .ok (.aload_n 2, 1) := by decide +kernel
theorem dX14_thousandths_37 : decode cX14_thousandths 37 = .ok (.invokevirtual 192, 3) := by decide +kernel
theorem dX14_thousandths_40 : decode cX14_thousandths 40 = .ok (.ifCond .gt 14, 3) := by decide +kernel
theorem dX14_thousandths_54 : decode cX14_thousandths 54 = .ok (.lload 4, 2) := by decide +kernel
theorem dX14_thousandths_56 : decode cX14_thousandths 56 = .ok (.ldc2_w 196, 3) := by decide +kernel
theorem dX14_thousandths_59 : decode cX14_thousandths 59 = .ok (.ldiv, 1) := by decide +kernel
theorem dX14_thousandths_60 : decode cX14_thousandths 60 = .ok (.lstore 6, 2) := by decide +kernel
theorem dX14_thousandths_62 : decode cX14_thousandths 62 = .ok (.lload 4, 2) := by decide +kernel
theorem dX14_thousandths_64 : decode cX14_thousandths 64 = .ok (.lload 6, 2) := by decide +kernel
theorem dX14_thousandths_66 : decode cX14_thousandths 66 = .ok (.lsub, 1) := by decide +kernel
theorem dX14_thousandths_67 : decode cX14_thousandths 67 = .ok (.lconst 1, 1) := by decide +kernel
theorem dX14_thousandths_68 : decode cX14_thousandths 68 = .ok (.lcmp, 1) := by decide +kernel
theorem dX14_thousandths_69 : decode cX14_thousandths 69 = .ok (.ifCond .le 51, 3) := by decide +kernel
theorem dX14_thousandths_120 : decode cX14_thousandths 120 = .ok (.new 162, 3) := by decide +kernel
theorem dX14_thousandths_123 : decode cX14_thousandths 123 = .ok (.dup, 1) := by decide +kernel
theorem dX14_thousandths_124 : decode cX14_thousandths 124 = .ok (.lload 6, 2) := by decide +kernel
theorem dX14_thousandths_126 : decode cX14_thousandths 126 = .ok (.invokespecial 164, 3) := by decide +kernel
theorem dX14_thousandths_129 : decode cX14_thousandths 129 = .ok (.aload_n 3, 1) := by decide +kernel
theorem dX14_thousandths_130 : decode cX14_thousandths 130 = .ok (.invokevirtual 174, 3) := by decide +kernel
theorem dX14_thousandths_133 : decode cX14_thousandths 133 = .ok (.aload_n 2, 1) := by decide +kernel
theorem dX14_thousandths_134 : decode cX14_thousandths 134 = .ok (.invokevirtual 192, 3) := by decide +kernel
theorem dX14_thousandths_137 : decode cX14_thousandths 137 = .ok (.ifCond .gt 8, 3) := by decide +kernel
theorem dX14_thousandths_140 : decode cX14_thousandths 140 = .ok (.lload 6, 2) := by decide +kernel
theorem dX14_thousandths_142 : decode cX14_thousandths 142 = .ok (.goto 4, 3) := by decide +kernel
theorem dX14_thousandths_146 : decode cX14_thousandths 146 = .ok (.lreturn, 1) := by decide +kernel
theorem dX14_thrown_0 : decode cX14_thrown 0 = .ok (.aload_n 0, 1) := by decide +kernel
theorem dX14_thrown_1 : decode cX14_thrown 1 = .ok (.getfield 79, 3) := by decide +kernel
theorem dX14_thrown_4 : decode cX14_thrown 4 = .ok (.ireturn, 1) := by decide +kernel
theorem dX14_used_0 : decode cX14_used 0 = .ok (.iconst 0, 1) := by decide +kernel
theorem dX14_used_1 : decode cX14_used 1 = .ok (.istore_n 1, 1) := by decide +kernel
theorem dX14_used_2 : decode cX14_used 2 = .ok (.iconst 0, 1) := by decide +kernel
theorem dX14_used_3 : decode cX14_used 3 = .ok (.istore_n 2, 1) := by decide +kernel
theorem dX14_used_4 : decode cX14_used 4 = .ok (.iload_n 2, 1) := by decide +kernel
theorem dX14_used_5 : decode cX14_used 5 = .ok (.aload_n 0, 1) := by decide +kernel
theorem dX14_used_6 : decode cX14_used 6 = .ok (.getfield 10, 3) := by decide +kernel
theorem dX14_used_9 : decode cX14_used 9 = .ok (.invokevirtual 90, 3) := by decide +kernel
theorem dX14_used_12 : decode cX14_used 12 = .ok (.if_icmp .ge 26, 3) := by decide +kernel
theorem dX14_used_38 : decode cX14_used 38 = .ok (.iload_n 1, 1) := by decide +kernel
theorem dX14_used_39 : decode cX14_used 39 = .ok (.ireturn, 1) := by decide +kernel
theorem dX14_waterIn_0 : decode cX14_waterIn 0 = .ok (.iconst 0, 1) := by decide +kernel
theorem dX14_waterIn_1 : decode cX14_waterIn 1 = .ok (.istore_n 2, 1) := by decide +kernel
theorem dX14_waterIn_2 : decode cX14_waterIn 2 = .ok (.iload_n 2, 1) := by decide +kernel
theorem dX14_waterIn_3 : decode cX14_waterIn 3 = .ok (.sipush 400, 3) := by decide +kernel
theorem dX14_waterIn_6 : decode cX14_waterIn 6 = .ok (.if_icmp .gt 60, 3) := by decide +kernel
theorem dX14_waterIn_9 : decode cX14_waterIn 9 = .ok (.aload_n 0, 1) := by decide +kernel
theorem dX14_waterIn_10 : decode cX14_waterIn 10 = .ok (.getfield 294, 3) := by decide +kernel
theorem dX14_waterIn_13 : decode cX14_waterIn 13 = .ok (.ifCond .ne 53, 3) := by decide +kernel
theorem dX14_waterIn_16 : decode cX14_waterIn 16 = .ok (.aload_n 0, 1) := by decide +kernel
theorem dX14_waterIn_17 : decode cX14_waterIn 17 = .ok (.getfield 38, 3) := by decide +kernel
theorem dX14_waterIn_20 : decode cX14_waterIn 20 = .ok (.iload_n 2, 1) := by decide +kernel
theorem dX14_waterIn_21 : decode cX14_waterIn 21 = .ok (.iload_n 2, 1) := by decide +kernel
theorem dX14_waterIn_22 : decode cX14_waterIn 22 = .ok (.ifCond .ne 7, 3) := by decide +kernel
theorem dX14_waterIn_25 : decode cX14_waterIn 25 = .ok (.iconst 0, 1) := by decide +kernel
theorem dX14_waterIn_26 : decode cX14_waterIn 26 = .ok (.goto 15, 3) := by decide +kernel
theorem dX14_waterIn_29 : decode cX14_waterIn 29 = .ok (.iconst 3, 1) := by decide +kernel
theorem dX14_waterIn_30 : decode cX14_waterIn 30 = .ok (.aload_n 0, 1) := by decide +kernel
theorem dX14_waterIn_31 : decode cX14_waterIn 31 = .ok (.getfield 38, 3) := by decide +kernel
theorem dX14_waterIn_34 : decode cX14_waterIn 34 = .ok (.iload_n 2, 1) := by decide +kernel
theorem dX14_waterIn_35 : decode cX14_waterIn 35 = .ok (.iconst 1, 1) := by decide +kernel
theorem dX14_waterIn_36 : decode cX14_waterIn 36 = .ok (.isub, 1) := by decide +kernel
theorem dX14_waterIn_37 : decode cX14_waterIn 37 = .ok (.iaload, 1) := by decide +kernel
theorem dX14_waterIn_38 : decode cX14_waterIn 38 = .ok (.imul, 1) := by decide +kernel
theorem dX14_waterIn_39 : decode cX14_waterIn 39 = .ok (.iconst 4, 1) := by decide +kernel
theorem dX14_waterIn_40 : decode cX14_waterIn 40 = .ok (.idiv, 1) := by decide +kernel
theorem dX14_waterIn_41 : decode cX14_waterIn 41 = .ok (.iload_n 2, 1) := by decide +kernel
theorem dX14_waterIn_42 : decode cX14_waterIn 42 = .ok (.sipush 199, 3) := by decide +kernel
theorem dX14_waterIn_45 : decode cX14_waterIn 45 = .ok (.if_icmp .gt 12, 3) := by decide +kernel
theorem dX14_waterIn_48 : decode cX14_waterIn 48 = .ok (.aload_n 0, 1) := by decide +kernel
theorem dX14_waterIn_49 : decode cX14_waterIn 49 = .ok (.getfield 35, 3) := by decide +kernel
theorem dX14_waterIn_52 : decode cX14_waterIn 52 = .ok (.iload_n 2, 1) := by decide +kernel
theorem dX14_waterIn_53 : decode cX14_waterIn 53 = .ok (.iaload, 1) := by decide +kernel
theorem dX14_waterIn_54 : decode cX14_waterIn 54 = .ok (.goto 4, 3) := by decide +kernel
theorem dX14_waterIn_57 : decode cX14_waterIn 57 = .ok (.iconst 0, 1) := by decide +kernel
theorem dX14_waterIn_58 : decode cX14_waterIn 58 = .ok (.iadd, 1) := by decide +kernel
theorem dX14_waterIn_59 : decode cX14_waterIn 59 = .ok (.iastore, 1) := by decide +kernel
theorem dX14_waterIn_60 : decode cX14_waterIn 60 = .ok (.iinc 2 1, 3) := by decide +kernel
theorem dX14_waterIn_63 : decode cX14_waterIn 63 = .ok (.goto (-61), 3) := by decide +kernel
theorem dX14_waterIn_66 : decode cX14_waterIn 66 = .ok (.aload_n 0, 1) := by decide +kernel
theorem dX14_waterIn_67 : decode cX14_waterIn 67 = .ok (.iconst 1, 1) := by decide +kernel
theorem dX14_waterIn_68 : decode cX14_waterIn 68 = .ok (.putfield 294, 3) := by decide +kernel
theorem dX14_waterIn_71 : decode cX14_waterIn 71 = .ok (.aload_n 0, 1) := by decide +kernel
theorem dX14_waterIn_72 : decode cX14_waterIn 72 = .ok (.getfield 38, 3) := by decide +kernel
theorem dX14_waterIn_75 : decode cX14_waterIn 75 = .ok (.iload_n 1, 1) := by decide +kernel
theorem dX14_waterIn_76 : decode cX14_waterIn 76 = .ok (.iaload, 1) := by decide +kernel
theorem dX14_waterIn_77 : decode cX14_waterIn 77 = .ok (.ireturn, 1) := by decide +kernel

/-! ===== the reference: plain rows ===== -/
theorem z_wlt {a b : Int32} : a.toInt64 < b.toInt64 ↔ a < b := by
  rw [Int64.lt_iff_toInt_lt, Int32.lt_iff_toInt_lt, Int32.toInt_toInt64, Int32.toInt_toInt64]
theorem z_none (v : Int64) : v < 0 ∨ (-1) < v := by
  by_cases h : v < 0
  · exact Or.inl h
  · right
    rw [Int64.lt_iff_toInt_lt] at h ⊢
    have e0 : (0 : Int64).toInt = 0 := by decide +kernel
    have e1 : (-1 : Int64).toInt = -1 := by decide +kernel
    rw [e0] at h
    rw [e1]
    omega
theorem z_w0 {x : Int32} (h : ¬ x < 0) : ¬ x.toInt64 < 0 := fun c => h (z_wlt.mp (show x.toInt64 < (0 : Int32).toInt64 from c))
theorem z_w0' {x : Int32} (h : x < 0) : x.toInt64 < 0 := show x.toInt64 < (0 : Int32).toInt64 from z_wlt.mpr h
theorem z_wM {x b : Int32} {M : Int64} (e : b.toInt64 = M) (h : x ≤ b) : ¬ M < x.toInt64 := by
  rw [← e]
  exact fun c => Int32.not_lt.mpr h (z_wlt.mp c)
theorem z_wM' {x b : Int32} {M : Int64} (e : b.toInt64 = M) (h : ¬ x ≤ b) : M < x.toInt64 := by
  rw [← e]
  exact z_wlt.mpr (Int32.not_le.mp h)
theorem z_wR {x b : Int32} {M : Int64} (e : b.toInt64 = M) (h : x < 0 ∨ ¬ x ≤ b) : x.toInt64 < 0 ∨ M < x.toInt64 := h.imp z_w0' (z_wM' e)
def zE (x : Int32) : Nat → Int32 := fun k => if k = 0 then x else 0
def zT (x : Int32) (n : Nat) : Nat → Int32 := fun j => if n = 0 then 0 else zE x j
def zM (x : Int32) (n : Nat) : Int64 := if n = 0 then x.toInt64 else 0
def zm (x : Int32) (n : Nat) : Int32 := if n = 0 then x else 0
theorem z_tm {a b x : Int32} (h : a.toInt64 * b.toInt64 = x.toInt64) (i k : Nat) : (zE a i).toInt64 * (zE b k).toInt64 = zM x (i + k) := by
  have z0 : (0 : Int32).toInt64 = 0 := by decide +kernel
  unfold zE zM
  by_cases hi : i = 0
  · by_cases hk : k = 0
    · rw [if_pos hi, if_pos hk, if_pos (by omega)]; exact h
    · rw [if_pos hi, if_neg hk, if_neg (by omega), z0, Int64.mul_zero]
  · have e9 : ¬ i + k = 0 := by omega
    rw [if_neg hi, if_neg e9, z0, Int64.zero_mul]
theorem z_0l (y : Int64) : 0 + y = y := Int64.zero_add y
theorem z_l0 (y : Int64) : y + 0 = y := Int64.add_zero y
theorem z_ta {x : Int32} (h : x.toInt64 &&& 32767 = x.toInt64) (n : Nat) : zM x n &&& 32767 = zM x n := by
  unfold zM
  by_cases hn : n = 0
  · rw [if_pos hn]; exact h
  · rw [if_neg hn]; decide +kernel
theorem z_tb {x : Int32} (h : x.toInt64.toInt32 = x) (n : Nat) : (zM x n).toInt32 = zm x n := by
  unfold zM zm
  by_cases hn : n = 0
  · rw [if_pos hn, if_pos hn]; exact h
  · rw [if_neg hn, if_neg hn]; decide +kernel
theorem z_ts {x : Int32} (h : x.toInt64 >>> ((15 : Int32).toInt64 &&& 63) = 0) (n : Nat) : zM x n >>> ((15 : Int32).toInt64 &&& 63) = 0 := by
  unfold zM
  by_cases hn : n = 0
  · rw [if_pos hn]; exact h
  · rw [if_neg hn]; decide +kernel
theorem z_tt {x : Int32} {a b : Nat} (ha : 0 < a) (hb : 0 < b) : ∀ j, j < 24 → zT x a j = zT x b j := by
  intro j _
  unfold zT
  rw [if_neg (by omega), if_neg (by omega)]
theorem z_t0 (x : Int32) : ∀ j, j < 24 → zE 0 j = zT x 0 j := by
  intro j _
  unfold zT zE
  rw [if_pos rfl]
  by_cases h : j = 0
  · rw [if_pos h]
  · rw [if_neg h]
theorem z_t9 (x : Int32) {n : Nat} (hn : 0 < n) : ∀ j, j < 24 → zT x n j = zE x j := by
  intro j _
  unfold zT
  rw [if_neg (by omega)]
theorem z_tv (x : Int32) {n q : Nat} (hq : q = n) : zT x n q = 0 := by
  subst hq
  unfold zT zE
  by_cases h : q = 0
  · rw [if_pos h]
  · rw [if_neg h, if_neg h]
theorem z_tu (x : Int32) {n : Nat} (hn : n < 24) : ∀ j, j < 24 → upd (zT x n) (nI n).toNatClampNeg (zm x n) j = zT x (n + 1) j := by
  intro j _
  rw [nI_clamp (by omega)]
  have e1 : zT x (n + 1) j = zE x j := by unfold zT; rw [if_neg (by omega)]
  rw [e1]
  by_cases e : j = n
  · subst e
    rw [pk_us]
    rfl
  · rw [pk_un e]
    unfold zT
    by_cases h : n = 0
    · rw [if_pos h]
      unfold zE
      rw [if_neg (by omega)]
    · rw [if_neg h]
theorem z_ge2 {i k : Nat} (hk : k ≤ 24 - i) (hi : i < 24) (c : (24 : Int32) ≤ nI (k + i)) : k = 24 - i := by
  have := (nI_leI (a := 24) (b := k + i) (by omega) (by omega)).mp c
  omega
theorem z_lt2 {i k : Nat} (hk : k ≤ 24 - i) (hi : i < 24) (c : ¬ (24 : Int32) ≤ nI (k + i)) : k < 24 - i := by
  rcases Nat.lt_or_ge k (24 - i) with h | h
  · exact h
  · exact absurd ((nI_leI (a := 24) (b := k + i) (by omega) (by omega)).mpr (by omega)) c
theorem z_lgF {v w : Int64} (h : ¬ v < w) : ¬ lg_cmp v w < 0 := mt (lg_cmp_lt v w).mp h
theorem z_lgG {v w : Int64} (h : ¬ w < v) : ¬ 0 < lg_cmp v w := mt (lg_cmp_gt v w).mp h
theorem z_hp {i : Nat} (c : ¬ nI i = 0) : 0 < i := by
  rcases Nat.eq_zero_or_pos i with h | h
  · subst h; exact absurd (by decide) c
  · exact h
set_option maxHeartbeats 4000000 in
set_option maxRecDepth 100000 in
/-- AbstractCollection() -/
theorem k_AC_init (l : Launch) (D : va_G) (cy : Nat → ClassId) (h0 : Nat) (sz : Nat)  : Met l yJxa1e45_init_da8c8 (wz yJxa1e45_init_da8c8 cJxa1e45_init_da8c8 1 none) ({ frames := 1, cells := 0, slots := 0, locals := 12 } : Room) (va_Pc [.ref h0] (zPre vwCl D cy [(h0, .inr (2, [.int 0, .null, .int 0]))] sz)) (va_Qv (fun _ : Unit => True) (fun (u : Unit) t => zPost vwCl D (va_A [(h0, .inr (2, [.int 0, .null, .int 0]))] sz) [(h0, .inr (2, [.int 0, .null, .int 0]))] t) (va_A [(h0, .inr (2, [.int 0, .null, .int 0]))] sz)) 0 0 (va_A [(h0, .inr (2, [.int 0, .null, .int 0]))] sz) := by
  refine Met.ofW (cc := cJxa1e45_init_da8c8) (maxL := 1) (ret := none) (by decide) rfl ?_
  intro p e s m args below meth c s₁ B hml hv
  obtain ⟨rfl, hsz, hP, hK, hD0, hX, hY⟩ := hv
  have hx := B.exec
  have hb := B.bytes
  have hr := B.returns
  have hts0 := atoms_spec (ws := wz yJxa1e45_init_da8c8 cJxa1e45_init_da8c8 1 none) B.pre
  have hts : ∀ w ∈ wAll, w.before _ s = true := fun w h => hts0 w (List.mem_cons_of_mem _ h)
  have hown : s.vm.findClass RJxa1e45 = some m.cls := findClass_of_methodNamed B.named
  have hlocks := B.notSynchronized
  have hin : meth.name = "<init>" := (name_of_methodNamed B.named B.method).1
  subst hsz
  have hD := hD0.self (sz := s.heap.size)
  generalize hAe : va_A [(h0, .inr (2, [.int 0, .null, .int 0]))] s.heap.size = A at hD hY ⊢
  have hA : ∀ q : Nat, s.heap.size ≤ q → A q := fun q h => by rw [← hAe]; exact Or.inr h
  have hS : va_S A s.heap s.heap [] := va_S.rf
  have hP : va_P D vwCl [(h0, .inr (2, [.int 0, .null, .int 0]))] s.heap := hP
  have hl := lv_entry ([.ref h0]) (n := 1) (Nat.le_of_ble_eq_true rfl)
  rw [lg_entry_eq]
  generalize (lg_sl ([.ref h0]) ++ List.replicate (1 - (lg_sl ([.ref h0])).length) Slot.unset).toArray = ls at hl ⊢
  have hl : lv_has ls 1 [(0, .ref h0)] := hl
  refine z_anyQ (fun Q hQe => ?_)
  refine lv_aload_n hx hb dJxa1e45_init_da8c8_0 rfl (lv_at hl 0 rfl) ?_
  refine W.objInit hx hb hown (hts _ q239) (hts _ q1) (hts _ q2) rfl (by rw [hml]; exact hl.1) rfl dJxa1e45_init_da8c8_1 (Nat.le_of_ble_eq_true rfl) (Nat.le_of_ble_eq_true rfl) ?_
  refine W.eq (g2 := F0 m 4 ls []) rfl ?_
  have hP9 := hP.sub (ws' := [(h0, .inr (2, [.int 0, .null, .int 0]))]) [0] rfl
  have hD9 := hD.sub (ws' := [(h0, .inr (2, [.int 0, .null, .int 0]))]) [0] (by decide) rfl
  refine W.widen (k := 0) (n := 0) (Nat.le_of_ble_eq_true rfl) (Nat.le_of_ble_eq_true rfl) ?_
  rw [hQe]
  exact W.vret hx hb hr (fun t ht hW => ⟨⟨(), rfl, trivial, ⟨by rw [ht]; exact hP9, hD9⟩⟩, hS.F ht⟩) hS.2.2 dJxa1e45_init_da8c8_4
set_option maxHeartbeats 4000000 in
set_option maxRecDepth 100000 in
/-- AbstractList() -/
theorem k_AB_init (l : Launch) (D : va_G) (cy : Nat → ClassId) (h0 : Nat) (sz : Nat)  : Met l yJxc12de_init_da8c8 (wz yJxc12de_init_da8c8 cJxc12de_init_da8c8 1 none) ({ frames := 2, cells := 0, slots := 0, locals := 32 } : Room) (va_Pc [.ref h0] (zPre vwCl D cy [(h0, .inr (2, [.int 0, .null, .int 0]))] sz)) (va_Qv (fun _ : Unit => True) (fun (u : Unit) t => zPost vwCl D (va_A [(h0, .inr (2, [.int 0, .null, .int 0]))] sz) [(h0, .inr (2, [.int 0, .null, .int 0]))] t) (va_A [(h0, .inr (2, [.int 0, .null, .int 0]))] sz)) 0 0 (va_A [(h0, .inr (2, [.int 0, .null, .int 0]))] sz) := by
  refine Met.ofW (cc := cJxc12de_init_da8c8) (maxL := 1) (ret := none) (by decide) rfl ?_
  intro p e s m args below meth c s₁ B hml hv
  obtain ⟨rfl, hsz, hP, hK, hD0, hX, hY⟩ := hv
  have hx := B.exec
  have hb := B.bytes
  have hr := B.returns
  have hts0 := atoms_spec (ws := wz yJxc12de_init_da8c8 cJxc12de_init_da8c8 1 none) B.pre
  have hts : ∀ w ∈ wAll, w.before _ s = true := fun w h => hts0 w (List.mem_cons_of_mem _ h)
  have hown : s.vm.findClass RJxc12de = some m.cls := findClass_of_methodNamed B.named
  have hlocks := B.notSynchronized
  have hin : meth.name = "<init>" := (name_of_methodNamed B.named B.method).1
  subst hsz
  have hD := hD0.self (sz := s.heap.size)
  generalize hAe : va_A [(h0, .inr (2, [.int 0, .null, .int 0]))] s.heap.size = A at hD hY ⊢
  have hA : ∀ q : Nat, s.heap.size ≤ q → A q := fun q h => by rw [← hAe]; exact Or.inr h
  have hS : va_S A s.heap s.heap [] := va_S.rf
  have hP : va_P D vwCl [(h0, .inr (2, [.int 0, .null, .int 0]))] s.heap := hP
  have hl := lv_entry ([.ref h0]) (n := 1) (Nat.le_of_ble_eq_true rfl)
  rw [lg_entry_eq]
  generalize (lg_sl ([.ref h0]) ++ List.replicate (1 - (lg_sl ([.ref h0])).length) Slot.unset).toArray = ls at hl ⊢
  have hl : lv_has ls 1 [(0, .ref h0)] := hl
  refine z_anyQ (fun Q hQe => ?_)
  refine lv_aload_n hx hb dJxc12de_init_da8c8_0 rfl (lv_at hl 0 rfl) ?_
  refine zq_v (wc := [(h0, .inr (2, [.int 0, .null, .int 0]))]) (wr := []) (va_runI (As := []) (rest := []) ⟨hx, hb, hml, hown, hts⟩ (k_AC_init l D cy h0 s.heap.size ) (cwI 0 hts (gz q241) rfl rfl rfl (hts _ q242) (hts _ q240) (hts _ q243) rfl vJxa1e45_init_da8c8.2 ⟨Nat.le_of_ble_eq_true rfl, Nat.le_of_ble_eq_true rfl⟩) (zpS hK hX hY hP hD hS hA [0] (by decide) rfl) rfl rfl hl.1 rfl (lv_room (Nat.le_of_ble_eq_true rfl)) dJxc12de_init_da8c8_1 ⟨Nat.le_of_ble_eq_true rfl, Nat.le_of_ble_eq_true rfl⟩) hP hD hS hA [0] [] rfl rfl (by decide) (by decide) (fun u1 H locs hw hP hD hS => ?_)
  have hP : va_P D vwCl [(h0, .inr (2, [.int 0, .null, .int 0]))] H := hP
  have hD : va_D A [(h0, .inr (2, [.int 0, .null, .int 0]))] := hD
  refine lv_aload_n hx hb dJxc12de_init_da8c8_4 rfl (lv_at hl 0 rfl) ?_
  refine lv_iconst (v := 0) hx hb dJxc12de_init_da8c8_5 (by decide) ?_
  refine va_put (D := D) (ci := 2) (v := .int 0) (ty := .int) (C := RJx4a65c) (T := TJx4a65c) (N := 3) hx hb hts iRJx4a65c tyJx4a65c tyJx4a65c_ok nmJx4a65c hown hK hP hD hS 0 rfl rfl 0 (by decide) (hts _ q244) (fun _ h9 => h9) rfl (tyJx4a65c_ok 0 (by decide)) rfl rfl (Nat.le_of_ble_eq_true rfl) dJxc12de_init_da8c8_6 (fun H locs hP hD hS => ?_)
  have hP : va_P D vwCl [(h0, .inr (2, [.int 0, .null, .int 0]))] H := hP
  have hD : va_D A [(h0, .inr (2, [.int 0, .null, .int 0]))] := hD
  have hP9 := hP.sub (ws' := [(h0, .inr (2, [.int 0, .null, .int 0]))]) [0] rfl
  have hD9 := hD.sub (ws' := [(h0, .inr (2, [.int 0, .null, .int 0]))]) [0] (by decide) rfl
  refine W.widen (k := 0) (n := 0) (Nat.le_of_ble_eq_true rfl) (Nat.le_of_ble_eq_true rfl) ?_
  rw [hQe]
  exact W.vret hx hb hr (fun t ht hW => ⟨⟨(), rfl, trivial, ⟨by rw [ht]; exact hP9, hD9⟩⟩, hS.F ht⟩) hS.2.2 dJxc12de_init_da8c8_9
set_option maxHeartbeats 4000000 in
set_option maxRecDepth 100000 in
/-- ArrayList() -/
theorem k_AL_init (l : Launch) (D : va_G) (cy : Nat → ClassId) (h0 : Nat) (sz : Nat)  : Met l yJx4a65c_init_da8c8 (wz yJx4a65c_init_da8c8 cJx4a65c_init_da8c8 1 none) ({ frames := 3, cells := 0, slots := 0, locals := 52 } : Room) (va_Pc [.ref h0] (zPre vwCl D cy [(h0, .inr (2, [.int 0, .null, .int 0]))] sz)) (va_Qv (fun _ : Nat => True) (fun (u : Nat) t => zPost vwCl D (va_A [(h0, .inr (2, [.int 0, .null, .int 0]))] sz) [(h0, .inr (2, [.int 0, .ref u, .int 0]))] t) (va_A [(h0, .inr (2, [.int 0, .null, .int 0]))] sz)) 0 0 (va_A [(h0, .inr (2, [.int 0, .null, .int 0]))] sz) := by
  refine Met.ofW (cc := cJx4a65c_init_da8c8) (maxL := 1) (ret := none) (by decide) rfl ?_
  intro p e s m args below meth c s₁ B hml hv
  obtain ⟨rfl, hsz, hP, hK, hD0, hX, hY⟩ := hv
  have hx := B.exec
  have hb := B.bytes
  have hr := B.returns
  have hts0 := atoms_spec (ws := wz yJx4a65c_init_da8c8 cJx4a65c_init_da8c8 1 none) B.pre
  have hts : ∀ w ∈ wAll, w.before _ s = true := fun w h => hts0 w (List.mem_cons_of_mem _ h)
  have hown : s.vm.findClass RJx4a65c = some m.cls := findClass_of_methodNamed B.named
  have hlocks := B.notSynchronized
  have hin : meth.name = "<init>" := (name_of_methodNamed B.named B.method).1
  subst hsz
  have hD := hD0.self (sz := s.heap.size)
  generalize hAe : va_A [(h0, .inr (2, [.int 0, .null, .int 0]))] s.heap.size = A at hD hY ⊢
  have hA : ∀ q : Nat, s.heap.size ≤ q → A q := fun q h => by rw [← hAe]; exact Or.inr h
  have hS : va_S A s.heap s.heap [] := va_S.rf
  have hP : va_P D vwCl [(h0, .inr (2, [.int 0, .null, .int 0]))] s.heap := hP
  have hl := lv_entry ([.ref h0]) (n := 1) (Nat.le_of_ble_eq_true rfl)
  rw [lg_entry_eq]
  generalize (lg_sl ([.ref h0]) ++ List.replicate (1 - (lg_sl ([.ref h0])).length) Slot.unset).toArray = ls at hl ⊢
  have hl : lv_has ls 1 [(0, .ref h0)] := hl
  refine z_anyQ (fun Q hQe => ?_)
  refine lv_aload_n hx hb dJx4a65c_init_da8c8_0 rfl (lv_at hl 0 rfl) ?_
  refine zq_v (wc := [(h0, .inr (2, [.int 0, .null, .int 0]))]) (wr := []) (va_runI (As := []) (rest := []) ⟨hx, hb, hml, hown, hts⟩ (k_AB_init l D cy h0 s.heap.size ) (cwI 0 hts (gz q246) rfl rfl rfl (hts _ q247) (hts _ q245) (hts _ q248) rfl vJxc12de_init_da8c8.2 ⟨Nat.le_of_ble_eq_true rfl, Nat.le_of_ble_eq_true rfl⟩) (zpS hK hX hY hP hD hS hA [0] (by decide) rfl) rfl rfl hl.1 rfl (lv_room (Nat.le_of_ble_eq_true rfl)) dJx4a65c_init_da8c8_1 ⟨Nat.le_of_ble_eq_true rfl, Nat.le_of_ble_eq_true rfl⟩) hP hD hS hA [0] [] rfl rfl (by decide) (by decide) (fun u1 H locs hw hP hD hS => ?_)
  have hP : va_P D vwCl [(h0, .inr (2, [.int 0, .null, .int 0]))] H := hP
  have hD : va_D A [(h0, .inr (2, [.int 0, .null, .int 0]))] := hD
  refine lv_aload_n hx hb dJx4a65c_init_da8c8_4 rfl (lv_at hl 0 rfl) ?_
  obtain ⟨tDE, hDE⟩ := hY.2.2
  refine va_gets hx hb hDE hS hown (hts _ q249) (fun _ h9 => h9) dJx4a65c_init_da8c8_5 ?_
  refine va_put (D := D) (ci := 2) (v := .ref tDE) (ty := (tyJx4a65c 1)) (C := RJx4a65c) (T := TJx4a65c) (N := 3) hx hb hts iRJx4a65c tyJx4a65c tyJx4a65c_ok nmJx4a65c hown hK hP hD hS 0 rfl rfl 1 (by decide) (hts _ q250) (fun _ h9 => h9) rfl (tyJx4a65c_ok 1 (by decide)) rfl rfl (Nat.le_of_ble_eq_true rfl) dJx4a65c_init_da8c8_8 (fun H locs hP hD hS => ?_)
  have hP : va_P D vwCl [(h0, .inr (2, [.int 0, .ref tDE, .int 0]))] H := hP
  have hD : va_D A [(h0, .inr (2, [.int 0, .ref tDE, .int 0]))] := hD
  have hP9 := hP.sub (ws' := [(h0, .inr (2, [.int 0, .ref tDE, .int 0]))]) [0] rfl
  have hD9 := hD.sub (ws' := [(h0, .inr (2, [.int 0, .ref tDE, .int 0]))]) [0] (by decide) rfl
  refine W.widen (k := 0) (n := 0) (Nat.le_of_ble_eq_true rfl) (Nat.le_of_ble_eq_true rfl) ?_
  rw [hQe]
  exact W.vret hx hb hr (fun t ht hW => ⟨⟨tDE, rfl, trivial, ⟨by rw [ht]; exact hP9, hD9⟩⟩, hS.F ht⟩) hS.2.2 dJx4a65c_init_da8c8_11
set_option maxHeartbeats 4000000 in
set_option maxRecDepth 100000 in
/-- an empty list -/
theorem k_AL_size (l : Launch) (D : va_G) (cy : Nat → ClassId) (h0 : Nat) (e0 : Nat) (sz : Nat)  : Met l yJx4a65c_size_8abf5 (wz yJx4a65c_size_8abf5 cJx4a65c_size_8abf5 1 (some .int)) ({ frames := 0, cells := 0, slots := 0, locals := 0 } : Room) (va_Pc [.ref h0] (zPre vwCl D cy [(h0, .inr (2, [.int 0, .ref e0, .int 0]))] sz)) (va_Qi (fun (r : Int32) (_ : Unit) => r = 0) (fun (u : Unit) t => zPost vwCl D (va_A [(h0, .inr (2, [.int 0, .ref e0, .int 0]))] sz) [(h0, .inr (2, [.int 0, .ref e0, .int 0]))] t) (va_A [(h0, .inr (2, [.int 0, .ref e0, .int 0]))] sz)) 0 0 (va_A [(h0, .inr (2, [.int 0, .ref e0, .int 0]))] sz) := by
  refine Met.ofW (cc := cJx4a65c_size_8abf5) (maxL := 1) (ret := (some .int)) (by decide) rfl ?_
  intro p e s m args below meth c s₁ B hml hv
  obtain ⟨rfl, hsz, hP, hK, hD0, hX, hY⟩ := hv
  have hx := B.exec
  have hb := B.bytes
  have hr := B.returns
  have hts0 := atoms_spec (ws := wz yJx4a65c_size_8abf5 cJx4a65c_size_8abf5 1 (some .int)) B.pre
  have hts : ∀ w ∈ wAll, w.before _ s = true := fun w h => hts0 w (List.mem_cons_of_mem _ h)
  have hown : s.vm.findClass RJx4a65c = some m.cls := findClass_of_methodNamed B.named
  have hlocks := B.notSynchronized
  subst hsz
  have hD := hD0.self (sz := s.heap.size)
  generalize hAe : va_A [(h0, .inr (2, [.int 0, .ref e0, .int 0]))] s.heap.size = A at hD hY ⊢
  have hA : ∀ q : Nat, s.heap.size ≤ q → A q := fun q h => by rw [← hAe]; exact Or.inr h
  have hS : va_S A s.heap s.heap [] := va_S.rf
  have hP : va_P D vwCl [(h0, .inr (2, [.int 0, .ref e0, .int 0]))] s.heap := hP
  have hl := lv_entry ([.ref h0]) (n := 1) (Nat.le_of_ble_eq_true rfl)
  rw [lg_entry_eq]
  generalize (lg_sl ([.ref h0]) ++ List.replicate (1 - (lg_sl ([.ref h0])).length) Slot.unset).toArray = ls at hl ⊢
  have hl : lv_has ls 1 [(0, .ref h0)] := hl
  refine z_anyQ (fun Q hQe => ?_)
  refine lv_aload_n hx hb dJx4a65c_size_8abf5_0 rfl (lv_at hl 0 rfl) ?_
  refine va_get (D := D) (ci := 2) (v := .int 0) (C := RJx4a65c) (T := TJx4a65c) (N := 3) hx hb hts iRJx4a65c hown hK hP 0 rfl rfl 2 (by decide) (hts _ q251) (fun _ h9 => h9) rfl dJx4a65c_size_8abf5_1 ?_
  have hP9 := hP.sub (ws' := [(h0, .inr (2, [.int 0, .ref e0, .int 0]))]) [0] rfl
  have hD9 := hD.sub (ws' := [(h0, .inr (2, [.int 0, .ref e0, .int 0]))]) [0] (by decide) rfl
  refine W.widen (k := 0) (n := 0) (Nat.le_of_ble_eq_true rfl) (Nat.le_of_ble_eq_true rfl) ?_
  rw [hQe]
  exact W.iret (v := 0) hx hb hr (fun t ht hW => ⟨⟨0, (), rfl, rfl, ⟨by rw [ht]; exact hP9, hD9⟩⟩, hS.F ht⟩) hS.2.2 dJx4a65c_size_8abf5_4
set_option maxHeartbeats 4000000 in
set_option maxRecDepth 100000 in
/-- CavernbookModel(): the reference, fresh -/
theorem k_M_init (l : Launch) (D : va_G) (cy : Nat → ClassId) (h0 : Nat) (sz : Nat)  : Met l yX14_init (wz yX14_init cX14_init 1 none) ({ frames := 4, cells := 21, slots := 15933, locals := 72 } : Room) (va_Pc [.ref h0] (zPre vwCl D cy [(h0, .inr (17, [.null, .null, .null, .null, .null, .null, .null, .null, .null, .null, .null, .null, .null, .null, .null, .null, .null, .null, .null, .null, .null, .int 0, .int 0, .int 0, .int 0, .long 0, .int 0]))] sz)) (va_Qv (fun _ : Nat → Nat => True) (fun (u : Nat → Nat) t => zPost vwCl D (va_A [(h0, .inr (17, [.null, .null, .null, .null, .null, .null, .null, .null, .null, .null, .null, .null, .null, .null, .null, .null, .null, .null, .null, .null, .null, .int 0, .int 0, .int 0, .int 0, .long 0, .int 0]))] sz) [(h0, .inr (17, [.ref (u 0), .ref (u 1), .ref (u 2), .ref (u 3), .ref (u 4), .ref (u 5), .ref (u 6), .ref (u 7), .ref (u 8), .ref (u 9), .ref (u 10), .ref (u 11), .ref (u 12), .ref (u 13), .ref (u 14), .ref (u 15), .ref (u 16), .ref (u 17), .ref (u 18), .ref (u 19), .ref (u 20), .int 0, .int 0, .int 0, .int 0, .long 0, .int 0])), ((u 0), .inr (2, [.int 0, .ref (u 21), .int 0])), ((u 2), .inr (2, [.int 0, .ref (u 22), .int 0])), ((u 7), .inl (cy 0, 200, .inl (fun _ => 0))), ((u 8), .inl (cy 0, 401, .inl (fun _ => 0))), ((u 9), .inl (cy 0, 9, .inl (fun _ => 0))), ((u 10), .inl (cy 0, 9, .inl (fun _ => 0))), ((u 12), .inl (cy 2, 9, .inl (fun _ => 0))), ((u 14), .inl (cy 1, 256, .inr (.inl (fun _ => 0)))), ((u 16), .inl (cy 1, 64, .inr (.inl (fun _ => 0)))), ((u 17), .inl (cy 1, 24, .inr (.inl (fun _ => 0))))] t) (va_A [(h0, .inr (17, [.null, .null, .null, .null, .null, .null, .null, .null, .null, .null, .null, .null, .null, .null, .null, .null, .null, .null, .null, .null, .null, .int 0, .int 0, .int 0, .int 0, .long 0, .int 0]))] sz)) 21 15933 (va_A [(h0, .inr (17, [.null, .null, .null, .null, .null, .null, .null, .null, .null, .null, .null, .null, .null, .null, .null, .null, .null, .null, .null, .null, .null, .int 0, .int 0, .int 0, .int 0, .long 0, .int 0]))] sz) := by
  refine Met.ofW (cc := cX14_init) (maxL := 1) (ret := none) (by decide) rfl ?_
  intro p e s m args below meth c s₁ B hml hv
  obtain ⟨rfl, hsz, hP, hK, hD0, hX, hY⟩ := hv
  have hx := B.exec
  have hb := B.bytes
  have hr := B.returns
  have hts0 := atoms_spec (ws := wz yX14_init cX14_init 1 none) B.pre
  have hts : ∀ w ∈ wAll, w.before _ s = true := fun w h => hts0 w (List.mem_cons_of_mem _ h)
  have hown : s.vm.findClass RX14 = some m.cls := findClass_of_methodNamed B.named
  have hlocks := B.notSynchronized
  have hin : meth.name = "<init>" := (name_of_methodNamed B.named B.method).1
  subst hsz
  have hD := hD0.self (sz := s.heap.size)
  generalize hAe : va_A [(h0, .inr (17, [.null, .null, .null, .null, .null, .null, .null, .null, .null, .null, .null, .null, .null, .null, .null, .null, .null, .null, .null, .null, .null, .int 0, .int 0, .int 0, .int 0, .long 0, .int 0]))] s.heap.size = A at hD hY ⊢
  have hA : ∀ q : Nat, s.heap.size ≤ q → A q := fun q h => by rw [← hAe]; exact Or.inr h
  have hS : va_S A s.heap s.heap [] := va_S.rf
  have hP : va_P D vwCl [(h0, .inr (17, [.null, .null, .null, .null, .null, .null, .null, .null, .null, .null, .null, .null, .null, .null, .null, .null, .null, .null, .null, .null, .null, .int 0, .int 0, .int 0, .int 0, .long 0, .int 0]))] s.heap := hP
  have hl := lv_entry ([.ref h0]) (n := 1) (Nat.le_of_ble_eq_true rfl)
  rw [lg_entry_eq]
  generalize (lg_sl ([.ref h0]) ++ List.replicate (1 - (lg_sl ([.ref h0])).length) Slot.unset).toArray = ls at hl ⊢
  have hl : lv_has ls 1 [(0, .ref h0)] := hl
  refine z_anyQ (fun Q hQe => ?_)
  refine lv_aload_n hx hb dX14_init_0 rfl (lv_at hl 0 rfl) ?_
  refine W.objInit hx hb hown (hts _ q252) (hts _ q1) (hts _ q2) rfl (by rw [hml]; exact hl.1) rfl dX14_init_1 (Nat.le_of_ble_eq_true rfl) (Nat.le_of_ble_eq_true rfl) ?_
  refine W.eq (g2 := F0 m 4 ls []) rfl ?_
  refine lv_aload_n hx hb dX14_init_4 rfl (lv_at hl 0 rfl) ?_
  refine va_new (ci := 2) (fs := [.int 0, .null, .int 0]) (C := RJx4a65c) (T := TJx4a65c) (N := 3) hx hb hts iRJx4a65c tyJx4a65c tyJx4a65c_ok hown (hts _ q253) (hts _ q254) (hts _ q255) hK hP hD hS hA rfl (fun j hj => by rcases (show j = 0 ∨ j = 1 ∨ j = 2 by omega) with rfl | rfl | rfl <;> rfl) (Nat.le_of_ble_eq_true rfl) (Nat.le_of_ble_eq_true rfl) dX14_init_5 (fun n1 H hP hD hS => ?_)
  have hP : va_P D vwCl [(h0, .inr (17, [.null, .null, .null, .null, .null, .null, .null, .null, .null, .null, .null, .null, .null, .null, .null, .null, .null, .null, .null, .null, .null, .int 0, .int 0, .int 0, .int 0, .long 0, .int 0])), (n1, .inr (2, [.int 0, .null, .int 0]))] H := hP
  have hD : va_D A [(h0, .inr (17, [.null, .null, .null, .null, .null, .null, .null, .null, .null, .null, .null, .null, .null, .null, .null, .null, .null, .null, .null, .null, .null, .int 0, .int 0, .int 0, .int 0, .long 0, .int 0])), (n1, .inr (2, [.int 0, .null, .int 0]))] := hD
  refine W.widen (k := 1) (n := 3) (by omega) (by omega) ?_
  refine lv_dup hx hb dX14_init_8 rfl ?_
  refine zq_v (wc := [(n1, .inr (2, [.int 0, .null, .int 0]))]) (wr := [(h0, .inr (17, [.null, .null, .null, .null, .null, .null, .null, .null, .null, .null, .null, .null, .null, .null, .null, .null, .null, .null, .null, .null, .null, .int 0, .int 0, .int 0, .int 0, .long 0, .int 0]))]) (va_runI (As := []) (rest := [.ref n1, .ref h0]) ⟨hx, hb, hml, hown, hts⟩ (k_AL_init l D cy n1 H.size ) (cwI 0 hts (gz q257) rfl rfl rfl (hts _ q255) (hts _ q256) (hts _ q258) rfl vJx4a65c_init_da8c8.2 ⟨Nat.le_of_ble_eq_true rfl, Nat.le_of_ble_eq_true rfl⟩) (zpS hK hX hY hP hD hS hA [1] (by decide) rfl) rfl rfl hl.1 rfl (lv_room (Nat.le_of_ble_eq_true rfl)) dX14_init_9 ⟨Nat.le_of_ble_eq_true rfl, Nat.le_of_ble_eq_true rfl⟩) hP hD hS hA [1] [0] rfl rfl (by decide) (by decide) (fun u2 H locs hw hP hD hS => ?_)
  have hP : va_P D vwCl [(h0, .inr (17, [.null, .null, .null, .null, .null, .null, .null, .null, .null, .null, .null, .null, .null, .null, .null, .null, .null, .null, .null, .null, .null, .int 0, .int 0, .int 0, .int 0, .long 0, .int 0])), (n1, .inr (2, [.int 0, .ref u2, .int 0]))] H := hP
  have hD : va_D A [(h0, .inr (17, [.null, .null, .null, .null, .null, .null, .null, .null, .null, .null, .null, .null, .null, .null, .null, .null, .null, .null, .null, .null, .null, .int 0, .int 0, .int 0, .int 0, .long 0, .int 0])), (n1, .inr (2, [.int 0, .ref u2, .int 0]))] := hD
  refine va_putF (D := D) (ci := 17) (v := .ref n1) (ty := (tyX14 0)) (C := RX14) (T := TX14) (N := 27) hx hb hts iRX14 tyX14 tyX14_ok nmX14 hown hK hP hD hS 0 rfl rfl 0 (by decide) (hts _ q259) (fun _ h9 => h9) rfl hin rfl (tyX14_ok 0 (by decide)) rfl rfl (Nat.le_of_ble_eq_true rfl) dX14_init_12 (fun H locs hP hD hS => ?_)
  have hP : va_P D vwCl [(h0, .inr (17, [.ref n1, .null, .null, .null, .null, .null, .null, .null, .null, .null, .null, .null, .null, .null, .null, .null, .null, .null, .null, .null, .null, .int 0, .int 0, .int 0, .int 0, .long 0, .int 0])), (n1, .inr (2, [.int 0, .ref u2, .int 0]))] H := hP
  have hD : va_D A [(h0, .inr (17, [.ref n1, .null, .null, .null, .null, .null, .null, .null, .null, .null, .null, .null, .null, .null, .null, .null, .null, .null, .null, .null, .null, .int 0, .int 0, .int 0, .int 0, .long 0, .int 0])), (n1, .inr (2, [.int 0, .ref u2, .int 0]))] := hD
  refine lv_aload_n hx hb dX14_init_15 rfl (lv_at hl 0 rfl) ?_
  refine va_new (ci := 2) (fs := [.int 0, .null, .int 0]) (C := RJx4a65c) (T := TJx4a65c) (N := 3) hx hb hts iRJx4a65c tyJx4a65c tyJx4a65c_ok hown (hts _ q253) (hts _ q254) (hts _ q255) hK hP hD hS hA rfl (fun j hj => by rcases (show j = 0 ∨ j = 1 ∨ j = 2 by omega) with rfl | rfl | rfl <;> rfl) (Nat.le_of_ble_eq_true rfl) (Nat.le_of_ble_eq_true rfl) dX14_init_16 (fun n4 H hP hD hS => ?_)
  have hP : va_P D vwCl [(h0, .inr (17, [.ref n1, .null, .null, .null, .null, .null, .null, .null, .null, .null, .null, .null, .null, .null, .null, .null, .null, .null, .null, .null, .null, .int 0, .int 0, .int 0, .int 0, .long 0, .int 0])), (n1, .inr (2, [.int 0, .ref u2, .int 0])), (n4, .inr (2, [.int 0, .null, .int 0]))] H := hP
  have hD : va_D A [(h0, .inr (17, [.ref n1, .null, .null, .null, .null, .null, .null, .null, .null, .null, .null, .null, .null, .null, .null, .null, .null, .null, .null, .null, .null, .int 0, .int 0, .int 0, .int 0, .long 0, .int 0])), (n1, .inr (2, [.int 0, .ref u2, .int 0])), (n4, .inr (2, [.int 0, .null, .int 0]))] := hD
  refine W.widen (k := 2) (n := 6) (by omega) (by omega) ?_
  refine lv_dup hx hb dX14_init_19 rfl ?_
  refine zq_v (wc := [(n4, .inr (2, [.int 0, .null, .int 0]))]) (wr := [(h0, .inr (17, [.ref n1, .null, .null, .null, .null, .null, .null, .null, .null, .null, .null, .null, .null, .null, .null, .null, .null, .null, .null, .null, .null, .int 0, .int 0, .int 0, .int 0, .long 0, .int 0])), (n1, .inr (2, [.int 0, .ref u2, .int 0]))]) (va_runI (As := []) (rest := [.ref n4, .ref h0]) ⟨hx, hb, hml, hown, hts⟩ (k_AL_init l D cy n4 H.size ) (cwI 0 hts (gz q257) rfl rfl rfl (hts _ q255) (hts _ q256) (hts _ q258) rfl vJx4a65c_init_da8c8.2 ⟨Nat.le_of_ble_eq_true rfl, Nat.le_of_ble_eq_true rfl⟩) (zpS hK hX hY hP hD hS hA [2] (by decide) rfl) rfl rfl hl.1 rfl (lv_room (Nat.le_of_ble_eq_true rfl)) dX14_init_20 ⟨Nat.le_of_ble_eq_true rfl, Nat.le_of_ble_eq_true rfl⟩) hP hD hS hA [2] [0, 1] rfl rfl (by decide) (by decide) (fun u5 H locs hw hP hD hS => ?_)
  have hP : va_P D vwCl [(h0, .inr (17, [.ref n1, .null, .null, .null, .null, .null, .null, .null, .null, .null, .null, .null, .null, .null, .null, .null, .null, .null, .null, .null, .null, .int 0, .int 0, .int 0, .int 0, .long 0, .int 0])), (n1, .inr (2, [.int 0, .ref u2, .int 0])), (n4, .inr (2, [.int 0, .ref u5, .int 0]))] H := hP
  have hD : va_D A [(h0, .inr (17, [.ref n1, .null, .null, .null, .null, .null, .null, .null, .null, .null, .null, .null, .null, .null, .null, .null, .null, .null, .null, .null, .null, .int 0, .int 0, .int 0, .int 0, .long 0, .int 0])), (n1, .inr (2, [.int 0, .ref u2, .int 0])), (n4, .inr (2, [.int 0, .ref u5, .int 0]))] := hD
  refine va_putF (D := D) (ci := 17) (v := .ref n4) (ty := (tyX14 1)) (C := RX14) (T := TX14) (N := 27) hx hb hts iRX14 tyX14 tyX14_ok nmX14 hown hK hP hD hS 0 rfl rfl 1 (by decide) (hts _ q260) (fun _ h9 => h9) rfl hin rfl (tyX14_ok 1 (by decide)) rfl rfl (Nat.le_of_ble_eq_true rfl) dX14_init_23 (fun H locs hP hD hS => ?_)
  have hP : va_P D vwCl [(h0, .inr (17, [.ref n1, .ref n4, .null, .null, .null, .null, .null, .null, .null, .null, .null, .null, .null, .null, .null, .null, .null, .null, .null, .null, .null, .int 0, .int 0, .int 0, .int 0, .long 0, .int 0])), (n1, .inr (2, [.int 0, .ref u2, .int 0])), (n4, .inr (2, [.int 0, .ref u5, .int 0]))] H := hP
  have hD : va_D A [(h0, .inr (17, [.ref n1, .ref n4, .null, .null, .null, .null, .null, .null, .null, .null, .null, .null, .null, .null, .null, .null, .null, .null, .null, .null, .null, .int 0, .int 0, .int 0, .int 0, .long 0, .int 0])), (n1, .inr (2, [.int 0, .ref u2, .int 0])), (n4, .inr (2, [.int 0, .ref u5, .int 0]))] := hD
  refine lv_aload_n hx hb dX14_init_26 rfl (lv_at hl 0 rfl) ?_
  refine va_new (ci := 2) (fs := [.int 0, .null, .int 0]) (C := RJx4a65c) (T := TJx4a65c) (N := 3) hx hb hts iRJx4a65c tyJx4a65c tyJx4a65c_ok hown (hts _ q253) (hts _ q254) (hts _ q255) hK hP hD hS hA rfl (fun j hj => by rcases (show j = 0 ∨ j = 1 ∨ j = 2 by omega) with rfl | rfl | rfl <;> rfl) (Nat.le_of_ble_eq_true rfl) (Nat.le_of_ble_eq_true rfl) dX14_init_27 (fun n7 H hP hD hS => ?_)
  have hP : va_P D vwCl [(h0, .inr (17, [.ref n1, .ref n4, .null, .null, .null, .null, .null, .null, .null, .null, .null, .null, .null, .null, .null, .null, .null, .null, .null, .null, .null, .int 0, .int 0, .int 0, .int 0, .long 0, .int 0])), (n1, .inr (2, [.int 0, .ref u2, .int 0])), (n4, .inr (2, [.int 0, .ref u5, .int 0])), (n7, .inr (2, [.int 0, .null, .int 0]))] H := hP
  have hD : va_D A [(h0, .inr (17, [.ref n1, .ref n4, .null, .null, .null, .null, .null, .null, .null, .null, .null, .null, .null, .null, .null, .null, .null, .null, .null, .null, .null, .int 0, .int 0, .int 0, .int 0, .long 0, .int 0])), (n1, .inr (2, [.int 0, .ref u2, .int 0])), (n4, .inr (2, [.int 0, .ref u5, .int 0])), (n7, .inr (2, [.int 0, .null, .int 0]))] := hD
  refine W.widen (k := 3) (n := 9) (by omega) (by omega) ?_
  refine lv_dup hx hb dX14_init_30 rfl ?_
  refine zq_v (wc := [(n7, .inr (2, [.int 0, .null, .int 0]))]) (wr := [(h0, .inr (17, [.ref n1, .ref n4, .null, .null, .null, .null, .null, .null, .null, .null, .null, .null, .null, .null, .null, .null, .null, .null, .null, .null, .null, .int 0, .int 0, .int 0, .int 0, .long 0, .int 0])), (n1, .inr (2, [.int 0, .ref u2, .int 0])), (n4, .inr (2, [.int 0, .ref u5, .int 0]))]) (va_runI (As := []) (rest := [.ref n7, .ref h0]) ⟨hx, hb, hml, hown, hts⟩ (k_AL_init l D cy n7 H.size ) (cwI 0 hts (gz q257) rfl rfl rfl (hts _ q255) (hts _ q256) (hts _ q258) rfl vJx4a65c_init_da8c8.2 ⟨Nat.le_of_ble_eq_true rfl, Nat.le_of_ble_eq_true rfl⟩) (zpS hK hX hY hP hD hS hA [3] (by decide) rfl) rfl rfl hl.1 rfl (lv_room (Nat.le_of_ble_eq_true rfl)) dX14_init_31 ⟨Nat.le_of_ble_eq_true rfl, Nat.le_of_ble_eq_true rfl⟩) hP hD hS hA [3] [0, 1, 2] rfl rfl (by decide) (by decide) (fun u8 H locs hw hP hD hS => ?_)
  have hP : va_P D vwCl [(h0, .inr (17, [.ref n1, .ref n4, .null, .null, .null, .null, .null, .null, .null, .null, .null, .null, .null, .null, .null, .null, .null, .null, .null, .null, .null, .int 0, .int 0, .int 0, .int 0, .long 0, .int 0])), (n1, .inr (2, [.int 0, .ref u2, .int 0])), (n4, .inr (2, [.int 0, .ref u5, .int 0])), (n7, .inr (2, [.int 0, .ref u8, .int 0]))] H := hP
  have hD : va_D A [(h0, .inr (17, [.ref n1, .ref n4, .null, .null, .null, .null, .null, .null, .null, .null, .null, .null, .null, .null, .null, .null, .null, .null, .null, .null, .null, .int 0, .int 0, .int 0, .int 0, .long 0, .int 0])), (n1, .inr (2, [.int 0, .ref u2, .int 0])), (n4, .inr (2, [.int 0, .ref u5, .int 0])), (n7, .inr (2, [.int 0, .ref u8, .int 0]))] := hD
  refine va_putF (D := D) (ci := 17) (v := .ref n7) (ty := (tyX14 2)) (C := RX14) (T := TX14) (N := 27) hx hb hts iRX14 tyX14 tyX14_ok nmX14 hown hK hP hD hS 0 rfl rfl 2 (by decide) (hts _ q261) (fun _ h9 => h9) rfl hin rfl (tyX14_ok 2 (by decide)) rfl rfl (Nat.le_of_ble_eq_true rfl) dX14_init_34 (fun H locs hP hD hS => ?_)
  have hP : va_P D vwCl [(h0, .inr (17, [.ref n1, .ref n4, .ref n7, .null, .null, .null, .null, .null, .null, .null, .null, .null, .null, .null, .null, .null, .null, .null, .null, .null, .null, .int 0, .int 0, .int 0, .int 0, .long 0, .int 0])), (n1, .inr (2, [.int 0, .ref u2, .int 0])), (n4, .inr (2, [.int 0, .ref u5, .int 0])), (n7, .inr (2, [.int 0, .ref u8, .int 0]))] H := hP
  have hD : va_D A [(h0, .inr (17, [.ref n1, .ref n4, .ref n7, .null, .null, .null, .null, .null, .null, .null, .null, .null, .null, .null, .null, .null, .null, .null, .null, .null, .null, .int 0, .int 0, .int 0, .int 0, .long 0, .int 0])), (n1, .inr (2, [.int 0, .ref u2, .int 0])), (n4, .inr (2, [.int 0, .ref u5, .int 0])), (n7, .inr (2, [.int 0, .ref u8, .int 0]))] := hD
  refine lv_aload_n hx hb dX14_init_37 rfl (lv_at hl 0 rfl) ?_
  refine lv_bipush (v := 9) hx hb dX14_init_38 (by decide) ?_
  refine z_newa (atype := .int) hx hb (hts _ q4) rfl hK hP hD hS hA 0 rfl (a0 := (9, .inl (fun _ => 0))) (fun _ => rfl) (by decide) (by decide) (by decide) (Nat.le_of_ble_eq_true rfl) (Nat.le_of_ble_eq_true rfl) dX14_init_40 (fun n10 H hP hD hS => ?_)
  have hP : va_P D vwCl [(h0, .inr (17, [.ref n1, .ref n4, .ref n7, .null, .null, .null, .null, .null, .null, .null, .null, .null, .null, .null, .null, .null, .null, .null, .null, .null, .null, .int 0, .int 0, .int 0, .int 0, .long 0, .int 0])), (n1, .inr (2, [.int 0, .ref u2, .int 0])), (n4, .inr (2, [.int 0, .ref u5, .int 0])), (n7, .inr (2, [.int 0, .ref u8, .int 0])), (n10, .inl (cy 0, 9, .inl (fun _ => 0)))] H := hP
  have hD : va_D A [(h0, .inr (17, [.ref n1, .ref n4, .ref n7, .null, .null, .null, .null, .null, .null, .null, .null, .null, .null, .null, .null, .null, .null, .null, .null, .null, .null, .int 0, .int 0, .int 0, .int 0, .long 0, .int 0])), (n1, .inr (2, [.int 0, .ref u2, .int 0])), (n4, .inr (2, [.int 0, .ref u5, .int 0])), (n7, .inr (2, [.int 0, .ref u8, .int 0])), (n10, .inl (cy 0, 9, .inl (fun _ => 0)))] := hD
  refine W.widen (k := 4) (n := 18) (by omega) (by omega) ?_
  refine va_putF (D := D) (ci := 17) (v := .ref n10) (ty := (tyX14 3)) (C := RX14) (T := TX14) (N := 27) hx hb hts iRX14 tyX14 tyX14_ok nmX14 hown hK hP hD hS 0 rfl rfl 3 (by decide) (hts _ q262) (fun _ h9 => h9) rfl hin rfl (tyX14_ok 3 (by decide)) rfl rfl (Nat.le_of_ble_eq_true rfl) dX14_init_42 (fun H locs hP hD hS => ?_)
  have hP : va_P D vwCl [(h0, .inr (17, [.ref n1, .ref n4, .ref n7, .ref n10, .null, .null, .null, .null, .null, .null, .null, .null, .null, .null, .null, .null, .null, .null, .null, .null, .null, .int 0, .int 0, .int 0, .int 0, .long 0, .int 0])), (n1, .inr (2, [.int 0, .ref u2, .int 0])), (n4, .inr (2, [.int 0, .ref u5, .int 0])), (n7, .inr (2, [.int 0, .ref u8, .int 0])), (n10, .inl (cy 0, 9, .inl (fun _ => 0)))] H := hP
  have hD : va_D A [(h0, .inr (17, [.ref n1, .ref n4, .ref n7, .ref n10, .null, .null, .null, .null, .null, .null, .null, .null, .null, .null, .null, .null, .null, .null, .null, .null, .null, .int 0, .int 0, .int 0, .int 0, .long 0, .int 0])), (n1, .inr (2, [.int 0, .ref u2, .int 0])), (n4, .inr (2, [.int 0, .ref u5, .int 0])), (n7, .inr (2, [.int 0, .ref u8, .int 0])), (n10, .inl (cy 0, 9, .inl (fun _ => 0)))] := hD
  refine lv_aload_n hx hb dX14_init_45 rfl (lv_at hl 0 rfl) ?_
  refine lv_bipush (v := 8) hx hb dX14_init_46 (by decide) ?_
  refine z_newa (atype := .int) hx hb (hts _ q4) rfl hK hP hD hS hA 0 rfl (a0 := (8, .inl (fun _ => 0))) (fun _ => rfl) (by decide) (by decide) (by decide) (Nat.le_of_ble_eq_true rfl) (Nat.le_of_ble_eq_true rfl) dX14_init_48 (fun n11 H hP hD hS => ?_)
  have hP : va_P D vwCl [(h0, .inr (17, [.ref n1, .ref n4, .ref n7, .ref n10, .null, .null, .null, .null, .null, .null, .null, .null, .null, .null, .null, .null, .null, .null, .null, .null, .null, .int 0, .int 0, .int 0, .int 0, .long 0, .int 0])), (n1, .inr (2, [.int 0, .ref u2, .int 0])), (n4, .inr (2, [.int 0, .ref u5, .int 0])), (n7, .inr (2, [.int 0, .ref u8, .int 0])), (n10, .inl (cy 0, 9, .inl (fun _ => 0))), (n11, .inl (cy 0, 8, .inl (fun _ => 0)))] H := hP
  have hD : va_D A [(h0, .inr (17, [.ref n1, .ref n4, .ref n7, .ref n10, .null, .null, .null, .null, .null, .null, .null, .null, .null, .null, .null, .null, .null, .null, .null, .null, .null, .int 0, .int 0, .int 0, .int 0, .long 0, .int 0])), (n1, .inr (2, [.int 0, .ref u2, .int 0])), (n4, .inr (2, [.int 0, .ref u5, .int 0])), (n7, .inr (2, [.int 0, .ref u8, .int 0])), (n10, .inl (cy 0, 9, .inl (fun _ => 0))), (n11, .inl (cy 0, 8, .inl (fun _ => 0)))] := hD
  refine W.widen (k := 5) (n := 26) (by omega) (by omega) ?_
  refine va_putF (D := D) (ci := 17) (v := .ref n11) (ty := (tyX14 4)) (C := RX14) (T := TX14) (N := 27) hx hb hts iRX14 tyX14 tyX14_ok nmX14 hown hK hP hD hS 0 rfl rfl 4 (by decide) (hts _ q263) (fun _ h9 => h9) rfl hin rfl (tyX14_ok 4 (by decide)) rfl rfl (Nat.le_of_ble_eq_true rfl) dX14_init_50 (fun H locs hP hD hS => ?_)
  have hP : va_P D vwCl [(h0, .inr (17, [.ref n1, .ref n4, .ref n7, .ref n10, .ref n11, .null, .null, .null, .null, .null, .null, .null, .null, .null, .null, .null, .null, .null, .null, .null, .null, .int 0, .int 0, .int 0, .int 0, .long 0, .int 0])), (n1, .inr (2, [.int 0, .ref u2, .int 0])), (n4, .inr (2, [.int 0, .ref u5, .int 0])), (n7, .inr (2, [.int 0, .ref u8, .int 0])), (n10, .inl (cy 0, 9, .inl (fun _ => 0))), (n11, .inl (cy 0, 8, .inl (fun _ => 0)))] H := hP
  have hD : va_D A [(h0, .inr (17, [.ref n1, .ref n4, .ref n7, .ref n10, .ref n11, .null, .null, .null, .null, .null, .null, .null, .null, .null, .null, .null, .null, .null, .null, .null, .null, .int 0, .int 0, .int 0, .int 0, .long 0, .int 0])), (n1, .inr (2, [.int 0, .ref u2, .int 0])), (n4, .inr (2, [.int 0, .ref u5, .int 0])), (n7, .inr (2, [.int 0, .ref u8, .int 0])), (n10, .inl (cy 0, 9, .inl (fun _ => 0))), (n11, .inl (cy 0, 8, .inl (fun _ => 0)))] := hD
  refine lv_aload_n hx hb dX14_init_53 rfl (lv_at hl 0 rfl) ?_
  refine lv_bipush (v := 8) hx hb dX14_init_54 (by decide) ?_
  refine z_newa (atype := .int) hx hb (hts _ q4) rfl hK hP hD hS hA 0 rfl (a0 := (8, .inl (fun _ => 0))) (fun _ => rfl) (by decide) (by decide) (by decide) (Nat.le_of_ble_eq_true rfl) (Nat.le_of_ble_eq_true rfl) dX14_init_56 (fun n12 H hP hD hS => ?_)
  have hP : va_P D vwCl [(h0, .inr (17, [.ref n1, .ref n4, .ref n7, .ref n10, .ref n11, .null, .null, .null, .null, .null, .null, .null, .null, .null, .null, .null, .null, .null, .null, .null, .null, .int 0, .int 0, .int 0, .int 0, .long 0, .int 0])), (n1, .inr (2, [.int 0, .ref u2, .int 0])), (n4, .inr (2, [.int 0, .ref u5, .int 0])), (n7, .inr (2, [.int 0, .ref u8, .int 0])), (n10, .inl (cy 0, 9, .inl (fun _ => 0))), (n11, .inl (cy 0, 8, .inl (fun _ => 0))), (n12, .inl (cy 0, 8, .inl (fun _ => 0)))] H := hP
  have hD : va_D A [(h0, .inr (17, [.ref n1, .ref n4, .ref n7, .ref n10, .ref n11, .null, .null, .null, .null, .null, .null, .null, .null, .null, .null, .null, .null, .null, .null, .null, .null, .int 0, .int 0, .int 0, .int 0, .long 0, .int 0])), (n1, .inr (2, [.int 0, .ref u2, .int 0])), (n4, .inr (2, [.int 0, .ref u5, .int 0])), (n7, .inr (2, [.int 0, .ref u8, .int 0])), (n10, .inl (cy 0, 9, .inl (fun _ => 0))), (n11, .inl (cy 0, 8, .inl (fun _ => 0))), (n12, .inl (cy 0, 8, .inl (fun _ => 0)))] := hD
  refine W.widen (k := 6) (n := 34) (by omega) (by omega) ?_
  refine va_putF (D := D) (ci := 17) (v := .ref n12) (ty := (tyX14 5)) (C := RX14) (T := TX14) (N := 27) hx hb hts iRX14 tyX14 tyX14_ok nmX14 hown hK hP hD hS 0 rfl rfl 5 (by decide) (hts _ q264) (fun _ h9 => h9) rfl hin rfl (tyX14_ok 5 (by decide)) rfl rfl (Nat.le_of_ble_eq_true rfl) dX14_init_58 (fun H locs hP hD hS => ?_)
  have hP : va_P D vwCl [(h0, .inr (17, [.ref n1, .ref n4, .ref n7, .ref n10, .ref n11, .ref n12, .null, .null, .null, .null, .null, .null, .null, .null, .null, .null, .null, .null, .null, .null, .null, .int 0, .int 0, .int 0, .int 0, .long 0, .int 0])), (n1, .inr (2, [.int 0, .ref u2, .int 0])), (n4, .inr (2, [.int 0, .ref u5, .int 0])), (n7, .inr (2, [.int 0, .ref u8, .int 0])), (n10, .inl (cy 0, 9, .inl (fun _ => 0))), (n11, .inl (cy 0, 8, .inl (fun _ => 0))), (n12, .inl (cy 0, 8, .inl (fun _ => 0)))] H := hP
  have hD : va_D A [(h0, .inr (17, [.ref n1, .ref n4, .ref n7, .ref n10, .ref n11, .ref n12, .null, .null, .null, .null, .null, .null, .null, .null, .null, .null, .null, .null, .null, .null, .null, .int 0, .int 0, .int 0, .int 0, .long 0, .int 0])), (n1, .inr (2, [.int 0, .ref u2, .int 0])), (n4, .inr (2, [.int 0, .ref u5, .int 0])), (n7, .inr (2, [.int 0, .ref u8, .int 0])), (n10, .inl (cy 0, 9, .inl (fun _ => 0))), (n11, .inl (cy 0, 8, .inl (fun _ => 0))), (n12, .inl (cy 0, 8, .inl (fun _ => 0)))] := hD
  refine lv_aload_n hx hb dX14_init_61 rfl (lv_at hl 0 rfl) ?_
  refine lv_bipush (v := 8) hx hb dX14_init_62 (by decide) ?_
  refine z_newa (atype := .int) hx hb (hts _ q4) rfl hK hP hD hS hA 0 rfl (a0 := (8, .inl (fun _ => 0))) (fun _ => rfl) (by decide) (by decide) (by decide) (Nat.le_of_ble_eq_true rfl) (Nat.le_of_ble_eq_true rfl) dX14_init_64 (fun n13 H hP hD hS => ?_)
  have hP : va_P D vwCl [(h0, .inr (17, [.ref n1, .ref n4, .ref n7, .ref n10, .ref n11, .ref n12, .null, .null, .null, .null, .null, .null, .null, .null, .null, .null, .null, .null, .null, .null, .null, .int 0, .int 0, .int 0, .int 0, .long 0, .int 0])), (n1, .inr (2, [.int 0, .ref u2, .int 0])), (n4, .inr (2, [.int 0, .ref u5, .int 0])), (n7, .inr (2, [.int 0, .ref u8, .int 0])), (n10, .inl (cy 0, 9, .inl (fun _ => 0))), (n11, .inl (cy 0, 8, .inl (fun _ => 0))), (n12, .inl (cy 0, 8, .inl (fun _ => 0))), (n13, .inl (cy 0, 8, .inl (fun _ => 0)))] H := hP
  have hD : va_D A [(h0, .inr (17, [.ref n1, .ref n4, .ref n7, .ref n10, .ref n11, .ref n12, .null, .null, .null, .null, .null, .null, .null, .null, .null, .null, .null, .null, .null, .null, .null, .int 0, .int 0, .int 0, .int 0, .long 0, .int 0])), (n1, .inr (2, [.int 0, .ref u2, .int 0])), (n4, .inr (2, [.int 0, .ref u5, .int 0])), (n7, .inr (2, [.int 0, .ref u8, .int 0])), (n10, .inl (cy 0, 9, .inl (fun _ => 0))), (n11, .inl (cy 0, 8, .inl (fun _ => 0))), (n12, .inl (cy 0, 8, .inl (fun _ => 0))), (n13, .inl (cy 0, 8, .inl (fun _ => 0)))] := hD
  refine W.widen (k := 7) (n := 42) (by omega) (by omega) ?_
  refine va_putF (D := D) (ci := 17) (v := .ref n13) (ty := (tyX14 6)) (C := RX14) (T := TX14) (N := 27) hx hb hts iRX14 tyX14 tyX14_ok nmX14 hown hK hP hD hS 0 rfl rfl 6 (by decide) (hts _ q265) (fun _ h9 => h9) rfl hin rfl (tyX14_ok 6 (by decide)) rfl rfl (Nat.le_of_ble_eq_true rfl) dX14_init_66 (fun H locs hP hD hS => ?_)
  have hP : va_P D vwCl [(h0, .inr (17, [.ref n1, .ref n4, .ref n7, .ref n10, .ref n11, .ref n12, .ref n13, .null, .null, .null, .null, .null, .null, .null, .null, .null, .null, .null, .null, .null, .null, .int 0, .int 0, .int 0, .int 0, .long 0, .int 0])), (n1, .inr (2, [.int 0, .ref u2, .int 0])), (n4, .inr (2, [.int 0, .ref u5, .int 0])), (n7, .inr (2, [.int 0, .ref u8, .int 0])), (n10, .inl (cy 0, 9, .inl (fun _ => 0))), (n11, .inl (cy 0, 8, .inl (fun _ => 0))), (n12, .inl (cy 0, 8, .inl (fun _ => 0))), (n13, .inl (cy 0, 8, .inl (fun _ => 0)))] H := hP
  have hD : va_D A [(h0, .inr (17, [.ref n1, .ref n4, .ref n7, .ref n10, .ref n11, .ref n12, .ref n13, .null, .null, .null, .null, .null, .null, .null, .null, .null, .null, .null, .null, .null, .null, .int 0, .int 0, .int 0, .int 0, .long 0, .int 0])), (n1, .inr (2, [.int 0, .ref u2, .int 0])), (n4, .inr (2, [.int 0, .ref u5, .int 0])), (n7, .inr (2, [.int 0, .ref u8, .int 0])), (n10, .inl (cy 0, 9, .inl (fun _ => 0))), (n11, .inl (cy 0, 8, .inl (fun _ => 0))), (n12, .inl (cy 0, 8, .inl (fun _ => 0))), (n13, .inl (cy 0, 8, .inl (fun _ => 0)))] := hD
  refine lv_aload_n hx hb dX14_init_69 rfl (lv_at hl 0 rfl) ?_
  refine lv_sipush (v := 200) hx hb dX14_init_70 (by decide) ?_
  refine z_newa (atype := .int) hx hb (hts _ q4) rfl hK hP hD hS hA 0 rfl (a0 := (200, .inl (fun _ => 0))) (fun _ => rfl) (by decide) (by decide) (by decide) (Nat.le_of_ble_eq_true rfl) (Nat.le_of_ble_eq_true rfl) dX14_init_73 (fun n14 H hP hD hS => ?_)
  have hP : va_P D vwCl [(h0, .inr (17, [.ref n1, .ref n4, .ref n7, .ref n10, .ref n11, .ref n12, .ref n13, .null, .null, .null, .null, .null, .null, .null, .null, .null, .null, .null, .null, .null, .null, .int 0, .int 0, .int 0, .int 0, .long 0, .int 0])), (n1, .inr (2, [.int 0, .ref u2, .int 0])), (n4, .inr (2, [.int 0, .ref u5, .int 0])), (n7, .inr (2, [.int 0, .ref u8, .int 0])), (n10, .inl (cy 0, 9, .inl (fun _ => 0))), (n11, .inl (cy 0, 8, .inl (fun _ => 0))), (n12, .inl (cy 0, 8, .inl (fun _ => 0))), (n13, .inl (cy 0, 8, .inl (fun _ => 0))), (n14, .inl (cy 0, 200, .inl (fun _ => 0)))] H := hP
  have hD : va_D A [(h0, .inr (17, [.ref n1, .ref n4, .ref n7, .ref n10, .ref n11, .ref n12, .ref n13, .null, .null, .null, .null, .null, .null, .null, .null, .null, .null, .null, .null, .null, .null, .int 0, .int 0, .int 0, .int 0, .long 0, .int 0])), (n1, .inr (2, [.int 0, .ref u2, .int 0])), (n4, .inr (2, [.int 0, .ref u5, .int 0])), (n7, .inr (2, [.int 0, .ref u8, .int 0])), (n10, .inl (cy 0, 9, .inl (fun _ => 0))), (n11, .inl (cy 0, 8, .inl (fun _ => 0))), (n12, .inl (cy 0, 8, .inl (fun _ => 0))), (n13, .inl (cy 0, 8, .inl (fun _ => 0))), (n14, .inl (cy 0, 200, .inl (fun _ => 0)))] := hD
  refine W.widen (k := 8) (n := 242) (by omega) (by omega) ?_
  refine va_putF (D := D) (ci := 17) (v := .ref n14) (ty := (tyX14 7)) (C := RX14) (T := TX14) (N := 27) hx hb hts iRX14 tyX14 tyX14_ok nmX14 hown hK hP hD hS 0 rfl rfl 7 (by decide) (hts _ q266) (fun _ h9 => h9) rfl hin rfl (tyX14_ok 7 (by decide)) rfl rfl (Nat.le_of_ble_eq_true rfl) dX14_init_75 (fun H locs hP hD hS => ?_)
  have hP : va_P D vwCl [(h0, .inr (17, [.ref n1, .ref n4, .ref n7, .ref n10, .ref n11, .ref n12, .ref n13, .ref n14, .null, .null, .null, .null, .null, .null, .null, .null, .null, .null, .null, .null, .null, .int 0, .int 0, .int 0, .int 0, .long 0, .int 0])), (n1, .inr (2, [.int 0, .ref u2, .int 0])), (n4, .inr (2, [.int 0, .ref u5, .int 0])), (n7, .inr (2, [.int 0, .ref u8, .int 0])), (n10, .inl (cy 0, 9, .inl (fun _ => 0))), (n11, .inl (cy 0, 8, .inl (fun _ => 0))), (n12, .inl (cy 0, 8, .inl (fun _ => 0))), (n13, .inl (cy 0, 8, .inl (fun _ => 0))), (n14, .inl (cy 0, 200, .inl (fun _ => 0)))] H := hP
  have hD : va_D A [(h0, .inr (17, [.ref n1, .ref n4, .ref n7, .ref n10, .ref n11, .ref n12, .ref n13, .ref n14, .null, .null, .null, .null, .null, .null, .null, .null, .null, .null, .null, .null, .null, .int 0, .int 0, .int 0, .int 0, .long 0, .int 0])), (n1, .inr (2, [.int 0, .ref u2, .int 0])), (n4, .inr (2, [.int 0, .ref u5, .int 0])), (n7, .inr (2, [.int 0, .ref u8, .int 0])), (n10, .inl (cy 0, 9, .inl (fun _ => 0))), (n11, .inl (cy 0, 8, .inl (fun _ => 0))), (n12, .inl (cy 0, 8, .inl (fun _ => 0))), (n13, .inl (cy 0, 8, .inl (fun _ => 0))), (n14, .inl (cy 0, 200, .inl (fun _ => 0)))] := hD
  refine lv_aload_n hx hb dX14_init_78 rfl (lv_at hl 0 rfl) ?_
  refine lv_sipush (v := 401) hx hb dX14_init_79 (by decide) ?_
  refine z_newa (atype := .int) hx hb (hts _ q4) rfl hK hP hD hS hA 0 rfl (a0 := (401, .inl (fun _ => 0))) (fun _ => rfl) (by decide) (by decide) (by decide) (Nat.le_of_ble_eq_true rfl) (Nat.le_of_ble_eq_true rfl) dX14_init_82 (fun n15 H hP hD hS => ?_)
  have hP : va_P D vwCl [(h0, .inr (17, [.ref n1, .ref n4, .ref n7, .ref n10, .ref n11, .ref n12, .ref n13, .ref n14, .null, .null, .null, .null, .null, .null, .null, .null, .null, .null, .null, .null, .null, .int 0, .int 0, .int 0, .int 0, .long 0, .int 0])), (n1, .inr (2, [.int 0, .ref u2, .int 0])), (n4, .inr (2, [.int 0, .ref u5, .int 0])), (n7, .inr (2, [.int 0, .ref u8, .int 0])), (n10, .inl (cy 0, 9, .inl (fun _ => 0))), (n11, .inl (cy 0, 8, .inl (fun _ => 0))), (n12, .inl (cy 0, 8, .inl (fun _ => 0))), (n13, .inl (cy 0, 8, .inl (fun _ => 0))), (n14, .inl (cy 0, 200, .inl (fun _ => 0))), (n15, .inl (cy 0, 401, .inl (fun _ => 0)))] H := hP
  have hD : va_D A [(h0, .inr (17, [.ref n1, .ref n4, .ref n7, .ref n10, .ref n11, .ref n12, .ref n13, .ref n14, .null, .null, .null, .null, .null, .null, .null, .null, .null, .null, .null, .null, .null, .int 0, .int 0, .int 0, .int 0, .long 0, .int 0])), (n1, .inr (2, [.int 0, .ref u2, .int 0])), (n4, .inr (2, [.int 0, .ref u5, .int 0])), (n7, .inr (2, [.int 0, .ref u8, .int 0])), (n10, .inl (cy 0, 9, .inl (fun _ => 0))), (n11, .inl (cy 0, 8, .inl (fun _ => 0))), (n12, .inl (cy 0, 8, .inl (fun _ => 0))), (n13, .inl (cy 0, 8, .inl (fun _ => 0))), (n14, .inl (cy 0, 200, .inl (fun _ => 0))), (n15, .inl (cy 0, 401, .inl (fun _ => 0)))] := hD
  refine W.widen (k := 9) (n := 643) (by omega) (by omega) ?_
  refine va_putF (D := D) (ci := 17) (v := .ref n15) (ty := (tyX14 8)) (C := RX14) (T := TX14) (N := 27) hx hb hts iRX14 tyX14 tyX14_ok nmX14 hown hK hP hD hS 0 rfl rfl 8 (by decide) (hts _ q267) (fun _ h9 => h9) rfl hin rfl (tyX14_ok 8 (by decide)) rfl rfl (Nat.le_of_ble_eq_true rfl) dX14_init_84 (fun H locs hP hD hS => ?_)
  have hP : va_P D vwCl [(h0, .inr (17, [.ref n1, .ref n4, .ref n7, .ref n10, .ref n11, .ref n12, .ref n13, .ref n14, .ref n15, .null, .null, .null, .null, .null, .null, .null, .null, .null, .null, .null, .null, .int 0, .int 0, .int 0, .int 0, .long 0, .int 0])), (n1, .inr (2, [.int 0, .ref u2, .int 0])), (n4, .inr (2, [.int 0, .ref u5, .int 0])), (n7, .inr (2, [.int 0, .ref u8, .int 0])), (n10, .inl (cy 0, 9, .inl (fun _ => 0))), (n11, .inl (cy 0, 8, .inl (fun _ => 0))), (n12, .inl (cy 0, 8, .inl (fun _ => 0))), (n13, .inl (cy 0, 8, .inl (fun _ => 0))), (n14, .inl (cy 0, 200, .inl (fun _ => 0))), (n15, .inl (cy 0, 401, .inl (fun _ => 0)))] H := hP
  have hD : va_D A [(h0, .inr (17, [.ref n1, .ref n4, .ref n7, .ref n10, .ref n11, .ref n12, .ref n13, .ref n14, .ref n15, .null, .null, .null, .null, .null, .null, .null, .null, .null, .null, .null, .null, .int 0, .int 0, .int 0, .int 0, .long 0, .int 0])), (n1, .inr (2, [.int 0, .ref u2, .int 0])), (n4, .inr (2, [.int 0, .ref u5, .int 0])), (n7, .inr (2, [.int 0, .ref u8, .int 0])), (n10, .inl (cy 0, 9, .inl (fun _ => 0))), (n11, .inl (cy 0, 8, .inl (fun _ => 0))), (n12, .inl (cy 0, 8, .inl (fun _ => 0))), (n13, .inl (cy 0, 8, .inl (fun _ => 0))), (n14, .inl (cy 0, 200, .inl (fun _ => 0))), (n15, .inl (cy 0, 401, .inl (fun _ => 0)))] := hD
  refine lv_aload_n hx hb dX14_init_87 rfl (lv_at hl 0 rfl) ?_
  refine lv_bipush (v := 9) hx hb dX14_init_88 (by decide) ?_
  refine z_newa (atype := .int) hx hb (hts _ q4) rfl hK hP hD hS hA 0 rfl (a0 := (9, .inl (fun _ => 0))) (fun _ => rfl) (by decide) (by decide) (by decide) (Nat.le_of_ble_eq_true rfl) (Nat.le_of_ble_eq_true rfl) dX14_init_90 (fun n16 H hP hD hS => ?_)
  have hP : va_P D vwCl [(h0, .inr (17, [.ref n1, .ref n4, .ref n7, .ref n10, .ref n11, .ref n12, .ref n13, .ref n14, .ref n15, .null, .null, .null, .null, .null, .null, .null, .null, .null, .null, .null, .null, .int 0, .int 0, .int 0, .int 0, .long 0, .int 0])), (n1, .inr (2, [.int 0, .ref u2, .int 0])), (n4, .inr (2, [.int 0, .ref u5, .int 0])), (n7, .inr (2, [.int 0, .ref u8, .int 0])), (n10, .inl (cy 0, 9, .inl (fun _ => 0))), (n11, .inl (cy 0, 8, .inl (fun _ => 0))), (n12, .inl (cy 0, 8, .inl (fun _ => 0))), (n13, .inl (cy 0, 8, .inl (fun _ => 0))), (n14, .inl (cy 0, 200, .inl (fun _ => 0))), (n15, .inl (cy 0, 401, .inl (fun _ => 0))), (n16, .inl (cy 0, 9, .inl (fun _ => 0)))] H := hP
  have hD : va_D A [(h0, .inr (17, [.ref n1, .ref n4, .ref n7, .ref n10, .ref n11, .ref n12, .ref n13, .ref n14, .ref n15, .null, .null, .null, .null, .null, .null, .null, .null, .null, .null, .null, .null, .int 0, .int 0, .int 0, .int 0, .long 0, .int 0])), (n1, .inr (2, [.int 0, .ref u2, .int 0])), (n4, .inr (2, [.int 0, .ref u5, .int 0])), (n7, .inr (2, [.int 0, .ref u8, .int 0])), (n10, .inl (cy 0, 9, .inl (fun _ => 0))), (n11, .inl (cy 0, 8, .inl (fun _ => 0))), (n12, .inl (cy 0, 8, .inl (fun _ => 0))), (n13, .inl (cy 0, 8, .inl (fun _ => 0))), (n14, .inl (cy 0, 200, .inl (fun _ => 0))), (n15, .inl (cy 0, 401, .inl (fun _ => 0))), (n16, .inl (cy 0, 9, .inl (fun _ => 0)))] := hD
  refine W.widen (k := 10) (n := 652) (by omega) (by omega) ?_
  refine va_putF (D := D) (ci := 17) (v := .ref n16) (ty := (tyX14 9)) (C := RX14) (T := TX14) (N := 27) hx hb hts iRX14 tyX14 tyX14_ok nmX14 hown hK hP hD hS 0 rfl rfl 9 (by decide) (hts _ q268) (fun _ h9 => h9) rfl hin rfl (tyX14_ok 9 (by decide)) rfl rfl (Nat.le_of_ble_eq_true rfl) dX14_init_92 (fun H locs hP hD hS => ?_)
  have hP : va_P D vwCl [(h0, .inr (17, [.ref n1, .ref n4, .ref n7, .ref n10, .ref n11, .ref n12, .ref n13, .ref n14, .ref n15, .ref n16, .null, .null, .null, .null, .null, .null, .null, .null, .null, .null, .null, .int 0, .int 0, .int 0, .int 0, .long 0, .int 0])), (n1, .inr (2, [.int 0, .ref u2, .int 0])), (n4, .inr (2, [.int 0, .ref u5, .int 0])), (n7, .inr (2, [.int 0, .ref u8, .int 0])), (n10, .inl (cy 0, 9, .inl (fun _ => 0))), (n11, .inl (cy 0, 8, .inl (fun _ => 0))), (n12, .inl (cy 0, 8, .inl (fun _ => 0))), (n13, .inl (cy 0, 8, .inl (fun _ => 0))), (n14, .inl (cy 0, 200, .inl (fun _ => 0))), (n15, .inl (cy 0, 401, .inl (fun _ => 0))), (n16, .inl (cy 0, 9, .inl (fun _ => 0)))] H := hP
  have hD : va_D A [(h0, .inr (17, [.ref n1, .ref n4, .ref n7, .ref n10, .ref n11, .ref n12, .ref n13, .ref n14, .ref n15, .ref n16, .null, .null, .null, .null, .null, .null, .null, .null, .null, .null, .null, .int 0, .int 0, .int 0, .int 0, .long 0, .int 0])), (n1, .inr (2, [.int 0, .ref u2, .int 0])), (n4, .inr (2, [.int 0, .ref u5, .int 0])), (n7, .inr (2, [.int 0, .ref u8, .int 0])), (n10, .inl (cy 0, 9, .inl (fun _ => 0))), (n11, .inl (cy 0, 8, .inl (fun _ => 0))), (n12, .inl (cy 0, 8, .inl (fun _ => 0))), (n13, .inl (cy 0, 8, .inl (fun _ => 0))), (n14, .inl (cy 0, 200, .inl (fun _ => 0))), (n15, .inl (cy 0, 401, .inl (fun _ => 0))), (n16, .inl (cy 0, 9, .inl (fun _ => 0)))] := hD
  refine lv_aload_n hx hb dX14_init_95 rfl (lv_at hl 0 rfl) ?_
  refine lv_bipush (v := 9) hx hb dX14_init_96 (by decide) ?_
  refine z_newa (atype := .int) hx hb (hts _ q4) rfl hK hP hD hS hA 0 rfl (a0 := (9, .inl (fun _ => 0))) (fun _ => rfl) (by decide) (by decide) (by decide) (Nat.le_of_ble_eq_true rfl) (Nat.le_of_ble_eq_true rfl) dX14_init_98 (fun n17 H hP hD hS => ?_)
  have hP : va_P D vwCl [(h0, .inr (17, [.ref n1, .ref n4, .ref n7, .ref n10, .ref n11, .ref n12, .ref n13, .ref n14, .ref n15, .ref n16, .null, .null, .null, .null, .null, .null, .null, .null, .null, .null, .null, .int 0, .int 0, .int 0, .int 0, .long 0, .int 0])), (n1, .inr (2, [.int 0, .ref u2, .int 0])), (n4, .inr (2, [.int 0, .ref u5, .int 0])), (n7, .inr (2, [.int 0, .ref u8, .int 0])), (n10, .inl (cy 0, 9, .inl (fun _ => 0))), (n11, .inl (cy 0, 8, .inl (fun _ => 0))), (n12, .inl (cy 0, 8, .inl (fun _ => 0))), (n13, .inl (cy 0, 8, .inl (fun _ => 0))), (n14, .inl (cy 0, 200, .inl (fun _ => 0))), (n15, .inl (cy 0, 401, .inl (fun _ => 0))), (n16, .inl (cy 0, 9, .inl (fun _ => 0))), (n17, .inl (cy 0, 9, .inl (fun _ => 0)))] H := hP
  have hD : va_D A [(h0, .inr (17, [.ref n1, .ref n4, .ref n7, .ref n10, .ref n11, .ref n12, .ref n13, .ref n14, .ref n15, .ref n16, .null, .null, .null, .null, .null, .null, .null, .null, .null, .null, .null, .int 0, .int 0, .int 0, .int 0, .long 0, .int 0])), (n1, .inr (2, [.int 0, .ref u2, .int 0])), (n4, .inr (2, [.int 0, .ref u5, .int 0])), (n7, .inr (2, [.int 0, .ref u8, .int 0])), (n10, .inl (cy 0, 9, .inl (fun _ => 0))), (n11, .inl (cy 0, 8, .inl (fun _ => 0))), (n12, .inl (cy 0, 8, .inl (fun _ => 0))), (n13, .inl (cy 0, 8, .inl (fun _ => 0))), (n14, .inl (cy 0, 200, .inl (fun _ => 0))), (n15, .inl (cy 0, 401, .inl (fun _ => 0))), (n16, .inl (cy 0, 9, .inl (fun _ => 0))), (n17, .inl (cy 0, 9, .inl (fun _ => 0)))] := hD
  refine W.widen (k := 11) (n := 661) (by omega) (by omega) ?_
  refine va_putF (D := D) (ci := 17) (v := .ref n17) (ty := (tyX14 10)) (C := RX14) (T := TX14) (N := 27) hx hb hts iRX14 tyX14 tyX14_ok nmX14 hown hK hP hD hS 0 rfl rfl 10 (by decide) (hts _ q269) (fun _ h9 => h9) rfl hin rfl (tyX14_ok 10 (by decide)) rfl rfl (Nat.le_of_ble_eq_true rfl) dX14_init_100 (fun H locs hP hD hS => ?_)
  have hP : va_P D vwCl [(h0, .inr (17, [.ref n1, .ref n4, .ref n7, .ref n10, .ref n11, .ref n12, .ref n13, .ref n14, .ref n15, .ref n16, .ref n17, .null, .null, .null, .null, .null, .null, .null, .null, .null, .null, .int 0, .int 0, .int 0, .int 0, .long 0, .int 0])), (n1, .inr (2, [.int 0, .ref u2, .int 0])), (n4, .inr (2, [.int 0, .ref u5, .int 0])), (n7, .inr (2, [.int 0, .ref u8, .int 0])), (n10, .inl (cy 0, 9, .inl (fun _ => 0))), (n11, .inl (cy 0, 8, .inl (fun _ => 0))), (n12, .inl (cy 0, 8, .inl (fun _ => 0))), (n13, .inl (cy 0, 8, .inl (fun _ => 0))), (n14, .inl (cy 0, 200, .inl (fun _ => 0))), (n15, .inl (cy 0, 401, .inl (fun _ => 0))), (n16, .inl (cy 0, 9, .inl (fun _ => 0))), (n17, .inl (cy 0, 9, .inl (fun _ => 0)))] H := hP
  have hD : va_D A [(h0, .inr (17, [.ref n1, .ref n4, .ref n7, .ref n10, .ref n11, .ref n12, .ref n13, .ref n14, .ref n15, .ref n16, .ref n17, .null, .null, .null, .null, .null, .null, .null, .null, .null, .null, .int 0, .int 0, .int 0, .int 0, .long 0, .int 0])), (n1, .inr (2, [.int 0, .ref u2, .int 0])), (n4, .inr (2, [.int 0, .ref u5, .int 0])), (n7, .inr (2, [.int 0, .ref u8, .int 0])), (n10, .inl (cy 0, 9, .inl (fun _ => 0))), (n11, .inl (cy 0, 8, .inl (fun _ => 0))), (n12, .inl (cy 0, 8, .inl (fun _ => 0))), (n13, .inl (cy 0, 8, .inl (fun _ => 0))), (n14, .inl (cy 0, 200, .inl (fun _ => 0))), (n15, .inl (cy 0, 401, .inl (fun _ => 0))), (n16, .inl (cy 0, 9, .inl (fun _ => 0))), (n17, .inl (cy 0, 9, .inl (fun _ => 0)))] := hD
  refine lv_aload_n hx hb dX14_init_103 rfl (lv_at hl 0 rfl) ?_
  refine lv_bipush (v := 9) hx hb dX14_init_104 (by decide) ?_
  refine z_newa (atype := .int) hx hb (hts _ q4) rfl hK hP hD hS hA 0 rfl (a0 := (9, .inl (fun _ => 0))) (fun _ => rfl) (by decide) (by decide) (by decide) (Nat.le_of_ble_eq_true rfl) (Nat.le_of_ble_eq_true rfl) dX14_init_106 (fun n18 H hP hD hS => ?_)
  have hP : va_P D vwCl [(h0, .inr (17, [.ref n1, .ref n4, .ref n7, .ref n10, .ref n11, .ref n12, .ref n13, .ref n14, .ref n15, .ref n16, .ref n17, .null, .null, .null, .null, .null, .null, .null, .null, .null, .null, .int 0, .int 0, .int 0, .int 0, .long 0, .int 0])), (n1, .inr (2, [.int 0, .ref u2, .int 0])), (n4, .inr (2, [.int 0, .ref u5, .int 0])), (n7, .inr (2, [.int 0, .ref u8, .int 0])), (n10, .inl (cy 0, 9, .inl (fun _ => 0))), (n11, .inl (cy 0, 8, .inl (fun _ => 0))), (n12, .inl (cy 0, 8, .inl (fun _ => 0))), (n13, .inl (cy 0, 8, .inl (fun _ => 0))), (n14, .inl (cy 0, 200, .inl (fun _ => 0))), (n15, .inl (cy 0, 401, .inl (fun _ => 0))), (n16, .inl (cy 0, 9, .inl (fun _ => 0))), (n17, .inl (cy 0, 9, .inl (fun _ => 0))), (n18, .inl (cy 0, 9, .inl (fun _ => 0)))] H := hP
  have hD : va_D A [(h0, .inr (17, [.ref n1, .ref n4, .ref n7, .ref n10, .ref n11, .ref n12, .ref n13, .ref n14, .ref n15, .ref n16, .ref n17, .null, .null, .null, .null, .null, .null, .null, .null, .null, .null, .int 0, .int 0, .int 0, .int 0, .long 0, .int 0])), (n1, .inr (2, [.int 0, .ref u2, .int 0])), (n4, .inr (2, [.int 0, .ref u5, .int 0])), (n7, .inr (2, [.int 0, .ref u8, .int 0])), (n10, .inl (cy 0, 9, .inl (fun _ => 0))), (n11, .inl (cy 0, 8, .inl (fun _ => 0))), (n12, .inl (cy 0, 8, .inl (fun _ => 0))), (n13, .inl (cy 0, 8, .inl (fun _ => 0))), (n14, .inl (cy 0, 200, .inl (fun _ => 0))), (n15, .inl (cy 0, 401, .inl (fun _ => 0))), (n16, .inl (cy 0, 9, .inl (fun _ => 0))), (n17, .inl (cy 0, 9, .inl (fun _ => 0))), (n18, .inl (cy 0, 9, .inl (fun _ => 0)))] := hD
  refine W.widen (k := 12) (n := 670) (by omega) (by omega) ?_
  refine va_putF (D := D) (ci := 17) (v := .ref n18) (ty := (tyX14 11)) (C := RX14) (T := TX14) (N := 27) hx hb hts iRX14 tyX14 tyX14_ok nmX14 hown hK hP hD hS 0 rfl rfl 11 (by decide) (hts _ q270) (fun _ h9 => h9) rfl hin rfl (tyX14_ok 11 (by decide)) rfl rfl (Nat.le_of_ble_eq_true rfl) dX14_init_108 (fun H locs hP hD hS => ?_)
  have hP : va_P D vwCl [(h0, .inr (17, [.ref n1, .ref n4, .ref n7, .ref n10, .ref n11, .ref n12, .ref n13, .ref n14, .ref n15, .ref n16, .ref n17, .ref n18, .null, .null, .null, .null, .null, .null, .null, .null, .null, .int 0, .int 0, .int 0, .int 0, .long 0, .int 0])), (n1, .inr (2, [.int 0, .ref u2, .int 0])), (n4, .inr (2, [.int 0, .ref u5, .int 0])), (n7, .inr (2, [.int 0, .ref u8, .int 0])), (n10, .inl (cy 0, 9, .inl (fun _ => 0))), (n11, .inl (cy 0, 8, .inl (fun _ => 0))), (n12, .inl (cy 0, 8, .inl (fun _ => 0))), (n13, .inl (cy 0, 8, .inl (fun _ => 0))), (n14, .inl (cy 0, 200, .inl (fun _ => 0))), (n15, .inl (cy 0, 401, .inl (fun _ => 0))), (n16, .inl (cy 0, 9, .inl (fun _ => 0))), (n17, .inl (cy 0, 9, .inl (fun _ => 0))), (n18, .inl (cy 0, 9, .inl (fun _ => 0)))] H := hP
  have hD : va_D A [(h0, .inr (17, [.ref n1, .ref n4, .ref n7, .ref n10, .ref n11, .ref n12, .ref n13, .ref n14, .ref n15, .ref n16, .ref n17, .ref n18, .null, .null, .null, .null, .null, .null, .null, .null, .null, .int 0, .int 0, .int 0, .int 0, .long 0, .int 0])), (n1, .inr (2, [.int 0, .ref u2, .int 0])), (n4, .inr (2, [.int 0, .ref u5, .int 0])), (n7, .inr (2, [.int 0, .ref u8, .int 0])), (n10, .inl (cy 0, 9, .inl (fun _ => 0))), (n11, .inl (cy 0, 8, .inl (fun _ => 0))), (n12, .inl (cy 0, 8, .inl (fun _ => 0))), (n13, .inl (cy 0, 8, .inl (fun _ => 0))), (n14, .inl (cy 0, 200, .inl (fun _ => 0))), (n15, .inl (cy 0, 401, .inl (fun _ => 0))), (n16, .inl (cy 0, 9, .inl (fun _ => 0))), (n17, .inl (cy 0, 9, .inl (fun _ => 0))), (n18, .inl (cy 0, 9, .inl (fun _ => 0)))] := hD
  refine lv_aload_n hx hb dX14_init_111 rfl (lv_at hl 0 rfl) ?_
  refine lv_bipush (v := 9) hx hb dX14_init_112 (by decide) ?_
  refine z_newa (atype := .boolean) hx hb (hts _ q37) rfl hK hP hD hS hA 2 rfl (a0 := (9, .inl (fun _ => 0))) (fun _ => rfl) (by decide) (by decide) (by decide) (Nat.le_of_ble_eq_true rfl) (Nat.le_of_ble_eq_true rfl) dX14_init_114 (fun n19 H hP hD hS => ?_)
  have hP : va_P D vwCl [(h0, .inr (17, [.ref n1, .ref n4, .ref n7, .ref n10, .ref n11, .ref n12, .ref n13, .ref n14, .ref n15, .ref n16, .ref n17, .ref n18, .null, .null, .null, .null, .null, .null, .null, .null, .null, .int 0, .int 0, .int 0, .int 0, .long 0, .int 0])), (n1, .inr (2, [.int 0, .ref u2, .int 0])), (n4, .inr (2, [.int 0, .ref u5, .int 0])), (n7, .inr (2, [.int 0, .ref u8, .int 0])), (n10, .inl (cy 0, 9, .inl (fun _ => 0))), (n11, .inl (cy 0, 8, .inl (fun _ => 0))), (n12, .inl (cy 0, 8, .inl (fun _ => 0))), (n13, .inl (cy 0, 8, .inl (fun _ => 0))), (n14, .inl (cy 0, 200, .inl (fun _ => 0))), (n15, .inl (cy 0, 401, .inl (fun _ => 0))), (n16, .inl (cy 0, 9, .inl (fun _ => 0))), (n17, .inl (cy 0, 9, .inl (fun _ => 0))), (n18, .inl (cy 0, 9, .inl (fun _ => 0))), (n19, .inl (cy 2, 9, .inl (fun _ => 0)))] H := hP
  have hD : va_D A [(h0, .inr (17, [.ref n1, .ref n4, .ref n7, .ref n10, .ref n11, .ref n12, .ref n13, .ref n14, .ref n15, .ref n16, .ref n17, .ref n18, .null, .null, .null, .null, .null, .null, .null, .null, .null, .int 0, .int 0, .int 0, .int 0, .long 0, .int 0])), (n1, .inr (2, [.int 0, .ref u2, .int 0])), (n4, .inr (2, [.int 0, .ref u5, .int 0])), (n7, .inr (2, [.int 0, .ref u8, .int 0])), (n10, .inl (cy 0, 9, .inl (fun _ => 0))), (n11, .inl (cy 0, 8, .inl (fun _ => 0))), (n12, .inl (cy 0, 8, .inl (fun _ => 0))), (n13, .inl (cy 0, 8, .inl (fun _ => 0))), (n14, .inl (cy 0, 200, .inl (fun _ => 0))), (n15, .inl (cy 0, 401, .inl (fun _ => 0))), (n16, .inl (cy 0, 9, .inl (fun _ => 0))), (n17, .inl (cy 0, 9, .inl (fun _ => 0))), (n18, .inl (cy 0, 9, .inl (fun _ => 0))), (n19, .inl (cy 2, 9, .inl (fun _ => 0)))] := hD
  refine W.widen (k := 13) (n := 679) (by omega) (by omega) ?_
  refine va_putF (D := D) (ci := 17) (v := .ref n19) (ty := (tyX14 12)) (C := RX14) (T := TX14) (N := 27) hx hb hts iRX14 tyX14 tyX14_ok nmX14 hown hK hP hD hS 0 rfl rfl 12 (by decide) (hts _ q271) (fun _ h9 => h9) rfl hin rfl (tyX14_ok 12 (by decide)) rfl rfl (Nat.le_of_ble_eq_true rfl) dX14_init_116 (fun H locs hP hD hS => ?_)
  have hP : va_P D vwCl [(h0, .inr (17, [.ref n1, .ref n4, .ref n7, .ref n10, .ref n11, .ref n12, .ref n13, .ref n14, .ref n15, .ref n16, .ref n17, .ref n18, .ref n19, .null, .null, .null, .null, .null, .null, .null, .null, .int 0, .int 0, .int 0, .int 0, .long 0, .int 0])), (n1, .inr (2, [.int 0, .ref u2, .int 0])), (n4, .inr (2, [.int 0, .ref u5, .int 0])), (n7, .inr (2, [.int 0, .ref u8, .int 0])), (n10, .inl (cy 0, 9, .inl (fun _ => 0))), (n11, .inl (cy 0, 8, .inl (fun _ => 0))), (n12, .inl (cy 0, 8, .inl (fun _ => 0))), (n13, .inl (cy 0, 8, .inl (fun _ => 0))), (n14, .inl (cy 0, 200, .inl (fun _ => 0))), (n15, .inl (cy 0, 401, .inl (fun _ => 0))), (n16, .inl (cy 0, 9, .inl (fun _ => 0))), (n17, .inl (cy 0, 9, .inl (fun _ => 0))), (n18, .inl (cy 0, 9, .inl (fun _ => 0))), (n19, .inl (cy 2, 9, .inl (fun _ => 0)))] H := hP
  have hD : va_D A [(h0, .inr (17, [.ref n1, .ref n4, .ref n7, .ref n10, .ref n11, .ref n12, .ref n13, .ref n14, .ref n15, .ref n16, .ref n17, .ref n18, .ref n19, .null, .null, .null, .null, .null, .null, .null, .null, .int 0, .int 0, .int 0, .int 0, .long 0, .int 0])), (n1, .inr (2, [.int 0, .ref u2, .int 0])), (n4, .inr (2, [.int 0, .ref u5, .int 0])), (n7, .inr (2, [.int 0, .ref u8, .int 0])), (n10, .inl (cy 0, 9, .inl (fun _ => 0))), (n11, .inl (cy 0, 8, .inl (fun _ => 0))), (n12, .inl (cy 0, 8, .inl (fun _ => 0))), (n13, .inl (cy 0, 8, .inl (fun _ => 0))), (n14, .inl (cy 0, 200, .inl (fun _ => 0))), (n15, .inl (cy 0, 401, .inl (fun _ => 0))), (n16, .inl (cy 0, 9, .inl (fun _ => 0))), (n17, .inl (cy 0, 9, .inl (fun _ => 0))), (n18, .inl (cy 0, 9, .inl (fun _ => 0))), (n19, .inl (cy 2, 9, .inl (fun _ => 0)))] := hD
  refine lv_aload_n hx hb dX14_init_119 rfl (lv_at hl 0 rfl) ?_
  refine lv_bipush (v := 24) hx hb dX14_init_120 (by decide) ?_
  refine z_newa (atype := .boolean) hx hb (hts _ q37) rfl hK hP hD hS hA 2 rfl (a0 := (24, .inl (fun _ => 0))) (fun _ => rfl) (by decide) (by decide) (by decide) (Nat.le_of_ble_eq_true rfl) (Nat.le_of_ble_eq_true rfl) dX14_init_122 (fun n20 H hP hD hS => ?_)
  have hP : va_P D vwCl [(h0, .inr (17, [.ref n1, .ref n4, .ref n7, .ref n10, .ref n11, .ref n12, .ref n13, .ref n14, .ref n15, .ref n16, .ref n17, .ref n18, .ref n19, .null, .null, .null, .null, .null, .null, .null, .null, .int 0, .int 0, .int 0, .int 0, .long 0, .int 0])), (n1, .inr (2, [.int 0, .ref u2, .int 0])), (n4, .inr (2, [.int 0, .ref u5, .int 0])), (n7, .inr (2, [.int 0, .ref u8, .int 0])), (n10, .inl (cy 0, 9, .inl (fun _ => 0))), (n11, .inl (cy 0, 8, .inl (fun _ => 0))), (n12, .inl (cy 0, 8, .inl (fun _ => 0))), (n13, .inl (cy 0, 8, .inl (fun _ => 0))), (n14, .inl (cy 0, 200, .inl (fun _ => 0))), (n15, .inl (cy 0, 401, .inl (fun _ => 0))), (n16, .inl (cy 0, 9, .inl (fun _ => 0))), (n17, .inl (cy 0, 9, .inl (fun _ => 0))), (n18, .inl (cy 0, 9, .inl (fun _ => 0))), (n19, .inl (cy 2, 9, .inl (fun _ => 0))), (n20, .inl (cy 2, 24, .inl (fun _ => 0)))] H := hP
  have hD : va_D A [(h0, .inr (17, [.ref n1, .ref n4, .ref n7, .ref n10, .ref n11, .ref n12, .ref n13, .ref n14, .ref n15, .ref n16, .ref n17, .ref n18, .ref n19, .null, .null, .null, .null, .null, .null, .null, .null, .int 0, .int 0, .int 0, .int 0, .long 0, .int 0])), (n1, .inr (2, [.int 0, .ref u2, .int 0])), (n4, .inr (2, [.int 0, .ref u5, .int 0])), (n7, .inr (2, [.int 0, .ref u8, .int 0])), (n10, .inl (cy 0, 9, .inl (fun _ => 0))), (n11, .inl (cy 0, 8, .inl (fun _ => 0))), (n12, .inl (cy 0, 8, .inl (fun _ => 0))), (n13, .inl (cy 0, 8, .inl (fun _ => 0))), (n14, .inl (cy 0, 200, .inl (fun _ => 0))), (n15, .inl (cy 0, 401, .inl (fun _ => 0))), (n16, .inl (cy 0, 9, .inl (fun _ => 0))), (n17, .inl (cy 0, 9, .inl (fun _ => 0))), (n18, .inl (cy 0, 9, .inl (fun _ => 0))), (n19, .inl (cy 2, 9, .inl (fun _ => 0))), (n20, .inl (cy 2, 24, .inl (fun _ => 0)))] := hD
  refine W.widen (k := 14) (n := 703) (by omega) (by omega) ?_
  refine va_putF (D := D) (ci := 17) (v := .ref n20) (ty := (tyX14 13)) (C := RX14) (T := TX14) (N := 27) hx hb hts iRX14 tyX14 tyX14_ok nmX14 hown hK hP hD hS 0 rfl rfl 13 (by decide) (hts _ q272) (fun _ h9 => h9) rfl hin rfl (tyX14_ok 13 (by decide)) rfl rfl (Nat.le_of_ble_eq_true rfl) dX14_init_124 (fun H locs hP hD hS => ?_)
  have hP : va_P D vwCl [(h0, .inr (17, [.ref n1, .ref n4, .ref n7, .ref n10, .ref n11, .ref n12, .ref n13, .ref n14, .ref n15, .ref n16, .ref n17, .ref n18, .ref n19, .ref n20, .null, .null, .null, .null, .null, .null, .null, .int 0, .int 0, .int 0, .int 0, .long 0, .int 0])), (n1, .inr (2, [.int 0, .ref u2, .int 0])), (n4, .inr (2, [.int 0, .ref u5, .int 0])), (n7, .inr (2, [.int 0, .ref u8, .int 0])), (n10, .inl (cy 0, 9, .inl (fun _ => 0))), (n11, .inl (cy 0, 8, .inl (fun _ => 0))), (n12, .inl (cy 0, 8, .inl (fun _ => 0))), (n13, .inl (cy 0, 8, .inl (fun _ => 0))), (n14, .inl (cy 0, 200, .inl (fun _ => 0))), (n15, .inl (cy 0, 401, .inl (fun _ => 0))), (n16, .inl (cy 0, 9, .inl (fun _ => 0))), (n17, .inl (cy 0, 9, .inl (fun _ => 0))), (n18, .inl (cy 0, 9, .inl (fun _ => 0))), (n19, .inl (cy 2, 9, .inl (fun _ => 0))), (n20, .inl (cy 2, 24, .inl (fun _ => 0)))] H := hP
  have hD : va_D A [(h0, .inr (17, [.ref n1, .ref n4, .ref n7, .ref n10, .ref n11, .ref n12, .ref n13, .ref n14, .ref n15, .ref n16, .ref n17, .ref n18, .ref n19, .ref n20, .null, .null, .null, .null, .null, .null, .null, .int 0, .int 0, .int 0, .int 0, .long 0, .int 0])), (n1, .inr (2, [.int 0, .ref u2, .int 0])), (n4, .inr (2, [.int 0, .ref u5, .int 0])), (n7, .inr (2, [.int 0, .ref u8, .int 0])), (n10, .inl (cy 0, 9, .inl (fun _ => 0))), (n11, .inl (cy 0, 8, .inl (fun _ => 0))), (n12, .inl (cy 0, 8, .inl (fun _ => 0))), (n13, .inl (cy 0, 8, .inl (fun _ => 0))), (n14, .inl (cy 0, 200, .inl (fun _ => 0))), (n15, .inl (cy 0, 401, .inl (fun _ => 0))), (n16, .inl (cy 0, 9, .inl (fun _ => 0))), (n17, .inl (cy 0, 9, .inl (fun _ => 0))), (n18, .inl (cy 0, 9, .inl (fun _ => 0))), (n19, .inl (cy 2, 9, .inl (fun _ => 0))), (n20, .inl (cy 2, 24, .inl (fun _ => 0)))] := hD
  refine lv_aload_n hx hb dX14_init_127 rfl (lv_at hl 0 rfl) ?_
  refine lv_sipush (v := 256) hx hb dX14_init_128 (by decide) ?_
  refine z_newa (atype := .long) hx hb (hts _ q41) rfl hK hP hD hS hA 1 rfl (a0 := (256, .inr (.inl (fun _ => 0)))) (fun _ => rfl) (by decide) (by decide) (by decide) (Nat.le_of_ble_eq_true rfl) (Nat.le_of_ble_eq_true rfl) dX14_init_131 (fun n21 H hP hD hS => ?_)
  have hP : va_P D vwCl [(h0, .inr (17, [.ref n1, .ref n4, .ref n7, .ref n10, .ref n11, .ref n12, .ref n13, .ref n14, .ref n15, .ref n16, .ref n17, .ref n18, .ref n19, .ref n20, .null, .null, .null, .null, .null, .null, .null, .int 0, .int 0, .int 0, .int 0, .long 0, .int 0])), (n1, .inr (2, [.int 0, .ref u2, .int 0])), (n4, .inr (2, [.int 0, .ref u5, .int 0])), (n7, .inr (2, [.int 0, .ref u8, .int 0])), (n10, .inl (cy 0, 9, .inl (fun _ => 0))), (n11, .inl (cy 0, 8, .inl (fun _ => 0))), (n12, .inl (cy 0, 8, .inl (fun _ => 0))), (n13, .inl (cy 0, 8, .inl (fun _ => 0))), (n14, .inl (cy 0, 200, .inl (fun _ => 0))), (n15, .inl (cy 0, 401, .inl (fun _ => 0))), (n16, .inl (cy 0, 9, .inl (fun _ => 0))), (n17, .inl (cy 0, 9, .inl (fun _ => 0))), (n18, .inl (cy 0, 9, .inl (fun _ => 0))), (n19, .inl (cy 2, 9, .inl (fun _ => 0))), (n20, .inl (cy 2, 24, .inl (fun _ => 0))), (n21, .inl (cy 1, 256, .inr (.inl (fun _ => 0))))] H := hP
  have hD : va_D A [(h0, .inr (17, [.ref n1, .ref n4, .ref n7, .ref n10, .ref n11, .ref n12, .ref n13, .ref n14, .ref n15, .ref n16, .ref n17, .ref n18, .ref n19, .ref n20, .null, .null, .null, .null, .null, .null, .null, .int 0, .int 0, .int 0, .int 0, .long 0, .int 0])), (n1, .inr (2, [.int 0, .ref u2, .int 0])), (n4, .inr (2, [.int 0, .ref u5, .int 0])), (n7, .inr (2, [.int 0, .ref u8, .int 0])), (n10, .inl (cy 0, 9, .inl (fun _ => 0))), (n11, .inl (cy 0, 8, .inl (fun _ => 0))), (n12, .inl (cy 0, 8, .inl (fun _ => 0))), (n13, .inl (cy 0, 8, .inl (fun _ => 0))), (n14, .inl (cy 0, 200, .inl (fun _ => 0))), (n15, .inl (cy 0, 401, .inl (fun _ => 0))), (n16, .inl (cy 0, 9, .inl (fun _ => 0))), (n17, .inl (cy 0, 9, .inl (fun _ => 0))), (n18, .inl (cy 0, 9, .inl (fun _ => 0))), (n19, .inl (cy 2, 9, .inl (fun _ => 0))), (n20, .inl (cy 2, 24, .inl (fun _ => 0))), (n21, .inl (cy 1, 256, .inr (.inl (fun _ => 0))))] := hD
  refine W.widen (k := 15) (n := 959) (by omega) (by omega) ?_
  refine va_putF (D := D) (ci := 17) (v := .ref n21) (ty := (tyX14 14)) (C := RX14) (T := TX14) (N := 27) hx hb hts iRX14 tyX14 tyX14_ok nmX14 hown hK hP hD hS 0 rfl rfl 14 (by decide) (hts _ q273) (fun _ h9 => h9) rfl hin rfl (tyX14_ok 14 (by decide)) rfl rfl (Nat.le_of_ble_eq_true rfl) dX14_init_133 (fun H locs hP hD hS => ?_)
  have hP : va_P D vwCl [(h0, .inr (17, [.ref n1, .ref n4, .ref n7, .ref n10, .ref n11, .ref n12, .ref n13, .ref n14, .ref n15, .ref n16, .ref n17, .ref n18, .ref n19, .ref n20, .ref n21, .null, .null, .null, .null, .null, .null, .int 0, .int 0, .int 0, .int 0, .long 0, .int 0])), (n1, .inr (2, [.int 0, .ref u2, .int 0])), (n4, .inr (2, [.int 0, .ref u5, .int 0])), (n7, .inr (2, [.int 0, .ref u8, .int 0])), (n10, .inl (cy 0, 9, .inl (fun _ => 0))), (n11, .inl (cy 0, 8, .inl (fun _ => 0))), (n12, .inl (cy 0, 8, .inl (fun _ => 0))), (n13, .inl (cy 0, 8, .inl (fun _ => 0))), (n14, .inl (cy 0, 200, .inl (fun _ => 0))), (n15, .inl (cy 0, 401, .inl (fun _ => 0))), (n16, .inl (cy 0, 9, .inl (fun _ => 0))), (n17, .inl (cy 0, 9, .inl (fun _ => 0))), (n18, .inl (cy 0, 9, .inl (fun _ => 0))), (n19, .inl (cy 2, 9, .inl (fun _ => 0))), (n20, .inl (cy 2, 24, .inl (fun _ => 0))), (n21, .inl (cy 1, 256, .inr (.inl (fun _ => 0))))] H := hP
  have hD : va_D A [(h0, .inr (17, [.ref n1, .ref n4, .ref n7, .ref n10, .ref n11, .ref n12, .ref n13, .ref n14, .ref n15, .ref n16, .ref n17, .ref n18, .ref n19, .ref n20, .ref n21, .null, .null, .null, .null, .null, .null, .int 0, .int 0, .int 0, .int 0, .long 0, .int 0])), (n1, .inr (2, [.int 0, .ref u2, .int 0])), (n4, .inr (2, [.int 0, .ref u5, .int 0])), (n7, .inr (2, [.int 0, .ref u8, .int 0])), (n10, .inl (cy 0, 9, .inl (fun _ => 0))), (n11, .inl (cy 0, 8, .inl (fun _ => 0))), (n12, .inl (cy 0, 8, .inl (fun _ => 0))), (n13, .inl (cy 0, 8, .inl (fun _ => 0))), (n14, .inl (cy 0, 200, .inl (fun _ => 0))), (n15, .inl (cy 0, 401, .inl (fun _ => 0))), (n16, .inl (cy 0, 9, .inl (fun _ => 0))), (n17, .inl (cy 0, 9, .inl (fun _ => 0))), (n18, .inl (cy 0, 9, .inl (fun _ => 0))), (n19, .inl (cy 2, 9, .inl (fun _ => 0))), (n20, .inl (cy 2, 24, .inl (fun _ => 0))), (n21, .inl (cy 1, 256, .inr (.inl (fun _ => 0))))] := hD
  refine lv_aload_n hx hb dX14_init_136 rfl (lv_at hl 0 rfl) ?_
  refine lv_bipush (v := 27) hx hb dX14_init_137 (by decide) ?_
  refine z_newa (atype := .long) hx hb (hts _ q41) rfl hK hP hD hS hA 1 rfl (a0 := (27, .inr (.inl (fun _ => 0)))) (fun _ => rfl) (by decide) (by decide) (by decide) (Nat.le_of_ble_eq_true rfl) (Nat.le_of_ble_eq_true rfl) dX14_init_139 (fun n22 H hP hD hS => ?_)
  have hP : va_P D vwCl [(h0, .inr (17, [.ref n1, .ref n4, .ref n7, .ref n10, .ref n11, .ref n12, .ref n13, .ref n14, .ref n15, .ref n16, .ref n17, .ref n18, .ref n19, .ref n20, .ref n21, .null, .null, .null, .null, .null, .null, .int 0, .int 0, .int 0, .int 0, .long 0, .int 0])), (n1, .inr (2, [.int 0, .ref u2, .int 0])), (n4, .inr (2, [.int 0, .ref u5, .int 0])), (n7, .inr (2, [.int 0, .ref u8, .int 0])), (n10, .inl (cy 0, 9, .inl (fun _ => 0))), (n11, .inl (cy 0, 8, .inl (fun _ => 0))), (n12, .inl (cy 0, 8, .inl (fun _ => 0))), (n13, .inl (cy 0, 8, .inl (fun _ => 0))), (n14, .inl (cy 0, 200, .inl (fun _ => 0))), (n15, .inl (cy 0, 401, .inl (fun _ => 0))), (n16, .inl (cy 0, 9, .inl (fun _ => 0))), (n17, .inl (cy 0, 9, .inl (fun _ => 0))), (n18, .inl (cy 0, 9, .inl (fun _ => 0))), (n19, .inl (cy 2, 9, .inl (fun _ => 0))), (n20, .inl (cy 2, 24, .inl (fun _ => 0))), (n21, .inl (cy 1, 256, .inr (.inl (fun _ => 0)))), (n22, .inl (cy 1, 27, .inr (.inl (fun _ => 0))))] H := hP
  have hD : va_D A [(h0, .inr (17, [.ref n1, .ref n4, .ref n7, .ref n10, .ref n11, .ref n12, .ref n13, .ref n14, .ref n15, .ref n16, .ref n17, .ref n18, .ref n19, .ref n20, .ref n21, .null, .null, .null, .null, .null, .null, .int 0, .int 0, .int 0, .int 0, .long 0, .int 0])), (n1, .inr (2, [.int 0, .ref u2, .int 0])), (n4, .inr (2, [.int 0, .ref u5, .int 0])), (n7, .inr (2, [.int 0, .ref u8, .int 0])), (n10, .inl (cy 0, 9, .inl (fun _ => 0))), (n11, .inl (cy 0, 8, .inl (fun _ => 0))), (n12, .inl (cy 0, 8, .inl (fun _ => 0))), (n13, .inl (cy 0, 8, .inl (fun _ => 0))), (n14, .inl (cy 0, 200, .inl (fun _ => 0))), (n15, .inl (cy 0, 401, .inl (fun _ => 0))), (n16, .inl (cy 0, 9, .inl (fun _ => 0))), (n17, .inl (cy 0, 9, .inl (fun _ => 0))), (n18, .inl (cy 0, 9, .inl (fun _ => 0))), (n19, .inl (cy 2, 9, .inl (fun _ => 0))), (n20, .inl (cy 2, 24, .inl (fun _ => 0))), (n21, .inl (cy 1, 256, .inr (.inl (fun _ => 0)))), (n22, .inl (cy 1, 27, .inr (.inl (fun _ => 0))))] := hD
  refine W.widen (k := 16) (n := 986) (by omega) (by omega) ?_
  refine va_putF (D := D) (ci := 17) (v := .ref n22) (ty := (tyX14 15)) (C := RX14) (T := TX14) (N := 27) hx hb hts iRX14 tyX14 tyX14_ok nmX14 hown hK hP hD hS 0 rfl rfl 15 (by decide) (hts _ q274) (fun _ h9 => h9) rfl hin rfl (tyX14_ok 15 (by decide)) rfl rfl (Nat.le_of_ble_eq_true rfl) dX14_init_141 (fun H locs hP hD hS => ?_)
  have hP : va_P D vwCl [(h0, .inr (17, [.ref n1, .ref n4, .ref n7, .ref n10, .ref n11, .ref n12, .ref n13, .ref n14, .ref n15, .ref n16, .ref n17, .ref n18, .ref n19, .ref n20, .ref n21, .ref n22, .null, .null, .null, .null, .null, .int 0, .int 0, .int 0, .int 0, .long 0, .int 0])), (n1, .inr (2, [.int 0, .ref u2, .int 0])), (n4, .inr (2, [.int 0, .ref u5, .int 0])), (n7, .inr (2, [.int 0, .ref u8, .int 0])), (n10, .inl (cy 0, 9, .inl (fun _ => 0))), (n11, .inl (cy 0, 8, .inl (fun _ => 0))), (n12, .inl (cy 0, 8, .inl (fun _ => 0))), (n13, .inl (cy 0, 8, .inl (fun _ => 0))), (n14, .inl (cy 0, 200, .inl (fun _ => 0))), (n15, .inl (cy 0, 401, .inl (fun _ => 0))), (n16, .inl (cy 0, 9, .inl (fun _ => 0))), (n17, .inl (cy 0, 9, .inl (fun _ => 0))), (n18, .inl (cy 0, 9, .inl (fun _ => 0))), (n19, .inl (cy 2, 9, .inl (fun _ => 0))), (n20, .inl (cy 2, 24, .inl (fun _ => 0))), (n21, .inl (cy 1, 256, .inr (.inl (fun _ => 0)))), (n22, .inl (cy 1, 27, .inr (.inl (fun _ => 0))))] H := hP
  have hD : va_D A [(h0, .inr (17, [.ref n1, .ref n4, .ref n7, .ref n10, .ref n11, .ref n12, .ref n13, .ref n14, .ref n15, .ref n16, .ref n17, .ref n18, .ref n19, .ref n20, .ref n21, .ref n22, .null, .null, .null, .null, .null, .int 0, .int 0, .int 0, .int 0, .long 0, .int 0])), (n1, .inr (2, [.int 0, .ref u2, .int 0])), (n4, .inr (2, [.int 0, .ref u5, .int 0])), (n7, .inr (2, [.int 0, .ref u8, .int 0])), (n10, .inl (cy 0, 9, .inl (fun _ => 0))), (n11, .inl (cy 0, 8, .inl (fun _ => 0))), (n12, .inl (cy 0, 8, .inl (fun _ => 0))), (n13, .inl (cy 0, 8, .inl (fun _ => 0))), (n14, .inl (cy 0, 200, .inl (fun _ => 0))), (n15, .inl (cy 0, 401, .inl (fun _ => 0))), (n16, .inl (cy 0, 9, .inl (fun _ => 0))), (n17, .inl (cy 0, 9, .inl (fun _ => 0))), (n18, .inl (cy 0, 9, .inl (fun _ => 0))), (n19, .inl (cy 2, 9, .inl (fun _ => 0))), (n20, .inl (cy 2, 24, .inl (fun _ => 0))), (n21, .inl (cy 1, 256, .inr (.inl (fun _ => 0)))), (n22, .inl (cy 1, 27, .inr (.inl (fun _ => 0))))] := hD
  refine lv_aload_n hx hb dX14_init_144 rfl (lv_at hl 0 rfl) ?_
  refine lv_bipush (v := 64) hx hb dX14_init_145 (by decide) ?_
  refine z_newa (atype := .long) hx hb (hts _ q41) rfl hK hP hD hS hA 1 rfl (a0 := (64, .inr (.inl (fun _ => 0)))) (fun _ => rfl) (by decide) (by decide) (by decide) (Nat.le_of_ble_eq_true rfl) (Nat.le_of_ble_eq_true rfl) dX14_init_147 (fun n23 H hP hD hS => ?_)
  have hP : va_P D vwCl [(h0, .inr (17, [.ref n1, .ref n4, .ref n7, .ref n10, .ref n11, .ref n12, .ref n13, .ref n14, .ref n15, .ref n16, .ref n17, .ref n18, .ref n19, .ref n20, .ref n21, .ref n22, .null, .null, .null, .null, .null, .int 0, .int 0, .int 0, .int 0, .long 0, .int 0])), (n1, .inr (2, [.int 0, .ref u2, .int 0])), (n4, .inr (2, [.int 0, .ref u5, .int 0])), (n7, .inr (2, [.int 0, .ref u8, .int 0])), (n10, .inl (cy 0, 9, .inl (fun _ => 0))), (n11, .inl (cy 0, 8, .inl (fun _ => 0))), (n12, .inl (cy 0, 8, .inl (fun _ => 0))), (n13, .inl (cy 0, 8, .inl (fun _ => 0))), (n14, .inl (cy 0, 200, .inl (fun _ => 0))), (n15, .inl (cy 0, 401, .inl (fun _ => 0))), (n16, .inl (cy 0, 9, .inl (fun _ => 0))), (n17, .inl (cy 0, 9, .inl (fun _ => 0))), (n18, .inl (cy 0, 9, .inl (fun _ => 0))), (n19, .inl (cy 2, 9, .inl (fun _ => 0))), (n20, .inl (cy 2, 24, .inl (fun _ => 0))), (n21, .inl (cy 1, 256, .inr (.inl (fun _ => 0)))), (n22, .inl (cy 1, 27, .inr (.inl (fun _ => 0)))), (n23, .inl (cy 1, 64, .inr (.inl (fun _ => 0))))] H := hP
  have hD : va_D A [(h0, .inr (17, [.ref n1, .ref n4, .ref n7, .ref n10, .ref n11, .ref n12, .ref n13, .ref n14, .ref n15, .ref n16, .ref n17, .ref n18, .ref n19, .ref n20, .ref n21, .ref n22, .null, .null, .null, .null, .null, .int 0, .int 0, .int 0, .int 0, .long 0, .int 0])), (n1, .inr (2, [.int 0, .ref u2, .int 0])), (n4, .inr (2, [.int 0, .ref u5, .int 0])), (n7, .inr (2, [.int 0, .ref u8, .int 0])), (n10, .inl (cy 0, 9, .inl (fun _ => 0))), (n11, .inl (cy 0, 8, .inl (fun _ => 0))), (n12, .inl (cy 0, 8, .inl (fun _ => 0))), (n13, .inl (cy 0, 8, .inl (fun _ => 0))), (n14, .inl (cy 0, 200, .inl (fun _ => 0))), (n15, .inl (cy 0, 401, .inl (fun _ => 0))), (n16, .inl (cy 0, 9, .inl (fun _ => 0))), (n17, .inl (cy 0, 9, .inl (fun _ => 0))), (n18, .inl (cy 0, 9, .inl (fun _ => 0))), (n19, .inl (cy 2, 9, .inl (fun _ => 0))), (n20, .inl (cy 2, 24, .inl (fun _ => 0))), (n21, .inl (cy 1, 256, .inr (.inl (fun _ => 0)))), (n22, .inl (cy 1, 27, .inr (.inl (fun _ => 0)))), (n23, .inl (cy 1, 64, .inr (.inl (fun _ => 0))))] := hD
  refine W.widen (k := 17) (n := 1050) (by omega) (by omega) ?_
  refine va_putF (D := D) (ci := 17) (v := .ref n23) (ty := (tyX14 16)) (C := RX14) (T := TX14) (N := 27) hx hb hts iRX14 tyX14 tyX14_ok nmX14 hown hK hP hD hS 0 rfl rfl 16 (by decide) (hts _ q275) (fun _ h9 => h9) rfl hin rfl (tyX14_ok 16 (by decide)) rfl rfl (Nat.le_of_ble_eq_true rfl) dX14_init_149 (fun H locs hP hD hS => ?_)
  have hP : va_P D vwCl [(h0, .inr (17, [.ref n1, .ref n4, .ref n7, .ref n10, .ref n11, .ref n12, .ref n13, .ref n14, .ref n15, .ref n16, .ref n17, .ref n18, .ref n19, .ref n20, .ref n21, .ref n22, .ref n23, .null, .null, .null, .null, .int 0, .int 0, .int 0, .int 0, .long 0, .int 0])), (n1, .inr (2, [.int 0, .ref u2, .int 0])), (n4, .inr (2, [.int 0, .ref u5, .int 0])), (n7, .inr (2, [.int 0, .ref u8, .int 0])), (n10, .inl (cy 0, 9, .inl (fun _ => 0))), (n11, .inl (cy 0, 8, .inl (fun _ => 0))), (n12, .inl (cy 0, 8, .inl (fun _ => 0))), (n13, .inl (cy 0, 8, .inl (fun _ => 0))), (n14, .inl (cy 0, 200, .inl (fun _ => 0))), (n15, .inl (cy 0, 401, .inl (fun _ => 0))), (n16, .inl (cy 0, 9, .inl (fun _ => 0))), (n17, .inl (cy 0, 9, .inl (fun _ => 0))), (n18, .inl (cy 0, 9, .inl (fun _ => 0))), (n19, .inl (cy 2, 9, .inl (fun _ => 0))), (n20, .inl (cy 2, 24, .inl (fun _ => 0))), (n21, .inl (cy 1, 256, .inr (.inl (fun _ => 0)))), (n22, .inl (cy 1, 27, .inr (.inl (fun _ => 0)))), (n23, .inl (cy 1, 64, .inr (.inl (fun _ => 0))))] H := hP
  have hD : va_D A [(h0, .inr (17, [.ref n1, .ref n4, .ref n7, .ref n10, .ref n11, .ref n12, .ref n13, .ref n14, .ref n15, .ref n16, .ref n17, .ref n18, .ref n19, .ref n20, .ref n21, .ref n22, .ref n23, .null, .null, .null, .null, .int 0, .int 0, .int 0, .int 0, .long 0, .int 0])), (n1, .inr (2, [.int 0, .ref u2, .int 0])), (n4, .inr (2, [.int 0, .ref u5, .int 0])), (n7, .inr (2, [.int 0, .ref u8, .int 0])), (n10, .inl (cy 0, 9, .inl (fun _ => 0))), (n11, .inl (cy 0, 8, .inl (fun _ => 0))), (n12, .inl (cy 0, 8, .inl (fun _ => 0))), (n13, .inl (cy 0, 8, .inl (fun _ => 0))), (n14, .inl (cy 0, 200, .inl (fun _ => 0))), (n15, .inl (cy 0, 401, .inl (fun _ => 0))), (n16, .inl (cy 0, 9, .inl (fun _ => 0))), (n17, .inl (cy 0, 9, .inl (fun _ => 0))), (n18, .inl (cy 0, 9, .inl (fun _ => 0))), (n19, .inl (cy 2, 9, .inl (fun _ => 0))), (n20, .inl (cy 2, 24, .inl (fun _ => 0))), (n21, .inl (cy 1, 256, .inr (.inl (fun _ => 0)))), (n22, .inl (cy 1, 27, .inr (.inl (fun _ => 0)))), (n23, .inl (cy 1, 64, .inr (.inl (fun _ => 0))))] := hD
  refine lv_aload_n hx hb dX14_init_152 rfl (lv_at hl 0 rfl) ?_
  refine lv_bipush (v := 24) hx hb dX14_init_153 (by decide) ?_
  refine z_newa (atype := .long) hx hb (hts _ q41) rfl hK hP hD hS hA 1 rfl (a0 := (24, .inr (.inl (fun _ => 0)))) (fun _ => rfl) (by decide) (by decide) (by decide) (Nat.le_of_ble_eq_true rfl) (Nat.le_of_ble_eq_true rfl) dX14_init_155 (fun n24 H hP hD hS => ?_)
  have hP : va_P D vwCl [(h0, .inr (17, [.ref n1, .ref n4, .ref n7, .ref n10, .ref n11, .ref n12, .ref n13, .ref n14, .ref n15, .ref n16, .ref n17, .ref n18, .ref n19, .ref n20, .ref n21, .ref n22, .ref n23, .null, .null, .null, .null, .int 0, .int 0, .int 0, .int 0, .long 0, .int 0])), (n1, .inr (2, [.int 0, .ref u2, .int 0])), (n4, .inr (2, [.int 0, .ref u5, .int 0])), (n7, .inr (2, [.int 0, .ref u8, .int 0])), (n10, .inl (cy 0, 9, .inl (fun _ => 0))), (n11, .inl (cy 0, 8, .inl (fun _ => 0))), (n12, .inl (cy 0, 8, .inl (fun _ => 0))), (n13, .inl (cy 0, 8, .inl (fun _ => 0))), (n14, .inl (cy 0, 200, .inl (fun _ => 0))), (n15, .inl (cy 0, 401, .inl (fun _ => 0))), (n16, .inl (cy 0, 9, .inl (fun _ => 0))), (n17, .inl (cy 0, 9, .inl (fun _ => 0))), (n18, .inl (cy 0, 9, .inl (fun _ => 0))), (n19, .inl (cy 2, 9, .inl (fun _ => 0))), (n20, .inl (cy 2, 24, .inl (fun _ => 0))), (n21, .inl (cy 1, 256, .inr (.inl (fun _ => 0)))), (n22, .inl (cy 1, 27, .inr (.inl (fun _ => 0)))), (n23, .inl (cy 1, 64, .inr (.inl (fun _ => 0)))), (n24, .inl (cy 1, 24, .inr (.inl (fun _ => 0))))] H := hP
  have hD : va_D A [(h0, .inr (17, [.ref n1, .ref n4, .ref n7, .ref n10, .ref n11, .ref n12, .ref n13, .ref n14, .ref n15, .ref n16, .ref n17, .ref n18, .ref n19, .ref n20, .ref n21, .ref n22, .ref n23, .null, .null, .null, .null, .int 0, .int 0, .int 0, .int 0, .long 0, .int 0])), (n1, .inr (2, [.int 0, .ref u2, .int 0])), (n4, .inr (2, [.int 0, .ref u5, .int 0])), (n7, .inr (2, [.int 0, .ref u8, .int 0])), (n10, .inl (cy 0, 9, .inl (fun _ => 0))), (n11, .inl (cy 0, 8, .inl (fun _ => 0))), (n12, .inl (cy 0, 8, .inl (fun _ => 0))), (n13, .inl (cy 0, 8, .inl (fun _ => 0))), (n14, .inl (cy 0, 200, .inl (fun _ => 0))), (n15, .inl (cy 0, 401, .inl (fun _ => 0))), (n16, .inl (cy 0, 9, .inl (fun _ => 0))), (n17, .inl (cy 0, 9, .inl (fun _ => 0))), (n18, .inl (cy 0, 9, .inl (fun _ => 0))), (n19, .inl (cy 2, 9, .inl (fun _ => 0))), (n20, .inl (cy 2, 24, .inl (fun _ => 0))), (n21, .inl (cy 1, 256, .inr (.inl (fun _ => 0)))), (n22, .inl (cy 1, 27, .inr (.inl (fun _ => 0)))), (n23, .inl (cy 1, 64, .inr (.inl (fun _ => 0)))), (n24, .inl (cy 1, 24, .inr (.inl (fun _ => 0))))] := hD
  refine W.widen (k := 18) (n := 1074) (by omega) (by omega) ?_
  refine va_putF (D := D) (ci := 17) (v := .ref n24) (ty := (tyX14 17)) (C := RX14) (T := TX14) (N := 27) hx hb hts iRX14 tyX14 tyX14_ok nmX14 hown hK hP hD hS 0 rfl rfl 17 (by decide) (hts _ q276) (fun _ h9 => h9) rfl hin rfl (tyX14_ok 17 (by decide)) rfl rfl (Nat.le_of_ble_eq_true rfl) dX14_init_157 (fun H locs hP hD hS => ?_)
  have hP : va_P D vwCl [(h0, .inr (17, [.ref n1, .ref n4, .ref n7, .ref n10, .ref n11, .ref n12, .ref n13, .ref n14, .ref n15, .ref n16, .ref n17, .ref n18, .ref n19, .ref n20, .ref n21, .ref n22, .ref n23, .ref n24, .null, .null, .null, .int 0, .int 0, .int 0, .int 0, .long 0, .int 0])), (n1, .inr (2, [.int 0, .ref u2, .int 0])), (n4, .inr (2, [.int 0, .ref u5, .int 0])), (n7, .inr (2, [.int 0, .ref u8, .int 0])), (n10, .inl (cy 0, 9, .inl (fun _ => 0))), (n11, .inl (cy 0, 8, .inl (fun _ => 0))), (n12, .inl (cy 0, 8, .inl (fun _ => 0))), (n13, .inl (cy 0, 8, .inl (fun _ => 0))), (n14, .inl (cy 0, 200, .inl (fun _ => 0))), (n15, .inl (cy 0, 401, .inl (fun _ => 0))), (n16, .inl (cy 0, 9, .inl (fun _ => 0))), (n17, .inl (cy 0, 9, .inl (fun _ => 0))), (n18, .inl (cy 0, 9, .inl (fun _ => 0))), (n19, .inl (cy 2, 9, .inl (fun _ => 0))), (n20, .inl (cy 2, 24, .inl (fun _ => 0))), (n21, .inl (cy 1, 256, .inr (.inl (fun _ => 0)))), (n22, .inl (cy 1, 27, .inr (.inl (fun _ => 0)))), (n23, .inl (cy 1, 64, .inr (.inl (fun _ => 0)))), (n24, .inl (cy 1, 24, .inr (.inl (fun _ => 0))))] H := hP
  have hD : va_D A [(h0, .inr (17, [.ref n1, .ref n4, .ref n7, .ref n10, .ref n11, .ref n12, .ref n13, .ref n14, .ref n15, .ref n16, .ref n17, .ref n18, .ref n19, .ref n20, .ref n21, .ref n22, .ref n23, .ref n24, .null, .null, .null, .int 0, .int 0, .int 0, .int 0, .long 0, .int 0])), (n1, .inr (2, [.int 0, .ref u2, .int 0])), (n4, .inr (2, [.int 0, .ref u5, .int 0])), (n7, .inr (2, [.int 0, .ref u8, .int 0])), (n10, .inl (cy 0, 9, .inl (fun _ => 0))), (n11, .inl (cy 0, 8, .inl (fun _ => 0))), (n12, .inl (cy 0, 8, .inl (fun _ => 0))), (n13, .inl (cy 0, 8, .inl (fun _ => 0))), (n14, .inl (cy 0, 200, .inl (fun _ => 0))), (n15, .inl (cy 0, 401, .inl (fun _ => 0))), (n16, .inl (cy 0, 9, .inl (fun _ => 0))), (n17, .inl (cy 0, 9, .inl (fun _ => 0))), (n18, .inl (cy 0, 9, .inl (fun _ => 0))), (n19, .inl (cy 2, 9, .inl (fun _ => 0))), (n20, .inl (cy 2, 24, .inl (fun _ => 0))), (n21, .inl (cy 1, 256, .inr (.inl (fun _ => 0)))), (n22, .inl (cy 1, 27, .inr (.inl (fun _ => 0)))), (n23, .inl (cy 1, 64, .inr (.inl (fun _ => 0)))), (n24, .inl (cy 1, 24, .inr (.inl (fun _ => 0))))] := hD
  refine lv_aload_n hx hb dX14_init_160 rfl (lv_at hl 0 rfl) ?_
  refine lv_sipush (v := 7200) hx hb dX14_init_161 (by decide) ?_
  refine z_newa (atype := .int) hx hb (hts _ q4) rfl hK hP hD hS hA 0 rfl (a0 := (7200, .inl (fun _ => 0))) (fun _ => rfl) (by decide) (by decide) (by decide) (Nat.le_of_ble_eq_true rfl) (Nat.le_of_ble_eq_true rfl) dX14_init_164 (fun n25 H hP hD hS => ?_)
  have hP : va_P D vwCl [(h0, .inr (17, [.ref n1, .ref n4, .ref n7, .ref n10, .ref n11, .ref n12, .ref n13, .ref n14, .ref n15, .ref n16, .ref n17, .ref n18, .ref n19, .ref n20, .ref n21, .ref n22, .ref n23, .ref n24, .null, .null, .null, .int 0, .int 0, .int 0, .int 0, .long 0, .int 0])), (n1, .inr (2, [.int 0, .ref u2, .int 0])), (n4, .inr (2, [.int 0, .ref u5, .int 0])), (n7, .inr (2, [.int 0, .ref u8, .int 0])), (n10, .inl (cy 0, 9, .inl (fun _ => 0))), (n11, .inl (cy 0, 8, .inl (fun _ => 0))), (n12, .inl (cy 0, 8, .inl (fun _ => 0))), (n13, .inl (cy 0, 8, .inl (fun _ => 0))), (n14, .inl (cy 0, 200, .inl (fun _ => 0))), (n15, .inl (cy 0, 401, .inl (fun _ => 0))), (n16, .inl (cy 0, 9, .inl (fun _ => 0))), (n17, .inl (cy 0, 9, .inl (fun _ => 0))), (n18, .inl (cy 0, 9, .inl (fun _ => 0))), (n19, .inl (cy 2, 9, .inl (fun _ => 0))), (n20, .inl (cy 2, 24, .inl (fun _ => 0))), (n21, .inl (cy 1, 256, .inr (.inl (fun _ => 0)))), (n22, .inl (cy 1, 27, .inr (.inl (fun _ => 0)))), (n23, .inl (cy 1, 64, .inr (.inl (fun _ => 0)))), (n24, .inl (cy 1, 24, .inr (.inl (fun _ => 0)))), (n25, .inl (cy 0, 7200, .inl (fun _ => 0)))] H := hP
  have hD : va_D A [(h0, .inr (17, [.ref n1, .ref n4, .ref n7, .ref n10, .ref n11, .ref n12, .ref n13, .ref n14, .ref n15, .ref n16, .ref n17, .ref n18, .ref n19, .ref n20, .ref n21, .ref n22, .ref n23, .ref n24, .null, .null, .null, .int 0, .int 0, .int 0, .int 0, .long 0, .int 0])), (n1, .inr (2, [.int 0, .ref u2, .int 0])), (n4, .inr (2, [.int 0, .ref u5, .int 0])), (n7, .inr (2, [.int 0, .ref u8, .int 0])), (n10, .inl (cy 0, 9, .inl (fun _ => 0))), (n11, .inl (cy 0, 8, .inl (fun _ => 0))), (n12, .inl (cy 0, 8, .inl (fun _ => 0))), (n13, .inl (cy 0, 8, .inl (fun _ => 0))), (n14, .inl (cy 0, 200, .inl (fun _ => 0))), (n15, .inl (cy 0, 401, .inl (fun _ => 0))), (n16, .inl (cy 0, 9, .inl (fun _ => 0))), (n17, .inl (cy 0, 9, .inl (fun _ => 0))), (n18, .inl (cy 0, 9, .inl (fun _ => 0))), (n19, .inl (cy 2, 9, .inl (fun _ => 0))), (n20, .inl (cy 2, 24, .inl (fun _ => 0))), (n21, .inl (cy 1, 256, .inr (.inl (fun _ => 0)))), (n22, .inl (cy 1, 27, .inr (.inl (fun _ => 0)))), (n23, .inl (cy 1, 64, .inr (.inl (fun _ => 0)))), (n24, .inl (cy 1, 24, .inr (.inl (fun _ => 0)))), (n25, .inl (cy 0, 7200, .inl (fun _ => 0)))] := hD
  refine W.widen (k := 19) (n := 8274) (by omega) (by omega) ?_
  refine va_putF (D := D) (ci := 17) (v := .ref n25) (ty := (tyX14 18)) (C := RX14) (T := TX14) (N := 27) hx hb hts iRX14 tyX14 tyX14_ok nmX14 hown hK hP hD hS 0 rfl rfl 18 (by decide) (hts _ q277) (fun _ h9 => h9) rfl hin rfl (tyX14_ok 18 (by decide)) rfl rfl (Nat.le_of_ble_eq_true rfl) dX14_init_166 (fun H locs hP hD hS => ?_)
  have hP : va_P D vwCl [(h0, .inr (17, [.ref n1, .ref n4, .ref n7, .ref n10, .ref n11, .ref n12, .ref n13, .ref n14, .ref n15, .ref n16, .ref n17, .ref n18, .ref n19, .ref n20, .ref n21, .ref n22, .ref n23, .ref n24, .ref n25, .null, .null, .int 0, .int 0, .int 0, .int 0, .long 0, .int 0])), (n1, .inr (2, [.int 0, .ref u2, .int 0])), (n4, .inr (2, [.int 0, .ref u5, .int 0])), (n7, .inr (2, [.int 0, .ref u8, .int 0])), (n10, .inl (cy 0, 9, .inl (fun _ => 0))), (n11, .inl (cy 0, 8, .inl (fun _ => 0))), (n12, .inl (cy 0, 8, .inl (fun _ => 0))), (n13, .inl (cy 0, 8, .inl (fun _ => 0))), (n14, .inl (cy 0, 200, .inl (fun _ => 0))), (n15, .inl (cy 0, 401, .inl (fun _ => 0))), (n16, .inl (cy 0, 9, .inl (fun _ => 0))), (n17, .inl (cy 0, 9, .inl (fun _ => 0))), (n18, .inl (cy 0, 9, .inl (fun _ => 0))), (n19, .inl (cy 2, 9, .inl (fun _ => 0))), (n20, .inl (cy 2, 24, .inl (fun _ => 0))), (n21, .inl (cy 1, 256, .inr (.inl (fun _ => 0)))), (n22, .inl (cy 1, 27, .inr (.inl (fun _ => 0)))), (n23, .inl (cy 1, 64, .inr (.inl (fun _ => 0)))), (n24, .inl (cy 1, 24, .inr (.inl (fun _ => 0)))), (n25, .inl (cy 0, 7200, .inl (fun _ => 0)))] H := hP
  have hD : va_D A [(h0, .inr (17, [.ref n1, .ref n4, .ref n7, .ref n10, .ref n11, .ref n12, .ref n13, .ref n14, .ref n15, .ref n16, .ref n17, .ref n18, .ref n19, .ref n20, .ref n21, .ref n22, .ref n23, .ref n24, .ref n25, .null, .null, .int 0, .int 0, .int 0, .int 0, .long 0, .int 0])), (n1, .inr (2, [.int 0, .ref u2, .int 0])), (n4, .inr (2, [.int 0, .ref u5, .int 0])), (n7, .inr (2, [.int 0, .ref u8, .int 0])), (n10, .inl (cy 0, 9, .inl (fun _ => 0))), (n11, .inl (cy 0, 8, .inl (fun _ => 0))), (n12, .inl (cy 0, 8, .inl (fun _ => 0))), (n13, .inl (cy 0, 8, .inl (fun _ => 0))), (n14, .inl (cy 0, 200, .inl (fun _ => 0))), (n15, .inl (cy 0, 401, .inl (fun _ => 0))), (n16, .inl (cy 0, 9, .inl (fun _ => 0))), (n17, .inl (cy 0, 9, .inl (fun _ => 0))), (n18, .inl (cy 0, 9, .inl (fun _ => 0))), (n19, .inl (cy 2, 9, .inl (fun _ => 0))), (n20, .inl (cy 2, 24, .inl (fun _ => 0))), (n21, .inl (cy 1, 256, .inr (.inl (fun _ => 0)))), (n22, .inl (cy 1, 27, .inr (.inl (fun _ => 0)))), (n23, .inl (cy 1, 64, .inr (.inl (fun _ => 0)))), (n24, .inl (cy 1, 24, .inr (.inl (fun _ => 0)))), (n25, .inl (cy 0, 7200, .inl (fun _ => 0)))] := hD
  refine lv_aload_n hx hb dX14_init_169 rfl (lv_at hl 0 rfl) ?_
  refine lv_sipush (v := 7200) hx hb dX14_init_170 (by decide) ?_
  refine z_newa (atype := .int) hx hb (hts _ q4) rfl hK hP hD hS hA 0 rfl (a0 := (7200, .inl (fun _ => 0))) (fun _ => rfl) (by decide) (by decide) (by decide) (Nat.le_of_ble_eq_true rfl) (Nat.le_of_ble_eq_true rfl) dX14_init_173 (fun n26 H hP hD hS => ?_)
  have hP : va_P D vwCl [(h0, .inr (17, [.ref n1, .ref n4, .ref n7, .ref n10, .ref n11, .ref n12, .ref n13, .ref n14, .ref n15, .ref n16, .ref n17, .ref n18, .ref n19, .ref n20, .ref n21, .ref n22, .ref n23, .ref n24, .ref n25, .null, .null, .int 0, .int 0, .int 0, .int 0, .long 0, .int 0])), (n1, .inr (2, [.int 0, .ref u2, .int 0])), (n4, .inr (2, [.int 0, .ref u5, .int 0])), (n7, .inr (2, [.int 0, .ref u8, .int 0])), (n10, .inl (cy 0, 9, .inl (fun _ => 0))), (n11, .inl (cy 0, 8, .inl (fun _ => 0))), (n12, .inl (cy 0, 8, .inl (fun _ => 0))), (n13, .inl (cy 0, 8, .inl (fun _ => 0))), (n14, .inl (cy 0, 200, .inl (fun _ => 0))), (n15, .inl (cy 0, 401, .inl (fun _ => 0))), (n16, .inl (cy 0, 9, .inl (fun _ => 0))), (n17, .inl (cy 0, 9, .inl (fun _ => 0))), (n18, .inl (cy 0, 9, .inl (fun _ => 0))), (n19, .inl (cy 2, 9, .inl (fun _ => 0))), (n20, .inl (cy 2, 24, .inl (fun _ => 0))), (n21, .inl (cy 1, 256, .inr (.inl (fun _ => 0)))), (n22, .inl (cy 1, 27, .inr (.inl (fun _ => 0)))), (n23, .inl (cy 1, 64, .inr (.inl (fun _ => 0)))), (n24, .inl (cy 1, 24, .inr (.inl (fun _ => 0)))), (n25, .inl (cy 0, 7200, .inl (fun _ => 0))), (n26, .inl (cy 0, 7200, .inl (fun _ => 0)))] H := hP
  have hD : va_D A [(h0, .inr (17, [.ref n1, .ref n4, .ref n7, .ref n10, .ref n11, .ref n12, .ref n13, .ref n14, .ref n15, .ref n16, .ref n17, .ref n18, .ref n19, .ref n20, .ref n21, .ref n22, .ref n23, .ref n24, .ref n25, .null, .null, .int 0, .int 0, .int 0, .int 0, .long 0, .int 0])), (n1, .inr (2, [.int 0, .ref u2, .int 0])), (n4, .inr (2, [.int 0, .ref u5, .int 0])), (n7, .inr (2, [.int 0, .ref u8, .int 0])), (n10, .inl (cy 0, 9, .inl (fun _ => 0))), (n11, .inl (cy 0, 8, .inl (fun _ => 0))), (n12, .inl (cy 0, 8, .inl (fun _ => 0))), (n13, .inl (cy 0, 8, .inl (fun _ => 0))), (n14, .inl (cy 0, 200, .inl (fun _ => 0))), (n15, .inl (cy 0, 401, .inl (fun _ => 0))), (n16, .inl (cy 0, 9, .inl (fun _ => 0))), (n17, .inl (cy 0, 9, .inl (fun _ => 0))), (n18, .inl (cy 0, 9, .inl (fun _ => 0))), (n19, .inl (cy 2, 9, .inl (fun _ => 0))), (n20, .inl (cy 2, 24, .inl (fun _ => 0))), (n21, .inl (cy 1, 256, .inr (.inl (fun _ => 0)))), (n22, .inl (cy 1, 27, .inr (.inl (fun _ => 0)))), (n23, .inl (cy 1, 64, .inr (.inl (fun _ => 0)))), (n24, .inl (cy 1, 24, .inr (.inl (fun _ => 0)))), (n25, .inl (cy 0, 7200, .inl (fun _ => 0))), (n26, .inl (cy 0, 7200, .inl (fun _ => 0)))] := hD
  refine W.widen (k := 20) (n := 15474) (by omega) (by omega) ?_
  refine va_putF (D := D) (ci := 17) (v := .ref n26) (ty := (tyX14 19)) (C := RX14) (T := TX14) (N := 27) hx hb hts iRX14 tyX14 tyX14_ok nmX14 hown hK hP hD hS 0 rfl rfl 19 (by decide) (hts _ q278) (fun _ h9 => h9) rfl hin rfl (tyX14_ok 19 (by decide)) rfl rfl (Nat.le_of_ble_eq_true rfl) dX14_init_175 (fun H locs hP hD hS => ?_)
  have hP : va_P D vwCl [(h0, .inr (17, [.ref n1, .ref n4, .ref n7, .ref n10, .ref n11, .ref n12, .ref n13, .ref n14, .ref n15, .ref n16, .ref n17, .ref n18, .ref n19, .ref n20, .ref n21, .ref n22, .ref n23, .ref n24, .ref n25, .ref n26, .null, .int 0, .int 0, .int 0, .int 0, .long 0, .int 0])), (n1, .inr (2, [.int 0, .ref u2, .int 0])), (n4, .inr (2, [.int 0, .ref u5, .int 0])), (n7, .inr (2, [.int 0, .ref u8, .int 0])), (n10, .inl (cy 0, 9, .inl (fun _ => 0))), (n11, .inl (cy 0, 8, .inl (fun _ => 0))), (n12, .inl (cy 0, 8, .inl (fun _ => 0))), (n13, .inl (cy 0, 8, .inl (fun _ => 0))), (n14, .inl (cy 0, 200, .inl (fun _ => 0))), (n15, .inl (cy 0, 401, .inl (fun _ => 0))), (n16, .inl (cy 0, 9, .inl (fun _ => 0))), (n17, .inl (cy 0, 9, .inl (fun _ => 0))), (n18, .inl (cy 0, 9, .inl (fun _ => 0))), (n19, .inl (cy 2, 9, .inl (fun _ => 0))), (n20, .inl (cy 2, 24, .inl (fun _ => 0))), (n21, .inl (cy 1, 256, .inr (.inl (fun _ => 0)))), (n22, .inl (cy 1, 27, .inr (.inl (fun _ => 0)))), (n23, .inl (cy 1, 64, .inr (.inl (fun _ => 0)))), (n24, .inl (cy 1, 24, .inr (.inl (fun _ => 0)))), (n25, .inl (cy 0, 7200, .inl (fun _ => 0))), (n26, .inl (cy 0, 7200, .inl (fun _ => 0)))] H := hP
  have hD : va_D A [(h0, .inr (17, [.ref n1, .ref n4, .ref n7, .ref n10, .ref n11, .ref n12, .ref n13, .ref n14, .ref n15, .ref n16, .ref n17, .ref n18, .ref n19, .ref n20, .ref n21, .ref n22, .ref n23, .ref n24, .ref n25, .ref n26, .null, .int 0, .int 0, .int 0, .int 0, .long 0, .int 0])), (n1, .inr (2, [.int 0, .ref u2, .int 0])), (n4, .inr (2, [.int 0, .ref u5, .int 0])), (n7, .inr (2, [.int 0, .ref u8, .int 0])), (n10, .inl (cy 0, 9, .inl (fun _ => 0))), (n11, .inl (cy 0, 8, .inl (fun _ => 0))), (n12, .inl (cy 0, 8, .inl (fun _ => 0))), (n13, .inl (cy 0, 8, .inl (fun _ => 0))), (n14, .inl (cy 0, 200, .inl (fun _ => 0))), (n15, .inl (cy 0, 401, .inl (fun _ => 0))), (n16, .inl (cy 0, 9, .inl (fun _ => 0))), (n17, .inl (cy 0, 9, .inl (fun _ => 0))), (n18, .inl (cy 0, 9, .inl (fun _ => 0))), (n19, .inl (cy 2, 9, .inl (fun _ => 0))), (n20, .inl (cy 2, 24, .inl (fun _ => 0))), (n21, .inl (cy 1, 256, .inr (.inl (fun _ => 0)))), (n22, .inl (cy 1, 27, .inr (.inl (fun _ => 0)))), (n23, .inl (cy 1, 64, .inr (.inl (fun _ => 0)))), (n24, .inl (cy 1, 24, .inr (.inl (fun _ => 0)))), (n25, .inl (cy 0, 7200, .inl (fun _ => 0))), (n26, .inl (cy 0, 7200, .inl (fun _ => 0)))] := hD
  refine lv_aload_n hx hb dX14_init_178 rfl (lv_at hl 0 rfl) ?_
  refine lv_sipush (v := 459) hx hb dX14_init_179 (by decide) ?_
  refine z_newa (atype := .boolean) hx hb (hts _ q37) rfl hK hP hD hS hA 2 rfl (a0 := (459, .inl (fun _ => 0))) (fun _ => rfl) (by decide) (by decide) (by decide) (Nat.le_of_ble_eq_true rfl) (Nat.le_of_ble_eq_true rfl) dX14_init_182 (fun n27 H hP hD hS => ?_)
  have hP : va_P D vwCl [(h0, .inr (17, [.ref n1, .ref n4, .ref n7, .ref n10, .ref n11, .ref n12, .ref n13, .ref n14, .ref n15, .ref n16, .ref n17, .ref n18, .ref n19, .ref n20, .ref n21, .ref n22, .ref n23, .ref n24, .ref n25, .ref n26, .null, .int 0, .int 0, .int 0, .int 0, .long 0, .int 0])), (n1, .inr (2, [.int 0, .ref u2, .int 0])), (n4, .inr (2, [.int 0, .ref u5, .int 0])), (n7, .inr (2, [.int 0, .ref u8, .int 0])), (n10, .inl (cy 0, 9, .inl (fun _ => 0))), (n11, .inl (cy 0, 8, .inl (fun _ => 0))), (n12, .inl (cy 0, 8, .inl (fun _ => 0))), (n13, .inl (cy 0, 8, .inl (fun _ => 0))), (n14, .inl (cy 0, 200, .inl (fun _ => 0))), (n15, .inl (cy 0, 401, .inl (fun _ => 0))), (n16, .inl (cy 0, 9, .inl (fun _ => 0))), (n17, .inl (cy 0, 9, .inl (fun _ => 0))), (n18, .inl (cy 0, 9, .inl (fun _ => 0))), (n19, .inl (cy 2, 9, .inl (fun _ => 0))), (n20, .inl (cy 2, 24, .inl (fun _ => 0))), (n21, .inl (cy 1, 256, .inr (.inl (fun _ => 0)))), (n22, .inl (cy 1, 27, .inr (.inl (fun _ => 0)))), (n23, .inl (cy 1, 64, .inr (.inl (fun _ => 0)))), (n24, .inl (cy 1, 24, .inr (.inl (fun _ => 0)))), (n25, .inl (cy 0, 7200, .inl (fun _ => 0))), (n26, .inl (cy 0, 7200, .inl (fun _ => 0))), (n27, .inl (cy 2, 459, .inl (fun _ => 0)))] H := hP
  have hD : va_D A [(h0, .inr (17, [.ref n1, .ref n4, .ref n7, .ref n10, .ref n11, .ref n12, .ref n13, .ref n14, .ref n15, .ref n16, .ref n17, .ref n18, .ref n19, .ref n20, .ref n21, .ref n22, .ref n23, .ref n24, .ref n25, .ref n26, .null, .int 0, .int 0, .int 0, .int 0, .long 0, .int 0])), (n1, .inr (2, [.int 0, .ref u2, .int 0])), (n4, .inr (2, [.int 0, .ref u5, .int 0])), (n7, .inr (2, [.int 0, .ref u8, .int 0])), (n10, .inl (cy 0, 9, .inl (fun _ => 0))), (n11, .inl (cy 0, 8, .inl (fun _ => 0))), (n12, .inl (cy 0, 8, .inl (fun _ => 0))), (n13, .inl (cy 0, 8, .inl (fun _ => 0))), (n14, .inl (cy 0, 200, .inl (fun _ => 0))), (n15, .inl (cy 0, 401, .inl (fun _ => 0))), (n16, .inl (cy 0, 9, .inl (fun _ => 0))), (n17, .inl (cy 0, 9, .inl (fun _ => 0))), (n18, .inl (cy 0, 9, .inl (fun _ => 0))), (n19, .inl (cy 2, 9, .inl (fun _ => 0))), (n20, .inl (cy 2, 24, .inl (fun _ => 0))), (n21, .inl (cy 1, 256, .inr (.inl (fun _ => 0)))), (n22, .inl (cy 1, 27, .inr (.inl (fun _ => 0)))), (n23, .inl (cy 1, 64, .inr (.inl (fun _ => 0)))), (n24, .inl (cy 1, 24, .inr (.inl (fun _ => 0)))), (n25, .inl (cy 0, 7200, .inl (fun _ => 0))), (n26, .inl (cy 0, 7200, .inl (fun _ => 0))), (n27, .inl (cy 2, 459, .inl (fun _ => 0)))] := hD
  refine W.widen (k := 21) (n := 15933) (by omega) (by omega) ?_
  refine va_putF (D := D) (ci := 17) (v := .ref n27) (ty := (tyX14 20)) (C := RX14) (T := TX14) (N := 27) hx hb hts iRX14 tyX14 tyX14_ok nmX14 hown hK hP hD hS 0 rfl rfl 20 (by decide) (hts _ q279) (fun _ h9 => h9) rfl hin rfl (tyX14_ok 20 (by decide)) rfl rfl (Nat.le_of_ble_eq_true rfl) dX14_init_184 (fun H locs hP hD hS => ?_)
  have hP : va_P D vwCl [(h0, .inr (17, [.ref n1, .ref n4, .ref n7, .ref n10, .ref n11, .ref n12, .ref n13, .ref n14, .ref n15, .ref n16, .ref n17, .ref n18, .ref n19, .ref n20, .ref n21, .ref n22, .ref n23, .ref n24, .ref n25, .ref n26, .ref n27, .int 0, .int 0, .int 0, .int 0, .long 0, .int 0])), (n1, .inr (2, [.int 0, .ref u2, .int 0])), (n4, .inr (2, [.int 0, .ref u5, .int 0])), (n7, .inr (2, [.int 0, .ref u8, .int 0])), (n10, .inl (cy 0, 9, .inl (fun _ => 0))), (n11, .inl (cy 0, 8, .inl (fun _ => 0))), (n12, .inl (cy 0, 8, .inl (fun _ => 0))), (n13, .inl (cy 0, 8, .inl (fun _ => 0))), (n14, .inl (cy 0, 200, .inl (fun _ => 0))), (n15, .inl (cy 0, 401, .inl (fun _ => 0))), (n16, .inl (cy 0, 9, .inl (fun _ => 0))), (n17, .inl (cy 0, 9, .inl (fun _ => 0))), (n18, .inl (cy 0, 9, .inl (fun _ => 0))), (n19, .inl (cy 2, 9, .inl (fun _ => 0))), (n20, .inl (cy 2, 24, .inl (fun _ => 0))), (n21, .inl (cy 1, 256, .inr (.inl (fun _ => 0)))), (n22, .inl (cy 1, 27, .inr (.inl (fun _ => 0)))), (n23, .inl (cy 1, 64, .inr (.inl (fun _ => 0)))), (n24, .inl (cy 1, 24, .inr (.inl (fun _ => 0)))), (n25, .inl (cy 0, 7200, .inl (fun _ => 0))), (n26, .inl (cy 0, 7200, .inl (fun _ => 0))), (n27, .inl (cy 2, 459, .inl (fun _ => 0)))] H := hP
  have hD : va_D A [(h0, .inr (17, [.ref n1, .ref n4, .ref n7, .ref n10, .ref n11, .ref n12, .ref n13, .ref n14, .ref n15, .ref n16, .ref n17, .ref n18, .ref n19, .ref n20, .ref n21, .ref n22, .ref n23, .ref n24, .ref n25, .ref n26, .ref n27, .int 0, .int 0, .int 0, .int 0, .long 0, .int 0])), (n1, .inr (2, [.int 0, .ref u2, .int 0])), (n4, .inr (2, [.int 0, .ref u5, .int 0])), (n7, .inr (2, [.int 0, .ref u8, .int 0])), (n10, .inl (cy 0, 9, .inl (fun _ => 0))), (n11, .inl (cy 0, 8, .inl (fun _ => 0))), (n12, .inl (cy 0, 8, .inl (fun _ => 0))), (n13, .inl (cy 0, 8, .inl (fun _ => 0))), (n14, .inl (cy 0, 200, .inl (fun _ => 0))), (n15, .inl (cy 0, 401, .inl (fun _ => 0))), (n16, .inl (cy 0, 9, .inl (fun _ => 0))), (n17, .inl (cy 0, 9, .inl (fun _ => 0))), (n18, .inl (cy 0, 9, .inl (fun _ => 0))), (n19, .inl (cy 2, 9, .inl (fun _ => 0))), (n20, .inl (cy 2, 24, .inl (fun _ => 0))), (n21, .inl (cy 1, 256, .inr (.inl (fun _ => 0)))), (n22, .inl (cy 1, 27, .inr (.inl (fun _ => 0)))), (n23, .inl (cy 1, 64, .inr (.inl (fun _ => 0)))), (n24, .inl (cy 1, 24, .inr (.inl (fun _ => 0)))), (n25, .inl (cy 0, 7200, .inl (fun _ => 0))), (n26, .inl (cy 0, 7200, .inl (fun _ => 0))), (n27, .inl (cy 2, 459, .inl (fun _ => 0)))] := hD
  have hP9 := hP.sub (ws' := [(h0, .inr (17, [.ref n1, .ref n4, .ref n7, .ref n10, .ref n11, .ref n12, .ref n13, .ref n14, .ref n15, .ref n16, .ref n17, .ref n18, .ref n19, .ref n20, .ref n21, .ref n22, .ref n23, .ref n24, .ref n25, .ref n26, .ref n27, .int 0, .int 0, .int 0, .int 0, .long 0, .int 0])), (n1, .inr (2, [.int 0, .ref u2, .int 0])), (n7, .inr (2, [.int 0, .ref u8, .int 0])), (n14, .inl (cy 0, 200, .inl (fun _ => 0))), (n15, .inl (cy 0, 401, .inl (fun _ => 0))), (n16, .inl (cy 0, 9, .inl (fun _ => 0))), (n17, .inl (cy 0, 9, .inl (fun _ => 0))), (n19, .inl (cy 2, 9, .inl (fun _ => 0))), (n21, .inl (cy 1, 256, .inr (.inl (fun _ => 0)))), (n23, .inl (cy 1, 64, .inr (.inl (fun _ => 0)))), (n24, .inl (cy 1, 24, .inr (.inl (fun _ => 0))))]) [0, 1, 3, 8, 9, 10, 11, 13, 15, 17, 18] rfl
  have hD9 := hD.sub (ws' := [(h0, .inr (17, [.ref n1, .ref n4, .ref n7, .ref n10, .ref n11, .ref n12, .ref n13, .ref n14, .ref n15, .ref n16, .ref n17, .ref n18, .ref n19, .ref n20, .ref n21, .ref n22, .ref n23, .ref n24, .ref n25, .ref n26, .ref n27, .int 0, .int 0, .int 0, .int 0, .long 0, .int 0])), (n1, .inr (2, [.int 0, .ref u2, .int 0])), (n7, .inr (2, [.int 0, .ref u8, .int 0])), (n14, .inl (cy 0, 200, .inl (fun _ => 0))), (n15, .inl (cy 0, 401, .inl (fun _ => 0))), (n16, .inl (cy 0, 9, .inl (fun _ => 0))), (n17, .inl (cy 0, 9, .inl (fun _ => 0))), (n19, .inl (cy 2, 9, .inl (fun _ => 0))), (n21, .inl (cy 1, 256, .inr (.inl (fun _ => 0)))), (n23, .inl (cy 1, 64, .inr (.inl (fun _ => 0)))), (n24, .inl (cy 1, 24, .inr (.inl (fun _ => 0))))]) [0, 1, 3, 8, 9, 10, 11, 13, 15, 17, 18] (by decide) rfl
  refine W.widen (k := 21) (n := 15933) (Nat.le_of_ble_eq_true rfl) (Nat.le_of_ble_eq_true rfl) ?_
  rw [hQe]
  exact W.vret hx hb hr (fun t ht hW => ⟨⟨(fun k => [n1, n4, n7, n10, n11, n12, n13, n14, n15, n16, n17, n18, n19, n20, n21, n22, n23, n24, n25, n26, n27, u2, u8].getD k 0), rfl, trivial, ⟨by rw [ht]; exact hP9, hD9⟩⟩, hS.F ht⟩) hS.2.2 dX14_init_187
set_option maxHeartbeats 4000000 in
set_option maxRecDepth 100000 in
theorem k_thrown (l : Launch) (D : va_G) (cy : Nat → ClassId) (h0 : Nat) (m0 : Nat) (m1 : Nat) (m2 : Nat) (m3 : Nat) (m4 : Nat) (m5 : Nat) (m6 : Nat) (m7 : Nat) (m8 : Nat) (m9 : Nat) (m10 : Nat) (m11 : Nat) (m12 : Nat) (m13 : Nat) (m14 : Nat) (m15 : Nat) (m16 : Nat) (m17 : Nat) (m18 : Nat) (m19 : Nat) (m20 : Nat) (eT : Int32) (e1 : Int32) (e2 : Int32) (e3 : Int32) (e4 : Int64) (e5 : Int32) (sz : Nat)  : Met l yX14_thrown (wz yX14_thrown cX14_thrown 1 (some .int)) ({ frames := 0, cells := 0, slots := 0, locals := 0 } : Room) (va_Pc [.ref h0] (zPre vwCl D cy [(h0, .inr (17, [.ref m0, .ref m1, .ref m2, .ref m3, .ref m4, .ref m5, .ref m6, .ref m7, .ref m8, .ref m9, .ref m10, .ref m11, .ref m12, .ref m13, .ref m14, .ref m15, .ref m16, .ref m17, .ref m18, .ref m19, .ref m20, .int eT, .int e1, .int e2, .int e3, .long e4, .int e5]))] sz)) (va_Qi (fun (r : Int32) (_ : Unit) => r = eT) (fun (u : Unit) t => zPost vwCl D (va_A [(h0, .inr (17, [.ref m0, .ref m1, .ref m2, .ref m3, .ref m4, .ref m5, .ref m6, .ref m7, .ref m8, .ref m9, .ref m10, .ref m11, .ref m12, .ref m13, .ref m14, .ref m15, .ref m16, .ref m17, .ref m18, .ref m19, .ref m20, .int eT, .int e1, .int e2, .int e3, .long e4, .int e5]))] sz) [(h0, .inr (17, [.ref m0, .ref m1, .ref m2, .ref m3, .ref m4, .ref m5, .ref m6, .ref m7, .ref m8, .ref m9, .ref m10, .ref m11, .ref m12, .ref m13, .ref m14, .ref m15, .ref m16, .ref m17, .ref m18, .ref m19, .ref m20, .int eT, .int e1, .int e2, .int e3, .long e4, .int e5]))] t) (va_A [(h0, .inr (17, [.ref m0, .ref m1, .ref m2, .ref m3, .ref m4, .ref m5, .ref m6, .ref m7, .ref m8, .ref m9, .ref m10, .ref m11, .ref m12, .ref m13, .ref m14, .ref m15, .ref m16, .ref m17, .ref m18, .ref m19, .ref m20, .int eT, .int e1, .int e2, .int e3, .long e4, .int e5]))] sz)) 0 0 (va_A [(h0, .inr (17, [.ref m0, .ref m1, .ref m2, .ref m3, .ref m4, .ref m5, .ref m6, .ref m7, .ref m8, .ref m9, .ref m10, .ref m11, .ref m12, .ref m13, .ref m14, .ref m15, .ref m16, .ref m17, .ref m18, .ref m19, .ref m20, .int eT, .int e1, .int e2, .int e3, .long e4, .int e5]))] sz) := by
  refine Met.ofW (cc := cX14_thrown) (maxL := 1) (ret := (some .int)) (by decide) rfl ?_
  intro p e s m args below meth c s₁ B hml hv
  obtain ⟨rfl, hsz, hP, hK, hD0, hX, hY⟩ := hv
  have hx := B.exec
  have hb := B.bytes
  have hr := B.returns
  have hts0 := atoms_spec (ws := wz yX14_thrown cX14_thrown 1 (some .int)) B.pre
  have hts : ∀ w ∈ wAll, w.before _ s = true := fun w h => hts0 w (List.mem_cons_of_mem _ h)
  have hown : s.vm.findClass RX14 = some m.cls := findClass_of_methodNamed B.named
  have hlocks := B.notSynchronized
  subst hsz
  have hD := hD0.self (sz := s.heap.size)
  generalize hAe : va_A [(h0, .inr (17, [.ref m0, .ref m1, .ref m2, .ref m3, .ref m4, .ref m5, .ref m6, .ref m7, .ref m8, .ref m9, .ref m10, .ref m11, .ref m12, .ref m13, .ref m14, .ref m15, .ref m16, .ref m17, .ref m18, .ref m19, .ref m20, .int eT, .int e1, .int e2, .int e3, .long e4, .int e5]))] s.heap.size = A at hD hY ⊢
  have hA : ∀ q : Nat, s.heap.size ≤ q → A q := fun q h => by rw [← hAe]; exact Or.inr h
  have hS : va_S A s.heap s.heap [] := va_S.rf
  have hP : va_P D vwCl [(h0, .inr (17, [.ref m0, .ref m1, .ref m2, .ref m3, .ref m4, .ref m5, .ref m6, .ref m7, .ref m8, .ref m9, .ref m10, .ref m11, .ref m12, .ref m13, .ref m14, .ref m15, .ref m16, .ref m17, .ref m18, .ref m19, .ref m20, .int eT, .int e1, .int e2, .int e3, .long e4, .int e5]))] s.heap := hP
  have hl := lv_entry ([.ref h0]) (n := 1) (Nat.le_of_ble_eq_true rfl)
  rw [lg_entry_eq]
  generalize (lg_sl ([.ref h0]) ++ List.replicate (1 - (lg_sl ([.ref h0])).length) Slot.unset).toArray = ls at hl ⊢
  have hl : lv_has ls 1 [(0, .ref h0)] := hl
  refine z_anyQ (fun Q hQe => ?_)
  refine lv_aload_n hx hb dX14_thrown_0 rfl (lv_at hl 0 rfl) ?_
  refine va_get (D := D) (ci := 17) (v := .int eT) (C := RX14) (T := TX14) (N := 27) hx hb hts iRX14 hown hK hP 0 rfl rfl 21 (by decide) (hts _ q280) (fun _ h9 => h9) rfl dX14_thrown_1 ?_
  have hP9 := hP.sub (ws' := [(h0, .inr (17, [.ref m0, .ref m1, .ref m2, .ref m3, .ref m4, .ref m5, .ref m6, .ref m7, .ref m8, .ref m9, .ref m10, .ref m11, .ref m12, .ref m13, .ref m14, .ref m15, .ref m16, .ref m17, .ref m18, .ref m19, .ref m20, .int eT, .int e1, .int e2, .int e3, .long e4, .int e5]))]) [0] rfl
  have hD9 := hD.sub (ws' := [(h0, .inr (17, [.ref m0, .ref m1, .ref m2, .ref m3, .ref m4, .ref m5, .ref m6, .ref m7, .ref m8, .ref m9, .ref m10, .ref m11, .ref m12, .ref m13, .ref m14, .ref m15, .ref m16, .ref m17, .ref m18, .ref m19, .ref m20, .int eT, .int e1, .int e2, .int e3, .long e4, .int e5]))]) [0] (by decide) rfl
  refine W.widen (k := 0) (n := 0) (Nat.le_of_ble_eq_true rfl) (Nat.le_of_ble_eq_true rfl) ?_
  rw [hQe]
  exact W.iret (v := eT) hx hb hr (fun t ht hW => ⟨⟨eT, (), rfl, rfl, ⟨by rw [ht]; exact hP9, hD9⟩⟩, hS.F ht⟩) hS.2.2 dX14_thrown_4
set_option maxHeartbeats 4000000 in
set_option maxRecDepth 100000 in
theorem k_fails (l : Launch) (D : va_G) (cy : Nat → ClassId) (h0 : Nat) (m0 : Nat) (m1 : Nat) (m2 : Nat) (m3 : Nat) (m4 : Nat) (m5 : Nat) (m6 : Nat) (m7 : Nat) (m8 : Nat) (m9 : Nat) (m10 : Nat) (m11 : Nat) (m12 : Nat) (m13 : Nat) (m14 : Nat) (m15 : Nat) (m16 : Nat) (m17 : Nat) (m18 : Nat) (m19 : Nat) (m20 : Nat) (eT : Int32) (e1 : Int32) (e2 : Int32) (e3 : Int32) (e4 : Int64) (e5 : Int32) (x : Int32) (sz : Nat)  : Met l yX14_fails (wz yX14_fails cX14_fails 2 (some .int)) ({ frames := 0, cells := 0, slots := 0, locals := 0 } : Room) (va_Pc [.ref h0, .int x] (zPre vwCl D cy [(h0, .inr (17, [.ref m0, .ref m1, .ref m2, .ref m3, .ref m4, .ref m5, .ref m6, .ref m7, .ref m8, .ref m9, .ref m10, .ref m11, .ref m12, .ref m13, .ref m14, .ref m15, .ref m16, .ref m17, .ref m18, .ref m19, .ref m20, .int eT, .int e1, .int e2, .int e3, .long e4, .int e5]))] sz)) (va_Qi (fun (r : Int32) (_ : Unit) => r = 0) (fun (u : Unit) t => zPost vwCl D (va_A [(h0, .inr (17, [.ref m0, .ref m1, .ref m2, .ref m3, .ref m4, .ref m5, .ref m6, .ref m7, .ref m8, .ref m9, .ref m10, .ref m11, .ref m12, .ref m13, .ref m14, .ref m15, .ref m16, .ref m17, .ref m18, .ref m19, .ref m20, .int eT, .int e1, .int e2, .int e3, .long e4, .int e5]))] sz) [(h0, .inr (17, [.ref m0, .ref m1, .ref m2, .ref m3, .ref m4, .ref m5, .ref m6, .ref m7, .ref m8, .ref m9, .ref m10, .ref m11, .ref m12, .ref m13, .ref m14, .ref m15, .ref m16, .ref m17, .ref m18, .ref m19, .ref m20, .int x, .int e1, .int e2, .int e3, .long e4, .int e5]))] t) (va_A [(h0, .inr (17, [.ref m0, .ref m1, .ref m2, .ref m3, .ref m4, .ref m5, .ref m6, .ref m7, .ref m8, .ref m9, .ref m10, .ref m11, .ref m12, .ref m13, .ref m14, .ref m15, .ref m16, .ref m17, .ref m18, .ref m19, .ref m20, .int eT, .int e1, .int e2, .int e3, .long e4, .int e5]))] sz)) 0 0 (va_A [(h0, .inr (17, [.ref m0, .ref m1, .ref m2, .ref m3, .ref m4, .ref m5, .ref m6, .ref m7, .ref m8, .ref m9, .ref m10, .ref m11, .ref m12, .ref m13, .ref m14, .ref m15, .ref m16, .ref m17, .ref m18, .ref m19, .ref m20, .int eT, .int e1, .int e2, .int e3, .long e4, .int e5]))] sz) := by
  refine Met.ofW (cc := cX14_fails) (maxL := 2) (ret := (some .int)) (by decide) rfl ?_
  intro p e s m args below meth c s₁ B hml hv
  obtain ⟨rfl, hsz, hP, hK, hD0, hX, hY⟩ := hv
  have hx := B.exec
  have hb := B.bytes
  have hr := B.returns
  have hts0 := atoms_spec (ws := wz yX14_fails cX14_fails 2 (some .int)) B.pre
  have hts : ∀ w ∈ wAll, w.before _ s = true := fun w h => hts0 w (List.mem_cons_of_mem _ h)
  have hown : s.vm.findClass RX14 = some m.cls := findClass_of_methodNamed B.named
  have hlocks := B.notSynchronized
  subst hsz
  have hD := hD0.self (sz := s.heap.size)
  generalize hAe : va_A [(h0, .inr (17, [.ref m0, .ref m1, .ref m2, .ref m3, .ref m4, .ref m5, .ref m6, .ref m7, .ref m8, .ref m9, .ref m10, .ref m11, .ref m12, .ref m13, .ref m14, .ref m15, .ref m16, .ref m17, .ref m18, .ref m19, .ref m20, .int eT, .int e1, .int e2, .int e3, .long e4, .int e5]))] s.heap.size = A at hD hY ⊢
  have hA : ∀ q : Nat, s.heap.size ≤ q → A q := fun q h => by rw [← hAe]; exact Or.inr h
  have hS : va_S A s.heap s.heap [] := va_S.rf
  have hP : va_P D vwCl [(h0, .inr (17, [.ref m0, .ref m1, .ref m2, .ref m3, .ref m4, .ref m5, .ref m6, .ref m7, .ref m8, .ref m9, .ref m10, .ref m11, .ref m12, .ref m13, .ref m14, .ref m15, .ref m16, .ref m17, .ref m18, .ref m19, .ref m20, .int eT, .int e1, .int e2, .int e3, .long e4, .int e5]))] s.heap := hP
  have hl := lv_entry ([.ref h0, .int x]) (n := 2) (Nat.le_of_ble_eq_true rfl)
  rw [lg_entry_eq]
  generalize (lg_sl ([.ref h0, .int x]) ++ List.replicate (2 - (lg_sl ([.ref h0, .int x])).length) Slot.unset).toArray = ls at hl ⊢
  have hl : lv_has ls 2 [(0, .ref h0), (1, .int x)] := hl
  refine z_anyQ (fun Q hQe => ?_)
  refine lv_aload_n hx hb dX14_fails_0 rfl (lv_at hl 0 rfl) ?_
  refine lv_iload_n hx hb dX14_fails_1 rfl (lv_at hl 1 rfl) ?_
  refine va_put (D := D) (ci := 17) (v := .int x) (ty := .int) (C := RX14) (T := TX14) (N := 27) hx hb hts iRX14 tyX14 tyX14_ok nmX14 hown hK hP hD hS 0 rfl rfl 21 (by decide) (hts _ q280) (fun _ h9 => h9) rfl (tyX14_ok 21 (by decide)) rfl rfl (Nat.le_of_ble_eq_true rfl) dX14_fails_2 (fun H locs hP hD hS => ?_)
  have hP : va_P D vwCl [(h0, .inr (17, [.ref m0, .ref m1, .ref m2, .ref m3, .ref m4, .ref m5, .ref m6, .ref m7, .ref m8, .ref m9, .ref m10, .ref m11, .ref m12, .ref m13, .ref m14, .ref m15, .ref m16, .ref m17, .ref m18, .ref m19, .ref m20, .int x, .int e1, .int e2, .int e3, .long e4, .int e5]))] H := hP
  have hD : va_D A [(h0, .inr (17, [.ref m0, .ref m1, .ref m2, .ref m3, .ref m4, .ref m5, .ref m6, .ref m7, .ref m8, .ref m9, .ref m10, .ref m11, .ref m12, .ref m13, .ref m14, .ref m15, .ref m16, .ref m17, .ref m18, .ref m19, .ref m20, .int x, .int e1, .int e2, .int e3, .long e4, .int e5]))] := hD
  refine lv_iconst (v := 0) hx hb dX14_fails_5 (by decide) ?_
  have hP9 := hP.sub (ws' := [(h0, .inr (17, [.ref m0, .ref m1, .ref m2, .ref m3, .ref m4, .ref m5, .ref m6, .ref m7, .ref m8, .ref m9, .ref m10, .ref m11, .ref m12, .ref m13, .ref m14, .ref m15, .ref m16, .ref m17, .ref m18, .ref m19, .ref m20, .int x, .int e1, .int e2, .int e3, .long e4, .int e5]))]) [0] rfl
  have hD9 := hD.sub (ws' := [(h0, .inr (17, [.ref m0, .ref m1, .ref m2, .ref m3, .ref m4, .ref m5, .ref m6, .ref m7, .ref m8, .ref m9, .ref m10, .ref m11, .ref m12, .ref m13, .ref m14, .ref m15, .ref m16, .ref m17, .ref m18, .ref m19, .ref m20, .int x, .int e1, .int e2, .int e3, .long e4, .int e5]))]) [0] (by decide) rfl
  refine W.widen (k := 0) (n := 0) (Nat.le_of_ble_eq_true rfl) (Nat.le_of_ble_eq_true rfl) ?_
  rw [hQe]
  exact W.iret (v := 0) hx hb hr (fun t ht hW => ⟨⟨0, (), rfl, rfl, ⟨by rw [ht]; exact hP9, hD9⟩⟩, hS.F ht⟩) hS.2.2 dX14_fails_6
set_option maxHeartbeats 4000000 in
set_option maxRecDepth 100000 in
theorem k_answer (l : Launch) (D : va_G) (cy : Nat → ClassId) (h0 : Nat) (m0 : Nat) (m1 : Nat) (m2 : Nat) (m3 : Nat) (m4 : Nat) (m5 : Nat) (m6 : Nat) (m7 : Nat) (m8 : Nat) (m9 : Nat) (m10 : Nat) (m11 : Nat) (m12 : Nat) (m13 : Nat) (m14 : Nat) (m15 : Nat) (m16 : Nat) (m17 : Nat) (m18 : Nat) (m19 : Nat) (m20 : Nat) (eT : Int32) (e1 : Int32) (e2 : Int32) (e3 : Int32) (e4 : Int64) (e5 : Int32) (x : Int32) (sz : Nat)  : Met l yX14_answer (wz yX14_answer cX14_answer 2 (some .int)) ({ frames := 0, cells := 0, slots := 0, locals := 0 } : Room) (va_Pc [.ref h0, .int x] (zPre vwCl D cy [(h0, .inr (17, [.ref m0, .ref m1, .ref m2, .ref m3, .ref m4, .ref m5, .ref m6, .ref m7, .ref m8, .ref m9, .ref m10, .ref m11, .ref m12, .ref m13, .ref m14, .ref m15, .ref m16, .ref m17, .ref m18, .ref m19, .ref m20, .int eT, .int e1, .int e2, .int e3, .long e4, .int e5]))] sz)) (va_Qi (fun (r : Int32) (_ : Unit) => r = x) (fun (u : Unit) t => zPost vwCl D (va_A [(h0, .inr (17, [.ref m0, .ref m1, .ref m2, .ref m3, .ref m4, .ref m5, .ref m6, .ref m7, .ref m8, .ref m9, .ref m10, .ref m11, .ref m12, .ref m13, .ref m14, .ref m15, .ref m16, .ref m17, .ref m18, .ref m19, .ref m20, .int eT, .int e1, .int e2, .int e3, .long e4, .int e5]))] sz) [(h0, .inr (17, [.ref m0, .ref m1, .ref m2, .ref m3, .ref m4, .ref m5, .ref m6, .ref m7, .ref m8, .ref m9, .ref m10, .ref m11, .ref m12, .ref m13, .ref m14, .ref m15, .ref m16, .ref m17, .ref m18, .ref m19, .ref m20, .int 0, .int e1, .int e2, .int e3, .long e4, .int e5]))] t) (va_A [(h0, .inr (17, [.ref m0, .ref m1, .ref m2, .ref m3, .ref m4, .ref m5, .ref m6, .ref m7, .ref m8, .ref m9, .ref m10, .ref m11, .ref m12, .ref m13, .ref m14, .ref m15, .ref m16, .ref m17, .ref m18, .ref m19, .ref m20, .int eT, .int e1, .int e2, .int e3, .long e4, .int e5]))] sz)) 0 0 (va_A [(h0, .inr (17, [.ref m0, .ref m1, .ref m2, .ref m3, .ref m4, .ref m5, .ref m6, .ref m7, .ref m8, .ref m9, .ref m10, .ref m11, .ref m12, .ref m13, .ref m14, .ref m15, .ref m16, .ref m17, .ref m18, .ref m19, .ref m20, .int eT, .int e1, .int e2, .int e3, .long e4, .int e5]))] sz) := by
  refine Met.ofW (cc := cX14_answer) (maxL := 2) (ret := (some .int)) (by decide) rfl ?_
  intro p e s m args below meth c s₁ B hml hv
  obtain ⟨rfl, hsz, hP, hK, hD0, hX, hY⟩ := hv
  have hx := B.exec
  have hb := B.bytes
  have hr := B.returns
  have hts0 := atoms_spec (ws := wz yX14_answer cX14_answer 2 (some .int)) B.pre
  have hts : ∀ w ∈ wAll, w.before _ s = true := fun w h => hts0 w (List.mem_cons_of_mem _ h)
  have hown : s.vm.findClass RX14 = some m.cls := findClass_of_methodNamed B.named
  have hlocks := B.notSynchronized
  subst hsz
  have hD := hD0.self (sz := s.heap.size)
  generalize hAe : va_A [(h0, .inr (17, [.ref m0, .ref m1, .ref m2, .ref m3, .ref m4, .ref m5, .ref m6, .ref m7, .ref m8, .ref m9, .ref m10, .ref m11, .ref m12, .ref m13, .ref m14, .ref m15, .ref m16, .ref m17, .ref m18, .ref m19, .ref m20, .int eT, .int e1, .int e2, .int e3, .long e4, .int e5]))] s.heap.size = A at hD hY ⊢
  have hA : ∀ q : Nat, s.heap.size ≤ q → A q := fun q h => by rw [← hAe]; exact Or.inr h
  have hS : va_S A s.heap s.heap [] := va_S.rf
  have hP : va_P D vwCl [(h0, .inr (17, [.ref m0, .ref m1, .ref m2, .ref m3, .ref m4, .ref m5, .ref m6, .ref m7, .ref m8, .ref m9, .ref m10, .ref m11, .ref m12, .ref m13, .ref m14, .ref m15, .ref m16, .ref m17, .ref m18, .ref m19, .ref m20, .int eT, .int e1, .int e2, .int e3, .long e4, .int e5]))] s.heap := hP
  have hl := lv_entry ([.ref h0, .int x]) (n := 2) (Nat.le_of_ble_eq_true rfl)
  rw [lg_entry_eq]
  generalize (lg_sl ([.ref h0, .int x]) ++ List.replicate (2 - (lg_sl ([.ref h0, .int x])).length) Slot.unset).toArray = ls at hl ⊢
  have hl : lv_has ls 2 [(0, .ref h0), (1, .int x)] := hl
  refine z_anyQ (fun Q hQe => ?_)
  refine lv_aload_n hx hb dX14_answer_0 rfl (lv_at hl 0 rfl) ?_
  refine lv_iconst (v := 0) hx hb dX14_answer_1 (by decide) ?_
  refine va_put (D := D) (ci := 17) (v := .int 0) (ty := .int) (C := RX14) (T := TX14) (N := 27) hx hb hts iRX14 tyX14 tyX14_ok nmX14 hown hK hP hD hS 0 rfl rfl 21 (by decide) (hts _ q280) (fun _ h9 => h9) rfl (tyX14_ok 21 (by decide)) rfl rfl (Nat.le_of_ble_eq_true rfl) dX14_answer_2 (fun H locs hP hD hS => ?_)
  have hP : va_P D vwCl [(h0, .inr (17, [.ref m0, .ref m1, .ref m2, .ref m3, .ref m4, .ref m5, .ref m6, .ref m7, .ref m8, .ref m9, .ref m10, .ref m11, .ref m12, .ref m13, .ref m14, .ref m15, .ref m16, .ref m17, .ref m18, .ref m19, .ref m20, .int 0, .int e1, .int e2, .int e3, .long e4, .int e5]))] H := hP
  have hD : va_D A [(h0, .inr (17, [.ref m0, .ref m1, .ref m2, .ref m3, .ref m4, .ref m5, .ref m6, .ref m7, .ref m8, .ref m9, .ref m10, .ref m11, .ref m12, .ref m13, .ref m14, .ref m15, .ref m16, .ref m17, .ref m18, .ref m19, .ref m20, .int 0, .int e1, .int e2, .int e3, .long e4, .int e5]))] := hD
  refine lv_iload_n hx hb dX14_answer_5 rfl (lv_at hl 1 rfl) ?_
  have hP9 := hP.sub (ws' := [(h0, .inr (17, [.ref m0, .ref m1, .ref m2, .ref m3, .ref m4, .ref m5, .ref m6, .ref m7, .ref m8, .ref m9, .ref m10, .ref m11, .ref m12, .ref m13, .ref m14, .ref m15, .ref m16, .ref m17, .ref m18, .ref m19, .ref m20, .int 0, .int e1, .int e2, .int e3, .long e4, .int e5]))]) [0] rfl
  have hD9 := hD.sub (ws' := [(h0, .inr (17, [.ref m0, .ref m1, .ref m2, .ref m3, .ref m4, .ref m5, .ref m6, .ref m7, .ref m8, .ref m9, .ref m10, .ref m11, .ref m12, .ref m13, .ref m14, .ref m15, .ref m16, .ref m17, .ref m18, .ref m19, .ref m20, .int 0, .int e1, .int e2, .int e3, .long e4, .int e5]))]) [0] (by decide) rfl
  refine W.widen (k := 0) (n := 0) (Nat.le_of_ble_eq_true rfl) (Nat.le_of_ble_eq_true rfl) ?_
  rw [hQe]
  exact W.iret (v := x) hx hb hr (fun t ht hW => ⟨⟨x, (), rfl, rfl, ⟨by rw [ht]; exact hP9, hD9⟩⟩, hS.F ht⟩) hS.2.2 dX14_answer_6
set_option maxHeartbeats 4000000 in
set_option maxRecDepth 100000 in
theorem k_tellLong (l : Launch) (D : va_G) (cy : Nat → ClassId) (h0 : Nat) (m0 : Nat) (m1 : Nat) (m2 : Nat) (m3 : Nat) (m4 : Nat) (m5 : Nat) (m6 : Nat) (m7 : Nat) (m8 : Nat) (m9 : Nat) (m10 : Nat) (m11 : Nat) (m12 : Nat) (m13 : Nat) (m14 : Nat) (m15 : Nat) (m16 : Nat) (m17 : Nat) (m18 : Nat) (m19 : Nat) (m20 : Nat) (eT : Int32) (e1 : Int32) (e2 : Int32) (e3 : Int32) (e4 : Int64) (e5 : Int32) (x : Int64) (sz : Nat)  : Met l yX14_tellLong (wz yX14_tellLong cX14_tellLong 3 (some .long)) ({ frames := 0, cells := 0, slots := 0, locals := 0 } : Room) (va_Pc [.ref h0, .long x] (zPre vwCl D cy [(h0, .inr (17, [.ref m0, .ref m1, .ref m2, .ref m3, .ref m4, .ref m5, .ref m6, .ref m7, .ref m8, .ref m9, .ref m10, .ref m11, .ref m12, .ref m13, .ref m14, .ref m15, .ref m16, .ref m17, .ref m18, .ref m19, .ref m20, .int eT, .int e1, .int e2, .int e3, .long e4, .int e5]))] sz)) (va_Ql (fun (r : Int64) (_ : Unit) => r = x) (fun (u : Unit) t => zPost vwCl D (va_A [(h0, .inr (17, [.ref m0, .ref m1, .ref m2, .ref m3, .ref m4, .ref m5, .ref m6, .ref m7, .ref m8, .ref m9, .ref m10, .ref m11, .ref m12, .ref m13, .ref m14, .ref m15, .ref m16, .ref m17, .ref m18, .ref m19, .ref m20, .int eT, .int e1, .int e2, .int e3, .long e4, .int e5]))] sz) [(h0, .inr (17, [.ref m0, .ref m1, .ref m2, .ref m3, .ref m4, .ref m5, .ref m6, .ref m7, .ref m8, .ref m9, .ref m10, .ref m11, .ref m12, .ref m13, .ref m14, .ref m15, .ref m16, .ref m17, .ref m18, .ref m19, .ref m20, .int 0, .int e1, .int e2, .int e3, .long e4, .int e5]))] t) (va_A [(h0, .inr (17, [.ref m0, .ref m1, .ref m2, .ref m3, .ref m4, .ref m5, .ref m6, .ref m7, .ref m8, .ref m9, .ref m10, .ref m11, .ref m12, .ref m13, .ref m14, .ref m15, .ref m16, .ref m17, .ref m18, .ref m19, .ref m20, .int eT, .int e1, .int e2, .int e3, .long e4, .int e5]))] sz)) 0 0 (va_A [(h0, .inr (17, [.ref m0, .ref m1, .ref m2, .ref m3, .ref m4, .ref m5, .ref m6, .ref m7, .ref m8, .ref m9, .ref m10, .ref m11, .ref m12, .ref m13, .ref m14, .ref m15, .ref m16, .ref m17, .ref m18, .ref m19, .ref m20, .int eT, .int e1, .int e2, .int e3, .long e4, .int e5]))] sz) := by
  refine Met.ofW (cc := cX14_tellLong) (maxL := 3) (ret := (some .long)) (by decide) rfl ?_
  intro p e s m args below meth c s₁ B hml hv
  obtain ⟨rfl, hsz, hP, hK, hD0, hX, hY⟩ := hv
  have hx := B.exec
  have hb := B.bytes
  have hr := B.returns
  have hts0 := atoms_spec (ws := wz yX14_tellLong cX14_tellLong 3 (some .long)) B.pre
  have hts : ∀ w ∈ wAll, w.before _ s = true := fun w h => hts0 w (List.mem_cons_of_mem _ h)
  have hown : s.vm.findClass RX14 = some m.cls := findClass_of_methodNamed B.named
  have hlocks := B.notSynchronized
  subst hsz
  have hD := hD0.self (sz := s.heap.size)
  generalize hAe : va_A [(h0, .inr (17, [.ref m0, .ref m1, .ref m2, .ref m3, .ref m4, .ref m5, .ref m6, .ref m7, .ref m8, .ref m9, .ref m10, .ref m11, .ref m12, .ref m13, .ref m14, .ref m15, .ref m16, .ref m17, .ref m18, .ref m19, .ref m20, .int eT, .int e1, .int e2, .int e3, .long e4, .int e5]))] s.heap.size = A at hD hY ⊢
  have hA : ∀ q : Nat, s.heap.size ≤ q → A q := fun q h => by rw [← hAe]; exact Or.inr h
  have hS : va_S A s.heap s.heap [] := va_S.rf
  have hP : va_P D vwCl [(h0, .inr (17, [.ref m0, .ref m1, .ref m2, .ref m3, .ref m4, .ref m5, .ref m6, .ref m7, .ref m8, .ref m9, .ref m10, .ref m11, .ref m12, .ref m13, .ref m14, .ref m15, .ref m16, .ref m17, .ref m18, .ref m19, .ref m20, .int eT, .int e1, .int e2, .int e3, .long e4, .int e5]))] s.heap := hP
  have hl := lv_entry ([.ref h0, .long x]) (n := 3) (Nat.le_of_ble_eq_true rfl)
  rw [lg_entry_eq]
  generalize (lg_sl ([.ref h0, .long x]) ++ List.replicate (3 - (lg_sl ([.ref h0, .long x])).length) Slot.unset).toArray = ls at hl ⊢
  have hl : lv_has ls 3 [(0, .ref h0), (1, .long x)] := hl
  refine z_anyQ (fun Q hQe => ?_)
  refine lv_aload_n hx hb dX14_tellLong_0 rfl (lv_at hl 0 rfl) ?_
  refine lv_iconst (v := 0) hx hb dX14_tellLong_1 (by decide) ?_
  refine va_put (D := D) (ci := 17) (v := .int 0) (ty := .int) (C := RX14) (T := TX14) (N := 27) hx hb hts iRX14 tyX14 tyX14_ok nmX14 hown hK hP hD hS 0 rfl rfl 21 (by decide) (hts _ q280) (fun _ h9 => h9) rfl (tyX14_ok 21 (by decide)) rfl rfl (Nat.le_of_ble_eq_true rfl) dX14_tellLong_2 (fun H locs hP hD hS => ?_)
  have hP : va_P D vwCl [(h0, .inr (17, [.ref m0, .ref m1, .ref m2, .ref m3, .ref m4, .ref m5, .ref m6, .ref m7, .ref m8, .ref m9, .ref m10, .ref m11, .ref m12, .ref m13, .ref m14, .ref m15, .ref m16, .ref m17, .ref m18, .ref m19, .ref m20, .int 0, .int e1, .int e2, .int e3, .long e4, .int e5]))] H := hP
  have hD : va_D A [(h0, .inr (17, [.ref m0, .ref m1, .ref m2, .ref m3, .ref m4, .ref m5, .ref m6, .ref m7, .ref m8, .ref m9, .ref m10, .ref m11, .ref m12, .ref m13, .ref m14, .ref m15, .ref m16, .ref m17, .ref m18, .ref m19, .ref m20, .int 0, .int e1, .int e2, .int e3, .long e4, .int e5]))] := hD
  refine lv_lload_n hx hb dX14_tellLong_5 rfl (lv_at hl 1 rfl) ?_
  have hP9 := hP.sub (ws' := [(h0, .inr (17, [.ref m0, .ref m1, .ref m2, .ref m3, .ref m4, .ref m5, .ref m6, .ref m7, .ref m8, .ref m9, .ref m10, .ref m11, .ref m12, .ref m13, .ref m14, .ref m15, .ref m16, .ref m17, .ref m18, .ref m19, .ref m20, .int 0, .int e1, .int e2, .int e3, .long e4, .int e5]))]) [0] rfl
  have hD9 := hD.sub (ws' := [(h0, .inr (17, [.ref m0, .ref m1, .ref m2, .ref m3, .ref m4, .ref m5, .ref m6, .ref m7, .ref m8, .ref m9, .ref m10, .ref m11, .ref m12, .ref m13, .ref m14, .ref m15, .ref m16, .ref m17, .ref m18, .ref m19, .ref m20, .int 0, .int e1, .int e2, .int e3, .long e4, .int e5]))]) [0] (by decide) rfl
  refine W.widen (k := 0) (n := 0) (Nat.le_of_ble_eq_true rfl) (Nat.le_of_ble_eq_true rfl) ?_
  rw [hQe]
  exact W.lret (v := x) hx hb hr (fun t ht hW => ⟨⟨x, (), rfl, rfl, ⟨by rw [ht]; exact hP9, hD9⟩⟩, hS.F ht⟩) hS.2.2 dX14_tellLong_6
set_option maxHeartbeats 4000000 in
set_option maxRecDepth 100000 in
theorem k_refuses (l : Launch) (D : va_G) (cy : Nat → ClassId) (h0 : Nat) (m0 : Nat) (m1 : Nat) (m2 : Nat) (m3 : Nat) (m4 : Nat) (m5 : Nat) (m6 : Nat) (m7 : Nat) (m8 : Nat) (m9 : Nat) (m10 : Nat) (m11 : Nat) (m12 : Nat) (m13 : Nat) (m14 : Nat) (m15 : Nat) (m16 : Nat) (m17 : Nat) (m18 : Nat) (m19 : Nat) (m20 : Nat) (eT : Int32) (e1 : Int32) (e2 : Int32) (e3 : Int32) (e4 : Int64) (e5 : Int32) (x : Int32) (sz : Nat)  : Met l yX14_refuses (wz yX14_refuses cX14_refuses 2 (some .boolean)) ({ frames := 0, cells := 0, slots := 0, locals := 0 } : Room) (va_Pc [.ref h0, .int x] (zPre vwCl D cy [(h0, .inr (17, [.ref m0, .ref m1, .ref m2, .ref m3, .ref m4, .ref m5, .ref m6, .ref m7, .ref m8, .ref m9, .ref m10, .ref m11, .ref m12, .ref m13, .ref m14, .ref m15, .ref m16, .ref m17, .ref m18, .ref m19, .ref m20, .int eT, .int e1, .int e2, .int e3, .long e4, .int e5]))] sz)) (va_Qi (fun (r : Int32) (_ : Unit) => r = 0) (fun (u : Unit) t => zPost vwCl D (va_A [(h0, .inr (17, [.ref m0, .ref m1, .ref m2, .ref m3, .ref m4, .ref m5, .ref m6, .ref m7, .ref m8, .ref m9, .ref m10, .ref m11, .ref m12, .ref m13, .ref m14, .ref m15, .ref m16, .ref m17, .ref m18, .ref m19, .ref m20, .int eT, .int e1, .int e2, .int e3, .long e4, .int e5]))] sz) [(h0, .inr (17, [.ref m0, .ref m1, .ref m2, .ref m3, .ref m4, .ref m5, .ref m6, .ref m7, .ref m8, .ref m9, .ref m10, .ref m11, .ref m12, .ref m13, .ref m14, .ref m15, .ref m16, .ref m17, .ref m18, .ref m19, .ref m20, .int x, .int e1, .int e2, .int e3, .long e4, .int e5]))] t) (va_A [(h0, .inr (17, [.ref m0, .ref m1, .ref m2, .ref m3, .ref m4, .ref m5, .ref m6, .ref m7, .ref m8, .ref m9, .ref m10, .ref m11, .ref m12, .ref m13, .ref m14, .ref m15, .ref m16, .ref m17, .ref m18, .ref m19, .ref m20, .int eT, .int e1, .int e2, .int e3, .long e4, .int e5]))] sz)) 0 0 (va_A [(h0, .inr (17, [.ref m0, .ref m1, .ref m2, .ref m3, .ref m4, .ref m5, .ref m6, .ref m7, .ref m8, .ref m9, .ref m10, .ref m11, .ref m12, .ref m13, .ref m14, .ref m15, .ref m16, .ref m17, .ref m18, .ref m19, .ref m20, .int eT, .int e1, .int e2, .int e3, .long e4, .int e5]))] sz) := by
  refine Met.ofW (cc := cX14_refuses) (maxL := 2) (ret := (some .boolean)) (by decide) rfl ?_
  intro p e s m args below meth c s₁ B hml hv
  obtain ⟨rfl, hsz, hP, hK, hD0, hX, hY⟩ := hv
  have hx := B.exec
  have hb := B.bytes
  have hr := B.returns
  have hts0 := atoms_spec (ws := wz yX14_refuses cX14_refuses 2 (some .boolean)) B.pre
  have hts : ∀ w ∈ wAll, w.before _ s = true := fun w h => hts0 w (List.mem_cons_of_mem _ h)
  have hown : s.vm.findClass RX14 = some m.cls := findClass_of_methodNamed B.named
  have hlocks := B.notSynchronized
  subst hsz
  have hD := hD0.self (sz := s.heap.size)
  generalize hAe : va_A [(h0, .inr (17, [.ref m0, .ref m1, .ref m2, .ref m3, .ref m4, .ref m5, .ref m6, .ref m7, .ref m8, .ref m9, .ref m10, .ref m11, .ref m12, .ref m13, .ref m14, .ref m15, .ref m16, .ref m17, .ref m18, .ref m19, .ref m20, .int eT, .int e1, .int e2, .int e3, .long e4, .int e5]))] s.heap.size = A at hD hY ⊢
  have hA : ∀ q : Nat, s.heap.size ≤ q → A q := fun q h => by rw [← hAe]; exact Or.inr h
  have hS : va_S A s.heap s.heap [] := va_S.rf
  have hP : va_P D vwCl [(h0, .inr (17, [.ref m0, .ref m1, .ref m2, .ref m3, .ref m4, .ref m5, .ref m6, .ref m7, .ref m8, .ref m9, .ref m10, .ref m11, .ref m12, .ref m13, .ref m14, .ref m15, .ref m16, .ref m17, .ref m18, .ref m19, .ref m20, .int eT, .int e1, .int e2, .int e3, .long e4, .int e5]))] s.heap := hP
  have hl := lv_entry ([.ref h0, .int x]) (n := 2) (Nat.le_of_ble_eq_true rfl)
  rw [lg_entry_eq]
  generalize (lg_sl ([.ref h0, .int x]) ++ List.replicate (2 - (lg_sl ([.ref h0, .int x])).length) Slot.unset).toArray = ls at hl ⊢
  have hl : lv_has ls 2 [(0, .ref h0), (1, .int x)] := hl
  refine z_anyQ (fun Q hQe => ?_)
  refine lv_aload_n hx hb dX14_refuses_0 rfl (lv_at hl 0 rfl) ?_
  refine lv_iload_n hx hb dX14_refuses_1 rfl (lv_at hl 1 rfl) ?_
  refine va_put (D := D) (ci := 17) (v := .int x) (ty := .int) (C := RX14) (T := TX14) (N := 27) hx hb hts iRX14 tyX14 tyX14_ok nmX14 hown hK hP hD hS 0 rfl rfl 21 (by decide) (hts _ q280) (fun _ h9 => h9) rfl (tyX14_ok 21 (by decide)) rfl rfl (Nat.le_of_ble_eq_true rfl) dX14_refuses_2 (fun H locs hP hD hS => ?_)
  have hP : va_P D vwCl [(h0, .inr (17, [.ref m0, .ref m1, .ref m2, .ref m3, .ref m4, .ref m5, .ref m6, .ref m7, .ref m8, .ref m9, .ref m10, .ref m11, .ref m12, .ref m13, .ref m14, .ref m15, .ref m16, .ref m17, .ref m18, .ref m19, .ref m20, .int x, .int e1, .int e2, .int e3, .long e4, .int e5]))] H := hP
  have hD : va_D A [(h0, .inr (17, [.ref m0, .ref m1, .ref m2, .ref m3, .ref m4, .ref m5, .ref m6, .ref m7, .ref m8, .ref m9, .ref m10, .ref m11, .ref m12, .ref m13, .ref m14, .ref m15, .ref m16, .ref m17, .ref m18, .ref m19, .ref m20, .int x, .int e1, .int e2, .int e3, .long e4, .int e5]))] := hD
  refine lv_iconst (v := 0) hx hb dX14_refuses_5 (by decide) ?_
  have hP9 := hP.sub (ws' := [(h0, .inr (17, [.ref m0, .ref m1, .ref m2, .ref m3, .ref m4, .ref m5, .ref m6, .ref m7, .ref m8, .ref m9, .ref m10, .ref m11, .ref m12, .ref m13, .ref m14, .ref m15, .ref m16, .ref m17, .ref m18, .ref m19, .ref m20, .int x, .int e1, .int e2, .int e3, .long e4, .int e5]))]) [0] rfl
  have hD9 := hD.sub (ws' := [(h0, .inr (17, [.ref m0, .ref m1, .ref m2, .ref m3, .ref m4, .ref m5, .ref m6, .ref m7, .ref m8, .ref m9, .ref m10, .ref m11, .ref m12, .ref m13, .ref m14, .ref m15, .ref m16, .ref m17, .ref m18, .ref m19, .ref m20, .int x, .int e1, .int e2, .int e3, .long e4, .int e5]))]) [0] (by decide) rfl
  refine W.widen (k := 0) (n := 0) (Nat.le_of_ble_eq_true rfl) (Nat.le_of_ble_eq_true rfl) ?_
  rw [hQe]
  exact W.zret (v := 0) hx hb hr rfl (fun t ht hW => ⟨⟨0, (), rfl, rfl, ⟨by rw [ht]; exact hP9, hD9⟩⟩, hS.F ht⟩) hS.2.2 dX14_refuses_6
set_option maxHeartbeats 4000000 in
set_option maxRecDepth 100000 in
theorem k_tells (l : Launch) (D : va_G) (cy : Nat → ClassId) (h0 : Nat) (m0 : Nat) (m1 : Nat) (m2 : Nat) (m3 : Nat) (m4 : Nat) (m5 : Nat) (m6 : Nat) (m7 : Nat) (m8 : Nat) (m9 : Nat) (m10 : Nat) (m11 : Nat) (m12 : Nat) (m13 : Nat) (m14 : Nat) (m15 : Nat) (m16 : Nat) (m17 : Nat) (m18 : Nat) (m19 : Nat) (m20 : Nat) (eT : Int32) (e1 : Int32) (e2 : Int32) (e3 : Int32) (e4 : Int64) (e5 : Int32) (sz : Nat)  : Met l yX14_tells (wz yX14_tells cX14_tells 2 (some .boolean)) ({ frames := 0, cells := 0, slots := 0, locals := 0 } : Room) (va_Pc [.ref h0, .int 1] (zPre vwCl D cy [(h0, .inr (17, [.ref m0, .ref m1, .ref m2, .ref m3, .ref m4, .ref m5, .ref m6, .ref m7, .ref m8, .ref m9, .ref m10, .ref m11, .ref m12, .ref m13, .ref m14, .ref m15, .ref m16, .ref m17, .ref m18, .ref m19, .ref m20, .int eT, .int e1, .int e2, .int e3, .long e4, .int e5]))] sz)) (va_Qi (fun (r : Int32) (_ : Unit) => r = 1) (fun (u : Unit) t => zPost vwCl D (va_A [(h0, .inr (17, [.ref m0, .ref m1, .ref m2, .ref m3, .ref m4, .ref m5, .ref m6, .ref m7, .ref m8, .ref m9, .ref m10, .ref m11, .ref m12, .ref m13, .ref m14, .ref m15, .ref m16, .ref m17, .ref m18, .ref m19, .ref m20, .int eT, .int e1, .int e2, .int e3, .long e4, .int e5]))] sz) [(h0, .inr (17, [.ref m0, .ref m1, .ref m2, .ref m3, .ref m4, .ref m5, .ref m6, .ref m7, .ref m8, .ref m9, .ref m10, .ref m11, .ref m12, .ref m13, .ref m14, .ref m15, .ref m16, .ref m17, .ref m18, .ref m19, .ref m20, .int 0, .int e1, .int e2, .int e3, .long e4, .int e5]))] t) (va_A [(h0, .inr (17, [.ref m0, .ref m1, .ref m2, .ref m3, .ref m4, .ref m5, .ref m6, .ref m7, .ref m8, .ref m9, .ref m10, .ref m11, .ref m12, .ref m13, .ref m14, .ref m15, .ref m16, .ref m17, .ref m18, .ref m19, .ref m20, .int eT, .int e1, .int e2, .int e3, .long e4, .int e5]))] sz)) 0 0 (va_A [(h0, .inr (17, [.ref m0, .ref m1, .ref m2, .ref m3, .ref m4, .ref m5, .ref m6, .ref m7, .ref m8, .ref m9, .ref m10, .ref m11, .ref m12, .ref m13, .ref m14, .ref m15, .ref m16, .ref m17, .ref m18, .ref m19, .ref m20, .int eT, .int e1, .int e2, .int e3, .long e4, .int e5]))] sz) := by
  refine Met.ofW (cc := cX14_tells) (maxL := 2) (ret := (some .boolean)) (by decide) rfl ?_
  intro p e s m args below meth c s₁ B hml hv
  obtain ⟨rfl, hsz, hP, hK, hD0, hX, hY⟩ := hv
  have hx := B.exec
  have hb := B.bytes
  have hr := B.returns
  have hts0 := atoms_spec (ws := wz yX14_tells cX14_tells 2 (some .boolean)) B.pre
  have hts : ∀ w ∈ wAll, w.before _ s = true := fun w h => hts0 w (List.mem_cons_of_mem _ h)
  have hown : s.vm.findClass RX14 = some m.cls := findClass_of_methodNamed B.named
  have hlocks := B.notSynchronized
  subst hsz
  have hD := hD0.self (sz := s.heap.size)
  generalize hAe : va_A [(h0, .inr (17, [.ref m0, .ref m1, .ref m2, .ref m3, .ref m4, .ref m5, .ref m6, .ref m7, .ref m8, .ref m9, .ref m10, .ref m11, .ref m12, .ref m13, .ref m14, .ref m15, .ref m16, .ref m17, .ref m18, .ref m19, .ref m20, .int eT, .int e1, .int e2, .int e3, .long e4, .int e5]))] s.heap.size = A at hD hY ⊢
  have hA : ∀ q : Nat, s.heap.size ≤ q → A q := fun q h => by rw [← hAe]; exact Or.inr h
  have hS : va_S A s.heap s.heap [] := va_S.rf
  have hP : va_P D vwCl [(h0, .inr (17, [.ref m0, .ref m1, .ref m2, .ref m3, .ref m4, .ref m5, .ref m6, .ref m7, .ref m8, .ref m9, .ref m10, .ref m11, .ref m12, .ref m13, .ref m14, .ref m15, .ref m16, .ref m17, .ref m18, .ref m19, .ref m20, .int eT, .int e1, .int e2, .int e3, .long e4, .int e5]))] s.heap := hP
  have hl := lv_entry ([.ref h0, .int 1]) (n := 2) (Nat.le_of_ble_eq_true rfl)
  rw [lg_entry_eq]
  generalize (lg_sl ([.ref h0, .int 1]) ++ List.replicate (2 - (lg_sl ([.ref h0, .int 1])).length) Slot.unset).toArray = ls at hl ⊢
  have hl : lv_has ls 2 [(0, .ref h0), (1, .int 1)] := hl
  refine z_anyQ (fun Q hQe => ?_)
  refine lv_aload_n hx hb dX14_tells_0 rfl (lv_at hl 0 rfl) ?_
  refine lv_iconst (v := 0) hx hb dX14_tells_1 (by decide) ?_
  refine va_put (D := D) (ci := 17) (v := .int 0) (ty := .int) (C := RX14) (T := TX14) (N := 27) hx hb hts iRX14 tyX14 tyX14_ok nmX14 hown hK hP hD hS 0 rfl rfl 21 (by decide) (hts _ q280) (fun _ h9 => h9) rfl (tyX14_ok 21 (by decide)) rfl rfl (Nat.le_of_ble_eq_true rfl) dX14_tells_2 (fun H locs hP hD hS => ?_)
  have hP : va_P D vwCl [(h0, .inr (17, [.ref m0, .ref m1, .ref m2, .ref m3, .ref m4, .ref m5, .ref m6, .ref m7, .ref m8, .ref m9, .ref m10, .ref m11, .ref m12, .ref m13, .ref m14, .ref m15, .ref m16, .ref m17, .ref m18, .ref m19, .ref m20, .int 0, .int e1, .int e2, .int e3, .long e4, .int e5]))] H := hP
  have hD : va_D A [(h0, .inr (17, [.ref m0, .ref m1, .ref m2, .ref m3, .ref m4, .ref m5, .ref m6, .ref m7, .ref m8, .ref m9, .ref m10, .ref m11, .ref m12, .ref m13, .ref m14, .ref m15, .ref m16, .ref m17, .ref m18, .ref m19, .ref m20, .int 0, .int e1, .int e2, .int e3, .long e4, .int e5]))] := hD
  refine lv_iload_n hx hb dX14_tells_5 rfl (lv_at hl 1 rfl) ?_
  have hP9 := hP.sub (ws' := [(h0, .inr (17, [.ref m0, .ref m1, .ref m2, .ref m3, .ref m4, .ref m5, .ref m6, .ref m7, .ref m8, .ref m9, .ref m10, .ref m11, .ref m12, .ref m13, .ref m14, .ref m15, .ref m16, .ref m17, .ref m18, .ref m19, .ref m20, .int 0, .int e1, .int e2, .int e3, .long e4, .int e5]))]) [0] rfl
  have hD9 := hD.sub (ws' := [(h0, .inr (17, [.ref m0, .ref m1, .ref m2, .ref m3, .ref m4, .ref m5, .ref m6, .ref m7, .ref m8, .ref m9, .ref m10, .ref m11, .ref m12, .ref m13, .ref m14, .ref m15, .ref m16, .ref m17, .ref m18, .ref m19, .ref m20, .int 0, .int e1, .int e2, .int e3, .long e4, .int e5]))]) [0] (by decide) rfl
  refine W.widen (k := 0) (n := 0) (Nat.le_of_ble_eq_true rfl) (Nat.le_of_ble_eq_true rfl) ?_
  rw [hQe]
  exact W.zret (v := 1) hx hb hr rfl (fun t ht hW => ⟨⟨1, (), rfl, rfl, ⟨by rw [ht]; exact hP9, hD9⟩⟩, hS.F ht⟩) hS.2.2 dX14_tells_6
set_option maxHeartbeats 4000000 in
set_option maxRecDepth 100000 in
/-- in range -/
theorem k_in_T (l : Launch) (D : va_G) (cy : Nat → ClassId) (v : Int64) (lo : Int64) (hi : Int64) (sz : Nat) (h1 : ¬ v < lo) (h2 : ¬ hi < v) : Met l yX14_in (wz yX14_in cX14_in 6 (some .boolean)) ({ frames := 0, cells := 0, slots := 0, locals := 0 } : Room) (va_Pc [.long v, .long lo, .long hi] (zPre vwCl D cy [] sz)) (va_Qi (fun (r : Int32) (_ : Unit) => r = 1) (fun (u : Unit) t => zPost vwCl D (va_A [] sz) [] t) (va_A [] sz)) 0 0 (va_A [] sz) := by
  refine Met.ofW (cc := cX14_in) (maxL := 6) (ret := (some .boolean)) (by decide) rfl ?_
  intro p e s m args below meth c s₁ B hml hv
  obtain ⟨rfl, hsz, hP, hK, hD0, hX, hY⟩ := hv
  have hx := B.exec
  have hb := B.bytes
  have hr := B.returns
  have hts0 := atoms_spec (ws := wz yX14_in cX14_in 6 (some .boolean)) B.pre
  have hts : ∀ w ∈ wAll, w.before _ s = true := fun w h => hts0 w (List.mem_cons_of_mem _ h)
  have hown : s.vm.findClass RX14 = some m.cls := findClass_of_methodNamed B.named
  have hlocks := B.notSynchronized
  subst hsz
  have hD := hD0.self (sz := s.heap.size)
  generalize hAe : va_A [] s.heap.size = A at hD hY ⊢
  have hA : ∀ q : Nat, s.heap.size ≤ q → A q := fun q h => by rw [← hAe]; exact Or.inr h
  have hS : va_S A s.heap s.heap [] := va_S.rf
  have hP : va_P D vwCl [] s.heap := hP
  have hl := lv_entry ([.long v, .long lo, .long hi]) (n := 6) (Nat.le_of_ble_eq_true rfl)
  rw [lg_entry_eq]
  generalize (lg_sl ([.long v, .long lo, .long hi]) ++ List.replicate (6 - (lg_sl ([.long v, .long lo, .long hi])).length) Slot.unset).toArray = ls at hl ⊢
  have hl : lv_has ls 6 [(0, .long v), (2, .long lo), (4, .long hi)] := hl
  refine z_anyQ (fun Q hQe => ?_)
  refine lv_lload_n hx hb dX14_in_0 rfl (lv_at hl 0 rfl) ?_
  refine lv_lload_n hx hb dX14_in_1 rfl (lv_at hl 1 rfl) ?_
  refine W.lcmp hx hb dX14_in_2 ?_
  refine lv_if_lt (tgt := 17) hx hb dX14_in_3 (by decide) (fun c_3_0 => absurd c_3_0 (z_lgF h1)) (fun _ => ?_)
  refine lv_lload_n hx hb dX14_in_6 rfl (lv_at hl 0 rfl) ?_
  refine lv_lload hx hb dX14_in_7 (lv_at hl 2 rfl) ?_
  refine W.lcmp hx hb dX14_in_9 ?_
  refine lv_if_gt (tgt := 17) hx hb dX14_in_10 (by decide) (fun c_10_1 => absurd c_10_1 (z_lgG h2)) (fun _ => ?_)
  refine lv_iconst (v := 1) hx hb dX14_in_13 (by decide) ?_
  refine lv_goto (tgt := 18) hx hb dX14_in_14 (by decide) ?_
  have hP9 := hP.sub (ws' := []) [] rfl
  have hD9 := hD.sub (ws' := []) [] (by decide) rfl
  refine W.widen (k := 0) (n := 0) (Nat.le_of_ble_eq_true rfl) (Nat.le_of_ble_eq_true rfl) ?_
  rw [hQe]
  exact W.zret (v := 1) hx hb hr rfl (fun t ht hW => ⟨⟨1, (), rfl, rfl, ⟨by rw [ht]; exact hP9, hD9⟩⟩, hS.F ht⟩) hS.2.2 dX14_in_18
set_option maxHeartbeats 4000000 in
set_option maxRecDepth 100000 in
/-- not in range -/
theorem k_in_F (l : Launch) (D : va_G) (cy : Nat → ClassId) (v : Int64) (lo : Int64) (hi : Int64) (sz : Nat) (hq0 : v < lo ∨ hi < v) : Met l yX14_in (wz yX14_in cX14_in 6 (some .boolean)) ({ frames := 0, cells := 0, slots := 0, locals := 0 } : Room) (va_Pc [.long v, .long lo, .long hi] (zPre vwCl D cy [] sz)) (va_Qi (fun (r : Int32) (_ : Unit) => r = 0) (fun (u : Unit) t => zPost vwCl D (va_A [] sz) [] t) (va_A [] sz)) 0 0 (va_A [] sz) := by
  refine Met.ofW (cc := cX14_in) (maxL := 6) (ret := (some .boolean)) (by decide) rfl ?_
  intro p e s m args below meth c s₁ B hml hv
  obtain ⟨rfl, hsz, hP, hK, hD0, hX, hY⟩ := hv
  have hx := B.exec
  have hb := B.bytes
  have hr := B.returns
  have hts0 := atoms_spec (ws := wz yX14_in cX14_in 6 (some .boolean)) B.pre
  have hts : ∀ w ∈ wAll, w.before _ s = true := fun w h => hts0 w (List.mem_cons_of_mem _ h)
  have hown : s.vm.findClass RX14 = some m.cls := findClass_of_methodNamed B.named
  have hlocks := B.notSynchronized
  subst hsz
  have hD := hD0.self (sz := s.heap.size)
  generalize hAe : va_A [] s.heap.size = A at hD hY ⊢
  have hA : ∀ q : Nat, s.heap.size ≤ q → A q := fun q h => by rw [← hAe]; exact Or.inr h
  have hS : va_S A s.heap s.heap [] := va_S.rf
  have hP : va_P D vwCl [] s.heap := hP
  have hl := lv_entry ([.long v, .long lo, .long hi]) (n := 6) (Nat.le_of_ble_eq_true rfl)
  rw [lg_entry_eq]
  generalize (lg_sl ([.long v, .long lo, .long hi]) ++ List.replicate (6 - (lg_sl ([.long v, .long lo, .long hi])).length) Slot.unset).toArray = ls at hl ⊢
  have hl : lv_has ls 6 [(0, .long v), (2, .long lo), (4, .long hi)] := hl
  refine z_anyQ (fun Q hQe => ?_)
  refine lv_lload_n hx hb dX14_in_0 rfl (lv_at hl 0 rfl) ?_
  refine lv_lload_n hx hb dX14_in_1 rfl (lv_at hl 1 rfl) ?_
  refine W.lcmp hx hb dX14_in_2 ?_
  refine lv_if_lt (tgt := 17) hx hb dX14_in_3 (by decide) (fun c_3_0 => ?_) (fun c_3_0 => ?_)
  · skip
    refine lv_iconst (v := 0) hx hb dX14_in_17 (by decide) ?_
    have hP9 := hP.sub (ws' := []) [] rfl
    have hD9 := hD.sub (ws' := []) [] (by decide) rfl
    refine W.widen (k := 0) (n := 0) (Nat.le_of_ble_eq_true rfl) (Nat.le_of_ble_eq_true rfl) ?_
    rw [hQe]
    exact W.zret (v := 0) hx hb hr rfl (fun t ht hW => ⟨⟨0, (), rfl, rfl, ⟨by rw [ht]; exact hP9, hD9⟩⟩, hS.F ht⟩) hS.2.2 dX14_in_18
  · skip
    have c1 := c_3_0
    refine lv_lload_n hx hb dX14_in_6 rfl (lv_at hl 0 rfl) ?_
    refine lv_lload hx hb dX14_in_7 (lv_at hl 2 rfl) ?_
    refine W.lcmp hx hb dX14_in_9 ?_
    refine lv_if_gt (tgt := 17) hx hb dX14_in_10 (by decide) (fun _ => ?_) (fun c_10_1 => absurd ((lg_cmp_gt _ _).mpr (hq0.resolve_left (mt (lg_cmp_lt _ _).mpr c1))) c_10_1)
    refine lv_iconst (v := 0) hx hb dX14_in_17 (by decide) ?_
    have hP9 := hP.sub (ws' := []) [] rfl
    have hD9 := hD.sub (ws' := []) [] (by decide) rfl
    refine W.widen (k := 0) (n := 0) (Nat.le_of_ble_eq_true rfl) (Nat.le_of_ble_eq_true rfl) ?_
    rw [hQe]
    exact W.zret (v := 0) hx hb hr rfl (fun t ht hW => ⟨⟨0, (), rfl, rfl, ⟨by rw [ht]; exact hP9, hD9⟩⟩, hS.F ht⟩) hS.2.2 dX14_in_18
set_option maxHeartbeats 4000000 in
set_option maxRecDepth 100000 in
theorem k_isStation (l : Launch) (D : va_G) (cy : Nat → ClassId) (h0 : Nat) (m0 : Nat) (m1 : Nat) (m2 : Nat) (m3 : Nat) (m4 : Nat) (m5 : Nat) (m6 : Nat) (m7 : Nat) (m8 : Nat) (m9 : Nat) (m10 : Nat) (m11 : Nat) (m12 : Nat) (m13 : Nat) (m14 : Nat) (m15 : Nat) (m16 : Nat) (m17 : Nat) (m18 : Nat) (m19 : Nat) (m20 : Nat) (x : Int32) (sz : Nat)  : Met l yX14_isStation (wz yX14_isStation cX14_isStation 2 (some .boolean)) ({ frames := 1, cells := 0, slots := 0, locals := 25 } : Room) (va_Pc [.ref h0, .int x] (zPre vwCl D cy [(h0, .inr (17, [.ref m0, .ref m1, .ref m2, .ref m3, .ref m4, .ref m5, .ref m6, .ref m7, .ref m8, .ref m9, .ref m10, .ref m11, .ref m12, .ref m13, .ref m14, .ref m15, .ref m16, .ref m17, .ref m18, .ref m19, .ref m20, .int 0, .int 0, .int 0, .int 0, .long 0, .int 0]))] sz)) (va_Qi (fun (r : Int32) (_ : Unit) => r = 0) (fun (u : Unit) t => zPost vwCl D (va_A [(h0, .inr (17, [.ref m0, .ref m1, .ref m2, .ref m3, .ref m4, .ref m5, .ref m6, .ref m7, .ref m8, .ref m9, .ref m10, .ref m11, .ref m12, .ref m13, .ref m14, .ref m15, .ref m16, .ref m17, .ref m18, .ref m19, .ref m20, .int 0, .int 0, .int 0, .int 0, .long 0, .int 0]))] sz) [(h0, .inr (17, [.ref m0, .ref m1, .ref m2, .ref m3, .ref m4, .ref m5, .ref m6, .ref m7, .ref m8, .ref m9, .ref m10, .ref m11, .ref m12, .ref m13, .ref m14, .ref m15, .ref m16, .ref m17, .ref m18, .ref m19, .ref m20, .int 0, .int 0, .int 0, .int 0, .long 0, .int 0]))] t) (va_A [(h0, .inr (17, [.ref m0, .ref m1, .ref m2, .ref m3, .ref m4, .ref m5, .ref m6, .ref m7, .ref m8, .ref m9, .ref m10, .ref m11, .ref m12, .ref m13, .ref m14, .ref m15, .ref m16, .ref m17, .ref m18, .ref m19, .ref m20, .int 0, .int 0, .int 0, .int 0, .long 0, .int 0]))] sz)) 0 0 (va_A [(h0, .inr (17, [.ref m0, .ref m1, .ref m2, .ref m3, .ref m4, .ref m5, .ref m6, .ref m7, .ref m8, .ref m9, .ref m10, .ref m11, .ref m12, .ref m13, .ref m14, .ref m15, .ref m16, .ref m17, .ref m18, .ref m19, .ref m20, .int 0, .int 0, .int 0, .int 0, .long 0, .int 0]))] sz) := by
  refine Met.ofW (cc := cX14_isStation) (maxL := 2) (ret := (some .boolean)) (by decide) rfl ?_
  intro p e s m args below meth c s₁ B hml hv
  obtain ⟨rfl, hsz, hP, hK, hD0, hX, hY⟩ := hv
  have hx := B.exec
  have hb := B.bytes
  have hr := B.returns
  have hts0 := atoms_spec (ws := wz yX14_isStation cX14_isStation 2 (some .boolean)) B.pre
  have hts : ∀ w ∈ wAll, w.before _ s = true := fun w h => hts0 w (List.mem_cons_of_mem _ h)
  have hown : s.vm.findClass RX14 = some m.cls := findClass_of_methodNamed B.named
  have hlocks := B.notSynchronized
  subst hsz
  have hD := hD0.self (sz := s.heap.size)
  generalize hAe : va_A [(h0, .inr (17, [.ref m0, .ref m1, .ref m2, .ref m3, .ref m4, .ref m5, .ref m6, .ref m7, .ref m8, .ref m9, .ref m10, .ref m11, .ref m12, .ref m13, .ref m14, .ref m15, .ref m16, .ref m17, .ref m18, .ref m19, .ref m20, .int 0, .int 0, .int 0, .int 0, .long 0, .int 0]))] s.heap.size = A at hD hY ⊢
  have hA : ∀ q : Nat, s.heap.size ≤ q → A q := fun q h => by rw [← hAe]; exact Or.inr h
  have hS : va_S A s.heap s.heap [] := va_S.rf
  have hP : va_P D vwCl [(h0, .inr (17, [.ref m0, .ref m1, .ref m2, .ref m3, .ref m4, .ref m5, .ref m6, .ref m7, .ref m8, .ref m9, .ref m10, .ref m11, .ref m12, .ref m13, .ref m14, .ref m15, .ref m16, .ref m17, .ref m18, .ref m19, .ref m20, .int 0, .int 0, .int 0, .int 0, .long 0, .int 0]))] s.heap := hP
  have hl := lv_entry ([.ref h0, .int x]) (n := 2) (Nat.le_of_ble_eq_true rfl)
  rw [lg_entry_eq]
  generalize (lg_sl ([.ref h0, .int x]) ++ List.replicate (2 - (lg_sl ([.ref h0, .int x])).length) Slot.unset).toArray = ls at hl ⊢
  have hl : lv_has ls 2 [(0, .ref h0), (1, .int x)] := hl
  refine z_anyQ (fun Q hQe => ?_)
  refine lv_iload_n hx hb dX14_isStation_0 rfl (lv_at hl 1 rfl) ?_
  refine lv_i2l (v := x.toInt64) hx hb dX14_isStation_1 rfl ?_
  refine lv_lconst (v := 0) hx hb dX14_isStation_2 rfl ?_
  refine lv_aload_n hx hb dX14_isStation_3 rfl (lv_at hl 0 rfl) ?_
  refine va_get (D := D) (ci := 17) (v := .int 0) (C := RX14) (T := TX14) (N := 27) hx hb hts iRX14 hown hK hP 0 rfl rfl 22 (by decide) (hts _ q281) (fun _ h9 => h9) rfl dX14_isStation_4 ?_
  refine lv_iconst (v := 1) hx hb dX14_isStation_7 (by decide) ?_
  refine lv_isub hx hb dX14_isStation_8 ?_
  refine lv_topi (fun y1 ey1 => ?_)
  obtain rfl : y1 = (-1) := ey1.trans (by decide +kernel)
  refine lv_i2l (v := (-1)) hx hb dX14_isStation_9 (by decide) ?_
  refine zq_i (wc := []) (wr := [(h0, .inr (17, [.ref m0, .ref m1, .ref m2, .ref m3, .ref m4, .ref m5, .ref m6, .ref m7, .ref m8, .ref m9, .ref m10, .ref m11, .ref m12, .ref m13, .ref m14, .ref m15, .ref m16, .ref m17, .ref m18, .ref m19, .ref m20, .int 0, .int 0, .int 0, .int 0, .long 0, .int 0]))]) (va_runS (As := [.long (x.toInt64), .long 0, .long (-1)]) (rest := []) ⟨hx, hb, hml, hown, hts⟩ (k_in_F l D cy (x.toInt64) 0 (-1) s.heap.size (z_none _)) (va_cwS 3 hts (gzS (gz q283) q282 q284 q285) rfl rfl rfl vX14_in.2 ⟨Nat.le_of_ble_eq_true rfl, Nat.le_of_ble_eq_true rfl⟩) (zpS hK hX hY hP hD hS hA [] (by decide) rfl) rfl rfl hl.1 rfl (lv_room (Nat.le_of_ble_eq_true rfl)) dX14_isStation_10 ⟨Nat.le_of_ble_eq_true rfl, Nat.le_of_ble_eq_true rfl⟩) hP hD hS hA [] [0] rfl rfl (by decide) (by decide) (fun x3 u2 H locs hw hP hD hS => ?_)
  obtain rfl : x3 = 0 := hw
  have hP : va_P D vwCl [(h0, .inr (17, [.ref m0, .ref m1, .ref m2, .ref m3, .ref m4, .ref m5, .ref m6, .ref m7, .ref m8, .ref m9, .ref m10, .ref m11, .ref m12, .ref m13, .ref m14, .ref m15, .ref m16, .ref m17, .ref m18, .ref m19, .ref m20, .int 0, .int 0, .int 0, .int 0, .long 0, .int 0]))] H := hP
  have hD : va_D A [(h0, .inr (17, [.ref m0, .ref m1, .ref m2, .ref m3, .ref m4, .ref m5, .ref m6, .ref m7, .ref m8, .ref m9, .ref m10, .ref m11, .ref m12, .ref m13, .ref m14, .ref m15, .ref m16, .ref m17, .ref m18, .ref m19, .ref m20, .int 0, .int 0, .int 0, .int 0, .long 0, .int 0]))] := hD
  have hP9 := hP.sub (ws' := [(h0, .inr (17, [.ref m0, .ref m1, .ref m2, .ref m3, .ref m4, .ref m5, .ref m6, .ref m7, .ref m8, .ref m9, .ref m10, .ref m11, .ref m12, .ref m13, .ref m14, .ref m15, .ref m16, .ref m17, .ref m18, .ref m19, .ref m20, .int 0, .int 0, .int 0, .int 0, .long 0, .int 0]))]) [0] rfl
  have hD9 := hD.sub (ws' := [(h0, .inr (17, [.ref m0, .ref m1, .ref m2, .ref m3, .ref m4, .ref m5, .ref m6, .ref m7, .ref m8, .ref m9, .ref m10, .ref m11, .ref m12, .ref m13, .ref m14, .ref m15, .ref m16, .ref m17, .ref m18, .ref m19, .ref m20, .int 0, .int 0, .int 0, .int 0, .long 0, .int 0]))]) [0] (by decide) rfl
  refine W.widen (k := 0) (n := 0) (Nat.le_of_ble_eq_true rfl) (Nat.le_of_ble_eq_true rfl) ?_
  rw [hQe]
  exact W.zret (v := 0) hx hb hr rfl (fun t ht hW => ⟨⟨0, (), rfl, rfl, ⟨by rw [ht]; exact hP9, hD9⟩⟩, hS.F ht⟩) hS.2.2 dX14_isStation_13
set_option maxHeartbeats 4000000 in
set_option maxRecDepth 100000 in
theorem k_isShot (l : Launch) (D : va_G) (cy : Nat → ClassId) (h0 : Nat) (m0 : Nat) (m1 : Nat) (m2 : Nat) (m3 : Nat) (m4 : Nat) (m5 : Nat) (m6 : Nat) (m7 : Nat) (m8 : Nat) (m9 : Nat) (m10 : Nat) (m11 : Nat) (m12 : Nat) (m13 : Nat) (m14 : Nat) (m15 : Nat) (m16 : Nat) (m17 : Nat) (m18 : Nat) (m19 : Nat) (m20 : Nat) (b1 : Nat) (x : Int32) (sz : Nat)  : Met l yX14_isShot (wz yX14_isShot cX14_isShot 2 (some .boolean)) ({ frames := 1, cells := 0, slots := 0, locals := 25 } : Room) (va_Pc [.ref h0, .int x] (zPre vwCl D cy [(h0, .inr (17, [.ref m0, .ref m1, .ref m2, .ref m3, .ref m4, .ref m5, .ref m6, .ref m7, .ref m8, .ref m9, .ref m10, .ref m11, .ref m12, .ref m13, .ref m14, .ref m15, .ref m16, .ref m17, .ref m18, .ref m19, .ref m20, .int 0, .int 0, .int 0, .int 0, .long 0, .int 0])), (m0, .inr (2, [.int 0, .ref b1, .int 0]))] sz)) (va_Qi (fun (r : Int32) (_ : Unit) => r = 0) (fun (u : Unit) t => zPost vwCl D (va_A [(h0, .inr (17, [.ref m0, .ref m1, .ref m2, .ref m3, .ref m4, .ref m5, .ref m6, .ref m7, .ref m8, .ref m9, .ref m10, .ref m11, .ref m12, .ref m13, .ref m14, .ref m15, .ref m16, .ref m17, .ref m18, .ref m19, .ref m20, .int 0, .int 0, .int 0, .int 0, .long 0, .int 0])), (m0, .inr (2, [.int 0, .ref b1, .int 0]))] sz) [(h0, .inr (17, [.ref m0, .ref m1, .ref m2, .ref m3, .ref m4, .ref m5, .ref m6, .ref m7, .ref m8, .ref m9, .ref m10, .ref m11, .ref m12, .ref m13, .ref m14, .ref m15, .ref m16, .ref m17, .ref m18, .ref m19, .ref m20, .int 0, .int 0, .int 0, .int 0, .long 0, .int 0])), (m0, .inr (2, [.int 0, .ref b1, .int 0]))] t) (va_A [(h0, .inr (17, [.ref m0, .ref m1, .ref m2, .ref m3, .ref m4, .ref m5, .ref m6, .ref m7, .ref m8, .ref m9, .ref m10, .ref m11, .ref m12, .ref m13, .ref m14, .ref m15, .ref m16, .ref m17, .ref m18, .ref m19, .ref m20, .int 0, .int 0, .int 0, .int 0, .long 0, .int 0])), (m0, .inr (2, [.int 0, .ref b1, .int 0]))] sz)) 0 0 (va_A [(h0, .inr (17, [.ref m0, .ref m1, .ref m2, .ref m3, .ref m4, .ref m5, .ref m6, .ref m7, .ref m8, .ref m9, .ref m10, .ref m11, .ref m12, .ref m13, .ref m14, .ref m15, .ref m16, .ref m17, .ref m18, .ref m19, .ref m20, .int 0, .int 0, .int 0, .int 0, .long 0, .int 0])), (m0, .inr (2, [.int 0, .ref b1, .int 0]))] sz) := by
  refine Met.ofW (cc := cX14_isShot) (maxL := 2) (ret := (some .boolean)) (by decide) rfl ?_
  intro p e s m args below meth c s₁ B hml hv
  obtain ⟨rfl, hsz, hP, hK, hD0, hX, hY⟩ := hv
  have hx := B.exec
  have hb := B.bytes
  have hr := B.returns
  have hts0 := atoms_spec (ws := wz yX14_isShot cX14_isShot 2 (some .boolean)) B.pre
  have hts : ∀ w ∈ wAll, w.before _ s = true := fun w h => hts0 w (List.mem_cons_of_mem _ h)
  have hown : s.vm.findClass RX14 = some m.cls := findClass_of_methodNamed B.named
  have hlocks := B.notSynchronized
  subst hsz
  have hD := hD0.self (sz := s.heap.size)
  generalize hAe : va_A [(h0, .inr (17, [.ref m0, .ref m1, .ref m2, .ref m3, .ref m4, .ref m5, .ref m6, .ref m7, .ref m8, .ref m9, .ref m10, .ref m11, .ref m12, .ref m13, .ref m14, .ref m15, .ref m16, .ref m17, .ref m18, .ref m19, .ref m20, .int 0, .int 0, .int 0, .int 0, .long 0, .int 0])), (m0, .inr (2, [.int 0, .ref b1, .int 0]))] s.heap.size = A at hD hY ⊢
  have hA : ∀ q : Nat, s.heap.size ≤ q → A q := fun q h => by rw [← hAe]; exact Or.inr h
  have hS : va_S A s.heap s.heap [] := va_S.rf
  have hP : va_P D vwCl [(h0, .inr (17, [.ref m0, .ref m1, .ref m2, .ref m3, .ref m4, .ref m5, .ref m6, .ref m7, .ref m8, .ref m9, .ref m10, .ref m11, .ref m12, .ref m13, .ref m14, .ref m15, .ref m16, .ref m17, .ref m18, .ref m19, .ref m20, .int 0, .int 0, .int 0, .int 0, .long 0, .int 0])), (m0, .inr (2, [.int 0, .ref b1, .int 0]))] s.heap := hP
  have hl := lv_entry ([.ref h0, .int x]) (n := 2) (Nat.le_of_ble_eq_true rfl)
  rw [lg_entry_eq]
  generalize (lg_sl ([.ref h0, .int x]) ++ List.replicate (2 - (lg_sl ([.ref h0, .int x])).length) Slot.unset).toArray = ls at hl ⊢
  have hl : lv_has ls 2 [(0, .ref h0), (1, .int x)] := hl
  refine z_anyQ (fun Q hQe => ?_)
  refine lv_iload_n hx hb dX14_isShot_0 rfl (lv_at hl 1 rfl) ?_
  refine lv_i2l (v := x.toInt64) hx hb dX14_isShot_1 rfl ?_
  refine lv_lconst (v := 0) hx hb dX14_isShot_2 rfl ?_
  refine lv_aload_n hx hb dX14_isShot_3 rfl (lv_at hl 0 rfl) ?_
  refine va_get (D := D) (ci := 17) (v := .ref m0) (C := RX14) (T := TX14) (N := 27) hx hb hts iRX14 hown hK hP 0 rfl rfl 0 (by decide) (hts _ q259) (fun _ h9 => h9) rfl dX14_isShot_4 ?_
  refine zq_i (wc := [(m0, .inr (2, [.int 0, .ref b1, .int 0]))]) (wr := [(h0, .inr (17, [.ref m0, .ref m1, .ref m2, .ref m3, .ref m4, .ref m5, .ref m6, .ref m7, .ref m8, .ref m9, .ref m10, .ref m11, .ref m12, .ref m13, .ref m14, .ref m15, .ref m16, .ref m17, .ref m18, .ref m19, .ref m20, .int 0, .int 0, .int 0, .int 0, .long 0, .int 0]))]) (va_runV (As := []) (rest := [.long 0, .long (x.toInt64)]) ⟨hx, hb, hml, hown, hts⟩ (k_AL_size l D cy m0 b1 s.heap.size ) (cwV 0 hts (gzV (gz q287) q286 q288 q289 q255) rfl rfl rfl vJx4a65c_size_8abf5 ⟨Nat.le_of_ble_eq_true rfl, Nat.le_of_ble_eq_true rfl⟩) (zpV (ci := 2) (T := TJx4a65c) (N := 3) (q0 := 0) hK hX hY hP hD hS hA [1] (by decide) rfl rfl rfl) rfl rfl hl.1 rfl (lv_room (Nat.le_of_ble_eq_true rfl)) dX14_isShot_7 ⟨Nat.le_of_ble_eq_true rfl, Nat.le_of_ble_eq_true rfl⟩) hP hD hS hA [1] [0] rfl rfl (by decide) (by decide) (fun x2 u1 H locs hw hP hD hS => ?_)
  obtain rfl : x2 = 0 := hw
  have hP : va_P D vwCl [(h0, .inr (17, [.ref m0, .ref m1, .ref m2, .ref m3, .ref m4, .ref m5, .ref m6, .ref m7, .ref m8, .ref m9, .ref m10, .ref m11, .ref m12, .ref m13, .ref m14, .ref m15, .ref m16, .ref m17, .ref m18, .ref m19, .ref m20, .int 0, .int 0, .int 0, .int 0, .long 0, .int 0])), (m0, .inr (2, [.int 0, .ref b1, .int 0]))] H := hP
  have hD : va_D A [(h0, .inr (17, [.ref m0, .ref m1, .ref m2, .ref m3, .ref m4, .ref m5, .ref m6, .ref m7, .ref m8, .ref m9, .ref m10, .ref m11, .ref m12, .ref m13, .ref m14, .ref m15, .ref m16, .ref m17, .ref m18, .ref m19, .ref m20, .int 0, .int 0, .int 0, .int 0, .long 0, .int 0])), (m0, .inr (2, [.int 0, .ref b1, .int 0]))] := hD
  refine lv_iconst (v := 1) hx hb dX14_isShot_10 (by decide) ?_
  refine lv_isub hx hb dX14_isShot_11 ?_
  refine lv_topi (fun y3 ey3 => ?_)
  obtain rfl : y3 = (-1) := ey3.trans (by decide +kernel)
  refine lv_i2l (v := (-1)) hx hb dX14_isShot_12 (by decide) ?_
  refine zq_i (wc := []) (wr := [(h0, .inr (17, [.ref m0, .ref m1, .ref m2, .ref m3, .ref m4, .ref m5, .ref m6, .ref m7, .ref m8, .ref m9, .ref m10, .ref m11, .ref m12, .ref m13, .ref m14, .ref m15, .ref m16, .ref m17, .ref m18, .ref m19, .ref m20, .int 0, .int 0, .int 0, .int 0, .long 0, .int 0])), (m0, .inr (2, [.int 0, .ref b1, .int 0]))]) (va_runS (As := [.long (x.toInt64), .long 0, .long (-1)]) (rest := []) ⟨hx, hb, hml, hown, hts⟩ (k_in_F l D cy (x.toInt64) 0 (-1) H.size (z_none _)) (va_cwS 3 hts (gzS (gz q283) q282 q284 q285) rfl rfl rfl vX14_in.2 ⟨Nat.le_of_ble_eq_true rfl, Nat.le_of_ble_eq_true rfl⟩) (zpS hK hX hY hP hD hS hA [] (by decide) rfl) rfl rfl hl.1 rfl (lv_room (Nat.le_of_ble_eq_true rfl)) dX14_isShot_13 ⟨Nat.le_of_ble_eq_true rfl, Nat.le_of_ble_eq_true rfl⟩) hP hD hS hA [] [0, 1] rfl rfl (by decide) (by decide) (fun x5 u4 H locs hw hP hD hS => ?_)
  obtain rfl : x5 = 0 := hw
  have hP : va_P D vwCl [(h0, .inr (17, [.ref m0, .ref m1, .ref m2, .ref m3, .ref m4, .ref m5, .ref m6, .ref m7, .ref m8, .ref m9, .ref m10, .ref m11, .ref m12, .ref m13, .ref m14, .ref m15, .ref m16, .ref m17, .ref m18, .ref m19, .ref m20, .int 0, .int 0, .int 0, .int 0, .long 0, .int 0])), (m0, .inr (2, [.int 0, .ref b1, .int 0]))] H := hP
  have hD : va_D A [(h0, .inr (17, [.ref m0, .ref m1, .ref m2, .ref m3, .ref m4, .ref m5, .ref m6, .ref m7, .ref m8, .ref m9, .ref m10, .ref m11, .ref m12, .ref m13, .ref m14, .ref m15, .ref m16, .ref m17, .ref m18, .ref m19, .ref m20, .int 0, .int 0, .int 0, .int 0, .long 0, .int 0])), (m0, .inr (2, [.int 0, .ref b1, .int 0]))] := hD
  have hP9 := hP.sub (ws' := [(h0, .inr (17, [.ref m0, .ref m1, .ref m2, .ref m3, .ref m4, .ref m5, .ref m6, .ref m7, .ref m8, .ref m9, .ref m10, .ref m11, .ref m12, .ref m13, .ref m14, .ref m15, .ref m16, .ref m17, .ref m18, .ref m19, .ref m20, .int 0, .int 0, .int 0, .int 0, .long 0, .int 0])), (m0, .inr (2, [.int 0, .ref b1, .int 0]))]) [0, 1] rfl
  have hD9 := hD.sub (ws' := [(h0, .inr (17, [.ref m0, .ref m1, .ref m2, .ref m3, .ref m4, .ref m5, .ref m6, .ref m7, .ref m8, .ref m9, .ref m10, .ref m11, .ref m12, .ref m13, .ref m14, .ref m15, .ref m16, .ref m17, .ref m18, .ref m19, .ref m20, .int 0, .int 0, .int 0, .int 0, .long 0, .int 0])), (m0, .inr (2, [.int 0, .ref b1, .int 0]))]) [0, 1] (by decide) rfl
  refine W.widen (k := 0) (n := 0) (Nat.le_of_ble_eq_true rfl) (Nat.le_of_ble_eq_true rfl) ?_
  rw [hQe]
  exact W.zret (v := 0) hx hb hr rfl (fun t ht hW => ⟨⟨0, (), rfl, rfl, ⟨by rw [ht]; exact hP9, hD9⟩⟩, hS.F ht⟩) hS.2.2 dX14_isShot_16
set_option maxHeartbeats 4000000 in
set_option maxRecDepth 100000 in
theorem k_isParty (l : Launch) (D : va_G) (cy : Nat → ClassId) (h0 : Nat) (m0 : Nat) (m1 : Nat) (m2 : Nat) (m3 : Nat) (m4 : Nat) (m5 : Nat) (m6 : Nat) (m7 : Nat) (m8 : Nat) (m9 : Nat) (m10 : Nat) (m11 : Nat) (m12 : Nat) (m13 : Nat) (m14 : Nat) (m15 : Nat) (m16 : Nat) (m17 : Nat) (m18 : Nat) (m19 : Nat) (m20 : Nat) (b2 : Nat) (x : Int32) (sz : Nat)  : Met l yX14_isParty (wz yX14_isParty cX14_isParty 2 (some .boolean)) ({ frames := 1, cells := 0, slots := 0, locals := 25 } : Room) (va_Pc [.ref h0, .int x] (zPre vwCl D cy [(h0, .inr (17, [.ref m0, .ref m1, .ref m2, .ref m3, .ref m4, .ref m5, .ref m6, .ref m7, .ref m8, .ref m9, .ref m10, .ref m11, .ref m12, .ref m13, .ref m14, .ref m15, .ref m16, .ref m17, .ref m18, .ref m19, .ref m20, .int 0, .int 0, .int 0, .int 0, .long 0, .int 0])), (m2, .inr (2, [.int 0, .ref b2, .int 0]))] sz)) (va_Qi (fun (r : Int32) (_ : Unit) => r = 0) (fun (u : Unit) t => zPost vwCl D (va_A [(h0, .inr (17, [.ref m0, .ref m1, .ref m2, .ref m3, .ref m4, .ref m5, .ref m6, .ref m7, .ref m8, .ref m9, .ref m10, .ref m11, .ref m12, .ref m13, .ref m14, .ref m15, .ref m16, .ref m17, .ref m18, .ref m19, .ref m20, .int 0, .int 0, .int 0, .int 0, .long 0, .int 0])), (m2, .inr (2, [.int 0, .ref b2, .int 0]))] sz) [(h0, .inr (17, [.ref m0, .ref m1, .ref m2, .ref m3, .ref m4, .ref m5, .ref m6, .ref m7, .ref m8, .ref m9, .ref m10, .ref m11, .ref m12, .ref m13, .ref m14, .ref m15, .ref m16, .ref m17, .ref m18, .ref m19, .ref m20, .int 0, .int 0, .int 0, .int 0, .long 0, .int 0])), (m2, .inr (2, [.int 0, .ref b2, .int 0]))] t) (va_A [(h0, .inr (17, [.ref m0, .ref m1, .ref m2, .ref m3, .ref m4, .ref m5, .ref m6, .ref m7, .ref m8, .ref m9, .ref m10, .ref m11, .ref m12, .ref m13, .ref m14, .ref m15, .ref m16, .ref m17, .ref m18, .ref m19, .ref m20, .int 0, .int 0, .int 0, .int 0, .long 0, .int 0])), (m2, .inr (2, [.int 0, .ref b2, .int 0]))] sz)) 0 0 (va_A [(h0, .inr (17, [.ref m0, .ref m1, .ref m2, .ref m3, .ref m4, .ref m5, .ref m6, .ref m7, .ref m8, .ref m9, .ref m10, .ref m11, .ref m12, .ref m13, .ref m14, .ref m15, .ref m16, .ref m17, .ref m18, .ref m19, .ref m20, .int 0, .int 0, .int 0, .int 0, .long 0, .int 0])), (m2, .inr (2, [.int 0, .ref b2, .int 0]))] sz) := by
  refine Met.ofW (cc := cX14_isParty) (maxL := 2) (ret := (some .boolean)) (by decide) rfl ?_
  intro p e s m args below meth c s₁ B hml hv
  obtain ⟨rfl, hsz, hP, hK, hD0, hX, hY⟩ := hv
  have hx := B.exec
  have hb := B.bytes
  have hr := B.returns
  have hts0 := atoms_spec (ws := wz yX14_isParty cX14_isParty 2 (some .boolean)) B.pre
  have hts : ∀ w ∈ wAll, w.before _ s = true := fun w h => hts0 w (List.mem_cons_of_mem _ h)
  have hown : s.vm.findClass RX14 = some m.cls := findClass_of_methodNamed B.named
  have hlocks := B.notSynchronized
  subst hsz
  have hD := hD0.self (sz := s.heap.size)
  generalize hAe : va_A [(h0, .inr (17, [.ref m0, .ref m1, .ref m2, .ref m3, .ref m4, .ref m5, .ref m6, .ref m7, .ref m8, .ref m9, .ref m10, .ref m11, .ref m12, .ref m13, .ref m14, .ref m15, .ref m16, .ref m17, .ref m18, .ref m19, .ref m20, .int 0, .int 0, .int 0, .int 0, .long 0, .int 0])), (m2, .inr (2, [.int 0, .ref b2, .int 0]))] s.heap.size = A at hD hY ⊢
  have hA : ∀ q : Nat, s.heap.size ≤ q → A q := fun q h => by rw [← hAe]; exact Or.inr h
  have hS : va_S A s.heap s.heap [] := va_S.rf
  have hP : va_P D vwCl [(h0, .inr (17, [.ref m0, .ref m1, .ref m2, .ref m3, .ref m4, .ref m5, .ref m6, .ref m7, .ref m8, .ref m9, .ref m10, .ref m11, .ref m12, .ref m13, .ref m14, .ref m15, .ref m16, .ref m17, .ref m18, .ref m19, .ref m20, .int 0, .int 0, .int 0, .int 0, .long 0, .int 0])), (m2, .inr (2, [.int 0, .ref b2, .int 0]))] s.heap := hP
  have hl := lv_entry ([.ref h0, .int x]) (n := 2) (Nat.le_of_ble_eq_true rfl)
  rw [lg_entry_eq]
  generalize (lg_sl ([.ref h0, .int x]) ++ List.replicate (2 - (lg_sl ([.ref h0, .int x])).length) Slot.unset).toArray = ls at hl ⊢
  have hl : lv_has ls 2 [(0, .ref h0), (1, .int x)] := hl
  refine z_anyQ (fun Q hQe => ?_)
  refine lv_iload_n hx hb dX14_isParty_0 rfl (lv_at hl 1 rfl) ?_
  refine lv_i2l (v := x.toInt64) hx hb dX14_isParty_1 rfl ?_
  refine lv_lconst (v := 0) hx hb dX14_isParty_2 rfl ?_
  refine lv_aload_n hx hb dX14_isParty_3 rfl (lv_at hl 0 rfl) ?_
  refine va_get (D := D) (ci := 17) (v := .ref m2) (C := RX14) (T := TX14) (N := 27) hx hb hts iRX14 hown hK hP 0 rfl rfl 2 (by decide) (hts _ q261) (fun _ h9 => h9) rfl dX14_isParty_4 ?_
  refine zq_i (wc := [(m2, .inr (2, [.int 0, .ref b2, .int 0]))]) (wr := [(h0, .inr (17, [.ref m0, .ref m1, .ref m2, .ref m3, .ref m4, .ref m5, .ref m6, .ref m7, .ref m8, .ref m9, .ref m10, .ref m11, .ref m12, .ref m13, .ref m14, .ref m15, .ref m16, .ref m17, .ref m18, .ref m19, .ref m20, .int 0, .int 0, .int 0, .int 0, .long 0, .int 0]))]) (va_runV (As := []) (rest := [.long 0, .long (x.toInt64)]) ⟨hx, hb, hml, hown, hts⟩ (k_AL_size l D cy m2 b2 s.heap.size ) (cwV 0 hts (gzV (gz q287) q286 q288 q289 q255) rfl rfl rfl vJx4a65c_size_8abf5 ⟨Nat.le_of_ble_eq_true rfl, Nat.le_of_ble_eq_true rfl⟩) (zpV (ci := 2) (T := TJx4a65c) (N := 3) (q0 := 0) hK hX hY hP hD hS hA [1] (by decide) rfl rfl rfl) rfl rfl hl.1 rfl (lv_room (Nat.le_of_ble_eq_true rfl)) dX14_isParty_7 ⟨Nat.le_of_ble_eq_true rfl, Nat.le_of_ble_eq_true rfl⟩) hP hD hS hA [1] [0] rfl rfl (by decide) (by decide) (fun x2 u1 H locs hw hP hD hS => ?_)
  obtain rfl : x2 = 0 := hw
  have hP : va_P D vwCl [(h0, .inr (17, [.ref m0, .ref m1, .ref m2, .ref m3, .ref m4, .ref m5, .ref m6, .ref m7, .ref m8, .ref m9, .ref m10, .ref m11, .ref m12, .ref m13, .ref m14, .ref m15, .ref m16, .ref m17, .ref m18, .ref m19, .ref m20, .int 0, .int 0, .int 0, .int 0, .long 0, .int 0])), (m2, .inr (2, [.int 0, .ref b2, .int 0]))] H := hP
  have hD : va_D A [(h0, .inr (17, [.ref m0, .ref m1, .ref m2, .ref m3, .ref m4, .ref m5, .ref m6, .ref m7, .ref m8, .ref m9, .ref m10, .ref m11, .ref m12, .ref m13, .ref m14, .ref m15, .ref m16, .ref m17, .ref m18, .ref m19, .ref m20, .int 0, .int 0, .int 0, .int 0, .long 0, .int 0])), (m2, .inr (2, [.int 0, .ref b2, .int 0]))] := hD
  refine lv_iconst (v := 1) hx hb dX14_isParty_10 (by decide) ?_
  refine lv_isub hx hb dX14_isParty_11 ?_
  refine lv_topi (fun y3 ey3 => ?_)
  obtain rfl : y3 = (-1) := ey3.trans (by decide +kernel)
  refine lv_i2l (v := (-1)) hx hb dX14_isParty_12 (by decide) ?_
  refine zq_i (wc := []) (wr := [(h0, .inr (17, [.ref m0, .ref m1, .ref m2, .ref m3, .ref m4, .ref m5, .ref m6, .ref m7, .ref m8, .ref m9, .ref m10, .ref m11, .ref m12, .ref m13, .ref m14, .ref m15, .ref m16, .ref m17, .ref m18, .ref m19, .ref m20, .int 0, .int 0, .int 0, .int 0, .long 0, .int 0])), (m2, .inr (2, [.int 0, .ref b2, .int 0]))]) (va_runS (As := [.long (x.toInt64), .long 0, .long (-1)]) (rest := []) ⟨hx, hb, hml, hown, hts⟩ (k_in_F l D cy (x.toInt64) 0 (-1) H.size (z_none _)) (va_cwS 3 hts (gzS (gz q283) q282 q284 q285) rfl rfl rfl vX14_in.2 ⟨Nat.le_of_ble_eq_true rfl, Nat.le_of_ble_eq_true rfl⟩) (zpS hK hX hY hP hD hS hA [] (by decide) rfl) rfl rfl hl.1 rfl (lv_room (Nat.le_of_ble_eq_true rfl)) dX14_isParty_13 ⟨Nat.le_of_ble_eq_true rfl, Nat.le_of_ble_eq_true rfl⟩) hP hD hS hA [] [0, 1] rfl rfl (by decide) (by decide) (fun x5 u4 H locs hw hP hD hS => ?_)
  obtain rfl : x5 = 0 := hw
  have hP : va_P D vwCl [(h0, .inr (17, [.ref m0, .ref m1, .ref m2, .ref m3, .ref m4, .ref m5, .ref m6, .ref m7, .ref m8, .ref m9, .ref m10, .ref m11, .ref m12, .ref m13, .ref m14, .ref m15, .ref m16, .ref m17, .ref m18, .ref m19, .ref m20, .int 0, .int 0, .int 0, .int 0, .long 0, .int 0])), (m2, .inr (2, [.int 0, .ref b2, .int 0]))] H := hP
  have hD : va_D A [(h0, .inr (17, [.ref m0, .ref m1, .ref m2, .ref m3, .ref m4, .ref m5, .ref m6, .ref m7, .ref m8, .ref m9, .ref m10, .ref m11, .ref m12, .ref m13, .ref m14, .ref m15, .ref m16, .ref m17, .ref m18, .ref m19, .ref m20, .int 0, .int 0, .int 0, .int 0, .long 0, .int 0])), (m2, .inr (2, [.int 0, .ref b2, .int 0]))] := hD
  have hP9 := hP.sub (ws' := [(h0, .inr (17, [.ref m0, .ref m1, .ref m2, .ref m3, .ref m4, .ref m5, .ref m6, .ref m7, .ref m8, .ref m9, .ref m10, .ref m11, .ref m12, .ref m13, .ref m14, .ref m15, .ref m16, .ref m17, .ref m18, .ref m19, .ref m20, .int 0, .int 0, .int 0, .int 0, .long 0, .int 0])), (m2, .inr (2, [.int 0, .ref b2, .int 0]))]) [0, 1] rfl
  have hD9 := hD.sub (ws' := [(h0, .inr (17, [.ref m0, .ref m1, .ref m2, .ref m3, .ref m4, .ref m5, .ref m6, .ref m7, .ref m8, .ref m9, .ref m10, .ref m11, .ref m12, .ref m13, .ref m14, .ref m15, .ref m16, .ref m17, .ref m18, .ref m19, .ref m20, .int 0, .int 0, .int 0, .int 0, .long 0, .int 0])), (m2, .inr (2, [.int 0, .ref b2, .int 0]))]) [0, 1] (by decide) rfl
  refine W.widen (k := 0) (n := 0) (Nat.le_of_ble_eq_true rfl) (Nat.le_of_ble_eq_true rfl) ?_
  rw [hQe]
  exact W.zret (v := 0) hx hb hr rfl (fun t ht hW => ⟨⟨0, (), rfl, rfl, ⟨by rw [ht]; exact hP9, hD9⟩⟩, hS.F ht⟩) hS.2.2 dX14_isParty_16
set_option maxHeartbeats 4000000 in
set_option maxRecDepth 100000 in
theorem k_isDay_ok (l : Launch) (D : va_G) (cy : Nat → ClassId) (d : Int32) (sz : Nat) (hd : zDay d) : Met l yX14_isDay (wz yX14_isDay cX14_isDay 1 (some .boolean)) ({ frames := 1, cells := 0, slots := 0, locals := 25 } : Room) (va_Pc [.int d] (zPre vwCl D cy [] sz)) (va_Qi (fun (r : Int32) (_ : Unit) => r = 1) (fun (u : Unit) t => zPost vwCl D (va_A [] sz) [] t) (va_A [] sz)) 0 0 (va_A [] sz) := by
  refine Met.ofW (cc := cX14_isDay) (maxL := 1) (ret := (some .boolean)) (by decide) rfl ?_
  intro p e s m args below meth c s₁ B hml hv
  obtain ⟨rfl, hsz, hP, hK, hD0, hX, hY⟩ := hv
  have hx := B.exec
  have hb := B.bytes
  have hr := B.returns
  have hts0 := atoms_spec (ws := wz yX14_isDay cX14_isDay 1 (some .boolean)) B.pre
  have hts : ∀ w ∈ wAll, w.before _ s = true := fun w h => hts0 w (List.mem_cons_of_mem _ h)
  have hown : s.vm.findClass RX14 = some m.cls := findClass_of_methodNamed B.named
  have hlocks := B.notSynchronized
  subst hsz
  have hD := hD0.self (sz := s.heap.size)
  generalize hAe : va_A [] s.heap.size = A at hD hY ⊢
  have hA : ∀ q : Nat, s.heap.size ≤ q → A q := fun q h => by rw [← hAe]; exact Or.inr h
  have hS : va_S A s.heap s.heap [] := va_S.rf
  have hP : va_P D vwCl [] s.heap := hP
  have hl := lv_entry ([.int d]) (n := 1) (Nat.le_of_ble_eq_true rfl)
  rw [lg_entry_eq]
  generalize (lg_sl ([.int d]) ++ List.replicate (1 - (lg_sl ([.int d])).length) Slot.unset).toArray = ls at hl ⊢
  have hl : lv_has ls 1 [(0, .int d)] := hl
  refine z_anyQ (fun Q hQe => ?_)
  refine lv_iload_n hx hb dX14_isDay_0 rfl (lv_at hl 0 rfl) ?_
  refine lv_i2l (v := d.toInt64) hx hb dX14_isDay_1 rfl ?_
  refine lv_lconst (v := 0) hx hb dX14_isDay_2 rfl ?_
  refine lv_ldc2 (v := 999) hx hb hown (hts _ q290) dX14_isDay_3 ?_
  refine zq_i (wc := []) (wr := []) (va_runS (As := [.long (d.toInt64), .long 0, .long 999]) (rest := []) ⟨hx, hb, hml, hown, hts⟩ (k_in_T l D cy (d.toInt64) 0 999 s.heap.size (z_w0 hd.1) (z_wM (b := 999) (by decide +kernel) hd.2)) (va_cwS 3 hts (gzS (gz q283) q282 q284 q285) rfl rfl rfl vX14_in.2 ⟨Nat.le_of_ble_eq_true rfl, Nat.le_of_ble_eq_true rfl⟩) (zpS hK hX hY hP hD hS hA [] (by decide) rfl) rfl rfl hl.1 rfl (lv_room (Nat.le_of_ble_eq_true rfl)) dX14_isDay_6 ⟨Nat.le_of_ble_eq_true rfl, Nat.le_of_ble_eq_true rfl⟩) hP hD hS hA [] [] rfl rfl (by decide) (by decide) (fun x2 u1 H locs hw hP hD hS => ?_)
  obtain rfl : x2 = 1 := hw
  have hP : va_P D vwCl [] H := hP
  have hD : va_D A [] := hD
  have hP9 := hP.sub (ws' := []) [] rfl
  have hD9 := hD.sub (ws' := []) [] (by decide) rfl
  refine W.widen (k := 0) (n := 0) (Nat.le_of_ble_eq_true rfl) (Nat.le_of_ble_eq_true rfl) ?_
  rw [hQe]
  exact W.zret (v := 1) hx hb hr rfl (fun t ht hW => ⟨⟨1, (), rfl, rfl, ⟨by rw [ht]; exact hP9, hD9⟩⟩, hS.F ht⟩) hS.2.2 dX14_isDay_9
set_option maxHeartbeats 4000000 in
set_option maxRecDepth 100000 in
theorem k_isDay_no (l : Launch) (D : va_G) (cy : Nat → ClassId) (d : Int32) (sz : Nat) (hd : zNoDay d) : Met l yX14_isDay (wz yX14_isDay cX14_isDay 1 (some .boolean)) ({ frames := 1, cells := 0, slots := 0, locals := 25 } : Room) (va_Pc [.int d] (zPre vwCl D cy [] sz)) (va_Qi (fun (r : Int32) (_ : Unit) => r = 0) (fun (u : Unit) t => zPost vwCl D (va_A [] sz) [] t) (va_A [] sz)) 0 0 (va_A [] sz) := by
  refine Met.ofW (cc := cX14_isDay) (maxL := 1) (ret := (some .boolean)) (by decide) rfl ?_
  intro p e s m args below meth c s₁ B hml hv
  obtain ⟨rfl, hsz, hP, hK, hD0, hX, hY⟩ := hv
  have hx := B.exec
  have hb := B.bytes
  have hr := B.returns
  have hts0 := atoms_spec (ws := wz yX14_isDay cX14_isDay 1 (some .boolean)) B.pre
  have hts : ∀ w ∈ wAll, w.before _ s = true := fun w h => hts0 w (List.mem_cons_of_mem _ h)
  have hown : s.vm.findClass RX14 = some m.cls := findClass_of_methodNamed B.named
  have hlocks := B.notSynchronized
  subst hsz
  have hD := hD0.self (sz := s.heap.size)
  generalize hAe : va_A [] s.heap.size = A at hD hY ⊢
  have hA : ∀ q : Nat, s.heap.size ≤ q → A q := fun q h => by rw [← hAe]; exact Or.inr h
  have hS : va_S A s.heap s.heap [] := va_S.rf
  have hP : va_P D vwCl [] s.heap := hP
  have hl := lv_entry ([.int d]) (n := 1) (Nat.le_of_ble_eq_true rfl)
  rw [lg_entry_eq]
  generalize (lg_sl ([.int d]) ++ List.replicate (1 - (lg_sl ([.int d])).length) Slot.unset).toArray = ls at hl ⊢
  have hl : lv_has ls 1 [(0, .int d)] := hl
  refine z_anyQ (fun Q hQe => ?_)
  refine lv_iload_n hx hb dX14_isDay_0 rfl (lv_at hl 0 rfl) ?_
  refine lv_i2l (v := d.toInt64) hx hb dX14_isDay_1 rfl ?_
  refine lv_lconst (v := 0) hx hb dX14_isDay_2 rfl ?_
  refine lv_ldc2 (v := 999) hx hb hown (hts _ q290) dX14_isDay_3 ?_
  refine zq_i (wc := []) (wr := []) (va_runS (As := [.long (d.toInt64), .long 0, .long 999]) (rest := []) ⟨hx, hb, hml, hown, hts⟩ (k_in_F l D cy (d.toInt64) 0 999 s.heap.size (z_wR (b := 999) (by decide +kernel) hd)) (va_cwS 3 hts (gzS (gz q283) q282 q284 q285) rfl rfl rfl vX14_in.2 ⟨Nat.le_of_ble_eq_true rfl, Nat.le_of_ble_eq_true rfl⟩) (zpS hK hX hY hP hD hS hA [] (by decide) rfl) rfl rfl hl.1 rfl (lv_room (Nat.le_of_ble_eq_true rfl)) dX14_isDay_6 ⟨Nat.le_of_ble_eq_true rfl, Nat.le_of_ble_eq_true rfl⟩) hP hD hS hA [] [] rfl rfl (by decide) (by decide) (fun x2 u1 H locs hw hP hD hS => ?_)
  obtain rfl : x2 = 0 := hw
  have hP : va_P D vwCl [] H := hP
  have hD : va_D A [] := hD
  have hP9 := hP.sub (ws' := []) [] rfl
  have hD9 := hD.sub (ws' := []) [] (by decide) rfl
  refine W.widen (k := 0) (n := 0) (Nat.le_of_ble_eq_true rfl) (Nat.le_of_ble_eq_true rfl) ?_
  rw [hQe]
  exact W.zret (v := 0) hx hb hr rfl (fun t ht hW => ⟨⟨0, (), rfl, rfl, ⟨by rw [ht]; exact hP9, hD9⟩⟩, hS.F ht⟩) hS.2.2 dX14_isDay_9
set_option maxHeartbeats 4000000 in
set_option maxRecDepth 100000 in
/-- groups: nothing joined -/
theorem k_m_groups (l : Launch) (D : va_G) (cy : Nat → ClassId) (h0 : Nat) (m0 : Nat) (m1 : Nat) (m2 : Nat) (m3 : Nat) (m4 : Nat) (m5 : Nat) (m6 : Nat) (m7 : Nat) (m8 : Nat) (m9 : Nat) (m10 : Nat) (m11 : Nat) (m12 : Nat) (m13 : Nat) (m14 : Nat) (m15 : Nat) (m16 : Nat) (m17 : Nat) (m18 : Nat) (m19 : Nat) (m20 : Nat) (day : Int32) (f : Nat → Int32) (sz : Nat)  : Met l yX14_groups (wz yX14_groups cX14_groups 8 none) ({ frames := 0, cells := 0, slots := 0, locals := 0 } : Room) (va_Pc [.ref h0, .ref m9, .int day] (zPre vwCl D cy [(h0, .inr (17, [.ref m0, .ref m1, .ref m2, .ref m3, .ref m4, .ref m5, .ref m6, .ref m7, .ref m8, .ref m9, .ref m10, .ref m11, .ref m12, .ref m13, .ref m14, .ref m15, .ref m16, .ref m17, .ref m18, .ref m19, .ref m20, .int 0, .int 0, .int 0, .int 0, .long 0, .int 0])), (m9, .inl (cy 0, 9, .inl f))] sz)) (va_Qv (fun _ : Unit => True) (fun (u : Unit) t => zPost vwCl D (va_A [(h0, .inr (17, [.ref m0, .ref m1, .ref m2, .ref m3, .ref m4, .ref m5, .ref m6, .ref m7, .ref m8, .ref m9, .ref m10, .ref m11, .ref m12, .ref m13, .ref m14, .ref m15, .ref m16, .ref m17, .ref m18, .ref m19, .ref m20, .int 0, .int 0, .int 0, .int 0, .long 0, .int 0])), (m9, .inl (cy 0, 9, .inl f))] sz) [(h0, .inr (17, [.ref m0, .ref m1, .ref m2, .ref m3, .ref m4, .ref m5, .ref m6, .ref m7, .ref m8, .ref m9, .ref m10, .ref m11, .ref m12, .ref m13, .ref m14, .ref m15, .ref m16, .ref m17, .ref m18, .ref m19, .ref m20, .int 0, .int 0, .int 0, .int 0, .long 0, .int 0])), (m9, .inl (cy 0, 9, .inl (fun j => nI j)))] t) (va_A [(h0, .inr (17, [.ref m0, .ref m1, .ref m2, .ref m3, .ref m4, .ref m5, .ref m6, .ref m7, .ref m8, .ref m9, .ref m10, .ref m11, .ref m12, .ref m13, .ref m14, .ref m15, .ref m16, .ref m17, .ref m18, .ref m19, .ref m20, .int 0, .int 0, .int 0, .int 0, .long 0, .int 0])), (m9, .inl (cy 0, 9, .inl f))] sz)) 0 0 (va_A [(h0, .inr (17, [.ref m0, .ref m1, .ref m2, .ref m3, .ref m4, .ref m5, .ref m6, .ref m7, .ref m8, .ref m9, .ref m10, .ref m11, .ref m12, .ref m13, .ref m14, .ref m15, .ref m16, .ref m17, .ref m18, .ref m19, .ref m20, .int 0, .int 0, .int 0, .int 0, .long 0, .int 0])), (m9, .inl (cy 0, 9, .inl f))] sz) := by
  refine Met.ofW (cc := cX14_groups) (maxL := 8) (ret := none) (by decide) rfl ?_
  intro p e s m args below meth c s₁ B hml hv
  obtain ⟨rfl, hsz, hP, hK, hD0, hX, hY⟩ := hv
  have hx := B.exec
  have hb := B.bytes
  have hr := B.returns
  have hts0 := atoms_spec (ws := wz yX14_groups cX14_groups 8 none) B.pre
  have hts : ∀ w ∈ wAll, w.before _ s = true := fun w h => hts0 w (List.mem_cons_of_mem _ h)
  have hown : s.vm.findClass RX14 = some m.cls := findClass_of_methodNamed B.named
  have hlocks := B.notSynchronized
  subst hsz
  have hD := hD0.self (sz := s.heap.size)
  generalize hAe : va_A [(h0, .inr (17, [.ref m0, .ref m1, .ref m2, .ref m3, .ref m4, .ref m5, .ref m6, .ref m7, .ref m8, .ref m9, .ref m10, .ref m11, .ref m12, .ref m13, .ref m14, .ref m15, .ref m16, .ref m17, .ref m18, .ref m19, .ref m20, .int 0, .int 0, .int 0, .int 0, .long 0, .int 0])), (m9, .inl (cy 0, 9, .inl f))] s.heap.size = A at hD hY ⊢
  have hA : ∀ q : Nat, s.heap.size ≤ q → A q := fun q h => by rw [← hAe]; exact Or.inr h
  have hS : va_S A s.heap s.heap [] := va_S.rf
  have hP : va_P D vwCl [(h0, .inr (17, [.ref m0, .ref m1, .ref m2, .ref m3, .ref m4, .ref m5, .ref m6, .ref m7, .ref m8, .ref m9, .ref m10, .ref m11, .ref m12, .ref m13, .ref m14, .ref m15, .ref m16, .ref m17, .ref m18, .ref m19, .ref m20, .int 0, .int 0, .int 0, .int 0, .long 0, .int 0])), (m9, .inl (cy 0, 9, .inl f))] s.heap := hP
  have hl := lv_entry ([.ref h0, .ref m9, .int day]) (n := 8) (Nat.le_of_ble_eq_true rfl)
  rw [lg_entry_eq]
  generalize (lg_sl ([.ref h0, .ref m9, .int day]) ++ List.replicate (8 - (lg_sl ([.ref h0, .ref m9, .int day])).length) Slot.unset).toArray = ls at hl ⊢
  have hl : lv_has ls 8 [(0, .ref h0), (1, .ref m9), (2, .int day)] := hl
  refine z_anyQ (fun Q hQe => ?_)
  refine lv_iconst (v := 0) hx hb dX14_groups_0 (by decide) ?_
  refine lv_istore_n (lv' := [(3, .int 0), (0, .ref h0), (1, .ref m9), (2, .int day)]) hx hb dX14_groups_1 rfl hl (by decide) rfl (fun ls hl => ?_)
  have lp2_1 : ∀ (n i : Nat), i ≤ 9 → 9 + 1 ≤ i + n → ∀ (g : Nat → Int32) (hg : ∀ j, j < i → g j = nI j) (H : Heap) (locs : List Loc), va_P D vwCl [(h0, .inr (17, [.ref m0, .ref m1, .ref m2, .ref m3, .ref m4, .ref m5, .ref m6, .ref m7, .ref m8, .ref m9, .ref m10, .ref m11, .ref m12, .ref m13, .ref m14, .ref m15, .ref m16, .ref m17, .ref m18, .ref m19, .ref m20, .int 0, .int 0, .int 0, .int 0, .long 0, .int 0])), (m9, .inl (cy 0, 9, .inl g))] H → va_D A [(h0, .inr (17, [.ref m0, .ref m1, .ref m2, .ref m3, .ref m4, .ref m5, .ref m6, .ref m7, .ref m8, .ref m9, .ref m10, .ref m11, .ref m12, .ref m13, .ref m14, .ref m15, .ref m16, .ref m17, .ref m18, .ref m19, .ref m20, .int 0, .int 0, .int 0, .int 0, .long 0, .int 0])), (m9, .inl (cy 0, 9, .inl g))] → va_S A s.heap H locs → ∀ ls, lv_has ls 8 [(0, .ref h0), (1, .ref m9), (2, .int day), (3, .int (nI i))] → W p l e (headSpec (wz yX14_groups cX14_groups 8 none) ({ frames := 0, cells := 0, slots := 0, locals := 0 } : Room)).room s m ([.ref h0, .ref m9, .int day] : List Value).toArray below meth c H locs 0 0 Q (F0 m 2 ls []) := by
    intro n
    induction n with
    | zero => intro i h1 h2; exact absurd h2 (by omega)
    | succ n ih2 =>
      intro i hii hni g hg H locs hP hD hS ls hl
      refine lv_iload_n hx hb dX14_groups_2 rfl (lv_at hl 3 rfl) ?_
      refine lv_bipush (v := 9) hx hb dX14_groups_3 (by decide) ?_
      refine lv_icmp_ge (tgt := 18) hx hb dX14_groups_5 (by decide) (fun c_5_1 => ?_) (fun c_5_1 => ?_)
      · skip
        have hE : i = 9 := z_ge (N := 9) (by decide) hii (by decide) c_5_1
        subst hE
        have hl : lv_has ls 8 [(0, .ref h0), (1, .ref m9), (2, .int day), (3, .int 9)] := hl
        obtain ⟨hP, hD⟩ := zP_i (fun j => nI j) hP hD (q := 1) rfl hg
        have hP : va_P D vwCl [(h0, .inr (17, [.ref m0, .ref m1, .ref m2, .ref m3, .ref m4, .ref m5, .ref m6, .ref m7, .ref m8, .ref m9, .ref m10, .ref m11, .ref m12, .ref m13, .ref m14, .ref m15, .ref m16, .ref m17, .ref m18, .ref m19, .ref m20, .int 0, .int 0, .int 0, .int 0, .long 0, .int 0])), (m9, .inl (cy 0, 9, .inl (fun j => nI j)))] H := hP
        have hD : va_D A [(h0, .inr (17, [.ref m0, .ref m1, .ref m2, .ref m3, .ref m4, .ref m5, .ref m6, .ref m7, .ref m8, .ref m9, .ref m10, .ref m11, .ref m12, .ref m13, .ref m14, .ref m15, .ref m16, .ref m17, .ref m18, .ref m19, .ref m20, .int 0, .int 0, .int 0, .int 0, .long 0, .int 0])), (m9, .inl (cy 0, 9, .inl (fun j => nI j)))] := hD
        refine lv_iconst (v := 0) hx hb dX14_groups_18 (by decide) ?_
        refine lv_istore_n (lv' := [(3, .int 0), (0, .ref h0), (1, .ref m9), (2, .int day)]) hx hb dX14_groups_19 rfl hl (by decide) rfl (fun ls hl => ?_)
        refine lv_iload_n hx hb dX14_groups_20 rfl (lv_at hl 0 rfl) ?_
        refine lv_bipush (v := 9) hx hb dX14_groups_21 (by decide) ?_
        refine lv_icmp_ge (tgt := 148) hx hb dX14_groups_23 (by decide) (fun c_23_2 => absurd c_23_2 (by decide +kernel)) (fun _ => ?_)
        refine lv_iconst (v := 0) hx hb dX14_groups_26 (by decide) ?_
        refine lv_istore (lv' := [(4, .int 0), (3, .int 0), (0, .ref h0), (1, .ref m9), (2, .int day)]) hx hb dX14_groups_27 hl (by decide) rfl (fun ls hl => ?_)
        refine lv_iload hx hb dX14_groups_29 (lv_at hl 0 rfl) ?_
        refine lv_aload_n hx hb dX14_groups_31 rfl (lv_at hl 2 rfl) ?_
        refine va_get (D := D) (ci := 17) (v := .int 0) (C := RX14) (T := TX14) (N := 27) hx hb hts iRX14 hown hK hP 0 rfl rfl 23 (by decide) (hts _ q291) (fun _ h9 => h9) rfl dX14_groups_32 ?_
        refine lv_icmp_ge (tgt := 142) hx hb dX14_groups_35 (by decide) (fun _ => ?_) (fun c_35_3 => absurd (by decide +kernel) c_35_3)
        refine lv_iinc (v := 1) (lv' := [(3, .int 1), (4, .int 0), (0, .ref h0), (1, .ref m9), (2, .int day)]) hx hb dX14_groups_142 hl (k := 1) rfl (by decide) (by decide) rfl (fun ls hl => ?_)
        refine lv_goto (tgt := 20) hx hb dX14_groups_145 (by decide) ?_
        refine lv_iload_n hx hb dX14_groups_20 rfl (lv_at hl 0 rfl) ?_
        refine lv_bipush (v := 9) hx hb dX14_groups_21 (by decide) ?_
        refine lv_icmp_ge (tgt := 148) hx hb dX14_groups_23 (by decide) (fun c_23_4 => absurd c_23_4 (by decide +kernel)) (fun _ => ?_)
        refine lv_iconst (v := 0) hx hb dX14_groups_26 (by decide) ?_
        refine lv_istore (lv' := [(4, .int 0), (3, .int 1), (0, .ref h0), (1, .ref m9), (2, .int day)]) hx hb dX14_groups_27 hl (by decide) rfl (fun ls hl => ?_)
        refine lv_iload hx hb dX14_groups_29 (lv_at hl 0 rfl) ?_
        refine lv_aload_n hx hb dX14_groups_31 rfl (lv_at hl 2 rfl) ?_
        refine va_get (D := D) (ci := 17) (v := .int 0) (C := RX14) (T := TX14) (N := 27) hx hb hts iRX14 hown hK hP 0 rfl rfl 23 (by decide) (hts _ q291) (fun _ h9 => h9) rfl dX14_groups_32 ?_
        refine lv_icmp_ge (tgt := 142) hx hb dX14_groups_35 (by decide) (fun _ => ?_) (fun c_35_5 => absurd (by decide +kernel) c_35_5)
        refine lv_iinc (v := 2) (lv' := [(3, .int 2), (4, .int 0), (0, .ref h0), (1, .ref m9), (2, .int day)]) hx hb dX14_groups_142 hl (k := 1) rfl (by decide) (by decide) rfl (fun ls hl => ?_)
        refine lv_goto (tgt := 20) hx hb dX14_groups_145 (by decide) ?_
        refine lv_iload_n hx hb dX14_groups_20 rfl (lv_at hl 0 rfl) ?_
        refine lv_bipush (v := 9) hx hb dX14_groups_21 (by decide) ?_
        refine lv_icmp_ge (tgt := 148) hx hb dX14_groups_23 (by decide) (fun c_23_6 => absurd c_23_6 (by decide +kernel)) (fun _ => ?_)
        refine lv_iconst (v := 0) hx hb dX14_groups_26 (by decide) ?_
        refine lv_istore (lv' := [(4, .int 0), (3, .int 2), (0, .ref h0), (1, .ref m9), (2, .int day)]) hx hb dX14_groups_27 hl (by decide) rfl (fun ls hl => ?_)
        refine lv_iload hx hb dX14_groups_29 (lv_at hl 0 rfl) ?_
        refine lv_aload_n hx hb dX14_groups_31 rfl (lv_at hl 2 rfl) ?_
        refine va_get (D := D) (ci := 17) (v := .int 0) (C := RX14) (T := TX14) (N := 27) hx hb hts iRX14 hown hK hP 0 rfl rfl 23 (by decide) (hts _ q291) (fun _ h9 => h9) rfl dX14_groups_32 ?_
        refine lv_icmp_ge (tgt := 142) hx hb dX14_groups_35 (by decide) (fun _ => ?_) (fun c_35_7 => absurd (by decide +kernel) c_35_7)
        refine lv_iinc (v := 3) (lv' := [(3, .int 3), (4, .int 0), (0, .ref h0), (1, .ref m9), (2, .int day)]) hx hb dX14_groups_142 hl (k := 1) rfl (by decide) (by decide) rfl (fun ls hl => ?_)
        refine lv_goto (tgt := 20) hx hb dX14_groups_145 (by decide) ?_
        refine lv_iload_n hx hb dX14_groups_20 rfl (lv_at hl 0 rfl) ?_
        refine lv_bipush (v := 9) hx hb dX14_groups_21 (by decide) ?_
        refine lv_icmp_ge (tgt := 148) hx hb dX14_groups_23 (by decide) (fun c_23_8 => absurd c_23_8 (by decide +kernel)) (fun _ => ?_)
        refine lv_iconst (v := 0) hx hb dX14_groups_26 (by decide) ?_
        refine lv_istore (lv' := [(4, .int 0), (3, .int 3), (0, .ref h0), (1, .ref m9), (2, .int day)]) hx hb dX14_groups_27 hl (by decide) rfl (fun ls hl => ?_)
        refine lv_iload hx hb dX14_groups_29 (lv_at hl 0 rfl) ?_
        refine lv_aload_n hx hb dX14_groups_31 rfl (lv_at hl 2 rfl) ?_
        refine va_get (D := D) (ci := 17) (v := .int 0) (C := RX14) (T := TX14) (N := 27) hx hb hts iRX14 hown hK hP 0 rfl rfl 23 (by decide) (hts _ q291) (fun _ h9 => h9) rfl dX14_groups_32 ?_
        refine lv_icmp_ge (tgt := 142) hx hb dX14_groups_35 (by decide) (fun _ => ?_) (fun c_35_9 => absurd (by decide +kernel) c_35_9)
        refine lv_iinc (v := 4) (lv' := [(3, .int 4), (4, .int 0), (0, .ref h0), (1, .ref m9), (2, .int day)]) hx hb dX14_groups_142 hl (k := 1) rfl (by decide) (by decide) rfl (fun ls hl => ?_)
        refine lv_goto (tgt := 20) hx hb dX14_groups_145 (by decide) ?_
        refine lv_iload_n hx hb dX14_groups_20 rfl (lv_at hl 0 rfl) ?_
        refine lv_bipush (v := 9) hx hb dX14_groups_21 (by decide) ?_
        refine lv_icmp_ge (tgt := 148) hx hb dX14_groups_23 (by decide) (fun c_23_10 => absurd c_23_10 (by decide +kernel)) (fun _ => ?_)
        refine lv_iconst (v := 0) hx hb dX14_groups_26 (by decide) ?_
        refine lv_istore (lv' := [(4, .int 0), (3, .int 4), (0, .ref h0), (1, .ref m9), (2, .int day)]) hx hb dX14_groups_27 hl (by decide) rfl (fun ls hl => ?_)
        refine lv_iload hx hb dX14_groups_29 (lv_at hl 0 rfl) ?_
        refine lv_aload_n hx hb dX14_groups_31 rfl (lv_at hl 2 rfl) ?_
        refine va_get (D := D) (ci := 17) (v := .int 0) (C := RX14) (T := TX14) (N := 27) hx hb hts iRX14 hown hK hP 0 rfl rfl 23 (by decide) (hts _ q291) (fun _ h9 => h9) rfl dX14_groups_32 ?_
        refine lv_icmp_ge (tgt := 142) hx hb dX14_groups_35 (by decide) (fun _ => ?_) (fun c_35_11 => absurd (by decide +kernel) c_35_11)
        refine lv_iinc (v := 5) (lv' := [(3, .int 5), (4, .int 0), (0, .ref h0), (1, .ref m9), (2, .int day)]) hx hb dX14_groups_142 hl (k := 1) rfl (by decide) (by decide) rfl (fun ls hl => ?_)
        refine lv_goto (tgt := 20) hx hb dX14_groups_145 (by decide) ?_
        refine lv_iload_n hx hb dX14_groups_20 rfl (lv_at hl 0 rfl) ?_
        refine lv_bipush (v := 9) hx hb dX14_groups_21 (by decide) ?_
        refine lv_icmp_ge (tgt := 148) hx hb dX14_groups_23 (by decide) (fun c_23_12 => absurd c_23_12 (by decide +kernel)) (fun _ => ?_)
        refine lv_iconst (v := 0) hx hb dX14_groups_26 (by decide) ?_
        refine lv_istore (lv' := [(4, .int 0), (3, .int 5), (0, .ref h0), (1, .ref m9), (2, .int day)]) hx hb dX14_groups_27 hl (by decide) rfl (fun ls hl => ?_)
        refine lv_iload hx hb dX14_groups_29 (lv_at hl 0 rfl) ?_
        refine lv_aload_n hx hb dX14_groups_31 rfl (lv_at hl 2 rfl) ?_
        refine va_get (D := D) (ci := 17) (v := .int 0) (C := RX14) (T := TX14) (N := 27) hx hb hts iRX14 hown hK hP 0 rfl rfl 23 (by decide) (hts _ q291) (fun _ h9 => h9) rfl dX14_groups_32 ?_
        refine lv_icmp_ge (tgt := 142) hx hb dX14_groups_35 (by decide) (fun _ => ?_) (fun c_35_13 => absurd (by decide +kernel) c_35_13)
        refine lv_iinc (v := 6) (lv' := [(3, .int 6), (4, .int 0), (0, .ref h0), (1, .ref m9), (2, .int day)]) hx hb dX14_groups_142 hl (k := 1) rfl (by decide) (by decide) rfl (fun ls hl => ?_)
        refine lv_goto (tgt := 20) hx hb dX14_groups_145 (by decide) ?_
        refine lv_iload_n hx hb dX14_groups_20 rfl (lv_at hl 0 rfl) ?_
        refine lv_bipush (v := 9) hx hb dX14_groups_21 (by decide) ?_
        refine lv_icmp_ge (tgt := 148) hx hb dX14_groups_23 (by decide) (fun c_23_14 => absurd c_23_14 (by decide +kernel)) (fun _ => ?_)
        refine lv_iconst (v := 0) hx hb dX14_groups_26 (by decide) ?_
        refine lv_istore (lv' := [(4, .int 0), (3, .int 6), (0, .ref h0), (1, .ref m9), (2, .int day)]) hx hb dX14_groups_27 hl (by decide) rfl (fun ls hl => ?_)
        refine lv_iload hx hb dX14_groups_29 (lv_at hl 0 rfl) ?_
        refine lv_aload_n hx hb dX14_groups_31 rfl (lv_at hl 2 rfl) ?_
        refine va_get (D := D) (ci := 17) (v := .int 0) (C := RX14) (T := TX14) (N := 27) hx hb hts iRX14 hown hK hP 0 rfl rfl 23 (by decide) (hts _ q291) (fun _ h9 => h9) rfl dX14_groups_32 ?_
        refine lv_icmp_ge (tgt := 142) hx hb dX14_groups_35 (by decide) (fun _ => ?_) (fun c_35_15 => absurd (by decide +kernel) c_35_15)
        refine lv_iinc (v := 7) (lv' := [(3, .int 7), (4, .int 0), (0, .ref h0), (1, .ref m9), (2, .int day)]) hx hb dX14_groups_142 hl (k := 1) rfl (by decide) (by decide) rfl (fun ls hl => ?_)
        refine lv_goto (tgt := 20) hx hb dX14_groups_145 (by decide) ?_
        refine lv_iload_n hx hb dX14_groups_20 rfl (lv_at hl 0 rfl) ?_
        refine lv_bipush (v := 9) hx hb dX14_groups_21 (by decide) ?_
        refine lv_icmp_ge (tgt := 148) hx hb dX14_groups_23 (by decide) (fun c_23_16 => absurd c_23_16 (by decide +kernel)) (fun _ => ?_)
        refine lv_iconst (v := 0) hx hb dX14_groups_26 (by decide) ?_
        refine lv_istore (lv' := [(4, .int 0), (3, .int 7), (0, .ref h0), (1, .ref m9), (2, .int day)]) hx hb dX14_groups_27 hl (by decide) rfl (fun ls hl => ?_)
        refine lv_iload hx hb dX14_groups_29 (lv_at hl 0 rfl) ?_
        refine lv_aload_n hx hb dX14_groups_31 rfl (lv_at hl 2 rfl) ?_
        refine va_get (D := D) (ci := 17) (v := .int 0) (C := RX14) (T := TX14) (N := 27) hx hb hts iRX14 hown hK hP 0 rfl rfl 23 (by decide) (hts _ q291) (fun _ h9 => h9) rfl dX14_groups_32 ?_
        refine lv_icmp_ge (tgt := 142) hx hb dX14_groups_35 (by decide) (fun _ => ?_) (fun c_35_17 => absurd (by decide +kernel) c_35_17)
        refine lv_iinc (v := 8) (lv' := [(3, .int 8), (4, .int 0), (0, .ref h0), (1, .ref m9), (2, .int day)]) hx hb dX14_groups_142 hl (k := 1) rfl (by decide) (by decide) rfl (fun ls hl => ?_)
        refine lv_goto (tgt := 20) hx hb dX14_groups_145 (by decide) ?_
        refine lv_iload_n hx hb dX14_groups_20 rfl (lv_at hl 0 rfl) ?_
        refine lv_bipush (v := 9) hx hb dX14_groups_21 (by decide) ?_
        refine lv_icmp_ge (tgt := 148) hx hb dX14_groups_23 (by decide) (fun c_23_18 => absurd c_23_18 (by decide +kernel)) (fun _ => ?_)
        refine lv_iconst (v := 0) hx hb dX14_groups_26 (by decide) ?_
        refine lv_istore (lv' := [(4, .int 0), (3, .int 8), (0, .ref h0), (1, .ref m9), (2, .int day)]) hx hb dX14_groups_27 hl (by decide) rfl (fun ls hl => ?_)
        refine lv_iload hx hb dX14_groups_29 (lv_at hl 0 rfl) ?_
        refine lv_aload_n hx hb dX14_groups_31 rfl (lv_at hl 2 rfl) ?_
        refine va_get (D := D) (ci := 17) (v := .int 0) (C := RX14) (T := TX14) (N := 27) hx hb hts iRX14 hown hK hP 0 rfl rfl 23 (by decide) (hts _ q291) (fun _ h9 => h9) rfl dX14_groups_32 ?_
        refine lv_icmp_ge (tgt := 142) hx hb dX14_groups_35 (by decide) (fun _ => ?_) (fun c_35_19 => absurd (by decide +kernel) c_35_19)
        refine lv_iinc (v := 9) (lv' := [(3, .int 9), (4, .int 0), (0, .ref h0), (1, .ref m9), (2, .int day)]) hx hb dX14_groups_142 hl (k := 1) rfl (by decide) (by decide) rfl (fun ls hl => ?_)
        refine lv_goto (tgt := 20) hx hb dX14_groups_145 (by decide) ?_
        refine lv_iload_n hx hb dX14_groups_20 rfl (lv_at hl 0 rfl) ?_
        refine lv_bipush (v := 9) hx hb dX14_groups_21 (by decide) ?_
        refine lv_icmp_ge (tgt := 148) hx hb dX14_groups_23 (by decide) (fun _ => ?_) (fun c_23_20 => absurd (by decide +kernel) c_23_20)
        have hP9 := hP.sub (ws' := [(h0, .inr (17, [.ref m0, .ref m1, .ref m2, .ref m3, .ref m4, .ref m5, .ref m6, .ref m7, .ref m8, .ref m9, .ref m10, .ref m11, .ref m12, .ref m13, .ref m14, .ref m15, .ref m16, .ref m17, .ref m18, .ref m19, .ref m20, .int 0, .int 0, .int 0, .int 0, .long 0, .int 0])), (m9, .inl (cy 0, 9, .inl (fun j => nI j)))]) [0, 1] rfl
        have hD9 := hD.sub (ws' := [(h0, .inr (17, [.ref m0, .ref m1, .ref m2, .ref m3, .ref m4, .ref m5, .ref m6, .ref m7, .ref m8, .ref m9, .ref m10, .ref m11, .ref m12, .ref m13, .ref m14, .ref m15, .ref m16, .ref m17, .ref m18, .ref m19, .ref m20, .int 0, .int 0, .int 0, .int 0, .long 0, .int 0])), (m9, .inl (cy 0, 9, .inl (fun j => nI j)))]) [0, 1] (by decide) rfl
        refine W.widen (k := 0) (n := 0) (Nat.le_of_ble_eq_true rfl) (Nat.le_of_ble_eq_true rfl) ?_
        rw [hQe]
        exact W.vret hx hb hr (fun t ht hW => ⟨⟨(), rfl, trivial, ⟨by rw [ht]; exact hP9, hD9⟩⟩, hS.F ht⟩) hS.2.2 dX14_groups_148
      · skip
        have hlti : i < 9 := z_lt (N := 9) (by decide) hii (by decide) c_5_1
        refine lv_aload_n hx hb dX14_groups_8 rfl (lv_at hl 1 rfl) ?_
        refine lv_iload_n hx hb dX14_groups_9 rfl (lv_at hl 3 rfl) ?_
        refine lv_iload_n hx hb dX14_groups_10 rfl (lv_at hl 3 rfl) ?_
        refine va_iast hx hb hK hP hD hS 1 0 rfl rfl (vp_in_nI (by omega) (by decide)) dX14_groups_11 (fun H locs hP hD hS => ?_)
        have hP : va_P D vwCl [(h0, .inr (17, [.ref m0, .ref m1, .ref m2, .ref m3, .ref m4, .ref m5, .ref m6, .ref m7, .ref m8, .ref m9, .ref m10, .ref m11, .ref m12, .ref m13, .ref m14, .ref m15, .ref m16, .ref m17, .ref m18, .ref m19, .ref m20, .int 0, .int 0, .int 0, .int 0, .long 0, .int 0])), (m9, .inl (cy 0, 9, .inl (upd g (nI i).toNatClampNeg (nI i))))] H := hP
        have hD : va_D A [(h0, .inr (17, [.ref m0, .ref m1, .ref m2, .ref m3, .ref m4, .ref m5, .ref m6, .ref m7, .ref m8, .ref m9, .ref m10, .ref m11, .ref m12, .ref m13, .ref m14, .ref m15, .ref m16, .ref m17, .ref m18, .ref m19, .ref m20, .int 0, .int 0, .int 0, .int 0, .long 0, .int 0])), (m9, .inl (cy 0, 9, .inl (upd g (nI i).toNatClampNeg (nI i))))] := hD
        refine lv_iinc (v := (nI (i + 1))) (lv' := [(3, .int (nI (i + 1))), (0, .ref h0), (1, .ref m9), (2, .int day)]) hx hb dX14_groups_12 hl (k := 3) rfl (z_n1 i) (by decide) rfl (fun ls hl => ?_)
        refine lv_goto (tgt := 2) hx hb dX14_groups_15 (by decide) ?_
        exact ih2 (i + 1) (by omega) (by omega) _ (z_up (by omega) hg rfl) _ _ (hP.sub [0, 1] rfl) (hD.sub [0, 1] (by decide) rfl) hS ls (lv_sub hl [1, 2, 3, 0] rfl)
  exact lp2_1 (9 + 1) 0 (by decide) (by decide) _ z_nil _ _ hP hD hS ls (lv_sub hl [1, 2, 3, 0] rfl)
set_option maxHeartbeats 4000000 in
set_option maxRecDepth 100000 in
/-- hangs: nothing is hung -/
theorem k_m_hangs (l : Launch) (D : va_G) (cy : Nat → ClassId) (h0 : Nat) (m0 : Nat) (m1 : Nat) (m2 : Nat) (m3 : Nat) (m4 : Nat) (m5 : Nat) (m6 : Nat) (m7 : Nat) (m8 : Nat) (m9 : Nat) (m10 : Nat) (m11 : Nat) (m12 : Nat) (m13 : Nat) (m14 : Nat) (m15 : Nat) (m16 : Nat) (m17 : Nat) (m18 : Nat) (m19 : Nat) (m20 : Nat) (b1 : Nat) (day : Int32) (w : Int32) (fg : Nat → Int32) (fh : Nat → Int32) (fc : Nat → Int32) (sz : Nat)  : Met l yX14_hangs (wz yX14_hangs cX14_hangs 7 none) ({ frames := 1, cells := 0, slots := 0, locals := 27 } : Room) (va_Pc [.ref h0, .int day, .int w] (zPre vwCl D cy [(h0, .inr (17, [.ref m0, .ref m1, .ref m2, .ref m3, .ref m4, .ref m5, .ref m6, .ref m7, .ref m8, .ref m9, .ref m10, .ref m11, .ref m12, .ref m13, .ref m14, .ref m15, .ref m16, .ref m17, .ref m18, .ref m19, .ref m20, .int 0, .int 0, .int 0, .int 0, .long 0, .int 0])), (m0, .inr (2, [.int 0, .ref b1, .int 0])), (m9, .inl (cy 0, 9, .inl fg)), (m12, .inl (cy 2, 9, .inl fh)), (m10, .inl (cy 0, 9, .inl fc))] sz)) (va_Qv (fun _ : Unit => True) (fun (u : Unit) t => zPost vwCl D (va_A [(h0, .inr (17, [.ref m0, .ref m1, .ref m2, .ref m3, .ref m4, .ref m5, .ref m6, .ref m7, .ref m8, .ref m9, .ref m10, .ref m11, .ref m12, .ref m13, .ref m14, .ref m15, .ref m16, .ref m17, .ref m18, .ref m19, .ref m20, .int 0, .int 0, .int 0, .int 0, .long 0, .int 0])), (m0, .inr (2, [.int 0, .ref b1, .int 0])), (m9, .inl (cy 0, 9, .inl fg)), (m12, .inl (cy 2, 9, .inl fh)), (m10, .inl (cy 0, 9, .inl fc))] sz) [(h0, .inr (17, [.ref m0, .ref m1, .ref m2, .ref m3, .ref m4, .ref m5, .ref m6, .ref m7, .ref m8, .ref m9, .ref m10, .ref m11, .ref m12, .ref m13, .ref m14, .ref m15, .ref m16, .ref m17, .ref m18, .ref m19, .ref m20, .int 0, .int 0, .int 0, .int 0, .long 0, .int 0])), (m0, .inr (2, [.int 0, .ref b1, .int 0])), (m9, .inl (cy 0, 9, .inl (fun j => nI j))), (m12, .inl (cy 2, 9, .inl (fun _ => 0))), (m10, .inl (cy 0, 9, .inl (fun _ => (-1))))] t) (va_A [(h0, .inr (17, [.ref m0, .ref m1, .ref m2, .ref m3, .ref m4, .ref m5, .ref m6, .ref m7, .ref m8, .ref m9, .ref m10, .ref m11, .ref m12, .ref m13, .ref m14, .ref m15, .ref m16, .ref m17, .ref m18, .ref m19, .ref m20, .int 0, .int 0, .int 0, .int 0, .long 0, .int 0])), (m0, .inr (2, [.int 0, .ref b1, .int 0])), (m9, .inl (cy 0, 9, .inl fg)), (m12, .inl (cy 2, 9, .inl fh)), (m10, .inl (cy 0, 9, .inl fc))] sz)) 0 0 (va_A [(h0, .inr (17, [.ref m0, .ref m1, .ref m2, .ref m3, .ref m4, .ref m5, .ref m6, .ref m7, .ref m8, .ref m9, .ref m10, .ref m11, .ref m12, .ref m13, .ref m14, .ref m15, .ref m16, .ref m17, .ref m18, .ref m19, .ref m20, .int 0, .int 0, .int 0, .int 0, .long 0, .int 0])), (m0, .inr (2, [.int 0, .ref b1, .int 0])), (m9, .inl (cy 0, 9, .inl fg)), (m12, .inl (cy 2, 9, .inl fh)), (m10, .inl (cy 0, 9, .inl fc))] sz) := by
  refine Met.ofW (cc := cX14_hangs) (maxL := 7) (ret := none) (by decide) rfl ?_
  intro p e s m args below meth c s₁ B hml hv
  obtain ⟨rfl, hsz, hP, hK, hD0, hX, hY⟩ := hv
  have hx := B.exec
  have hb := B.bytes
  have hr := B.returns
  have hts0 := atoms_spec (ws := wz yX14_hangs cX14_hangs 7 none) B.pre
  have hts : ∀ w ∈ wAll, w.before _ s = true := fun w h => hts0 w (List.mem_cons_of_mem _ h)
  have hown : s.vm.findClass RX14 = some m.cls := findClass_of_methodNamed B.named
  have hlocks := B.notSynchronized
  subst hsz
  have hD := hD0.self (sz := s.heap.size)
  generalize hAe : va_A [(h0, .inr (17, [.ref m0, .ref m1, .ref m2, .ref m3, .ref m4, .ref m5, .ref m6, .ref m7, .ref m8, .ref m9, .ref m10, .ref m11, .ref m12, .ref m13, .ref m14, .ref m15, .ref m16, .ref m17, .ref m18, .ref m19, .ref m20, .int 0, .int 0, .int 0, .int 0, .long 0, .int 0])), (m0, .inr (2, [.int 0, .ref b1, .int 0])), (m9, .inl (cy 0, 9, .inl fg)), (m12, .inl (cy 2, 9, .inl fh)), (m10, .inl (cy 0, 9, .inl fc))] s.heap.size = A at hD hY ⊢
  have hA : ∀ q : Nat, s.heap.size ≤ q → A q := fun q h => by rw [← hAe]; exact Or.inr h
  have hS : va_S A s.heap s.heap [] := va_S.rf
  have hP : va_P D vwCl [(h0, .inr (17, [.ref m0, .ref m1, .ref m2, .ref m3, .ref m4, .ref m5, .ref m6, .ref m7, .ref m8, .ref m9, .ref m10, .ref m11, .ref m12, .ref m13, .ref m14, .ref m15, .ref m16, .ref m17, .ref m18, .ref m19, .ref m20, .int 0, .int 0, .int 0, .int 0, .long 0, .int 0])), (m0, .inr (2, [.int 0, .ref b1, .int 0])), (m9, .inl (cy 0, 9, .inl fg)), (m12, .inl (cy 2, 9, .inl fh)), (m10, .inl (cy 0, 9, .inl fc))] s.heap := hP
  have hl := lv_entry ([.ref h0, .int day, .int w]) (n := 7) (Nat.le_of_ble_eq_true rfl)
  rw [lg_entry_eq]
  generalize (lg_sl ([.ref h0, .int day, .int w]) ++ List.replicate (7 - (lg_sl ([.ref h0, .int day, .int w])).length) Slot.unset).toArray = ls at hl ⊢
  have hl : lv_has ls 7 [(0, .ref h0), (1, .int day), (2, .int w)] := hl
  refine z_anyQ (fun Q hQe => ?_)
  refine lv_aload_n hx hb dX14_hangs_0 rfl (lv_at hl 0 rfl) ?_
  refine lv_aload_n hx hb dX14_hangs_1 rfl (lv_at hl 0 rfl) ?_
  refine va_get (D := D) (ci := 17) (v := .ref m9) (C := RX14) (T := TX14) (N := 27) hx hb hts iRX14 hown hK hP 0 rfl rfl 9 (by decide) (hts _ q268) (fun _ h9 => h9) rfl dX14_hangs_2 ?_
  refine lv_iload_n hx hb dX14_hangs_5 rfl (lv_at hl 1 rfl) ?_
  refine zq_v (wc := [(h0, .inr (17, [.ref m0, .ref m1, .ref m2, .ref m3, .ref m4, .ref m5, .ref m6, .ref m7, .ref m8, .ref m9, .ref m10, .ref m11, .ref m12, .ref m13, .ref m14, .ref m15, .ref m16, .ref m17, .ref m18, .ref m19, .ref m20, .int 0, .int 0, .int 0, .int 0, .long 0, .int 0])), (m9, .inl (cy 0, 9, .inl fg))]) (wr := [(m0, .inr (2, [.int 0, .ref b1, .int 0])), (m12, .inl (cy 2, 9, .inl fh)), (m10, .inl (cy 0, 9, .inl fc))]) (va_runV (As := [.ref m9, .int day]) (rest := []) ⟨hx, hb, hml, hown, hts⟩ (k_m_groups l D cy h0 m0 m1 m2 m3 m4 m5 m6 m7 m8 m9 m10 m11 m12 m13 m14 m15 m16 m17 m18 m19 m20 day fg s.heap.size ) (cwV 2 hts (gzV (gz q293) q292 q294 q295 q285) rfl rfl rfl vX14_groups ⟨Nat.le_of_ble_eq_true rfl, Nat.le_of_ble_eq_true rfl⟩) (zpV (ci := 17) (T := TX14) (N := 27) (q0 := 0) hK hX hY hP hD hS hA [0, 2] (by decide) rfl rfl rfl) rfl rfl hl.1 rfl (lv_room (Nat.le_of_ble_eq_true rfl)) dX14_hangs_6 ⟨Nat.le_of_ble_eq_true rfl, Nat.le_of_ble_eq_true rfl⟩) hP hD hS hA [0, 2] [1, 3, 4] rfl rfl (by decide) (by decide) (fun u1 H locs hw hP hD hS => ?_)
  have hP : va_P D vwCl [(m0, .inr (2, [.int 0, .ref b1, .int 0])), (m12, .inl (cy 2, 9, .inl fh)), (m10, .inl (cy 0, 9, .inl fc)), (h0, .inr (17, [.ref m0, .ref m1, .ref m2, .ref m3, .ref m4, .ref m5, .ref m6, .ref m7, .ref m8, .ref m9, .ref m10, .ref m11, .ref m12, .ref m13, .ref m14, .ref m15, .ref m16, .ref m17, .ref m18, .ref m19, .ref m20, .int 0, .int 0, .int 0, .int 0, .long 0, .int 0])), (m9, .inl (cy 0, 9, .inl (fun j => nI j)))] H := hP
  have hD : va_D A [(m0, .inr (2, [.int 0, .ref b1, .int 0])), (m12, .inl (cy 2, 9, .inl fh)), (m10, .inl (cy 0, 9, .inl fc)), (h0, .inr (17, [.ref m0, .ref m1, .ref m2, .ref m3, .ref m4, .ref m5, .ref m6, .ref m7, .ref m8, .ref m9, .ref m10, .ref m11, .ref m12, .ref m13, .ref m14, .ref m15, .ref m16, .ref m17, .ref m18, .ref m19, .ref m20, .int 0, .int 0, .int 0, .int 0, .long 0, .int 0])), (m9, .inl (cy 0, 9, .inl (fun j => nI j)))] := hD
  refine lv_iconst (v := 0) hx hb dX14_hangs_9 (by decide) ?_
  refine lv_istore_n (lv' := [(3, .int 0), (0, .ref h0), (1, .int day), (2, .int w)]) hx hb dX14_hangs_10 rfl hl (by decide) rfl (fun ls hl => ?_)
  have lp11_3 : ∀ (n i : Nat), i ≤ 9 → 9 + 1 ≤ i + n → ∀ (g1 : Nat → Int32) (hg1 : ∀ j, j < i → g1 j = 0) (H : Heap) (locs : List Loc), va_P D vwCl [(m0, .inr (2, [.int 0, .ref b1, .int 0])), (m12, .inl (cy 2, 9, .inl g1)), (m10, .inl (cy 0, 9, .inl fc)), (h0, .inr (17, [.ref m0, .ref m1, .ref m2, .ref m3, .ref m4, .ref m5, .ref m6, .ref m7, .ref m8, .ref m9, .ref m10, .ref m11, .ref m12, .ref m13, .ref m14, .ref m15, .ref m16, .ref m17, .ref m18, .ref m19, .ref m20, .int 0, .int 0, .int 0, .int 0, .long 0, .int 0])), (m9, .inl (cy 0, 9, .inl (fun j => nI j)))] H → va_D A [(m0, .inr (2, [.int 0, .ref b1, .int 0])), (m12, .inl (cy 2, 9, .inl g1)), (m10, .inl (cy 0, 9, .inl fc)), (h0, .inr (17, [.ref m0, .ref m1, .ref m2, .ref m3, .ref m4, .ref m5, .ref m6, .ref m7, .ref m8, .ref m9, .ref m10, .ref m11, .ref m12, .ref m13, .ref m14, .ref m15, .ref m16, .ref m17, .ref m18, .ref m19, .ref m20, .int 0, .int 0, .int 0, .int 0, .long 0, .int 0])), (m9, .inl (cy 0, 9, .inl (fun j => nI j)))] → va_S A s.heap H locs → ∀ ls, lv_has ls 7 [(0, .ref h0), (1, .int day), (2, .int w), (3, .int (nI i))] → W p l e (headSpec (wz yX14_hangs cX14_hangs 7 none) ({ frames := 1, cells := 0, slots := 0, locals := 27 } : Room)).room s m ([.ref h0, .int day, .int w] : List Value).toArray below meth c H locs 0 0 Q (F0 m 11 ls []) := by
    intro n
    induction n with
    | zero => intro i h1 h2; exact absurd h2 (by omega)
    | succ n ih11 =>
      intro i hii hni g1 hg1 H locs hP hD hS ls hl
      refine lv_iload_n hx hb dX14_hangs_11 rfl (lv_at hl 3 rfl) ?_
      refine lv_bipush (v := 9) hx hb dX14_hangs_12 (by decide) ?_
      refine lv_icmp_ge (tgt := 51) hx hb dX14_hangs_14 (by decide) (fun c_14_3 => ?_) (fun c_14_3 => ?_)
      · skip
        have hE : i = 9 := z_ge (N := 9) (by decide) hii (by decide) c_14_3
        subst hE
        have hl : lv_has ls 7 [(0, .ref h0), (1, .int day), (2, .int w), (3, .int 9)] := hl
        obtain ⟨hP, hD⟩ := zP_i (fun _ => 0) hP hD (q := 1) rfl hg1
        have hP : va_P D vwCl [(m0, .inr (2, [.int 0, .ref b1, .int 0])), (m12, .inl (cy 2, 9, .inl (fun _ => 0))), (m10, .inl (cy 0, 9, .inl fc)), (h0, .inr (17, [.ref m0, .ref m1, .ref m2, .ref m3, .ref m4, .ref m5, .ref m6, .ref m7, .ref m8, .ref m9, .ref m10, .ref m11, .ref m12, .ref m13, .ref m14, .ref m15, .ref m16, .ref m17, .ref m18, .ref m19, .ref m20, .int 0, .int 0, .int 0, .int 0, .long 0, .int 0])), (m9, .inl (cy 0, 9, .inl (fun j => nI j)))] H := hP
        have hD : va_D A [(m0, .inr (2, [.int 0, .ref b1, .int 0])), (m12, .inl (cy 2, 9, .inl (fun _ => 0))), (m10, .inl (cy 0, 9, .inl fc)), (h0, .inr (17, [.ref m0, .ref m1, .ref m2, .ref m3, .ref m4, .ref m5, .ref m6, .ref m7, .ref m8, .ref m9, .ref m10, .ref m11, .ref m12, .ref m13, .ref m14, .ref m15, .ref m16, .ref m17, .ref m18, .ref m19, .ref m20, .int 0, .int 0, .int 0, .int 0, .long 0, .int 0])), (m9, .inl (cy 0, 9, .inl (fun j => nI j)))] := hD
        refine lv_iconst (v := 1) hx hb dX14_hangs_51 (by decide) ?_
        refine lv_istore_n (lv' := [(3, .int 1), (0, .ref h0), (1, .int day), (2, .int w)]) hx hb dX14_hangs_52 rfl hl (by decide) rfl (fun ls hl => ?_)
        refine lv_iload_n hx hb dX14_hangs_53 rfl (lv_at hl 0 rfl) ?_
        refine lv_if_eq (tgt := 294) hx hb dX14_hangs_54 (by decide) (fun c_54_4 => absurd c_54_4 (by decide +kernel)) (fun _ => ?_)
        refine lv_iconst (v := 0) hx hb dX14_hangs_57 (by decide) ?_
        refine lv_istore_n (lv' := [(3, .int 0), (0, .ref h0), (1, .int day), (2, .int w)]) hx hb dX14_hangs_58 rfl hl (by decide) rfl (fun ls hl => ?_)
        refine lv_iconst (v := 0) hx hb dX14_hangs_59 (by decide) ?_
        refine lv_istore (lv' := [(4, .int 0), (3, .int 0), (0, .ref h0), (1, .int day), (2, .int w)]) hx hb dX14_hangs_60 hl (by decide) rfl (fun ls hl => ?_)
        refine lv_iload hx hb dX14_hangs_62 (lv_at hl 0 rfl) ?_
        refine lv_aload_n hx hb dX14_hangs_64 rfl (lv_at hl 2 rfl) ?_
        refine va_get (D := D) (ci := 17) (v := .ref m0) (C := RX14) (T := TX14) (N := 27) hx hb hts iRX14 hown hK hP 3 rfl rfl 0 (by decide) (hts _ q259) (fun _ h9 => h9) rfl dX14_hangs_65 ?_
        refine zq_i (wc := [(m0, .inr (2, [.int 0, .ref b1, .int 0]))]) (wr := [(m12, .inl (cy 2, 9, .inl (fun _ => 0))), (m10, .inl (cy 0, 9, .inl fc)), (h0, .inr (17, [.ref m0, .ref m1, .ref m2, .ref m3, .ref m4, .ref m5, .ref m6, .ref m7, .ref m8, .ref m9, .ref m10, .ref m11, .ref m12, .ref m13, .ref m14, .ref m15, .ref m16, .ref m17, .ref m18, .ref m19, .ref m20, .int 0, .int 0, .int 0, .int 0, .long 0, .int 0])), (m9, .inl (cy 0, 9, .inl (fun j => nI j)))]) (va_runV (As := []) (rest := [.int 0]) ⟨hx, hb, hml, hown, hts⟩ (k_AL_size l D cy m0 b1 H.size ) (cwV 0 hts (gzV (gz q287) q286 q288 q289 q255) rfl rfl rfl vJx4a65c_size_8abf5 ⟨Nat.le_of_ble_eq_true rfl, Nat.le_of_ble_eq_true rfl⟩) (zpV (ci := 2) (T := TJx4a65c) (N := 3) (q0 := 0) hK hX hY hP hD hS hA [0] (by decide) rfl rfl rfl) rfl rfl hl.1 rfl (lv_room (Nat.le_of_ble_eq_true rfl)) dX14_hangs_68 ⟨Nat.le_of_ble_eq_true rfl, Nat.le_of_ble_eq_true rfl⟩) hP hD hS hA [0] [1, 2, 3, 4] rfl rfl (by decide) (by decide) (fun x7 u6 H locs hw hP hD hS => ?_)
        obtain rfl : x7 = 0 := hw
        have hP : va_P D vwCl [(m12, .inl (cy 2, 9, .inl (fun _ => 0))), (m10, .inl (cy 0, 9, .inl fc)), (h0, .inr (17, [.ref m0, .ref m1, .ref m2, .ref m3, .ref m4, .ref m5, .ref m6, .ref m7, .ref m8, .ref m9, .ref m10, .ref m11, .ref m12, .ref m13, .ref m14, .ref m15, .ref m16, .ref m17, .ref m18, .ref m19, .ref m20, .int 0, .int 0, .int 0, .int 0, .long 0, .int 0])), (m9, .inl (cy 0, 9, .inl (fun j => nI j))), (m0, .inr (2, [.int 0, .ref b1, .int 0]))] H := hP
        have hD : va_D A [(m12, .inl (cy 2, 9, .inl (fun _ => 0))), (m10, .inl (cy 0, 9, .inl fc)), (h0, .inr (17, [.ref m0, .ref m1, .ref m2, .ref m3, .ref m4, .ref m5, .ref m6, .ref m7, .ref m8, .ref m9, .ref m10, .ref m11, .ref m12, .ref m13, .ref m14, .ref m15, .ref m16, .ref m17, .ref m18, .ref m19, .ref m20, .int 0, .int 0, .int 0, .int 0, .long 0, .int 0])), (m9, .inl (cy 0, 9, .inl (fun j => nI j))), (m0, .inr (2, [.int 0, .ref b1, .int 0]))] := hD
        refine lv_icmp_ge (tgt := 291) hx hb dX14_hangs_71 (by decide) (fun _ => ?_) (fun c_71_7 => absurd (by decide +kernel) c_71_7)
        refine lv_goto (tgt := 53) hx hb dX14_hangs_291 (by decide) ?_
        refine lv_iload_n hx hb dX14_hangs_53 rfl (lv_at hl 1 rfl) ?_
        refine lv_if_eq (tgt := 294) hx hb dX14_hangs_54 (by decide) (fun _ => ?_) (fun c_54_8 => absurd (by decide +kernel) c_54_8)
        refine lv_aload_n hx hb dX14_hangs_294 rfl (lv_at hl 2 rfl) ?_
        refine lv_iconst (v := 0) hx hb dX14_hangs_295 (by decide) ?_
        refine va_put (D := D) (ci := 17) (v := .int 0) (ty := .int) (C := RX14) (T := TX14) (N := 27) hx hb hts iRX14 tyX14 tyX14_ok nmX14 hown hK hP hD hS 2 rfl rfl 24 (by decide) (hts _ q296) (fun _ h9 => h9) rfl (tyX14_ok 24 (by decide)) rfl rfl (Nat.le_of_ble_eq_true rfl) dX14_hangs_296 (fun H locs hP hD hS => ?_)
        have hP : va_P D vwCl [(m12, .inl (cy 2, 9, .inl (fun _ => 0))), (m10, .inl (cy 0, 9, .inl fc)), (h0, .inr (17, [.ref m0, .ref m1, .ref m2, .ref m3, .ref m4, .ref m5, .ref m6, .ref m7, .ref m8, .ref m9, .ref m10, .ref m11, .ref m12, .ref m13, .ref m14, .ref m15, .ref m16, .ref m17, .ref m18, .ref m19, .ref m20, .int 0, .int 0, .int 0, .int 0, .long 0, .int 0])), (m9, .inl (cy 0, 9, .inl (fun j => nI j))), (m0, .inr (2, [.int 0, .ref b1, .int 0]))] H := hP
        have hD : va_D A [(m12, .inl (cy 2, 9, .inl (fun _ => 0))), (m10, .inl (cy 0, 9, .inl fc)), (h0, .inr (17, [.ref m0, .ref m1, .ref m2, .ref m3, .ref m4, .ref m5, .ref m6, .ref m7, .ref m8, .ref m9, .ref m10, .ref m11, .ref m12, .ref m13, .ref m14, .ref m15, .ref m16, .ref m17, .ref m18, .ref m19, .ref m20, .int 0, .int 0, .int 0, .int 0, .long 0, .int 0])), (m9, .inl (cy 0, 9, .inl (fun j => nI j))), (m0, .inr (2, [.int 0, .ref b1, .int 0]))] := hD
        refine lv_iconst (v := 0) hx hb dX14_hangs_299 (by decide) ?_
        refine lv_istore (lv' := [(4, .int 0), (3, .int 0), (0, .ref h0), (1, .int day), (2, .int w)]) hx hb dX14_hangs_300 hl (by decide) rfl (fun ls hl => ?_)
        have lp302_10 : ∀ (n i : Nat), i ≤ 9 → 9 + 1 ≤ i + n → ∀ (g2 : Nat → Int32) (hg2 : ∀ j, j < i → g2 j = (-1)) (H : Heap) (locs : List Loc), va_P D vwCl [(m12, .inl (cy 2, 9, .inl (fun _ => 0))), (m10, .inl (cy 0, 9, .inl g2)), (h0, .inr (17, [.ref m0, .ref m1, .ref m2, .ref m3, .ref m4, .ref m5, .ref m6, .ref m7, .ref m8, .ref m9, .ref m10, .ref m11, .ref m12, .ref m13, .ref m14, .ref m15, .ref m16, .ref m17, .ref m18, .ref m19, .ref m20, .int 0, .int 0, .int 0, .int 0, .long 0, .int 0])), (m9, .inl (cy 0, 9, .inl (fun j => nI j))), (m0, .inr (2, [.int 0, .ref b1, .int 0]))] H → va_D A [(m12, .inl (cy 2, 9, .inl (fun _ => 0))), (m10, .inl (cy 0, 9, .inl g2)), (h0, .inr (17, [.ref m0, .ref m1, .ref m2, .ref m3, .ref m4, .ref m5, .ref m6, .ref m7, .ref m8, .ref m9, .ref m10, .ref m11, .ref m12, .ref m13, .ref m14, .ref m15, .ref m16, .ref m17, .ref m18, .ref m19, .ref m20, .int 0, .int 0, .int 0, .int 0, .long 0, .int 0])), (m9, .inl (cy 0, 9, .inl (fun j => nI j))), (m0, .inr (2, [.int 0, .ref b1, .int 0]))] → va_S A s.heap H locs → ∀ ls, lv_has ls 7 [(0, .ref h0), (1, .int day), (2, .int w), (3, .int 0), (4, .int (nI i))] → W p l e (headSpec (wz yX14_hangs cX14_hangs 7 none) ({ frames := 1, cells := 0, slots := 0, locals := 27 } : Room)).room s m ([.ref h0, .int day, .int w] : List Value).toArray below meth c H locs 0 0 Q (F0 m 302 ls []) := by
          intro n
          induction n with
          | zero => intro i h1 h2; exact absurd h2 (by omega)
          | succ n ih302 =>
            intro i hii hni g2 hg2 H locs hP hD hS ls hl
            refine lv_iload hx hb dX14_hangs_302 (lv_at hl 4 rfl) ?_
            refine lv_bipush (v := 9) hx hb dX14_hangs_304 (by decide) ?_
            refine lv_icmp_ge (tgt := 391) hx hb dX14_hangs_306 (by decide) (fun c_306_10 => ?_) (fun c_306_10 => ?_)
            · skip
              have hE : i = 9 := z_ge (N := 9) (by decide) hii (by decide) c_306_10
              subst hE
              have hl : lv_has ls 7 [(0, .ref h0), (1, .int day), (2, .int w), (3, .int 0), (4, .int 9)] := hl
              obtain ⟨hP, hD⟩ := zP_i (fun _ => (-1)) hP hD (q := 1) rfl hg2
              have hP : va_P D vwCl [(m12, .inl (cy 2, 9, .inl (fun _ => 0))), (m10, .inl (cy 0, 9, .inl (fun _ => (-1)))), (h0, .inr (17, [.ref m0, .ref m1, .ref m2, .ref m3, .ref m4, .ref m5, .ref m6, .ref m7, .ref m8, .ref m9, .ref m10, .ref m11, .ref m12, .ref m13, .ref m14, .ref m15, .ref m16, .ref m17, .ref m18, .ref m19, .ref m20, .int 0, .int 0, .int 0, .int 0, .long 0, .int 0])), (m9, .inl (cy 0, 9, .inl (fun j => nI j))), (m0, .inr (2, [.int 0, .ref b1, .int 0]))] H := hP
              have hD : va_D A [(m12, .inl (cy 2, 9, .inl (fun _ => 0))), (m10, .inl (cy 0, 9, .inl (fun _ => (-1)))), (h0, .inr (17, [.ref m0, .ref m1, .ref m2, .ref m3, .ref m4, .ref m5, .ref m6, .ref m7, .ref m8, .ref m9, .ref m10, .ref m11, .ref m12, .ref m13, .ref m14, .ref m15, .ref m16, .ref m17, .ref m18, .ref m19, .ref m20, .int 0, .int 0, .int 0, .int 0, .long 0, .int 0])), (m9, .inl (cy 0, 9, .inl (fun j => nI j))), (m0, .inr (2, [.int 0, .ref b1, .int 0]))] := hD
              have hP9 := hP.sub (ws' := [(h0, .inr (17, [.ref m0, .ref m1, .ref m2, .ref m3, .ref m4, .ref m5, .ref m6, .ref m7, .ref m8, .ref m9, .ref m10, .ref m11, .ref m12, .ref m13, .ref m14, .ref m15, .ref m16, .ref m17, .ref m18, .ref m19, .ref m20, .int 0, .int 0, .int 0, .int 0, .long 0, .int 0])), (m0, .inr (2, [.int 0, .ref b1, .int 0])), (m9, .inl (cy 0, 9, .inl (fun j => nI j))), (m12, .inl (cy 2, 9, .inl (fun _ => 0))), (m10, .inl (cy 0, 9, .inl (fun _ => (-1))))]) [2, 4, 3, 0, 1] rfl
              have hD9 := hD.sub (ws' := [(h0, .inr (17, [.ref m0, .ref m1, .ref m2, .ref m3, .ref m4, .ref m5, .ref m6, .ref m7, .ref m8, .ref m9, .ref m10, .ref m11, .ref m12, .ref m13, .ref m14, .ref m15, .ref m16, .ref m17, .ref m18, .ref m19, .ref m20, .int 0, .int 0, .int 0, .int 0, .long 0, .int 0])), (m0, .inr (2, [.int 0, .ref b1, .int 0])), (m9, .inl (cy 0, 9, .inl (fun j => nI j))), (m12, .inl (cy 2, 9, .inl (fun _ => 0))), (m10, .inl (cy 0, 9, .inl (fun _ => (-1))))]) [2, 4, 3, 0, 1] (by decide) rfl
              refine W.widen (k := 0) (n := 0) (Nat.le_of_ble_eq_true rfl) (Nat.le_of_ble_eq_true rfl) ?_
              rw [hQe]
              exact W.vret hx hb hr (fun t ht hW => ⟨⟨(), rfl, trivial, ⟨by rw [ht]; exact hP9, hD9⟩⟩, hS.F ht⟩) hS.2.2 dX14_hangs_391
            · skip
              have hlti : i < 9 := z_lt (N := 9) (by decide) hii (by decide) c_306_10
              refine lv_aload_n hx hb dX14_hangs_309 rfl (lv_at hl 0 rfl) ?_
              refine va_get (D := D) (ci := 17) (v := .ref m10) (C := RX14) (T := TX14) (N := 27) hx hb hts iRX14 hown hK hP 2 rfl rfl 10 (by decide) (hts _ q269) (fun _ h9 => h9) rfl dX14_hangs_310 ?_
              refine lv_iload hx hb dX14_hangs_313 (lv_at hl 4 rfl) ?_
              refine lv_iload hx hb dX14_hangs_315 (lv_at hl 4 rfl) ?_
              refine lv_aload_n hx hb dX14_hangs_317 rfl (lv_at hl 0 rfl) ?_
              refine va_get (D := D) (ci := 17) (v := .int 0) (C := RX14) (T := TX14) (N := 27) hx hb hts iRX14 hown hK hP 2 rfl rfl 22 (by decide) (hts _ q281) (fun _ h9 => h9) rfl dX14_hangs_318 ?_
              refine lv_icmp_ge (tgt := 358) hx hb dX14_hangs_321 (by decide) (fun _ => ?_) (fun c_321_11 => absurd (nI_pos' (by omega)) c_321_11)
              refine lv_iconst (v := (-1)) hx hb dX14_hangs_358 (by decide) ?_
              refine va_iast hx hb hK hP hD hS 1 0 rfl rfl (vp_in_nI (by omega) (by decide)) dX14_hangs_359 (fun H locs hP hD hS => ?_)
              have hP : va_P D vwCl [(m12, .inl (cy 2, 9, .inl (fun _ => 0))), (m10, .inl (cy 0, 9, .inl (upd g2 (nI i).toNatClampNeg (-1)))), (h0, .inr (17, [.ref m0, .ref m1, .ref m2, .ref m3, .ref m4, .ref m5, .ref m6, .ref m7, .ref m8, .ref m9, .ref m10, .ref m11, .ref m12, .ref m13, .ref m14, .ref m15, .ref m16, .ref m17, .ref m18, .ref m19, .ref m20, .int 0, .int 0, .int 0, .int 0, .long 0, .int 0])), (m9, .inl (cy 0, 9, .inl (fun j => nI j))), (m0, .inr (2, [.int 0, .ref b1, .int 0]))] H := hP
              have hD : va_D A [(m12, .inl (cy 2, 9, .inl (fun _ => 0))), (m10, .inl (cy 0, 9, .inl (upd g2 (nI i).toNatClampNeg (-1)))), (h0, .inr (17, [.ref m0, .ref m1, .ref m2, .ref m3, .ref m4, .ref m5, .ref m6, .ref m7, .ref m8, .ref m9, .ref m10, .ref m11, .ref m12, .ref m13, .ref m14, .ref m15, .ref m16, .ref m17, .ref m18, .ref m19, .ref m20, .int 0, .int 0, .int 0, .int 0, .long 0, .int 0])), (m9, .inl (cy 0, 9, .inl (fun j => nI j))), (m0, .inr (2, [.int 0, .ref b1, .int 0]))] := hD
              refine lv_aload_n hx hb dX14_hangs_360 rfl (lv_at hl 0 rfl) ?_
              refine lv_dup hx hb dX14_hangs_361 rfl ?_
              refine va_get (D := D) (ci := 17) (v := .int 0) (C := RX14) (T := TX14) (N := 27) hx hb hts iRX14 hown hK hP 2 rfl rfl 24 (by decide) (hts _ q296) (fun _ h9 => h9) rfl dX14_hangs_362 ?_
              refine lv_aload_n hx hb dX14_hangs_365 rfl (lv_at hl 0 rfl) ?_
              refine va_get (D := D) (ci := 17) (v := .ref m10) (C := RX14) (T := TX14) (N := 27) hx hb hts iRX14 hown hK hP 2 rfl rfl 10 (by decide) (hts _ q269) (fun _ h9 => h9) rfl dX14_hangs_366 ?_
              refine lv_iload hx hb dX14_hangs_369 (lv_at hl 4 rfl) ?_
              refine va_iald hx hb hK hP 1 0 rfl rfl (vp_in_nI (by omega) (by decide)) dX14_hangs_371 ?_
              refine lv_topi (fun y13 ey13 => ?_)
              obtain rfl : y13 = (-1) := ey13.trans pk_us
              refine lv_iconst (v := (-1)) hx hb dX14_hangs_372 (by decide) ?_
              refine lv_icmp_ne (tgt := 380) hx hb dX14_hangs_373 (by decide) (fun c_373_13 => absurd (by decide +kernel) c_373_13) (fun _ => ?_)
              refine lv_iconst (v := 0) hx hb dX14_hangs_376 (by decide) ?_
              refine lv_goto (tgt := 381) hx hb dX14_hangs_377 (by decide) ?_
              refine lv_iadd hx hb dX14_hangs_381 ?_
              refine lv_topi (fun y15 ey15 => ?_)
              obtain rfl : y15 = 0 := ey15.trans (by decide +kernel)
              refine va_put (D := D) (ci := 17) (v := .int 0) (ty := .int) (C := RX14) (T := TX14) (N := 27) hx hb hts iRX14 tyX14 tyX14_ok nmX14 hown hK hP hD hS 2 rfl rfl 24 (by decide) (hts _ q296) (fun _ h9 => h9) rfl (tyX14_ok 24 (by decide)) rfl rfl (Nat.le_of_ble_eq_true rfl) dX14_hangs_382 (fun H locs hP hD hS => ?_)
              have hP : va_P D vwCl [(m12, .inl (cy 2, 9, .inl (fun _ => 0))), (m10, .inl (cy 0, 9, .inl (upd g2 (nI i).toNatClampNeg (-1)))), (h0, .inr (17, [.ref m0, .ref m1, .ref m2, .ref m3, .ref m4, .ref m5, .ref m6, .ref m7, .ref m8, .ref m9, .ref m10, .ref m11, .ref m12, .ref m13, .ref m14, .ref m15, .ref m16, .ref m17, .ref m18, .ref m19, .ref m20, .int 0, .int 0, .int 0, .int 0, .long 0, .int 0])), (m9, .inl (cy 0, 9, .inl (fun j => nI j))), (m0, .inr (2, [.int 0, .ref b1, .int 0]))] H := hP
              have hD : va_D A [(m12, .inl (cy 2, 9, .inl (fun _ => 0))), (m10, .inl (cy 0, 9, .inl (upd g2 (nI i).toNatClampNeg (-1)))), (h0, .inr (17, [.ref m0, .ref m1, .ref m2, .ref m3, .ref m4, .ref m5, .ref m6, .ref m7, .ref m8, .ref m9, .ref m10, .ref m11, .ref m12, .ref m13, .ref m14, .ref m15, .ref m16, .ref m17, .ref m18, .ref m19, .ref m20, .int 0, .int 0, .int 0, .int 0, .long 0, .int 0])), (m9, .inl (cy 0, 9, .inl (fun j => nI j))), (m0, .inr (2, [.int 0, .ref b1, .int 0]))] := hD
              refine lv_iinc (v := (nI (i + 1))) (lv' := [(4, .int (nI (i + 1))), (0, .ref h0), (1, .int day), (2, .int w), (3, .int 0)]) hx hb dX14_hangs_385 hl (k := 4) rfl (z_n1 i) (by decide) rfl (fun ls hl => ?_)
              refine lv_goto (tgt := 302) hx hb dX14_hangs_388 (by decide) ?_
              exact ih302 (i + 1) (by omega) (by omega) _ (z_up (by omega) hg2 rfl) _ _ (hP.sub [0, 1, 2, 3, 4] rfl) (hD.sub [0, 1, 2, 3, 4] (by decide) rfl) hS ls (lv_sub hl [1, 2, 3, 4, 0] rfl)
        exact lp302_10 (9 + 1) 0 (by decide) (by decide) _ z_nil _ _ hP hD hS ls (lv_sub hl [2, 3, 4, 1, 0] rfl)
      · skip
        have hlti : i < 9 := z_lt (N := 9) (by decide) hii (by decide) c_14_3
        refine lv_aload_n hx hb dX14_hangs_17 rfl (lv_at hl 0 rfl) ?_
        refine va_get (D := D) (ci := 17) (v := .ref m12) (C := RX14) (T := TX14) (N := 27) hx hb hts iRX14 hown hK hP 3 rfl rfl 12 (by decide) (hts _ q271) (fun _ h9 => h9) rfl dX14_hangs_18 ?_
        refine lv_iload_n hx hb dX14_hangs_21 rfl (lv_at hl 3 rfl) ?_
        refine lv_iload_n hx hb dX14_hangs_22 rfl (lv_at hl 3 rfl) ?_
        refine lv_aload_n hx hb dX14_hangs_23 rfl (lv_at hl 0 rfl) ?_
        refine va_get (D := D) (ci := 17) (v := .int 0) (C := RX14) (T := TX14) (N := 27) hx hb hts iRX14 hown hK hP 3 rfl rfl 22 (by decide) (hts _ q281) (fun _ h9 => h9) rfl dX14_hangs_24 ?_
        refine lv_icmp_ge (tgt := 43) hx hb dX14_hangs_27 (by decide) (fun _ => ?_) (fun c_27_15 => absurd (nI_pos' (by omega)) c_27_15)
        refine lv_iconst (v := 0) hx hb dX14_hangs_43 (by decide) ?_
        refine va_zast hx hb hK hP hD hS 1 2 rfl rfl (vp_in_nI (by omega) (by decide)) dX14_hangs_44 (fun H locs hP hD hS => ?_)
        have hP : va_P D vwCl [(m0, .inr (2, [.int 0, .ref b1, .int 0])), (m12, .inl (cy 2, 9, .inl (upd g1 (nI i).toNatClampNeg (vp_nar .boolean 0)))), (m10, .inl (cy 0, 9, .inl fc)), (h0, .inr (17, [.ref m0, .ref m1, .ref m2, .ref m3, .ref m4, .ref m5, .ref m6, .ref m7, .ref m8, .ref m9, .ref m10, .ref m11, .ref m12, .ref m13, .ref m14, .ref m15, .ref m16, .ref m17, .ref m18, .ref m19, .ref m20, .int 0, .int 0, .int 0, .int 0, .long 0, .int 0])), (m9, .inl (cy 0, 9, .inl (fun j => nI j)))] H := hP
        have hD : va_D A [(m0, .inr (2, [.int 0, .ref b1, .int 0])), (m12, .inl (cy 2, 9, .inl (upd g1 (nI i).toNatClampNeg (vp_nar .boolean 0)))), (m10, .inl (cy 0, 9, .inl fc)), (h0, .inr (17, [.ref m0, .ref m1, .ref m2, .ref m3, .ref m4, .ref m5, .ref m6, .ref m7, .ref m8, .ref m9, .ref m10, .ref m11, .ref m12, .ref m13, .ref m14, .ref m15, .ref m16, .ref m17, .ref m18, .ref m19, .ref m20, .int 0, .int 0, .int 0, .int 0, .long 0, .int 0])), (m9, .inl (cy 0, 9, .inl (fun j => nI j)))] := hD
        refine lv_iinc (v := (nI (i + 1))) (lv' := [(3, .int (nI (i + 1))), (0, .ref h0), (1, .int day), (2, .int w)]) hx hb dX14_hangs_45 hl (k := 3) rfl (z_n1 i) (by decide) rfl (fun ls hl => ?_)
        refine lv_goto (tgt := 11) hx hb dX14_hangs_48 (by decide) ?_
        exact ih11 (i + 1) (by omega) (by omega) _ (z_up (by omega) hg1 rfl) _ _ (hP.sub [0, 1, 2, 3, 4] rfl) (hD.sub [0, 1, 2, 3, 4] (by decide) rfl) hS ls (lv_sub hl [1, 2, 3, 0] rfl)
  exact lp11_3 (9 + 1) 0 (by decide) (by decide) _ z_nil _ _ hP hD hS ls (lv_sub hl [1, 2, 3, 0] rfl)
set_option maxHeartbeats 4000000 in
set_option maxRecDepth 100000 in
/-- laysOut: no shots -/
theorem k_m_laysOut (l : Launch) (D : va_G) (cy : Nat → ClassId) (h0 : Nat) (m0 : Nat) (m1 : Nat) (m2 : Nat) (m3 : Nat) (m4 : Nat) (m5 : Nat) (m6 : Nat) (m7 : Nat) (m8 : Nat) (m9 : Nat) (m10 : Nat) (m11 : Nat) (m12 : Nat) (m13 : Nat) (m14 : Nat) (m15 : Nat) (m16 : Nat) (m17 : Nat) (m18 : Nat) (m19 : Nat) (m20 : Nat) (b1 : Nat) (fm : Nat → Int64) (fr : Nat → Int64) (sz : Nat)  : Met l yX14_laysOut (wz yX14_laysOut cX14_laysOut 3 none) ({ frames := 1, cells := 0, slots := 0, locals := 20 } : Room) (va_Pc [.ref h0] (zPre vwCl D cy [(h0, .inr (17, [.ref m0, .ref m1, .ref m2, .ref m3, .ref m4, .ref m5, .ref m6, .ref m7, .ref m8, .ref m9, .ref m10, .ref m11, .ref m12, .ref m13, .ref m14, .ref m15, .ref m16, .ref m17, .ref m18, .ref m19, .ref m20, .int 0, .int 0, .int 0, .int 0, .long 0, .int 0])), (m0, .inr (2, [.int 0, .ref b1, .int 0])), (m16, .inl (cy 1, 64, .inr (.inl fm))), (m17, .inl (cy 1, 24, .inr (.inl fr)))] sz)) (va_Qv (fun _ : Unit => True) (fun (u : Unit) t => zPost vwCl D (va_A [(h0, .inr (17, [.ref m0, .ref m1, .ref m2, .ref m3, .ref m4, .ref m5, .ref m6, .ref m7, .ref m8, .ref m9, .ref m10, .ref m11, .ref m12, .ref m13, .ref m14, .ref m15, .ref m16, .ref m17, .ref m18, .ref m19, .ref m20, .int 0, .int 0, .int 0, .int 0, .long 0, .int 0])), (m0, .inr (2, [.int 0, .ref b1, .int 0])), (m16, .inl (cy 1, 64, .inr (.inl fm))), (m17, .inl (cy 1, 24, .inr (.inl fr)))] sz) [(h0, .inr (17, [.ref m0, .ref m1, .ref m2, .ref m3, .ref m4, .ref m5, .ref m6, .ref m7, .ref m8, .ref m9, .ref m10, .ref m11, .ref m12, .ref m13, .ref m14, .ref m15, .ref m16, .ref m17, .ref m18, .ref m19, .ref m20, .int 0, .int 0, .int 0, .int 0, .long 0, .int 0])), (m0, .inr (2, [.int 0, .ref b1, .int 0])), (m16, .inl (cy 1, 64, .inr (.inl (fun _ => 0)))), (m17, .inl (cy 1, 24, .inr (.inl (fun _ => 0))))] t) (va_A [(h0, .inr (17, [.ref m0, .ref m1, .ref m2, .ref m3, .ref m4, .ref m5, .ref m6, .ref m7, .ref m8, .ref m9, .ref m10, .ref m11, .ref m12, .ref m13, .ref m14, .ref m15, .ref m16, .ref m17, .ref m18, .ref m19, .ref m20, .int 0, .int 0, .int 0, .int 0, .long 0, .int 0])), (m0, .inr (2, [.int 0, .ref b1, .int 0])), (m16, .inl (cy 1, 64, .inr (.inl fm))), (m17, .inl (cy 1, 24, .inr (.inl fr)))] sz)) 0 0 (va_A [(h0, .inr (17, [.ref m0, .ref m1, .ref m2, .ref m3, .ref m4, .ref m5, .ref m6, .ref m7, .ref m8, .ref m9, .ref m10, .ref m11, .ref m12, .ref m13, .ref m14, .ref m15, .ref m16, .ref m17, .ref m18, .ref m19, .ref m20, .int 0, .int 0, .int 0, .int 0, .long 0, .int 0])), (m0, .inr (2, [.int 0, .ref b1, .int 0])), (m16, .inl (cy 1, 64, .inr (.inl fm))), (m17, .inl (cy 1, 24, .inr (.inl fr)))] sz) := by
  refine Met.ofW (cc := cX14_laysOut) (maxL := 3) (ret := none) (by decide) rfl ?_
  intro p e s m args below meth c s₁ B hml hv
  obtain ⟨rfl, hsz, hP, hK, hD0, hX, hY⟩ := hv
  have hx := B.exec
  have hb := B.bytes
  have hr := B.returns
  have hts0 := atoms_spec (ws := wz yX14_laysOut cX14_laysOut 3 none) B.pre
  have hts : ∀ w ∈ wAll, w.before _ s = true := fun w h => hts0 w (List.mem_cons_of_mem _ h)
  have hown : s.vm.findClass RX14 = some m.cls := findClass_of_methodNamed B.named
  have hlocks := B.notSynchronized
  subst hsz
  have hD := hD0.self (sz := s.heap.size)
  generalize hAe : va_A [(h0, .inr (17, [.ref m0, .ref m1, .ref m2, .ref m3, .ref m4, .ref m5, .ref m6, .ref m7, .ref m8, .ref m9, .ref m10, .ref m11, .ref m12, .ref m13, .ref m14, .ref m15, .ref m16, .ref m17, .ref m18, .ref m19, .ref m20, .int 0, .int 0, .int 0, .int 0, .long 0, .int 0])), (m0, .inr (2, [.int 0, .ref b1, .int 0])), (m16, .inl (cy 1, 64, .inr (.inl fm))), (m17, .inl (cy 1, 24, .inr (.inl fr)))] s.heap.size = A at hD hY ⊢
  have hA : ∀ q : Nat, s.heap.size ≤ q → A q := fun q h => by rw [← hAe]; exact Or.inr h
  have hS : va_S A s.heap s.heap [] := va_S.rf
  have hP : va_P D vwCl [(h0, .inr (17, [.ref m0, .ref m1, .ref m2, .ref m3, .ref m4, .ref m5, .ref m6, .ref m7, .ref m8, .ref m9, .ref m10, .ref m11, .ref m12, .ref m13, .ref m14, .ref m15, .ref m16, .ref m17, .ref m18, .ref m19, .ref m20, .int 0, .int 0, .int 0, .int 0, .long 0, .int 0])), (m0, .inr (2, [.int 0, .ref b1, .int 0])), (m16, .inl (cy 1, 64, .inr (.inl fm))), (m17, .inl (cy 1, 24, .inr (.inl fr)))] s.heap := hP
  have hl := lv_entry ([.ref h0]) (n := 3) (Nat.le_of_ble_eq_true rfl)
  rw [lg_entry_eq]
  generalize (lg_sl ([.ref h0]) ++ List.replicate (3 - (lg_sl ([.ref h0])).length) Slot.unset).toArray = ls at hl ⊢
  have hl : lv_has ls 3 [(0, .ref h0)] := hl
  refine z_anyQ (fun Q hQe => ?_)
  refine lv_iconst (v := 0) hx hb dX14_laysOut_0 (by decide) ?_
  refine lv_istore_n (lv' := [(1, .int 0), (0, .ref h0)]) hx hb dX14_laysOut_1 rfl hl (by decide) rfl (fun ls hl => ?_)
  have lp2_1 : ∀ (n i : Nat), i ≤ 64 → 64 + 1 ≤ i + n → ∀ (g1 : Nat → Int64) (hg1 : ∀ j, j < i → g1 j = 0) (H : Heap) (locs : List Loc), va_P D vwCl [(h0, .inr (17, [.ref m0, .ref m1, .ref m2, .ref m3, .ref m4, .ref m5, .ref m6, .ref m7, .ref m8, .ref m9, .ref m10, .ref m11, .ref m12, .ref m13, .ref m14, .ref m15, .ref m16, .ref m17, .ref m18, .ref m19, .ref m20, .int 0, .int 0, .int 0, .int 0, .long 0, .int 0])), (m0, .inr (2, [.int 0, .ref b1, .int 0])), (m16, .inl (cy 1, 64, .inr (.inl g1))), (m17, .inl (cy 1, 24, .inr (.inl fr)))] H → va_D A [(h0, .inr (17, [.ref m0, .ref m1, .ref m2, .ref m3, .ref m4, .ref m5, .ref m6, .ref m7, .ref m8, .ref m9, .ref m10, .ref m11, .ref m12, .ref m13, .ref m14, .ref m15, .ref m16, .ref m17, .ref m18, .ref m19, .ref m20, .int 0, .int 0, .int 0, .int 0, .long 0, .int 0])), (m0, .inr (2, [.int 0, .ref b1, .int 0])), (m16, .inl (cy 1, 64, .inr (.inl g1))), (m17, .inl (cy 1, 24, .inr (.inl fr)))] → va_S A s.heap H locs → ∀ ls, lv_has ls 3 [(0, .ref h0), (1, .int (nI i))] → W p l e (headSpec (wz yX14_laysOut cX14_laysOut 3 none) ({ frames := 1, cells := 0, slots := 0, locals := 20 } : Room)).room s m ([.ref h0] : List Value).toArray below meth c H locs 0 0 Q (F0 m 2 ls []) := by
    intro n
    induction n with
    | zero => intro i h1 h2; exact absurd h2 (by omega)
    | succ n ih2 =>
      intro i hii hni g1 hg1 H locs hP hD hS ls hl
      refine lv_iload_n hx hb dX14_laysOut_2 rfl (lv_at hl 1 rfl) ?_
      refine lv_bipush (v := 64) hx hb dX14_laysOut_3 (by decide) ?_
      refine lv_icmp_ge (tgt := 21) hx hb dX14_laysOut_5 (by decide) (fun c_5_1 => ?_) (fun c_5_1 => ?_)
      · skip
        have hE : i = 64 := z_ge (N := 64) (by decide) hii (by decide) c_5_1
        subst hE
        have hl : lv_has ls 3 [(0, .ref h0), (1, .int 64)] := hl
        obtain ⟨hP, hD⟩ := zP_l (fun _ => 0) hP hD (q := 2) rfl hg1
        have hP : va_P D vwCl [(h0, .inr (17, [.ref m0, .ref m1, .ref m2, .ref m3, .ref m4, .ref m5, .ref m6, .ref m7, .ref m8, .ref m9, .ref m10, .ref m11, .ref m12, .ref m13, .ref m14, .ref m15, .ref m16, .ref m17, .ref m18, .ref m19, .ref m20, .int 0, .int 0, .int 0, .int 0, .long 0, .int 0])), (m0, .inr (2, [.int 0, .ref b1, .int 0])), (m16, .inl (cy 1, 64, .inr (.inl (fun _ => 0)))), (m17, .inl (cy 1, 24, .inr (.inl fr)))] H := hP
        have hD : va_D A [(h0, .inr (17, [.ref m0, .ref m1, .ref m2, .ref m3, .ref m4, .ref m5, .ref m6, .ref m7, .ref m8, .ref m9, .ref m10, .ref m11, .ref m12, .ref m13, .ref m14, .ref m15, .ref m16, .ref m17, .ref m18, .ref m19, .ref m20, .int 0, .int 0, .int 0, .int 0, .long 0, .int 0])), (m0, .inr (2, [.int 0, .ref b1, .int 0])), (m16, .inl (cy 1, 64, .inr (.inl (fun _ => 0)))), (m17, .inl (cy 1, 24, .inr (.inl fr)))] := hD
        refine lv_iconst (v := 0) hx hb dX14_laysOut_21 (by decide) ?_
        refine lv_istore_n (lv' := [(1, .int 0), (0, .ref h0)]) hx hb dX14_laysOut_22 rfl hl (by decide) rfl (fun ls hl => ?_)
        have lp23_3 : ∀ (n i : Nat), i ≤ 24 → 24 + 1 ≤ i + n → ∀ (g2 : Nat → Int64) (hg2 : ∀ j, j < i → g2 j = 0) (H : Heap) (locs : List Loc), va_P D vwCl [(h0, .inr (17, [.ref m0, .ref m1, .ref m2, .ref m3, .ref m4, .ref m5, .ref m6, .ref m7, .ref m8, .ref m9, .ref m10, .ref m11, .ref m12, .ref m13, .ref m14, .ref m15, .ref m16, .ref m17, .ref m18, .ref m19, .ref m20, .int 0, .int 0, .int 0, .int 0, .long 0, .int 0])), (m0, .inr (2, [.int 0, .ref b1, .int 0])), (m16, .inl (cy 1, 64, .inr (.inl (fun _ => 0)))), (m17, .inl (cy 1, 24, .inr (.inl g2)))] H → va_D A [(h0, .inr (17, [.ref m0, .ref m1, .ref m2, .ref m3, .ref m4, .ref m5, .ref m6, .ref m7, .ref m8, .ref m9, .ref m10, .ref m11, .ref m12, .ref m13, .ref m14, .ref m15, .ref m16, .ref m17, .ref m18, .ref m19, .ref m20, .int 0, .int 0, .int 0, .int 0, .long 0, .int 0])), (m0, .inr (2, [.int 0, .ref b1, .int 0])), (m16, .inl (cy 1, 64, .inr (.inl (fun _ => 0)))), (m17, .inl (cy 1, 24, .inr (.inl g2)))] → va_S A s.heap H locs → ∀ ls, lv_has ls 3 [(0, .ref h0), (1, .int (nI i))] → W p l e (headSpec (wz yX14_laysOut cX14_laysOut 3 none) ({ frames := 1, cells := 0, slots := 0, locals := 20 } : Room)).room s m ([.ref h0] : List Value).toArray below meth c H locs 0 0 Q (F0 m 23 ls []) := by
          intro n
          induction n with
          | zero => intro i h1 h2; exact absurd h2 (by omega)
          | succ n ih23 =>
            intro i hii hni g2 hg2 H locs hP hD hS ls hl
            refine lv_iload_n hx hb dX14_laysOut_23 rfl (lv_at hl 1 rfl) ?_
            refine lv_bipush (v := 24) hx hb dX14_laysOut_24 (by decide) ?_
            refine lv_icmp_ge (tgt := 42) hx hb dX14_laysOut_26 (by decide) (fun c_26_3 => ?_) (fun c_26_3 => ?_)
            · skip
              have hE : i = 24 := z_ge (N := 24) (by decide) hii (by decide) c_26_3
              subst hE
              have hl : lv_has ls 3 [(0, .ref h0), (1, .int 24)] := hl
              obtain ⟨hP, hD⟩ := zP_l (fun _ => 0) hP hD (q := 3) rfl hg2
              have hP : va_P D vwCl [(h0, .inr (17, [.ref m0, .ref m1, .ref m2, .ref m3, .ref m4, .ref m5, .ref m6, .ref m7, .ref m8, .ref m9, .ref m10, .ref m11, .ref m12, .ref m13, .ref m14, .ref m15, .ref m16, .ref m17, .ref m18, .ref m19, .ref m20, .int 0, .int 0, .int 0, .int 0, .long 0, .int 0])), (m0, .inr (2, [.int 0, .ref b1, .int 0])), (m16, .inl (cy 1, 64, .inr (.inl (fun _ => 0)))), (m17, .inl (cy 1, 24, .inr (.inl (fun _ => 0))))] H := hP
              have hD : va_D A [(h0, .inr (17, [.ref m0, .ref m1, .ref m2, .ref m3, .ref m4, .ref m5, .ref m6, .ref m7, .ref m8, .ref m9, .ref m10, .ref m11, .ref m12, .ref m13, .ref m14, .ref m15, .ref m16, .ref m17, .ref m18, .ref m19, .ref m20, .int 0, .int 0, .int 0, .int 0, .long 0, .int 0])), (m0, .inr (2, [.int 0, .ref b1, .int 0])), (m16, .inl (cy 1, 64, .inr (.inl (fun _ => 0)))), (m17, .inl (cy 1, 24, .inr (.inl (fun _ => 0))))] := hD
              refine lv_iconst (v := 0) hx hb dX14_laysOut_42 (by decide) ?_
              refine lv_istore_n (lv' := [(1, .int 0), (0, .ref h0)]) hx hb dX14_laysOut_43 rfl hl (by decide) rfl (fun ls hl => ?_)
              refine lv_iload_n hx hb dX14_laysOut_44 rfl (lv_at hl 0 rfl) ?_
              refine lv_aload_n hx hb dX14_laysOut_45 rfl (lv_at hl 1 rfl) ?_
              refine va_get (D := D) (ci := 17) (v := .ref m0) (C := RX14) (T := TX14) (N := 27) hx hb hts iRX14 hown hK hP 0 rfl rfl 0 (by decide) (hts _ q259) (fun _ h9 => h9) rfl dX14_laysOut_46 ?_
              refine zq_i (wc := [(m0, .inr (2, [.int 0, .ref b1, .int 0]))]) (wr := [(h0, .inr (17, [.ref m0, .ref m1, .ref m2, .ref m3, .ref m4, .ref m5, .ref m6, .ref m7, .ref m8, .ref m9, .ref m10, .ref m11, .ref m12, .ref m13, .ref m14, .ref m15, .ref m16, .ref m17, .ref m18, .ref m19, .ref m20, .int 0, .int 0, .int 0, .int 0, .long 0, .int 0])), (m16, .inl (cy 1, 64, .inr (.inl (fun _ => 0)))), (m17, .inl (cy 1, 24, .inr (.inl (fun _ => 0))))]) (va_runV (As := []) (rest := [.int 0]) ⟨hx, hb, hml, hown, hts⟩ (k_AL_size l D cy m0 b1 H.size ) (cwV 0 hts (gzV (gz q287) q286 q288 q289 q255) rfl rfl rfl vJx4a65c_size_8abf5 ⟨Nat.le_of_ble_eq_true rfl, Nat.le_of_ble_eq_true rfl⟩) (zpV (ci := 2) (T := TJx4a65c) (N := 3) (q0 := 0) hK hX hY hP hD hS hA [1] (by decide) rfl rfl rfl) rfl rfl hl.1 rfl (lv_room (Nat.le_of_ble_eq_true rfl)) dX14_laysOut_49 ⟨Nat.le_of_ble_eq_true rfl, Nat.le_of_ble_eq_true rfl⟩) hP hD hS hA [1] [0, 2, 3] rfl rfl (by decide) (by decide) (fun x6 u5 H locs hw hP hD hS => ?_)
              obtain rfl : x6 = 0 := hw
              have hP : va_P D vwCl [(h0, .inr (17, [.ref m0, .ref m1, .ref m2, .ref m3, .ref m4, .ref m5, .ref m6, .ref m7, .ref m8, .ref m9, .ref m10, .ref m11, .ref m12, .ref m13, .ref m14, .ref m15, .ref m16, .ref m17, .ref m18, .ref m19, .ref m20, .int 0, .int 0, .int 0, .int 0, .long 0, .int 0])), (m16, .inl (cy 1, 64, .inr (.inl (fun _ => 0)))), (m17, .inl (cy 1, 24, .inr (.inl (fun _ => 0)))), (m0, .inr (2, [.int 0, .ref b1, .int 0]))] H := hP
              have hD : va_D A [(h0, .inr (17, [.ref m0, .ref m1, .ref m2, .ref m3, .ref m4, .ref m5, .ref m6, .ref m7, .ref m8, .ref m9, .ref m10, .ref m11, .ref m12, .ref m13, .ref m14, .ref m15, .ref m16, .ref m17, .ref m18, .ref m19, .ref m20, .int 0, .int 0, .int 0, .int 0, .long 0, .int 0])), (m16, .inl (cy 1, 64, .inr (.inl (fun _ => 0)))), (m17, .inl (cy 1, 24, .inr (.inl (fun _ => 0)))), (m0, .inr (2, [.int 0, .ref b1, .int 0]))] := hD
              refine lv_icmp_ge (tgt := 153) hx hb dX14_laysOut_52 (by decide) (fun _ => ?_) (fun c_52_6 => absurd (by decide +kernel) c_52_6)
              have hP9 := hP.sub (ws' := [(h0, .inr (17, [.ref m0, .ref m1, .ref m2, .ref m3, .ref m4, .ref m5, .ref m6, .ref m7, .ref m8, .ref m9, .ref m10, .ref m11, .ref m12, .ref m13, .ref m14, .ref m15, .ref m16, .ref m17, .ref m18, .ref m19, .ref m20, .int 0, .int 0, .int 0, .int 0, .long 0, .int 0])), (m0, .inr (2, [.int 0, .ref b1, .int 0])), (m16, .inl (cy 1, 64, .inr (.inl (fun _ => 0)))), (m17, .inl (cy 1, 24, .inr (.inl (fun _ => 0))))]) [0, 3, 1, 2] rfl
              have hD9 := hD.sub (ws' := [(h0, .inr (17, [.ref m0, .ref m1, .ref m2, .ref m3, .ref m4, .ref m5, .ref m6, .ref m7, .ref m8, .ref m9, .ref m10, .ref m11, .ref m12, .ref m13, .ref m14, .ref m15, .ref m16, .ref m17, .ref m18, .ref m19, .ref m20, .int 0, .int 0, .int 0, .int 0, .long 0, .int 0])), (m0, .inr (2, [.int 0, .ref b1, .int 0])), (m16, .inl (cy 1, 64, .inr (.inl (fun _ => 0)))), (m17, .inl (cy 1, 24, .inr (.inl (fun _ => 0))))]) [0, 3, 1, 2] (by decide) rfl
              refine W.widen (k := 0) (n := 0) (Nat.le_of_ble_eq_true rfl) (Nat.le_of_ble_eq_true rfl) ?_
              rw [hQe]
              exact W.vret hx hb hr (fun t ht hW => ⟨⟨(), rfl, trivial, ⟨by rw [ht]; exact hP9, hD9⟩⟩, hS.F ht⟩) hS.2.2 dX14_laysOut_153
            · skip
              have hlti : i < 24 := z_lt (N := 24) (by decide) hii (by decide) c_26_3
              refine lv_aload_n hx hb dX14_laysOut_29 rfl (lv_at hl 0 rfl) ?_
              refine va_get (D := D) (ci := 17) (v := .ref m17) (C := RX14) (T := TX14) (N := 27) hx hb hts iRX14 hown hK hP 0 rfl rfl 17 (by decide) (hts _ q276) (fun _ h9 => h9) rfl dX14_laysOut_30 ?_
              refine lv_iload_n hx hb dX14_laysOut_33 rfl (lv_at hl 1 rfl) ?_
              refine lv_lconst (v := 0) hx hb dX14_laysOut_34 rfl ?_
              refine va_last hx hb hK hP hD hS 3 1 rfl rfl (vp_in_nI (by omega) (by decide)) dX14_laysOut_35 (fun H locs hP hD hS => ?_)
              have hP : va_P D vwCl [(h0, .inr (17, [.ref m0, .ref m1, .ref m2, .ref m3, .ref m4, .ref m5, .ref m6, .ref m7, .ref m8, .ref m9, .ref m10, .ref m11, .ref m12, .ref m13, .ref m14, .ref m15, .ref m16, .ref m17, .ref m18, .ref m19, .ref m20, .int 0, .int 0, .int 0, .int 0, .long 0, .int 0])), (m0, .inr (2, [.int 0, .ref b1, .int 0])), (m16, .inl (cy 1, 64, .inr (.inl (fun _ => 0)))), (m17, .inl (cy 1, 24, .inr (.inl (vp_updL g2 (nI i).toNatClampNeg 0))))] H := hP
              have hD : va_D A [(h0, .inr (17, [.ref m0, .ref m1, .ref m2, .ref m3, .ref m4, .ref m5, .ref m6, .ref m7, .ref m8, .ref m9, .ref m10, .ref m11, .ref m12, .ref m13, .ref m14, .ref m15, .ref m16, .ref m17, .ref m18, .ref m19, .ref m20, .int 0, .int 0, .int 0, .int 0, .long 0, .int 0])), (m0, .inr (2, [.int 0, .ref b1, .int 0])), (m16, .inl (cy 1, 64, .inr (.inl (fun _ => 0)))), (m17, .inl (cy 1, 24, .inr (.inl (vp_updL g2 (nI i).toNatClampNeg 0))))] := hD
              refine lv_iinc (v := (nI (i + 1))) (lv' := [(1, .int (nI (i + 1))), (0, .ref h0)]) hx hb dX14_laysOut_36 hl (k := 1) rfl (z_n1 i) (by decide) rfl (fun ls hl => ?_)
              refine lv_goto (tgt := 23) hx hb dX14_laysOut_39 (by decide) ?_
              exact ih23 (i + 1) (by omega) (by omega) _ (z_upL (by omega) hg2 rfl) _ _ (hP.sub [0, 1, 2, 3] rfl) (hD.sub [0, 1, 2, 3] (by decide) rfl) hS ls (lv_sub hl [1, 0] rfl)
        exact lp23_3 (24 + 1) 0 (by decide) (by decide) _ z_nil _ _ hP hD hS ls (lv_sub hl [1, 0] rfl)
      · skip
        have hlti : i < 64 := z_lt (N := 64) (by decide) hii (by decide) c_5_1
        refine lv_aload_n hx hb dX14_laysOut_8 rfl (lv_at hl 0 rfl) ?_
        refine va_get (D := D) (ci := 17) (v := .ref m16) (C := RX14) (T := TX14) (N := 27) hx hb hts iRX14 hown hK hP 0 rfl rfl 16 (by decide) (hts _ q275) (fun _ h9 => h9) rfl dX14_laysOut_9 ?_
        refine lv_iload_n hx hb dX14_laysOut_12 rfl (lv_at hl 1 rfl) ?_
        refine lv_lconst (v := 0) hx hb dX14_laysOut_13 rfl ?_
        refine va_last hx hb hK hP hD hS 2 1 rfl rfl (vp_in_nI (by omega) (by decide)) dX14_laysOut_14 (fun H locs hP hD hS => ?_)
        have hP : va_P D vwCl [(h0, .inr (17, [.ref m0, .ref m1, .ref m2, .ref m3, .ref m4, .ref m5, .ref m6, .ref m7, .ref m8, .ref m9, .ref m10, .ref m11, .ref m12, .ref m13, .ref m14, .ref m15, .ref m16, .ref m17, .ref m18, .ref m19, .ref m20, .int 0, .int 0, .int 0, .int 0, .long 0, .int 0])), (m0, .inr (2, [.int 0, .ref b1, .int 0])), (m16, .inl (cy 1, 64, .inr (.inl (vp_updL g1 (nI i).toNatClampNeg 0)))), (m17, .inl (cy 1, 24, .inr (.inl fr)))] H := hP
        have hD : va_D A [(h0, .inr (17, [.ref m0, .ref m1, .ref m2, .ref m3, .ref m4, .ref m5, .ref m6, .ref m7, .ref m8, .ref m9, .ref m10, .ref m11, .ref m12, .ref m13, .ref m14, .ref m15, .ref m16, .ref m17, .ref m18, .ref m19, .ref m20, .int 0, .int 0, .int 0, .int 0, .long 0, .int 0])), (m0, .inr (2, [.int 0, .ref b1, .int 0])), (m16, .inl (cy 1, 64, .inr (.inl (vp_updL g1 (nI i).toNatClampNeg 0)))), (m17, .inl (cy 1, 24, .inr (.inl fr)))] := hD
        refine lv_iinc (v := (nI (i + 1))) (lv' := [(1, .int (nI (i + 1))), (0, .ref h0)]) hx hb dX14_laysOut_15 hl (k := 1) rfl (z_n1 i) (by decide) rfl (fun ls hl => ?_)
        refine lv_goto (tgt := 2) hx hb dX14_laysOut_18 (by decide) ?_
        exact ih2 (i + 1) (by omega) (by omega) _ (z_upL (by omega) hg1 rfl) _ _ (hP.sub [0, 1, 2, 3] rfl) (hD.sub [0, 1, 2, 3] (by decide) rfl) hS ls (lv_sub hl [1, 0] rfl)
  exact lp2_1 (64 + 1) 0 (by decide) (by decide) _ z_nil _ _ hP hD hS ls (lv_sub hl [1, 0] rfl)
set_option maxHeartbeats 4000000 in
set_option maxRecDepth 100000 in
/-- determinant of nothing: 1 -/
theorem k_m_det (l : Launch) (D : va_G) (cy : Nat → ClassId) (h0 : Nat) (m0 : Nat) (m1 : Nat) (m2 : Nat) (m3 : Nat) (m4 : Nat) (m5 : Nat) (m6 : Nat) (m7 : Nat) (m8 : Nat) (m9 : Nat) (m10 : Nat) (m11 : Nat) (m12 : Nat) (m13 : Nat) (m14 : Nat) (m15 : Nat) (m16 : Nat) (m17 : Nat) (m18 : Nat) (m19 : Nat) (m20 : Nat) (ax : Int32) (ch : Int32) (fn : Nat → Int64) (sz : Nat)  : Met l yX14_determinant (wz yX14_determinant cX14_determinant 11 (some .long)) ({ frames := 0, cells := 0, slots := 0, locals := 0 } : Room) (va_Pc [.ref h0, .int ax, .int ch] (zPre vwCl D cy [(h0, .inr (17, [.ref m0, .ref m1, .ref m2, .ref m3, .ref m4, .ref m5, .ref m6, .ref m7, .ref m8, .ref m9, .ref m10, .ref m11, .ref m12, .ref m13, .ref m14, .ref m15, .ref m16, .ref m17, .ref m18, .ref m19, .ref m20, .int 0, .int 0, .int 0, .int 0, .long 0, .int 0])), (m14, .inl (cy 1, 256, .inr (.inl fn)))] sz)) (va_Ql (fun (r : Int64) (_ : Unit) => r = 1) (fun (u : Unit) t => zPost vwCl D (va_A [(h0, .inr (17, [.ref m0, .ref m1, .ref m2, .ref m3, .ref m4, .ref m5, .ref m6, .ref m7, .ref m8, .ref m9, .ref m10, .ref m11, .ref m12, .ref m13, .ref m14, .ref m15, .ref m16, .ref m17, .ref m18, .ref m19, .ref m20, .int 0, .int 0, .int 0, .int 0, .long 0, .int 0])), (m14, .inl (cy 1, 256, .inr (.inl fn)))] sz) [(h0, .inr (17, [.ref m0, .ref m1, .ref m2, .ref m3, .ref m4, .ref m5, .ref m6, .ref m7, .ref m8, .ref m9, .ref m10, .ref m11, .ref m12, .ref m13, .ref m14, .ref m15, .ref m16, .ref m17, .ref m18, .ref m19, .ref m20, .int 0, .int 0, .int 0, .int 0, .long 0, .int 0]))] t) (va_A [(h0, .inr (17, [.ref m0, .ref m1, .ref m2, .ref m3, .ref m4, .ref m5, .ref m6, .ref m7, .ref m8, .ref m9, .ref m10, .ref m11, .ref m12, .ref m13, .ref m14, .ref m15, .ref m16, .ref m17, .ref m18, .ref m19, .ref m20, .int 0, .int 0, .int 0, .int 0, .long 0, .int 0])), (m14, .inl (cy 1, 256, .inr (.inl fn)))] sz)) 0 0 (va_A [(h0, .inr (17, [.ref m0, .ref m1, .ref m2, .ref m3, .ref m4, .ref m5, .ref m6, .ref m7, .ref m8, .ref m9, .ref m10, .ref m11, .ref m12, .ref m13, .ref m14, .ref m15, .ref m16, .ref m17, .ref m18, .ref m19, .ref m20, .int 0, .int 0, .int 0, .int 0, .long 0, .int 0])), (m14, .inl (cy 1, 256, .inr (.inl fn)))] sz) := by
  refine Met.ofW (cc := cX14_determinant) (maxL := 11) (ret := (some .long)) (by decide) rfl ?_
  intro p e s m args below meth c s₁ B hml hv
  obtain ⟨rfl, hsz, hP, hK, hD0, hX, hY⟩ := hv
  have hx := B.exec
  have hb := B.bytes
  have hr := B.returns
  have hts0 := atoms_spec (ws := wz yX14_determinant cX14_determinant 11 (some .long)) B.pre
  have hts : ∀ w ∈ wAll, w.before _ s = true := fun w h => hts0 w (List.mem_cons_of_mem _ h)
  have hown : s.vm.findClass RX14 = some m.cls := findClass_of_methodNamed B.named
  have hlocks := B.notSynchronized
  subst hsz
  have hD := hD0.self (sz := s.heap.size)
  generalize hAe : va_A [(h0, .inr (17, [.ref m0, .ref m1, .ref m2, .ref m3, .ref m4, .ref m5, .ref m6, .ref m7, .ref m8, .ref m9, .ref m10, .ref m11, .ref m12, .ref m13, .ref m14, .ref m15, .ref m16, .ref m17, .ref m18, .ref m19, .ref m20, .int 0, .int 0, .int 0, .int 0, .long 0, .int 0])), (m14, .inl (cy 1, 256, .inr (.inl fn)))] s.heap.size = A at hD hY ⊢
  have hA : ∀ q : Nat, s.heap.size ≤ q → A q := fun q h => by rw [← hAe]; exact Or.inr h
  have hS : va_S A s.heap s.heap [] := va_S.rf
  have hP : va_P D vwCl [(h0, .inr (17, [.ref m0, .ref m1, .ref m2, .ref m3, .ref m4, .ref m5, .ref m6, .ref m7, .ref m8, .ref m9, .ref m10, .ref m11, .ref m12, .ref m13, .ref m14, .ref m15, .ref m16, .ref m17, .ref m18, .ref m19, .ref m20, .int 0, .int 0, .int 0, .int 0, .long 0, .int 0])), (m14, .inl (cy 1, 256, .inr (.inl fn)))] s.heap := hP
  have hl := lv_entry ([.ref h0, .int ax, .int ch]) (n := 11) (Nat.le_of_ble_eq_true rfl)
  rw [lg_entry_eq]
  generalize (lg_sl ([.ref h0, .int ax, .int ch]) ++ List.replicate (11 - (lg_sl ([.ref h0, .int ax, .int ch])).length) Slot.unset).toArray = ls at hl ⊢
  have hl : lv_has ls 11 [(0, .ref h0), (1, .int ax), (2, .int ch)] := hl
  refine z_anyQ (fun Q hQe => ?_)
  refine lv_iconst (v := 0) hx hb dX14_determinant_0 (by decide) ?_
  refine lv_istore_n (lv' := [(3, .int 0), (0, .ref h0), (1, .int ax), (2, .int ch)]) hx hb dX14_determinant_1 rfl hl (by decide) rfl (fun ls hl => ?_)
  refine lv_iload_n hx hb dX14_determinant_2 rfl (lv_at hl 0 rfl) ?_
  refine lv_iconst (v := 1) hx hb dX14_determinant_3 (by decide) ?_
  refine lv_aload_n hx hb dX14_determinant_4 rfl (lv_at hl 1 rfl) ?_
  refine va_get (D := D) (ci := 17) (v := .int 0) (C := RX14) (T := TX14) (N := 27) hx hb hts iRX14 hown hK hP 0 rfl rfl 24 (by decide) (hts _ q296) (fun _ h9 => h9) rfl dX14_determinant_5 ?_
  refine lv_ishl hx hb dX14_determinant_8 ?_
  refine lv_topi (fun y1 ey1 => ?_)
  obtain rfl : y1 = 1 := ey1.trans (by decide +kernel)
  refine lv_icmp_ge (tgt := 25) hx hb dX14_determinant_9 (by decide) (fun c_9_1 => absurd c_9_1 (by decide +kernel)) (fun _ => ?_)
  refine lv_aload_n hx hb dX14_determinant_12 rfl (lv_at hl 1 rfl) ?_
  refine va_get (D := D) (ci := 17) (v := .ref m14) (C := RX14) (T := TX14) (N := 27) hx hb hts iRX14 hown hK hP 0 rfl rfl 14 (by decide) (hts _ q273) (fun _ h9 => h9) rfl dX14_determinant_13 ?_
  refine lv_iload_n hx hb dX14_determinant_16 rfl (lv_at hl 0 rfl) ?_
  refine lv_lconst (v := 0) hx hb dX14_determinant_17 rfl ?_
  refine va_last hx hb hK hP hD hS 1 1 rfl rfl (z_in 0 (by decide) (by decide)) dX14_determinant_18 (fun H locs hP hD hS => ?_)
  have hP : va_P D vwCl [(h0, .inr (17, [.ref m0, .ref m1, .ref m2, .ref m3, .ref m4, .ref m5, .ref m6, .ref m7, .ref m8, .ref m9, .ref m10, .ref m11, .ref m12, .ref m13, .ref m14, .ref m15, .ref m16, .ref m17, .ref m18, .ref m19, .ref m20, .int 0, .int 0, .int 0, .int 0, .long 0, .int 0])), (m14, .inl (cy 1, 256, .inr (.inl (vp_updL fn (0 : Int32).toNatClampNeg 0))))] H := hP
  have hD : va_D A [(h0, .inr (17, [.ref m0, .ref m1, .ref m2, .ref m3, .ref m4, .ref m5, .ref m6, .ref m7, .ref m8, .ref m9, .ref m10, .ref m11, .ref m12, .ref m13, .ref m14, .ref m15, .ref m16, .ref m17, .ref m18, .ref m19, .ref m20, .int 0, .int 0, .int 0, .int 0, .long 0, .int 0])), (m14, .inl (cy 1, 256, .inr (.inl (vp_updL fn (0 : Int32).toNatClampNeg 0))))] := hD
  refine lv_iinc (v := 1) (lv' := [(3, .int 1), (0, .ref h0), (1, .int ax), (2, .int ch)]) hx hb dX14_determinant_19 hl (k := 0) rfl (by decide) (by decide) rfl (fun ls hl => ?_)
  refine lv_goto (tgt := 2) hx hb dX14_determinant_22 (by decide) ?_
  refine lv_iload_n hx hb dX14_determinant_2 rfl (lv_at hl 0 rfl) ?_
  refine lv_iconst (v := 1) hx hb dX14_determinant_3 (by decide) ?_
  refine lv_aload_n hx hb dX14_determinant_4 rfl (lv_at hl 1 rfl) ?_
  refine va_get (D := D) (ci := 17) (v := .int 0) (C := RX14) (T := TX14) (N := 27) hx hb hts iRX14 hown hK hP 0 rfl rfl 24 (by decide) (hts _ q296) (fun _ h9 => h9) rfl dX14_determinant_5 ?_
  refine lv_ishl hx hb dX14_determinant_8 ?_
  refine lv_topi (fun y3 ey3 => ?_)
  obtain rfl : y3 = 1 := ey3.trans (by decide +kernel)
  refine lv_icmp_ge (tgt := 25) hx hb dX14_determinant_9 (by decide) (fun _ => ?_) (fun c_9_3 => absurd (by decide +kernel) c_9_3)
  refine lv_aload_n hx hb dX14_determinant_25 rfl (lv_at hl 1 rfl) ?_
  refine va_get (D := D) (ci := 17) (v := .ref m14) (C := RX14) (T := TX14) (N := 27) hx hb hts iRX14 hown hK hP 0 rfl rfl 14 (by decide) (hts _ q273) (fun _ h9 => h9) rfl dX14_determinant_26 ?_
  refine lv_iconst (v := 0) hx hb dX14_determinant_29 (by decide) ?_
  refine lv_lconst (v := 1) hx hb dX14_determinant_30 rfl ?_
  refine va_last hx hb hK hP hD hS 1 1 rfl rfl (z_in 0 (by decide) (by decide)) dX14_determinant_31 (fun H locs hP hD hS => ?_)
  have hP : va_P D vwCl [(h0, .inr (17, [.ref m0, .ref m1, .ref m2, .ref m3, .ref m4, .ref m5, .ref m6, .ref m7, .ref m8, .ref m9, .ref m10, .ref m11, .ref m12, .ref m13, .ref m14, .ref m15, .ref m16, .ref m17, .ref m18, .ref m19, .ref m20, .int 0, .int 0, .int 0, .int 0, .long 0, .int 0])), (m14, .inl (cy 1, 256, .inr (.inl (vp_updL (vp_updL fn (0 : Int32).toNatClampNeg 0) (0 : Int32).toNatClampNeg 1))))] H := hP
  have hD : va_D A [(h0, .inr (17, [.ref m0, .ref m1, .ref m2, .ref m3, .ref m4, .ref m5, .ref m6, .ref m7, .ref m8, .ref m9, .ref m10, .ref m11, .ref m12, .ref m13, .ref m14, .ref m15, .ref m16, .ref m17, .ref m18, .ref m19, .ref m20, .int 0, .int 0, .int 0, .int 0, .long 0, .int 0])), (m14, .inl (cy 1, 256, .inr (.inl (vp_updL (vp_updL fn (0 : Int32).toNatClampNeg 0) (0 : Int32).toNatClampNeg 1))))] := hD
  refine lv_iconst (v := 0) hx hb dX14_determinant_32 (by decide) ?_
  refine lv_istore_n (lv' := [(3, .int 0), (0, .ref h0), (1, .int ax), (2, .int ch)]) hx hb dX14_determinant_33 rfl hl (by decide) rfl (fun ls hl => ?_)
  refine lv_iload_n hx hb dX14_determinant_34 rfl (lv_at hl 0 rfl) ?_
  refine lv_aload_n hx hb dX14_determinant_35 rfl (lv_at hl 1 rfl) ?_
  refine va_get (D := D) (ci := 17) (v := .int 0) (C := RX14) (T := TX14) (N := 27) hx hb hts iRX14 hown hK hP 0 rfl rfl 24 (by decide) (hts _ q296) (fun _ h9 => h9) rfl dX14_determinant_36 ?_
  refine lv_icmp_ge (tgt := 205) hx hb dX14_determinant_39 (by decide) (fun _ => ?_) (fun c_39_4 => absurd (by decide +kernel) c_39_4)
  refine lv_aload_n hx hb dX14_determinant_205 rfl (lv_at hl 1 rfl) ?_
  refine va_get (D := D) (ci := 17) (v := .ref m14) (C := RX14) (T := TX14) (N := 27) hx hb hts iRX14 hown hK hP 0 rfl rfl 14 (by decide) (hts _ q273) (fun _ h9 => h9) rfl dX14_determinant_206 ?_
  refine lv_iconst (v := 1) hx hb dX14_determinant_209 (by decide) ?_
  refine lv_aload_n hx hb dX14_determinant_210 rfl (lv_at hl 1 rfl) ?_
  refine va_get (D := D) (ci := 17) (v := .int 0) (C := RX14) (T := TX14) (N := 27) hx hb hts iRX14 hown hK hP 0 rfl rfl 24 (by decide) (hts _ q296) (fun _ h9 => h9) rfl dX14_determinant_211 ?_
  refine lv_ishl hx hb dX14_determinant_214 ?_
  refine lv_topi (fun y6 ey6 => ?_)
  obtain rfl : y6 = 1 := ey6.trans (by decide +kernel)
  refine lv_iconst (v := 1) hx hb dX14_determinant_215 (by decide) ?_
  refine lv_isub hx hb dX14_determinant_216 ?_
  refine lv_topi (fun y7 ey7 => ?_)
  obtain rfl : y7 = 0 := ey7.trans (by decide +kernel)
  refine va_lald hx hb hK hP 1 1 rfl rfl (z_in 0 (by decide) (by decide)) dX14_determinant_217 ?_
  refine lv_topl (fun y8 ey8 => ?_)
  obtain rfl : y8 = 1 := ey8.trans pk_uLs
  have hP9 := hP.sub (ws' := [(h0, .inr (17, [.ref m0, .ref m1, .ref m2, .ref m3, .ref m4, .ref m5, .ref m6, .ref m7, .ref m8, .ref m9, .ref m10, .ref m11, .ref m12, .ref m13, .ref m14, .ref m15, .ref m16, .ref m17, .ref m18, .ref m19, .ref m20, .int 0, .int 0, .int 0, .int 0, .long 0, .int 0]))]) [0] rfl
  have hD9 := hD.sub (ws' := [(h0, .inr (17, [.ref m0, .ref m1, .ref m2, .ref m3, .ref m4, .ref m5, .ref m6, .ref m7, .ref m8, .ref m9, .ref m10, .ref m11, .ref m12, .ref m13, .ref m14, .ref m15, .ref m16, .ref m17, .ref m18, .ref m19, .ref m20, .int 0, .int 0, .int 0, .int 0, .long 0, .int 0]))]) [0] (by decide) rfl
  refine W.widen (k := 0) (n := 0) (Nat.le_of_ble_eq_true rfl) (Nat.le_of_ble_eq_true rfl) ?_
  rw [hQe]
  exact W.lret (v := 1) hx hb hr (fun t ht hW => ⟨⟨1, (), rfl, rfl, ⟨by rw [ht]; exact hP9, hD9⟩⟩, hS.F ht⟩) hS.2.2 dX14_determinant_218
set_option maxHeartbeats 4000000 in
set_option maxRecDepth 100000 in
/-- places: base 1 -/
theorem k_m_places (l : Launch) (D : va_G) (cy : Nat → ClassId) (h0 : Nat) (m0 : Nat) (m1 : Nat) (m2 : Nat) (m3 : Nat) (m4 : Nat) (m5 : Nat) (m6 : Nat) (m7 : Nat) (m8 : Nat) (m9 : Nat) (m10 : Nat) (m11 : Nat) (m12 : Nat) (m13 : Nat) (m14 : Nat) (m15 : Nat) (m16 : Nat) (m17 : Nat) (m18 : Nat) (m19 : Nat) (m20 : Nat) (b1 : Nat) (day : Int32) (w : Int32) (sz : Nat)  : Met l yX14_places (wz yX14_places cX14_places 5 none) ({ frames := 2, cells := 0, slots := 0, locals := 53 } : Room) (va_Pc [.ref h0, .int day, .int w] (zPre vwCl D cy [(h0, .inr (17, [.ref m0, .ref m1, .ref m2, .ref m3, .ref m4, .ref m5, .ref m6, .ref m7, .ref m8, .ref m9, .ref m10, .ref m11, .ref m12, .ref m13, .ref m14, .ref m15, .ref m16, .ref m17, .ref m18, .ref m19, .ref m20, .int 0, .int 0, .int 0, .int 0, .long 0, .int 0])), (m0, .inr (2, [.int 0, .ref b1, .int 0])), (m9, .inl (cy 0, 9, .inl (fun _ => 0))), (m12, .inl (cy 2, 9, .inl (fun _ => 0))), (m10, .inl (cy 0, 9, .inl (fun _ => 0))), (m14, .inl (cy 1, 256, .inr (.inl (fun _ => 0)))), (m16, .inl (cy 1, 64, .inr (.inl (fun _ => 0)))), (m17, .inl (cy 1, 24, .inr (.inl (fun _ => 0))))] sz)) (va_Qv (fun _ : Unit => True) (fun (u : Unit) t => zPost vwCl D (va_A [(h0, .inr (17, [.ref m0, .ref m1, .ref m2, .ref m3, .ref m4, .ref m5, .ref m6, .ref m7, .ref m8, .ref m9, .ref m10, .ref m11, .ref m12, .ref m13, .ref m14, .ref m15, .ref m16, .ref m17, .ref m18, .ref m19, .ref m20, .int 0, .int 0, .int 0, .int 0, .long 0, .int 0])), (m0, .inr (2, [.int 0, .ref b1, .int 0])), (m9, .inl (cy 0, 9, .inl (fun _ => 0))), (m12, .inl (cy 2, 9, .inl (fun _ => 0))), (m10, .inl (cy 0, 9, .inl (fun _ => 0))), (m14, .inl (cy 1, 256, .inr (.inl (fun _ => 0)))), (m16, .inl (cy 1, 64, .inr (.inl (fun _ => 0)))), (m17, .inl (cy 1, 24, .inr (.inl (fun _ => 0))))] sz) [(h0, .inr (17, [.ref m0, .ref m1, .ref m2, .ref m3, .ref m4, .ref m5, .ref m6, .ref m7, .ref m8, .ref m9, .ref m10, .ref m11, .ref m12, .ref m13, .ref m14, .ref m15, .ref m16, .ref m17, .ref m18, .ref m19, .ref m20, .int 0, .int 0, .int 0, .int 0, .long 1, .int 0])), (m0, .inr (2, [.int 0, .ref b1, .int 0]))] t) (va_A [(h0, .inr (17, [.ref m0, .ref m1, .ref m2, .ref m3, .ref m4, .ref m5, .ref m6, .ref m7, .ref m8, .ref m9, .ref m10, .ref m11, .ref m12, .ref m13, .ref m14, .ref m15, .ref m16, .ref m17, .ref m18, .ref m19, .ref m20, .int 0, .int 0, .int 0, .int 0, .long 0, .int 0])), (m0, .inr (2, [.int 0, .ref b1, .int 0])), (m9, .inl (cy 0, 9, .inl (fun _ => 0))), (m12, .inl (cy 2, 9, .inl (fun _ => 0))), (m10, .inl (cy 0, 9, .inl (fun _ => 0))), (m14, .inl (cy 1, 256, .inr (.inl (fun _ => 0)))), (m16, .inl (cy 1, 64, .inr (.inl (fun _ => 0)))), (m17, .inl (cy 1, 24, .inr (.inl (fun _ => 0))))] sz)) 0 0 (va_A [(h0, .inr (17, [.ref m0, .ref m1, .ref m2, .ref m3, .ref m4, .ref m5, .ref m6, .ref m7, .ref m8, .ref m9, .ref m10, .ref m11, .ref m12, .ref m13, .ref m14, .ref m15, .ref m16, .ref m17, .ref m18, .ref m19, .ref m20, .int 0, .int 0, .int 0, .int 0, .long 0, .int 0])), (m0, .inr (2, [.int 0, .ref b1, .int 0])), (m9, .inl (cy 0, 9, .inl (fun _ => 0))), (m12, .inl (cy 2, 9, .inl (fun _ => 0))), (m10, .inl (cy 0, 9, .inl (fun _ => 0))), (m14, .inl (cy 1, 256, .inr (.inl (fun _ => 0)))), (m16, .inl (cy 1, 64, .inr (.inl (fun _ => 0)))), (m17, .inl (cy 1, 24, .inr (.inl (fun _ => 0))))] sz) := by
  refine Met.ofW (cc := cX14_places) (maxL := 5) (ret := none) (by decide) rfl ?_
  intro p e s m args below meth c s₁ B hml hv
  obtain ⟨rfl, hsz, hP, hK, hD0, hX, hY⟩ := hv
  have hx := B.exec
  have hb := B.bytes
  have hr := B.returns
  have hts0 := atoms_spec (ws := wz yX14_places cX14_places 5 none) B.pre
  have hts : ∀ w ∈ wAll, w.before _ s = true := fun w h => hts0 w (List.mem_cons_of_mem _ h)
  have hown : s.vm.findClass RX14 = some m.cls := findClass_of_methodNamed B.named
  have hlocks := B.notSynchronized
  subst hsz
  have hD := hD0.self (sz := s.heap.size)
  generalize hAe : va_A [(h0, .inr (17, [.ref m0, .ref m1, .ref m2, .ref m3, .ref m4, .ref m5, .ref m6, .ref m7, .ref m8, .ref m9, .ref m10, .ref m11, .ref m12, .ref m13, .ref m14, .ref m15, .ref m16, .ref m17, .ref m18, .ref m19, .ref m20, .int 0, .int 0, .int 0, .int 0, .long 0, .int 0])), (m0, .inr (2, [.int 0, .ref b1, .int 0])), (m9, .inl (cy 0, 9, .inl (fun _ => 0))), (m12, .inl (cy 2, 9, .inl (fun _ => 0))), (m10, .inl (cy 0, 9, .inl (fun _ => 0))), (m14, .inl (cy 1, 256, .inr (.inl (fun _ => 0)))), (m16, .inl (cy 1, 64, .inr (.inl (fun _ => 0)))), (m17, .inl (cy 1, 24, .inr (.inl (fun _ => 0))))] s.heap.size = A at hD hY ⊢
  have hA : ∀ q : Nat, s.heap.size ≤ q → A q := fun q h => by rw [← hAe]; exact Or.inr h
  have hS : va_S A s.heap s.heap [] := va_S.rf
  have hP : va_P D vwCl [(h0, .inr (17, [.ref m0, .ref m1, .ref m2, .ref m3, .ref m4, .ref m5, .ref m6, .ref m7, .ref m8, .ref m9, .ref m10, .ref m11, .ref m12, .ref m13, .ref m14, .ref m15, .ref m16, .ref m17, .ref m18, .ref m19, .ref m20, .int 0, .int 0, .int 0, .int 0, .long 0, .int 0])), (m0, .inr (2, [.int 0, .ref b1, .int 0])), (m9, .inl (cy 0, 9, .inl (fun _ => 0))), (m12, .inl (cy 2, 9, .inl (fun _ => 0))), (m10, .inl (cy 0, 9, .inl (fun _ => 0))), (m14, .inl (cy 1, 256, .inr (.inl (fun _ => 0)))), (m16, .inl (cy 1, 64, .inr (.inl (fun _ => 0)))), (m17, .inl (cy 1, 24, .inr (.inl (fun _ => 0))))] s.heap := hP
  have hl := lv_entry ([.ref h0, .int day, .int w]) (n := 5) (Nat.le_of_ble_eq_true rfl)
  rw [lg_entry_eq]
  generalize (lg_sl ([.ref h0, .int day, .int w]) ++ List.replicate (5 - (lg_sl ([.ref h0, .int day, .int w])).length) Slot.unset).toArray = ls at hl ⊢
  have hl : lv_has ls 5 [(0, .ref h0), (1, .int day), (2, .int w)] := hl
  refine z_anyQ (fun Q hQe => ?_)
  refine lv_aload_n hx hb dX14_places_0 rfl (lv_at hl 0 rfl) ?_
  refine lv_iload_n hx hb dX14_places_1 rfl (lv_at hl 1 rfl) ?_
  refine lv_iload_n hx hb dX14_places_2 rfl (lv_at hl 2 rfl) ?_
  refine zq_v (wc := [(h0, .inr (17, [.ref m0, .ref m1, .ref m2, .ref m3, .ref m4, .ref m5, .ref m6, .ref m7, .ref m8, .ref m9, .ref m10, .ref m11, .ref m12, .ref m13, .ref m14, .ref m15, .ref m16, .ref m17, .ref m18, .ref m19, .ref m20, .int 0, .int 0, .int 0, .int 0, .long 0, .int 0])), (m0, .inr (2, [.int 0, .ref b1, .int 0])), (m9, .inl (cy 0, 9, .inl (fun _ => 0))), (m12, .inl (cy 2, 9, .inl (fun _ => 0))), (m10, .inl (cy 0, 9, .inl (fun _ => 0)))]) (wr := [(m14, .inl (cy 1, 256, .inr (.inl (fun _ => 0)))), (m16, .inl (cy 1, 64, .inr (.inl (fun _ => 0)))), (m17, .inl (cy 1, 24, .inr (.inl (fun _ => 0))))]) (va_runV (As := [.int day, .int w]) (rest := []) ⟨hx, hb, hml, hown, hts⟩ (k_m_hangs l D cy h0 m0 m1 m2 m3 m4 m5 m6 m7 m8 m9 m10 m11 m12 m13 m14 m15 m16 m17 m18 m19 m20 b1 day w (fun _ => 0) (fun _ => 0) (fun _ => 0) s.heap.size ) (cwV 2 hts (gzV (gz q298) q297 q299 q300 q285) rfl rfl rfl vX14_hangs ⟨Nat.le_of_ble_eq_true rfl, Nat.le_of_ble_eq_true rfl⟩) (zpV (ci := 17) (T := TX14) (N := 27) (q0 := 0) hK hX hY hP hD hS hA [0, 1, 2, 3, 4] (by decide) rfl rfl rfl) rfl rfl hl.1 rfl (lv_room (Nat.le_of_ble_eq_true rfl)) dX14_places_3 ⟨Nat.le_of_ble_eq_true rfl, Nat.le_of_ble_eq_true rfl⟩) hP hD hS hA [0, 1, 2, 3, 4] [5, 6, 7] rfl rfl (by decide) (by decide) (fun u1 H locs hw hP hD hS => ?_)
  have hP : va_P D vwCl [(m14, .inl (cy 1, 256, .inr (.inl (fun _ => 0)))), (m16, .inl (cy 1, 64, .inr (.inl (fun _ => 0)))), (m17, .inl (cy 1, 24, .inr (.inl (fun _ => 0)))), (h0, .inr (17, [.ref m0, .ref m1, .ref m2, .ref m3, .ref m4, .ref m5, .ref m6, .ref m7, .ref m8, .ref m9, .ref m10, .ref m11, .ref m12, .ref m13, .ref m14, .ref m15, .ref m16, .ref m17, .ref m18, .ref m19, .ref m20, .int 0, .int 0, .int 0, .int 0, .long 0, .int 0])), (m0, .inr (2, [.int 0, .ref b1, .int 0])), (m9, .inl (cy 0, 9, .inl (fun j => nI j))), (m12, .inl (cy 2, 9, .inl (fun _ => 0))), (m10, .inl (cy 0, 9, .inl (fun _ => (-1))))] H := hP
  have hD : va_D A [(m14, .inl (cy 1, 256, .inr (.inl (fun _ => 0)))), (m16, .inl (cy 1, 64, .inr (.inl (fun _ => 0)))), (m17, .inl (cy 1, 24, .inr (.inl (fun _ => 0)))), (h0, .inr (17, [.ref m0, .ref m1, .ref m2, .ref m3, .ref m4, .ref m5, .ref m6, .ref m7, .ref m8, .ref m9, .ref m10, .ref m11, .ref m12, .ref m13, .ref m14, .ref m15, .ref m16, .ref m17, .ref m18, .ref m19, .ref m20, .int 0, .int 0, .int 0, .int 0, .long 0, .int 0])), (m0, .inr (2, [.int 0, .ref b1, .int 0])), (m9, .inl (cy 0, 9, .inl (fun j => nI j))), (m12, .inl (cy 2, 9, .inl (fun _ => 0))), (m10, .inl (cy 0, 9, .inl (fun _ => (-1))))] := hD
  refine lv_aload_n hx hb dX14_places_6 rfl (lv_at hl 0 rfl) ?_
  refine zq_v (wc := [(h0, .inr (17, [.ref m0, .ref m1, .ref m2, .ref m3, .ref m4, .ref m5, .ref m6, .ref m7, .ref m8, .ref m9, .ref m10, .ref m11, .ref m12, .ref m13, .ref m14, .ref m15, .ref m16, .ref m17, .ref m18, .ref m19, .ref m20, .int 0, .int 0, .int 0, .int 0, .long 0, .int 0])), (m0, .inr (2, [.int 0, .ref b1, .int 0])), (m16, .inl (cy 1, 64, .inr (.inl (fun _ => 0)))), (m17, .inl (cy 1, 24, .inr (.inl (fun _ => 0))))]) (wr := [(m14, .inl (cy 1, 256, .inr (.inl (fun _ => 0)))), (m9, .inl (cy 0, 9, .inl (fun j => nI j))), (m12, .inl (cy 2, 9, .inl (fun _ => 0))), (m10, .inl (cy 0, 9, .inl (fun _ => (-1))))]) (va_runV (As := []) (rest := []) ⟨hx, hb, hml, hown, hts⟩ (k_m_laysOut l D cy h0 m0 m1 m2 m3 m4 m5 m6 m7 m8 m9 m10 m11 m12 m13 m14 m15 m16 m17 m18 m19 m20 b1 (fun _ => 0) (fun _ => 0) H.size ) (cwV 0 hts (gzV (gz q302) q301 q303 q304 q285) rfl rfl rfl vX14_laysOut ⟨Nat.le_of_ble_eq_true rfl, Nat.le_of_ble_eq_true rfl⟩) (zpV (ci := 17) (T := TX14) (N := 27) (q0 := 0) hK hX hY hP hD hS hA [3, 4, 1, 2] (by decide) rfl rfl rfl) rfl rfl hl.1 rfl (lv_room (Nat.le_of_ble_eq_true rfl)) dX14_places_7 ⟨Nat.le_of_ble_eq_true rfl, Nat.le_of_ble_eq_true rfl⟩) hP hD hS hA [3, 4, 1, 2] [0, 5, 6, 7] rfl rfl (by decide) (by decide) (fun u3 H locs hw hP hD hS => ?_)
  have hP : va_P D vwCl [(m14, .inl (cy 1, 256, .inr (.inl (fun _ => 0)))), (m9, .inl (cy 0, 9, .inl (fun j => nI j))), (m12, .inl (cy 2, 9, .inl (fun _ => 0))), (m10, .inl (cy 0, 9, .inl (fun _ => (-1)))), (h0, .inr (17, [.ref m0, .ref m1, .ref m2, .ref m3, .ref m4, .ref m5, .ref m6, .ref m7, .ref m8, .ref m9, .ref m10, .ref m11, .ref m12, .ref m13, .ref m14, .ref m15, .ref m16, .ref m17, .ref m18, .ref m19, .ref m20, .int 0, .int 0, .int 0, .int 0, .long 0, .int 0])), (m0, .inr (2, [.int 0, .ref b1, .int 0])), (m16, .inl (cy 1, 64, .inr (.inl (fun _ => 0)))), (m17, .inl (cy 1, 24, .inr (.inl (fun _ => 0))))] H := hP
  have hD : va_D A [(m14, .inl (cy 1, 256, .inr (.inl (fun _ => 0)))), (m9, .inl (cy 0, 9, .inl (fun j => nI j))), (m12, .inl (cy 2, 9, .inl (fun _ => 0))), (m10, .inl (cy 0, 9, .inl (fun _ => (-1)))), (h0, .inr (17, [.ref m0, .ref m1, .ref m2, .ref m3, .ref m4, .ref m5, .ref m6, .ref m7, .ref m8, .ref m9, .ref m10, .ref m11, .ref m12, .ref m13, .ref m14, .ref m15, .ref m16, .ref m17, .ref m18, .ref m19, .ref m20, .int 0, .int 0, .int 0, .int 0, .long 0, .int 0])), (m0, .inr (2, [.int 0, .ref b1, .int 0])), (m16, .inl (cy 1, 64, .inr (.inl (fun _ => 0)))), (m17, .inl (cy 1, 24, .inr (.inl (fun _ => 0))))] := hD
  refine lv_aload_n hx hb dX14_places_10 rfl (lv_at hl 0 rfl) ?_
  refine lv_aload_n hx hb dX14_places_11 rfl (lv_at hl 0 rfl) ?_
  refine lv_iconst (v := 0) hx hb dX14_places_12 (by decide) ?_
  refine lv_iconst (v := (-1)) hx hb dX14_places_13 (by decide) ?_
  refine zq_l (wc := [(h0, .inr (17, [.ref m0, .ref m1, .ref m2, .ref m3, .ref m4, .ref m5, .ref m6, .ref m7, .ref m8, .ref m9, .ref m10, .ref m11, .ref m12, .ref m13, .ref m14, .ref m15, .ref m16, .ref m17, .ref m18, .ref m19, .ref m20, .int 0, .int 0, .int 0, .int 0, .long 0, .int 0])), (m14, .inl (cy 1, 256, .inr (.inl (fun _ => 0))))]) (wr := [(m9, .inl (cy 0, 9, .inl (fun j => nI j))), (m12, .inl (cy 2, 9, .inl (fun _ => 0))), (m10, .inl (cy 0, 9, .inl (fun _ => (-1)))), (m0, .inr (2, [.int 0, .ref b1, .int 0])), (m16, .inl (cy 1, 64, .inr (.inl (fun _ => 0)))), (m17, .inl (cy 1, 24, .inr (.inl (fun _ => 0))))]) (va_runV (As := [.int 0, .int (-1)]) (rest := [.ref h0]) ⟨hx, hb, hml, hown, hts⟩ (k_m_det l D cy h0 m0 m1 m2 m3 m4 m5 m6 m7 m8 m9 m10 m11 m12 m13 m14 m15 m16 m17 m18 m19 m20 0 (-1) (fun _ => 0) H.size ) (cwV 2 hts (gzV (gz q306) q305 q307 q308 q285) rfl rfl rfl vX14_determinant ⟨Nat.le_of_ble_eq_true rfl, Nat.le_of_ble_eq_true rfl⟩) (zpV (ci := 17) (T := TX14) (N := 27) (q0 := 0) hK hX hY hP hD hS hA [4, 0] (by decide) rfl rfl rfl) rfl rfl hl.1 rfl (lv_room (Nat.le_of_ble_eq_true rfl)) dX14_places_14 ⟨Nat.le_of_ble_eq_true rfl, Nat.le_of_ble_eq_true rfl⟩) hP hD hS hA [4, 0] [1, 2, 3, 5, 6, 7] rfl rfl (by decide) (by decide) (fun x6 u5 H locs hw hP hD hS => ?_)
  obtain rfl : x6 = 1 := hw
  have hP : va_P D vwCl [(m9, .inl (cy 0, 9, .inl (fun j => nI j))), (m12, .inl (cy 2, 9, .inl (fun _ => 0))), (m10, .inl (cy 0, 9, .inl (fun _ => (-1)))), (m0, .inr (2, [.int 0, .ref b1, .int 0])), (m16, .inl (cy 1, 64, .inr (.inl (fun _ => 0)))), (m17, .inl (cy 1, 24, .inr (.inl (fun _ => 0)))), (h0, .inr (17, [.ref m0, .ref m1, .ref m2, .ref m3, .ref m4, .ref m5, .ref m6, .ref m7, .ref m8, .ref m9, .ref m10, .ref m11, .ref m12, .ref m13, .ref m14, .ref m15, .ref m16, .ref m17, .ref m18, .ref m19, .ref m20, .int 0, .int 0, .int 0, .int 0, .long 0, .int 0]))] H := hP
  have hD : va_D A [(m9, .inl (cy 0, 9, .inl (fun j => nI j))), (m12, .inl (cy 2, 9, .inl (fun _ => 0))), (m10, .inl (cy 0, 9, .inl (fun _ => (-1)))), (m0, .inr (2, [.int 0, .ref b1, .int 0])), (m16, .inl (cy 1, 64, .inr (.inl (fun _ => 0)))), (m17, .inl (cy 1, 24, .inr (.inl (fun _ => 0)))), (h0, .inr (17, [.ref m0, .ref m1, .ref m2, .ref m3, .ref m4, .ref m5, .ref m6, .ref m7, .ref m8, .ref m9, .ref m10, .ref m11, .ref m12, .ref m13, .ref m14, .ref m15, .ref m16, .ref m17, .ref m18, .ref m19, .ref m20, .int 0, .int 0, .int 0, .int 0, .long 0, .int 0]))] := hD
  refine va_put (D := D) (ci := 17) (v := .long 1) (ty := .long) (C := RX14) (T := TX14) (N := 27) hx hb hts iRX14 tyX14 tyX14_ok nmX14 hown hK hP hD hS 6 rfl rfl 25 (by decide) (hts _ q309) (fun _ h9 => h9) rfl (tyX14_ok 25 (by decide)) rfl rfl (Nat.le_of_ble_eq_true rfl) dX14_places_17 (fun H locs hP hD hS => ?_)
  have hP : va_P D vwCl [(m9, .inl (cy 0, 9, .inl (fun j => nI j))), (m12, .inl (cy 2, 9, .inl (fun _ => 0))), (m10, .inl (cy 0, 9, .inl (fun _ => (-1)))), (m0, .inr (2, [.int 0, .ref b1, .int 0])), (m16, .inl (cy 1, 64, .inr (.inl (fun _ => 0)))), (m17, .inl (cy 1, 24, .inr (.inl (fun _ => 0)))), (h0, .inr (17, [.ref m0, .ref m1, .ref m2, .ref m3, .ref m4, .ref m5, .ref m6, .ref m7, .ref m8, .ref m9, .ref m10, .ref m11, .ref m12, .ref m13, .ref m14, .ref m15, .ref m16, .ref m17, .ref m18, .ref m19, .ref m20, .int 0, .int 0, .int 0, .int 0, .long 1, .int 0]))] H := hP
  have hD : va_D A [(m9, .inl (cy 0, 9, .inl (fun j => nI j))), (m12, .inl (cy 2, 9, .inl (fun _ => 0))), (m10, .inl (cy 0, 9, .inl (fun _ => (-1)))), (m0, .inr (2, [.int 0, .ref b1, .int 0])), (m16, .inl (cy 1, 64, .inr (.inl (fun _ => 0)))), (m17, .inl (cy 1, 24, .inr (.inl (fun _ => 0)))), (h0, .inr (17, [.ref m0, .ref m1, .ref m2, .ref m3, .ref m4, .ref m5, .ref m6, .ref m7, .ref m8, .ref m9, .ref m10, .ref m11, .ref m12, .ref m13, .ref m14, .ref m15, .ref m16, .ref m17, .ref m18, .ref m19, .ref m20, .int 0, .int 0, .int 0, .int 0, .long 1, .int 0]))] := hD
  refine lv_iconst (v := 0) hx hb dX14_places_20 (by decide) ?_
  refine lv_istore_n (lv' := [(3, .int 0), (0, .ref h0), (1, .int day), (2, .int w)]) hx hb dX14_places_21 rfl hl (by decide) rfl (fun ls hl => ?_)
  refine lv_iload_n hx hb dX14_places_22 rfl (lv_at hl 0 rfl) ?_
  refine lv_iconst (v := 3) hx hb dX14_places_23 (by decide) ?_
  refine lv_icmp_ge (tgt := 70) hx hb dX14_places_24 (by decide) (fun c_24_6 => absurd c_24_6 (by decide +kernel)) (fun _ => ?_)
  refine lv_iconst (v := 0) hx hb dX14_places_27 (by decide) ?_
  refine lv_istore (lv' := [(4, .int 0), (3, .int 0), (0, .ref h0), (1, .int day), (2, .int w)]) hx hb dX14_places_28 hl (by decide) rfl (fun ls hl => ?_)
  refine lv_iload hx hb dX14_places_30 (lv_at hl 0 rfl) ?_
  refine lv_aload_n hx hb dX14_places_32 rfl (lv_at hl 2 rfl) ?_
  refine va_get (D := D) (ci := 17) (v := .int 0) (C := RX14) (T := TX14) (N := 27) hx hb hts iRX14 hown hK hP 6 rfl rfl 24 (by decide) (hts _ q296) (fun _ h9 => h9) rfl dX14_places_33 ?_
  refine lv_icmp_ge (tgt := 64) hx hb dX14_places_36 (by decide) (fun _ => ?_) (fun c_36_7 => absurd (by decide +kernel) c_36_7)
  refine lv_iinc (v := 1) (lv' := [(3, .int 1), (4, .int 0), (0, .ref h0), (1, .int day), (2, .int w)]) hx hb dX14_places_64 hl (k := 1) rfl (by decide) (by decide) rfl (fun ls hl => ?_)
  refine lv_goto (tgt := 22) hx hb dX14_places_67 (by decide) ?_
  refine lv_iload_n hx hb dX14_places_22 rfl (lv_at hl 0 rfl) ?_
  refine lv_iconst (v := 3) hx hb dX14_places_23 (by decide) ?_
  refine lv_icmp_ge (tgt := 70) hx hb dX14_places_24 (by decide) (fun c_24_8 => absurd c_24_8 (by decide +kernel)) (fun _ => ?_)
  refine lv_iconst (v := 0) hx hb dX14_places_27 (by decide) ?_
  refine lv_istore (lv' := [(4, .int 0), (3, .int 1), (0, .ref h0), (1, .int day), (2, .int w)]) hx hb dX14_places_28 hl (by decide) rfl (fun ls hl => ?_)
  refine lv_iload hx hb dX14_places_30 (lv_at hl 0 rfl) ?_
  refine lv_aload_n hx hb dX14_places_32 rfl (lv_at hl 2 rfl) ?_
  refine va_get (D := D) (ci := 17) (v := .int 0) (C := RX14) (T := TX14) (N := 27) hx hb hts iRX14 hown hK hP 6 rfl rfl 24 (by decide) (hts _ q296) (fun _ h9 => h9) rfl dX14_places_33 ?_
  refine lv_icmp_ge (tgt := 64) hx hb dX14_places_36 (by decide) (fun _ => ?_) (fun c_36_9 => absurd (by decide +kernel) c_36_9)
  refine lv_iinc (v := 2) (lv' := [(3, .int 2), (4, .int 0), (0, .ref h0), (1, .int day), (2, .int w)]) hx hb dX14_places_64 hl (k := 1) rfl (by decide) (by decide) rfl (fun ls hl => ?_)
  refine lv_goto (tgt := 22) hx hb dX14_places_67 (by decide) ?_
  refine lv_iload_n hx hb dX14_places_22 rfl (lv_at hl 0 rfl) ?_
  refine lv_iconst (v := 3) hx hb dX14_places_23 (by decide) ?_
  refine lv_icmp_ge (tgt := 70) hx hb dX14_places_24 (by decide) (fun c_24_10 => absurd c_24_10 (by decide +kernel)) (fun _ => ?_)
  refine lv_iconst (v := 0) hx hb dX14_places_27 (by decide) ?_
  refine lv_istore (lv' := [(4, .int 0), (3, .int 2), (0, .ref h0), (1, .int day), (2, .int w)]) hx hb dX14_places_28 hl (by decide) rfl (fun ls hl => ?_)
  refine lv_iload hx hb dX14_places_30 (lv_at hl 0 rfl) ?_
  refine lv_aload_n hx hb dX14_places_32 rfl (lv_at hl 2 rfl) ?_
  refine va_get (D := D) (ci := 17) (v := .int 0) (C := RX14) (T := TX14) (N := 27) hx hb hts iRX14 hown hK hP 6 rfl rfl 24 (by decide) (hts _ q296) (fun _ h9 => h9) rfl dX14_places_33 ?_
  refine lv_icmp_ge (tgt := 64) hx hb dX14_places_36 (by decide) (fun _ => ?_) (fun c_36_11 => absurd (by decide +kernel) c_36_11)
  refine lv_iinc (v := 3) (lv' := [(3, .int 3), (4, .int 0), (0, .ref h0), (1, .int day), (2, .int w)]) hx hb dX14_places_64 hl (k := 1) rfl (by decide) (by decide) rfl (fun ls hl => ?_)
  refine lv_goto (tgt := 22) hx hb dX14_places_67 (by decide) ?_
  refine lv_iload_n hx hb dX14_places_22 rfl (lv_at hl 0 rfl) ?_
  refine lv_iconst (v := 3) hx hb dX14_places_23 (by decide) ?_
  refine lv_icmp_ge (tgt := 70) hx hb dX14_places_24 (by decide) (fun _ => ?_) (fun c_24_12 => absurd (by decide +kernel) c_24_12)
  have hP9 := hP.sub (ws' := [(h0, .inr (17, [.ref m0, .ref m1, .ref m2, .ref m3, .ref m4, .ref m5, .ref m6, .ref m7, .ref m8, .ref m9, .ref m10, .ref m11, .ref m12, .ref m13, .ref m14, .ref m15, .ref m16, .ref m17, .ref m18, .ref m19, .ref m20, .int 0, .int 0, .int 0, .int 0, .long 1, .int 0])), (m0, .inr (2, [.int 0, .ref b1, .int 0]))]) [6, 3] rfl
  have hD9 := hD.sub (ws' := [(h0, .inr (17, [.ref m0, .ref m1, .ref m2, .ref m3, .ref m4, .ref m5, .ref m6, .ref m7, .ref m8, .ref m9, .ref m10, .ref m11, .ref m12, .ref m13, .ref m14, .ref m15, .ref m16, .ref m17, .ref m18, .ref m19, .ref m20, .int 0, .int 0, .int 0, .int 0, .long 1, .int 0])), (m0, .inr (2, [.int 0, .ref b1, .int 0]))]) [6, 3] (by decide) rfl
  refine W.widen (k := 0) (n := 0) (Nat.le_of_ble_eq_true rfl) (Nat.le_of_ble_eq_true rfl) ?_
  rw [hQe]
  exact W.vret hx hb hr (fun t ht hW => ⟨⟨(), rfl, trivial, ⟨by rw [ht]; exact hP9, hD9⟩⟩, hS.F ht⟩) hS.2.2 dX14_places_70
set_option maxHeartbeats 4000000 in
set_option maxRecDepth 100000 in
theorem k_m_used (l : Launch) (D : va_G) (cy : Nat → ClassId) (h0 : Nat) (m0 : Nat) (m1 : Nat) (m2 : Nat) (m3 : Nat) (m4 : Nat) (m5 : Nat) (m6 : Nat) (m7 : Nat) (m8 : Nat) (m9 : Nat) (m10 : Nat) (m11 : Nat) (m12 : Nat) (m13 : Nat) (m14 : Nat) (m15 : Nat) (m16 : Nat) (m17 : Nat) (m18 : Nat) (m19 : Nat) (m20 : Nat) (b1 : Nat) (sz : Nat)  : Met l yX14_used (wz yX14_used cX14_used 3 (some .int)) ({ frames := 1, cells := 0, slots := 0, locals := 20 } : Room) (va_Pc [.ref h0] (zPre vwCl D cy [(h0, .inr (17, [.ref m0, .ref m1, .ref m2, .ref m3, .ref m4, .ref m5, .ref m6, .ref m7, .ref m8, .ref m9, .ref m10, .ref m11, .ref m12, .ref m13, .ref m14, .ref m15, .ref m16, .ref m17, .ref m18, .ref m19, .ref m20, .int 0, .int 0, .int 0, .int 0, .long 0, .int 0])), (m0, .inr (2, [.int 0, .ref b1, .int 0]))] sz)) (va_Qi (fun (r : Int32) (_ : Unit) => r = 0) (fun (u : Unit) t => zPost vwCl D (va_A [(h0, .inr (17, [.ref m0, .ref m1, .ref m2, .ref m3, .ref m4, .ref m5, .ref m6, .ref m7, .ref m8, .ref m9, .ref m10, .ref m11, .ref m12, .ref m13, .ref m14, .ref m15, .ref m16, .ref m17, .ref m18, .ref m19, .ref m20, .int 0, .int 0, .int 0, .int 0, .long 0, .int 0])), (m0, .inr (2, [.int 0, .ref b1, .int 0]))] sz) [(h0, .inr (17, [.ref m0, .ref m1, .ref m2, .ref m3, .ref m4, .ref m5, .ref m6, .ref m7, .ref m8, .ref m9, .ref m10, .ref m11, .ref m12, .ref m13, .ref m14, .ref m15, .ref m16, .ref m17, .ref m18, .ref m19, .ref m20, .int 0, .int 0, .int 0, .int 0, .long 0, .int 0])), (m0, .inr (2, [.int 0, .ref b1, .int 0]))] t) (va_A [(h0, .inr (17, [.ref m0, .ref m1, .ref m2, .ref m3, .ref m4, .ref m5, .ref m6, .ref m7, .ref m8, .ref m9, .ref m10, .ref m11, .ref m12, .ref m13, .ref m14, .ref m15, .ref m16, .ref m17, .ref m18, .ref m19, .ref m20, .int 0, .int 0, .int 0, .int 0, .long 0, .int 0])), (m0, .inr (2, [.int 0, .ref b1, .int 0]))] sz)) 0 0 (va_A [(h0, .inr (17, [.ref m0, .ref m1, .ref m2, .ref m3, .ref m4, .ref m5, .ref m6, .ref m7, .ref m8, .ref m9, .ref m10, .ref m11, .ref m12, .ref m13, .ref m14, .ref m15, .ref m16, .ref m17, .ref m18, .ref m19, .ref m20, .int 0, .int 0, .int 0, .int 0, .long 0, .int 0])), (m0, .inr (2, [.int 0, .ref b1, .int 0]))] sz) := by
  refine Met.ofW (cc := cX14_used) (maxL := 3) (ret := (some .int)) (by decide) rfl ?_
  intro p e s m args below meth c s₁ B hml hv
  obtain ⟨rfl, hsz, hP, hK, hD0, hX, hY⟩ := hv
  have hx := B.exec
  have hb := B.bytes
  have hr := B.returns
  have hts0 := atoms_spec (ws := wz yX14_used cX14_used 3 (some .int)) B.pre
  have hts : ∀ w ∈ wAll, w.before _ s = true := fun w h => hts0 w (List.mem_cons_of_mem _ h)
  have hown : s.vm.findClass RX14 = some m.cls := findClass_of_methodNamed B.named
  have hlocks := B.notSynchronized
  subst hsz
  have hD := hD0.self (sz := s.heap.size)
  generalize hAe : va_A [(h0, .inr (17, [.ref m0, .ref m1, .ref m2, .ref m3, .ref m4, .ref m5, .ref m6, .ref m7, .ref m8, .ref m9, .ref m10, .ref m11, .ref m12, .ref m13, .ref m14, .ref m15, .ref m16, .ref m17, .ref m18, .ref m19, .ref m20, .int 0, .int 0, .int 0, .int 0, .long 0, .int 0])), (m0, .inr (2, [.int 0, .ref b1, .int 0]))] s.heap.size = A at hD hY ⊢
  have hA : ∀ q : Nat, s.heap.size ≤ q → A q := fun q h => by rw [← hAe]; exact Or.inr h
  have hS : va_S A s.heap s.heap [] := va_S.rf
  have hP : va_P D vwCl [(h0, .inr (17, [.ref m0, .ref m1, .ref m2, .ref m3, .ref m4, .ref m5, .ref m6, .ref m7, .ref m8, .ref m9, .ref m10, .ref m11, .ref m12, .ref m13, .ref m14, .ref m15, .ref m16, .ref m17, .ref m18, .ref m19, .ref m20, .int 0, .int 0, .int 0, .int 0, .long 0, .int 0])), (m0, .inr (2, [.int 0, .ref b1, .int 0]))] s.heap := hP
  have hl := lv_entry ([.ref h0]) (n := 3) (Nat.le_of_ble_eq_true rfl)
  rw [lg_entry_eq]
  generalize (lg_sl ([.ref h0]) ++ List.replicate (3 - (lg_sl ([.ref h0])).length) Slot.unset).toArray = ls at hl ⊢
  have hl : lv_has ls 3 [(0, .ref h0)] := hl
  refine z_anyQ (fun Q hQe => ?_)
  refine lv_iconst (v := 0) hx hb dX14_used_0 (by decide) ?_
  refine lv_istore_n (lv' := [(1, .int 0), (0, .ref h0)]) hx hb dX14_used_1 rfl hl (by decide) rfl (fun ls hl => ?_)
  refine lv_iconst (v := 0) hx hb dX14_used_2 (by decide) ?_
  refine lv_istore_n (lv' := [(2, .int 0), (1, .int 0), (0, .ref h0)]) hx hb dX14_used_3 rfl hl (by decide) rfl (fun ls hl => ?_)
  refine lv_iload_n hx hb dX14_used_4 rfl (lv_at hl 0 rfl) ?_
  refine lv_aload_n hx hb dX14_used_5 rfl (lv_at hl 2 rfl) ?_
  refine va_get (D := D) (ci := 17) (v := .ref m0) (C := RX14) (T := TX14) (N := 27) hx hb hts iRX14 hown hK hP 0 rfl rfl 0 (by decide) (hts _ q259) (fun _ h9 => h9) rfl dX14_used_6 ?_
  refine zq_i (wc := [(m0, .inr (2, [.int 0, .ref b1, .int 0]))]) (wr := [(h0, .inr (17, [.ref m0, .ref m1, .ref m2, .ref m3, .ref m4, .ref m5, .ref m6, .ref m7, .ref m8, .ref m9, .ref m10, .ref m11, .ref m12, .ref m13, .ref m14, .ref m15, .ref m16, .ref m17, .ref m18, .ref m19, .ref m20, .int 0, .int 0, .int 0, .int 0, .long 0, .int 0]))]) (va_runV (As := []) (rest := [.int 0]) ⟨hx, hb, hml, hown, hts⟩ (k_AL_size l D cy m0 b1 s.heap.size ) (cwV 0 hts (gzV (gz q287) q286 q288 q289 q255) rfl rfl rfl vJx4a65c_size_8abf5 ⟨Nat.le_of_ble_eq_true rfl, Nat.le_of_ble_eq_true rfl⟩) (zpV (ci := 2) (T := TJx4a65c) (N := 3) (q0 := 0) hK hX hY hP hD hS hA [1] (by decide) rfl rfl rfl) rfl rfl hl.1 rfl (lv_room (Nat.le_of_ble_eq_true rfl)) dX14_used_9 ⟨Nat.le_of_ble_eq_true rfl, Nat.le_of_ble_eq_true rfl⟩) hP hD hS hA [1] [0] rfl rfl (by decide) (by decide) (fun x2 u1 H locs hw hP hD hS => ?_)
  obtain rfl : x2 = 0 := hw
  have hP : va_P D vwCl [(h0, .inr (17, [.ref m0, .ref m1, .ref m2, .ref m3, .ref m4, .ref m5, .ref m6, .ref m7, .ref m8, .ref m9, .ref m10, .ref m11, .ref m12, .ref m13, .ref m14, .ref m15, .ref m16, .ref m17, .ref m18, .ref m19, .ref m20, .int 0, .int 0, .int 0, .int 0, .long 0, .int 0])), (m0, .inr (2, [.int 0, .ref b1, .int 0]))] H := hP
  have hD : va_D A [(h0, .inr (17, [.ref m0, .ref m1, .ref m2, .ref m3, .ref m4, .ref m5, .ref m6, .ref m7, .ref m8, .ref m9, .ref m10, .ref m11, .ref m12, .ref m13, .ref m14, .ref m15, .ref m16, .ref m17, .ref m18, .ref m19, .ref m20, .int 0, .int 0, .int 0, .int 0, .long 0, .int 0])), (m0, .inr (2, [.int 0, .ref b1, .int 0]))] := hD
  refine lv_icmp_ge (tgt := 38) hx hb dX14_used_12 (by decide) (fun _ => ?_) (fun c_12_2 => absurd (by decide +kernel) c_12_2)
  refine lv_iload_n hx hb dX14_used_38 rfl (lv_at hl 1 rfl) ?_
  have hP9 := hP.sub (ws' := [(h0, .inr (17, [.ref m0, .ref m1, .ref m2, .ref m3, .ref m4, .ref m5, .ref m6, .ref m7, .ref m8, .ref m9, .ref m10, .ref m11, .ref m12, .ref m13, .ref m14, .ref m15, .ref m16, .ref m17, .ref m18, .ref m19, .ref m20, .int 0, .int 0, .int 0, .int 0, .long 0, .int 0])), (m0, .inr (2, [.int 0, .ref b1, .int 0]))]) [0, 1] rfl
  have hD9 := hD.sub (ws' := [(h0, .inr (17, [.ref m0, .ref m1, .ref m2, .ref m3, .ref m4, .ref m5, .ref m6, .ref m7, .ref m8, .ref m9, .ref m10, .ref m11, .ref m12, .ref m13, .ref m14, .ref m15, .ref m16, .ref m17, .ref m18, .ref m19, .ref m20, .int 0, .int 0, .int 0, .int 0, .long 0, .int 0])), (m0, .inr (2, [.int 0, .ref b1, .int 0]))]) [0, 1] (by decide) rfl
  refine W.widen (k := 0) (n := 0) (Nat.le_of_ble_eq_true rfl) (Nat.le_of_ble_eq_true rfl) ?_
  rw [hQe]
  exact W.iret (v := 0) hx hb hr (fun t ht hW => ⟨⟨0, (), rfl, rfl, ⟨by rw [ht]; exact hP9, hD9⟩⟩, hS.F ht⟩) hS.2.2 dX14_used_39
set_option maxHeartbeats 4000000 in
set_option maxRecDepth 100000 in
/-- Wide(0) -/
theorem k_Wide0 (l : Launch) (D : va_G) (cy : Nat → ClassId) (h0 : Nat) (sz : Nat)  : Met l yX13_init (wz yX13_init cX13_init 6 none) ({ frames := 1, cells := 1, slots := 24, locals := 12 } : Room) (va_Pc [.ref h0, .long 0] (zPre vwCl D cy [(h0, .inr (16, [.null]))] sz)) (va_Qv (fun _ : Nat => True) (fun (u : Nat) t => zPost vwCl D (va_A [(h0, .inr (16, [.null]))] sz) [(h0, .inr (16, [.ref u])), (u, .inl (cy 0, 24, .inl (zE 0)))] t) (va_A [(h0, .inr (16, [.null]))] sz)) 1 24 (va_A [(h0, .inr (16, [.null]))] sz) := by
  refine Met.ofW (cc := cX13_init) (maxL := 6) (ret := none) (by decide) rfl ?_
  intro p e s m args below meth c s₁ B hml hv
  obtain ⟨rfl, hsz, hP, hK, hD0, hX, hY⟩ := hv
  have hx := B.exec
  have hb := B.bytes
  have hr := B.returns
  have hts0 := atoms_spec (ws := wz yX13_init cX13_init 6 none) B.pre
  have hts : ∀ w ∈ wAll, w.before _ s = true := fun w h => hts0 w (List.mem_cons_of_mem _ h)
  have hown : s.vm.findClass RX13 = some m.cls := findClass_of_methodNamed B.named
  have hlocks := B.notSynchronized
  have hin : meth.name = "<init>" := (name_of_methodNamed B.named B.method).1
  subst hsz
  have hD := hD0.self (sz := s.heap.size)
  generalize hAe : va_A [(h0, .inr (16, [.null]))] s.heap.size = A at hD hY ⊢
  have hA : ∀ q : Nat, s.heap.size ≤ q → A q := fun q h => by rw [← hAe]; exact Or.inr h
  have hS : va_S A s.heap s.heap [] := va_S.rf
  have hP : va_P D vwCl [(h0, .inr (16, [.null]))] s.heap := hP
  have hl := lv_entry ([.ref h0, .long 0]) (n := 6) (Nat.le_of_ble_eq_true rfl)
  rw [lg_entry_eq]
  generalize (lg_sl ([.ref h0, .long 0]) ++ List.replicate (6 - (lg_sl ([.ref h0, .long 0])).length) Slot.unset).toArray = ls at hl ⊢
  have hl : lv_has ls 6 [(0, .ref h0), (1, .long 0)] := hl
  refine z_anyQ (fun Q hQe => ?_)
  refine lv_aload_n hx hb dX13_init_0 rfl (lv_at hl 0 rfl) ?_
  refine W.objInit hx hb hown (hts _ q310) (hts _ q1) (hts _ q2) rfl (by rw [hml]; exact hl.1) rfl dX13_init_1 (Nat.le_of_ble_eq_true rfl) (Nat.le_of_ble_eq_true rfl) ?_
  refine W.eq (g2 := F0 m 4 ls []) rfl ?_
  refine lv_aload_n hx hb dX13_init_4 rfl (lv_at hl 0 rfl) ?_
  refine lv_bipush (v := 24) hx hb dX13_init_5 (by decide) ?_
  refine z_newa (atype := .int) hx hb (hts _ q4) rfl hK hP hD hS hA 0 rfl (a0 := (24, .inl (fun _ => 0))) (fun _ => rfl) (by decide) (by decide) (by decide) (Nat.le_of_ble_eq_true rfl) (Nat.le_of_ble_eq_true rfl) dX13_init_7 (fun n1 H hP hD hS => ?_)
  have hP : va_P D vwCl [(h0, .inr (16, [.null])), (n1, .inl (cy 0, 24, .inl (fun _ => 0)))] H := hP
  have hD : va_D A [(h0, .inr (16, [.null])), (n1, .inl (cy 0, 24, .inl (fun _ => 0)))] := hD
  refine W.widen (k := 1) (n := 24) (by omega) (by omega) ?_
  refine va_putF (D := D) (ci := 16) (v := .ref n1) (ty := (tyX13 0)) (C := RX13) (T := TX13) (N := 1) hx hb hts iRX13 tyX13 tyX13_ok nmX13 hown hK hP hD hS 0 rfl rfl 0 (by decide) (hts _ q311) (fun _ h9 => h9) rfl hin rfl (tyX13_ok 0 (by decide)) rfl rfl (Nat.le_of_ble_eq_true rfl) dX13_init_9 (fun H locs hP hD hS => ?_)
  have hP : va_P D vwCl [(h0, .inr (16, [.ref n1])), (n1, .inl (cy 0, 24, .inl (fun _ => 0)))] H := hP
  have hD : va_D A [(h0, .inr (16, [.ref n1])), (n1, .inl (cy 0, 24, .inl (fun _ => 0)))] := hD
  refine lv_lload_n hx hb dX13_init_12 rfl (lv_at hl 1 rfl) ?_
  refine lv_lstore_n (lv' := [(3, .long 0), (0, .ref h0), (1, .long 0)]) hx hb dX13_init_13 rfl hl (by decide) rfl (fun ls hl => ?_)
  refine lv_iconst (v := 0) hx hb dX13_init_14 (by decide) ?_
  refine lv_istore (lv' := [(5, .int 0), (3, .long 0), (0, .ref h0), (1, .long 0)]) hx hb dX13_init_15 hl (by decide) rfl (fun ls hl => ?_)
  refine lv_iload hx hb dX13_init_17 (lv_at hl 0 rfl) ?_
  refine lv_iconst (v := 5) hx hb dX13_init_19 (by decide) ?_
  refine lv_icmp_ge (tgt := 47) hx hb dX13_init_20 (by decide) (fun c_20_1 => absurd c_20_1 (by decide +kernel)) (fun _ => ?_)
  refine lv_aload_n hx hb dX13_init_23 rfl (lv_at hl 2 rfl) ?_
  refine va_get (D := D) (ci := 16) (v := .ref n1) (C := RX13) (T := TX13) (N := 1) hx hb hts iRX13 hown hK hP 0 rfl rfl 0 (by decide) (hts _ q311) (fun _ h9 => h9) rfl dX13_init_24 ?_
  refine lv_iload hx hb dX13_init_27 (lv_at hl 0 rfl) ?_
  refine lv_lload_n hx hb dX13_init_29 rfl (lv_at hl 1 rfl) ?_
  refine lv_ldc2 (v := 32767) hx hb hown (hts _ q312) dX13_init_30 ?_
  refine lv_land hx hb dX13_init_33 ?_
  refine lv_topl (fun y3 ey3 => ?_)
  obtain rfl : y3 = 0 := ey3.trans (by decide +kernel)
  refine lv_l2i (v := 0) hx hb dX13_init_34 (by decide +kernel) ?_
  refine va_iast hx hb hK hP hD hS 1 0 rfl rfl (z_in 0 (by decide) (by decide)) dX13_init_35 (fun H locs hP hD hS => ?_)
  have hP : va_P D vwCl [(h0, .inr (16, [.ref n1])), (n1, .inl (cy 0, 24, .inl (upd (fun _ => 0) (0 : Int32).toNatClampNeg 0)))] H := hP
  have hD : va_D A [(h0, .inr (16, [.ref n1])), (n1, .inl (cy 0, 24, .inl (upd (fun _ => 0) (0 : Int32).toNatClampNeg 0)))] := hD
  refine lv_lload_n hx hb dX13_init_36 rfl (lv_at hl 1 rfl) ?_
  refine lv_bipush (v := 15) hx hb dX13_init_37 (by decide) ?_
  refine lv_lushr (v := 0) hx hb dX13_init_39 (by decide +kernel) ?_
  refine lv_lstore_n (lv' := [(3, .long 0), (5, .int 0), (0, .ref h0), (1, .long 0)]) hx hb dX13_init_40 rfl hl (by decide) rfl (fun ls hl => ?_)
  refine lv_iinc (v := 1) (lv' := [(5, .int 1), (3, .long 0), (0, .ref h0), (1, .long 0)]) hx hb dX13_init_41 hl (k := 1) rfl (by decide) (by decide) rfl (fun ls hl => ?_)
  refine lv_goto (tgt := 17) hx hb dX13_init_44 (by decide) ?_
  refine lv_iload hx hb dX13_init_17 (lv_at hl 0 rfl) ?_
  refine lv_iconst (v := 5) hx hb dX13_init_19 (by decide) ?_
  refine lv_icmp_ge (tgt := 47) hx hb dX13_init_20 (by decide) (fun c_20_3 => absurd c_20_3 (by decide +kernel)) (fun _ => ?_)
  refine lv_aload_n hx hb dX13_init_23 rfl (lv_at hl 2 rfl) ?_
  refine va_get (D := D) (ci := 16) (v := .ref n1) (C := RX13) (T := TX13) (N := 1) hx hb hts iRX13 hown hK hP 0 rfl rfl 0 (by decide) (hts _ q311) (fun _ h9 => h9) rfl dX13_init_24 ?_
  refine lv_iload hx hb dX13_init_27 (lv_at hl 0 rfl) ?_
  refine lv_lload_n hx hb dX13_init_29 rfl (lv_at hl 1 rfl) ?_
  refine lv_ldc2 (v := 32767) hx hb hown (hts _ q312) dX13_init_30 ?_
  refine lv_land hx hb dX13_init_33 ?_
  refine lv_topl (fun y5 ey5 => ?_)
  obtain rfl : y5 = 0 := ey5.trans (by decide +kernel)
  refine lv_l2i (v := 0) hx hb dX13_init_34 (by decide +kernel) ?_
  refine va_iast hx hb hK hP hD hS 1 0 rfl rfl (z_in 1 (by decide) (by decide)) dX13_init_35 (fun H locs hP hD hS => ?_)
  have hP : va_P D vwCl [(h0, .inr (16, [.ref n1])), (n1, .inl (cy 0, 24, .inl (upd (upd (fun _ => 0) (0 : Int32).toNatClampNeg 0) (1 : Int32).toNatClampNeg 0)))] H := hP
  have hD : va_D A [(h0, .inr (16, [.ref n1])), (n1, .inl (cy 0, 24, .inl (upd (upd (fun _ => 0) (0 : Int32).toNatClampNeg 0) (1 : Int32).toNatClampNeg 0)))] := hD
  refine lv_lload_n hx hb dX13_init_36 rfl (lv_at hl 1 rfl) ?_
  refine lv_bipush (v := 15) hx hb dX13_init_37 (by decide) ?_
  refine lv_lushr (v := 0) hx hb dX13_init_39 (by decide +kernel) ?_
  refine lv_lstore_n (lv' := [(3, .long 0), (5, .int 1), (0, .ref h0), (1, .long 0)]) hx hb dX13_init_40 rfl hl (by decide) rfl (fun ls hl => ?_)
  refine lv_iinc (v := 2) (lv' := [(5, .int 2), (3, .long 0), (0, .ref h0), (1, .long 0)]) hx hb dX13_init_41 hl (k := 1) rfl (by decide) (by decide) rfl (fun ls hl => ?_)
  refine lv_goto (tgt := 17) hx hb dX13_init_44 (by decide) ?_
  refine lv_iload hx hb dX13_init_17 (lv_at hl 0 rfl) ?_
  refine lv_iconst (v := 5) hx hb dX13_init_19 (by decide) ?_
  refine lv_icmp_ge (tgt := 47) hx hb dX13_init_20 (by decide) (fun c_20_5 => absurd c_20_5 (by decide +kernel)) (fun _ => ?_)
  refine lv_aload_n hx hb dX13_init_23 rfl (lv_at hl 2 rfl) ?_
  refine va_get (D := D) (ci := 16) (v := .ref n1) (C := RX13) (T := TX13) (N := 1) hx hb hts iRX13 hown hK hP 0 rfl rfl 0 (by decide) (hts _ q311) (fun _ h9 => h9) rfl dX13_init_24 ?_
  refine lv_iload hx hb dX13_init_27 (lv_at hl 0 rfl) ?_
  refine lv_lload_n hx hb dX13_init_29 rfl (lv_at hl 1 rfl) ?_
  refine lv_ldc2 (v := 32767) hx hb hown (hts _ q312) dX13_init_30 ?_
  refine lv_land hx hb dX13_init_33 ?_
  refine lv_topl (fun y7 ey7 => ?_)
  obtain rfl : y7 = 0 := ey7.trans (by decide +kernel)
  refine lv_l2i (v := 0) hx hb dX13_init_34 (by decide +kernel) ?_
  refine va_iast hx hb hK hP hD hS 1 0 rfl rfl (z_in 2 (by decide) (by decide)) dX13_init_35 (fun H locs hP hD hS => ?_)
  have hP : va_P D vwCl [(h0, .inr (16, [.ref n1])), (n1, .inl (cy 0, 24, .inl (upd (upd (upd (fun _ => 0) (0 : Int32).toNatClampNeg 0) (1 : Int32).toNatClampNeg 0) (2 : Int32).toNatClampNeg 0)))] H := hP
  have hD : va_D A [(h0, .inr (16, [.ref n1])), (n1, .inl (cy 0, 24, .inl (upd (upd (upd (fun _ => 0) (0 : Int32).toNatClampNeg 0) (1 : Int32).toNatClampNeg 0) (2 : Int32).toNatClampNeg 0)))] := hD
  refine lv_lload_n hx hb dX13_init_36 rfl (lv_at hl 1 rfl) ?_
  refine lv_bipush (v := 15) hx hb dX13_init_37 (by decide) ?_
  refine lv_lushr (v := 0) hx hb dX13_init_39 (by decide +kernel) ?_
  refine lv_lstore_n (lv' := [(3, .long 0), (5, .int 2), (0, .ref h0), (1, .long 0)]) hx hb dX13_init_40 rfl hl (by decide) rfl (fun ls hl => ?_)
  refine lv_iinc (v := 3) (lv' := [(5, .int 3), (3, .long 0), (0, .ref h0), (1, .long 0)]) hx hb dX13_init_41 hl (k := 1) rfl (by decide) (by decide) rfl (fun ls hl => ?_)
  refine lv_goto (tgt := 17) hx hb dX13_init_44 (by decide) ?_
  refine lv_iload hx hb dX13_init_17 (lv_at hl 0 rfl) ?_
  refine lv_iconst (v := 5) hx hb dX13_init_19 (by decide) ?_
  refine lv_icmp_ge (tgt := 47) hx hb dX13_init_20 (by decide) (fun c_20_7 => absurd c_20_7 (by decide +kernel)) (fun _ => ?_)
  refine lv_aload_n hx hb dX13_init_23 rfl (lv_at hl 2 rfl) ?_
  refine va_get (D := D) (ci := 16) (v := .ref n1) (C := RX13) (T := TX13) (N := 1) hx hb hts iRX13 hown hK hP 0 rfl rfl 0 (by decide) (hts _ q311) (fun _ h9 => h9) rfl dX13_init_24 ?_
  refine lv_iload hx hb dX13_init_27 (lv_at hl 0 rfl) ?_
  refine lv_lload_n hx hb dX13_init_29 rfl (lv_at hl 1 rfl) ?_
  refine lv_ldc2 (v := 32767) hx hb hown (hts _ q312) dX13_init_30 ?_
  refine lv_land hx hb dX13_init_33 ?_
  refine lv_topl (fun y9 ey9 => ?_)
  obtain rfl : y9 = 0 := ey9.trans (by decide +kernel)
  refine lv_l2i (v := 0) hx hb dX13_init_34 (by decide +kernel) ?_
  refine va_iast hx hb hK hP hD hS 1 0 rfl rfl (z_in 3 (by decide) (by decide)) dX13_init_35 (fun H locs hP hD hS => ?_)
  have hP : va_P D vwCl [(h0, .inr (16, [.ref n1])), (n1, .inl (cy 0, 24, .inl (upd (upd (upd (upd (fun _ => 0) (0 : Int32).toNatClampNeg 0) (1 : Int32).toNatClampNeg 0) (2 : Int32).toNatClampNeg 0) (3 : Int32).toNatClampNeg 0)))] H := hP
  have hD : va_D A [(h0, .inr (16, [.ref n1])), (n1, .inl (cy 0, 24, .inl (upd (upd (upd (upd (fun _ => 0) (0 : Int32).toNatClampNeg 0) (1 : Int32).toNatClampNeg 0) (2 : Int32).toNatClampNeg 0) (3 : Int32).toNatClampNeg 0)))] := hD
  refine lv_lload_n hx hb dX13_init_36 rfl (lv_at hl 1 rfl) ?_
  refine lv_bipush (v := 15) hx hb dX13_init_37 (by decide) ?_
  refine lv_lushr (v := 0) hx hb dX13_init_39 (by decide +kernel) ?_
  refine lv_lstore_n (lv' := [(3, .long 0), (5, .int 3), (0, .ref h0), (1, .long 0)]) hx hb dX13_init_40 rfl hl (by decide) rfl (fun ls hl => ?_)
  refine lv_iinc (v := 4) (lv' := [(5, .int 4), (3, .long 0), (0, .ref h0), (1, .long 0)]) hx hb dX13_init_41 hl (k := 1) rfl (by decide) (by decide) rfl (fun ls hl => ?_)
  refine lv_goto (tgt := 17) hx hb dX13_init_44 (by decide) ?_
  refine lv_iload hx hb dX13_init_17 (lv_at hl 0 rfl) ?_
  refine lv_iconst (v := 5) hx hb dX13_init_19 (by decide) ?_
  refine lv_icmp_ge (tgt := 47) hx hb dX13_init_20 (by decide) (fun c_20_9 => absurd c_20_9 (by decide +kernel)) (fun _ => ?_)
  refine lv_aload_n hx hb dX13_init_23 rfl (lv_at hl 2 rfl) ?_
  refine va_get (D := D) (ci := 16) (v := .ref n1) (C := RX13) (T := TX13) (N := 1) hx hb hts iRX13 hown hK hP 0 rfl rfl 0 (by decide) (hts _ q311) (fun _ h9 => h9) rfl dX13_init_24 ?_
  refine lv_iload hx hb dX13_init_27 (lv_at hl 0 rfl) ?_
  refine lv_lload_n hx hb dX13_init_29 rfl (lv_at hl 1 rfl) ?_
  refine lv_ldc2 (v := 32767) hx hb hown (hts _ q312) dX13_init_30 ?_
  refine lv_land hx hb dX13_init_33 ?_
  refine lv_topl (fun y11 ey11 => ?_)
  obtain rfl : y11 = 0 := ey11.trans (by decide +kernel)
  refine lv_l2i (v := 0) hx hb dX13_init_34 (by decide +kernel) ?_
  refine va_iast hx hb hK hP hD hS 1 0 rfl rfl (z_in 4 (by decide) (by decide)) dX13_init_35 (fun H locs hP hD hS => ?_)
  have hP : va_P D vwCl [(h0, .inr (16, [.ref n1])), (n1, .inl (cy 0, 24, .inl (upd (upd (upd (upd (upd (fun _ => 0) (0 : Int32).toNatClampNeg 0) (1 : Int32).toNatClampNeg 0) (2 : Int32).toNatClampNeg 0) (3 : Int32).toNatClampNeg 0) (4 : Int32).toNatClampNeg 0)))] H := hP
  have hD : va_D A [(h0, .inr (16, [.ref n1])), (n1, .inl (cy 0, 24, .inl (upd (upd (upd (upd (upd (fun _ => 0) (0 : Int32).toNatClampNeg 0) (1 : Int32).toNatClampNeg 0) (2 : Int32).toNatClampNeg 0) (3 : Int32).toNatClampNeg 0) (4 : Int32).toNatClampNeg 0)))] := hD
  refine lv_lload_n hx hb dX13_init_36 rfl (lv_at hl 1 rfl) ?_
  refine lv_bipush (v := 15) hx hb dX13_init_37 (by decide) ?_
  refine lv_lushr (v := 0) hx hb dX13_init_39 (by decide +kernel) ?_
  refine lv_lstore_n (lv' := [(3, .long 0), (5, .int 4), (0, .ref h0), (1, .long 0)]) hx hb dX13_init_40 rfl hl (by decide) rfl (fun ls hl => ?_)
  refine lv_iinc (v := 5) (lv' := [(5, .int 5), (3, .long 0), (0, .ref h0), (1, .long 0)]) hx hb dX13_init_41 hl (k := 1) rfl (by decide) (by decide) rfl (fun ls hl => ?_)
  refine lv_goto (tgt := 17) hx hb dX13_init_44 (by decide) ?_
  refine lv_iload hx hb dX13_init_17 (lv_at hl 0 rfl) ?_
  refine lv_iconst (v := 5) hx hb dX13_init_19 (by decide) ?_
  refine lv_icmp_ge (tgt := 47) hx hb dX13_init_20 (by decide) (fun _ => ?_) (fun c_20_11 => absurd (by decide +kernel) c_20_11)
  obtain ⟨hP, hD⟩ := zP_i (zE 0) hP hD (q := 1) rfl (by decide +kernel)
  have hP : va_P D vwCl [(h0, .inr (16, [.ref n1])), (n1, .inl (cy 0, 24, .inl (zE 0)))] H := hP
  have hD : va_D A [(h0, .inr (16, [.ref n1])), (n1, .inl (cy 0, 24, .inl (zE 0)))] := hD
  have hP9 := hP.sub (ws' := [(h0, .inr (16, [.ref n1])), (n1, .inl (cy 0, 24, .inl (zE 0)))]) [0, 1] rfl
  have hD9 := hD.sub (ws' := [(h0, .inr (16, [.ref n1])), (n1, .inl (cy 0, 24, .inl (zE 0)))]) [0, 1] (by decide) rfl
  refine W.widen (k := 1) (n := 24) (Nat.le_of_ble_eq_true rfl) (Nat.le_of_ble_eq_true rfl) ?_
  rw [hQe]
  exact W.vret hx hb hr (fun t ht hW => ⟨⟨n1, rfl, trivial, ⟨by rw [ht]; exact hP9, hD9⟩⟩, hS.F ht⟩) hS.2.2 dX13_init_47
set_option maxHeartbeats 4000000 in
set_option maxRecDepth 100000 in
/-- Wide(1) -/
theorem k_Wide1 (l : Launch) (D : va_G) (cy : Nat → ClassId) (h0 : Nat) (sz : Nat)  : Met l yX13_init (wz yX13_init cX13_init 6 none) ({ frames := 1, cells := 1, slots := 24, locals := 12 } : Room) (va_Pc [.ref h0, .long 1] (zPre vwCl D cy [(h0, .inr (16, [.null]))] sz)) (va_Qv (fun _ : Nat => True) (fun (u : Nat) t => zPost vwCl D (va_A [(h0, .inr (16, [.null]))] sz) [(h0, .inr (16, [.ref u])), (u, .inl (cy 0, 24, .inl (zE 1)))] t) (va_A [(h0, .inr (16, [.null]))] sz)) 1 24 (va_A [(h0, .inr (16, [.null]))] sz) := by
  refine Met.ofW (cc := cX13_init) (maxL := 6) (ret := none) (by decide) rfl ?_
  intro p e s m args below meth c s₁ B hml hv
  obtain ⟨rfl, hsz, hP, hK, hD0, hX, hY⟩ := hv
  have hx := B.exec
  have hb := B.bytes
  have hr := B.returns
  have hts0 := atoms_spec (ws := wz yX13_init cX13_init 6 none) B.pre
  have hts : ∀ w ∈ wAll, w.before _ s = true := fun w h => hts0 w (List.mem_cons_of_mem _ h)
  have hown : s.vm.findClass RX13 = some m.cls := findClass_of_methodNamed B.named
  have hlocks := B.notSynchronized
  have hin : meth.name = "<init>" := (name_of_methodNamed B.named B.method).1
  subst hsz
  have hD := hD0.self (sz := s.heap.size)
  generalize hAe : va_A [(h0, .inr (16, [.null]))] s.heap.size = A at hD hY ⊢
  have hA : ∀ q : Nat, s.heap.size ≤ q → A q := fun q h => by rw [← hAe]; exact Or.inr h
  have hS : va_S A s.heap s.heap [] := va_S.rf
  have hP : va_P D vwCl [(h0, .inr (16, [.null]))] s.heap := hP
  have hl := lv_entry ([.ref h0, .long 1]) (n := 6) (Nat.le_of_ble_eq_true rfl)
  rw [lg_entry_eq]
  generalize (lg_sl ([.ref h0, .long 1]) ++ List.replicate (6 - (lg_sl ([.ref h0, .long 1])).length) Slot.unset).toArray = ls at hl ⊢
  have hl : lv_has ls 6 [(0, .ref h0), (1, .long 1)] := hl
  refine z_anyQ (fun Q hQe => ?_)
  refine lv_aload_n hx hb dX13_init_0 rfl (lv_at hl 0 rfl) ?_
  refine W.objInit hx hb hown (hts _ q310) (hts _ q1) (hts _ q2) rfl (by rw [hml]; exact hl.1) rfl dX13_init_1 (Nat.le_of_ble_eq_true rfl) (Nat.le_of_ble_eq_true rfl) ?_
  refine W.eq (g2 := F0 m 4 ls []) rfl ?_
  refine lv_aload_n hx hb dX13_init_4 rfl (lv_at hl 0 rfl) ?_
  refine lv_bipush (v := 24) hx hb dX13_init_5 (by decide) ?_
  refine z_newa (atype := .int) hx hb (hts _ q4) rfl hK hP hD hS hA 0 rfl (a0 := (24, .inl (fun _ => 0))) (fun _ => rfl) (by decide) (by decide) (by decide) (Nat.le_of_ble_eq_true rfl) (Nat.le_of_ble_eq_true rfl) dX13_init_7 (fun n1 H hP hD hS => ?_)
  have hP : va_P D vwCl [(h0, .inr (16, [.null])), (n1, .inl (cy 0, 24, .inl (fun _ => 0)))] H := hP
  have hD : va_D A [(h0, .inr (16, [.null])), (n1, .inl (cy 0, 24, .inl (fun _ => 0)))] := hD
  refine W.widen (k := 1) (n := 24) (by omega) (by omega) ?_
  refine va_putF (D := D) (ci := 16) (v := .ref n1) (ty := (tyX13 0)) (C := RX13) (T := TX13) (N := 1) hx hb hts iRX13 tyX13 tyX13_ok nmX13 hown hK hP hD hS 0 rfl rfl 0 (by decide) (hts _ q311) (fun _ h9 => h9) rfl hin rfl (tyX13_ok 0 (by decide)) rfl rfl (Nat.le_of_ble_eq_true rfl) dX13_init_9 (fun H locs hP hD hS => ?_)
  have hP : va_P D vwCl [(h0, .inr (16, [.ref n1])), (n1, .inl (cy 0, 24, .inl (fun _ => 0)))] H := hP
  have hD : va_D A [(h0, .inr (16, [.ref n1])), (n1, .inl (cy 0, 24, .inl (fun _ => 0)))] := hD
  refine lv_lload_n hx hb dX13_init_12 rfl (lv_at hl 1 rfl) ?_
  refine lv_lstore_n (lv' := [(3, .long 1), (0, .ref h0), (1, .long 1)]) hx hb dX13_init_13 rfl hl (by decide) rfl (fun ls hl => ?_)
  refine lv_iconst (v := 0) hx hb dX13_init_14 (by decide) ?_
  refine lv_istore (lv' := [(5, .int 0), (3, .long 1), (0, .ref h0), (1, .long 1)]) hx hb dX13_init_15 hl (by decide) rfl (fun ls hl => ?_)
  refine lv_iload hx hb dX13_init_17 (lv_at hl 0 rfl) ?_
  refine lv_iconst (v := 5) hx hb dX13_init_19 (by decide) ?_
  refine lv_icmp_ge (tgt := 47) hx hb dX13_init_20 (by decide) (fun c_20_1 => absurd c_20_1 (by decide +kernel)) (fun _ => ?_)
  refine lv_aload_n hx hb dX13_init_23 rfl (lv_at hl 2 rfl) ?_
  refine va_get (D := D) (ci := 16) (v := .ref n1) (C := RX13) (T := TX13) (N := 1) hx hb hts iRX13 hown hK hP 0 rfl rfl 0 (by decide) (hts _ q311) (fun _ h9 => h9) rfl dX13_init_24 ?_
  refine lv_iload hx hb dX13_init_27 (lv_at hl 0 rfl) ?_
  refine lv_lload_n hx hb dX13_init_29 rfl (lv_at hl 1 rfl) ?_
  refine lv_ldc2 (v := 32767) hx hb hown (hts _ q312) dX13_init_30 ?_
  refine lv_land hx hb dX13_init_33 ?_
  refine lv_topl (fun y3 ey3 => ?_)
  obtain rfl : y3 = 1 := ey3.trans (by decide +kernel)
  refine lv_l2i (v := 1) hx hb dX13_init_34 (by decide +kernel) ?_
  refine va_iast hx hb hK hP hD hS 1 0 rfl rfl (z_in 0 (by decide) (by decide)) dX13_init_35 (fun H locs hP hD hS => ?_)
  have hP : va_P D vwCl [(h0, .inr (16, [.ref n1])), (n1, .inl (cy 0, 24, .inl (upd (fun _ => 0) (0 : Int32).toNatClampNeg 1)))] H := hP
  have hD : va_D A [(h0, .inr (16, [.ref n1])), (n1, .inl (cy 0, 24, .inl (upd (fun _ => 0) (0 : Int32).toNatClampNeg 1)))] := hD
  refine lv_lload_n hx hb dX13_init_36 rfl (lv_at hl 1 rfl) ?_
  refine lv_bipush (v := 15) hx hb dX13_init_37 (by decide) ?_
  refine lv_lushr (v := 0) hx hb dX13_init_39 (by decide +kernel) ?_
  refine lv_lstore_n (lv' := [(3, .long 0), (5, .int 0), (0, .ref h0), (1, .long 1)]) hx hb dX13_init_40 rfl hl (by decide) rfl (fun ls hl => ?_)
  refine lv_iinc (v := 1) (lv' := [(5, .int 1), (3, .long 0), (0, .ref h0), (1, .long 1)]) hx hb dX13_init_41 hl (k := 1) rfl (by decide) (by decide) rfl (fun ls hl => ?_)
  refine lv_goto (tgt := 17) hx hb dX13_init_44 (by decide) ?_
  refine lv_iload hx hb dX13_init_17 (lv_at hl 0 rfl) ?_
  refine lv_iconst (v := 5) hx hb dX13_init_19 (by decide) ?_
  refine lv_icmp_ge (tgt := 47) hx hb dX13_init_20 (by decide) (fun c_20_3 => absurd c_20_3 (by decide +kernel)) (fun _ => ?_)
  refine lv_aload_n hx hb dX13_init_23 rfl (lv_at hl 2 rfl) ?_
  refine va_get (D := D) (ci := 16) (v := .ref n1) (C := RX13) (T := TX13) (N := 1) hx hb hts iRX13 hown hK hP 0 rfl rfl 0 (by decide) (hts _ q311) (fun _ h9 => h9) rfl dX13_init_24 ?_
  refine lv_iload hx hb dX13_init_27 (lv_at hl 0 rfl) ?_
  refine lv_lload_n hx hb dX13_init_29 rfl (lv_at hl 1 rfl) ?_
  refine lv_ldc2 (v := 32767) hx hb hown (hts _ q312) dX13_init_30 ?_
  refine lv_land hx hb dX13_init_33 ?_
  refine lv_topl (fun y5 ey5 => ?_)
  obtain rfl : y5 = 0 := ey5.trans (by decide +kernel)
  refine lv_l2i (v := 0) hx hb dX13_init_34 (by decide +kernel) ?_
  refine va_iast hx hb hK hP hD hS 1 0 rfl rfl (z_in 1 (by decide) (by decide)) dX13_init_35 (fun H locs hP hD hS => ?_)
  have hP : va_P D vwCl [(h0, .inr (16, [.ref n1])), (n1, .inl (cy 0, 24, .inl (upd (upd (fun _ => 0) (0 : Int32).toNatClampNeg 1) (1 : Int32).toNatClampNeg 0)))] H := hP
  have hD : va_D A [(h0, .inr (16, [.ref n1])), (n1, .inl (cy 0, 24, .inl (upd (upd (fun _ => 0) (0 : Int32).toNatClampNeg 1) (1 : Int32).toNatClampNeg 0)))] := hD
  refine lv_lload_n hx hb dX13_init_36 rfl (lv_at hl 1 rfl) ?_
  refine lv_bipush (v := 15) hx hb dX13_init_37 (by decide) ?_
  refine lv_lushr (v := 0) hx hb dX13_init_39 (by decide +kernel) ?_
  refine lv_lstore_n (lv' := [(3, .long 0), (5, .int 1), (0, .ref h0), (1, .long 1)]) hx hb dX13_init_40 rfl hl (by decide) rfl (fun ls hl => ?_)
  refine lv_iinc (v := 2) (lv' := [(5, .int 2), (3, .long 0), (0, .ref h0), (1, .long 1)]) hx hb dX13_init_41 hl (k := 1) rfl (by decide) (by decide) rfl (fun ls hl => ?_)
  refine lv_goto (tgt := 17) hx hb dX13_init_44 (by decide) ?_
  refine lv_iload hx hb dX13_init_17 (lv_at hl 0 rfl) ?_
  refine lv_iconst (v := 5) hx hb dX13_init_19 (by decide) ?_
  refine lv_icmp_ge (tgt := 47) hx hb dX13_init_20 (by decide) (fun c_20_5 => absurd c_20_5 (by decide +kernel)) (fun _ => ?_)
  refine lv_aload_n hx hb dX13_init_23 rfl (lv_at hl 2 rfl) ?_
  refine va_get (D := D) (ci := 16) (v := .ref n1) (C := RX13) (T := TX13) (N := 1) hx hb hts iRX13 hown hK hP 0 rfl rfl 0 (by decide) (hts _ q311) (fun _ h9 => h9) rfl dX13_init_24 ?_
  refine lv_iload hx hb dX13_init_27 (lv_at hl 0 rfl) ?_
  refine lv_lload_n hx hb dX13_init_29 rfl (lv_at hl 1 rfl) ?_
  refine lv_ldc2 (v := 32767) hx hb hown (hts _ q312) dX13_init_30 ?_
  refine lv_land hx hb dX13_init_33 ?_
  refine lv_topl (fun y7 ey7 => ?_)
  obtain rfl : y7 = 0 := ey7.trans (by decide +kernel)
  refine lv_l2i (v := 0) hx hb dX13_init_34 (by decide +kernel) ?_
  refine va_iast hx hb hK hP hD hS 1 0 rfl rfl (z_in 2 (by decide) (by decide)) dX13_init_35 (fun H locs hP hD hS => ?_)
  have hP : va_P D vwCl [(h0, .inr (16, [.ref n1])), (n1, .inl (cy 0, 24, .inl (upd (upd (upd (fun _ => 0) (0 : Int32).toNatClampNeg 1) (1 : Int32).toNatClampNeg 0) (2 : Int32).toNatClampNeg 0)))] H := hP
  have hD : va_D A [(h0, .inr (16, [.ref n1])), (n1, .inl (cy 0, 24, .inl (upd (upd (upd (fun _ => 0) (0 : Int32).toNatClampNeg 1) (1 : Int32).toNatClampNeg 0) (2 : Int32).toNatClampNeg 0)))] := hD
  refine lv_lload_n hx hb dX13_init_36 rfl (lv_at hl 1 rfl) ?_
  refine lv_bipush (v := 15) hx hb dX13_init_37 (by decide) ?_
  refine lv_lushr (v := 0) hx hb dX13_init_39 (by decide +kernel) ?_
  refine lv_lstore_n (lv' := [(3, .long 0), (5, .int 2), (0, .ref h0), (1, .long 1)]) hx hb dX13_init_40 rfl hl (by decide) rfl (fun ls hl => ?_)
  refine lv_iinc (v := 3) (lv' := [(5, .int 3), (3, .long 0), (0, .ref h0), (1, .long 1)]) hx hb dX13_init_41 hl (k := 1) rfl (by decide) (by decide) rfl (fun ls hl => ?_)
  refine lv_goto (tgt := 17) hx hb dX13_init_44 (by decide) ?_
  refine lv_iload hx hb dX13_init_17 (lv_at hl 0 rfl) ?_
  refine lv_iconst (v := 5) hx hb dX13_init_19 (by decide) ?_
  refine lv_icmp_ge (tgt := 47) hx hb dX13_init_20 (by decide) (fun c_20_7 => absurd c_20_7 (by decide +kernel)) (fun _ => ?_)
  refine lv_aload_n hx hb dX13_init_23 rfl (lv_at hl 2 rfl) ?_
  refine va_get (D := D) (ci := 16) (v := .ref n1) (C := RX13) (T := TX13) (N := 1) hx hb hts iRX13 hown hK hP 0 rfl rfl 0 (by decide) (hts _ q311) (fun _ h9 => h9) rfl dX13_init_24 ?_
  refine lv_iload hx hb dX13_init_27 (lv_at hl 0 rfl) ?_
  refine lv_lload_n hx hb dX13_init_29 rfl (lv_at hl 1 rfl) ?_
  refine lv_ldc2 (v := 32767) hx hb hown (hts _ q312) dX13_init_30 ?_
  refine lv_land hx hb dX13_init_33 ?_
  refine lv_topl (fun y9 ey9 => ?_)
  obtain rfl : y9 = 0 := ey9.trans (by decide +kernel)
  refine lv_l2i (v := 0) hx hb dX13_init_34 (by decide +kernel) ?_
  refine va_iast hx hb hK hP hD hS 1 0 rfl rfl (z_in 3 (by decide) (by decide)) dX13_init_35 (fun H locs hP hD hS => ?_)
  have hP : va_P D vwCl [(h0, .inr (16, [.ref n1])), (n1, .inl (cy 0, 24, .inl (upd (upd (upd (upd (fun _ => 0) (0 : Int32).toNatClampNeg 1) (1 : Int32).toNatClampNeg 0) (2 : Int32).toNatClampNeg 0) (3 : Int32).toNatClampNeg 0)))] H := hP
  have hD : va_D A [(h0, .inr (16, [.ref n1])), (n1, .inl (cy 0, 24, .inl (upd (upd (upd (upd (fun _ => 0) (0 : Int32).toNatClampNeg 1) (1 : Int32).toNatClampNeg 0) (2 : Int32).toNatClampNeg 0) (3 : Int32).toNatClampNeg 0)))] := hD
  refine lv_lload_n hx hb dX13_init_36 rfl (lv_at hl 1 rfl) ?_
  refine lv_bipush (v := 15) hx hb dX13_init_37 (by decide) ?_
  refine lv_lushr (v := 0) hx hb dX13_init_39 (by decide +kernel) ?_
  refine lv_lstore_n (lv' := [(3, .long 0), (5, .int 3), (0, .ref h0), (1, .long 1)]) hx hb dX13_init_40 rfl hl (by decide) rfl (fun ls hl => ?_)
  refine lv_iinc (v := 4) (lv' := [(5, .int 4), (3, .long 0), (0, .ref h0), (1, .long 1)]) hx hb dX13_init_41 hl (k := 1) rfl (by decide) (by decide) rfl (fun ls hl => ?_)
  refine lv_goto (tgt := 17) hx hb dX13_init_44 (by decide) ?_
  refine lv_iload hx hb dX13_init_17 (lv_at hl 0 rfl) ?_
  refine lv_iconst (v := 5) hx hb dX13_init_19 (by decide) ?_
  refine lv_icmp_ge (tgt := 47) hx hb dX13_init_20 (by decide) (fun c_20_9 => absurd c_20_9 (by decide +kernel)) (fun _ => ?_)
  refine lv_aload_n hx hb dX13_init_23 rfl (lv_at hl 2 rfl) ?_
  refine va_get (D := D) (ci := 16) (v := .ref n1) (C := RX13) (T := TX13) (N := 1) hx hb hts iRX13 hown hK hP 0 rfl rfl 0 (by decide) (hts _ q311) (fun _ h9 => h9) rfl dX13_init_24 ?_
  refine lv_iload hx hb dX13_init_27 (lv_at hl 0 rfl) ?_
  refine lv_lload_n hx hb dX13_init_29 rfl (lv_at hl 1 rfl) ?_
  refine lv_ldc2 (v := 32767) hx hb hown (hts _ q312) dX13_init_30 ?_
  refine lv_land hx hb dX13_init_33 ?_
  refine lv_topl (fun y11 ey11 => ?_)
  obtain rfl : y11 = 0 := ey11.trans (by decide +kernel)
  refine lv_l2i (v := 0) hx hb dX13_init_34 (by decide +kernel) ?_
  refine va_iast hx hb hK hP hD hS 1 0 rfl rfl (z_in 4 (by decide) (by decide)) dX13_init_35 (fun H locs hP hD hS => ?_)
  have hP : va_P D vwCl [(h0, .inr (16, [.ref n1])), (n1, .inl (cy 0, 24, .inl (upd (upd (upd (upd (upd (fun _ => 0) (0 : Int32).toNatClampNeg 1) (1 : Int32).toNatClampNeg 0) (2 : Int32).toNatClampNeg 0) (3 : Int32).toNatClampNeg 0) (4 : Int32).toNatClampNeg 0)))] H := hP
  have hD : va_D A [(h0, .inr (16, [.ref n1])), (n1, .inl (cy 0, 24, .inl (upd (upd (upd (upd (upd (fun _ => 0) (0 : Int32).toNatClampNeg 1) (1 : Int32).toNatClampNeg 0) (2 : Int32).toNatClampNeg 0) (3 : Int32).toNatClampNeg 0) (4 : Int32).toNatClampNeg 0)))] := hD
  refine lv_lload_n hx hb dX13_init_36 rfl (lv_at hl 1 rfl) ?_
  refine lv_bipush (v := 15) hx hb dX13_init_37 (by decide) ?_
  refine lv_lushr (v := 0) hx hb dX13_init_39 (by decide +kernel) ?_
  refine lv_lstore_n (lv' := [(3, .long 0), (5, .int 4), (0, .ref h0), (1, .long 1)]) hx hb dX13_init_40 rfl hl (by decide) rfl (fun ls hl => ?_)
  refine lv_iinc (v := 5) (lv' := [(5, .int 5), (3, .long 0), (0, .ref h0), (1, .long 1)]) hx hb dX13_init_41 hl (k := 1) rfl (by decide) (by decide) rfl (fun ls hl => ?_)
  refine lv_goto (tgt := 17) hx hb dX13_init_44 (by decide) ?_
  refine lv_iload hx hb dX13_init_17 (lv_at hl 0 rfl) ?_
  refine lv_iconst (v := 5) hx hb dX13_init_19 (by decide) ?_
  refine lv_icmp_ge (tgt := 47) hx hb dX13_init_20 (by decide) (fun _ => ?_) (fun c_20_11 => absurd (by decide +kernel) c_20_11)
  obtain ⟨hP, hD⟩ := zP_i (zE 1) hP hD (q := 1) rfl (by decide +kernel)
  have hP : va_P D vwCl [(h0, .inr (16, [.ref n1])), (n1, .inl (cy 0, 24, .inl (zE 1)))] H := hP
  have hD : va_D A [(h0, .inr (16, [.ref n1])), (n1, .inl (cy 0, 24, .inl (zE 1)))] := hD
  have hP9 := hP.sub (ws' := [(h0, .inr (16, [.ref n1])), (n1, .inl (cy 0, 24, .inl (zE 1)))]) [0, 1] rfl
  have hD9 := hD.sub (ws' := [(h0, .inr (16, [.ref n1])), (n1, .inl (cy 0, 24, .inl (zE 1)))]) [0, 1] (by decide) rfl
  refine W.widen (k := 1) (n := 24) (Nat.le_of_ble_eq_true rfl) (Nat.le_of_ble_eq_true rfl) ?_
  rw [hQe]
  exact W.vret hx hb hr (fun t ht hW => ⟨⟨n1, rfl, trivial, ⟨by rw [ht]; exact hP9, hD9⟩⟩, hS.F ht⟩) hS.2.2 dX13_init_47
set_option maxHeartbeats 4000000 in
set_option maxRecDepth 100000 in
/-- Wide(1000) -/
theorem k_Wide1000 (l : Launch) (D : va_G) (cy : Nat → ClassId) (h0 : Nat) (sz : Nat)  : Met l yX13_init (wz yX13_init cX13_init 6 none) ({ frames := 1, cells := 1, slots := 24, locals := 12 } : Room) (va_Pc [.ref h0, .long 1000] (zPre vwCl D cy [(h0, .inr (16, [.null]))] sz)) (va_Qv (fun _ : Nat => True) (fun (u : Nat) t => zPost vwCl D (va_A [(h0, .inr (16, [.null]))] sz) [(h0, .inr (16, [.ref u])), (u, .inl (cy 0, 24, .inl (zE 1000)))] t) (va_A [(h0, .inr (16, [.null]))] sz)) 1 24 (va_A [(h0, .inr (16, [.null]))] sz) := by
  refine Met.ofW (cc := cX13_init) (maxL := 6) (ret := none) (by decide) rfl ?_
  intro p e s m args below meth c s₁ B hml hv
  obtain ⟨rfl, hsz, hP, hK, hD0, hX, hY⟩ := hv
  have hx := B.exec
  have hb := B.bytes
  have hr := B.returns
  have hts0 := atoms_spec (ws := wz yX13_init cX13_init 6 none) B.pre
  have hts : ∀ w ∈ wAll, w.before _ s = true := fun w h => hts0 w (List.mem_cons_of_mem _ h)
  have hown : s.vm.findClass RX13 = some m.cls := findClass_of_methodNamed B.named
  have hlocks := B.notSynchronized
  have hin : meth.name = "<init>" := (name_of_methodNamed B.named B.method).1
  subst hsz
  have hD := hD0.self (sz := s.heap.size)
  generalize hAe : va_A [(h0, .inr (16, [.null]))] s.heap.size = A at hD hY ⊢
  have hA : ∀ q : Nat, s.heap.size ≤ q → A q := fun q h => by rw [← hAe]; exact Or.inr h
  have hS : va_S A s.heap s.heap [] := va_S.rf
  have hP : va_P D vwCl [(h0, .inr (16, [.null]))] s.heap := hP
  have hl := lv_entry ([.ref h0, .long 1000]) (n := 6) (Nat.le_of_ble_eq_true rfl)
  rw [lg_entry_eq]
  generalize (lg_sl ([.ref h0, .long 1000]) ++ List.replicate (6 - (lg_sl ([.ref h0, .long 1000])).length) Slot.unset).toArray = ls at hl ⊢
  have hl : lv_has ls 6 [(0, .ref h0), (1, .long 1000)] := hl
  refine z_anyQ (fun Q hQe => ?_)
  refine lv_aload_n hx hb dX13_init_0 rfl (lv_at hl 0 rfl) ?_
  refine W.objInit hx hb hown (hts _ q310) (hts _ q1) (hts _ q2) rfl (by rw [hml]; exact hl.1) rfl dX13_init_1 (Nat.le_of_ble_eq_true rfl) (Nat.le_of_ble_eq_true rfl) ?_
  refine W.eq (g2 := F0 m 4 ls []) rfl ?_
  refine lv_aload_n hx hb dX13_init_4 rfl (lv_at hl 0 rfl) ?_
  refine lv_bipush (v := 24) hx hb dX13_init_5 (by decide) ?_
  refine z_newa (atype := .int) hx hb (hts _ q4) rfl hK hP hD hS hA 0 rfl (a0 := (24, .inl (fun _ => 0))) (fun _ => rfl) (by decide) (by decide) (by decide) (Nat.le_of_ble_eq_true rfl) (Nat.le_of_ble_eq_true rfl) dX13_init_7 (fun n1 H hP hD hS => ?_)
  have hP : va_P D vwCl [(h0, .inr (16, [.null])), (n1, .inl (cy 0, 24, .inl (fun _ => 0)))] H := hP
  have hD : va_D A [(h0, .inr (16, [.null])), (n1, .inl (cy 0, 24, .inl (fun _ => 0)))] := hD
  refine W.widen (k := 1) (n := 24) (by omega) (by omega) ?_
  refine va_putF (D := D) (ci := 16) (v := .ref n1) (ty := (tyX13 0)) (C := RX13) (T := TX13) (N := 1) hx hb hts iRX13 tyX13 tyX13_ok nmX13 hown hK hP hD hS 0 rfl rfl 0 (by decide) (hts _ q311) (fun _ h9 => h9) rfl hin rfl (tyX13_ok 0 (by decide)) rfl rfl (Nat.le_of_ble_eq_true rfl) dX13_init_9 (fun H locs hP hD hS => ?_)
  have hP : va_P D vwCl [(h0, .inr (16, [.ref n1])), (n1, .inl (cy 0, 24, .inl (fun _ => 0)))] H := hP
  have hD : va_D A [(h0, .inr (16, [.ref n1])), (n1, .inl (cy 0, 24, .inl (fun _ => 0)))] := hD
  refine lv_lload_n hx hb dX13_init_12 rfl (lv_at hl 1 rfl) ?_
  refine lv_lstore_n (lv' := [(3, .long 1000), (0, .ref h0), (1, .long 1000)]) hx hb dX13_init_13 rfl hl (by decide) rfl (fun ls hl => ?_)
  refine lv_iconst (v := 0) hx hb dX13_init_14 (by decide) ?_
  refine lv_istore (lv' := [(5, .int 0), (3, .long 1000), (0, .ref h0), (1, .long 1000)]) hx hb dX13_init_15 hl (by decide) rfl (fun ls hl => ?_)
  refine lv_iload hx hb dX13_init_17 (lv_at hl 0 rfl) ?_
  refine lv_iconst (v := 5) hx hb dX13_init_19 (by decide) ?_
  refine lv_icmp_ge (tgt := 47) hx hb dX13_init_20 (by decide) (fun c_20_1 => absurd c_20_1 (by decide +kernel)) (fun _ => ?_)
  refine lv_aload_n hx hb dX13_init_23 rfl (lv_at hl 2 rfl) ?_
  refine va_get (D := D) (ci := 16) (v := .ref n1) (C := RX13) (T := TX13) (N := 1) hx hb hts iRX13 hown hK hP 0 rfl rfl 0 (by decide) (hts _ q311) (fun _ h9 => h9) rfl dX13_init_24 ?_
  refine lv_iload hx hb dX13_init_27 (lv_at hl 0 rfl) ?_
  refine lv_lload_n hx hb dX13_init_29 rfl (lv_at hl 1 rfl) ?_
  refine lv_ldc2 (v := 32767) hx hb hown (hts _ q312) dX13_init_30 ?_
  refine lv_land hx hb dX13_init_33 ?_
  refine lv_topl (fun y3 ey3 => ?_)
  obtain rfl : y3 = 1000 := ey3.trans (by decide +kernel)
  refine lv_l2i (v := 1000) hx hb dX13_init_34 (by decide +kernel) ?_
  refine va_iast hx hb hK hP hD hS 1 0 rfl rfl (z_in 0 (by decide) (by decide)) dX13_init_35 (fun H locs hP hD hS => ?_)
  have hP : va_P D vwCl [(h0, .inr (16, [.ref n1])), (n1, .inl (cy 0, 24, .inl (upd (fun _ => 0) (0 : Int32).toNatClampNeg 1000)))] H := hP
  have hD : va_D A [(h0, .inr (16, [.ref n1])), (n1, .inl (cy 0, 24, .inl (upd (fun _ => 0) (0 : Int32).toNatClampNeg 1000)))] := hD
  refine lv_lload_n hx hb dX13_init_36 rfl (lv_at hl 1 rfl) ?_
  refine lv_bipush (v := 15) hx hb dX13_init_37 (by decide) ?_
  refine lv_lushr (v := 0) hx hb dX13_init_39 (by decide +kernel) ?_
  refine lv_lstore_n (lv' := [(3, .long 0), (5, .int 0), (0, .ref h0), (1, .long 1000)]) hx hb dX13_init_40 rfl hl (by decide) rfl (fun ls hl => ?_)
  refine lv_iinc (v := 1) (lv' := [(5, .int 1), (3, .long 0), (0, .ref h0), (1, .long 1000)]) hx hb dX13_init_41 hl (k := 1) rfl (by decide) (by decide) rfl (fun ls hl => ?_)
  refine lv_goto (tgt := 17) hx hb dX13_init_44 (by decide) ?_
  refine lv_iload hx hb dX13_init_17 (lv_at hl 0 rfl) ?_
  refine lv_iconst (v := 5) hx hb dX13_init_19 (by decide) ?_
  refine lv_icmp_ge (tgt := 47) hx hb dX13_init_20 (by decide) (fun c_20_3 => absurd c_20_3 (by decide +kernel)) (fun _ => ?_)
  refine lv_aload_n hx hb dX13_init_23 rfl (lv_at hl 2 rfl) ?_
  refine va_get (D := D) (ci := 16) (v := .ref n1) (C := RX13) (T := TX13) (N := 1) hx hb hts iRX13 hown hK hP 0 rfl rfl 0 (by decide) (hts _ q311) (fun _ h9 => h9) rfl dX13_init_24 ?_
  refine lv_iload hx hb dX13_init_27 (lv_at hl 0 rfl) ?_
  refine lv_lload_n hx hb dX13_init_29 rfl (lv_at hl 1 rfl) ?_
  refine lv_ldc2 (v := 32767) hx hb hown (hts _ q312) dX13_init_30 ?_
  refine lv_land hx hb dX13_init_33 ?_
  refine lv_topl (fun y5 ey5 => ?_)
  obtain rfl : y5 = 0 := ey5.trans (by decide +kernel)
  refine lv_l2i (v := 0) hx hb dX13_init_34 (by decide +kernel) ?_
  refine va_iast hx hb hK hP hD hS 1 0 rfl rfl (z_in 1 (by decide) (by decide)) dX13_init_35 (fun H locs hP hD hS => ?_)
  have hP : va_P D vwCl [(h0, .inr (16, [.ref n1])), (n1, .inl (cy 0, 24, .inl (upd (upd (fun _ => 0) (0 : Int32).toNatClampNeg 1000) (1 : Int32).toNatClampNeg 0)))] H := hP
  have hD : va_D A [(h0, .inr (16, [.ref n1])), (n1, .inl (cy 0, 24, .inl (upd (upd (fun _ => 0) (0 : Int32).toNatClampNeg 1000) (1 : Int32).toNatClampNeg 0)))] := hD
  refine lv_lload_n hx hb dX13_init_36 rfl (lv_at hl 1 rfl) ?_
  refine lv_bipush (v := 15) hx hb dX13_init_37 (by decide) ?_
  refine lv_lushr (v := 0) hx hb dX13_init_39 (by decide +kernel) ?_
  refine lv_lstore_n (lv' := [(3, .long 0), (5, .int 1), (0, .ref h0), (1, .long 1000)]) hx hb dX13_init_40 rfl hl (by decide) rfl (fun ls hl => ?_)
  refine lv_iinc (v := 2) (lv' := [(5, .int 2), (3, .long 0), (0, .ref h0), (1, .long 1000)]) hx hb dX13_init_41 hl (k := 1) rfl (by decide) (by decide) rfl (fun ls hl => ?_)
  refine lv_goto (tgt := 17) hx hb dX13_init_44 (by decide) ?_
  refine lv_iload hx hb dX13_init_17 (lv_at hl 0 rfl) ?_
  refine lv_iconst (v := 5) hx hb dX13_init_19 (by decide) ?_
  refine lv_icmp_ge (tgt := 47) hx hb dX13_init_20 (by decide) (fun c_20_5 => absurd c_20_5 (by decide +kernel)) (fun _ => ?_)
  refine lv_aload_n hx hb dX13_init_23 rfl (lv_at hl 2 rfl) ?_
  refine va_get (D := D) (ci := 16) (v := .ref n1) (C := RX13) (T := TX13) (N := 1) hx hb hts iRX13 hown hK hP 0 rfl rfl 0 (by decide) (hts _ q311) (fun _ h9 => h9) rfl dX13_init_24 ?_
  refine lv_iload hx hb dX13_init_27 (lv_at hl 0 rfl) ?_
  refine lv_lload_n hx hb dX13_init_29 rfl (lv_at hl 1 rfl) ?_
  refine lv_ldc2 (v := 32767) hx hb hown (hts _ q312) dX13_init_30 ?_
  refine lv_land hx hb dX13_init_33 ?_
  refine lv_topl (fun y7 ey7 => ?_)
  obtain rfl : y7 = 0 := ey7.trans (by decide +kernel)
  refine lv_l2i (v := 0) hx hb dX13_init_34 (by decide +kernel) ?_
  refine va_iast hx hb hK hP hD hS 1 0 rfl rfl (z_in 2 (by decide) (by decide)) dX13_init_35 (fun H locs hP hD hS => ?_)
  have hP : va_P D vwCl [(h0, .inr (16, [.ref n1])), (n1, .inl (cy 0, 24, .inl (upd (upd (upd (fun _ => 0) (0 : Int32).toNatClampNeg 1000) (1 : Int32).toNatClampNeg 0) (2 : Int32).toNatClampNeg 0)))] H := hP
  have hD : va_D A [(h0, .inr (16, [.ref n1])), (n1, .inl (cy 0, 24, .inl (upd (upd (upd (fun _ => 0) (0 : Int32).toNatClampNeg 1000) (1 : Int32).toNatClampNeg 0) (2 : Int32).toNatClampNeg 0)))] := hD
  refine lv_lload_n hx hb dX13_init_36 rfl (lv_at hl 1 rfl) ?_
  refine lv_bipush (v := 15) hx hb dX13_init_37 (by decide) ?_
  refine lv_lushr (v := 0) hx hb dX13_init_39 (by decide +kernel) ?_
  refine lv_lstore_n (lv' := [(3, .long 0), (5, .int 2), (0, .ref h0), (1, .long 1000)]) hx hb dX13_init_40 rfl hl (by decide) rfl (fun ls hl => ?_)
  refine lv_iinc (v := 3) (lv' := [(5, .int 3), (3, .long 0), (0, .ref h0), (1, .long 1000)]) hx hb dX13_init_41 hl (k := 1) rfl (by decide) (by decide) rfl (fun ls hl => ?_)
  refine lv_goto (tgt := 17) hx hb dX13_init_44 (by decide) ?_
  refine lv_iload hx hb dX13_init_17 (lv_at hl 0 rfl) ?_
  refine lv_iconst (v := 5) hx hb dX13_init_19 (by decide) ?_
  refine lv_icmp_ge (tgt := 47) hx hb dX13_init_20 (by decide) (fun c_20_7 => absurd c_20_7 (by decide +kernel)) (fun _ => ?_)
  refine lv_aload_n hx hb dX13_init_23 rfl (lv_at hl 2 rfl) ?_
  refine va_get (D := D) (ci := 16) (v := .ref n1) (C := RX13) (T := TX13) (N := 1) hx hb hts iRX13 hown hK hP 0 rfl rfl 0 (by decide) (hts _ q311) (fun _ h9 => h9) rfl dX13_init_24 ?_
  refine lv_iload hx hb dX13_init_27 (lv_at hl 0 rfl) ?_
  refine lv_lload_n hx hb dX13_init_29 rfl (lv_at hl 1 rfl) ?_
  refine lv_ldc2 (v := 32767) hx hb hown (hts _ q312) dX13_init_30 ?_
  refine lv_land hx hb dX13_init_33 ?_
  refine lv_topl (fun y9 ey9 => ?_)
  obtain rfl : y9 = 0 := ey9.trans (by decide +kernel)
  refine lv_l2i (v := 0) hx hb dX13_init_34 (by decide +kernel) ?_
  refine va_iast hx hb hK hP hD hS 1 0 rfl rfl (z_in 3 (by decide) (by decide)) dX13_init_35 (fun H locs hP hD hS => ?_)
  have hP : va_P D vwCl [(h0, .inr (16, [.ref n1])), (n1, .inl (cy 0, 24, .inl (upd (upd (upd (upd (fun _ => 0) (0 : Int32).toNatClampNeg 1000) (1 : Int32).toNatClampNeg 0) (2 : Int32).toNatClampNeg 0) (3 : Int32).toNatClampNeg 0)))] H := hP
  have hD : va_D A [(h0, .inr (16, [.ref n1])), (n1, .inl (cy 0, 24, .inl (upd (upd (upd (upd (fun _ => 0) (0 : Int32).toNatClampNeg 1000) (1 : Int32).toNatClampNeg 0) (2 : Int32).toNatClampNeg 0) (3 : Int32).toNatClampNeg 0)))] := hD
  refine lv_lload_n hx hb dX13_init_36 rfl (lv_at hl 1 rfl) ?_
  refine lv_bipush (v := 15) hx hb dX13_init_37 (by decide) ?_
  refine lv_lushr (v := 0) hx hb dX13_init_39 (by decide +kernel) ?_
  refine lv_lstore_n (lv' := [(3, .long 0), (5, .int 3), (0, .ref h0), (1, .long 1000)]) hx hb dX13_init_40 rfl hl (by decide) rfl (fun ls hl => ?_)
  refine lv_iinc (v := 4) (lv' := [(5, .int 4), (3, .long 0), (0, .ref h0), (1, .long 1000)]) hx hb dX13_init_41 hl (k := 1) rfl (by decide) (by decide) rfl (fun ls hl => ?_)
  refine lv_goto (tgt := 17) hx hb dX13_init_44 (by decide) ?_
  refine lv_iload hx hb dX13_init_17 (lv_at hl 0 rfl) ?_
  refine lv_iconst (v := 5) hx hb dX13_init_19 (by decide) ?_
  refine lv_icmp_ge (tgt := 47) hx hb dX13_init_20 (by decide) (fun c_20_9 => absurd c_20_9 (by decide +kernel)) (fun _ => ?_)
  refine lv_aload_n hx hb dX13_init_23 rfl (lv_at hl 2 rfl) ?_
  refine va_get (D := D) (ci := 16) (v := .ref n1) (C := RX13) (T := TX13) (N := 1) hx hb hts iRX13 hown hK hP 0 rfl rfl 0 (by decide) (hts _ q311) (fun _ h9 => h9) rfl dX13_init_24 ?_
  refine lv_iload hx hb dX13_init_27 (lv_at hl 0 rfl) ?_
  refine lv_lload_n hx hb dX13_init_29 rfl (lv_at hl 1 rfl) ?_
  refine lv_ldc2 (v := 32767) hx hb hown (hts _ q312) dX13_init_30 ?_
  refine lv_land hx hb dX13_init_33 ?_
  refine lv_topl (fun y11 ey11 => ?_)
  obtain rfl : y11 = 0 := ey11.trans (by decide +kernel)
  refine lv_l2i (v := 0) hx hb dX13_init_34 (by decide +kernel) ?_
  refine va_iast hx hb hK hP hD hS 1 0 rfl rfl (z_in 4 (by decide) (by decide)) dX13_init_35 (fun H locs hP hD hS => ?_)
  have hP : va_P D vwCl [(h0, .inr (16, [.ref n1])), (n1, .inl (cy 0, 24, .inl (upd (upd (upd (upd (upd (fun _ => 0) (0 : Int32).toNatClampNeg 1000) (1 : Int32).toNatClampNeg 0) (2 : Int32).toNatClampNeg 0) (3 : Int32).toNatClampNeg 0) (4 : Int32).toNatClampNeg 0)))] H := hP
  have hD : va_D A [(h0, .inr (16, [.ref n1])), (n1, .inl (cy 0, 24, .inl (upd (upd (upd (upd (upd (fun _ => 0) (0 : Int32).toNatClampNeg 1000) (1 : Int32).toNatClampNeg 0) (2 : Int32).toNatClampNeg 0) (3 : Int32).toNatClampNeg 0) (4 : Int32).toNatClampNeg 0)))] := hD
  refine lv_lload_n hx hb dX13_init_36 rfl (lv_at hl 1 rfl) ?_
  refine lv_bipush (v := 15) hx hb dX13_init_37 (by decide) ?_
  refine lv_lushr (v := 0) hx hb dX13_init_39 (by decide +kernel) ?_
  refine lv_lstore_n (lv' := [(3, .long 0), (5, .int 4), (0, .ref h0), (1, .long 1000)]) hx hb dX13_init_40 rfl hl (by decide) rfl (fun ls hl => ?_)
  refine lv_iinc (v := 5) (lv' := [(5, .int 5), (3, .long 0), (0, .ref h0), (1, .long 1000)]) hx hb dX13_init_41 hl (k := 1) rfl (by decide) (by decide) rfl (fun ls hl => ?_)
  refine lv_goto (tgt := 17) hx hb dX13_init_44 (by decide) ?_
  refine lv_iload hx hb dX13_init_17 (lv_at hl 0 rfl) ?_
  refine lv_iconst (v := 5) hx hb dX13_init_19 (by decide) ?_
  refine lv_icmp_ge (tgt := 47) hx hb dX13_init_20 (by decide) (fun _ => ?_) (fun c_20_11 => absurd (by decide +kernel) c_20_11)
  obtain ⟨hP, hD⟩ := zP_i (zE 1000) hP hD (q := 1) rfl (by decide +kernel)
  have hP : va_P D vwCl [(h0, .inr (16, [.ref n1])), (n1, .inl (cy 0, 24, .inl (zE 1000)))] H := hP
  have hD : va_D A [(h0, .inr (16, [.ref n1])), (n1, .inl (cy 0, 24, .inl (zE 1000)))] := hD
  have hP9 := hP.sub (ws' := [(h0, .inr (16, [.ref n1])), (n1, .inl (cy 0, 24, .inl (zE 1000)))]) [0, 1] rfl
  have hD9 := hD.sub (ws' := [(h0, .inr (16, [.ref n1])), (n1, .inl (cy 0, 24, .inl (zE 1000)))]) [0, 1] (by decide) rfl
  refine W.widen (k := 1) (n := 24) (Nat.le_of_ble_eq_true rfl) (Nat.le_of_ble_eq_true rfl) ?_
  rw [hQe]
  exact W.vret hx hb hr (fun t ht hW => ⟨⟨n1, rfl, trivial, ⟨by rw [ht]; exact hP9, hD9⟩⟩, hS.F ht⟩) hS.2.2 dX13_init_47
set_option maxHeartbeats 4000000 in
set_option maxRecDepth 100000 in
/-- 0 times 1000 -/
theorem k_times_0_1000 (l : Launch) (D : va_G) (cy : Nat → ClassId) (h0 : Nat) (a0 : Nat) (w0 : Nat) (b0 : Nat) (sz : Nat)  : Met l yX13_times (wz yX13_times cX13_times 9 (some (.object "CavernbookModel$Wide"))) ({ frames := 2, cells := 2, slots := 25, locals := 37 } : Room) (va_Pc [.ref h0, .ref w0] (zPre vwCl D cy [(h0, .inr (16, [.ref a0])), (a0, .inl (cy 0, 24, .inl (zE 0))), (w0, .inr (16, [.ref b0])), (b0, .inl (cy 0, 24, .inl (zE 1000)))] sz)) (va_Qr (fun _ : Nat => True) (fun (u : Nat) (b_ : Nat) t => zPost vwCl D (va_A [(h0, .inr (16, [.ref a0])), (a0, .inl (cy 0, 24, .inl (zE 0))), (w0, .inr (16, [.ref b0])), (b0, .inl (cy 0, 24, .inl (zE 1000)))] sz) [(b_, .inr (16, [.ref u])), (u, .inl (cy 0, 24, .inl (zE 0))), (h0, .inr (16, [.ref a0])), (a0, .inl (cy 0, 24, .inl (zE 0))), (w0, .inr (16, [.ref b0])), (b0, .inl (cy 0, 24, .inl (zE 1000)))] t) (va_A [(h0, .inr (16, [.ref a0])), (a0, .inl (cy 0, 24, .inl (zE 0))), (w0, .inr (16, [.ref b0])), (b0, .inl (cy 0, 24, .inl (zE 1000)))] sz)) 2 25 (va_A [(h0, .inr (16, [.ref a0])), (a0, .inl (cy 0, 24, .inl (zE 0))), (w0, .inr (16, [.ref b0])), (b0, .inl (cy 0, 24, .inl (zE 1000)))] sz) := by
  refine Met.ofW (cc := cX13_times) (maxL := 9) (ret := (some (.object "CavernbookModel$Wide"))) (by decide) rfl ?_
  intro p e s m args below meth c s₁ B hml hv
  obtain ⟨rfl, hsz, hP, hK, hD0, hX, hY⟩ := hv
  have hx := B.exec
  have hb := B.bytes
  have hr := B.returns
  have hts0 := atoms_spec (ws := wz yX13_times cX13_times 9 (some (.object "CavernbookModel$Wide"))) B.pre
  have hts : ∀ w ∈ wAll, w.before _ s = true := fun w h => hts0 w (List.mem_cons_of_mem _ h)
  have hown : s.vm.findClass RX13 = some m.cls := findClass_of_methodNamed B.named
  have hlocks := B.notSynchronized
  subst hsz
  have hD := hD0.self (sz := s.heap.size)
  generalize hAe : va_A [(h0, .inr (16, [.ref a0])), (a0, .inl (cy 0, 24, .inl (zE 0))), (w0, .inr (16, [.ref b0])), (b0, .inl (cy 0, 24, .inl (zE 1000)))] s.heap.size = A at hD hY ⊢
  have hA : ∀ q : Nat, s.heap.size ≤ q → A q := fun q h => by rw [← hAe]; exact Or.inr h
  have hS : va_S A s.heap s.heap [] := va_S.rf
  have hP : va_P D vwCl [(h0, .inr (16, [.ref a0])), (a0, .inl (cy 0, 24, .inl (zE 0))), (w0, .inr (16, [.ref b0])), (b0, .inl (cy 0, 24, .inl (zE 1000)))] s.heap := hP
  have hl := lv_entry ([.ref h0, .ref w0]) (n := 9) (Nat.le_of_ble_eq_true rfl)
  rw [lg_entry_eq]
  generalize (lg_sl ([.ref h0, .ref w0]) ++ List.replicate (9 - (lg_sl ([.ref h0, .ref w0])).length) Slot.unset).toArray = ls at hl ⊢
  have hl : lv_has ls 9 [(0, .ref h0), (1, .ref w0)] := hl
  refine z_anyQ (fun Q hQe => ?_)
  refine va_new (ci := 16) (fs := [.null]) (C := RX13) (T := TX13) (N := 1) hx hb hts iRX13 tyX13 tyX13_ok hown (hts _ q313) (hts _ q314) (hts _ q315) hK hP hD hS hA rfl (fun j hj => by rcases (show j = 0 by omega) with rfl; rfl) (Nat.le_of_ble_eq_true rfl) (Nat.le_of_ble_eq_true rfl) dX13_times_0 (fun n1 H hP hD hS => ?_)
  have hP : va_P D vwCl [(h0, .inr (16, [.ref a0])), (a0, .inl (cy 0, 24, .inl (zE 0))), (w0, .inr (16, [.ref b0])), (b0, .inl (cy 0, 24, .inl (zE 1000))), (n1, .inr (16, [.null]))] H := hP
  have hD : va_D A [(h0, .inr (16, [.ref a0])), (a0, .inl (cy 0, 24, .inl (zE 0))), (w0, .inr (16, [.ref b0])), (b0, .inl (cy 0, 24, .inl (zE 1000))), (n1, .inr (16, [.null]))] := hD
  refine W.widen (k := 1) (n := 1) (by omega) (by omega) ?_
  refine lv_dup hx hb dX13_times_3 rfl ?_
  refine lv_lconst (v := 0) hx hb dX13_times_4 rfl ?_
  refine zq_v (wc := [(n1, .inr (16, [.null]))]) (wr := [(h0, .inr (16, [.ref a0])), (a0, .inl (cy 0, 24, .inl (zE 0))), (w0, .inr (16, [.ref b0])), (b0, .inl (cy 0, 24, .inl (zE 1000)))]) (va_runI (As := [.long 0]) (rest := [.ref n1]) ⟨hx, hb, hml, hown, hts⟩ (k_Wide0 l D cy n1 H.size ) (cwI 1 hts (gz q317) rfl rfl rfl (hts _ q315) (hts _ q316) (hts _ q318) rfl vX13_init.2 ⟨Nat.le_of_ble_eq_true rfl, Nat.le_of_ble_eq_true rfl⟩) (zpS hK hX hY hP hD hS hA [4] (by decide) rfl) rfl rfl hl.1 rfl (lv_room (Nat.le_of_ble_eq_true rfl)) dX13_times_5 ⟨Nat.le_of_ble_eq_true rfl, Nat.le_of_ble_eq_true rfl⟩) hP hD hS hA [4] [0, 1, 2, 3] rfl rfl (by decide) (by decide) (fun u2 H locs hw hP hD hS => ?_)
  have hP : va_P D vwCl [(h0, .inr (16, [.ref a0])), (a0, .inl (cy 0, 24, .inl (zE 0))), (w0, .inr (16, [.ref b0])), (b0, .inl (cy 0, 24, .inl (zE 1000))), (n1, .inr (16, [.ref u2])), (u2, .inl (cy 0, 24, .inl (zE 0)))] H := hP
  have hD : va_D A [(h0, .inr (16, [.ref a0])), (a0, .inl (cy 0, 24, .inl (zE 0))), (w0, .inr (16, [.ref b0])), (b0, .inl (cy 0, 24, .inl (zE 1000))), (n1, .inr (16, [.ref u2])), (u2, .inl (cy 0, 24, .inl (zE 0)))] := hD
  refine W.widen (k := 2) (n := 25) (by omega) (by omega) ?_
  refine lv_astore_n (lv' := [(2, .ref n1), (0, .ref h0), (1, .ref w0)]) hx hb dX13_times_8 rfl hl (by decide) rfl (fun ls hl => ?_)
  refine lv_iconst (v := 0) hx hb dX13_times_9 (by decide) ?_
  refine lv_istore_n (lv' := [(3, .int 0), (2, .ref n1), (0, .ref h0), (1, .ref w0)]) hx hb dX13_times_10 rfl hl (by decide) rfl (fun ls hl => ?_)
  obtain ⟨hP, hD⟩ := zP_i (zT 0 0) hP hD (q := 5) rfl (z_t0 0)
  have hP : va_P D vwCl [(h0, .inr (16, [.ref a0])), (a0, .inl (cy 0, 24, .inl (zE 0))), (w0, .inr (16, [.ref b0])), (b0, .inl (cy 0, 24, .inl (zE 1000))), (n1, .inr (16, [.ref u2])), (u2, .inl (cy 0, 24, .inl (zT 0 0)))] H := hP
  have hD : va_D A [(h0, .inr (16, [.ref a0])), (a0, .inl (cy 0, 24, .inl (zE 0))), (w0, .inr (16, [.ref b0])), (b0, .inl (cy 0, 24, .inl (zE 1000))), (n1, .inr (16, [.ref u2])), (u2, .inl (cy 0, 24, .inl (zT 0 0)))] := hD
  have lp11_4 : ∀ (n i : Nat), i ≤ 24 → 24 + 1 ≤ i + n → ∀ (H : Heap) (locs : List Loc), va_P D vwCl [(h0, .inr (16, [.ref a0])), (a0, .inl (cy 0, 24, .inl (zE 0))), (w0, .inr (16, [.ref b0])), (b0, .inl (cy 0, 24, .inl (zE 1000))), (n1, .inr (16, [.ref u2])), (u2, .inl (cy 0, 24, .inl (zT 0 i)))] H → va_D A [(h0, .inr (16, [.ref a0])), (a0, .inl (cy 0, 24, .inl (zE 0))), (w0, .inr (16, [.ref b0])), (b0, .inl (cy 0, 24, .inl (zE 1000))), (n1, .inr (16, [.ref u2])), (u2, .inl (cy 0, 24, .inl (zT 0 i)))] → va_S A s.heap H locs → ∀ ls, lv_has ls 9 [(0, .ref h0), (1, .ref w0), (2, .ref n1), (3, .int (nI i))] → W p l e (headSpec (wz yX13_times cX13_times 9 (some (.object "CavernbookModel$Wide"))) ({ frames := 2, cells := 2, slots := 25, locals := 37 } : Room)).room s m ([.ref h0, .ref w0] : List Value).toArray below meth c H locs 2 25 Q (F0 m 11 ls []) := by
    intro n
    induction n with
    | zero => intro i h1 h2; exact absurd h2 (by omega)
    | succ n ih11 =>
      intro i hii hni H locs hP hD hS ls hl
      refine lv_iload_n hx hb dX13_times_11 rfl (lv_at hl 3 rfl) ?_
      refine lv_bipush (v := 24) hx hb dX13_times_12 (by decide) ?_
      refine lv_icmp_ge (tgt := 99) hx hb dX13_times_14 (by decide) (fun c_14_4 => ?_) (fun c_14_4 => ?_)
      · skip
        have hE : i = 24 := z_ge (N := 24) (by decide) hii (by decide) c_14_4
        subst hE
        have hl : lv_has ls 9 [(0, .ref h0), (1, .ref w0), (2, .ref n1), (3, .int 24)] := hl
        obtain ⟨hP, hD⟩ := zP_i (zE 0) hP hD (q := 5) rfl (z_t9 0 (by omega))
        have hP : va_P D vwCl [(h0, .inr (16, [.ref a0])), (a0, .inl (cy 0, 24, .inl (zE 0))), (w0, .inr (16, [.ref b0])), (b0, .inl (cy 0, 24, .inl (zE 1000))), (n1, .inr (16, [.ref u2])), (u2, .inl (cy 0, 24, .inl (zE 0)))] H := hP
        have hD : va_D A [(h0, .inr (16, [.ref a0])), (a0, .inl (cy 0, 24, .inl (zE 0))), (w0, .inr (16, [.ref b0])), (b0, .inl (cy 0, 24, .inl (zE 1000))), (n1, .inr (16, [.ref u2])), (u2, .inl (cy 0, 24, .inl (zE 0)))] := hD
        refine lv_aload_n hx hb dX13_times_99 rfl (lv_at hl 2 rfl) ?_
        have hP9 := hP.sub (ws' := [(n1, .inr (16, [.ref u2])), (u2, .inl (cy 0, 24, .inl (zE 0))), (h0, .inr (16, [.ref a0])), (a0, .inl (cy 0, 24, .inl (zE 0))), (w0, .inr (16, [.ref b0])), (b0, .inl (cy 0, 24, .inl (zE 1000)))]) [4, 5, 0, 1, 2, 3] rfl
        have hD9 := hD.sub (ws' := [(n1, .inr (16, [.ref u2])), (u2, .inl (cy 0, 24, .inl (zE 0))), (h0, .inr (16, [.ref a0])), (a0, .inl (cy 0, 24, .inl (zE 0))), (w0, .inr (16, [.ref b0])), (b0, .inl (cy 0, 24, .inl (zE 1000)))]) [4, 5, 0, 1, 2, 3] (by decide) rfl
        refine W.widen (k := 2) (n := 25) (Nat.le_of_ble_eq_true rfl) (Nat.le_of_ble_eq_true rfl) ?_
        rw [hQe]
        exact W.aret (v := .ref n1) (rt := (.object "CavernbookModel$Wide")) hx hb hr (Or.inl ⟨_, rfl⟩) (Or.inr ⟨_, rfl⟩) (fun t ht hW => ⟨⟨u2, n1, rfl, trivial, ⟨by rw [ht]; exact hP9, hD9⟩⟩, hS.F ht⟩) hS.2.2 dX13_times_100
      · skip
        have hlti : i < 24 := z_lt (N := 24) (by decide) hii (by decide) c_14_4
        refine lv_lconst (v := 0) hx hb dX13_times_17 rfl ?_
        refine lv_lstore (lv' := [(4, .long 0), (0, .ref h0), (1, .ref w0), (2, .ref n1), (3, .int (nI i))]) hx hb dX13_times_18 hl (by decide) rfl (fun ls hl => ?_)
        refine lv_iconst (v := 0) hx hb dX13_times_20 (by decide) ?_
        refine lv_istore (lv' := [(6, .int 0), (4, .long 0), (0, .ref h0), (1, .ref w0), (2, .ref n1), (3, .int (nI i))]) hx hb dX13_times_21 hl (by decide) rfl (fun ls hl => ?_)
        obtain ⟨hP, hD⟩ := zP_i (zT 0 (i + 0)) hP hD (q := 5) rfl (fun j _ => rfl)
        have hP : va_P D vwCl [(h0, .inr (16, [.ref a0])), (a0, .inl (cy 0, 24, .inl (zE 0))), (w0, .inr (16, [.ref b0])), (b0, .inl (cy 0, 24, .inl (zE 1000))), (n1, .inr (16, [.ref u2])), (u2, .inl (cy 0, 24, .inl (zT 0 (i + 0))))] H := hP
        have hD : va_D A [(h0, .inr (16, [.ref a0])), (a0, .inl (cy 0, 24, .inl (zE 0))), (w0, .inr (16, [.ref b0])), (b0, .inl (cy 0, 24, .inl (zE 1000))), (n1, .inr (16, [.ref u2])), (u2, .inl (cy 0, 24, .inl (zT 0 (i + 0))))] := hD
        have lp23_6 : ∀ (n k : Nat), k ≤ (24 - i) → (24 - i) + 1 ≤ k + n → ∀ (H : Heap) (locs : List Loc), va_P D vwCl [(h0, .inr (16, [.ref a0])), (a0, .inl (cy 0, 24, .inl (zE 0))), (w0, .inr (16, [.ref b0])), (b0, .inl (cy 0, 24, .inl (zE 1000))), (n1, .inr (16, [.ref u2])), (u2, .inl (cy 0, 24, .inl (zT 0 (i + k))))] H → va_D A [(h0, .inr (16, [.ref a0])), (a0, .inl (cy 0, 24, .inl (zE 0))), (w0, .inr (16, [.ref b0])), (b0, .inl (cy 0, 24, .inl (zE 1000))), (n1, .inr (16, [.ref u2])), (u2, .inl (cy 0, 24, .inl (zT 0 (i + k))))] → va_S A s.heap H locs → ∀ ls, lv_has ls 9 [(0, .ref h0), (1, .ref w0), (2, .ref n1), (3, .int (nI i)), (4, .long 0), (6, .int (nI k))] → W p l e (headSpec (wz yX13_times cX13_times 9 (some (.object "CavernbookModel$Wide"))) ({ frames := 2, cells := 2, slots := 25, locals := 37 } : Room)).room s m ([.ref h0, .ref w0] : List Value).toArray below meth c H locs 2 25 Q (F0 m 23 ls []) := by
          intro n
          induction n with
          | zero => intro k h1 h2; exact absurd h2 (by omega)
          | succ n ih23 =>
            intro k hik hnk H locs hP hD hS ls hl
            refine lv_iload hx hb dX13_times_23 (lv_at hl 5 rfl) ?_
            refine lv_iload_n hx hb dX13_times_25 rfl (lv_at hl 3 rfl) ?_
            refine lv_iadd hx hb dX13_times_26 ?_
            refine lv_topi (fun y7 ey7 => ?_)
            obtain rfl : y7 = (nI (k + i)) := ey7.trans (nI_add k i)
            refine lv_bipush (v := 24) hx hb dX13_times_27 (by decide) ?_
            refine lv_icmp_ge (tgt := 93) hx hb dX13_times_29 (by decide) (fun c_29_7 => ?_) (fun c_29_7 => ?_)
            · skip
              have hE : k = (24 - i) := (z_ge2 hik hlti c_29_7)
              subst hE
              have hl : lv_has ls 9 [(0, .ref h0), (1, .ref w0), (2, .ref n1), (3, .int (nI i)), (4, .long 0), (6, .int (nI (24 - i)))] := hl
              refine lv_iinc (v := (nI (i + 1))) (lv' := [(3, .int (nI (i + 1))), (0, .ref h0), (1, .ref w0), (2, .ref n1), (4, .long 0), (6, .int (nI (24 - i)))]) hx hb dX13_times_93 hl (k := 3) rfl (z_n1 i) (by decide) rfl (fun ls hl => ?_)
              refine lv_goto (tgt := 11) hx hb dX13_times_96 (by decide) ?_
              obtain ⟨hP, hD⟩ := zP_i (zT 0 (i + 1)) hP hD (q := 5) rfl (z_tt (by omega) (by omega))
              have hP : va_P D vwCl [(h0, .inr (16, [.ref a0])), (a0, .inl (cy 0, 24, .inl (zE 0))), (w0, .inr (16, [.ref b0])), (b0, .inl (cy 0, 24, .inl (zE 1000))), (n1, .inr (16, [.ref u2])), (u2, .inl (cy 0, 24, .inl (zT 0 (i + 1))))] H := hP
              have hD : va_D A [(h0, .inr (16, [.ref a0])), (a0, .inl (cy 0, 24, .inl (zE 0))), (w0, .inr (16, [.ref b0])), (b0, .inl (cy 0, 24, .inl (zE 1000))), (n1, .inr (16, [.ref u2])), (u2, .inl (cy 0, 24, .inl (zT 0 (i + 1))))] := hD
              exact ih11 (i + 1) (by omega) (by omega) _ _ (hP.sub [0, 1, 2, 3, 4, 5] rfl) (hD.sub [0, 1, 2, 3, 4, 5] (by decide) rfl) hS ls (lv_sub hl [1, 2, 3, 0] rfl)
            · skip
              have hltk : k < (24 - i) := (z_lt2 hik hlti c_29_7)
              refine lv_aload_n hx hb dX13_times_32 rfl (lv_at hl 2 rfl) ?_
              refine va_get (D := D) (ci := 16) (v := .ref u2) (C := RX13) (T := TX13) (N := 1) hx hb hts iRX13 hown hK hP 4 rfl rfl 0 (by decide) (hts _ q311) (fun _ h9 => h9) rfl dX13_times_33 ?_
              refine lv_iload_n hx hb dX13_times_36 rfl (lv_at hl 3 rfl) ?_
              refine lv_iload hx hb dX13_times_37 (lv_at hl 5 rfl) ?_
              refine lv_iadd hx hb dX13_times_39 ?_
              refine lv_topi (fun y9 ey9 => ?_)
              obtain rfl : y9 = (nI (i + k)) := ey9.trans (nI_add i k)
              refine va_iald hx hb hK hP 5 0 rfl rfl (vp_in_nI (by omega) (by decide)) dX13_times_40 ?_
              refine lv_topi (fun y10 ey10 => ?_)
              obtain rfl : y10 = 0 := ey10.trans (z_tv 0 (nI_clamp (by omega)))
              refine lv_i2l (v := 0) hx hb dX13_times_41 (by decide) ?_
              refine lv_aload_n hx hb dX13_times_42 rfl (lv_at hl 0 rfl) ?_
              refine va_get (D := D) (ci := 16) (v := .ref a0) (C := RX13) (T := TX13) (N := 1) hx hb hts iRX13 hown hK hP 0 rfl rfl 0 (by decide) (hts _ q311) (fun _ h9 => h9) rfl dX13_times_43 ?_
              refine lv_iload_n hx hb dX13_times_46 rfl (lv_at hl 3 rfl) ?_
              refine va_iald hx hb hK hP 1 0 rfl rfl (vp_in_nI (by omega) (by decide)) dX13_times_47 ?_
              refine lv_topi (fun y11 ey11 => ?_)
              obtain rfl : y11 = (zE 0 i) := ey11.trans (congrArg (zE 0) (nI_clamp (by omega)))
              refine lv_i2l (v := ((zE 0 i)).toInt64) hx hb dX13_times_48 rfl ?_
              refine lv_aload_n hx hb dX13_times_49 rfl (lv_at hl 1 rfl) ?_
              refine va_get (D := D) (ci := 16) (v := .ref b0) (C := RX13) (T := TX13) (N := 1) hx hb hts iRX13 hown hK hP 2 rfl rfl 0 (by decide) (hts _ q311) (fun _ h9 => h9) rfl dX13_times_50 ?_
              refine lv_iload hx hb dX13_times_53 (lv_at hl 5 rfl) ?_
              refine va_iald hx hb hK hP 3 0 rfl rfl (vp_in_nI (by omega) (by decide)) dX13_times_55 ?_
              refine lv_topi (fun y12 ey12 => ?_)
              obtain rfl : y12 = (zE 1000 k) := ey12.trans (congrArg (zE 1000) (nI_clamp (by omega)))
              refine lv_i2l (v := ((zE 1000 k)).toInt64) hx hb dX13_times_56 rfl ?_
              refine lv_lmul hx hb dX13_times_57 ?_
              refine lv_topl (fun y13 ey13 => ?_)
              obtain rfl : y13 = (zM 0 (i + k)) := ey13.trans (z_tm (by decide +kernel) i k)
              refine lv_ladd hx hb dX13_times_58 ?_
              refine lv_topl (fun y14 ey14 => ?_)
              obtain rfl : y14 = (zM 0 (i + k)) := ey14.trans (z_0l _)
              refine lv_lload hx hb dX13_times_59 (lv_at hl 4 rfl) ?_
              refine lv_ladd hx hb dX13_times_61 ?_
              refine lv_topl (fun y15 ey15 => ?_)
              obtain rfl : y15 = (zM 0 (i + k)) := ey15.trans (z_l0 _)
              refine lv_lstore (lv' := [(7, .long (zM 0 (i + k))), (0, .ref h0), (1, .ref w0), (2, .ref n1), (3, .int (nI i)), (4, .long 0), (6, .int (nI k))]) hx hb dX13_times_62 hl (by decide) rfl (fun ls hl => ?_)
              refine lv_aload_n hx hb dX13_times_64 rfl (lv_at hl 3 rfl) ?_
              refine va_get (D := D) (ci := 16) (v := .ref u2) (C := RX13) (T := TX13) (N := 1) hx hb hts iRX13 hown hK hP 4 rfl rfl 0 (by decide) (hts _ q311) (fun _ h9 => h9) rfl dX13_times_65 ?_
              refine lv_iload_n hx hb dX13_times_68 rfl (lv_at hl 4 rfl) ?_
              refine lv_iload hx hb dX13_times_69 (lv_at hl 6 rfl) ?_
              refine lv_iadd hx hb dX13_times_71 ?_
              refine lv_topi (fun y16 ey16 => ?_)
              obtain rfl : y16 = (nI (i + k)) := ey16.trans (nI_add i k)
              refine lv_lload hx hb dX13_times_72 (lv_at hl 0 rfl) ?_
              refine lv_ldc2 (v := 32767) hx hb hown (hts _ q312) dX13_times_74 ?_
              refine lv_land hx hb dX13_times_77 ?_
              refine lv_topl (fun y17 ey17 => ?_)
              obtain rfl : y17 = (zM 0 (i + k)) := ey17.trans (z_ta (by decide +kernel) _)
              refine lv_l2i (v := (zm 0 (i + k))) hx hb dX13_times_78 (z_tb (by decide +kernel) _) ?_
              refine va_iast hx hb hK hP hD hS 5 0 rfl rfl (vp_in_nI (by omega) (by decide)) dX13_times_79 (fun H locs hP hD hS => ?_)
              have hP : va_P D vwCl [(h0, .inr (16, [.ref a0])), (a0, .inl (cy 0, 24, .inl (zE 0))), (w0, .inr (16, [.ref b0])), (b0, .inl (cy 0, 24, .inl (zE 1000))), (n1, .inr (16, [.ref u2])), (u2, .inl (cy 0, 24, .inl (upd (zT 0 (i + k)) (nI (i + k)).toNatClampNeg (zm 0 (i + k)))))] H := hP
              have hD : va_D A [(h0, .inr (16, [.ref a0])), (a0, .inl (cy 0, 24, .inl (zE 0))), (w0, .inr (16, [.ref b0])), (b0, .inl (cy 0, 24, .inl (zE 1000))), (n1, .inr (16, [.ref u2])), (u2, .inl (cy 0, 24, .inl (upd (zT 0 (i + k)) (nI (i + k)).toNatClampNeg (zm 0 (i + k)))))] := hD
              refine lv_lload hx hb dX13_times_80 (lv_at hl 0 rfl) ?_
              refine lv_bipush (v := 15) hx hb dX13_times_82 (by decide) ?_
              refine lv_lshr (v := 0) hx hb dX13_times_84 (z_ts (by decide +kernel) _) ?_
              refine lv_lstore (lv' := [(4, .long 0), (7, .long (zM 0 (i + k))), (0, .ref h0), (1, .ref w0), (2, .ref n1), (3, .int (nI i)), (6, .int (nI k))]) hx hb dX13_times_85 hl (by decide) rfl (fun ls hl => ?_)
              refine lv_iinc (v := (nI (k + 1))) (lv' := [(6, .int (nI (k + 1))), (4, .long 0), (7, .long (zM 0 (i + k))), (0, .ref h0), (1, .ref w0), (2, .ref n1), (3, .int (nI i))]) hx hb dX13_times_87 hl (k := 6) rfl (z_n1 k) (by decide) rfl (fun ls hl => ?_)
              refine lv_goto (tgt := 23) hx hb dX13_times_90 (by decide) ?_
              obtain ⟨hP, hD⟩ := zP_i (zT 0 (i + (k + 1))) hP hD (q := 5) rfl (z_tu 0 (by omega))
              have hP : va_P D vwCl [(h0, .inr (16, [.ref a0])), (a0, .inl (cy 0, 24, .inl (zE 0))), (w0, .inr (16, [.ref b0])), (b0, .inl (cy 0, 24, .inl (zE 1000))), (n1, .inr (16, [.ref u2])), (u2, .inl (cy 0, 24, .inl (zT 0 (i + (k + 1)))))] H := hP
              have hD : va_D A [(h0, .inr (16, [.ref a0])), (a0, .inl (cy 0, 24, .inl (zE 0))), (w0, .inr (16, [.ref b0])), (b0, .inl (cy 0, 24, .inl (zE 1000))), (n1, .inr (16, [.ref u2])), (u2, .inl (cy 0, 24, .inl (zT 0 (i + (k + 1)))))] := hD
              exact ih23 (k + 1) (by omega) (by omega) _ _ (hP.sub [0, 1, 2, 3, 4, 5] rfl) (hD.sub [0, 1, 2, 3, 4, 5] (by decide) rfl) hS ls (lv_sub hl [3, 4, 5, 6, 1, 0] rfl)
        exact lp23_6 ((24 - i) + 1) 0 (by omega) (by omega) _ _ hP hD hS ls (lv_sub hl [2, 3, 4, 5, 1, 0] rfl)
  exact lp11_4 (24 + 1) 0 (by decide) (by decide) _ _ hP hD hS ls (lv_sub hl [2, 3, 1, 0] rfl)
set_option maxHeartbeats 4000000 in
set_option maxRecDepth 100000 in
/-- 1 times 1 -/
theorem k_times_1_1 (l : Launch) (D : va_G) (cy : Nat → ClassId) (h0 : Nat) (a0 : Nat) (w0 : Nat) (b0 : Nat) (sz : Nat)  : Met l yX13_times (wz yX13_times cX13_times 9 (some (.object "CavernbookModel$Wide"))) ({ frames := 2, cells := 2, slots := 25, locals := 37 } : Room) (va_Pc [.ref h0, .ref w0] (zPre vwCl D cy [(h0, .inr (16, [.ref a0])), (a0, .inl (cy 0, 24, .inl (zE 1))), (w0, .inr (16, [.ref b0])), (b0, .inl (cy 0, 24, .inl (zE 1)))] sz)) (va_Qr (fun _ : Nat => True) (fun (u : Nat) (b_ : Nat) t => zPost vwCl D (va_A [(h0, .inr (16, [.ref a0])), (a0, .inl (cy 0, 24, .inl (zE 1))), (w0, .inr (16, [.ref b0])), (b0, .inl (cy 0, 24, .inl (zE 1)))] sz) [(b_, .inr (16, [.ref u])), (u, .inl (cy 0, 24, .inl (zE 1))), (h0, .inr (16, [.ref a0])), (a0, .inl (cy 0, 24, .inl (zE 1))), (w0, .inr (16, [.ref b0])), (b0, .inl (cy 0, 24, .inl (zE 1)))] t) (va_A [(h0, .inr (16, [.ref a0])), (a0, .inl (cy 0, 24, .inl (zE 1))), (w0, .inr (16, [.ref b0])), (b0, .inl (cy 0, 24, .inl (zE 1)))] sz)) 2 25 (va_A [(h0, .inr (16, [.ref a0])), (a0, .inl (cy 0, 24, .inl (zE 1))), (w0, .inr (16, [.ref b0])), (b0, .inl (cy 0, 24, .inl (zE 1)))] sz) := by
  refine Met.ofW (cc := cX13_times) (maxL := 9) (ret := (some (.object "CavernbookModel$Wide"))) (by decide) rfl ?_
  intro p e s m args below meth c s₁ B hml hv
  obtain ⟨rfl, hsz, hP, hK, hD0, hX, hY⟩ := hv
  have hx := B.exec
  have hb := B.bytes
  have hr := B.returns
  have hts0 := atoms_spec (ws := wz yX13_times cX13_times 9 (some (.object "CavernbookModel$Wide"))) B.pre
  have hts : ∀ w ∈ wAll, w.before _ s = true := fun w h => hts0 w (List.mem_cons_of_mem _ h)
  have hown : s.vm.findClass RX13 = some m.cls := findClass_of_methodNamed B.named
  have hlocks := B.notSynchronized
  subst hsz
  have hD := hD0.self (sz := s.heap.size)
  generalize hAe : va_A [(h0, .inr (16, [.ref a0])), (a0, .inl (cy 0, 24, .inl (zE 1))), (w0, .inr (16, [.ref b0])), (b0, .inl (cy 0, 24, .inl (zE 1)))] s.heap.size = A at hD hY ⊢
  have hA : ∀ q : Nat, s.heap.size ≤ q → A q := fun q h => by rw [← hAe]; exact Or.inr h
  have hS : va_S A s.heap s.heap [] := va_S.rf
  have hP : va_P D vwCl [(h0, .inr (16, [.ref a0])), (a0, .inl (cy 0, 24, .inl (zE 1))), (w0, .inr (16, [.ref b0])), (b0, .inl (cy 0, 24, .inl (zE 1)))] s.heap := hP
  have hl := lv_entry ([.ref h0, .ref w0]) (n := 9) (Nat.le_of_ble_eq_true rfl)
  rw [lg_entry_eq]
  generalize (lg_sl ([.ref h0, .ref w0]) ++ List.replicate (9 - (lg_sl ([.ref h0, .ref w0])).length) Slot.unset).toArray = ls at hl ⊢
  have hl : lv_has ls 9 [(0, .ref h0), (1, .ref w0)] := hl
  refine z_anyQ (fun Q hQe => ?_)
  refine va_new (ci := 16) (fs := [.null]) (C := RX13) (T := TX13) (N := 1) hx hb hts iRX13 tyX13 tyX13_ok hown (hts _ q313) (hts _ q314) (hts _ q315) hK hP hD hS hA rfl (fun j hj => by rcases (show j = 0 by omega) with rfl; rfl) (Nat.le_of_ble_eq_true rfl) (Nat.le_of_ble_eq_true rfl) dX13_times_0 (fun n1 H hP hD hS => ?_)
  have hP : va_P D vwCl [(h0, .inr (16, [.ref a0])), (a0, .inl (cy 0, 24, .inl (zE 1))), (w0, .inr (16, [.ref b0])), (b0, .inl (cy 0, 24, .inl (zE 1))), (n1, .inr (16, [.null]))] H := hP
  have hD : va_D A [(h0, .inr (16, [.ref a0])), (a0, .inl (cy 0, 24, .inl (zE 1))), (w0, .inr (16, [.ref b0])), (b0, .inl (cy 0, 24, .inl (zE 1))), (n1, .inr (16, [.null]))] := hD
  refine W.widen (k := 1) (n := 1) (by omega) (by omega) ?_
  refine lv_dup hx hb dX13_times_3 rfl ?_
  refine lv_lconst (v := 0) hx hb dX13_times_4 rfl ?_
  refine zq_v (wc := [(n1, .inr (16, [.null]))]) (wr := [(h0, .inr (16, [.ref a0])), (a0, .inl (cy 0, 24, .inl (zE 1))), (w0, .inr (16, [.ref b0])), (b0, .inl (cy 0, 24, .inl (zE 1)))]) (va_runI (As := [.long 0]) (rest := [.ref n1]) ⟨hx, hb, hml, hown, hts⟩ (k_Wide0 l D cy n1 H.size ) (cwI 1 hts (gz q317) rfl rfl rfl (hts _ q315) (hts _ q316) (hts _ q318) rfl vX13_init.2 ⟨Nat.le_of_ble_eq_true rfl, Nat.le_of_ble_eq_true rfl⟩) (zpS hK hX hY hP hD hS hA [4] (by decide) rfl) rfl rfl hl.1 rfl (lv_room (Nat.le_of_ble_eq_true rfl)) dX13_times_5 ⟨Nat.le_of_ble_eq_true rfl, Nat.le_of_ble_eq_true rfl⟩) hP hD hS hA [4] [0, 1, 2, 3] rfl rfl (by decide) (by decide) (fun u2 H locs hw hP hD hS => ?_)
  have hP : va_P D vwCl [(h0, .inr (16, [.ref a0])), (a0, .inl (cy 0, 24, .inl (zE 1))), (w0, .inr (16, [.ref b0])), (b0, .inl (cy 0, 24, .inl (zE 1))), (n1, .inr (16, [.ref u2])), (u2, .inl (cy 0, 24, .inl (zE 0)))] H := hP
  have hD : va_D A [(h0, .inr (16, [.ref a0])), (a0, .inl (cy 0, 24, .inl (zE 1))), (w0, .inr (16, [.ref b0])), (b0, .inl (cy 0, 24, .inl (zE 1))), (n1, .inr (16, [.ref u2])), (u2, .inl (cy 0, 24, .inl (zE 0)))] := hD
  refine W.widen (k := 2) (n := 25) (by omega) (by omega) ?_
  refine lv_astore_n (lv' := [(2, .ref n1), (0, .ref h0), (1, .ref w0)]) hx hb dX13_times_8 rfl hl (by decide) rfl (fun ls hl => ?_)
  refine lv_iconst (v := 0) hx hb dX13_times_9 (by decide) ?_
  refine lv_istore_n (lv' := [(3, .int 0), (2, .ref n1), (0, .ref h0), (1, .ref w0)]) hx hb dX13_times_10 rfl hl (by decide) rfl (fun ls hl => ?_)
  obtain ⟨hP, hD⟩ := zP_i (zT 1 0) hP hD (q := 5) rfl (z_t0 1)
  have hP : va_P D vwCl [(h0, .inr (16, [.ref a0])), (a0, .inl (cy 0, 24, .inl (zE 1))), (w0, .inr (16, [.ref b0])), (b0, .inl (cy 0, 24, .inl (zE 1))), (n1, .inr (16, [.ref u2])), (u2, .inl (cy 0, 24, .inl (zT 1 0)))] H := hP
  have hD : va_D A [(h0, .inr (16, [.ref a0])), (a0, .inl (cy 0, 24, .inl (zE 1))), (w0, .inr (16, [.ref b0])), (b0, .inl (cy 0, 24, .inl (zE 1))), (n1, .inr (16, [.ref u2])), (u2, .inl (cy 0, 24, .inl (zT 1 0)))] := hD
  have lp11_4 : ∀ (n i : Nat), i ≤ 24 → 24 + 1 ≤ i + n → ∀ (H : Heap) (locs : List Loc), va_P D vwCl [(h0, .inr (16, [.ref a0])), (a0, .inl (cy 0, 24, .inl (zE 1))), (w0, .inr (16, [.ref b0])), (b0, .inl (cy 0, 24, .inl (zE 1))), (n1, .inr (16, [.ref u2])), (u2, .inl (cy 0, 24, .inl (zT 1 i)))] H → va_D A [(h0, .inr (16, [.ref a0])), (a0, .inl (cy 0, 24, .inl (zE 1))), (w0, .inr (16, [.ref b0])), (b0, .inl (cy 0, 24, .inl (zE 1))), (n1, .inr (16, [.ref u2])), (u2, .inl (cy 0, 24, .inl (zT 1 i)))] → va_S A s.heap H locs → ∀ ls, lv_has ls 9 [(0, .ref h0), (1, .ref w0), (2, .ref n1), (3, .int (nI i))] → W p l e (headSpec (wz yX13_times cX13_times 9 (some (.object "CavernbookModel$Wide"))) ({ frames := 2, cells := 2, slots := 25, locals := 37 } : Room)).room s m ([.ref h0, .ref w0] : List Value).toArray below meth c H locs 2 25 Q (F0 m 11 ls []) := by
    intro n
    induction n with
    | zero => intro i h1 h2; exact absurd h2 (by omega)
    | succ n ih11 =>
      intro i hii hni H locs hP hD hS ls hl
      refine lv_iload_n hx hb dX13_times_11 rfl (lv_at hl 3 rfl) ?_
      refine lv_bipush (v := 24) hx hb dX13_times_12 (by decide) ?_
      refine lv_icmp_ge (tgt := 99) hx hb dX13_times_14 (by decide) (fun c_14_4 => ?_) (fun c_14_4 => ?_)
      · skip
        have hE : i = 24 := z_ge (N := 24) (by decide) hii (by decide) c_14_4
        subst hE
        have hl : lv_has ls 9 [(0, .ref h0), (1, .ref w0), (2, .ref n1), (3, .int 24)] := hl
        obtain ⟨hP, hD⟩ := zP_i (zE 1) hP hD (q := 5) rfl (z_t9 1 (by omega))
        have hP : va_P D vwCl [(h0, .inr (16, [.ref a0])), (a0, .inl (cy 0, 24, .inl (zE 1))), (w0, .inr (16, [.ref b0])), (b0, .inl (cy 0, 24, .inl (zE 1))), (n1, .inr (16, [.ref u2])), (u2, .inl (cy 0, 24, .inl (zE 1)))] H := hP
        have hD : va_D A [(h0, .inr (16, [.ref a0])), (a0, .inl (cy 0, 24, .inl (zE 1))), (w0, .inr (16, [.ref b0])), (b0, .inl (cy 0, 24, .inl (zE 1))), (n1, .inr (16, [.ref u2])), (u2, .inl (cy 0, 24, .inl (zE 1)))] := hD
        refine lv_aload_n hx hb dX13_times_99 rfl (lv_at hl 2 rfl) ?_
        have hP9 := hP.sub (ws' := [(n1, .inr (16, [.ref u2])), (u2, .inl (cy 0, 24, .inl (zE 1))), (h0, .inr (16, [.ref a0])), (a0, .inl (cy 0, 24, .inl (zE 1))), (w0, .inr (16, [.ref b0])), (b0, .inl (cy 0, 24, .inl (zE 1)))]) [4, 5, 0, 1, 2, 3] rfl
        have hD9 := hD.sub (ws' := [(n1, .inr (16, [.ref u2])), (u2, .inl (cy 0, 24, .inl (zE 1))), (h0, .inr (16, [.ref a0])), (a0, .inl (cy 0, 24, .inl (zE 1))), (w0, .inr (16, [.ref b0])), (b0, .inl (cy 0, 24, .inl (zE 1)))]) [4, 5, 0, 1, 2, 3] (by decide) rfl
        refine W.widen (k := 2) (n := 25) (Nat.le_of_ble_eq_true rfl) (Nat.le_of_ble_eq_true rfl) ?_
        rw [hQe]
        exact W.aret (v := .ref n1) (rt := (.object "CavernbookModel$Wide")) hx hb hr (Or.inl ⟨_, rfl⟩) (Or.inr ⟨_, rfl⟩) (fun t ht hW => ⟨⟨u2, n1, rfl, trivial, ⟨by rw [ht]; exact hP9, hD9⟩⟩, hS.F ht⟩) hS.2.2 dX13_times_100
      · skip
        have hlti : i < 24 := z_lt (N := 24) (by decide) hii (by decide) c_14_4
        refine lv_lconst (v := 0) hx hb dX13_times_17 rfl ?_
        refine lv_lstore (lv' := [(4, .long 0), (0, .ref h0), (1, .ref w0), (2, .ref n1), (3, .int (nI i))]) hx hb dX13_times_18 hl (by decide) rfl (fun ls hl => ?_)
        refine lv_iconst (v := 0) hx hb dX13_times_20 (by decide) ?_
        refine lv_istore (lv' := [(6, .int 0), (4, .long 0), (0, .ref h0), (1, .ref w0), (2, .ref n1), (3, .int (nI i))]) hx hb dX13_times_21 hl (by decide) rfl (fun ls hl => ?_)
        obtain ⟨hP, hD⟩ := zP_i (zT 1 (i + 0)) hP hD (q := 5) rfl (fun j _ => rfl)
        have hP : va_P D vwCl [(h0, .inr (16, [.ref a0])), (a0, .inl (cy 0, 24, .inl (zE 1))), (w0, .inr (16, [.ref b0])), (b0, .inl (cy 0, 24, .inl (zE 1))), (n1, .inr (16, [.ref u2])), (u2, .inl (cy 0, 24, .inl (zT 1 (i + 0))))] H := hP
        have hD : va_D A [(h0, .inr (16, [.ref a0])), (a0, .inl (cy 0, 24, .inl (zE 1))), (w0, .inr (16, [.ref b0])), (b0, .inl (cy 0, 24, .inl (zE 1))), (n1, .inr (16, [.ref u2])), (u2, .inl (cy 0, 24, .inl (zT 1 (i + 0))))] := hD
        have lp23_6 : ∀ (n k : Nat), k ≤ (24 - i) → (24 - i) + 1 ≤ k + n → ∀ (H : Heap) (locs : List Loc), va_P D vwCl [(h0, .inr (16, [.ref a0])), (a0, .inl (cy 0, 24, .inl (zE 1))), (w0, .inr (16, [.ref b0])), (b0, .inl (cy 0, 24, .inl (zE 1))), (n1, .inr (16, [.ref u2])), (u2, .inl (cy 0, 24, .inl (zT 1 (i + k))))] H → va_D A [(h0, .inr (16, [.ref a0])), (a0, .inl (cy 0, 24, .inl (zE 1))), (w0, .inr (16, [.ref b0])), (b0, .inl (cy 0, 24, .inl (zE 1))), (n1, .inr (16, [.ref u2])), (u2, .inl (cy 0, 24, .inl (zT 1 (i + k))))] → va_S A s.heap H locs → ∀ ls, lv_has ls 9 [(0, .ref h0), (1, .ref w0), (2, .ref n1), (3, .int (nI i)), (4, .long 0), (6, .int (nI k))] → W p l e (headSpec (wz yX13_times cX13_times 9 (some (.object "CavernbookModel$Wide"))) ({ frames := 2, cells := 2, slots := 25, locals := 37 } : Room)).room s m ([.ref h0, .ref w0] : List Value).toArray below meth c H locs 2 25 Q (F0 m 23 ls []) := by
          intro n
          induction n with
          | zero => intro k h1 h2; exact absurd h2 (by omega)
          | succ n ih23 =>
            intro k hik hnk H locs hP hD hS ls hl
            refine lv_iload hx hb dX13_times_23 (lv_at hl 5 rfl) ?_
            refine lv_iload_n hx hb dX13_times_25 rfl (lv_at hl 3 rfl) ?_
            refine lv_iadd hx hb dX13_times_26 ?_
            refine lv_topi (fun y7 ey7 => ?_)
            obtain rfl : y7 = (nI (k + i)) := ey7.trans (nI_add k i)
            refine lv_bipush (v := 24) hx hb dX13_times_27 (by decide) ?_
            refine lv_icmp_ge (tgt := 93) hx hb dX13_times_29 (by decide) (fun c_29_7 => ?_) (fun c_29_7 => ?_)
            · skip
              have hE : k = (24 - i) := (z_ge2 hik hlti c_29_7)
              subst hE
              have hl : lv_has ls 9 [(0, .ref h0), (1, .ref w0), (2, .ref n1), (3, .int (nI i)), (4, .long 0), (6, .int (nI (24 - i)))] := hl
              refine lv_iinc (v := (nI (i + 1))) (lv' := [(3, .int (nI (i + 1))), (0, .ref h0), (1, .ref w0), (2, .ref n1), (4, .long 0), (6, .int (nI (24 - i)))]) hx hb dX13_times_93 hl (k := 3) rfl (z_n1 i) (by decide) rfl (fun ls hl => ?_)
              refine lv_goto (tgt := 11) hx hb dX13_times_96 (by decide) ?_
              obtain ⟨hP, hD⟩ := zP_i (zT 1 (i + 1)) hP hD (q := 5) rfl (z_tt (by omega) (by omega))
              have hP : va_P D vwCl [(h0, .inr (16, [.ref a0])), (a0, .inl (cy 0, 24, .inl (zE 1))), (w0, .inr (16, [.ref b0])), (b0, .inl (cy 0, 24, .inl (zE 1))), (n1, .inr (16, [.ref u2])), (u2, .inl (cy 0, 24, .inl (zT 1 (i + 1))))] H := hP
              have hD : va_D A [(h0, .inr (16, [.ref a0])), (a0, .inl (cy 0, 24, .inl (zE 1))), (w0, .inr (16, [.ref b0])), (b0, .inl (cy 0, 24, .inl (zE 1))), (n1, .inr (16, [.ref u2])), (u2, .inl (cy 0, 24, .inl (zT 1 (i + 1))))] := hD
              exact ih11 (i + 1) (by omega) (by omega) _ _ (hP.sub [0, 1, 2, 3, 4, 5] rfl) (hD.sub [0, 1, 2, 3, 4, 5] (by decide) rfl) hS ls (lv_sub hl [1, 2, 3, 0] rfl)
            · skip
              have hltk : k < (24 - i) := (z_lt2 hik hlti c_29_7)
              refine lv_aload_n hx hb dX13_times_32 rfl (lv_at hl 2 rfl) ?_
              refine va_get (D := D) (ci := 16) (v := .ref u2) (C := RX13) (T := TX13) (N := 1) hx hb hts iRX13 hown hK hP 4 rfl rfl 0 (by decide) (hts _ q311) (fun _ h9 => h9) rfl dX13_times_33 ?_
              refine lv_iload_n hx hb dX13_times_36 rfl (lv_at hl 3 rfl) ?_
              refine lv_iload hx hb dX13_times_37 (lv_at hl 5 rfl) ?_
              refine lv_iadd hx hb dX13_times_39 ?_
              refine lv_topi (fun y9 ey9 => ?_)
              obtain rfl : y9 = (nI (i + k)) := ey9.trans (nI_add i k)
              refine va_iald hx hb hK hP 5 0 rfl rfl (vp_in_nI (by omega) (by decide)) dX13_times_40 ?_
              refine lv_topi (fun y10 ey10 => ?_)
              obtain rfl : y10 = 0 := ey10.trans (z_tv 1 (nI_clamp (by omega)))
              refine lv_i2l (v := 0) hx hb dX13_times_41 (by decide) ?_
              refine lv_aload_n hx hb dX13_times_42 rfl (lv_at hl 0 rfl) ?_
              refine va_get (D := D) (ci := 16) (v := .ref a0) (C := RX13) (T := TX13) (N := 1) hx hb hts iRX13 hown hK hP 0 rfl rfl 0 (by decide) (hts _ q311) (fun _ h9 => h9) rfl dX13_times_43 ?_
              refine lv_iload_n hx hb dX13_times_46 rfl (lv_at hl 3 rfl) ?_
              refine va_iald hx hb hK hP 1 0 rfl rfl (vp_in_nI (by omega) (by decide)) dX13_times_47 ?_
              refine lv_topi (fun y11 ey11 => ?_)
              obtain rfl : y11 = (zE 1 i) := ey11.trans (congrArg (zE 1) (nI_clamp (by omega)))
              refine lv_i2l (v := ((zE 1 i)).toInt64) hx hb dX13_times_48 rfl ?_
              refine lv_aload_n hx hb dX13_times_49 rfl (lv_at hl 1 rfl) ?_
              refine va_get (D := D) (ci := 16) (v := .ref b0) (C := RX13) (T := TX13) (N := 1) hx hb hts iRX13 hown hK hP 2 rfl rfl 0 (by decide) (hts _ q311) (fun _ h9 => h9) rfl dX13_times_50 ?_
              refine lv_iload hx hb dX13_times_53 (lv_at hl 5 rfl) ?_
              refine va_iald hx hb hK hP 3 0 rfl rfl (vp_in_nI (by omega) (by decide)) dX13_times_55 ?_
              refine lv_topi (fun y12 ey12 => ?_)
              obtain rfl : y12 = (zE 1 k) := ey12.trans (congrArg (zE 1) (nI_clamp (by omega)))
              refine lv_i2l (v := ((zE 1 k)).toInt64) hx hb dX13_times_56 rfl ?_
              refine lv_lmul hx hb dX13_times_57 ?_
              refine lv_topl (fun y13 ey13 => ?_)
              obtain rfl : y13 = (zM 1 (i + k)) := ey13.trans (z_tm (by decide +kernel) i k)
              refine lv_ladd hx hb dX13_times_58 ?_
              refine lv_topl (fun y14 ey14 => ?_)
              obtain rfl : y14 = (zM 1 (i + k)) := ey14.trans (z_0l _)
              refine lv_lload hx hb dX13_times_59 (lv_at hl 4 rfl) ?_
              refine lv_ladd hx hb dX13_times_61 ?_
              refine lv_topl (fun y15 ey15 => ?_)
              obtain rfl : y15 = (zM 1 (i + k)) := ey15.trans (z_l0 _)
              refine lv_lstore (lv' := [(7, .long (zM 1 (i + k))), (0, .ref h0), (1, .ref w0), (2, .ref n1), (3, .int (nI i)), (4, .long 0), (6, .int (nI k))]) hx hb dX13_times_62 hl (by decide) rfl (fun ls hl => ?_)
              refine lv_aload_n hx hb dX13_times_64 rfl (lv_at hl 3 rfl) ?_
              refine va_get (D := D) (ci := 16) (v := .ref u2) (C := RX13) (T := TX13) (N := 1) hx hb hts iRX13 hown hK hP 4 rfl rfl 0 (by decide) (hts _ q311) (fun _ h9 => h9) rfl dX13_times_65 ?_
              refine lv_iload_n hx hb dX13_times_68 rfl (lv_at hl 4 rfl) ?_
              refine lv_iload hx hb dX13_times_69 (lv_at hl 6 rfl) ?_
              refine lv_iadd hx hb dX13_times_71 ?_
              refine lv_topi (fun y16 ey16 => ?_)
              obtain rfl : y16 = (nI (i + k)) := ey16.trans (nI_add i k)
              refine lv_lload hx hb dX13_times_72 (lv_at hl 0 rfl) ?_
              refine lv_ldc2 (v := 32767) hx hb hown (hts _ q312) dX13_times_74 ?_
              refine lv_land hx hb dX13_times_77 ?_
              refine lv_topl (fun y17 ey17 => ?_)
              obtain rfl : y17 = (zM 1 (i + k)) := ey17.trans (z_ta (by decide +kernel) _)
              refine lv_l2i (v := (zm 1 (i + k))) hx hb dX13_times_78 (z_tb (by decide +kernel) _) ?_
              refine va_iast hx hb hK hP hD hS 5 0 rfl rfl (vp_in_nI (by omega) (by decide)) dX13_times_79 (fun H locs hP hD hS => ?_)
              have hP : va_P D vwCl [(h0, .inr (16, [.ref a0])), (a0, .inl (cy 0, 24, .inl (zE 1))), (w0, .inr (16, [.ref b0])), (b0, .inl (cy 0, 24, .inl (zE 1))), (n1, .inr (16, [.ref u2])), (u2, .inl (cy 0, 24, .inl (upd (zT 1 (i + k)) (nI (i + k)).toNatClampNeg (zm 1 (i + k)))))] H := hP
              have hD : va_D A [(h0, .inr (16, [.ref a0])), (a0, .inl (cy 0, 24, .inl (zE 1))), (w0, .inr (16, [.ref b0])), (b0, .inl (cy 0, 24, .inl (zE 1))), (n1, .inr (16, [.ref u2])), (u2, .inl (cy 0, 24, .inl (upd (zT 1 (i + k)) (nI (i + k)).toNatClampNeg (zm 1 (i + k)))))] := hD
              refine lv_lload hx hb dX13_times_80 (lv_at hl 0 rfl) ?_
              refine lv_bipush (v := 15) hx hb dX13_times_82 (by decide) ?_
              refine lv_lshr (v := 0) hx hb dX13_times_84 (z_ts (by decide +kernel) _) ?_
              refine lv_lstore (lv' := [(4, .long 0), (7, .long (zM 1 (i + k))), (0, .ref h0), (1, .ref w0), (2, .ref n1), (3, .int (nI i)), (6, .int (nI k))]) hx hb dX13_times_85 hl (by decide) rfl (fun ls hl => ?_)
              refine lv_iinc (v := (nI (k + 1))) (lv' := [(6, .int (nI (k + 1))), (4, .long 0), (7, .long (zM 1 (i + k))), (0, .ref h0), (1, .ref w0), (2, .ref n1), (3, .int (nI i))]) hx hb dX13_times_87 hl (k := 6) rfl (z_n1 k) (by decide) rfl (fun ls hl => ?_)
              refine lv_goto (tgt := 23) hx hb dX13_times_90 (by decide) ?_
              obtain ⟨hP, hD⟩ := zP_i (zT 1 (i + (k + 1))) hP hD (q := 5) rfl (z_tu 1 (by omega))
              have hP : va_P D vwCl [(h0, .inr (16, [.ref a0])), (a0, .inl (cy 0, 24, .inl (zE 1))), (w0, .inr (16, [.ref b0])), (b0, .inl (cy 0, 24, .inl (zE 1))), (n1, .inr (16, [.ref u2])), (u2, .inl (cy 0, 24, .inl (zT 1 (i + (k + 1)))))] H := hP
              have hD : va_D A [(h0, .inr (16, [.ref a0])), (a0, .inl (cy 0, 24, .inl (zE 1))), (w0, .inr (16, [.ref b0])), (b0, .inl (cy 0, 24, .inl (zE 1))), (n1, .inr (16, [.ref u2])), (u2, .inl (cy 0, 24, .inl (zT 1 (i + (k + 1)))))] := hD
              exact ih23 (k + 1) (by omega) (by omega) _ _ (hP.sub [0, 1, 2, 3, 4, 5] rfl) (hD.sub [0, 1, 2, 3, 4, 5] (by decide) rfl) hS ls (lv_sub hl [3, 4, 5, 6, 1, 0] rfl)
        exact lp23_6 ((24 - i) + 1) 0 (by omega) (by omega) _ _ hP hD hS ls (lv_sub hl [2, 3, 4, 5, 1, 0] rfl)
  exact lp11_4 (24 + 1) 0 (by decide) (by decide) _ _ hP hD hS ls (lv_sub hl [2, 3, 1, 0] rfl)
set_option maxHeartbeats 4000000 in
set_option maxRecDepth 100000 in
/-- 1 times 1 -/
theorem k_times_1_1s (l : Launch) (D : va_G) (cy : Nat → ClassId) (h0 : Nat) (a0 : Nat) (sz : Nat)  : Met l yX13_times (wz yX13_times cX13_times 9 (some (.object "CavernbookModel$Wide"))) ({ frames := 2, cells := 2, slots := 25, locals := 37 } : Room) (va_Pc [.ref h0, .ref h0] (zPre vwCl D cy [(h0, .inr (16, [.ref a0])), (a0, .inl (cy 0, 24, .inl (zE 1)))] sz)) (va_Qr (fun _ : Nat => True) (fun (u : Nat) (b_ : Nat) t => zPost vwCl D (va_A [(h0, .inr (16, [.ref a0])), (a0, .inl (cy 0, 24, .inl (zE 1)))] sz) [(b_, .inr (16, [.ref u])), (u, .inl (cy 0, 24, .inl (zE 1))), (h0, .inr (16, [.ref a0])), (a0, .inl (cy 0, 24, .inl (zE 1)))] t) (va_A [(h0, .inr (16, [.ref a0])), (a0, .inl (cy 0, 24, .inl (zE 1)))] sz)) 2 25 (va_A [(h0, .inr (16, [.ref a0])), (a0, .inl (cy 0, 24, .inl (zE 1)))] sz) := by
  refine Met.ofW (cc := cX13_times) (maxL := 9) (ret := (some (.object "CavernbookModel$Wide"))) (by decide) rfl ?_
  intro p e s m args below meth c s₁ B hml hv
  obtain ⟨rfl, hsz, hP, hK, hD0, hX, hY⟩ := hv
  have hx := B.exec
  have hb := B.bytes
  have hr := B.returns
  have hts0 := atoms_spec (ws := wz yX13_times cX13_times 9 (some (.object "CavernbookModel$Wide"))) B.pre
  have hts : ∀ w ∈ wAll, w.before _ s = true := fun w h => hts0 w (List.mem_cons_of_mem _ h)
  have hown : s.vm.findClass RX13 = some m.cls := findClass_of_methodNamed B.named
  have hlocks := B.notSynchronized
  subst hsz
  have hD := hD0.self (sz := s.heap.size)
  generalize hAe : va_A [(h0, .inr (16, [.ref a0])), (a0, .inl (cy 0, 24, .inl (zE 1)))] s.heap.size = A at hD hY ⊢
  have hA : ∀ q : Nat, s.heap.size ≤ q → A q := fun q h => by rw [← hAe]; exact Or.inr h
  have hS : va_S A s.heap s.heap [] := va_S.rf
  have hP : va_P D vwCl [(h0, .inr (16, [.ref a0])), (a0, .inl (cy 0, 24, .inl (zE 1)))] s.heap := hP
  have hl := lv_entry ([.ref h0, .ref h0]) (n := 9) (Nat.le_of_ble_eq_true rfl)
  rw [lg_entry_eq]
  generalize (lg_sl ([.ref h0, .ref h0]) ++ List.replicate (9 - (lg_sl ([.ref h0, .ref h0])).length) Slot.unset).toArray = ls at hl ⊢
  have hl : lv_has ls 9 [(0, .ref h0), (1, .ref h0)] := hl
  refine z_anyQ (fun Q hQe => ?_)
  refine va_new (ci := 16) (fs := [.null]) (C := RX13) (T := TX13) (N := 1) hx hb hts iRX13 tyX13 tyX13_ok hown (hts _ q313) (hts _ q314) (hts _ q315) hK hP hD hS hA rfl (fun j hj => by rcases (show j = 0 by omega) with rfl; rfl) (Nat.le_of_ble_eq_true rfl) (Nat.le_of_ble_eq_true rfl) dX13_times_0 (fun n1 H hP hD hS => ?_)
  have hP : va_P D vwCl [(h0, .inr (16, [.ref a0])), (a0, .inl (cy 0, 24, .inl (zE 1))), (n1, .inr (16, [.null]))] H := hP
  have hD : va_D A [(h0, .inr (16, [.ref a0])), (a0, .inl (cy 0, 24, .inl (zE 1))), (n1, .inr (16, [.null]))] := hD
  refine W.widen (k := 1) (n := 1) (by omega) (by omega) ?_
  refine lv_dup hx hb dX13_times_3 rfl ?_
  refine lv_lconst (v := 0) hx hb dX13_times_4 rfl ?_
  refine zq_v (wc := [(n1, .inr (16, [.null]))]) (wr := [(h0, .inr (16, [.ref a0])), (a0, .inl (cy 0, 24, .inl (zE 1)))]) (va_runI (As := [.long 0]) (rest := [.ref n1]) ⟨hx, hb, hml, hown, hts⟩ (k_Wide0 l D cy n1 H.size ) (cwI 1 hts (gz q317) rfl rfl rfl (hts _ q315) (hts _ q316) (hts _ q318) rfl vX13_init.2 ⟨Nat.le_of_ble_eq_true rfl, Nat.le_of_ble_eq_true rfl⟩) (zpS hK hX hY hP hD hS hA [2] (by decide) rfl) rfl rfl hl.1 rfl (lv_room (Nat.le_of_ble_eq_true rfl)) dX13_times_5 ⟨Nat.le_of_ble_eq_true rfl, Nat.le_of_ble_eq_true rfl⟩) hP hD hS hA [2] [0, 1] rfl rfl (by decide) (by decide) (fun u2 H locs hw hP hD hS => ?_)
  have hP : va_P D vwCl [(h0, .inr (16, [.ref a0])), (a0, .inl (cy 0, 24, .inl (zE 1))), (n1, .inr (16, [.ref u2])), (u2, .inl (cy 0, 24, .inl (zE 0)))] H := hP
  have hD : va_D A [(h0, .inr (16, [.ref a0])), (a0, .inl (cy 0, 24, .inl (zE 1))), (n1, .inr (16, [.ref u2])), (u2, .inl (cy 0, 24, .inl (zE 0)))] := hD
  refine W.widen (k := 2) (n := 25) (by omega) (by omega) ?_
  refine lv_astore_n (lv' := [(2, .ref n1), (0, .ref h0), (1, .ref h0)]) hx hb dX13_times_8 rfl hl (by decide) rfl (fun ls hl => ?_)
  refine lv_iconst (v := 0) hx hb dX13_times_9 (by decide) ?_
  refine lv_istore_n (lv' := [(3, .int 0), (2, .ref n1), (0, .ref h0), (1, .ref h0)]) hx hb dX13_times_10 rfl hl (by decide) rfl (fun ls hl => ?_)
  obtain ⟨hP, hD⟩ := zP_i (zT 1 0) hP hD (q := 3) rfl (z_t0 1)
  have hP : va_P D vwCl [(h0, .inr (16, [.ref a0])), (a0, .inl (cy 0, 24, .inl (zE 1))), (n1, .inr (16, [.ref u2])), (u2, .inl (cy 0, 24, .inl (zT 1 0)))] H := hP
  have hD : va_D A [(h0, .inr (16, [.ref a0])), (a0, .inl (cy 0, 24, .inl (zE 1))), (n1, .inr (16, [.ref u2])), (u2, .inl (cy 0, 24, .inl (zT 1 0)))] := hD
  have lp11_4 : ∀ (n i : Nat), i ≤ 24 → 24 + 1 ≤ i + n → ∀ (H : Heap) (locs : List Loc), va_P D vwCl [(h0, .inr (16, [.ref a0])), (a0, .inl (cy 0, 24, .inl (zE 1))), (n1, .inr (16, [.ref u2])), (u2, .inl (cy 0, 24, .inl (zT 1 i)))] H → va_D A [(h0, .inr (16, [.ref a0])), (a0, .inl (cy 0, 24, .inl (zE 1))), (n1, .inr (16, [.ref u2])), (u2, .inl (cy 0, 24, .inl (zT 1 i)))] → va_S A s.heap H locs → ∀ ls, lv_has ls 9 [(0, .ref h0), (1, .ref h0), (2, .ref n1), (3, .int (nI i))] → W p l e (headSpec (wz yX13_times cX13_times 9 (some (.object "CavernbookModel$Wide"))) ({ frames := 2, cells := 2, slots := 25, locals := 37 } : Room)).room s m ([.ref h0, .ref h0] : List Value).toArray below meth c H locs 2 25 Q (F0 m 11 ls []) := by
    intro n
    induction n with
    | zero => intro i h1 h2; exact absurd h2 (by omega)
    | succ n ih11 =>
      intro i hii hni H locs hP hD hS ls hl
      refine lv_iload_n hx hb dX13_times_11 rfl (lv_at hl 3 rfl) ?_
      refine lv_bipush (v := 24) hx hb dX13_times_12 (by decide) ?_
      refine lv_icmp_ge (tgt := 99) hx hb dX13_times_14 (by decide) (fun c_14_4 => ?_) (fun c_14_4 => ?_)
      · skip
        have hE : i = 24 := z_ge (N := 24) (by decide) hii (by decide) c_14_4
        subst hE
        have hl : lv_has ls 9 [(0, .ref h0), (1, .ref h0), (2, .ref n1), (3, .int 24)] := hl
        obtain ⟨hP, hD⟩ := zP_i (zE 1) hP hD (q := 3) rfl (z_t9 1 (by omega))
        have hP : va_P D vwCl [(h0, .inr (16, [.ref a0])), (a0, .inl (cy 0, 24, .inl (zE 1))), (n1, .inr (16, [.ref u2])), (u2, .inl (cy 0, 24, .inl (zE 1)))] H := hP
        have hD : va_D A [(h0, .inr (16, [.ref a0])), (a0, .inl (cy 0, 24, .inl (zE 1))), (n1, .inr (16, [.ref u2])), (u2, .inl (cy 0, 24, .inl (zE 1)))] := hD
        refine lv_aload_n hx hb dX13_times_99 rfl (lv_at hl 2 rfl) ?_
        have hP9 := hP.sub (ws' := [(n1, .inr (16, [.ref u2])), (u2, .inl (cy 0, 24, .inl (zE 1))), (h0, .inr (16, [.ref a0])), (a0, .inl (cy 0, 24, .inl (zE 1)))]) [2, 3, 0, 1] rfl
        have hD9 := hD.sub (ws' := [(n1, .inr (16, [.ref u2])), (u2, .inl (cy 0, 24, .inl (zE 1))), (h0, .inr (16, [.ref a0])), (a0, .inl (cy 0, 24, .inl (zE 1)))]) [2, 3, 0, 1] (by decide) rfl
        refine W.widen (k := 2) (n := 25) (Nat.le_of_ble_eq_true rfl) (Nat.le_of_ble_eq_true rfl) ?_
        rw [hQe]
        exact W.aret (v := .ref n1) (rt := (.object "CavernbookModel$Wide")) hx hb hr (Or.inl ⟨_, rfl⟩) (Or.inr ⟨_, rfl⟩) (fun t ht hW => ⟨⟨u2, n1, rfl, trivial, ⟨by rw [ht]; exact hP9, hD9⟩⟩, hS.F ht⟩) hS.2.2 dX13_times_100
      · skip
        have hlti : i < 24 := z_lt (N := 24) (by decide) hii (by decide) c_14_4
        refine lv_lconst (v := 0) hx hb dX13_times_17 rfl ?_
        refine lv_lstore (lv' := [(4, .long 0), (0, .ref h0), (1, .ref h0), (2, .ref n1), (3, .int (nI i))]) hx hb dX13_times_18 hl (by decide) rfl (fun ls hl => ?_)
        refine lv_iconst (v := 0) hx hb dX13_times_20 (by decide) ?_
        refine lv_istore (lv' := [(6, .int 0), (4, .long 0), (0, .ref h0), (1, .ref h0), (2, .ref n1), (3, .int (nI i))]) hx hb dX13_times_21 hl (by decide) rfl (fun ls hl => ?_)
        obtain ⟨hP, hD⟩ := zP_i (zT 1 (i + 0)) hP hD (q := 3) rfl (fun j _ => rfl)
        have hP : va_P D vwCl [(h0, .inr (16, [.ref a0])), (a0, .inl (cy 0, 24, .inl (zE 1))), (n1, .inr (16, [.ref u2])), (u2, .inl (cy 0, 24, .inl (zT 1 (i + 0))))] H := hP
        have hD : va_D A [(h0, .inr (16, [.ref a0])), (a0, .inl (cy 0, 24, .inl (zE 1))), (n1, .inr (16, [.ref u2])), (u2, .inl (cy 0, 24, .inl (zT 1 (i + 0))))] := hD
        have lp23_6 : ∀ (n k : Nat), k ≤ (24 - i) → (24 - i) + 1 ≤ k + n → ∀ (H : Heap) (locs : List Loc), va_P D vwCl [(h0, .inr (16, [.ref a0])), (a0, .inl (cy 0, 24, .inl (zE 1))), (n1, .inr (16, [.ref u2])), (u2, .inl (cy 0, 24, .inl (zT 1 (i + k))))] H → va_D A [(h0, .inr (16, [.ref a0])), (a0, .inl (cy 0, 24, .inl (zE 1))), (n1, .inr (16, [.ref u2])), (u2, .inl (cy 0, 24, .inl (zT 1 (i + k))))] → va_S A s.heap H locs → ∀ ls, lv_has ls 9 [(0, .ref h0), (1, .ref h0), (2, .ref n1), (3, .int (nI i)), (4, .long 0), (6, .int (nI k))] → W p l e (headSpec (wz yX13_times cX13_times 9 (some (.object "CavernbookModel$Wide"))) ({ frames := 2, cells := 2, slots := 25, locals := 37 } : Room)).room s m ([.ref h0, .ref h0] : List Value).toArray below meth c H locs 2 25 Q (F0 m 23 ls []) := by
          intro n
          induction n with
          | zero => intro k h1 h2; exact absurd h2 (by omega)
          | succ n ih23 =>
            intro k hik hnk H locs hP hD hS ls hl
            refine lv_iload hx hb dX13_times_23 (lv_at hl 5 rfl) ?_
            refine lv_iload_n hx hb dX13_times_25 rfl (lv_at hl 3 rfl) ?_
            refine lv_iadd hx hb dX13_times_26 ?_
            refine lv_topi (fun y7 ey7 => ?_)
            obtain rfl : y7 = (nI (k + i)) := ey7.trans (nI_add k i)
            refine lv_bipush (v := 24) hx hb dX13_times_27 (by decide) ?_
            refine lv_icmp_ge (tgt := 93) hx hb dX13_times_29 (by decide) (fun c_29_7 => ?_) (fun c_29_7 => ?_)
            · skip
              have hE : k = (24 - i) := (z_ge2 hik hlti c_29_7)
              subst hE
              have hl : lv_has ls 9 [(0, .ref h0), (1, .ref h0), (2, .ref n1), (3, .int (nI i)), (4, .long 0), (6, .int (nI (24 - i)))] := hl
              refine lv_iinc (v := (nI (i + 1))) (lv' := [(3, .int (nI (i + 1))), (0, .ref h0), (1, .ref h0), (2, .ref n1), (4, .long 0), (6, .int (nI (24 - i)))]) hx hb dX13_times_93 hl (k := 3) rfl (z_n1 i) (by decide) rfl (fun ls hl => ?_)
              refine lv_goto (tgt := 11) hx hb dX13_times_96 (by decide) ?_
              obtain ⟨hP, hD⟩ := zP_i (zT 1 (i + 1)) hP hD (q := 3) rfl (z_tt (by omega) (by omega))
              have hP : va_P D vwCl [(h0, .inr (16, [.ref a0])), (a0, .inl (cy 0, 24, .inl (zE 1))), (n1, .inr (16, [.ref u2])), (u2, .inl (cy 0, 24, .inl (zT 1 (i + 1))))] H := hP
              have hD : va_D A [(h0, .inr (16, [.ref a0])), (a0, .inl (cy 0, 24, .inl (zE 1))), (n1, .inr (16, [.ref u2])), (u2, .inl (cy 0, 24, .inl (zT 1 (i + 1))))] := hD
              exact ih11 (i + 1) (by omega) (by omega) _ _ (hP.sub [0, 1, 2, 3] rfl) (hD.sub [0, 1, 2, 3] (by decide) rfl) hS ls (lv_sub hl [1, 2, 3, 0] rfl)
            · skip
              have hltk : k < (24 - i) := (z_lt2 hik hlti c_29_7)
              refine lv_aload_n hx hb dX13_times_32 rfl (lv_at hl 2 rfl) ?_
              refine va_get (D := D) (ci := 16) (v := .ref u2) (C := RX13) (T := TX13) (N := 1) hx hb hts iRX13 hown hK hP 2 rfl rfl 0 (by decide) (hts _ q311) (fun _ h9 => h9) rfl dX13_times_33 ?_
              refine lv_iload_n hx hb dX13_times_36 rfl (lv_at hl 3 rfl) ?_
              refine lv_iload hx hb dX13_times_37 (lv_at hl 5 rfl) ?_
              refine lv_iadd hx hb dX13_times_39 ?_
              refine lv_topi (fun y9 ey9 => ?_)
              obtain rfl : y9 = (nI (i + k)) := ey9.trans (nI_add i k)
              refine va_iald hx hb hK hP 3 0 rfl rfl (vp_in_nI (by omega) (by decide)) dX13_times_40 ?_
              refine lv_topi (fun y10 ey10 => ?_)
              obtain rfl : y10 = 0 := ey10.trans (z_tv 1 (nI_clamp (by omega)))
              refine lv_i2l (v := 0) hx hb dX13_times_41 (by decide) ?_
              refine lv_aload_n hx hb dX13_times_42 rfl (lv_at hl 0 rfl) ?_
              refine va_get (D := D) (ci := 16) (v := .ref a0) (C := RX13) (T := TX13) (N := 1) hx hb hts iRX13 hown hK hP 0 rfl rfl 0 (by decide) (hts _ q311) (fun _ h9 => h9) rfl dX13_times_43 ?_
              refine lv_iload_n hx hb dX13_times_46 rfl (lv_at hl 3 rfl) ?_
              refine va_iald hx hb hK hP 1 0 rfl rfl (vp_in_nI (by omega) (by decide)) dX13_times_47 ?_
              refine lv_topi (fun y11 ey11 => ?_)
              obtain rfl : y11 = (zE 1 i) := ey11.trans (congrArg (zE 1) (nI_clamp (by omega)))
              refine lv_i2l (v := ((zE 1 i)).toInt64) hx hb dX13_times_48 rfl ?_
              refine lv_aload_n hx hb dX13_times_49 rfl (lv_at hl 1 rfl) ?_
              refine va_get (D := D) (ci := 16) (v := .ref a0) (C := RX13) (T := TX13) (N := 1) hx hb hts iRX13 hown hK hP 0 rfl rfl 0 (by decide) (hts _ q311) (fun _ h9 => h9) rfl dX13_times_50 ?_
              refine lv_iload hx hb dX13_times_53 (lv_at hl 5 rfl) ?_
              refine va_iald hx hb hK hP 1 0 rfl rfl (vp_in_nI (by omega) (by decide)) dX13_times_55 ?_
              refine lv_topi (fun y12 ey12 => ?_)
              obtain rfl : y12 = (zE 1 k) := ey12.trans (congrArg (zE 1) (nI_clamp (by omega)))
              refine lv_i2l (v := ((zE 1 k)).toInt64) hx hb dX13_times_56 rfl ?_
              refine lv_lmul hx hb dX13_times_57 ?_
              refine lv_topl (fun y13 ey13 => ?_)
              obtain rfl : y13 = (zM 1 (i + k)) := ey13.trans (z_tm (by decide +kernel) i k)
              refine lv_ladd hx hb dX13_times_58 ?_
              refine lv_topl (fun y14 ey14 => ?_)
              obtain rfl : y14 = (zM 1 (i + k)) := ey14.trans (z_0l _)
              refine lv_lload hx hb dX13_times_59 (lv_at hl 4 rfl) ?_
              refine lv_ladd hx hb dX13_times_61 ?_
              refine lv_topl (fun y15 ey15 => ?_)
              obtain rfl : y15 = (zM 1 (i + k)) := ey15.trans (z_l0 _)
              refine lv_lstore (lv' := [(7, .long (zM 1 (i + k))), (0, .ref h0), (1, .ref h0), (2, .ref n1), (3, .int (nI i)), (4, .long 0), (6, .int (nI k))]) hx hb dX13_times_62 hl (by decide) rfl (fun ls hl => ?_)
              refine lv_aload_n hx hb dX13_times_64 rfl (lv_at hl 3 rfl) ?_
              refine va_get (D := D) (ci := 16) (v := .ref u2) (C := RX13) (T := TX13) (N := 1) hx hb hts iRX13 hown hK hP 2 rfl rfl 0 (by decide) (hts _ q311) (fun _ h9 => h9) rfl dX13_times_65 ?_
              refine lv_iload_n hx hb dX13_times_68 rfl (lv_at hl 4 rfl) ?_
              refine lv_iload hx hb dX13_times_69 (lv_at hl 6 rfl) ?_
              refine lv_iadd hx hb dX13_times_71 ?_
              refine lv_topi (fun y16 ey16 => ?_)
              obtain rfl : y16 = (nI (i + k)) := ey16.trans (nI_add i k)
              refine lv_lload hx hb dX13_times_72 (lv_at hl 0 rfl) ?_
              refine lv_ldc2 (v := 32767) hx hb hown (hts _ q312) dX13_times_74 ?_
              refine lv_land hx hb dX13_times_77 ?_
              refine lv_topl (fun y17 ey17 => ?_)
              obtain rfl : y17 = (zM 1 (i + k)) := ey17.trans (z_ta (by decide +kernel) _)
              refine lv_l2i (v := (zm 1 (i + k))) hx hb dX13_times_78 (z_tb (by decide +kernel) _) ?_
              refine va_iast hx hb hK hP hD hS 3 0 rfl rfl (vp_in_nI (by omega) (by decide)) dX13_times_79 (fun H locs hP hD hS => ?_)
              have hP : va_P D vwCl [(h0, .inr (16, [.ref a0])), (a0, .inl (cy 0, 24, .inl (zE 1))), (n1, .inr (16, [.ref u2])), (u2, .inl (cy 0, 24, .inl (upd (zT 1 (i + k)) (nI (i + k)).toNatClampNeg (zm 1 (i + k)))))] H := hP
              have hD : va_D A [(h0, .inr (16, [.ref a0])), (a0, .inl (cy 0, 24, .inl (zE 1))), (n1, .inr (16, [.ref u2])), (u2, .inl (cy 0, 24, .inl (upd (zT 1 (i + k)) (nI (i + k)).toNatClampNeg (zm 1 (i + k)))))] := hD
              refine lv_lload hx hb dX13_times_80 (lv_at hl 0 rfl) ?_
              refine lv_bipush (v := 15) hx hb dX13_times_82 (by decide) ?_
              refine lv_lshr (v := 0) hx hb dX13_times_84 (z_ts (by decide +kernel) _) ?_
              refine lv_lstore (lv' := [(4, .long 0), (7, .long (zM 1 (i + k))), (0, .ref h0), (1, .ref h0), (2, .ref n1), (3, .int (nI i)), (6, .int (nI k))]) hx hb dX13_times_85 hl (by decide) rfl (fun ls hl => ?_)
              refine lv_iinc (v := (nI (k + 1))) (lv' := [(6, .int (nI (k + 1))), (4, .long 0), (7, .long (zM 1 (i + k))), (0, .ref h0), (1, .ref h0), (2, .ref n1), (3, .int (nI i))]) hx hb dX13_times_87 hl (k := 6) rfl (z_n1 k) (by decide) rfl (fun ls hl => ?_)
              refine lv_goto (tgt := 23) hx hb dX13_times_90 (by decide) ?_
              obtain ⟨hP, hD⟩ := zP_i (zT 1 (i + (k + 1))) hP hD (q := 3) rfl (z_tu 1 (by omega))
              have hP : va_P D vwCl [(h0, .inr (16, [.ref a0])), (a0, .inl (cy 0, 24, .inl (zE 1))), (n1, .inr (16, [.ref u2])), (u2, .inl (cy 0, 24, .inl (zT 1 (i + (k + 1)))))] H := hP
              have hD : va_D A [(h0, .inr (16, [.ref a0])), (a0, .inl (cy 0, 24, .inl (zE 1))), (n1, .inr (16, [.ref u2])), (u2, .inl (cy 0, 24, .inl (zT 1 (i + (k + 1)))))] := hD
              exact ih23 (k + 1) (by omega) (by omega) _ _ (hP.sub [0, 1, 2, 3] rfl) (hD.sub [0, 1, 2, 3] (by decide) rfl) hS ls (lv_sub hl [3, 4, 5, 6, 1, 0] rfl)
        exact lp23_6 ((24 - i) + 1) 0 (by omega) (by omega) _ _ hP hD hS ls (lv_sub hl [2, 3, 4, 5, 1, 0] rfl)
  exact lp11_4 (24 + 1) 0 (by decide) (by decide) _ _ hP hD hS ls (lv_sub hl [2, 3, 1, 0] rfl)
set_option maxHeartbeats 4000000 in
set_option maxRecDepth 100000 in
/-- 0 times 1 -/
theorem k_times_0_1 (l : Launch) (D : va_G) (cy : Nat → ClassId) (h0 : Nat) (a0 : Nat) (w0 : Nat) (b0 : Nat) (sz : Nat)  : Met l yX13_times (wz yX13_times cX13_times 9 (some (.object "CavernbookModel$Wide"))) ({ frames := 2, cells := 2, slots := 25, locals := 37 } : Room) (va_Pc [.ref h0, .ref w0] (zPre vwCl D cy [(h0, .inr (16, [.ref a0])), (a0, .inl (cy 0, 24, .inl (zE 0))), (w0, .inr (16, [.ref b0])), (b0, .inl (cy 0, 24, .inl (zE 1)))] sz)) (va_Qr (fun _ : Nat => True) (fun (u : Nat) (b_ : Nat) t => zPost vwCl D (va_A [(h0, .inr (16, [.ref a0])), (a0, .inl (cy 0, 24, .inl (zE 0))), (w0, .inr (16, [.ref b0])), (b0, .inl (cy 0, 24, .inl (zE 1)))] sz) [(b_, .inr (16, [.ref u])), (u, .inl (cy 0, 24, .inl (zE 0))), (h0, .inr (16, [.ref a0])), (a0, .inl (cy 0, 24, .inl (zE 0))), (w0, .inr (16, [.ref b0])), (b0, .inl (cy 0, 24, .inl (zE 1)))] t) (va_A [(h0, .inr (16, [.ref a0])), (a0, .inl (cy 0, 24, .inl (zE 0))), (w0, .inr (16, [.ref b0])), (b0, .inl (cy 0, 24, .inl (zE 1)))] sz)) 2 25 (va_A [(h0, .inr (16, [.ref a0])), (a0, .inl (cy 0, 24, .inl (zE 0))), (w0, .inr (16, [.ref b0])), (b0, .inl (cy 0, 24, .inl (zE 1)))] sz) := by
  refine Met.ofW (cc := cX13_times) (maxL := 9) (ret := (some (.object "CavernbookModel$Wide"))) (by decide) rfl ?_
  intro p e s m args below meth c s₁ B hml hv
  obtain ⟨rfl, hsz, hP, hK, hD0, hX, hY⟩ := hv
  have hx := B.exec
  have hb := B.bytes
  have hr := B.returns
  have hts0 := atoms_spec (ws := wz yX13_times cX13_times 9 (some (.object "CavernbookModel$Wide"))) B.pre
  have hts : ∀ w ∈ wAll, w.before _ s = true := fun w h => hts0 w (List.mem_cons_of_mem _ h)
  have hown : s.vm.findClass RX13 = some m.cls := findClass_of_methodNamed B.named
  have hlocks := B.notSynchronized
  subst hsz
  have hD := hD0.self (sz := s.heap.size)
  generalize hAe : va_A [(h0, .inr (16, [.ref a0])), (a0, .inl (cy 0, 24, .inl (zE 0))), (w0, .inr (16, [.ref b0])), (b0, .inl (cy 0, 24, .inl (zE 1)))] s.heap.size = A at hD hY ⊢
  have hA : ∀ q : Nat, s.heap.size ≤ q → A q := fun q h => by rw [← hAe]; exact Or.inr h
  have hS : va_S A s.heap s.heap [] := va_S.rf
  have hP : va_P D vwCl [(h0, .inr (16, [.ref a0])), (a0, .inl (cy 0, 24, .inl (zE 0))), (w0, .inr (16, [.ref b0])), (b0, .inl (cy 0, 24, .inl (zE 1)))] s.heap := hP
  have hl := lv_entry ([.ref h0, .ref w0]) (n := 9) (Nat.le_of_ble_eq_true rfl)
  rw [lg_entry_eq]
  generalize (lg_sl ([.ref h0, .ref w0]) ++ List.replicate (9 - (lg_sl ([.ref h0, .ref w0])).length) Slot.unset).toArray = ls at hl ⊢
  have hl : lv_has ls 9 [(0, .ref h0), (1, .ref w0)] := hl
  refine z_anyQ (fun Q hQe => ?_)
  refine va_new (ci := 16) (fs := [.null]) (C := RX13) (T := TX13) (N := 1) hx hb hts iRX13 tyX13 tyX13_ok hown (hts _ q313) (hts _ q314) (hts _ q315) hK hP hD hS hA rfl (fun j hj => by rcases (show j = 0 by omega) with rfl; rfl) (Nat.le_of_ble_eq_true rfl) (Nat.le_of_ble_eq_true rfl) dX13_times_0 (fun n1 H hP hD hS => ?_)
  have hP : va_P D vwCl [(h0, .inr (16, [.ref a0])), (a0, .inl (cy 0, 24, .inl (zE 0))), (w0, .inr (16, [.ref b0])), (b0, .inl (cy 0, 24, .inl (zE 1))), (n1, .inr (16, [.null]))] H := hP
  have hD : va_D A [(h0, .inr (16, [.ref a0])), (a0, .inl (cy 0, 24, .inl (zE 0))), (w0, .inr (16, [.ref b0])), (b0, .inl (cy 0, 24, .inl (zE 1))), (n1, .inr (16, [.null]))] := hD
  refine W.widen (k := 1) (n := 1) (by omega) (by omega) ?_
  refine lv_dup hx hb dX13_times_3 rfl ?_
  refine lv_lconst (v := 0) hx hb dX13_times_4 rfl ?_
  refine zq_v (wc := [(n1, .inr (16, [.null]))]) (wr := [(h0, .inr (16, [.ref a0])), (a0, .inl (cy 0, 24, .inl (zE 0))), (w0, .inr (16, [.ref b0])), (b0, .inl (cy 0, 24, .inl (zE 1)))]) (va_runI (As := [.long 0]) (rest := [.ref n1]) ⟨hx, hb, hml, hown, hts⟩ (k_Wide0 l D cy n1 H.size ) (cwI 1 hts (gz q317) rfl rfl rfl (hts _ q315) (hts _ q316) (hts _ q318) rfl vX13_init.2 ⟨Nat.le_of_ble_eq_true rfl, Nat.le_of_ble_eq_true rfl⟩) (zpS hK hX hY hP hD hS hA [4] (by decide) rfl) rfl rfl hl.1 rfl (lv_room (Nat.le_of_ble_eq_true rfl)) dX13_times_5 ⟨Nat.le_of_ble_eq_true rfl, Nat.le_of_ble_eq_true rfl⟩) hP hD hS hA [4] [0, 1, 2, 3] rfl rfl (by decide) (by decide) (fun u2 H locs hw hP hD hS => ?_)
  have hP : va_P D vwCl [(h0, .inr (16, [.ref a0])), (a0, .inl (cy 0, 24, .inl (zE 0))), (w0, .inr (16, [.ref b0])), (b0, .inl (cy 0, 24, .inl (zE 1))), (n1, .inr (16, [.ref u2])), (u2, .inl (cy 0, 24, .inl (zE 0)))] H := hP
  have hD : va_D A [(h0, .inr (16, [.ref a0])), (a0, .inl (cy 0, 24, .inl (zE 0))), (w0, .inr (16, [.ref b0])), (b0, .inl (cy 0, 24, .inl (zE 1))), (n1, .inr (16, [.ref u2])), (u2, .inl (cy 0, 24, .inl (zE 0)))] := hD
  refine W.widen (k := 2) (n := 25) (by omega) (by omega) ?_
  refine lv_astore_n (lv' := [(2, .ref n1), (0, .ref h0), (1, .ref w0)]) hx hb dX13_times_8 rfl hl (by decide) rfl (fun ls hl => ?_)
  refine lv_iconst (v := 0) hx hb dX13_times_9 (by decide) ?_
  refine lv_istore_n (lv' := [(3, .int 0), (2, .ref n1), (0, .ref h0), (1, .ref w0)]) hx hb dX13_times_10 rfl hl (by decide) rfl (fun ls hl => ?_)
  obtain ⟨hP, hD⟩ := zP_i (zT 0 0) hP hD (q := 5) rfl (z_t0 0)
  have hP : va_P D vwCl [(h0, .inr (16, [.ref a0])), (a0, .inl (cy 0, 24, .inl (zE 0))), (w0, .inr (16, [.ref b0])), (b0, .inl (cy 0, 24, .inl (zE 1))), (n1, .inr (16, [.ref u2])), (u2, .inl (cy 0, 24, .inl (zT 0 0)))] H := hP
  have hD : va_D A [(h0, .inr (16, [.ref a0])), (a0, .inl (cy 0, 24, .inl (zE 0))), (w0, .inr (16, [.ref b0])), (b0, .inl (cy 0, 24, .inl (zE 1))), (n1, .inr (16, [.ref u2])), (u2, .inl (cy 0, 24, .inl (zT 0 0)))] := hD
  have lp11_4 : ∀ (n i : Nat), i ≤ 24 → 24 + 1 ≤ i + n → ∀ (H : Heap) (locs : List Loc), va_P D vwCl [(h0, .inr (16, [.ref a0])), (a0, .inl (cy 0, 24, .inl (zE 0))), (w0, .inr (16, [.ref b0])), (b0, .inl (cy 0, 24, .inl (zE 1))), (n1, .inr (16, [.ref u2])), (u2, .inl (cy 0, 24, .inl (zT 0 i)))] H → va_D A [(h0, .inr (16, [.ref a0])), (a0, .inl (cy 0, 24, .inl (zE 0))), (w0, .inr (16, [.ref b0])), (b0, .inl (cy 0, 24, .inl (zE 1))), (n1, .inr (16, [.ref u2])), (u2, .inl (cy 0, 24, .inl (zT 0 i)))] → va_S A s.heap H locs → ∀ ls, lv_has ls 9 [(0, .ref h0), (1, .ref w0), (2, .ref n1), (3, .int (nI i))] → W p l e (headSpec (wz yX13_times cX13_times 9 (some (.object "CavernbookModel$Wide"))) ({ frames := 2, cells := 2, slots := 25, locals := 37 } : Room)).room s m ([.ref h0, .ref w0] : List Value).toArray below meth c H locs 2 25 Q (F0 m 11 ls []) := by
    intro n
    induction n with
    | zero => intro i h1 h2; exact absurd h2 (by omega)
    | succ n ih11 =>
      intro i hii hni H locs hP hD hS ls hl
      refine lv_iload_n hx hb dX13_times_11 rfl (lv_at hl 3 rfl) ?_
      refine lv_bipush (v := 24) hx hb dX13_times_12 (by decide) ?_
      refine lv_icmp_ge (tgt := 99) hx hb dX13_times_14 (by decide) (fun c_14_4 => ?_) (fun c_14_4 => ?_)
      · skip
        have hE : i = 24 := z_ge (N := 24) (by decide) hii (by decide) c_14_4
        subst hE
        have hl : lv_has ls 9 [(0, .ref h0), (1, .ref w0), (2, .ref n1), (3, .int 24)] := hl
        obtain ⟨hP, hD⟩ := zP_i (zE 0) hP hD (q := 5) rfl (z_t9 0 (by omega))
        have hP : va_P D vwCl [(h0, .inr (16, [.ref a0])), (a0, .inl (cy 0, 24, .inl (zE 0))), (w0, .inr (16, [.ref b0])), (b0, .inl (cy 0, 24, .inl (zE 1))), (n1, .inr (16, [.ref u2])), (u2, .inl (cy 0, 24, .inl (zE 0)))] H := hP
        have hD : va_D A [(h0, .inr (16, [.ref a0])), (a0, .inl (cy 0, 24, .inl (zE 0))), (w0, .inr (16, [.ref b0])), (b0, .inl (cy 0, 24, .inl (zE 1))), (n1, .inr (16, [.ref u2])), (u2, .inl (cy 0, 24, .inl (zE 0)))] := hD
        refine lv_aload_n hx hb dX13_times_99 rfl (lv_at hl 2 rfl) ?_
        have hP9 := hP.sub (ws' := [(n1, .inr (16, [.ref u2])), (u2, .inl (cy 0, 24, .inl (zE 0))), (h0, .inr (16, [.ref a0])), (a0, .inl (cy 0, 24, .inl (zE 0))), (w0, .inr (16, [.ref b0])), (b0, .inl (cy 0, 24, .inl (zE 1)))]) [4, 5, 0, 1, 2, 3] rfl
        have hD9 := hD.sub (ws' := [(n1, .inr (16, [.ref u2])), (u2, .inl (cy 0, 24, .inl (zE 0))), (h0, .inr (16, [.ref a0])), (a0, .inl (cy 0, 24, .inl (zE 0))), (w0, .inr (16, [.ref b0])), (b0, .inl (cy 0, 24, .inl (zE 1)))]) [4, 5, 0, 1, 2, 3] (by decide) rfl
        refine W.widen (k := 2) (n := 25) (Nat.le_of_ble_eq_true rfl) (Nat.le_of_ble_eq_true rfl) ?_
        rw [hQe]
        exact W.aret (v := .ref n1) (rt := (.object "CavernbookModel$Wide")) hx hb hr (Or.inl ⟨_, rfl⟩) (Or.inr ⟨_, rfl⟩) (fun t ht hW => ⟨⟨u2, n1, rfl, trivial, ⟨by rw [ht]; exact hP9, hD9⟩⟩, hS.F ht⟩) hS.2.2 dX13_times_100
      · skip
        have hlti : i < 24 := z_lt (N := 24) (by decide) hii (by decide) c_14_4
        refine lv_lconst (v := 0) hx hb dX13_times_17 rfl ?_
        refine lv_lstore (lv' := [(4, .long 0), (0, .ref h0), (1, .ref w0), (2, .ref n1), (3, .int (nI i))]) hx hb dX13_times_18 hl (by decide) rfl (fun ls hl => ?_)
        refine lv_iconst (v := 0) hx hb dX13_times_20 (by decide) ?_
        refine lv_istore (lv' := [(6, .int 0), (4, .long 0), (0, .ref h0), (1, .ref w0), (2, .ref n1), (3, .int (nI i))]) hx hb dX13_times_21 hl (by decide) rfl (fun ls hl => ?_)
        obtain ⟨hP, hD⟩ := zP_i (zT 0 (i + 0)) hP hD (q := 5) rfl (fun j _ => rfl)
        have hP : va_P D vwCl [(h0, .inr (16, [.ref a0])), (a0, .inl (cy 0, 24, .inl (zE 0))), (w0, .inr (16, [.ref b0])), (b0, .inl (cy 0, 24, .inl (zE 1))), (n1, .inr (16, [.ref u2])), (u2, .inl (cy 0, 24, .inl (zT 0 (i + 0))))] H := hP
        have hD : va_D A [(h0, .inr (16, [.ref a0])), (a0, .inl (cy 0, 24, .inl (zE 0))), (w0, .inr (16, [.ref b0])), (b0, .inl (cy 0, 24, .inl (zE 1))), (n1, .inr (16, [.ref u2])), (u2, .inl (cy 0, 24, .inl (zT 0 (i + 0))))] := hD
        have lp23_6 : ∀ (n k : Nat), k ≤ (24 - i) → (24 - i) + 1 ≤ k + n → ∀ (H : Heap) (locs : List Loc), va_P D vwCl [(h0, .inr (16, [.ref a0])), (a0, .inl (cy 0, 24, .inl (zE 0))), (w0, .inr (16, [.ref b0])), (b0, .inl (cy 0, 24, .inl (zE 1))), (n1, .inr (16, [.ref u2])), (u2, .inl (cy 0, 24, .inl (zT 0 (i + k))))] H → va_D A [(h0, .inr (16, [.ref a0])), (a0, .inl (cy 0, 24, .inl (zE 0))), (w0, .inr (16, [.ref b0])), (b0, .inl (cy 0, 24, .inl (zE 1))), (n1, .inr (16, [.ref u2])), (u2, .inl (cy 0, 24, .inl (zT 0 (i + k))))] → va_S A s.heap H locs → ∀ ls, lv_has ls 9 [(0, .ref h0), (1, .ref w0), (2, .ref n1), (3, .int (nI i)), (4, .long 0), (6, .int (nI k))] → W p l e (headSpec (wz yX13_times cX13_times 9 (some (.object "CavernbookModel$Wide"))) ({ frames := 2, cells := 2, slots := 25, locals := 37 } : Room)).room s m ([.ref h0, .ref w0] : List Value).toArray below meth c H locs 2 25 Q (F0 m 23 ls []) := by
          intro n
          induction n with
          | zero => intro k h1 h2; exact absurd h2 (by omega)
          | succ n ih23 =>
            intro k hik hnk H locs hP hD hS ls hl
            refine lv_iload hx hb dX13_times_23 (lv_at hl 5 rfl) ?_
            refine lv_iload_n hx hb dX13_times_25 rfl (lv_at hl 3 rfl) ?_
            refine lv_iadd hx hb dX13_times_26 ?_
            refine lv_topi (fun y7 ey7 => ?_)
            obtain rfl : y7 = (nI (k + i)) := ey7.trans (nI_add k i)
            refine lv_bipush (v := 24) hx hb dX13_times_27 (by decide) ?_
            refine lv_icmp_ge (tgt := 93) hx hb dX13_times_29 (by decide) (fun c_29_7 => ?_) (fun c_29_7 => ?_)
            · skip
              have hE : k = (24 - i) := (z_ge2 hik hlti c_29_7)
              subst hE
              have hl : lv_has ls 9 [(0, .ref h0), (1, .ref w0), (2, .ref n1), (3, .int (nI i)), (4, .long 0), (6, .int (nI (24 - i)))] := hl
              refine lv_iinc (v := (nI (i + 1))) (lv' := [(3, .int (nI (i + 1))), (0, .ref h0), (1, .ref w0), (2, .ref n1), (4, .long 0), (6, .int (nI (24 - i)))]) hx hb dX13_times_93 hl (k := 3) rfl (z_n1 i) (by decide) rfl (fun ls hl => ?_)
              refine lv_goto (tgt := 11) hx hb dX13_times_96 (by decide) ?_
              obtain ⟨hP, hD⟩ := zP_i (zT 0 (i + 1)) hP hD (q := 5) rfl (z_tt (by omega) (by omega))
              have hP : va_P D vwCl [(h0, .inr (16, [.ref a0])), (a0, .inl (cy 0, 24, .inl (zE 0))), (w0, .inr (16, [.ref b0])), (b0, .inl (cy 0, 24, .inl (zE 1))), (n1, .inr (16, [.ref u2])), (u2, .inl (cy 0, 24, .inl (zT 0 (i + 1))))] H := hP
              have hD : va_D A [(h0, .inr (16, [.ref a0])), (a0, .inl (cy 0, 24, .inl (zE 0))), (w0, .inr (16, [.ref b0])), (b0, .inl (cy 0, 24, .inl (zE 1))), (n1, .inr (16, [.ref u2])), (u2, .inl (cy 0, 24, .inl (zT 0 (i + 1))))] := hD
              exact ih11 (i + 1) (by omega) (by omega) _ _ (hP.sub [0, 1, 2, 3, 4, 5] rfl) (hD.sub [0, 1, 2, 3, 4, 5] (by decide) rfl) hS ls (lv_sub hl [1, 2, 3, 0] rfl)
            · skip
              have hltk : k < (24 - i) := (z_lt2 hik hlti c_29_7)
              refine lv_aload_n hx hb dX13_times_32 rfl (lv_at hl 2 rfl) ?_
              refine va_get (D := D) (ci := 16) (v := .ref u2) (C := RX13) (T := TX13) (N := 1) hx hb hts iRX13 hown hK hP 4 rfl rfl 0 (by decide) (hts _ q311) (fun _ h9 => h9) rfl dX13_times_33 ?_
              refine lv_iload_n hx hb dX13_times_36 rfl (lv_at hl 3 rfl) ?_
              refine lv_iload hx hb dX13_times_37 (lv_at hl 5 rfl) ?_
              refine lv_iadd hx hb dX13_times_39 ?_
              refine lv_topi (fun y9 ey9 => ?_)
              obtain rfl : y9 = (nI (i + k)) := ey9.trans (nI_add i k)
              refine va_iald hx hb hK hP 5 0 rfl rfl (vp_in_nI (by omega) (by decide)) dX13_times_40 ?_
              refine lv_topi (fun y10 ey10 => ?_)
              obtain rfl : y10 = 0 := ey10.trans (z_tv 0 (nI_clamp (by omega)))
              refine lv_i2l (v := 0) hx hb dX13_times_41 (by decide) ?_
              refine lv_aload_n hx hb dX13_times_42 rfl (lv_at hl 0 rfl) ?_
              refine va_get (D := D) (ci := 16) (v := .ref a0) (C := RX13) (T := TX13) (N := 1) hx hb hts iRX13 hown hK hP 0 rfl rfl 0 (by decide) (hts _ q311) (fun _ h9 => h9) rfl dX13_times_43 ?_
              refine lv_iload_n hx hb dX13_times_46 rfl (lv_at hl 3 rfl) ?_
              refine va_iald hx hb hK hP 1 0 rfl rfl (vp_in_nI (by omega) (by decide)) dX13_times_47 ?_
              refine lv_topi (fun y11 ey11 => ?_)
              obtain rfl : y11 = (zE 0 i) := ey11.trans (congrArg (zE 0) (nI_clamp (by omega)))
              refine lv_i2l (v := ((zE 0 i)).toInt64) hx hb dX13_times_48 rfl ?_
              refine lv_aload_n hx hb dX13_times_49 rfl (lv_at hl 1 rfl) ?_
              refine va_get (D := D) (ci := 16) (v := .ref b0) (C := RX13) (T := TX13) (N := 1) hx hb hts iRX13 hown hK hP 2 rfl rfl 0 (by decide) (hts _ q311) (fun _ h9 => h9) rfl dX13_times_50 ?_
              refine lv_iload hx hb dX13_times_53 (lv_at hl 5 rfl) ?_
              refine va_iald hx hb hK hP 3 0 rfl rfl (vp_in_nI (by omega) (by decide)) dX13_times_55 ?_
              refine lv_topi (fun y12 ey12 => ?_)
              obtain rfl : y12 = (zE 1 k) := ey12.trans (congrArg (zE 1) (nI_clamp (by omega)))
              refine lv_i2l (v := ((zE 1 k)).toInt64) hx hb dX13_times_56 rfl ?_
              refine lv_lmul hx hb dX13_times_57 ?_
              refine lv_topl (fun y13 ey13 => ?_)
              obtain rfl : y13 = (zM 0 (i + k)) := ey13.trans (z_tm (by decide +kernel) i k)
              refine lv_ladd hx hb dX13_times_58 ?_
              refine lv_topl (fun y14 ey14 => ?_)
              obtain rfl : y14 = (zM 0 (i + k)) := ey14.trans (z_0l _)
              refine lv_lload hx hb dX13_times_59 (lv_at hl 4 rfl) ?_
              refine lv_ladd hx hb dX13_times_61 ?_
              refine lv_topl (fun y15 ey15 => ?_)
              obtain rfl : y15 = (zM 0 (i + k)) := ey15.trans (z_l0 _)
              refine lv_lstore (lv' := [(7, .long (zM 0 (i + k))), (0, .ref h0), (1, .ref w0), (2, .ref n1), (3, .int (nI i)), (4, .long 0), (6, .int (nI k))]) hx hb dX13_times_62 hl (by decide) rfl (fun ls hl => ?_)
              refine lv_aload_n hx hb dX13_times_64 rfl (lv_at hl 3 rfl) ?_
              refine va_get (D := D) (ci := 16) (v := .ref u2) (C := RX13) (T := TX13) (N := 1) hx hb hts iRX13 hown hK hP 4 rfl rfl 0 (by decide) (hts _ q311) (fun _ h9 => h9) rfl dX13_times_65 ?_
              refine lv_iload_n hx hb dX13_times_68 rfl (lv_at hl 4 rfl) ?_
              refine lv_iload hx hb dX13_times_69 (lv_at hl 6 rfl) ?_
              refine lv_iadd hx hb dX13_times_71 ?_
              refine lv_topi (fun y16 ey16 => ?_)
              obtain rfl : y16 = (nI (i + k)) := ey16.trans (nI_add i k)
              refine lv_lload hx hb dX13_times_72 (lv_at hl 0 rfl) ?_
              refine lv_ldc2 (v := 32767) hx hb hown (hts _ q312) dX13_times_74 ?_
              refine lv_land hx hb dX13_times_77 ?_
              refine lv_topl (fun y17 ey17 => ?_)
              obtain rfl : y17 = (zM 0 (i + k)) := ey17.trans (z_ta (by decide +kernel) _)
              refine lv_l2i (v := (zm 0 (i + k))) hx hb dX13_times_78 (z_tb (by decide +kernel) _) ?_
              refine va_iast hx hb hK hP hD hS 5 0 rfl rfl (vp_in_nI (by omega) (by decide)) dX13_times_79 (fun H locs hP hD hS => ?_)
              have hP : va_P D vwCl [(h0, .inr (16, [.ref a0])), (a0, .inl (cy 0, 24, .inl (zE 0))), (w0, .inr (16, [.ref b0])), (b0, .inl (cy 0, 24, .inl (zE 1))), (n1, .inr (16, [.ref u2])), (u2, .inl (cy 0, 24, .inl (upd (zT 0 (i + k)) (nI (i + k)).toNatClampNeg (zm 0 (i + k)))))] H := hP
              have hD : va_D A [(h0, .inr (16, [.ref a0])), (a0, .inl (cy 0, 24, .inl (zE 0))), (w0, .inr (16, [.ref b0])), (b0, .inl (cy 0, 24, .inl (zE 1))), (n1, .inr (16, [.ref u2])), (u2, .inl (cy 0, 24, .inl (upd (zT 0 (i + k)) (nI (i + k)).toNatClampNeg (zm 0 (i + k)))))] := hD
              refine lv_lload hx hb dX13_times_80 (lv_at hl 0 rfl) ?_
              refine lv_bipush (v := 15) hx hb dX13_times_82 (by decide) ?_
              refine lv_lshr (v := 0) hx hb dX13_times_84 (z_ts (by decide +kernel) _) ?_
              refine lv_lstore (lv' := [(4, .long 0), (7, .long (zM 0 (i + k))), (0, .ref h0), (1, .ref w0), (2, .ref n1), (3, .int (nI i)), (6, .int (nI k))]) hx hb dX13_times_85 hl (by decide) rfl (fun ls hl => ?_)
              refine lv_iinc (v := (nI (k + 1))) (lv' := [(6, .int (nI (k + 1))), (4, .long 0), (7, .long (zM 0 (i + k))), (0, .ref h0), (1, .ref w0), (2, .ref n1), (3, .int (nI i))]) hx hb dX13_times_87 hl (k := 6) rfl (z_n1 k) (by decide) rfl (fun ls hl => ?_)
              refine lv_goto (tgt := 23) hx hb dX13_times_90 (by decide) ?_
              obtain ⟨hP, hD⟩ := zP_i (zT 0 (i + (k + 1))) hP hD (q := 5) rfl (z_tu 0 (by omega))
              have hP : va_P D vwCl [(h0, .inr (16, [.ref a0])), (a0, .inl (cy 0, 24, .inl (zE 0))), (w0, .inr (16, [.ref b0])), (b0, .inl (cy 0, 24, .inl (zE 1))), (n1, .inr (16, [.ref u2])), (u2, .inl (cy 0, 24, .inl (zT 0 (i + (k + 1)))))] H := hP
              have hD : va_D A [(h0, .inr (16, [.ref a0])), (a0, .inl (cy 0, 24, .inl (zE 0))), (w0, .inr (16, [.ref b0])), (b0, .inl (cy 0, 24, .inl (zE 1))), (n1, .inr (16, [.ref u2])), (u2, .inl (cy 0, 24, .inl (zT 0 (i + (k + 1)))))] := hD
              exact ih23 (k + 1) (by omega) (by omega) _ _ (hP.sub [0, 1, 2, 3, 4, 5] rfl) (hD.sub [0, 1, 2, 3, 4, 5] (by decide) rfl) hS ls (lv_sub hl [3, 4, 5, 6, 1, 0] rfl)
        exact lp23_6 ((24 - i) + 1) 0 (by omega) (by omega) _ _ hP hD hS ls (lv_sub hl [2, 3, 4, 5, 1, 0] rfl)
  exact lp11_4 (24 + 1) 0 (by decide) (by decide) _ _ hP hD hS ls (lv_sub hl [2, 3, 1, 0] rfl)
set_option maxHeartbeats 4000000 in
set_option maxRecDepth 100000 in
/-- 1 against 0 -/
theorem k_against_1_0 (l : Launch) (D : va_G) (cy : Nat → ClassId) (h0 : Nat) (a0 : Nat) (w0 : Nat) (b0 : Nat) (sz : Nat)  : Met l yX13_against (wz yX13_against cX13_against 3 (some .int)) ({ frames := 0, cells := 0, slots := 0, locals := 0 } : Room) (va_Pc [.ref h0, .ref w0] (zPre vwCl D cy [(h0, .inr (16, [.ref a0])), (a0, .inl (cy 0, 24, .inl (zE 1))), (w0, .inr (16, [.ref b0])), (b0, .inl (cy 0, 24, .inl (zE 0)))] sz)) (va_Qi (fun (r : Int32) (_ : Unit) => r = 1) (fun (u : Unit) t => zPost vwCl D (va_A [(h0, .inr (16, [.ref a0])), (a0, .inl (cy 0, 24, .inl (zE 1))), (w0, .inr (16, [.ref b0])), (b0, .inl (cy 0, 24, .inl (zE 0)))] sz) [(w0, .inr (16, [.ref b0])), (b0, .inl (cy 0, 24, .inl (zE 0)))] t) (va_A [(h0, .inr (16, [.ref a0])), (a0, .inl (cy 0, 24, .inl (zE 1))), (w0, .inr (16, [.ref b0])), (b0, .inl (cy 0, 24, .inl (zE 0)))] sz)) 0 0 (va_A [(h0, .inr (16, [.ref a0])), (a0, .inl (cy 0, 24, .inl (zE 1))), (w0, .inr (16, [.ref b0])), (b0, .inl (cy 0, 24, .inl (zE 0)))] sz) := by
  refine Met.ofW (cc := cX13_against) (maxL := 3) (ret := (some .int)) (by decide) rfl ?_
  intro p e s m args below meth c s₁ B hml hv
  obtain ⟨rfl, hsz, hP, hK, hD0, hX, hY⟩ := hv
  have hx := B.exec
  have hb := B.bytes
  have hr := B.returns
  have hts0 := atoms_spec (ws := wz yX13_against cX13_against 3 (some .int)) B.pre
  have hts : ∀ w ∈ wAll, w.before _ s = true := fun w h => hts0 w (List.mem_cons_of_mem _ h)
  have hown : s.vm.findClass RX13 = some m.cls := findClass_of_methodNamed B.named
  have hlocks := B.notSynchronized
  subst hsz
  have hD := hD0.self (sz := s.heap.size)
  generalize hAe : va_A [(h0, .inr (16, [.ref a0])), (a0, .inl (cy 0, 24, .inl (zE 1))), (w0, .inr (16, [.ref b0])), (b0, .inl (cy 0, 24, .inl (zE 0)))] s.heap.size = A at hD hY ⊢
  have hA : ∀ q : Nat, s.heap.size ≤ q → A q := fun q h => by rw [← hAe]; exact Or.inr h
  have hS : va_S A s.heap s.heap [] := va_S.rf
  have hP : va_P D vwCl [(h0, .inr (16, [.ref a0])), (a0, .inl (cy 0, 24, .inl (zE 1))), (w0, .inr (16, [.ref b0])), (b0, .inl (cy 0, 24, .inl (zE 0)))] s.heap := hP
  have hl := lv_entry ([.ref h0, .ref w0]) (n := 3) (Nat.le_of_ble_eq_true rfl)
  rw [lg_entry_eq]
  generalize (lg_sl ([.ref h0, .ref w0]) ++ List.replicate (3 - (lg_sl ([.ref h0, .ref w0])).length) Slot.unset).toArray = ls at hl ⊢
  have hl : lv_has ls 3 [(0, .ref h0), (1, .ref w0)] := hl
  refine z_anyQ (fun Q hQe => ?_)
  refine lv_bipush (v := 23) hx hb dX13_against_0 (by decide) ?_
  refine lv_istore_n (lv' := [(2, .int 23), (0, .ref h0), (1, .ref w0)]) hx hb dX13_against_2 rfl hl (by decide) rfl (fun ls hl => ?_)
  refine lv_iload_n hx hb dX13_against_3 rfl (lv_at hl 0 rfl) ?_
  refine lv_if_lt (tgt := 49) hx hb dX13_against_4 (by decide) (fun c_4_0 => absurd c_4_0 (by decide +kernel)) (fun _ => ?_)
  refine lv_aload_n hx hb dX13_against_7 rfl (lv_at hl 1 rfl) ?_
  refine va_get (D := D) (ci := 16) (v := .ref a0) (C := RX13) (T := TX13) (N := 1) hx hb hts iRX13 hown hK hP 0 rfl rfl 0 (by decide) (hts _ q311) (fun _ h9 => h9) rfl dX13_against_8 ?_
  refine lv_iload_n hx hb dX13_against_11 rfl (lv_at hl 0 rfl) ?_
  refine va_iald hx hb hK hP 1 0 rfl rfl (z_in 23 (by decide) (by decide)) dX13_against_12 ?_
  refine lv_topi (fun y2 ey2 => ?_)
  obtain rfl : y2 = 0 := ey2.trans (by decide +kernel)
  refine lv_aload_n hx hb dX13_against_13 rfl (lv_at hl 2 rfl) ?_
  refine va_get (D := D) (ci := 16) (v := .ref b0) (C := RX13) (T := TX13) (N := 1) hx hb hts iRX13 hown hK hP 2 rfl rfl 0 (by decide) (hts _ q311) (fun _ h9 => h9) rfl dX13_against_14 ?_
  refine lv_iload_n hx hb dX13_against_17 rfl (lv_at hl 0 rfl) ?_
  refine va_iald hx hb hK hP 3 0 rfl rfl (z_in 23 (by decide) (by decide)) dX13_against_18 ?_
  refine lv_topi (fun y3 ey3 => ?_)
  obtain rfl : y3 = 0 := ey3.trans (by decide +kernel)
  refine lv_icmp_eq (tgt := 43) hx hb dX13_against_19 (by decide) (fun _ => ?_) (fun c_19_3 => absurd (by decide +kernel) c_19_3)
  refine lv_iinc (v := 22) (lv' := [(2, .int 22), (0, .ref h0), (1, .ref w0)]) hx hb dX13_against_43 hl (k := 0) rfl (by decide) (by decide) rfl (fun ls hl => ?_)
  refine lv_goto (tgt := 3) hx hb dX13_against_46 (by decide) ?_
  refine lv_iload_n hx hb dX13_against_3 rfl (lv_at hl 0 rfl) ?_
  refine lv_if_lt (tgt := 49) hx hb dX13_against_4 (by decide) (fun c_4_4 => absurd c_4_4 (by decide +kernel)) (fun _ => ?_)
  refine lv_aload_n hx hb dX13_against_7 rfl (lv_at hl 1 rfl) ?_
  refine va_get (D := D) (ci := 16) (v := .ref a0) (C := RX13) (T := TX13) (N := 1) hx hb hts iRX13 hown hK hP 0 rfl rfl 0 (by decide) (hts _ q311) (fun _ h9 => h9) rfl dX13_against_8 ?_
  refine lv_iload_n hx hb dX13_against_11 rfl (lv_at hl 0 rfl) ?_
  refine va_iald hx hb hK hP 1 0 rfl rfl (z_in 22 (by decide) (by decide)) dX13_against_12 ?_
  refine lv_topi (fun y6 ey6 => ?_)
  obtain rfl : y6 = 0 := ey6.trans (by decide +kernel)
  refine lv_aload_n hx hb dX13_against_13 rfl (lv_at hl 2 rfl) ?_
  refine va_get (D := D) (ci := 16) (v := .ref b0) (C := RX13) (T := TX13) (N := 1) hx hb hts iRX13 hown hK hP 2 rfl rfl 0 (by decide) (hts _ q311) (fun _ h9 => h9) rfl dX13_against_14 ?_
  refine lv_iload_n hx hb dX13_against_17 rfl (lv_at hl 0 rfl) ?_
  refine va_iald hx hb hK hP 3 0 rfl rfl (z_in 22 (by decide) (by decide)) dX13_against_18 ?_
  refine lv_topi (fun y7 ey7 => ?_)
  obtain rfl : y7 = 0 := ey7.trans (by decide +kernel)
  refine lv_icmp_eq (tgt := 43) hx hb dX13_against_19 (by decide) (fun _ => ?_) (fun c_19_7 => absurd (by decide +kernel) c_19_7)
  refine lv_iinc (v := 21) (lv' := [(2, .int 21), (0, .ref h0), (1, .ref w0)]) hx hb dX13_against_43 hl (k := 0) rfl (by decide) (by decide) rfl (fun ls hl => ?_)
  refine lv_goto (tgt := 3) hx hb dX13_against_46 (by decide) ?_
  refine lv_iload_n hx hb dX13_against_3 rfl (lv_at hl 0 rfl) ?_
  refine lv_if_lt (tgt := 49) hx hb dX13_against_4 (by decide) (fun c_4_8 => absurd c_4_8 (by decide +kernel)) (fun _ => ?_)
  refine lv_aload_n hx hb dX13_against_7 rfl (lv_at hl 1 rfl) ?_
  refine va_get (D := D) (ci := 16) (v := .ref a0) (C := RX13) (T := TX13) (N := 1) hx hb hts iRX13 hown hK hP 0 rfl rfl 0 (by decide) (hts _ q311) (fun _ h9 => h9) rfl dX13_against_8 ?_
  refine lv_iload_n hx hb dX13_against_11 rfl (lv_at hl 0 rfl) ?_
  refine va_iald hx hb hK hP 1 0 rfl rfl (z_in 21 (by decide) (by decide)) dX13_against_12 ?_
  refine lv_topi (fun y10 ey10 => ?_)
  obtain rfl : y10 = 0 := ey10.trans (by decide +kernel)
  refine lv_aload_n hx hb dX13_against_13 rfl (lv_at hl 2 rfl) ?_
  refine va_get (D := D) (ci := 16) (v := .ref b0) (C := RX13) (T := TX13) (N := 1) hx hb hts iRX13 hown hK hP 2 rfl rfl 0 (by decide) (hts _ q311) (fun _ h9 => h9) rfl dX13_against_14 ?_
  refine lv_iload_n hx hb dX13_against_17 rfl (lv_at hl 0 rfl) ?_
  refine va_iald hx hb hK hP 3 0 rfl rfl (z_in 21 (by decide) (by decide)) dX13_against_18 ?_
  refine lv_topi (fun y11 ey11 => ?_)
  obtain rfl : y11 = 0 := ey11.trans (by decide +kernel)
  refine lv_icmp_eq (tgt := 43) hx hb dX13_against_19 (by decide) (fun _ => ?_) (fun c_19_11 => absurd (by decide +kernel) c_19_11)
  refine lv_iinc (v := 20) (lv' := [(2, .int 20), (0, .ref h0), (1, .ref w0)]) hx hb dX13_against_43 hl (k := 0) rfl (by decide) (by decide) rfl (fun ls hl => ?_)
  refine lv_goto (tgt := 3) hx hb dX13_against_46 (by decide) ?_
  refine lv_iload_n hx hb dX13_against_3 rfl (lv_at hl 0 rfl) ?_
  refine lv_if_lt (tgt := 49) hx hb dX13_against_4 (by decide) (fun c_4_12 => absurd c_4_12 (by decide +kernel)) (fun _ => ?_)
  refine lv_aload_n hx hb dX13_against_7 rfl (lv_at hl 1 rfl) ?_
  refine va_get (D := D) (ci := 16) (v := .ref a0) (C := RX13) (T := TX13) (N := 1) hx hb hts iRX13 hown hK hP 0 rfl rfl 0 (by decide) (hts _ q311) (fun _ h9 => h9) rfl dX13_against_8 ?_
  refine lv_iload_n hx hb dX13_against_11 rfl (lv_at hl 0 rfl) ?_
  refine va_iald hx hb hK hP 1 0 rfl rfl (z_in 20 (by decide) (by decide)) dX13_against_12 ?_
  refine lv_topi (fun y14 ey14 => ?_)
  obtain rfl : y14 = 0 := ey14.trans (by decide +kernel)
  refine lv_aload_n hx hb dX13_against_13 rfl (lv_at hl 2 rfl) ?_
  refine va_get (D := D) (ci := 16) (v := .ref b0) (C := RX13) (T := TX13) (N := 1) hx hb hts iRX13 hown hK hP 2 rfl rfl 0 (by decide) (hts _ q311) (fun _ h9 => h9) rfl dX13_against_14 ?_
  refine lv_iload_n hx hb dX13_against_17 rfl (lv_at hl 0 rfl) ?_
  refine va_iald hx hb hK hP 3 0 rfl rfl (z_in 20 (by decide) (by decide)) dX13_against_18 ?_
  refine lv_topi (fun y15 ey15 => ?_)
  obtain rfl : y15 = 0 := ey15.trans (by decide +kernel)
  refine lv_icmp_eq (tgt := 43) hx hb dX13_against_19 (by decide) (fun _ => ?_) (fun c_19_15 => absurd (by decide +kernel) c_19_15)
  refine lv_iinc (v := 19) (lv' := [(2, .int 19), (0, .ref h0), (1, .ref w0)]) hx hb dX13_against_43 hl (k := 0) rfl (by decide) (by decide) rfl (fun ls hl => ?_)
  refine lv_goto (tgt := 3) hx hb dX13_against_46 (by decide) ?_
  refine lv_iload_n hx hb dX13_against_3 rfl (lv_at hl 0 rfl) ?_
  refine lv_if_lt (tgt := 49) hx hb dX13_against_4 (by decide) (fun c_4_16 => absurd c_4_16 (by decide +kernel)) (fun _ => ?_)
  refine lv_aload_n hx hb dX13_against_7 rfl (lv_at hl 1 rfl) ?_
  refine va_get (D := D) (ci := 16) (v := .ref a0) (C := RX13) (T := TX13) (N := 1) hx hb hts iRX13 hown hK hP 0 rfl rfl 0 (by decide) (hts _ q311) (fun _ h9 => h9) rfl dX13_against_8 ?_
  refine lv_iload_n hx hb dX13_against_11 rfl (lv_at hl 0 rfl) ?_
  refine va_iald hx hb hK hP 1 0 rfl rfl (z_in 19 (by decide) (by decide)) dX13_against_12 ?_
  refine lv_topi (fun y18 ey18 => ?_)
  obtain rfl : y18 = 0 := ey18.trans (by decide +kernel)
  refine lv_aload_n hx hb dX13_against_13 rfl (lv_at hl 2 rfl) ?_
  refine va_get (D := D) (ci := 16) (v := .ref b0) (C := RX13) (T := TX13) (N := 1) hx hb hts iRX13 hown hK hP 2 rfl rfl 0 (by decide) (hts _ q311) (fun _ h9 => h9) rfl dX13_against_14 ?_
  refine lv_iload_n hx hb dX13_against_17 rfl (lv_at hl 0 rfl) ?_
  refine va_iald hx hb hK hP 3 0 rfl rfl (z_in 19 (by decide) (by decide)) dX13_against_18 ?_
  refine lv_topi (fun y19 ey19 => ?_)
  obtain rfl : y19 = 0 := ey19.trans (by decide +kernel)
  refine lv_icmp_eq (tgt := 43) hx hb dX13_against_19 (by decide) (fun _ => ?_) (fun c_19_19 => absurd (by decide +kernel) c_19_19)
  refine lv_iinc (v := 18) (lv' := [(2, .int 18), (0, .ref h0), (1, .ref w0)]) hx hb dX13_against_43 hl (k := 0) rfl (by decide) (by decide) rfl (fun ls hl => ?_)
  refine lv_goto (tgt := 3) hx hb dX13_against_46 (by decide) ?_
  refine lv_iload_n hx hb dX13_against_3 rfl (lv_at hl 0 rfl) ?_
  refine lv_if_lt (tgt := 49) hx hb dX13_against_4 (by decide) (fun c_4_20 => absurd c_4_20 (by decide +kernel)) (fun _ => ?_)
  refine lv_aload_n hx hb dX13_against_7 rfl (lv_at hl 1 rfl) ?_
  refine va_get (D := D) (ci := 16) (v := .ref a0) (C := RX13) (T := TX13) (N := 1) hx hb hts iRX13 hown hK hP 0 rfl rfl 0 (by decide) (hts _ q311) (fun _ h9 => h9) rfl dX13_against_8 ?_
  refine lv_iload_n hx hb dX13_against_11 rfl (lv_at hl 0 rfl) ?_
  refine va_iald hx hb hK hP 1 0 rfl rfl (z_in 18 (by decide) (by decide)) dX13_against_12 ?_
  refine lv_topi (fun y22 ey22 => ?_)
  obtain rfl : y22 = 0 := ey22.trans (by decide +kernel)
  refine lv_aload_n hx hb dX13_against_13 rfl (lv_at hl 2 rfl) ?_
  refine va_get (D := D) (ci := 16) (v := .ref b0) (C := RX13) (T := TX13) (N := 1) hx hb hts iRX13 hown hK hP 2 rfl rfl 0 (by decide) (hts _ q311) (fun _ h9 => h9) rfl dX13_against_14 ?_
  refine lv_iload_n hx hb dX13_against_17 rfl (lv_at hl 0 rfl) ?_
  refine va_iald hx hb hK hP 3 0 rfl rfl (z_in 18 (by decide) (by decide)) dX13_against_18 ?_
  refine lv_topi (fun y23 ey23 => ?_)
  obtain rfl : y23 = 0 := ey23.trans (by decide +kernel)
  refine lv_icmp_eq (tgt := 43) hx hb dX13_against_19 (by decide) (fun _ => ?_) (fun c_19_23 => absurd (by decide +kernel) c_19_23)
  refine lv_iinc (v := 17) (lv' := [(2, .int 17), (0, .ref h0), (1, .ref w0)]) hx hb dX13_against_43 hl (k := 0) rfl (by decide) (by decide) rfl (fun ls hl => ?_)
  refine lv_goto (tgt := 3) hx hb dX13_against_46 (by decide) ?_
  refine lv_iload_n hx hb dX13_against_3 rfl (lv_at hl 0 rfl) ?_
  refine lv_if_lt (tgt := 49) hx hb dX13_against_4 (by decide) (fun c_4_24 => absurd c_4_24 (by decide +kernel)) (fun _ => ?_)
  refine lv_aload_n hx hb dX13_against_7 rfl (lv_at hl 1 rfl) ?_
  refine va_get (D := D) (ci := 16) (v := .ref a0) (C := RX13) (T := TX13) (N := 1) hx hb hts iRX13 hown hK hP 0 rfl rfl 0 (by decide) (hts _ q311) (fun _ h9 => h9) rfl dX13_against_8 ?_
  refine lv_iload_n hx hb dX13_against_11 rfl (lv_at hl 0 rfl) ?_
  refine va_iald hx hb hK hP 1 0 rfl rfl (z_in 17 (by decide) (by decide)) dX13_against_12 ?_
  refine lv_topi (fun y26 ey26 => ?_)
  obtain rfl : y26 = 0 := ey26.trans (by decide +kernel)
  refine lv_aload_n hx hb dX13_against_13 rfl (lv_at hl 2 rfl) ?_
  refine va_get (D := D) (ci := 16) (v := .ref b0) (C := RX13) (T := TX13) (N := 1) hx hb hts iRX13 hown hK hP 2 rfl rfl 0 (by decide) (hts _ q311) (fun _ h9 => h9) rfl dX13_against_14 ?_
  refine lv_iload_n hx hb dX13_against_17 rfl (lv_at hl 0 rfl) ?_
  refine va_iald hx hb hK hP 3 0 rfl rfl (z_in 17 (by decide) (by decide)) dX13_against_18 ?_
  refine lv_topi (fun y27 ey27 => ?_)
  obtain rfl : y27 = 0 := ey27.trans (by decide +kernel)
  refine lv_icmp_eq (tgt := 43) hx hb dX13_against_19 (by decide) (fun _ => ?_) (fun c_19_27 => absurd (by decide +kernel) c_19_27)
  refine lv_iinc (v := 16) (lv' := [(2, .int 16), (0, .ref h0), (1, .ref w0)]) hx hb dX13_against_43 hl (k := 0) rfl (by decide) (by decide) rfl (fun ls hl => ?_)
  refine lv_goto (tgt := 3) hx hb dX13_against_46 (by decide) ?_
  refine lv_iload_n hx hb dX13_against_3 rfl (lv_at hl 0 rfl) ?_
  refine lv_if_lt (tgt := 49) hx hb dX13_against_4 (by decide) (fun c_4_28 => absurd c_4_28 (by decide +kernel)) (fun _ => ?_)
  refine lv_aload_n hx hb dX13_against_7 rfl (lv_at hl 1 rfl) ?_
  refine va_get (D := D) (ci := 16) (v := .ref a0) (C := RX13) (T := TX13) (N := 1) hx hb hts iRX13 hown hK hP 0 rfl rfl 0 (by decide) (hts _ q311) (fun _ h9 => h9) rfl dX13_against_8 ?_
  refine lv_iload_n hx hb dX13_against_11 rfl (lv_at hl 0 rfl) ?_
  refine va_iald hx hb hK hP 1 0 rfl rfl (z_in 16 (by decide) (by decide)) dX13_against_12 ?_
  refine lv_topi (fun y30 ey30 => ?_)
  obtain rfl : y30 = 0 := ey30.trans (by decide +kernel)
  refine lv_aload_n hx hb dX13_against_13 rfl (lv_at hl 2 rfl) ?_
  refine va_get (D := D) (ci := 16) (v := .ref b0) (C := RX13) (T := TX13) (N := 1) hx hb hts iRX13 hown hK hP 2 rfl rfl 0 (by decide) (hts _ q311) (fun _ h9 => h9) rfl dX13_against_14 ?_
  refine lv_iload_n hx hb dX13_against_17 rfl (lv_at hl 0 rfl) ?_
  refine va_iald hx hb hK hP 3 0 rfl rfl (z_in 16 (by decide) (by decide)) dX13_against_18 ?_
  refine lv_topi (fun y31 ey31 => ?_)
  obtain rfl : y31 = 0 := ey31.trans (by decide +kernel)
  refine lv_icmp_eq (tgt := 43) hx hb dX13_against_19 (by decide) (fun _ => ?_) (fun c_19_31 => absurd (by decide +kernel) c_19_31)
  refine lv_iinc (v := 15) (lv' := [(2, .int 15), (0, .ref h0), (1, .ref w0)]) hx hb dX13_against_43 hl (k := 0) rfl (by decide) (by decide) rfl (fun ls hl => ?_)
  refine lv_goto (tgt := 3) hx hb dX13_against_46 (by decide) ?_
  refine lv_iload_n hx hb dX13_against_3 rfl (lv_at hl 0 rfl) ?_
  refine lv_if_lt (tgt := 49) hx hb dX13_against_4 (by decide) (fun c_4_32 => absurd c_4_32 (by decide +kernel)) (fun _ => ?_)
  refine lv_aload_n hx hb dX13_against_7 rfl (lv_at hl 1 rfl) ?_
  refine va_get (D := D) (ci := 16) (v := .ref a0) (C := RX13) (T := TX13) (N := 1) hx hb hts iRX13 hown hK hP 0 rfl rfl 0 (by decide) (hts _ q311) (fun _ h9 => h9) rfl dX13_against_8 ?_
  refine lv_iload_n hx hb dX13_against_11 rfl (lv_at hl 0 rfl) ?_
  refine va_iald hx hb hK hP 1 0 rfl rfl (z_in 15 (by decide) (by decide)) dX13_against_12 ?_
  refine lv_topi (fun y34 ey34 => ?_)
  obtain rfl : y34 = 0 := ey34.trans (by decide +kernel)
  refine lv_aload_n hx hb dX13_against_13 rfl (lv_at hl 2 rfl) ?_
  refine va_get (D := D) (ci := 16) (v := .ref b0) (C := RX13) (T := TX13) (N := 1) hx hb hts iRX13 hown hK hP 2 rfl rfl 0 (by decide) (hts _ q311) (fun _ h9 => h9) rfl dX13_against_14 ?_
  refine lv_iload_n hx hb dX13_against_17 rfl (lv_at hl 0 rfl) ?_
  refine va_iald hx hb hK hP 3 0 rfl rfl (z_in 15 (by decide) (by decide)) dX13_against_18 ?_
  refine lv_topi (fun y35 ey35 => ?_)
  obtain rfl : y35 = 0 := ey35.trans (by decide +kernel)
  refine lv_icmp_eq (tgt := 43) hx hb dX13_against_19 (by decide) (fun _ => ?_) (fun c_19_35 => absurd (by decide +kernel) c_19_35)
  refine lv_iinc (v := 14) (lv' := [(2, .int 14), (0, .ref h0), (1, .ref w0)]) hx hb dX13_against_43 hl (k := 0) rfl (by decide) (by decide) rfl (fun ls hl => ?_)
  refine lv_goto (tgt := 3) hx hb dX13_against_46 (by decide) ?_
  refine lv_iload_n hx hb dX13_against_3 rfl (lv_at hl 0 rfl) ?_
  refine lv_if_lt (tgt := 49) hx hb dX13_against_4 (by decide) (fun c_4_36 => absurd c_4_36 (by decide +kernel)) (fun _ => ?_)
  refine lv_aload_n hx hb dX13_against_7 rfl (lv_at hl 1 rfl) ?_
  refine va_get (D := D) (ci := 16) (v := .ref a0) (C := RX13) (T := TX13) (N := 1) hx hb hts iRX13 hown hK hP 0 rfl rfl 0 (by decide) (hts _ q311) (fun _ h9 => h9) rfl dX13_against_8 ?_
  refine lv_iload_n hx hb dX13_against_11 rfl (lv_at hl 0 rfl) ?_
  refine va_iald hx hb hK hP 1 0 rfl rfl (z_in 14 (by decide) (by decide)) dX13_against_12 ?_
  refine lv_topi (fun y38 ey38 => ?_)
  obtain rfl : y38 = 0 := ey38.trans (by decide +kernel)
  refine lv_aload_n hx hb dX13_against_13 rfl (lv_at hl 2 rfl) ?_
  refine va_get (D := D) (ci := 16) (v := .ref b0) (C := RX13) (T := TX13) (N := 1) hx hb hts iRX13 hown hK hP 2 rfl rfl 0 (by decide) (hts _ q311) (fun _ h9 => h9) rfl dX13_against_14 ?_
  refine lv_iload_n hx hb dX13_against_17 rfl (lv_at hl 0 rfl) ?_
  refine va_iald hx hb hK hP 3 0 rfl rfl (z_in 14 (by decide) (by decide)) dX13_against_18 ?_
  refine lv_topi (fun y39 ey39 => ?_)
  obtain rfl : y39 = 0 := ey39.trans (by decide +kernel)
  refine lv_icmp_eq (tgt := 43) hx hb dX13_against_19 (by decide) (fun _ => ?_) (fun c_19_39 => absurd (by decide +kernel) c_19_39)
  refine lv_iinc (v := 13) (lv' := [(2, .int 13), (0, .ref h0), (1, .ref w0)]) hx hb dX13_against_43 hl (k := 0) rfl (by decide) (by decide) rfl (fun ls hl => ?_)
  refine lv_goto (tgt := 3) hx hb dX13_against_46 (by decide) ?_
  refine lv_iload_n hx hb dX13_against_3 rfl (lv_at hl 0 rfl) ?_
  refine lv_if_lt (tgt := 49) hx hb dX13_against_4 (by decide) (fun c_4_40 => absurd c_4_40 (by decide +kernel)) (fun _ => ?_)
  refine lv_aload_n hx hb dX13_against_7 rfl (lv_at hl 1 rfl) ?_
  refine va_get (D := D) (ci := 16) (v := .ref a0) (C := RX13) (T := TX13) (N := 1) hx hb hts iRX13 hown hK hP 0 rfl rfl 0 (by decide) (hts _ q311) (fun _ h9 => h9) rfl dX13_against_8 ?_
  refine lv_iload_n hx hb dX13_against_11 rfl (lv_at hl 0 rfl) ?_
  refine va_iald hx hb hK hP 1 0 rfl rfl (z_in 13 (by decide) (by decide)) dX13_against_12 ?_
  refine lv_topi (fun y42 ey42 => ?_)
  obtain rfl : y42 = 0 := ey42.trans (by decide +kernel)
  refine lv_aload_n hx hb dX13_against_13 rfl (lv_at hl 2 rfl) ?_
  refine va_get (D := D) (ci := 16) (v := .ref b0) (C := RX13) (T := TX13) (N := 1) hx hb hts iRX13 hown hK hP 2 rfl rfl 0 (by decide) (hts _ q311) (fun _ h9 => h9) rfl dX13_against_14 ?_
  refine lv_iload_n hx hb dX13_against_17 rfl (lv_at hl 0 rfl) ?_
  refine va_iald hx hb hK hP 3 0 rfl rfl (z_in 13 (by decide) (by decide)) dX13_against_18 ?_
  refine lv_topi (fun y43 ey43 => ?_)
  obtain rfl : y43 = 0 := ey43.trans (by decide +kernel)
  refine lv_icmp_eq (tgt := 43) hx hb dX13_against_19 (by decide) (fun _ => ?_) (fun c_19_43 => absurd (by decide +kernel) c_19_43)
  refine lv_iinc (v := 12) (lv' := [(2, .int 12), (0, .ref h0), (1, .ref w0)]) hx hb dX13_against_43 hl (k := 0) rfl (by decide) (by decide) rfl (fun ls hl => ?_)
  refine lv_goto (tgt := 3) hx hb dX13_against_46 (by decide) ?_
  refine lv_iload_n hx hb dX13_against_3 rfl (lv_at hl 0 rfl) ?_
  refine lv_if_lt (tgt := 49) hx hb dX13_against_4 (by decide) (fun c_4_44 => absurd c_4_44 (by decide +kernel)) (fun _ => ?_)
  refine lv_aload_n hx hb dX13_against_7 rfl (lv_at hl 1 rfl) ?_
  refine va_get (D := D) (ci := 16) (v := .ref a0) (C := RX13) (T := TX13) (N := 1) hx hb hts iRX13 hown hK hP 0 rfl rfl 0 (by decide) (hts _ q311) (fun _ h9 => h9) rfl dX13_against_8 ?_
  refine lv_iload_n hx hb dX13_against_11 rfl (lv_at hl 0 rfl) ?_
  refine va_iald hx hb hK hP 1 0 rfl rfl (z_in 12 (by decide) (by decide)) dX13_against_12 ?_
  refine lv_topi (fun y46 ey46 => ?_)
  obtain rfl : y46 = 0 := ey46.trans (by decide +kernel)
  refine lv_aload_n hx hb dX13_against_13 rfl (lv_at hl 2 rfl) ?_
  refine va_get (D := D) (ci := 16) (v := .ref b0) (C := RX13) (T := TX13) (N := 1) hx hb hts iRX13 hown hK hP 2 rfl rfl 0 (by decide) (hts _ q311) (fun _ h9 => h9) rfl dX13_against_14 ?_
  refine lv_iload_n hx hb dX13_against_17 rfl (lv_at hl 0 rfl) ?_
  refine va_iald hx hb hK hP 3 0 rfl rfl (z_in 12 (by decide) (by decide)) dX13_against_18 ?_
  refine lv_topi (fun y47 ey47 => ?_)
  obtain rfl : y47 = 0 := ey47.trans (by decide +kernel)
  refine lv_icmp_eq (tgt := 43) hx hb dX13_against_19 (by decide) (fun _ => ?_) (fun c_19_47 => absurd (by decide +kernel) c_19_47)
  refine lv_iinc (v := 11) (lv' := [(2, .int 11), (0, .ref h0), (1, .ref w0)]) hx hb dX13_against_43 hl (k := 0) rfl (by decide) (by decide) rfl (fun ls hl => ?_)
  refine lv_goto (tgt := 3) hx hb dX13_against_46 (by decide) ?_
  refine lv_iload_n hx hb dX13_against_3 rfl (lv_at hl 0 rfl) ?_
  refine lv_if_lt (tgt := 49) hx hb dX13_against_4 (by decide) (fun c_4_48 => absurd c_4_48 (by decide +kernel)) (fun _ => ?_)
  refine lv_aload_n hx hb dX13_against_7 rfl (lv_at hl 1 rfl) ?_
  refine va_get (D := D) (ci := 16) (v := .ref a0) (C := RX13) (T := TX13) (N := 1) hx hb hts iRX13 hown hK hP 0 rfl rfl 0 (by decide) (hts _ q311) (fun _ h9 => h9) rfl dX13_against_8 ?_
  refine lv_iload_n hx hb dX13_against_11 rfl (lv_at hl 0 rfl) ?_
  refine va_iald hx hb hK hP 1 0 rfl rfl (z_in 11 (by decide) (by decide)) dX13_against_12 ?_
  refine lv_topi (fun y50 ey50 => ?_)
  obtain rfl : y50 = 0 := ey50.trans (by decide +kernel)
  refine lv_aload_n hx hb dX13_against_13 rfl (lv_at hl 2 rfl) ?_
  refine va_get (D := D) (ci := 16) (v := .ref b0) (C := RX13) (T := TX13) (N := 1) hx hb hts iRX13 hown hK hP 2 rfl rfl 0 (by decide) (hts _ q311) (fun _ h9 => h9) rfl dX13_against_14 ?_
  refine lv_iload_n hx hb dX13_against_17 rfl (lv_at hl 0 rfl) ?_
  refine va_iald hx hb hK hP 3 0 rfl rfl (z_in 11 (by decide) (by decide)) dX13_against_18 ?_
  refine lv_topi (fun y51 ey51 => ?_)
  obtain rfl : y51 = 0 := ey51.trans (by decide +kernel)
  refine lv_icmp_eq (tgt := 43) hx hb dX13_against_19 (by decide) (fun _ => ?_) (fun c_19_51 => absurd (by decide +kernel) c_19_51)
  refine lv_iinc (v := 10) (lv' := [(2, .int 10), (0, .ref h0), (1, .ref w0)]) hx hb dX13_against_43 hl (k := 0) rfl (by decide) (by decide) rfl (fun ls hl => ?_)
  refine lv_goto (tgt := 3) hx hb dX13_against_46 (by decide) ?_
  refine lv_iload_n hx hb dX13_against_3 rfl (lv_at hl 0 rfl) ?_
  refine lv_if_lt (tgt := 49) hx hb dX13_against_4 (by decide) (fun c_4_52 => absurd c_4_52 (by decide +kernel)) (fun _ => ?_)
  refine lv_aload_n hx hb dX13_against_7 rfl (lv_at hl 1 rfl) ?_
  refine va_get (D := D) (ci := 16) (v := .ref a0) (C := RX13) (T := TX13) (N := 1) hx hb hts iRX13 hown hK hP 0 rfl rfl 0 (by decide) (hts _ q311) (fun _ h9 => h9) rfl dX13_against_8 ?_
  refine lv_iload_n hx hb dX13_against_11 rfl (lv_at hl 0 rfl) ?_
  refine va_iald hx hb hK hP 1 0 rfl rfl (z_in 10 (by decide) (by decide)) dX13_against_12 ?_
  refine lv_topi (fun y54 ey54 => ?_)
  obtain rfl : y54 = 0 := ey54.trans (by decide +kernel)
  refine lv_aload_n hx hb dX13_against_13 rfl (lv_at hl 2 rfl) ?_
  refine va_get (D := D) (ci := 16) (v := .ref b0) (C := RX13) (T := TX13) (N := 1) hx hb hts iRX13 hown hK hP 2 rfl rfl 0 (by decide) (hts _ q311) (fun _ h9 => h9) rfl dX13_against_14 ?_
  refine lv_iload_n hx hb dX13_against_17 rfl (lv_at hl 0 rfl) ?_
  refine va_iald hx hb hK hP 3 0 rfl rfl (z_in 10 (by decide) (by decide)) dX13_against_18 ?_
  refine lv_topi (fun y55 ey55 => ?_)
  obtain rfl : y55 = 0 := ey55.trans (by decide +kernel)
  refine lv_icmp_eq (tgt := 43) hx hb dX13_against_19 (by decide) (fun _ => ?_) (fun c_19_55 => absurd (by decide +kernel) c_19_55)
  refine lv_iinc (v := 9) (lv' := [(2, .int 9), (0, .ref h0), (1, .ref w0)]) hx hb dX13_against_43 hl (k := 0) rfl (by decide) (by decide) rfl (fun ls hl => ?_)
  refine lv_goto (tgt := 3) hx hb dX13_against_46 (by decide) ?_
  refine lv_iload_n hx hb dX13_against_3 rfl (lv_at hl 0 rfl) ?_
  refine lv_if_lt (tgt := 49) hx hb dX13_against_4 (by decide) (fun c_4_56 => absurd c_4_56 (by decide +kernel)) (fun _ => ?_)
  refine lv_aload_n hx hb dX13_against_7 rfl (lv_at hl 1 rfl) ?_
  refine va_get (D := D) (ci := 16) (v := .ref a0) (C := RX13) (T := TX13) (N := 1) hx hb hts iRX13 hown hK hP 0 rfl rfl 0 (by decide) (hts _ q311) (fun _ h9 => h9) rfl dX13_against_8 ?_
  refine lv_iload_n hx hb dX13_against_11 rfl (lv_at hl 0 rfl) ?_
  refine va_iald hx hb hK hP 1 0 rfl rfl (z_in 9 (by decide) (by decide)) dX13_against_12 ?_
  refine lv_topi (fun y58 ey58 => ?_)
  obtain rfl : y58 = 0 := ey58.trans (by decide +kernel)
  refine lv_aload_n hx hb dX13_against_13 rfl (lv_at hl 2 rfl) ?_
  refine va_get (D := D) (ci := 16) (v := .ref b0) (C := RX13) (T := TX13) (N := 1) hx hb hts iRX13 hown hK hP 2 rfl rfl 0 (by decide) (hts _ q311) (fun _ h9 => h9) rfl dX13_against_14 ?_
  refine lv_iload_n hx hb dX13_against_17 rfl (lv_at hl 0 rfl) ?_
  refine va_iald hx hb hK hP 3 0 rfl rfl (z_in 9 (by decide) (by decide)) dX13_against_18 ?_
  refine lv_topi (fun y59 ey59 => ?_)
  obtain rfl : y59 = 0 := ey59.trans (by decide +kernel)
  refine lv_icmp_eq (tgt := 43) hx hb dX13_against_19 (by decide) (fun _ => ?_) (fun c_19_59 => absurd (by decide +kernel) c_19_59)
  refine lv_iinc (v := 8) (lv' := [(2, .int 8), (0, .ref h0), (1, .ref w0)]) hx hb dX13_against_43 hl (k := 0) rfl (by decide) (by decide) rfl (fun ls hl => ?_)
  refine lv_goto (tgt := 3) hx hb dX13_against_46 (by decide) ?_
  refine lv_iload_n hx hb dX13_against_3 rfl (lv_at hl 0 rfl) ?_
  refine lv_if_lt (tgt := 49) hx hb dX13_against_4 (by decide) (fun c_4_60 => absurd c_4_60 (by decide +kernel)) (fun _ => ?_)
  refine lv_aload_n hx hb dX13_against_7 rfl (lv_at hl 1 rfl) ?_
  refine va_get (D := D) (ci := 16) (v := .ref a0) (C := RX13) (T := TX13) (N := 1) hx hb hts iRX13 hown hK hP 0 rfl rfl 0 (by decide) (hts _ q311) (fun _ h9 => h9) rfl dX13_against_8 ?_
  refine lv_iload_n hx hb dX13_against_11 rfl (lv_at hl 0 rfl) ?_
  refine va_iald hx hb hK hP 1 0 rfl rfl (z_in 8 (by decide) (by decide)) dX13_against_12 ?_
  refine lv_topi (fun y62 ey62 => ?_)
  obtain rfl : y62 = 0 := ey62.trans (by decide +kernel)
  refine lv_aload_n hx hb dX13_against_13 rfl (lv_at hl 2 rfl) ?_
  refine va_get (D := D) (ci := 16) (v := .ref b0) (C := RX13) (T := TX13) (N := 1) hx hb hts iRX13 hown hK hP 2 rfl rfl 0 (by decide) (hts _ q311) (fun _ h9 => h9) rfl dX13_against_14 ?_
  refine lv_iload_n hx hb dX13_against_17 rfl (lv_at hl 0 rfl) ?_
  refine va_iald hx hb hK hP 3 0 rfl rfl (z_in 8 (by decide) (by decide)) dX13_against_18 ?_
  refine lv_topi (fun y63 ey63 => ?_)
  obtain rfl : y63 = 0 := ey63.trans (by decide +kernel)
  refine lv_icmp_eq (tgt := 43) hx hb dX13_against_19 (by decide) (fun _ => ?_) (fun c_19_63 => absurd (by decide +kernel) c_19_63)
  refine lv_iinc (v := 7) (lv' := [(2, .int 7), (0, .ref h0), (1, .ref w0)]) hx hb dX13_against_43 hl (k := 0) rfl (by decide) (by decide) rfl (fun ls hl => ?_)
  refine lv_goto (tgt := 3) hx hb dX13_against_46 (by decide) ?_
  refine lv_iload_n hx hb dX13_against_3 rfl (lv_at hl 0 rfl) ?_
  refine lv_if_lt (tgt := 49) hx hb dX13_against_4 (by decide) (fun c_4_64 => absurd c_4_64 (by decide +kernel)) (fun _ => ?_)
  refine lv_aload_n hx hb dX13_against_7 rfl (lv_at hl 1 rfl) ?_
  refine va_get (D := D) (ci := 16) (v := .ref a0) (C := RX13) (T := TX13) (N := 1) hx hb hts iRX13 hown hK hP 0 rfl rfl 0 (by decide) (hts _ q311) (fun _ h9 => h9) rfl dX13_against_8 ?_
  refine lv_iload_n hx hb dX13_against_11 rfl (lv_at hl 0 rfl) ?_
  refine va_iald hx hb hK hP 1 0 rfl rfl (z_in 7 (by decide) (by decide)) dX13_against_12 ?_
  refine lv_topi (fun y66 ey66 => ?_)
  obtain rfl : y66 = 0 := ey66.trans (by decide +kernel)
  refine lv_aload_n hx hb dX13_against_13 rfl (lv_at hl 2 rfl) ?_
  refine va_get (D := D) (ci := 16) (v := .ref b0) (C := RX13) (T := TX13) (N := 1) hx hb hts iRX13 hown hK hP 2 rfl rfl 0 (by decide) (hts _ q311) (fun _ h9 => h9) rfl dX13_against_14 ?_
  refine lv_iload_n hx hb dX13_against_17 rfl (lv_at hl 0 rfl) ?_
  refine va_iald hx hb hK hP 3 0 rfl rfl (z_in 7 (by decide) (by decide)) dX13_against_18 ?_
  refine lv_topi (fun y67 ey67 => ?_)
  obtain rfl : y67 = 0 := ey67.trans (by decide +kernel)
  refine lv_icmp_eq (tgt := 43) hx hb dX13_against_19 (by decide) (fun _ => ?_) (fun c_19_67 => absurd (by decide +kernel) c_19_67)
  refine lv_iinc (v := 6) (lv' := [(2, .int 6), (0, .ref h0), (1, .ref w0)]) hx hb dX13_against_43 hl (k := 0) rfl (by decide) (by decide) rfl (fun ls hl => ?_)
  refine lv_goto (tgt := 3) hx hb dX13_against_46 (by decide) ?_
  refine lv_iload_n hx hb dX13_against_3 rfl (lv_at hl 0 rfl) ?_
  refine lv_if_lt (tgt := 49) hx hb dX13_against_4 (by decide) (fun c_4_68 => absurd c_4_68 (by decide +kernel)) (fun _ => ?_)
  refine lv_aload_n hx hb dX13_against_7 rfl (lv_at hl 1 rfl) ?_
  refine va_get (D := D) (ci := 16) (v := .ref a0) (C := RX13) (T := TX13) (N := 1) hx hb hts iRX13 hown hK hP 0 rfl rfl 0 (by decide) (hts _ q311) (fun _ h9 => h9) rfl dX13_against_8 ?_
  refine lv_iload_n hx hb dX13_against_11 rfl (lv_at hl 0 rfl) ?_
  refine va_iald hx hb hK hP 1 0 rfl rfl (z_in 6 (by decide) (by decide)) dX13_against_12 ?_
  refine lv_topi (fun y70 ey70 => ?_)
  obtain rfl : y70 = 0 := ey70.trans (by decide +kernel)
  refine lv_aload_n hx hb dX13_against_13 rfl (lv_at hl 2 rfl) ?_
  refine va_get (D := D) (ci := 16) (v := .ref b0) (C := RX13) (T := TX13) (N := 1) hx hb hts iRX13 hown hK hP 2 rfl rfl 0 (by decide) (hts _ q311) (fun _ h9 => h9) rfl dX13_against_14 ?_
  refine lv_iload_n hx hb dX13_against_17 rfl (lv_at hl 0 rfl) ?_
  refine va_iald hx hb hK hP 3 0 rfl rfl (z_in 6 (by decide) (by decide)) dX13_against_18 ?_
  refine lv_topi (fun y71 ey71 => ?_)
  obtain rfl : y71 = 0 := ey71.trans (by decide +kernel)
  refine lv_icmp_eq (tgt := 43) hx hb dX13_against_19 (by decide) (fun _ => ?_) (fun c_19_71 => absurd (by decide +kernel) c_19_71)
  refine lv_iinc (v := 5) (lv' := [(2, .int 5), (0, .ref h0), (1, .ref w0)]) hx hb dX13_against_43 hl (k := 0) rfl (by decide) (by decide) rfl (fun ls hl => ?_)
  refine lv_goto (tgt := 3) hx hb dX13_against_46 (by decide) ?_
  refine lv_iload_n hx hb dX13_against_3 rfl (lv_at hl 0 rfl) ?_
  refine lv_if_lt (tgt := 49) hx hb dX13_against_4 (by decide) (fun c_4_72 => absurd c_4_72 (by decide +kernel)) (fun _ => ?_)
  refine lv_aload_n hx hb dX13_against_7 rfl (lv_at hl 1 rfl) ?_
  refine va_get (D := D) (ci := 16) (v := .ref a0) (C := RX13) (T := TX13) (N := 1) hx hb hts iRX13 hown hK hP 0 rfl rfl 0 (by decide) (hts _ q311) (fun _ h9 => h9) rfl dX13_against_8 ?_
  refine lv_iload_n hx hb dX13_against_11 rfl (lv_at hl 0 rfl) ?_
  refine va_iald hx hb hK hP 1 0 rfl rfl (z_in 5 (by decide) (by decide)) dX13_against_12 ?_
  refine lv_topi (fun y74 ey74 => ?_)
  obtain rfl : y74 = 0 := ey74.trans (by decide +kernel)
  refine lv_aload_n hx hb dX13_against_13 rfl (lv_at hl 2 rfl) ?_
  refine va_get (D := D) (ci := 16) (v := .ref b0) (C := RX13) (T := TX13) (N := 1) hx hb hts iRX13 hown hK hP 2 rfl rfl 0 (by decide) (hts _ q311) (fun _ h9 => h9) rfl dX13_against_14 ?_
  refine lv_iload_n hx hb dX13_against_17 rfl (lv_at hl 0 rfl) ?_
  refine va_iald hx hb hK hP 3 0 rfl rfl (z_in 5 (by decide) (by decide)) dX13_against_18 ?_
  refine lv_topi (fun y75 ey75 => ?_)
  obtain rfl : y75 = 0 := ey75.trans (by decide +kernel)
  refine lv_icmp_eq (tgt := 43) hx hb dX13_against_19 (by decide) (fun _ => ?_) (fun c_19_75 => absurd (by decide +kernel) c_19_75)
  refine lv_iinc (v := 4) (lv' := [(2, .int 4), (0, .ref h0), (1, .ref w0)]) hx hb dX13_against_43 hl (k := 0) rfl (by decide) (by decide) rfl (fun ls hl => ?_)
  refine lv_goto (tgt := 3) hx hb dX13_against_46 (by decide) ?_
  refine lv_iload_n hx hb dX13_against_3 rfl (lv_at hl 0 rfl) ?_
  refine lv_if_lt (tgt := 49) hx hb dX13_against_4 (by decide) (fun c_4_76 => absurd c_4_76 (by decide +kernel)) (fun _ => ?_)
  refine lv_aload_n hx hb dX13_against_7 rfl (lv_at hl 1 rfl) ?_
  refine va_get (D := D) (ci := 16) (v := .ref a0) (C := RX13) (T := TX13) (N := 1) hx hb hts iRX13 hown hK hP 0 rfl rfl 0 (by decide) (hts _ q311) (fun _ h9 => h9) rfl dX13_against_8 ?_
  refine lv_iload_n hx hb dX13_against_11 rfl (lv_at hl 0 rfl) ?_
  refine va_iald hx hb hK hP 1 0 rfl rfl (z_in 4 (by decide) (by decide)) dX13_against_12 ?_
  refine lv_topi (fun y78 ey78 => ?_)
  obtain rfl : y78 = 0 := ey78.trans (by decide +kernel)
  refine lv_aload_n hx hb dX13_against_13 rfl (lv_at hl 2 rfl) ?_
  refine va_get (D := D) (ci := 16) (v := .ref b0) (C := RX13) (T := TX13) (N := 1) hx hb hts iRX13 hown hK hP 2 rfl rfl 0 (by decide) (hts _ q311) (fun _ h9 => h9) rfl dX13_against_14 ?_
  refine lv_iload_n hx hb dX13_against_17 rfl (lv_at hl 0 rfl) ?_
  refine va_iald hx hb hK hP 3 0 rfl rfl (z_in 4 (by decide) (by decide)) dX13_against_18 ?_
  refine lv_topi (fun y79 ey79 => ?_)
  obtain rfl : y79 = 0 := ey79.trans (by decide +kernel)
  refine lv_icmp_eq (tgt := 43) hx hb dX13_against_19 (by decide) (fun _ => ?_) (fun c_19_79 => absurd (by decide +kernel) c_19_79)
  refine lv_iinc (v := 3) (lv' := [(2, .int 3), (0, .ref h0), (1, .ref w0)]) hx hb dX13_against_43 hl (k := 0) rfl (by decide) (by decide) rfl (fun ls hl => ?_)
  refine lv_goto (tgt := 3) hx hb dX13_against_46 (by decide) ?_
  refine lv_iload_n hx hb dX13_against_3 rfl (lv_at hl 0 rfl) ?_
  refine lv_if_lt (tgt := 49) hx hb dX13_against_4 (by decide) (fun c_4_80 => absurd c_4_80 (by decide +kernel)) (fun _ => ?_)
  refine lv_aload_n hx hb dX13_against_7 rfl (lv_at hl 1 rfl) ?_
  refine va_get (D := D) (ci := 16) (v := .ref a0) (C := RX13) (T := TX13) (N := 1) hx hb hts iRX13 hown hK hP 0 rfl rfl 0 (by decide) (hts _ q311) (fun _ h9 => h9) rfl dX13_against_8 ?_
  refine lv_iload_n hx hb dX13_against_11 rfl (lv_at hl 0 rfl) ?_
  refine va_iald hx hb hK hP 1 0 rfl rfl (z_in 3 (by decide) (by decide)) dX13_against_12 ?_
  refine lv_topi (fun y82 ey82 => ?_)
  obtain rfl : y82 = 0 := ey82.trans (by decide +kernel)
  refine lv_aload_n hx hb dX13_against_13 rfl (lv_at hl 2 rfl) ?_
  refine va_get (D := D) (ci := 16) (v := .ref b0) (C := RX13) (T := TX13) (N := 1) hx hb hts iRX13 hown hK hP 2 rfl rfl 0 (by decide) (hts _ q311) (fun _ h9 => h9) rfl dX13_against_14 ?_
  refine lv_iload_n hx hb dX13_against_17 rfl (lv_at hl 0 rfl) ?_
  refine va_iald hx hb hK hP 3 0 rfl rfl (z_in 3 (by decide) (by decide)) dX13_against_18 ?_
  refine lv_topi (fun y83 ey83 => ?_)
  obtain rfl : y83 = 0 := ey83.trans (by decide +kernel)
  refine lv_icmp_eq (tgt := 43) hx hb dX13_against_19 (by decide) (fun _ => ?_) (fun c_19_83 => absurd (by decide +kernel) c_19_83)
  refine lv_iinc (v := 2) (lv' := [(2, .int 2), (0, .ref h0), (1, .ref w0)]) hx hb dX13_against_43 hl (k := 0) rfl (by decide) (by decide) rfl (fun ls hl => ?_)
  refine lv_goto (tgt := 3) hx hb dX13_against_46 (by decide) ?_
  refine lv_iload_n hx hb dX13_against_3 rfl (lv_at hl 0 rfl) ?_
  refine lv_if_lt (tgt := 49) hx hb dX13_against_4 (by decide) (fun c_4_84 => absurd c_4_84 (by decide +kernel)) (fun _ => ?_)
  refine lv_aload_n hx hb dX13_against_7 rfl (lv_at hl 1 rfl) ?_
  refine va_get (D := D) (ci := 16) (v := .ref a0) (C := RX13) (T := TX13) (N := 1) hx hb hts iRX13 hown hK hP 0 rfl rfl 0 (by decide) (hts _ q311) (fun _ h9 => h9) rfl dX13_against_8 ?_
  refine lv_iload_n hx hb dX13_against_11 rfl (lv_at hl 0 rfl) ?_
  refine va_iald hx hb hK hP 1 0 rfl rfl (z_in 2 (by decide) (by decide)) dX13_against_12 ?_
  refine lv_topi (fun y86 ey86 => ?_)
  obtain rfl : y86 = 0 := ey86.trans (by decide +kernel)
  refine lv_aload_n hx hb dX13_against_13 rfl (lv_at hl 2 rfl) ?_
  refine va_get (D := D) (ci := 16) (v := .ref b0) (C := RX13) (T := TX13) (N := 1) hx hb hts iRX13 hown hK hP 2 rfl rfl 0 (by decide) (hts _ q311) (fun _ h9 => h9) rfl dX13_against_14 ?_
  refine lv_iload_n hx hb dX13_against_17 rfl (lv_at hl 0 rfl) ?_
  refine va_iald hx hb hK hP 3 0 rfl rfl (z_in 2 (by decide) (by decide)) dX13_against_18 ?_
  refine lv_topi (fun y87 ey87 => ?_)
  obtain rfl : y87 = 0 := ey87.trans (by decide +kernel)
  refine lv_icmp_eq (tgt := 43) hx hb dX13_against_19 (by decide) (fun _ => ?_) (fun c_19_87 => absurd (by decide +kernel) c_19_87)
  refine lv_iinc (v := 1) (lv' := [(2, .int 1), (0, .ref h0), (1, .ref w0)]) hx hb dX13_against_43 hl (k := 0) rfl (by decide) (by decide) rfl (fun ls hl => ?_)
  refine lv_goto (tgt := 3) hx hb dX13_against_46 (by decide) ?_
  refine lv_iload_n hx hb dX13_against_3 rfl (lv_at hl 0 rfl) ?_
  refine lv_if_lt (tgt := 49) hx hb dX13_against_4 (by decide) (fun c_4_88 => absurd c_4_88 (by decide +kernel)) (fun _ => ?_)
  refine lv_aload_n hx hb dX13_against_7 rfl (lv_at hl 1 rfl) ?_
  refine va_get (D := D) (ci := 16) (v := .ref a0) (C := RX13) (T := TX13) (N := 1) hx hb hts iRX13 hown hK hP 0 rfl rfl 0 (by decide) (hts _ q311) (fun _ h9 => h9) rfl dX13_against_8 ?_
  refine lv_iload_n hx hb dX13_against_11 rfl (lv_at hl 0 rfl) ?_
  refine va_iald hx hb hK hP 1 0 rfl rfl (z_in 1 (by decide) (by decide)) dX13_against_12 ?_
  refine lv_topi (fun y90 ey90 => ?_)
  obtain rfl : y90 = 0 := ey90.trans (by decide +kernel)
  refine lv_aload_n hx hb dX13_against_13 rfl (lv_at hl 2 rfl) ?_
  refine va_get (D := D) (ci := 16) (v := .ref b0) (C := RX13) (T := TX13) (N := 1) hx hb hts iRX13 hown hK hP 2 rfl rfl 0 (by decide) (hts _ q311) (fun _ h9 => h9) rfl dX13_against_14 ?_
  refine lv_iload_n hx hb dX13_against_17 rfl (lv_at hl 0 rfl) ?_
  refine va_iald hx hb hK hP 3 0 rfl rfl (z_in 1 (by decide) (by decide)) dX13_against_18 ?_
  refine lv_topi (fun y91 ey91 => ?_)
  obtain rfl : y91 = 0 := ey91.trans (by decide +kernel)
  refine lv_icmp_eq (tgt := 43) hx hb dX13_against_19 (by decide) (fun _ => ?_) (fun c_19_91 => absurd (by decide +kernel) c_19_91)
  refine lv_iinc (v := 0) (lv' := [(2, .int 0), (0, .ref h0), (1, .ref w0)]) hx hb dX13_against_43 hl (k := 0) rfl (by decide) (by decide) rfl (fun ls hl => ?_)
  refine lv_goto (tgt := 3) hx hb dX13_against_46 (by decide) ?_
  refine lv_iload_n hx hb dX13_against_3 rfl (lv_at hl 0 rfl) ?_
  refine lv_if_lt (tgt := 49) hx hb dX13_against_4 (by decide) (fun c_4_92 => absurd c_4_92 (by decide +kernel)) (fun _ => ?_)
  refine lv_aload_n hx hb dX13_against_7 rfl (lv_at hl 1 rfl) ?_
  refine va_get (D := D) (ci := 16) (v := .ref a0) (C := RX13) (T := TX13) (N := 1) hx hb hts iRX13 hown hK hP 0 rfl rfl 0 (by decide) (hts _ q311) (fun _ h9 => h9) rfl dX13_against_8 ?_
  refine lv_iload_n hx hb dX13_against_11 rfl (lv_at hl 0 rfl) ?_
  refine va_iald hx hb hK hP 1 0 rfl rfl (z_in 0 (by decide) (by decide)) dX13_against_12 ?_
  refine lv_topi (fun y94 ey94 => ?_)
  obtain rfl : y94 = 1 := ey94.trans (by decide +kernel)
  refine lv_aload_n hx hb dX13_against_13 rfl (lv_at hl 2 rfl) ?_
  refine va_get (D := D) (ci := 16) (v := .ref b0) (C := RX13) (T := TX13) (N := 1) hx hb hts iRX13 hown hK hP 2 rfl rfl 0 (by decide) (hts _ q311) (fun _ h9 => h9) rfl dX13_against_14 ?_
  refine lv_iload_n hx hb dX13_against_17 rfl (lv_at hl 0 rfl) ?_
  refine va_iald hx hb hK hP 3 0 rfl rfl (z_in 0 (by decide) (by decide)) dX13_against_18 ?_
  refine lv_topi (fun y95 ey95 => ?_)
  obtain rfl : y95 = 0 := ey95.trans (by decide +kernel)
  refine lv_icmp_eq (tgt := 43) hx hb dX13_against_19 (by decide) (fun c_19_95 => absurd c_19_95 (by decide +kernel)) (fun _ => ?_)
  refine lv_aload_n hx hb dX13_against_22 rfl (lv_at hl 1 rfl) ?_
  refine va_get (D := D) (ci := 16) (v := .ref a0) (C := RX13) (T := TX13) (N := 1) hx hb hts iRX13 hown hK hP 0 rfl rfl 0 (by decide) (hts _ q311) (fun _ h9 => h9) rfl dX13_against_23 ?_
  refine lv_iload_n hx hb dX13_against_26 rfl (lv_at hl 0 rfl) ?_
  refine va_iald hx hb hK hP 1 0 rfl rfl (z_in 0 (by decide) (by decide)) dX13_against_27 ?_
  refine lv_topi (fun y97 ey97 => ?_)
  obtain rfl : y97 = 1 := ey97.trans (by decide +kernel)
  refine lv_aload_n hx hb dX13_against_28 rfl (lv_at hl 2 rfl) ?_
  refine va_get (D := D) (ci := 16) (v := .ref b0) (C := RX13) (T := TX13) (N := 1) hx hb hts iRX13 hown hK hP 2 rfl rfl 0 (by decide) (hts _ q311) (fun _ h9 => h9) rfl dX13_against_29 ?_
  refine lv_iload_n hx hb dX13_against_32 rfl (lv_at hl 0 rfl) ?_
  refine va_iald hx hb hK hP 3 0 rfl rfl (z_in 0 (by decide) (by decide)) dX13_against_33 ?_
  refine lv_topi (fun y98 ey98 => ?_)
  obtain rfl : y98 = 0 := ey98.trans (by decide +kernel)
  refine lv_icmp_le (tgt := 41) hx hb dX13_against_34 (by decide) (fun c_34_98 => absurd c_34_98 (by decide +kernel)) (fun _ => ?_)
  refine lv_iconst (v := 1) hx hb dX13_against_37 (by decide) ?_
  refine lv_goto (tgt := 42) hx hb dX13_against_38 (by decide) ?_
  have hP9 := hP.sub (ws' := [(w0, .inr (16, [.ref b0])), (b0, .inl (cy 0, 24, .inl (zE 0)))]) [2, 3] rfl
  have hD9 := hD.sub (ws' := [(w0, .inr (16, [.ref b0])), (b0, .inl (cy 0, 24, .inl (zE 0)))]) [2, 3] (by decide) rfl
  refine W.widen (k := 0) (n := 0) (Nat.le_of_ble_eq_true rfl) (Nat.le_of_ble_eq_true rfl) ?_
  rw [hQe]
  exact W.iret (v := 1) hx hb hr (fun t ht hW => ⟨⟨1, (), rfl, rfl, ⟨by rw [ht]; exact hP9, hD9⟩⟩, hS.F ht⟩) hS.2.2 dX13_against_42
set_option maxHeartbeats 4000000 in
set_option maxRecDepth 100000 in
/-- 0 against 0 -/
theorem k_against_0_0 (l : Launch) (D : va_G) (cy : Nat → ClassId) (h0 : Nat) (a0 : Nat) (w0 : Nat) (b0 : Nat) (sz : Nat)  : Met l yX13_against (wz yX13_against cX13_against 3 (some .int)) ({ frames := 0, cells := 0, slots := 0, locals := 0 } : Room) (va_Pc [.ref h0, .ref w0] (zPre vwCl D cy [(h0, .inr (16, [.ref a0])), (a0, .inl (cy 0, 24, .inl (zE 0))), (w0, .inr (16, [.ref b0])), (b0, .inl (cy 0, 24, .inl (zE 0)))] sz)) (va_Qi (fun (r : Int32) (_ : Unit) => r = 0) (fun (u : Unit) t => zPost vwCl D (va_A [(h0, .inr (16, [.ref a0])), (a0, .inl (cy 0, 24, .inl (zE 0))), (w0, .inr (16, [.ref b0])), (b0, .inl (cy 0, 24, .inl (zE 0)))] sz) [(w0, .inr (16, [.ref b0])), (b0, .inl (cy 0, 24, .inl (zE 0)))] t) (va_A [(h0, .inr (16, [.ref a0])), (a0, .inl (cy 0, 24, .inl (zE 0))), (w0, .inr (16, [.ref b0])), (b0, .inl (cy 0, 24, .inl (zE 0)))] sz)) 0 0 (va_A [(h0, .inr (16, [.ref a0])), (a0, .inl (cy 0, 24, .inl (zE 0))), (w0, .inr (16, [.ref b0])), (b0, .inl (cy 0, 24, .inl (zE 0)))] sz) := by
  refine Met.ofW (cc := cX13_against) (maxL := 3) (ret := (some .int)) (by decide) rfl ?_
  intro p e s m args below meth c s₁ B hml hv
  obtain ⟨rfl, hsz, hP, hK, hD0, hX, hY⟩ := hv
  have hx := B.exec
  have hb := B.bytes
  have hr := B.returns
  have hts0 := atoms_spec (ws := wz yX13_against cX13_against 3 (some .int)) B.pre
  have hts : ∀ w ∈ wAll, w.before _ s = true := fun w h => hts0 w (List.mem_cons_of_mem _ h)
  have hown : s.vm.findClass RX13 = some m.cls := findClass_of_methodNamed B.named
  have hlocks := B.notSynchronized
  subst hsz
  have hD := hD0.self (sz := s.heap.size)
  generalize hAe : va_A [(h0, .inr (16, [.ref a0])), (a0, .inl (cy 0, 24, .inl (zE 0))), (w0, .inr (16, [.ref b0])), (b0, .inl (cy 0, 24, .inl (zE 0)))] s.heap.size = A at hD hY ⊢
  have hA : ∀ q : Nat, s.heap.size ≤ q → A q := fun q h => by rw [← hAe]; exact Or.inr h
  have hS : va_S A s.heap s.heap [] := va_S.rf
  have hP : va_P D vwCl [(h0, .inr (16, [.ref a0])), (a0, .inl (cy 0, 24, .inl (zE 0))), (w0, .inr (16, [.ref b0])), (b0, .inl (cy 0, 24, .inl (zE 0)))] s.heap := hP
  have hl := lv_entry ([.ref h0, .ref w0]) (n := 3) (Nat.le_of_ble_eq_true rfl)
  rw [lg_entry_eq]
  generalize (lg_sl ([.ref h0, .ref w0]) ++ List.replicate (3 - (lg_sl ([.ref h0, .ref w0])).length) Slot.unset).toArray = ls at hl ⊢
  have hl : lv_has ls 3 [(0, .ref h0), (1, .ref w0)] := hl
  refine z_anyQ (fun Q hQe => ?_)
  refine lv_bipush (v := 23) hx hb dX13_against_0 (by decide) ?_
  refine lv_istore_n (lv' := [(2, .int 23), (0, .ref h0), (1, .ref w0)]) hx hb dX13_against_2 rfl hl (by decide) rfl (fun ls hl => ?_)
  refine lv_iload_n hx hb dX13_against_3 rfl (lv_at hl 0 rfl) ?_
  refine lv_if_lt (tgt := 49) hx hb dX13_against_4 (by decide) (fun c_4_0 => absurd c_4_0 (by decide +kernel)) (fun _ => ?_)
  refine lv_aload_n hx hb dX13_against_7 rfl (lv_at hl 1 rfl) ?_
  refine va_get (D := D) (ci := 16) (v := .ref a0) (C := RX13) (T := TX13) (N := 1) hx hb hts iRX13 hown hK hP 0 rfl rfl 0 (by decide) (hts _ q311) (fun _ h9 => h9) rfl dX13_against_8 ?_
  refine lv_iload_n hx hb dX13_against_11 rfl (lv_at hl 0 rfl) ?_
  refine va_iald hx hb hK hP 1 0 rfl rfl (z_in 23 (by decide) (by decide)) dX13_against_12 ?_
  refine lv_topi (fun y2 ey2 => ?_)
  obtain rfl : y2 = 0 := ey2.trans (by decide +kernel)
  refine lv_aload_n hx hb dX13_against_13 rfl (lv_at hl 2 rfl) ?_
  refine va_get (D := D) (ci := 16) (v := .ref b0) (C := RX13) (T := TX13) (N := 1) hx hb hts iRX13 hown hK hP 2 rfl rfl 0 (by decide) (hts _ q311) (fun _ h9 => h9) rfl dX13_against_14 ?_
  refine lv_iload_n hx hb dX13_against_17 rfl (lv_at hl 0 rfl) ?_
  refine va_iald hx hb hK hP 3 0 rfl rfl (z_in 23 (by decide) (by decide)) dX13_against_18 ?_
  refine lv_topi (fun y3 ey3 => ?_)
  obtain rfl : y3 = 0 := ey3.trans (by decide +kernel)
  refine lv_icmp_eq (tgt := 43) hx hb dX13_against_19 (by decide) (fun _ => ?_) (fun c_19_3 => absurd (by decide +kernel) c_19_3)
  refine lv_iinc (v := 22) (lv' := [(2, .int 22), (0, .ref h0), (1, .ref w0)]) hx hb dX13_against_43 hl (k := 0) rfl (by decide) (by decide) rfl (fun ls hl => ?_)
  refine lv_goto (tgt := 3) hx hb dX13_against_46 (by decide) ?_
  refine lv_iload_n hx hb dX13_against_3 rfl (lv_at hl 0 rfl) ?_
  refine lv_if_lt (tgt := 49) hx hb dX13_against_4 (by decide) (fun c_4_4 => absurd c_4_4 (by decide +kernel)) (fun _ => ?_)
  refine lv_aload_n hx hb dX13_against_7 rfl (lv_at hl 1 rfl) ?_
  refine va_get (D := D) (ci := 16) (v := .ref a0) (C := RX13) (T := TX13) (N := 1) hx hb hts iRX13 hown hK hP 0 rfl rfl 0 (by decide) (hts _ q311) (fun _ h9 => h9) rfl dX13_against_8 ?_
  refine lv_iload_n hx hb dX13_against_11 rfl (lv_at hl 0 rfl) ?_
  refine va_iald hx hb hK hP 1 0 rfl rfl (z_in 22 (by decide) (by decide)) dX13_against_12 ?_
  refine lv_topi (fun y6 ey6 => ?_)
  obtain rfl : y6 = 0 := ey6.trans (by decide +kernel)
  refine lv_aload_n hx hb dX13_against_13 rfl (lv_at hl 2 rfl) ?_
  refine va_get (D := D) (ci := 16) (v := .ref b0) (C := RX13) (T := TX13) (N := 1) hx hb hts iRX13 hown hK hP 2 rfl rfl 0 (by decide) (hts _ q311) (fun _ h9 => h9) rfl dX13_against_14 ?_
  refine lv_iload_n hx hb dX13_against_17 rfl (lv_at hl 0 rfl) ?_
  refine va_iald hx hb hK hP 3 0 rfl rfl (z_in 22 (by decide) (by decide)) dX13_against_18 ?_
  refine lv_topi (fun y7 ey7 => ?_)
  obtain rfl : y7 = 0 := ey7.trans (by decide +kernel)
  refine lv_icmp_eq (tgt := 43) hx hb dX13_against_19 (by decide) (fun _ => ?_) (fun c_19_7 => absurd (by decide +kernel) c_19_7)
  refine lv_iinc (v := 21) (lv' := [(2, .int 21), (0, .ref h0), (1, .ref w0)]) hx hb dX13_against_43 hl (k := 0) rfl (by decide) (by decide) rfl (fun ls hl => ?_)
  refine lv_goto (tgt := 3) hx hb dX13_against_46 (by decide) ?_
  refine lv_iload_n hx hb dX13_against_3 rfl (lv_at hl 0 rfl) ?_
  refine lv_if_lt (tgt := 49) hx hb dX13_against_4 (by decide) (fun c_4_8 => absurd c_4_8 (by decide +kernel)) (fun _ => ?_)
  refine lv_aload_n hx hb dX13_against_7 rfl (lv_at hl 1 rfl) ?_
  refine va_get (D := D) (ci := 16) (v := .ref a0) (C := RX13) (T := TX13) (N := 1) hx hb hts iRX13 hown hK hP 0 rfl rfl 0 (by decide) (hts _ q311) (fun _ h9 => h9) rfl dX13_against_8 ?_
  refine lv_iload_n hx hb dX13_against_11 rfl (lv_at hl 0 rfl) ?_
  refine va_iald hx hb hK hP 1 0 rfl rfl (z_in 21 (by decide) (by decide)) dX13_against_12 ?_
  refine lv_topi (fun y10 ey10 => ?_)
  obtain rfl : y10 = 0 := ey10.trans (by decide +kernel)
  refine lv_aload_n hx hb dX13_against_13 rfl (lv_at hl 2 rfl) ?_
  refine va_get (D := D) (ci := 16) (v := .ref b0) (C := RX13) (T := TX13) (N := 1) hx hb hts iRX13 hown hK hP 2 rfl rfl 0 (by decide) (hts _ q311) (fun _ h9 => h9) rfl dX13_against_14 ?_
  refine lv_iload_n hx hb dX13_against_17 rfl (lv_at hl 0 rfl) ?_
  refine va_iald hx hb hK hP 3 0 rfl rfl (z_in 21 (by decide) (by decide)) dX13_against_18 ?_
  refine lv_topi (fun y11 ey11 => ?_)
  obtain rfl : y11 = 0 := ey11.trans (by decide +kernel)
  refine lv_icmp_eq (tgt := 43) hx hb dX13_against_19 (by decide) (fun _ => ?_) (fun c_19_11 => absurd (by decide +kernel) c_19_11)
  refine lv_iinc (v := 20) (lv' := [(2, .int 20), (0, .ref h0), (1, .ref w0)]) hx hb dX13_against_43 hl (k := 0) rfl (by decide) (by decide) rfl (fun ls hl => ?_)
  refine lv_goto (tgt := 3) hx hb dX13_against_46 (by decide) ?_
  refine lv_iload_n hx hb dX13_against_3 rfl (lv_at hl 0 rfl) ?_
  refine lv_if_lt (tgt := 49) hx hb dX13_against_4 (by decide) (fun c_4_12 => absurd c_4_12 (by decide +kernel)) (fun _ => ?_)
  refine lv_aload_n hx hb dX13_against_7 rfl (lv_at hl 1 rfl) ?_
  refine va_get (D := D) (ci := 16) (v := .ref a0) (C := RX13) (T := TX13) (N := 1) hx hb hts iRX13 hown hK hP 0 rfl rfl 0 (by decide) (hts _ q311) (fun _ h9 => h9) rfl dX13_against_8 ?_
  refine lv_iload_n hx hb dX13_against_11 rfl (lv_at hl 0 rfl) ?_
  refine va_iald hx hb hK hP 1 0 rfl rfl (z_in 20 (by decide) (by decide)) dX13_against_12 ?_
  refine lv_topi (fun y14 ey14 => ?_)
  obtain rfl : y14 = 0 := ey14.trans (by decide +kernel)
  refine lv_aload_n hx hb dX13_against_13 rfl (lv_at hl 2 rfl) ?_
  refine va_get (D := D) (ci := 16) (v := .ref b0) (C := RX13) (T := TX13) (N := 1) hx hb hts iRX13 hown hK hP 2 rfl rfl 0 (by decide) (hts _ q311) (fun _ h9 => h9) rfl dX13_against_14 ?_
  refine lv_iload_n hx hb dX13_against_17 rfl (lv_at hl 0 rfl) ?_
  refine va_iald hx hb hK hP 3 0 rfl rfl (z_in 20 (by decide) (by decide)) dX13_against_18 ?_
  refine lv_topi (fun y15 ey15 => ?_)
  obtain rfl : y15 = 0 := ey15.trans (by decide +kernel)
  refine lv_icmp_eq (tgt := 43) hx hb dX13_against_19 (by decide) (fun _ => ?_) (fun c_19_15 => absurd (by decide +kernel) c_19_15)
  refine lv_iinc (v := 19) (lv' := [(2, .int 19), (0, .ref h0), (1, .ref w0)]) hx hb dX13_against_43 hl (k := 0) rfl (by decide) (by decide) rfl (fun ls hl => ?_)
  refine lv_goto (tgt := 3) hx hb dX13_against_46 (by decide) ?_
  refine lv_iload_n hx hb dX13_against_3 rfl (lv_at hl 0 rfl) ?_
  refine lv_if_lt (tgt := 49) hx hb dX13_against_4 (by decide) (fun c_4_16 => absurd c_4_16 (by decide +kernel)) (fun _ => ?_)
  refine lv_aload_n hx hb dX13_against_7 rfl (lv_at hl 1 rfl) ?_
  refine va_get (D := D) (ci := 16) (v := .ref a0) (C := RX13) (T := TX13) (N := 1) hx hb hts iRX13 hown hK hP 0 rfl rfl 0 (by decide) (hts _ q311) (fun _ h9 => h9) rfl dX13_against_8 ?_
  refine lv_iload_n hx hb dX13_against_11 rfl (lv_at hl 0 rfl) ?_
  refine va_iald hx hb hK hP 1 0 rfl rfl (z_in 19 (by decide) (by decide)) dX13_against_12 ?_
  refine lv_topi (fun y18 ey18 => ?_)
  obtain rfl : y18 = 0 := ey18.trans (by decide +kernel)
  refine lv_aload_n hx hb dX13_against_13 rfl (lv_at hl 2 rfl) ?_
  refine va_get (D := D) (ci := 16) (v := .ref b0) (C := RX13) (T := TX13) (N := 1) hx hb hts iRX13 hown hK hP 2 rfl rfl 0 (by decide) (hts _ q311) (fun _ h9 => h9) rfl dX13_against_14 ?_
  refine lv_iload_n hx hb dX13_against_17 rfl (lv_at hl 0 rfl) ?_
  refine va_iald hx hb hK hP 3 0 rfl rfl (z_in 19 (by decide) (by decide)) dX13_against_18 ?_
  refine lv_topi (fun y19 ey19 => ?_)
  obtain rfl : y19 = 0 := ey19.trans (by decide +kernel)
  refine lv_icmp_eq (tgt := 43) hx hb dX13_against_19 (by decide) (fun _ => ?_) (fun c_19_19 => absurd (by decide +kernel) c_19_19)
  refine lv_iinc (v := 18) (lv' := [(2, .int 18), (0, .ref h0), (1, .ref w0)]) hx hb dX13_against_43 hl (k := 0) rfl (by decide) (by decide) rfl (fun ls hl => ?_)
  refine lv_goto (tgt := 3) hx hb dX13_against_46 (by decide) ?_
  refine lv_iload_n hx hb dX13_against_3 rfl (lv_at hl 0 rfl) ?_
  refine lv_if_lt (tgt := 49) hx hb dX13_against_4 (by decide) (fun c_4_20 => absurd c_4_20 (by decide +kernel)) (fun _ => ?_)
  refine lv_aload_n hx hb dX13_against_7 rfl (lv_at hl 1 rfl) ?_
  refine va_get (D := D) (ci := 16) (v := .ref a0) (C := RX13) (T := TX13) (N := 1) hx hb hts iRX13 hown hK hP 0 rfl rfl 0 (by decide) (hts _ q311) (fun _ h9 => h9) rfl dX13_against_8 ?_
  refine lv_iload_n hx hb dX13_against_11 rfl (lv_at hl 0 rfl) ?_
  refine va_iald hx hb hK hP 1 0 rfl rfl (z_in 18 (by decide) (by decide)) dX13_against_12 ?_
  refine lv_topi (fun y22 ey22 => ?_)
  obtain rfl : y22 = 0 := ey22.trans (by decide +kernel)
  refine lv_aload_n hx hb dX13_against_13 rfl (lv_at hl 2 rfl) ?_
  refine va_get (D := D) (ci := 16) (v := .ref b0) (C := RX13) (T := TX13) (N := 1) hx hb hts iRX13 hown hK hP 2 rfl rfl 0 (by decide) (hts _ q311) (fun _ h9 => h9) rfl dX13_against_14 ?_
  refine lv_iload_n hx hb dX13_against_17 rfl (lv_at hl 0 rfl) ?_
  refine va_iald hx hb hK hP 3 0 rfl rfl (z_in 18 (by decide) (by decide)) dX13_against_18 ?_
  refine lv_topi (fun y23 ey23 => ?_)
  obtain rfl : y23 = 0 := ey23.trans (by decide +kernel)
  refine lv_icmp_eq (tgt := 43) hx hb dX13_against_19 (by decide) (fun _ => ?_) (fun c_19_23 => absurd (by decide +kernel) c_19_23)
  refine lv_iinc (v := 17) (lv' := [(2, .int 17), (0, .ref h0), (1, .ref w0)]) hx hb dX13_against_43 hl (k := 0) rfl (by decide) (by decide) rfl (fun ls hl => ?_)
  refine lv_goto (tgt := 3) hx hb dX13_against_46 (by decide) ?_
  refine lv_iload_n hx hb dX13_against_3 rfl (lv_at hl 0 rfl) ?_
  refine lv_if_lt (tgt := 49) hx hb dX13_against_4 (by decide) (fun c_4_24 => absurd c_4_24 (by decide +kernel)) (fun _ => ?_)
  refine lv_aload_n hx hb dX13_against_7 rfl (lv_at hl 1 rfl) ?_
  refine va_get (D := D) (ci := 16) (v := .ref a0) (C := RX13) (T := TX13) (N := 1) hx hb hts iRX13 hown hK hP 0 rfl rfl 0 (by decide) (hts _ q311) (fun _ h9 => h9) rfl dX13_against_8 ?_
  refine lv_iload_n hx hb dX13_against_11 rfl (lv_at hl 0 rfl) ?_
  refine va_iald hx hb hK hP 1 0 rfl rfl (z_in 17 (by decide) (by decide)) dX13_against_12 ?_
  refine lv_topi (fun y26 ey26 => ?_)
  obtain rfl : y26 = 0 := ey26.trans (by decide +kernel)
  refine lv_aload_n hx hb dX13_against_13 rfl (lv_at hl 2 rfl) ?_
  refine va_get (D := D) (ci := 16) (v := .ref b0) (C := RX13) (T := TX13) (N := 1) hx hb hts iRX13 hown hK hP 2 rfl rfl 0 (by decide) (hts _ q311) (fun _ h9 => h9) rfl dX13_against_14 ?_
  refine lv_iload_n hx hb dX13_against_17 rfl (lv_at hl 0 rfl) ?_
  refine va_iald hx hb hK hP 3 0 rfl rfl (z_in 17 (by decide) (by decide)) dX13_against_18 ?_
  refine lv_topi (fun y27 ey27 => ?_)
  obtain rfl : y27 = 0 := ey27.trans (by decide +kernel)
  refine lv_icmp_eq (tgt := 43) hx hb dX13_against_19 (by decide) (fun _ => ?_) (fun c_19_27 => absurd (by decide +kernel) c_19_27)
  refine lv_iinc (v := 16) (lv' := [(2, .int 16), (0, .ref h0), (1, .ref w0)]) hx hb dX13_against_43 hl (k := 0) rfl (by decide) (by decide) rfl (fun ls hl => ?_)
  refine lv_goto (tgt := 3) hx hb dX13_against_46 (by decide) ?_
  refine lv_iload_n hx hb dX13_against_3 rfl (lv_at hl 0 rfl) ?_
  refine lv_if_lt (tgt := 49) hx hb dX13_against_4 (by decide) (fun c_4_28 => absurd c_4_28 (by decide +kernel)) (fun _ => ?_)
  refine lv_aload_n hx hb dX13_against_7 rfl (lv_at hl 1 rfl) ?_
  refine va_get (D := D) (ci := 16) (v := .ref a0) (C := RX13) (T := TX13) (N := 1) hx hb hts iRX13 hown hK hP 0 rfl rfl 0 (by decide) (hts _ q311) (fun _ h9 => h9) rfl dX13_against_8 ?_
  refine lv_iload_n hx hb dX13_against_11 rfl (lv_at hl 0 rfl) ?_
  refine va_iald hx hb hK hP 1 0 rfl rfl (z_in 16 (by decide) (by decide)) dX13_against_12 ?_
  refine lv_topi (fun y30 ey30 => ?_)
  obtain rfl : y30 = 0 := ey30.trans (by decide +kernel)
  refine lv_aload_n hx hb dX13_against_13 rfl (lv_at hl 2 rfl) ?_
  refine va_get (D := D) (ci := 16) (v := .ref b0) (C := RX13) (T := TX13) (N := 1) hx hb hts iRX13 hown hK hP 2 rfl rfl 0 (by decide) (hts _ q311) (fun _ h9 => h9) rfl dX13_against_14 ?_
  refine lv_iload_n hx hb dX13_against_17 rfl (lv_at hl 0 rfl) ?_
  refine va_iald hx hb hK hP 3 0 rfl rfl (z_in 16 (by decide) (by decide)) dX13_against_18 ?_
  refine lv_topi (fun y31 ey31 => ?_)
  obtain rfl : y31 = 0 := ey31.trans (by decide +kernel)
  refine lv_icmp_eq (tgt := 43) hx hb dX13_against_19 (by decide) (fun _ => ?_) (fun c_19_31 => absurd (by decide +kernel) c_19_31)
  refine lv_iinc (v := 15) (lv' := [(2, .int 15), (0, .ref h0), (1, .ref w0)]) hx hb dX13_against_43 hl (k := 0) rfl (by decide) (by decide) rfl (fun ls hl => ?_)
  refine lv_goto (tgt := 3) hx hb dX13_against_46 (by decide) ?_
  refine lv_iload_n hx hb dX13_against_3 rfl (lv_at hl 0 rfl) ?_
  refine lv_if_lt (tgt := 49) hx hb dX13_against_4 (by decide) (fun c_4_32 => absurd c_4_32 (by decide +kernel)) (fun _ => ?_)
  refine lv_aload_n hx hb dX13_against_7 rfl (lv_at hl 1 rfl) ?_
  refine va_get (D := D) (ci := 16) (v := .ref a0) (C := RX13) (T := TX13) (N := 1) hx hb hts iRX13 hown hK hP 0 rfl rfl 0 (by decide) (hts _ q311) (fun _ h9 => h9) rfl dX13_against_8 ?_
  refine lv_iload_n hx hb dX13_against_11 rfl (lv_at hl 0 rfl) ?_
  refine va_iald hx hb hK hP 1 0 rfl rfl (z_in 15 (by decide) (by decide)) dX13_against_12 ?_
  refine lv_topi (fun y34 ey34 => ?_)
  obtain rfl : y34 = 0 := ey34.trans (by decide +kernel)
  refine lv_aload_n hx hb dX13_against_13 rfl (lv_at hl 2 rfl) ?_
  refine va_get (D := D) (ci := 16) (v := .ref b0) (C := RX13) (T := TX13) (N := 1) hx hb hts iRX13 hown hK hP 2 rfl rfl 0 (by decide) (hts _ q311) (fun _ h9 => h9) rfl dX13_against_14 ?_
  refine lv_iload_n hx hb dX13_against_17 rfl (lv_at hl 0 rfl) ?_
  refine va_iald hx hb hK hP 3 0 rfl rfl (z_in 15 (by decide) (by decide)) dX13_against_18 ?_
  refine lv_topi (fun y35 ey35 => ?_)
  obtain rfl : y35 = 0 := ey35.trans (by decide +kernel)
  refine lv_icmp_eq (tgt := 43) hx hb dX13_against_19 (by decide) (fun _ => ?_) (fun c_19_35 => absurd (by decide +kernel) c_19_35)
  refine lv_iinc (v := 14) (lv' := [(2, .int 14), (0, .ref h0), (1, .ref w0)]) hx hb dX13_against_43 hl (k := 0) rfl (by decide) (by decide) rfl (fun ls hl => ?_)
  refine lv_goto (tgt := 3) hx hb dX13_against_46 (by decide) ?_
  refine lv_iload_n hx hb dX13_against_3 rfl (lv_at hl 0 rfl) ?_
  refine lv_if_lt (tgt := 49) hx hb dX13_against_4 (by decide) (fun c_4_36 => absurd c_4_36 (by decide +kernel)) (fun _ => ?_)
  refine lv_aload_n hx hb dX13_against_7 rfl (lv_at hl 1 rfl) ?_
  refine va_get (D := D) (ci := 16) (v := .ref a0) (C := RX13) (T := TX13) (N := 1) hx hb hts iRX13 hown hK hP 0 rfl rfl 0 (by decide) (hts _ q311) (fun _ h9 => h9) rfl dX13_against_8 ?_
  refine lv_iload_n hx hb dX13_against_11 rfl (lv_at hl 0 rfl) ?_
  refine va_iald hx hb hK hP 1 0 rfl rfl (z_in 14 (by decide) (by decide)) dX13_against_12 ?_
  refine lv_topi (fun y38 ey38 => ?_)
  obtain rfl : y38 = 0 := ey38.trans (by decide +kernel)
  refine lv_aload_n hx hb dX13_against_13 rfl (lv_at hl 2 rfl) ?_
  refine va_get (D := D) (ci := 16) (v := .ref b0) (C := RX13) (T := TX13) (N := 1) hx hb hts iRX13 hown hK hP 2 rfl rfl 0 (by decide) (hts _ q311) (fun _ h9 => h9) rfl dX13_against_14 ?_
  refine lv_iload_n hx hb dX13_against_17 rfl (lv_at hl 0 rfl) ?_
  refine va_iald hx hb hK hP 3 0 rfl rfl (z_in 14 (by decide) (by decide)) dX13_against_18 ?_
  refine lv_topi (fun y39 ey39 => ?_)
  obtain rfl : y39 = 0 := ey39.trans (by decide +kernel)
  refine lv_icmp_eq (tgt := 43) hx hb dX13_against_19 (by decide) (fun _ => ?_) (fun c_19_39 => absurd (by decide +kernel) c_19_39)
  refine lv_iinc (v := 13) (lv' := [(2, .int 13), (0, .ref h0), (1, .ref w0)]) hx hb dX13_against_43 hl (k := 0) rfl (by decide) (by decide) rfl (fun ls hl => ?_)
  refine lv_goto (tgt := 3) hx hb dX13_against_46 (by decide) ?_
  refine lv_iload_n hx hb dX13_against_3 rfl (lv_at hl 0 rfl) ?_
  refine lv_if_lt (tgt := 49) hx hb dX13_against_4 (by decide) (fun c_4_40 => absurd c_4_40 (by decide +kernel)) (fun _ => ?_)
  refine lv_aload_n hx hb dX13_against_7 rfl (lv_at hl 1 rfl) ?_
  refine va_get (D := D) (ci := 16) (v := .ref a0) (C := RX13) (T := TX13) (N := 1) hx hb hts iRX13 hown hK hP 0 rfl rfl 0 (by decide) (hts _ q311) (fun _ h9 => h9) rfl dX13_against_8 ?_
  refine lv_iload_n hx hb dX13_against_11 rfl (lv_at hl 0 rfl) ?_
  refine va_iald hx hb hK hP 1 0 rfl rfl (z_in 13 (by decide) (by decide)) dX13_against_12 ?_
  refine lv_topi (fun y42 ey42 => ?_)
  obtain rfl : y42 = 0 := ey42.trans (by decide +kernel)
  refine lv_aload_n hx hb dX13_against_13 rfl (lv_at hl 2 rfl) ?_
  refine va_get (D := D) (ci := 16) (v := .ref b0) (C := RX13) (T := TX13) (N := 1) hx hb hts iRX13 hown hK hP 2 rfl rfl 0 (by decide) (hts _ q311) (fun _ h9 => h9) rfl dX13_against_14 ?_
  refine lv_iload_n hx hb dX13_against_17 rfl (lv_at hl 0 rfl) ?_
  refine va_iald hx hb hK hP 3 0 rfl rfl (z_in 13 (by decide) (by decide)) dX13_against_18 ?_
  refine lv_topi (fun y43 ey43 => ?_)
  obtain rfl : y43 = 0 := ey43.trans (by decide +kernel)
  refine lv_icmp_eq (tgt := 43) hx hb dX13_against_19 (by decide) (fun _ => ?_) (fun c_19_43 => absurd (by decide +kernel) c_19_43)
  refine lv_iinc (v := 12) (lv' := [(2, .int 12), (0, .ref h0), (1, .ref w0)]) hx hb dX13_against_43 hl (k := 0) rfl (by decide) (by decide) rfl (fun ls hl => ?_)
  refine lv_goto (tgt := 3) hx hb dX13_against_46 (by decide) ?_
  refine lv_iload_n hx hb dX13_against_3 rfl (lv_at hl 0 rfl) ?_
  refine lv_if_lt (tgt := 49) hx hb dX13_against_4 (by decide) (fun c_4_44 => absurd c_4_44 (by decide +kernel)) (fun _ => ?_)
  refine lv_aload_n hx hb dX13_against_7 rfl (lv_at hl 1 rfl) ?_
  refine va_get (D := D) (ci := 16) (v := .ref a0) (C := RX13) (T := TX13) (N := 1) hx hb hts iRX13 hown hK hP 0 rfl rfl 0 (by decide) (hts _ q311) (fun _ h9 => h9) rfl dX13_against_8 ?_
  refine lv_iload_n hx hb dX13_against_11 rfl (lv_at hl 0 rfl) ?_
  refine va_iald hx hb hK hP 1 0 rfl rfl (z_in 12 (by decide) (by decide)) dX13_against_12 ?_
  refine lv_topi (fun y46 ey46 => ?_)
  obtain rfl : y46 = 0 := ey46.trans (by decide +kernel)
  refine lv_aload_n hx hb dX13_against_13 rfl (lv_at hl 2 rfl) ?_
  refine va_get (D := D) (ci := 16) (v := .ref b0) (C := RX13) (T := TX13) (N := 1) hx hb hts iRX13 hown hK hP 2 rfl rfl 0 (by decide) (hts _ q311) (fun _ h9 => h9) rfl dX13_against_14 ?_
  refine lv_iload_n hx hb dX13_against_17 rfl (lv_at hl 0 rfl) ?_
  refine va_iald hx hb hK hP 3 0 rfl rfl (z_in 12 (by decide) (by decide)) dX13_against_18 ?_
  refine lv_topi (fun y47 ey47 => ?_)
  obtain rfl : y47 = 0 := ey47.trans (by decide +kernel)
  refine lv_icmp_eq (tgt := 43) hx hb dX13_against_19 (by decide) (fun _ => ?_) (fun c_19_47 => absurd (by decide +kernel) c_19_47)
  refine lv_iinc (v := 11) (lv' := [(2, .int 11), (0, .ref h0), (1, .ref w0)]) hx hb dX13_against_43 hl (k := 0) rfl (by decide) (by decide) rfl (fun ls hl => ?_)
  refine lv_goto (tgt := 3) hx hb dX13_against_46 (by decide) ?_
  refine lv_iload_n hx hb dX13_against_3 rfl (lv_at hl 0 rfl) ?_
  refine lv_if_lt (tgt := 49) hx hb dX13_against_4 (by decide) (fun c_4_48 => absurd c_4_48 (by decide +kernel)) (fun _ => ?_)
  refine lv_aload_n hx hb dX13_against_7 rfl (lv_at hl 1 rfl) ?_
  refine va_get (D := D) (ci := 16) (v := .ref a0) (C := RX13) (T := TX13) (N := 1) hx hb hts iRX13 hown hK hP 0 rfl rfl 0 (by decide) (hts _ q311) (fun _ h9 => h9) rfl dX13_against_8 ?_
  refine lv_iload_n hx hb dX13_against_11 rfl (lv_at hl 0 rfl) ?_
  refine va_iald hx hb hK hP 1 0 rfl rfl (z_in 11 (by decide) (by decide)) dX13_against_12 ?_
  refine lv_topi (fun y50 ey50 => ?_)
  obtain rfl : y50 = 0 := ey50.trans (by decide +kernel)
  refine lv_aload_n hx hb dX13_against_13 rfl (lv_at hl 2 rfl) ?_
  refine va_get (D := D) (ci := 16) (v := .ref b0) (C := RX13) (T := TX13) (N := 1) hx hb hts iRX13 hown hK hP 2 rfl rfl 0 (by decide) (hts _ q311) (fun _ h9 => h9) rfl dX13_against_14 ?_
  refine lv_iload_n hx hb dX13_against_17 rfl (lv_at hl 0 rfl) ?_
  refine va_iald hx hb hK hP 3 0 rfl rfl (z_in 11 (by decide) (by decide)) dX13_against_18 ?_
  refine lv_topi (fun y51 ey51 => ?_)
  obtain rfl : y51 = 0 := ey51.trans (by decide +kernel)
  refine lv_icmp_eq (tgt := 43) hx hb dX13_against_19 (by decide) (fun _ => ?_) (fun c_19_51 => absurd (by decide +kernel) c_19_51)
  refine lv_iinc (v := 10) (lv' := [(2, .int 10), (0, .ref h0), (1, .ref w0)]) hx hb dX13_against_43 hl (k := 0) rfl (by decide) (by decide) rfl (fun ls hl => ?_)
  refine lv_goto (tgt := 3) hx hb dX13_against_46 (by decide) ?_
  refine lv_iload_n hx hb dX13_against_3 rfl (lv_at hl 0 rfl) ?_
  refine lv_if_lt (tgt := 49) hx hb dX13_against_4 (by decide) (fun c_4_52 => absurd c_4_52 (by decide +kernel)) (fun _ => ?_)
  refine lv_aload_n hx hb dX13_against_7 rfl (lv_at hl 1 rfl) ?_
  refine va_get (D := D) (ci := 16) (v := .ref a0) (C := RX13) (T := TX13) (N := 1) hx hb hts iRX13 hown hK hP 0 rfl rfl 0 (by decide) (hts _ q311) (fun _ h9 => h9) rfl dX13_against_8 ?_
  refine lv_iload_n hx hb dX13_against_11 rfl (lv_at hl 0 rfl) ?_
  refine va_iald hx hb hK hP 1 0 rfl rfl (z_in 10 (by decide) (by decide)) dX13_against_12 ?_
  refine lv_topi (fun y54 ey54 => ?_)
  obtain rfl : y54 = 0 := ey54.trans (by decide +kernel)
  refine lv_aload_n hx hb dX13_against_13 rfl (lv_at hl 2 rfl) ?_
  refine va_get (D := D) (ci := 16) (v := .ref b0) (C := RX13) (T := TX13) (N := 1) hx hb hts iRX13 hown hK hP 2 rfl rfl 0 (by decide) (hts _ q311) (fun _ h9 => h9) rfl dX13_against_14 ?_
  refine lv_iload_n hx hb dX13_against_17 rfl (lv_at hl 0 rfl) ?_
  refine va_iald hx hb hK hP 3 0 rfl rfl (z_in 10 (by decide) (by decide)) dX13_against_18 ?_
  refine lv_topi (fun y55 ey55 => ?_)
  obtain rfl : y55 = 0 := ey55.trans (by decide +kernel)
  refine lv_icmp_eq (tgt := 43) hx hb dX13_against_19 (by decide) (fun _ => ?_) (fun c_19_55 => absurd (by decide +kernel) c_19_55)
  refine lv_iinc (v := 9) (lv' := [(2, .int 9), (0, .ref h0), (1, .ref w0)]) hx hb dX13_against_43 hl (k := 0) rfl (by decide) (by decide) rfl (fun ls hl => ?_)
  refine lv_goto (tgt := 3) hx hb dX13_against_46 (by decide) ?_
  refine lv_iload_n hx hb dX13_against_3 rfl (lv_at hl 0 rfl) ?_
  refine lv_if_lt (tgt := 49) hx hb dX13_against_4 (by decide) (fun c_4_56 => absurd c_4_56 (by decide +kernel)) (fun _ => ?_)
  refine lv_aload_n hx hb dX13_against_7 rfl (lv_at hl 1 rfl) ?_
  refine va_get (D := D) (ci := 16) (v := .ref a0) (C := RX13) (T := TX13) (N := 1) hx hb hts iRX13 hown hK hP 0 rfl rfl 0 (by decide) (hts _ q311) (fun _ h9 => h9) rfl dX13_against_8 ?_
  refine lv_iload_n hx hb dX13_against_11 rfl (lv_at hl 0 rfl) ?_
  refine va_iald hx hb hK hP 1 0 rfl rfl (z_in 9 (by decide) (by decide)) dX13_against_12 ?_
  refine lv_topi (fun y58 ey58 => ?_)
  obtain rfl : y58 = 0 := ey58.trans (by decide +kernel)
  refine lv_aload_n hx hb dX13_against_13 rfl (lv_at hl 2 rfl) ?_
  refine va_get (D := D) (ci := 16) (v := .ref b0) (C := RX13) (T := TX13) (N := 1) hx hb hts iRX13 hown hK hP 2 rfl rfl 0 (by decide) (hts _ q311) (fun _ h9 => h9) rfl dX13_against_14 ?_
  refine lv_iload_n hx hb dX13_against_17 rfl (lv_at hl 0 rfl) ?_
  refine va_iald hx hb hK hP 3 0 rfl rfl (z_in 9 (by decide) (by decide)) dX13_against_18 ?_
  refine lv_topi (fun y59 ey59 => ?_)
  obtain rfl : y59 = 0 := ey59.trans (by decide +kernel)
  refine lv_icmp_eq (tgt := 43) hx hb dX13_against_19 (by decide) (fun _ => ?_) (fun c_19_59 => absurd (by decide +kernel) c_19_59)
  refine lv_iinc (v := 8) (lv' := [(2, .int 8), (0, .ref h0), (1, .ref w0)]) hx hb dX13_against_43 hl (k := 0) rfl (by decide) (by decide) rfl (fun ls hl => ?_)
  refine lv_goto (tgt := 3) hx hb dX13_against_46 (by decide) ?_
  refine lv_iload_n hx hb dX13_against_3 rfl (lv_at hl 0 rfl) ?_
  refine lv_if_lt (tgt := 49) hx hb dX13_against_4 (by decide) (fun c_4_60 => absurd c_4_60 (by decide +kernel)) (fun _ => ?_)
  refine lv_aload_n hx hb dX13_against_7 rfl (lv_at hl 1 rfl) ?_
  refine va_get (D := D) (ci := 16) (v := .ref a0) (C := RX13) (T := TX13) (N := 1) hx hb hts iRX13 hown hK hP 0 rfl rfl 0 (by decide) (hts _ q311) (fun _ h9 => h9) rfl dX13_against_8 ?_
  refine lv_iload_n hx hb dX13_against_11 rfl (lv_at hl 0 rfl) ?_
  refine va_iald hx hb hK hP 1 0 rfl rfl (z_in 8 (by decide) (by decide)) dX13_against_12 ?_
  refine lv_topi (fun y62 ey62 => ?_)
  obtain rfl : y62 = 0 := ey62.trans (by decide +kernel)
  refine lv_aload_n hx hb dX13_against_13 rfl (lv_at hl 2 rfl) ?_
  refine va_get (D := D) (ci := 16) (v := .ref b0) (C := RX13) (T := TX13) (N := 1) hx hb hts iRX13 hown hK hP 2 rfl rfl 0 (by decide) (hts _ q311) (fun _ h9 => h9) rfl dX13_against_14 ?_
  refine lv_iload_n hx hb dX13_against_17 rfl (lv_at hl 0 rfl) ?_
  refine va_iald hx hb hK hP 3 0 rfl rfl (z_in 8 (by decide) (by decide)) dX13_against_18 ?_
  refine lv_topi (fun y63 ey63 => ?_)
  obtain rfl : y63 = 0 := ey63.trans (by decide +kernel)
  refine lv_icmp_eq (tgt := 43) hx hb dX13_against_19 (by decide) (fun _ => ?_) (fun c_19_63 => absurd (by decide +kernel) c_19_63)
  refine lv_iinc (v := 7) (lv' := [(2, .int 7), (0, .ref h0), (1, .ref w0)]) hx hb dX13_against_43 hl (k := 0) rfl (by decide) (by decide) rfl (fun ls hl => ?_)
  refine lv_goto (tgt := 3) hx hb dX13_against_46 (by decide) ?_
  refine lv_iload_n hx hb dX13_against_3 rfl (lv_at hl 0 rfl) ?_
  refine lv_if_lt (tgt := 49) hx hb dX13_against_4 (by decide) (fun c_4_64 => absurd c_4_64 (by decide +kernel)) (fun _ => ?_)
  refine lv_aload_n hx hb dX13_against_7 rfl (lv_at hl 1 rfl) ?_
  refine va_get (D := D) (ci := 16) (v := .ref a0) (C := RX13) (T := TX13) (N := 1) hx hb hts iRX13 hown hK hP 0 rfl rfl 0 (by decide) (hts _ q311) (fun _ h9 => h9) rfl dX13_against_8 ?_
  refine lv_iload_n hx hb dX13_against_11 rfl (lv_at hl 0 rfl) ?_
  refine va_iald hx hb hK hP 1 0 rfl rfl (z_in 7 (by decide) (by decide)) dX13_against_12 ?_
  refine lv_topi (fun y66 ey66 => ?_)
  obtain rfl : y66 = 0 := ey66.trans (by decide +kernel)
  refine lv_aload_n hx hb dX13_against_13 rfl (lv_at hl 2 rfl) ?_
  refine va_get (D := D) (ci := 16) (v := .ref b0) (C := RX13) (T := TX13) (N := 1) hx hb hts iRX13 hown hK hP 2 rfl rfl 0 (by decide) (hts _ q311) (fun _ h9 => h9) rfl dX13_against_14 ?_
  refine lv_iload_n hx hb dX13_against_17 rfl (lv_at hl 0 rfl) ?_
  refine va_iald hx hb hK hP 3 0 rfl rfl (z_in 7 (by decide) (by decide)) dX13_against_18 ?_
  refine lv_topi (fun y67 ey67 => ?_)
  obtain rfl : y67 = 0 := ey67.trans (by decide +kernel)
  refine lv_icmp_eq (tgt := 43) hx hb dX13_against_19 (by decide) (fun _ => ?_) (fun c_19_67 => absurd (by decide +kernel) c_19_67)
  refine lv_iinc (v := 6) (lv' := [(2, .int 6), (0, .ref h0), (1, .ref w0)]) hx hb dX13_against_43 hl (k := 0) rfl (by decide) (by decide) rfl (fun ls hl => ?_)
  refine lv_goto (tgt := 3) hx hb dX13_against_46 (by decide) ?_
  refine lv_iload_n hx hb dX13_against_3 rfl (lv_at hl 0 rfl) ?_
  refine lv_if_lt (tgt := 49) hx hb dX13_against_4 (by decide) (fun c_4_68 => absurd c_4_68 (by decide +kernel)) (fun _ => ?_)
  refine lv_aload_n hx hb dX13_against_7 rfl (lv_at hl 1 rfl) ?_
  refine va_get (D := D) (ci := 16) (v := .ref a0) (C := RX13) (T := TX13) (N := 1) hx hb hts iRX13 hown hK hP 0 rfl rfl 0 (by decide) (hts _ q311) (fun _ h9 => h9) rfl dX13_against_8 ?_
  refine lv_iload_n hx hb dX13_against_11 rfl (lv_at hl 0 rfl) ?_
  refine va_iald hx hb hK hP 1 0 rfl rfl (z_in 6 (by decide) (by decide)) dX13_against_12 ?_
  refine lv_topi (fun y70 ey70 => ?_)
  obtain rfl : y70 = 0 := ey70.trans (by decide +kernel)
  refine lv_aload_n hx hb dX13_against_13 rfl (lv_at hl 2 rfl) ?_
  refine va_get (D := D) (ci := 16) (v := .ref b0) (C := RX13) (T := TX13) (N := 1) hx hb hts iRX13 hown hK hP 2 rfl rfl 0 (by decide) (hts _ q311) (fun _ h9 => h9) rfl dX13_against_14 ?_
  refine lv_iload_n hx hb dX13_against_17 rfl (lv_at hl 0 rfl) ?_
  refine va_iald hx hb hK hP 3 0 rfl rfl (z_in 6 (by decide) (by decide)) dX13_against_18 ?_
  refine lv_topi (fun y71 ey71 => ?_)
  obtain rfl : y71 = 0 := ey71.trans (by decide +kernel)
  refine lv_icmp_eq (tgt := 43) hx hb dX13_against_19 (by decide) (fun _ => ?_) (fun c_19_71 => absurd (by decide +kernel) c_19_71)
  refine lv_iinc (v := 5) (lv' := [(2, .int 5), (0, .ref h0), (1, .ref w0)]) hx hb dX13_against_43 hl (k := 0) rfl (by decide) (by decide) rfl (fun ls hl => ?_)
  refine lv_goto (tgt := 3) hx hb dX13_against_46 (by decide) ?_
  refine lv_iload_n hx hb dX13_against_3 rfl (lv_at hl 0 rfl) ?_
  refine lv_if_lt (tgt := 49) hx hb dX13_against_4 (by decide) (fun c_4_72 => absurd c_4_72 (by decide +kernel)) (fun _ => ?_)
  refine lv_aload_n hx hb dX13_against_7 rfl (lv_at hl 1 rfl) ?_
  refine va_get (D := D) (ci := 16) (v := .ref a0) (C := RX13) (T := TX13) (N := 1) hx hb hts iRX13 hown hK hP 0 rfl rfl 0 (by decide) (hts _ q311) (fun _ h9 => h9) rfl dX13_against_8 ?_
  refine lv_iload_n hx hb dX13_against_11 rfl (lv_at hl 0 rfl) ?_
  refine va_iald hx hb hK hP 1 0 rfl rfl (z_in 5 (by decide) (by decide)) dX13_against_12 ?_
  refine lv_topi (fun y74 ey74 => ?_)
  obtain rfl : y74 = 0 := ey74.trans (by decide +kernel)
  refine lv_aload_n hx hb dX13_against_13 rfl (lv_at hl 2 rfl) ?_
  refine va_get (D := D) (ci := 16) (v := .ref b0) (C := RX13) (T := TX13) (N := 1) hx hb hts iRX13 hown hK hP 2 rfl rfl 0 (by decide) (hts _ q311) (fun _ h9 => h9) rfl dX13_against_14 ?_
  refine lv_iload_n hx hb dX13_against_17 rfl (lv_at hl 0 rfl) ?_
  refine va_iald hx hb hK hP 3 0 rfl rfl (z_in 5 (by decide) (by decide)) dX13_against_18 ?_
  refine lv_topi (fun y75 ey75 => ?_)
  obtain rfl : y75 = 0 := ey75.trans (by decide +kernel)
  refine lv_icmp_eq (tgt := 43) hx hb dX13_against_19 (by decide) (fun _ => ?_) (fun c_19_75 => absurd (by decide +kernel) c_19_75)
  refine lv_iinc (v := 4) (lv' := [(2, .int 4), (0, .ref h0), (1, .ref w0)]) hx hb dX13_against_43 hl (k := 0) rfl (by decide) (by decide) rfl (fun ls hl => ?_)
  refine lv_goto (tgt := 3) hx hb dX13_against_46 (by decide) ?_
  refine lv_iload_n hx hb dX13_against_3 rfl (lv_at hl 0 rfl) ?_
  refine lv_if_lt (tgt := 49) hx hb dX13_against_4 (by decide) (fun c_4_76 => absurd c_4_76 (by decide +kernel)) (fun _ => ?_)
  refine lv_aload_n hx hb dX13_against_7 rfl (lv_at hl 1 rfl) ?_
  refine va_get (D := D) (ci := 16) (v := .ref a0) (C := RX13) (T := TX13) (N := 1) hx hb hts iRX13 hown hK hP 0 rfl rfl 0 (by decide) (hts _ q311) (fun _ h9 => h9) rfl dX13_against_8 ?_
  refine lv_iload_n hx hb dX13_against_11 rfl (lv_at hl 0 rfl) ?_
  refine va_iald hx hb hK hP 1 0 rfl rfl (z_in 4 (by decide) (by decide)) dX13_against_12 ?_
  refine lv_topi (fun y78 ey78 => ?_)
  obtain rfl : y78 = 0 := ey78.trans (by decide +kernel)
  refine lv_aload_n hx hb dX13_against_13 rfl (lv_at hl 2 rfl) ?_
  refine va_get (D := D) (ci := 16) (v := .ref b0) (C := RX13) (T := TX13) (N := 1) hx hb hts iRX13 hown hK hP 2 rfl rfl 0 (by decide) (hts _ q311) (fun _ h9 => h9) rfl dX13_against_14 ?_
  refine lv_iload_n hx hb dX13_against_17 rfl (lv_at hl 0 rfl) ?_
  refine va_iald hx hb hK hP 3 0 rfl rfl (z_in 4 (by decide) (by decide)) dX13_against_18 ?_
  refine lv_topi (fun y79 ey79 => ?_)
  obtain rfl : y79 = 0 := ey79.trans (by decide +kernel)
  refine lv_icmp_eq (tgt := 43) hx hb dX13_against_19 (by decide) (fun _ => ?_) (fun c_19_79 => absurd (by decide +kernel) c_19_79)
  refine lv_iinc (v := 3) (lv' := [(2, .int 3), (0, .ref h0), (1, .ref w0)]) hx hb dX13_against_43 hl (k := 0) rfl (by decide) (by decide) rfl (fun ls hl => ?_)
  refine lv_goto (tgt := 3) hx hb dX13_against_46 (by decide) ?_
  refine lv_iload_n hx hb dX13_against_3 rfl (lv_at hl 0 rfl) ?_
  refine lv_if_lt (tgt := 49) hx hb dX13_against_4 (by decide) (fun c_4_80 => absurd c_4_80 (by decide +kernel)) (fun _ => ?_)
  refine lv_aload_n hx hb dX13_against_7 rfl (lv_at hl 1 rfl) ?_
  refine va_get (D := D) (ci := 16) (v := .ref a0) (C := RX13) (T := TX13) (N := 1) hx hb hts iRX13 hown hK hP 0 rfl rfl 0 (by decide) (hts _ q311) (fun _ h9 => h9) rfl dX13_against_8 ?_
  refine lv_iload_n hx hb dX13_against_11 rfl (lv_at hl 0 rfl) ?_
  refine va_iald hx hb hK hP 1 0 rfl rfl (z_in 3 (by decide) (by decide)) dX13_against_12 ?_
  refine lv_topi (fun y82 ey82 => ?_)
  obtain rfl : y82 = 0 := ey82.trans (by decide +kernel)
  refine lv_aload_n hx hb dX13_against_13 rfl (lv_at hl 2 rfl) ?_
  refine va_get (D := D) (ci := 16) (v := .ref b0) (C := RX13) (T := TX13) (N := 1) hx hb hts iRX13 hown hK hP 2 rfl rfl 0 (by decide) (hts _ q311) (fun _ h9 => h9) rfl dX13_against_14 ?_
  refine lv_iload_n hx hb dX13_against_17 rfl (lv_at hl 0 rfl) ?_
  refine va_iald hx hb hK hP 3 0 rfl rfl (z_in 3 (by decide) (by decide)) dX13_against_18 ?_
  refine lv_topi (fun y83 ey83 => ?_)
  obtain rfl : y83 = 0 := ey83.trans (by decide +kernel)
  refine lv_icmp_eq (tgt := 43) hx hb dX13_against_19 (by decide) (fun _ => ?_) (fun c_19_83 => absurd (by decide +kernel) c_19_83)
  refine lv_iinc (v := 2) (lv' := [(2, .int 2), (0, .ref h0), (1, .ref w0)]) hx hb dX13_against_43 hl (k := 0) rfl (by decide) (by decide) rfl (fun ls hl => ?_)
  refine lv_goto (tgt := 3) hx hb dX13_against_46 (by decide) ?_
  refine lv_iload_n hx hb dX13_against_3 rfl (lv_at hl 0 rfl) ?_
  refine lv_if_lt (tgt := 49) hx hb dX13_against_4 (by decide) (fun c_4_84 => absurd c_4_84 (by decide +kernel)) (fun _ => ?_)
  refine lv_aload_n hx hb dX13_against_7 rfl (lv_at hl 1 rfl) ?_
  refine va_get (D := D) (ci := 16) (v := .ref a0) (C := RX13) (T := TX13) (N := 1) hx hb hts iRX13 hown hK hP 0 rfl rfl 0 (by decide) (hts _ q311) (fun _ h9 => h9) rfl dX13_against_8 ?_
  refine lv_iload_n hx hb dX13_against_11 rfl (lv_at hl 0 rfl) ?_
  refine va_iald hx hb hK hP 1 0 rfl rfl (z_in 2 (by decide) (by decide)) dX13_against_12 ?_
  refine lv_topi (fun y86 ey86 => ?_)
  obtain rfl : y86 = 0 := ey86.trans (by decide +kernel)
  refine lv_aload_n hx hb dX13_against_13 rfl (lv_at hl 2 rfl) ?_
  refine va_get (D := D) (ci := 16) (v := .ref b0) (C := RX13) (T := TX13) (N := 1) hx hb hts iRX13 hown hK hP 2 rfl rfl 0 (by decide) (hts _ q311) (fun _ h9 => h9) rfl dX13_against_14 ?_
  refine lv_iload_n hx hb dX13_against_17 rfl (lv_at hl 0 rfl) ?_
  refine va_iald hx hb hK hP 3 0 rfl rfl (z_in 2 (by decide) (by decide)) dX13_against_18 ?_
  refine lv_topi (fun y87 ey87 => ?_)
  obtain rfl : y87 = 0 := ey87.trans (by decide +kernel)
  refine lv_icmp_eq (tgt := 43) hx hb dX13_against_19 (by decide) (fun _ => ?_) (fun c_19_87 => absurd (by decide +kernel) c_19_87)
  refine lv_iinc (v := 1) (lv' := [(2, .int 1), (0, .ref h0), (1, .ref w0)]) hx hb dX13_against_43 hl (k := 0) rfl (by decide) (by decide) rfl (fun ls hl => ?_)
  refine lv_goto (tgt := 3) hx hb dX13_against_46 (by decide) ?_
  refine lv_iload_n hx hb dX13_against_3 rfl (lv_at hl 0 rfl) ?_
  refine lv_if_lt (tgt := 49) hx hb dX13_against_4 (by decide) (fun c_4_88 => absurd c_4_88 (by decide +kernel)) (fun _ => ?_)
  refine lv_aload_n hx hb dX13_against_7 rfl (lv_at hl 1 rfl) ?_
  refine va_get (D := D) (ci := 16) (v := .ref a0) (C := RX13) (T := TX13) (N := 1) hx hb hts iRX13 hown hK hP 0 rfl rfl 0 (by decide) (hts _ q311) (fun _ h9 => h9) rfl dX13_against_8 ?_
  refine lv_iload_n hx hb dX13_against_11 rfl (lv_at hl 0 rfl) ?_
  refine va_iald hx hb hK hP 1 0 rfl rfl (z_in 1 (by decide) (by decide)) dX13_against_12 ?_
  refine lv_topi (fun y90 ey90 => ?_)
  obtain rfl : y90 = 0 := ey90.trans (by decide +kernel)
  refine lv_aload_n hx hb dX13_against_13 rfl (lv_at hl 2 rfl) ?_
  refine va_get (D := D) (ci := 16) (v := .ref b0) (C := RX13) (T := TX13) (N := 1) hx hb hts iRX13 hown hK hP 2 rfl rfl 0 (by decide) (hts _ q311) (fun _ h9 => h9) rfl dX13_against_14 ?_
  refine lv_iload_n hx hb dX13_against_17 rfl (lv_at hl 0 rfl) ?_
  refine va_iald hx hb hK hP 3 0 rfl rfl (z_in 1 (by decide) (by decide)) dX13_against_18 ?_
  refine lv_topi (fun y91 ey91 => ?_)
  obtain rfl : y91 = 0 := ey91.trans (by decide +kernel)
  refine lv_icmp_eq (tgt := 43) hx hb dX13_against_19 (by decide) (fun _ => ?_) (fun c_19_91 => absurd (by decide +kernel) c_19_91)
  refine lv_iinc (v := 0) (lv' := [(2, .int 0), (0, .ref h0), (1, .ref w0)]) hx hb dX13_against_43 hl (k := 0) rfl (by decide) (by decide) rfl (fun ls hl => ?_)
  refine lv_goto (tgt := 3) hx hb dX13_against_46 (by decide) ?_
  refine lv_iload_n hx hb dX13_against_3 rfl (lv_at hl 0 rfl) ?_
  refine lv_if_lt (tgt := 49) hx hb dX13_against_4 (by decide) (fun c_4_92 => absurd c_4_92 (by decide +kernel)) (fun _ => ?_)
  refine lv_aload_n hx hb dX13_against_7 rfl (lv_at hl 1 rfl) ?_
  refine va_get (D := D) (ci := 16) (v := .ref a0) (C := RX13) (T := TX13) (N := 1) hx hb hts iRX13 hown hK hP 0 rfl rfl 0 (by decide) (hts _ q311) (fun _ h9 => h9) rfl dX13_against_8 ?_
  refine lv_iload_n hx hb dX13_against_11 rfl (lv_at hl 0 rfl) ?_
  refine va_iald hx hb hK hP 1 0 rfl rfl (z_in 0 (by decide) (by decide)) dX13_against_12 ?_
  refine lv_topi (fun y94 ey94 => ?_)
  obtain rfl : y94 = 0 := ey94.trans (by decide +kernel)
  refine lv_aload_n hx hb dX13_against_13 rfl (lv_at hl 2 rfl) ?_
  refine va_get (D := D) (ci := 16) (v := .ref b0) (C := RX13) (T := TX13) (N := 1) hx hb hts iRX13 hown hK hP 2 rfl rfl 0 (by decide) (hts _ q311) (fun _ h9 => h9) rfl dX13_against_14 ?_
  refine lv_iload_n hx hb dX13_against_17 rfl (lv_at hl 0 rfl) ?_
  refine va_iald hx hb hK hP 3 0 rfl rfl (z_in 0 (by decide) (by decide)) dX13_against_18 ?_
  refine lv_topi (fun y95 ey95 => ?_)
  obtain rfl : y95 = 0 := ey95.trans (by decide +kernel)
  refine lv_icmp_eq (tgt := 43) hx hb dX13_against_19 (by decide) (fun _ => ?_) (fun c_19_95 => absurd (by decide +kernel) c_19_95)
  refine lv_iinc (v := (-1)) (lv' := [(2, .int (-1)), (0, .ref h0), (1, .ref w0)]) hx hb dX13_against_43 hl (k := 0) rfl (by decide) (by decide) rfl (fun ls hl => ?_)
  refine lv_goto (tgt := 3) hx hb dX13_against_46 (by decide) ?_
  refine lv_iload_n hx hb dX13_against_3 rfl (lv_at hl 0 rfl) ?_
  refine lv_if_lt (tgt := 49) hx hb dX13_against_4 (by decide) (fun _ => ?_) (fun c_4_96 => absurd (by decide +kernel) c_4_96)
  refine lv_iconst (v := 0) hx hb dX13_against_49 (by decide) ?_
  have hP9 := hP.sub (ws' := [(w0, .inr (16, [.ref b0])), (b0, .inl (cy 0, 24, .inl (zE 0)))]) [2, 3] rfl
  have hD9 := hD.sub (ws' := [(w0, .inr (16, [.ref b0])), (b0, .inl (cy 0, 24, .inl (zE 0)))]) [2, 3] (by decide) rfl
  refine W.widen (k := 0) (n := 0) (Nat.le_of_ble_eq_true rfl) (Nat.le_of_ble_eq_true rfl) ?_
  rw [hQe]
  exact W.iret (v := 0) hx hb hr (fun t ht hW => ⟨⟨0, (), rfl, rfl, ⟨by rw [ht]; exact hP9, hD9⟩⟩, hS.F ht⟩) hS.2.2 dX13_against_50
set_option maxHeartbeats 4000000 in
set_option maxRecDepth 100000 in
/-- 1 by 1 -/
theorem k_baseSquare (l : Launch) (D : va_G) (cy : Nat → ClassId) (h0 : Nat) (m0 : Nat) (m1 : Nat) (m2 : Nat) (m3 : Nat) (m4 : Nat) (m5 : Nat) (m6 : Nat) (m7 : Nat) (m8 : Nat) (m9 : Nat) (m10 : Nat) (m11 : Nat) (m12 : Nat) (m13 : Nat) (m14 : Nat) (m15 : Nat) (m16 : Nat) (m17 : Nat) (m18 : Nat) (m19 : Nat) (m20 : Nat) (sz : Nat)  : Met l yX14_baseSquare (wz yX14_baseSquare cX14_baseSquare 2 (some (.object "CavernbookModel$Wide"))) ({ frames := 3, cells := 4, slots := 50, locals := 65 } : Room) (va_Pc [.ref h0] (zPre vwCl D cy [(h0, .inr (17, [.ref m0, .ref m1, .ref m2, .ref m3, .ref m4, .ref m5, .ref m6, .ref m7, .ref m8, .ref m9, .ref m10, .ref m11, .ref m12, .ref m13, .ref m14, .ref m15, .ref m16, .ref m17, .ref m18, .ref m19, .ref m20, .int 0, .int 0, .int 0, .int 0, .long 1, .int 0]))] sz)) (va_Qr (fun _ : Nat => True) (fun (u : Nat) (b_ : Nat) t => zPost vwCl D (va_A [(h0, .inr (17, [.ref m0, .ref m1, .ref m2, .ref m3, .ref m4, .ref m5, .ref m6, .ref m7, .ref m8, .ref m9, .ref m10, .ref m11, .ref m12, .ref m13, .ref m14, .ref m15, .ref m16, .ref m17, .ref m18, .ref m19, .ref m20, .int 0, .int 0, .int 0, .int 0, .long 1, .int 0]))] sz) [(b_, .inr (16, [.ref u])), (u, .inl (cy 0, 24, .inl (zE 1))), (h0, .inr (17, [.ref m0, .ref m1, .ref m2, .ref m3, .ref m4, .ref m5, .ref m6, .ref m7, .ref m8, .ref m9, .ref m10, .ref m11, .ref m12, .ref m13, .ref m14, .ref m15, .ref m16, .ref m17, .ref m18, .ref m19, .ref m20, .int 0, .int 0, .int 0, .int 0, .long 1, .int 0]))] t) (va_A [(h0, .inr (17, [.ref m0, .ref m1, .ref m2, .ref m3, .ref m4, .ref m5, .ref m6, .ref m7, .ref m8, .ref m9, .ref m10, .ref m11, .ref m12, .ref m13, .ref m14, .ref m15, .ref m16, .ref m17, .ref m18, .ref m19, .ref m20, .int 0, .int 0, .int 0, .int 0, .long 1, .int 0]))] sz)) 4 50 (va_A [(h0, .inr (17, [.ref m0, .ref m1, .ref m2, .ref m3, .ref m4, .ref m5, .ref m6, .ref m7, .ref m8, .ref m9, .ref m10, .ref m11, .ref m12, .ref m13, .ref m14, .ref m15, .ref m16, .ref m17, .ref m18, .ref m19, .ref m20, .int 0, .int 0, .int 0, .int 0, .long 1, .int 0]))] sz) := by
  refine Met.ofW (cc := cX14_baseSquare) (maxL := 2) (ret := (some (.object "CavernbookModel$Wide"))) (by decide) rfl ?_
  intro p e s m args below meth c s₁ B hml hv
  obtain ⟨rfl, hsz, hP, hK, hD0, hX, hY⟩ := hv
  have hx := B.exec
  have hb := B.bytes
  have hr := B.returns
  have hts0 := atoms_spec (ws := wz yX14_baseSquare cX14_baseSquare 2 (some (.object "CavernbookModel$Wide"))) B.pre
  have hts : ∀ w ∈ wAll, w.before _ s = true := fun w h => hts0 w (List.mem_cons_of_mem _ h)
  have hown : s.vm.findClass RX14 = some m.cls := findClass_of_methodNamed B.named
  have hlocks := B.notSynchronized
  subst hsz
  have hD := hD0.self (sz := s.heap.size)
  generalize hAe : va_A [(h0, .inr (17, [.ref m0, .ref m1, .ref m2, .ref m3, .ref m4, .ref m5, .ref m6, .ref m7, .ref m8, .ref m9, .ref m10, .ref m11, .ref m12, .ref m13, .ref m14, .ref m15, .ref m16, .ref m17, .ref m18, .ref m19, .ref m20, .int 0, .int 0, .int 0, .int 0, .long 1, .int 0]))] s.heap.size = A at hD hY ⊢
  have hA : ∀ q : Nat, s.heap.size ≤ q → A q := fun q h => by rw [← hAe]; exact Or.inr h
  have hS : va_S A s.heap s.heap [] := va_S.rf
  have hP : va_P D vwCl [(h0, .inr (17, [.ref m0, .ref m1, .ref m2, .ref m3, .ref m4, .ref m5, .ref m6, .ref m7, .ref m8, .ref m9, .ref m10, .ref m11, .ref m12, .ref m13, .ref m14, .ref m15, .ref m16, .ref m17, .ref m18, .ref m19, .ref m20, .int 0, .int 0, .int 0, .int 0, .long 1, .int 0]))] s.heap := hP
  have hl := lv_entry ([.ref h0]) (n := 2) (Nat.le_of_ble_eq_true rfl)
  rw [lg_entry_eq]
  generalize (lg_sl ([.ref h0]) ++ List.replicate (2 - (lg_sl ([.ref h0])).length) Slot.unset).toArray = ls at hl ⊢
  have hl : lv_has ls 2 [(0, .ref h0)] := hl
  refine z_anyQ (fun Q hQe => ?_)
  refine va_new (ci := 16) (fs := [.null]) (C := RX13) (T := TX13) (N := 1) hx hb hts iRX13 tyX13 tyX13_ok hown (hts _ q319) (hts _ q314) (hts _ q315) hK hP hD hS hA rfl (fun j hj => by rcases (show j = 0 by omega) with rfl; rfl) (Nat.le_of_ble_eq_true rfl) (Nat.le_of_ble_eq_true rfl) dX14_baseSquare_0 (fun n1 H hP hD hS => ?_)
  have hP : va_P D vwCl [(h0, .inr (17, [.ref m0, .ref m1, .ref m2, .ref m3, .ref m4, .ref m5, .ref m6, .ref m7, .ref m8, .ref m9, .ref m10, .ref m11, .ref m12, .ref m13, .ref m14, .ref m15, .ref m16, .ref m17, .ref m18, .ref m19, .ref m20, .int 0, .int 0, .int 0, .int 0, .long 1, .int 0])), (n1, .inr (16, [.null]))] H := hP
  have hD : va_D A [(h0, .inr (17, [.ref m0, .ref m1, .ref m2, .ref m3, .ref m4, .ref m5, .ref m6, .ref m7, .ref m8, .ref m9, .ref m10, .ref m11, .ref m12, .ref m13, .ref m14, .ref m15, .ref m16, .ref m17, .ref m18, .ref m19, .ref m20, .int 0, .int 0, .int 0, .int 0, .long 1, .int 0])), (n1, .inr (16, [.null]))] := hD
  refine W.widen (k := 1) (n := 1) (by omega) (by omega) ?_
  refine lv_dup hx hb dX14_baseSquare_3 rfl ?_
  refine lv_aload_n hx hb dX14_baseSquare_4 rfl (lv_at hl 0 rfl) ?_
  refine va_get (D := D) (ci := 17) (v := .long 1) (C := RX14) (T := TX14) (N := 27) hx hb hts iRX14 hown hK hP 0 rfl rfl 25 (by decide) (hts _ q309) (fun _ h9 => h9) rfl dX14_baseSquare_5 ?_
  refine zq_v (wc := [(n1, .inr (16, [.null]))]) (wr := [(h0, .inr (17, [.ref m0, .ref m1, .ref m2, .ref m3, .ref m4, .ref m5, .ref m6, .ref m7, .ref m8, .ref m9, .ref m10, .ref m11, .ref m12, .ref m13, .ref m14, .ref m15, .ref m16, .ref m17, .ref m18, .ref m19, .ref m20, .int 0, .int 0, .int 0, .int 0, .long 1, .int 0]))]) (va_runI (As := [.long 1]) (rest := [.ref n1]) ⟨hx, hb, hml, hown, hts⟩ (k_Wide1 l D cy n1 H.size ) (cwI 1 hts (gz q317) rfl rfl rfl (hts _ q315) (hts _ q320) (hts _ q318) rfl vX13_init.2 ⟨Nat.le_of_ble_eq_true rfl, Nat.le_of_ble_eq_true rfl⟩) (zpS hK hX hY hP hD hS hA [1] (by decide) rfl) rfl rfl hl.1 rfl (lv_room (Nat.le_of_ble_eq_true rfl)) dX14_baseSquare_8 ⟨Nat.le_of_ble_eq_true rfl, Nat.le_of_ble_eq_true rfl⟩) hP hD hS hA [1] [0] rfl rfl (by decide) (by decide) (fun u2 H locs hw hP hD hS => ?_)
  have hP : va_P D vwCl [(h0, .inr (17, [.ref m0, .ref m1, .ref m2, .ref m3, .ref m4, .ref m5, .ref m6, .ref m7, .ref m8, .ref m9, .ref m10, .ref m11, .ref m12, .ref m13, .ref m14, .ref m15, .ref m16, .ref m17, .ref m18, .ref m19, .ref m20, .int 0, .int 0, .int 0, .int 0, .long 1, .int 0])), (n1, .inr (16, [.ref u2])), (u2, .inl (cy 0, 24, .inl (zE 1)))] H := hP
  have hD : va_D A [(h0, .inr (17, [.ref m0, .ref m1, .ref m2, .ref m3, .ref m4, .ref m5, .ref m6, .ref m7, .ref m8, .ref m9, .ref m10, .ref m11, .ref m12, .ref m13, .ref m14, .ref m15, .ref m16, .ref m17, .ref m18, .ref m19, .ref m20, .int 0, .int 0, .int 0, .int 0, .long 1, .int 0])), (n1, .inr (16, [.ref u2])), (u2, .inl (cy 0, 24, .inl (zE 1)))] := hD
  refine W.widen (k := 2) (n := 25) (by omega) (by omega) ?_
  refine lv_astore_n (lv' := [(1, .ref n1), (0, .ref h0)]) hx hb dX14_baseSquare_11 rfl hl (by decide) rfl (fun ls hl => ?_)
  refine lv_aload_n hx hb dX14_baseSquare_12 rfl (lv_at hl 0 rfl) ?_
  refine lv_aload_n hx hb dX14_baseSquare_13 rfl (lv_at hl 0 rfl) ?_
  refine zq_r (wc := [(n1, .inr (16, [.ref u2])), (u2, .inl (cy 0, 24, .inl (zE 1)))]) (wr := [(h0, .inr (17, [.ref m0, .ref m1, .ref m2, .ref m3, .ref m4, .ref m5, .ref m6, .ref m7, .ref m8, .ref m9, .ref m10, .ref m11, .ref m12, .ref m13, .ref m14, .ref m15, .ref m16, .ref m17, .ref m18, .ref m19, .ref m20, .int 0, .int 0, .int 0, .int 0, .long 1, .int 0]))]) (va_runV (As := [.ref n1]) (rest := []) ⟨hx, hb, hml, hown, hts⟩ (k_times_1_1s l D cy n1 u2 H.size ) (cwV 1 hts (gzV (gz q322) q321 q323 q324 q315) rfl rfl rfl vX13_times ⟨Nat.le_of_ble_eq_true rfl, Nat.le_of_ble_eq_true rfl⟩) (zpV (ci := 16) (T := TX13) (N := 1) (q0 := 0) hK hX hY hP hD hS hA [1, 2] (by decide) rfl rfl rfl) rfl rfl hl.1 rfl (lv_room (Nat.le_of_ble_eq_true rfl)) dX14_baseSquare_14 ⟨Nat.le_of_ble_eq_true rfl, Nat.le_of_ble_eq_true rfl⟩) hP hD hS hA [1, 2] [0] rfl rfl (by decide) (by decide) (fun u4 x5 H locs hw hP hD hS => ?_)
  have hP : va_P D vwCl [(h0, .inr (17, [.ref m0, .ref m1, .ref m2, .ref m3, .ref m4, .ref m5, .ref m6, .ref m7, .ref m8, .ref m9, .ref m10, .ref m11, .ref m12, .ref m13, .ref m14, .ref m15, .ref m16, .ref m17, .ref m18, .ref m19, .ref m20, .int 0, .int 0, .int 0, .int 0, .long 1, .int 0])), (x5, .inr (16, [.ref u4])), (u4, .inl (cy 0, 24, .inl (zE 1))), (n1, .inr (16, [.ref u2])), (u2, .inl (cy 0, 24, .inl (zE 1)))] H := hP
  have hD : va_D A [(h0, .inr (17, [.ref m0, .ref m1, .ref m2, .ref m3, .ref m4, .ref m5, .ref m6, .ref m7, .ref m8, .ref m9, .ref m10, .ref m11, .ref m12, .ref m13, .ref m14, .ref m15, .ref m16, .ref m17, .ref m18, .ref m19, .ref m20, .int 0, .int 0, .int 0, .int 0, .long 1, .int 0])), (x5, .inr (16, [.ref u4])), (u4, .inl (cy 0, 24, .inl (zE 1))), (n1, .inr (16, [.ref u2])), (u2, .inl (cy 0, 24, .inl (zE 1)))] := hD
  refine W.widen (k := 4) (n := 50) (by omega) (by omega) ?_
  have hP9 := hP.sub (ws' := [(x5, .inr (16, [.ref u4])), (u4, .inl (cy 0, 24, .inl (zE 1))), (h0, .inr (17, [.ref m0, .ref m1, .ref m2, .ref m3, .ref m4, .ref m5, .ref m6, .ref m7, .ref m8, .ref m9, .ref m10, .ref m11, .ref m12, .ref m13, .ref m14, .ref m15, .ref m16, .ref m17, .ref m18, .ref m19, .ref m20, .int 0, .int 0, .int 0, .int 0, .long 1, .int 0]))]) [1, 2, 0] rfl
  have hD9 := hD.sub (ws' := [(x5, .inr (16, [.ref u4])), (u4, .inl (cy 0, 24, .inl (zE 1))), (h0, .inr (17, [.ref m0, .ref m1, .ref m2, .ref m3, .ref m4, .ref m5, .ref m6, .ref m7, .ref m8, .ref m9, .ref m10, .ref m11, .ref m12, .ref m13, .ref m14, .ref m15, .ref m16, .ref m17, .ref m18, .ref m19, .ref m20, .int 0, .int 0, .int 0, .int 0, .long 1, .int 0]))]) [1, 2, 0] (by decide) rfl
  refine W.widen (k := 4) (n := 50) (Nat.le_of_ble_eq_true rfl) (Nat.le_of_ble_eq_true rfl) ?_
  rw [hQe]
  exact W.aret (v := .ref x5) (rt := (.object "CavernbookModel$Wide")) hx hb hr (Or.inl ⟨_, rfl⟩) (Or.inr ⟨_, rfl⟩) (fun t ht hW => ⟨⟨u4, x5, rfl, trivial, ⟨by rw [ht]; exact hP9, hD9⟩⟩, hS.F ht⟩) hS.2.2 dX14_baseSquare_17
set_option maxHeartbeats 4000000 in
set_option maxRecDepth 100000 in
/-- no shots: 0 -/
theorem k_allSquares (l : Launch) (D : va_G) (cy : Nat → ClassId) (h0 : Nat) (m0 : Nat) (m1 : Nat) (m2 : Nat) (m3 : Nat) (m4 : Nat) (m5 : Nat) (m6 : Nat) (m7 : Nat) (m8 : Nat) (m9 : Nat) (m10 : Nat) (m11 : Nat) (m12 : Nat) (m13 : Nat) (m14 : Nat) (m15 : Nat) (m16 : Nat) (m17 : Nat) (m18 : Nat) (m19 : Nat) (m20 : Nat) (b1 : Nat) (sz : Nat)  : Met l yX14_allSquares (wz yX14_allSquares cX14_allSquares 3 (some (.object "CavernbookModel$Wide"))) ({ frames := 2, cells := 2, slots := 25, locals := 37 } : Room) (va_Pc [.ref h0] (zPre vwCl D cy [(h0, .inr (17, [.ref m0, .ref m1, .ref m2, .ref m3, .ref m4, .ref m5, .ref m6, .ref m7, .ref m8, .ref m9, .ref m10, .ref m11, .ref m12, .ref m13, .ref m14, .ref m15, .ref m16, .ref m17, .ref m18, .ref m19, .ref m20, .int 0, .int 0, .int 0, .int 0, .long 1, .int 0])), (m0, .inr (2, [.int 0, .ref b1, .int 0]))] sz)) (va_Qr (fun _ : Nat => True) (fun (u : Nat) (b_ : Nat) t => zPost vwCl D (va_A [(h0, .inr (17, [.ref m0, .ref m1, .ref m2, .ref m3, .ref m4, .ref m5, .ref m6, .ref m7, .ref m8, .ref m9, .ref m10, .ref m11, .ref m12, .ref m13, .ref m14, .ref m15, .ref m16, .ref m17, .ref m18, .ref m19, .ref m20, .int 0, .int 0, .int 0, .int 0, .long 1, .int 0])), (m0, .inr (2, [.int 0, .ref b1, .int 0]))] sz) [(b_, .inr (16, [.ref u])), (u, .inl (cy 0, 24, .inl (zE 0))), (h0, .inr (17, [.ref m0, .ref m1, .ref m2, .ref m3, .ref m4, .ref m5, .ref m6, .ref m7, .ref m8, .ref m9, .ref m10, .ref m11, .ref m12, .ref m13, .ref m14, .ref m15, .ref m16, .ref m17, .ref m18, .ref m19, .ref m20, .int 0, .int 0, .int 0, .int 0, .long 1, .int 0])), (m0, .inr (2, [.int 0, .ref b1, .int 0]))] t) (va_A [(h0, .inr (17, [.ref m0, .ref m1, .ref m2, .ref m3, .ref m4, .ref m5, .ref m6, .ref m7, .ref m8, .ref m9, .ref m10, .ref m11, .ref m12, .ref m13, .ref m14, .ref m15, .ref m16, .ref m17, .ref m18, .ref m19, .ref m20, .int 0, .int 0, .int 0, .int 0, .long 1, .int 0])), (m0, .inr (2, [.int 0, .ref b1, .int 0]))] sz)) 2 25 (va_A [(h0, .inr (17, [.ref m0, .ref m1, .ref m2, .ref m3, .ref m4, .ref m5, .ref m6, .ref m7, .ref m8, .ref m9, .ref m10, .ref m11, .ref m12, .ref m13, .ref m14, .ref m15, .ref m16, .ref m17, .ref m18, .ref m19, .ref m20, .int 0, .int 0, .int 0, .int 0, .long 1, .int 0])), (m0, .inr (2, [.int 0, .ref b1, .int 0]))] sz) := by
  refine Met.ofW (cc := cX14_allSquares) (maxL := 3) (ret := (some (.object "CavernbookModel$Wide"))) (by decide) rfl ?_
  intro p e s m args below meth c s₁ B hml hv
  obtain ⟨rfl, hsz, hP, hK, hD0, hX, hY⟩ := hv
  have hx := B.exec
  have hb := B.bytes
  have hr := B.returns
  have hts0 := atoms_spec (ws := wz yX14_allSquares cX14_allSquares 3 (some (.object "CavernbookModel$Wide"))) B.pre
  have hts : ∀ w ∈ wAll, w.before _ s = true := fun w h => hts0 w (List.mem_cons_of_mem _ h)
  have hown : s.vm.findClass RX14 = some m.cls := findClass_of_methodNamed B.named
  have hlocks := B.notSynchronized
  subst hsz
  have hD := hD0.self (sz := s.heap.size)
  generalize hAe : va_A [(h0, .inr (17, [.ref m0, .ref m1, .ref m2, .ref m3, .ref m4, .ref m5, .ref m6, .ref m7, .ref m8, .ref m9, .ref m10, .ref m11, .ref m12, .ref m13, .ref m14, .ref m15, .ref m16, .ref m17, .ref m18, .ref m19, .ref m20, .int 0, .int 0, .int 0, .int 0, .long 1, .int 0])), (m0, .inr (2, [.int 0, .ref b1, .int 0]))] s.heap.size = A at hD hY ⊢
  have hA : ∀ q : Nat, s.heap.size ≤ q → A q := fun q h => by rw [← hAe]; exact Or.inr h
  have hS : va_S A s.heap s.heap [] := va_S.rf
  have hP : va_P D vwCl [(h0, .inr (17, [.ref m0, .ref m1, .ref m2, .ref m3, .ref m4, .ref m5, .ref m6, .ref m7, .ref m8, .ref m9, .ref m10, .ref m11, .ref m12, .ref m13, .ref m14, .ref m15, .ref m16, .ref m17, .ref m18, .ref m19, .ref m20, .int 0, .int 0, .int 0, .int 0, .long 1, .int 0])), (m0, .inr (2, [.int 0, .ref b1, .int 0]))] s.heap := hP
  have hl := lv_entry ([.ref h0]) (n := 3) (Nat.le_of_ble_eq_true rfl)
  rw [lg_entry_eq]
  generalize (lg_sl ([.ref h0]) ++ List.replicate (3 - (lg_sl ([.ref h0])).length) Slot.unset).toArray = ls at hl ⊢
  have hl : lv_has ls 3 [(0, .ref h0)] := hl
  refine z_anyQ (fun Q hQe => ?_)
  refine va_new (ci := 16) (fs := [.null]) (C := RX13) (T := TX13) (N := 1) hx hb hts iRX13 tyX13 tyX13_ok hown (hts _ q319) (hts _ q314) (hts _ q315) hK hP hD hS hA rfl (fun j hj => by rcases (show j = 0 by omega) with rfl; rfl) (Nat.le_of_ble_eq_true rfl) (Nat.le_of_ble_eq_true rfl) dX14_allSquares_0 (fun n1 H hP hD hS => ?_)
  have hP : va_P D vwCl [(h0, .inr (17, [.ref m0, .ref m1, .ref m2, .ref m3, .ref m4, .ref m5, .ref m6, .ref m7, .ref m8, .ref m9, .ref m10, .ref m11, .ref m12, .ref m13, .ref m14, .ref m15, .ref m16, .ref m17, .ref m18, .ref m19, .ref m20, .int 0, .int 0, .int 0, .int 0, .long 1, .int 0])), (m0, .inr (2, [.int 0, .ref b1, .int 0])), (n1, .inr (16, [.null]))] H := hP
  have hD : va_D A [(h0, .inr (17, [.ref m0, .ref m1, .ref m2, .ref m3, .ref m4, .ref m5, .ref m6, .ref m7, .ref m8, .ref m9, .ref m10, .ref m11, .ref m12, .ref m13, .ref m14, .ref m15, .ref m16, .ref m17, .ref m18, .ref m19, .ref m20, .int 0, .int 0, .int 0, .int 0, .long 1, .int 0])), (m0, .inr (2, [.int 0, .ref b1, .int 0])), (n1, .inr (16, [.null]))] := hD
  refine W.widen (k := 1) (n := 1) (by omega) (by omega) ?_
  refine lv_dup hx hb dX14_allSquares_3 rfl ?_
  refine lv_lconst (v := 0) hx hb dX14_allSquares_4 rfl ?_
  refine zq_v (wc := [(n1, .inr (16, [.null]))]) (wr := [(h0, .inr (17, [.ref m0, .ref m1, .ref m2, .ref m3, .ref m4, .ref m5, .ref m6, .ref m7, .ref m8, .ref m9, .ref m10, .ref m11, .ref m12, .ref m13, .ref m14, .ref m15, .ref m16, .ref m17, .ref m18, .ref m19, .ref m20, .int 0, .int 0, .int 0, .int 0, .long 1, .int 0])), (m0, .inr (2, [.int 0, .ref b1, .int 0]))]) (va_runI (As := [.long 0]) (rest := [.ref n1]) ⟨hx, hb, hml, hown, hts⟩ (k_Wide0 l D cy n1 H.size ) (cwI 1 hts (gz q317) rfl rfl rfl (hts _ q315) (hts _ q320) (hts _ q318) rfl vX13_init.2 ⟨Nat.le_of_ble_eq_true rfl, Nat.le_of_ble_eq_true rfl⟩) (zpS hK hX hY hP hD hS hA [2] (by decide) rfl) rfl rfl hl.1 rfl (lv_room (Nat.le_of_ble_eq_true rfl)) dX14_allSquares_5 ⟨Nat.le_of_ble_eq_true rfl, Nat.le_of_ble_eq_true rfl⟩) hP hD hS hA [2] [0, 1] rfl rfl (by decide) (by decide) (fun u2 H locs hw hP hD hS => ?_)
  have hP : va_P D vwCl [(h0, .inr (17, [.ref m0, .ref m1, .ref m2, .ref m3, .ref m4, .ref m5, .ref m6, .ref m7, .ref m8, .ref m9, .ref m10, .ref m11, .ref m12, .ref m13, .ref m14, .ref m15, .ref m16, .ref m17, .ref m18, .ref m19, .ref m20, .int 0, .int 0, .int 0, .int 0, .long 1, .int 0])), (m0, .inr (2, [.int 0, .ref b1, .int 0])), (n1, .inr (16, [.ref u2])), (u2, .inl (cy 0, 24, .inl (zE 0)))] H := hP
  have hD : va_D A [(h0, .inr (17, [.ref m0, .ref m1, .ref m2, .ref m3, .ref m4, .ref m5, .ref m6, .ref m7, .ref m8, .ref m9, .ref m10, .ref m11, .ref m12, .ref m13, .ref m14, .ref m15, .ref m16, .ref m17, .ref m18, .ref m19, .ref m20, .int 0, .int 0, .int 0, .int 0, .long 1, .int 0])), (m0, .inr (2, [.int 0, .ref b1, .int 0])), (n1, .inr (16, [.ref u2])), (u2, .inl (cy 0, 24, .inl (zE 0)))] := hD
  refine W.widen (k := 2) (n := 25) (by omega) (by omega) ?_
  refine lv_astore_n (lv' := [(1, .ref n1), (0, .ref h0)]) hx hb dX14_allSquares_8 rfl hl (by decide) rfl (fun ls hl => ?_)
  refine lv_iconst (v := 0) hx hb dX14_allSquares_9 (by decide) ?_
  refine lv_istore_n (lv' := [(2, .int 0), (1, .ref n1), (0, .ref h0)]) hx hb dX14_allSquares_10 rfl hl (by decide) rfl (fun ls hl => ?_)
  refine lv_iload_n hx hb dX14_allSquares_11 rfl (lv_at hl 0 rfl) ?_
  refine lv_aload_n hx hb dX14_allSquares_12 rfl (lv_at hl 2 rfl) ?_
  refine va_get (D := D) (ci := 17) (v := .ref m0) (C := RX14) (T := TX14) (N := 27) hx hb hts iRX14 hown hK hP 0 rfl rfl 0 (by decide) (hts _ q259) (fun _ h9 => h9) rfl dX14_allSquares_13 ?_
  refine zq_i (wc := [(m0, .inr (2, [.int 0, .ref b1, .int 0]))]) (wr := [(h0, .inr (17, [.ref m0, .ref m1, .ref m2, .ref m3, .ref m4, .ref m5, .ref m6, .ref m7, .ref m8, .ref m9, .ref m10, .ref m11, .ref m12, .ref m13, .ref m14, .ref m15, .ref m16, .ref m17, .ref m18, .ref m19, .ref m20, .int 0, .int 0, .int 0, .int 0, .long 1, .int 0])), (n1, .inr (16, [.ref u2])), (u2, .inl (cy 0, 24, .inl (zE 0)))]) (va_runV (As := []) (rest := [.int 0]) ⟨hx, hb, hml, hown, hts⟩ (k_AL_size l D cy m0 b1 H.size ) (cwV 0 hts (gzV (gz q287) q286 q288 q289 q255) rfl rfl rfl vJx4a65c_size_8abf5 ⟨Nat.le_of_ble_eq_true rfl, Nat.le_of_ble_eq_true rfl⟩) (zpV (ci := 2) (T := TJx4a65c) (N := 3) (q0 := 0) hK hX hY hP hD hS hA [1] (by decide) rfl rfl rfl) rfl rfl hl.1 rfl (lv_room (Nat.le_of_ble_eq_true rfl)) dX14_allSquares_16 ⟨Nat.le_of_ble_eq_true rfl, Nat.le_of_ble_eq_true rfl⟩) hP hD hS hA [1] [0, 2, 3] rfl rfl (by decide) (by decide) (fun x5 u4 H locs hw hP hD hS => ?_)
  obtain rfl : x5 = 0 := hw
  have hP : va_P D vwCl [(h0, .inr (17, [.ref m0, .ref m1, .ref m2, .ref m3, .ref m4, .ref m5, .ref m6, .ref m7, .ref m8, .ref m9, .ref m10, .ref m11, .ref m12, .ref m13, .ref m14, .ref m15, .ref m16, .ref m17, .ref m18, .ref m19, .ref m20, .int 0, .int 0, .int 0, .int 0, .long 1, .int 0])), (n1, .inr (16, [.ref u2])), (u2, .inl (cy 0, 24, .inl (zE 0))), (m0, .inr (2, [.int 0, .ref b1, .int 0]))] H := hP
  have hD : va_D A [(h0, .inr (17, [.ref m0, .ref m1, .ref m2, .ref m3, .ref m4, .ref m5, .ref m6, .ref m7, .ref m8, .ref m9, .ref m10, .ref m11, .ref m12, .ref m13, .ref m14, .ref m15, .ref m16, .ref m17, .ref m18, .ref m19, .ref m20, .int 0, .int 0, .int 0, .int 0, .long 1, .int 0])), (n1, .inr (16, [.ref u2])), (u2, .inl (cy 0, 24, .inl (zE 0))), (m0, .inr (2, [.int 0, .ref b1, .int 0]))] := hD
  refine lv_icmp_ge (tgt := 81) hx hb dX14_allSquares_19 (by decide) (fun _ => ?_) (fun c_19_5 => absurd (by decide +kernel) c_19_5)
  refine lv_aload_n hx hb dX14_allSquares_81 rfl (lv_at hl 1 rfl) ?_
  have hP9 := hP.sub (ws' := [(n1, .inr (16, [.ref u2])), (u2, .inl (cy 0, 24, .inl (zE 0))), (h0, .inr (17, [.ref m0, .ref m1, .ref m2, .ref m3, .ref m4, .ref m5, .ref m6, .ref m7, .ref m8, .ref m9, .ref m10, .ref m11, .ref m12, .ref m13, .ref m14, .ref m15, .ref m16, .ref m17, .ref m18, .ref m19, .ref m20, .int 0, .int 0, .int 0, .int 0, .long 1, .int 0])), (m0, .inr (2, [.int 0, .ref b1, .int 0]))]) [1, 2, 0, 3] rfl
  have hD9 := hD.sub (ws' := [(n1, .inr (16, [.ref u2])), (u2, .inl (cy 0, 24, .inl (zE 0))), (h0, .inr (17, [.ref m0, .ref m1, .ref m2, .ref m3, .ref m4, .ref m5, .ref m6, .ref m7, .ref m8, .ref m9, .ref m10, .ref m11, .ref m12, .ref m13, .ref m14, .ref m15, .ref m16, .ref m17, .ref m18, .ref m19, .ref m20, .int 0, .int 0, .int 0, .int 0, .long 1, .int 0])), (m0, .inr (2, [.int 0, .ref b1, .int 0]))]) [1, 2, 0, 3] (by decide) rfl
  refine W.widen (k := 2) (n := 25) (Nat.le_of_ble_eq_true rfl) (Nat.le_of_ble_eq_true rfl) ?_
  rw [hQe]
  exact W.aret (v := .ref n1) (rt := (.object "CavernbookModel$Wide")) hx hb hr (Or.inl ⟨_, rfl⟩) (Or.inr ⟨_, rfl⟩) (fun t ht hW => ⟨⟨u2, n1, rfl, trivial, ⟨by rw [ht]; exact hP9, hD9⟩⟩, hS.F ht⟩) hS.2.2 dX14_allSquares_82
set_option maxHeartbeats 4000000 in
set_option maxRecDepth 100000 in
/-- 0 over 1 -/
theorem k_thousandths (l : Launch) (D : va_G) (cy : Nat → ClassId) (h0 : Nat) (m0 : Nat) (m1 : Nat) (m2 : Nat) (m3 : Nat) (m4 : Nat) (m5 : Nat) (m6 : Nat) (m7 : Nat) (m8 : Nat) (m9 : Nat) (m10 : Nat) (m11 : Nat) (m12 : Nat) (m13 : Nat) (m14 : Nat) (m15 : Nat) (m16 : Nat) (m17 : Nat) (m18 : Nat) (m19 : Nat) (m20 : Nat) (w0 : Nat) (b0 : Nat) (sz : Nat)  : Met l yX14_thousandths (wz yX14_thousandths cX14_thousandths 10 (some .long)) ({ frames := 4, cells := 16, slots := 200, locals := 86 } : Room) (va_Pc [.ref h0, .ref w0] (zPre vwCl D cy [(h0, .inr (17, [.ref m0, .ref m1, .ref m2, .ref m3, .ref m4, .ref m5, .ref m6, .ref m7, .ref m8, .ref m9, .ref m10, .ref m11, .ref m12, .ref m13, .ref m14, .ref m15, .ref m16, .ref m17, .ref m18, .ref m19, .ref m20, .int 0, .int 0, .int 0, .int 0, .long 1, .int 0])), (w0, .inr (16, [.ref b0])), (b0, .inl (cy 0, 24, .inl (zE 0)))] sz)) (va_Ql (fun (r : Int64) (_ : Unit) => r = 0) (fun (u : Unit) t => zPost vwCl D (va_A [(h0, .inr (17, [.ref m0, .ref m1, .ref m2, .ref m3, .ref m4, .ref m5, .ref m6, .ref m7, .ref m8, .ref m9, .ref m10, .ref m11, .ref m12, .ref m13, .ref m14, .ref m15, .ref m16, .ref m17, .ref m18, .ref m19, .ref m20, .int 0, .int 0, .int 0, .int 0, .long 1, .int 0])), (w0, .inr (16, [.ref b0])), (b0, .inl (cy 0, 24, .inl (zE 0)))] sz) [(h0, .inr (17, [.ref m0, .ref m1, .ref m2, .ref m3, .ref m4, .ref m5, .ref m6, .ref m7, .ref m8, .ref m9, .ref m10, .ref m11, .ref m12, .ref m13, .ref m14, .ref m15, .ref m16, .ref m17, .ref m18, .ref m19, .ref m20, .int 0, .int 0, .int 0, .int 0, .long 1, .int 0]))] t) (va_A [(h0, .inr (17, [.ref m0, .ref m1, .ref m2, .ref m3, .ref m4, .ref m5, .ref m6, .ref m7, .ref m8, .ref m9, .ref m10, .ref m11, .ref m12, .ref m13, .ref m14, .ref m15, .ref m16, .ref m17, .ref m18, .ref m19, .ref m20, .int 0, .int 0, .int 0, .int 0, .long 1, .int 0])), (w0, .inr (16, [.ref b0])), (b0, .inl (cy 0, 24, .inl (zE 0)))] sz)) 16 200 (va_A [(h0, .inr (17, [.ref m0, .ref m1, .ref m2, .ref m3, .ref m4, .ref m5, .ref m6, .ref m7, .ref m8, .ref m9, .ref m10, .ref m11, .ref m12, .ref m13, .ref m14, .ref m15, .ref m16, .ref m17, .ref m18, .ref m19, .ref m20, .int 0, .int 0, .int 0, .int 0, .long 1, .int 0])), (w0, .inr (16, [.ref b0])), (b0, .inl (cy 0, 24, .inl (zE 0)))] sz) := by
  refine Met.ofW (cc := cX14_thousandths) (maxL := 10) (ret := (some .long)) (by decide) rfl ?_
  intro p e s m args below meth c s₁ B hml hv
  obtain ⟨rfl, hsz, hP, hK, hD0, hX, hY⟩ := hv
  have hx := B.exec
  have hb := B.bytes
  have hr := B.returns
  have hts0 := atoms_spec (ws := wz yX14_thousandths cX14_thousandths 10 (some .long)) B.pre
  have hts : ∀ w ∈ wAll, w.before _ s = true := fun w h => hts0 w (List.mem_cons_of_mem _ h)
  have hown : s.vm.findClass RX14 = some m.cls := findClass_of_methodNamed B.named
  have hlocks := B.notSynchronized
  subst hsz
  have hD := hD0.self (sz := s.heap.size)
  generalize hAe : va_A [(h0, .inr (17, [.ref m0, .ref m1, .ref m2, .ref m3, .ref m4, .ref m5, .ref m6, .ref m7, .ref m8, .ref m9, .ref m10, .ref m11, .ref m12, .ref m13, .ref m14, .ref m15, .ref m16, .ref m17, .ref m18, .ref m19, .ref m20, .int 0, .int 0, .int 0, .int 0, .long 1, .int 0])), (w0, .inr (16, [.ref b0])), (b0, .inl (cy 0, 24, .inl (zE 0)))] s.heap.size = A at hD hY ⊢
  have hA : ∀ q : Nat, s.heap.size ≤ q → A q := fun q h => by rw [← hAe]; exact Or.inr h
  have hS : va_S A s.heap s.heap [] := va_S.rf
  have hP : va_P D vwCl [(h0, .inr (17, [.ref m0, .ref m1, .ref m2, .ref m3, .ref m4, .ref m5, .ref m6, .ref m7, .ref m8, .ref m9, .ref m10, .ref m11, .ref m12, .ref m13, .ref m14, .ref m15, .ref m16, .ref m17, .ref m18, .ref m19, .ref m20, .int 0, .int 0, .int 0, .int 0, .long 1, .int 0])), (w0, .inr (16, [.ref b0])), (b0, .inl (cy 0, 24, .inl (zE 0)))] s.heap := hP
  have hl := lv_entry ([.ref h0, .ref w0]) (n := 10) (Nat.le_of_ble_eq_true rfl)
  rw [lg_entry_eq]
  generalize (lg_sl ([.ref h0, .ref w0]) ++ List.replicate (10 - (lg_sl ([.ref h0, .ref w0])).length) Slot.unset).toArray = ls at hl ⊢
  have hl : lv_has ls 10 [(0, .ref h0), (1, .ref w0)] := hl
  refine z_anyQ (fun Q hQe => ?_)
  refine lv_aload_n hx hb dX14_thousandths_0 rfl (lv_at hl 1 rfl) ?_
  refine va_new (ci := 16) (fs := [.null]) (C := RX13) (T := TX13) (N := 1) hx hb hts iRX13 tyX13 tyX13_ok hown (hts _ q319) (hts _ q314) (hts _ q315) hK hP hD hS hA rfl (fun j hj => by rcases (show j = 0 by omega) with rfl; rfl) (Nat.le_of_ble_eq_true rfl) (Nat.le_of_ble_eq_true rfl) dX14_thousandths_1 (fun n1 H hP hD hS => ?_)
  have hP : va_P D vwCl [(h0, .inr (17, [.ref m0, .ref m1, .ref m2, .ref m3, .ref m4, .ref m5, .ref m6, .ref m7, .ref m8, .ref m9, .ref m10, .ref m11, .ref m12, .ref m13, .ref m14, .ref m15, .ref m16, .ref m17, .ref m18, .ref m19, .ref m20, .int 0, .int 0, .int 0, .int 0, .long 1, .int 0])), (w0, .inr (16, [.ref b0])), (b0, .inl (cy 0, 24, .inl (zE 0))), (n1, .inr (16, [.null]))] H := hP
  have hD : va_D A [(h0, .inr (17, [.ref m0, .ref m1, .ref m2, .ref m3, .ref m4, .ref m5, .ref m6, .ref m7, .ref m8, .ref m9, .ref m10, .ref m11, .ref m12, .ref m13, .ref m14, .ref m15, .ref m16, .ref m17, .ref m18, .ref m19, .ref m20, .int 0, .int 0, .int 0, .int 0, .long 1, .int 0])), (w0, .inr (16, [.ref b0])), (b0, .inl (cy 0, 24, .inl (zE 0))), (n1, .inr (16, [.null]))] := hD
  refine W.widen (k := 1) (n := 1) (by omega) (by omega) ?_
  refine lv_dup hx hb dX14_thousandths_4 rfl ?_
  refine lv_ldc2 (v := 1000) hx hb hown (hts _ q325) dX14_thousandths_5 ?_
  refine zq_v (wc := [(n1, .inr (16, [.null]))]) (wr := [(h0, .inr (17, [.ref m0, .ref m1, .ref m2, .ref m3, .ref m4, .ref m5, .ref m6, .ref m7, .ref m8, .ref m9, .ref m10, .ref m11, .ref m12, .ref m13, .ref m14, .ref m15, .ref m16, .ref m17, .ref m18, .ref m19, .ref m20, .int 0, .int 0, .int 0, .int 0, .long 1, .int 0])), (w0, .inr (16, [.ref b0])), (b0, .inl (cy 0, 24, .inl (zE 0)))]) (va_runI (As := [.long 1000]) (rest := [.ref n1, .ref w0]) ⟨hx, hb, hml, hown, hts⟩ (k_Wide1000 l D cy n1 H.size ) (cwI 1 hts (gz q317) rfl rfl rfl (hts _ q315) (hts _ q320) (hts _ q318) rfl vX13_init.2 ⟨Nat.le_of_ble_eq_true rfl, Nat.le_of_ble_eq_true rfl⟩) (zpS hK hX hY hP hD hS hA [3] (by decide) rfl) rfl rfl hl.1 rfl (lv_room (Nat.le_of_ble_eq_true rfl)) dX14_thousandths_8 ⟨Nat.le_of_ble_eq_true rfl, Nat.le_of_ble_eq_true rfl⟩) hP hD hS hA [3] [0, 1, 2] rfl rfl (by decide) (by decide) (fun u2 H locs hw hP hD hS => ?_)
  have hP : va_P D vwCl [(h0, .inr (17, [.ref m0, .ref m1, .ref m2, .ref m3, .ref m4, .ref m5, .ref m6, .ref m7, .ref m8, .ref m9, .ref m10, .ref m11, .ref m12, .ref m13, .ref m14, .ref m15, .ref m16, .ref m17, .ref m18, .ref m19, .ref m20, .int 0, .int 0, .int 0, .int 0, .long 1, .int 0])), (w0, .inr (16, [.ref b0])), (b0, .inl (cy 0, 24, .inl (zE 0))), (n1, .inr (16, [.ref u2])), (u2, .inl (cy 0, 24, .inl (zE 1000)))] H := hP
  have hD : va_D A [(h0, .inr (17, [.ref m0, .ref m1, .ref m2, .ref m3, .ref m4, .ref m5, .ref m6, .ref m7, .ref m8, .ref m9, .ref m10, .ref m11, .ref m12, .ref m13, .ref m14, .ref m15, .ref m16, .ref m17, .ref m18, .ref m19, .ref m20, .int 0, .int 0, .int 0, .int 0, .long 1, .int 0])), (w0, .inr (16, [.ref b0])), (b0, .inl (cy 0, 24, .inl (zE 0))), (n1, .inr (16, [.ref u2])), (u2, .inl (cy 0, 24, .inl (zE 1000)))] := hD
  refine W.widen (k := 2) (n := 25) (by omega) (by omega) ?_
  refine zq_r (wc := [(w0, .inr (16, [.ref b0])), (b0, .inl (cy 0, 24, .inl (zE 0))), (n1, .inr (16, [.ref u2])), (u2, .inl (cy 0, 24, .inl (zE 1000)))]) (wr := [(h0, .inr (17, [.ref m0, .ref m1, .ref m2, .ref m3, .ref m4, .ref m5, .ref m6, .ref m7, .ref m8, .ref m9, .ref m10, .ref m11, .ref m12, .ref m13, .ref m14, .ref m15, .ref m16, .ref m17, .ref m18, .ref m19, .ref m20, .int 0, .int 0, .int 0, .int 0, .long 1, .int 0]))]) (va_runV (As := [.ref n1]) (rest := []) ⟨hx, hb, hml, hown, hts⟩ (k_times_0_1000 l D cy w0 b0 n1 u2 H.size ) (cwV 1 hts (gzV (gz q322) q321 q323 q324 q315) rfl rfl rfl vX13_times ⟨Nat.le_of_ble_eq_true rfl, Nat.le_of_ble_eq_true rfl⟩) (zpV (ci := 16) (T := TX13) (N := 1) (q0 := 0) hK hX hY hP hD hS hA [1, 2, 3, 4] (by decide) rfl rfl rfl) rfl rfl hl.1 rfl (lv_room (Nat.le_of_ble_eq_true rfl)) dX14_thousandths_11 ⟨Nat.le_of_ble_eq_true rfl, Nat.le_of_ble_eq_true rfl⟩) hP hD hS hA [1, 2, 3, 4] [0] rfl rfl (by decide) (by decide) (fun u4 x5 H locs hw hP hD hS => ?_)
  have hP : va_P D vwCl [(h0, .inr (17, [.ref m0, .ref m1, .ref m2, .ref m3, .ref m4, .ref m5, .ref m6, .ref m7, .ref m8, .ref m9, .ref m10, .ref m11, .ref m12, .ref m13, .ref m14, .ref m15, .ref m16, .ref m17, .ref m18, .ref m19, .ref m20, .int 0, .int 0, .int 0, .int 0, .long 1, .int 0])), (x5, .inr (16, [.ref u4])), (u4, .inl (cy 0, 24, .inl (zE 0))), (w0, .inr (16, [.ref b0])), (b0, .inl (cy 0, 24, .inl (zE 0))), (n1, .inr (16, [.ref u2])), (u2, .inl (cy 0, 24, .inl (zE 1000)))] H := hP
  have hD : va_D A [(h0, .inr (17, [.ref m0, .ref m1, .ref m2, .ref m3, .ref m4, .ref m5, .ref m6, .ref m7, .ref m8, .ref m9, .ref m10, .ref m11, .ref m12, .ref m13, .ref m14, .ref m15, .ref m16, .ref m17, .ref m18, .ref m19, .ref m20, .int 0, .int 0, .int 0, .int 0, .long 1, .int 0])), (x5, .inr (16, [.ref u4])), (u4, .inl (cy 0, 24, .inl (zE 0))), (w0, .inr (16, [.ref b0])), (b0, .inl (cy 0, 24, .inl (zE 0))), (n1, .inr (16, [.ref u2])), (u2, .inl (cy 0, 24, .inl (zE 1000)))] := hD
  refine W.widen (k := 4) (n := 50) (by omega) (by omega) ?_
  refine lv_astore_n (lv' := [(2, .ref x5), (0, .ref h0), (1, .ref w0)]) hx hb dX14_thousandths_14 rfl hl (by decide) rfl (fun ls hl => ?_)
  refine lv_aload_n hx hb dX14_thousandths_15 rfl (lv_at hl 1 rfl) ?_
  refine zq_r (wc := [(h0, .inr (17, [.ref m0, .ref m1, .ref m2, .ref m3, .ref m4, .ref m5, .ref m6, .ref m7, .ref m8, .ref m9, .ref m10, .ref m11, .ref m12, .ref m13, .ref m14, .ref m15, .ref m16, .ref m17, .ref m18, .ref m19, .ref m20, .int 0, .int 0, .int 0, .int 0, .long 1, .int 0]))]) (wr := [(x5, .inr (16, [.ref u4])), (u4, .inl (cy 0, 24, .inl (zE 0))), (w0, .inr (16, [.ref b0])), (b0, .inl (cy 0, 24, .inl (zE 0))), (n1, .inr (16, [.ref u2])), (u2, .inl (cy 0, 24, .inl (zE 1000)))]) (va_runV (As := []) (rest := []) ⟨hx, hb, hml, hown, hts⟩ (k_baseSquare l D cy h0 m0 m1 m2 m3 m4 m5 m6 m7 m8 m9 m10 m11 m12 m13 m14 m15 m16 m17 m18 m19 m20 H.size ) (cwV 0 hts (gzV (gz q327) q326 q328 q329 q285) rfl rfl rfl vX14_baseSquare ⟨Nat.le_of_ble_eq_true rfl, Nat.le_of_ble_eq_true rfl⟩) (zpV (ci := 17) (T := TX14) (N := 27) (q0 := 0) hK hX hY hP hD hS hA [0] (by decide) rfl rfl rfl) rfl rfl hl.1 rfl (lv_room (Nat.le_of_ble_eq_true rfl)) dX14_thousandths_16 ⟨Nat.le_of_ble_eq_true rfl, Nat.le_of_ble_eq_true rfl⟩) hP hD hS hA [0] [1, 2, 3, 4, 5, 6] rfl rfl (by decide) (by decide) (fun u6 x7 H locs hw hP hD hS => ?_)
  have hP : va_P D vwCl [(x5, .inr (16, [.ref u4])), (u4, .inl (cy 0, 24, .inl (zE 0))), (w0, .inr (16, [.ref b0])), (b0, .inl (cy 0, 24, .inl (zE 0))), (n1, .inr (16, [.ref u2])), (u2, .inl (cy 0, 24, .inl (zE 1000))), (x7, .inr (16, [.ref u6])), (u6, .inl (cy 0, 24, .inl (zE 1))), (h0, .inr (17, [.ref m0, .ref m1, .ref m2, .ref m3, .ref m4, .ref m5, .ref m6, .ref m7, .ref m8, .ref m9, .ref m10, .ref m11, .ref m12, .ref m13, .ref m14, .ref m15, .ref m16, .ref m17, .ref m18, .ref m19, .ref m20, .int 0, .int 0, .int 0, .int 0, .long 1, .int 0]))] H := hP
  have hD : va_D A [(x5, .inr (16, [.ref u4])), (u4, .inl (cy 0, 24, .inl (zE 0))), (w0, .inr (16, [.ref b0])), (b0, .inl (cy 0, 24, .inl (zE 0))), (n1, .inr (16, [.ref u2])), (u2, .inl (cy 0, 24, .inl (zE 1000))), (x7, .inr (16, [.ref u6])), (u6, .inl (cy 0, 24, .inl (zE 1))), (h0, .inr (17, [.ref m0, .ref m1, .ref m2, .ref m3, .ref m4, .ref m5, .ref m6, .ref m7, .ref m8, .ref m9, .ref m10, .ref m11, .ref m12, .ref m13, .ref m14, .ref m15, .ref m16, .ref m17, .ref m18, .ref m19, .ref m20, .int 0, .int 0, .int 0, .int 0, .long 1, .int 0]))] := hD
  refine W.widen (k := 8) (n := 100) (by omega) (by omega) ?_
  refine lv_astore_n (lv' := [(3, .ref x7), (2, .ref x5), (0, .ref h0), (1, .ref w0)]) hx hb dX14_thousandths_19 rfl hl (by decide) rfl (fun ls hl => ?_)
  refine lv_lconst (v := 1) hx hb dX14_thousandths_20 rfl ?_
  refine lv_lstore (lv' := [(4, .long 1), (3, .ref x7), (2, .ref x5), (0, .ref h0), (1, .ref w0)]) hx hb dX14_thousandths_21 hl (by decide) rfl (fun ls hl => ?_)
  refine va_new (ci := 16) (fs := [.null]) (C := RX13) (T := TX13) (N := 1) hx hb hts iRX13 tyX13 tyX13_ok hown (hts _ q319) (hts _ q314) (hts _ q315) hK hP hD hS hA rfl (fun j hj => by rcases (show j = 0 by omega) with rfl; rfl) (Nat.le_of_ble_eq_true rfl) (Nat.le_of_ble_eq_true rfl) dX14_thousandths_23 (fun n8 H hP hD hS => ?_)
  have hP : va_P D vwCl [(x5, .inr (16, [.ref u4])), (u4, .inl (cy 0, 24, .inl (zE 0))), (w0, .inr (16, [.ref b0])), (b0, .inl (cy 0, 24, .inl (zE 0))), (n1, .inr (16, [.ref u2])), (u2, .inl (cy 0, 24, .inl (zE 1000))), (x7, .inr (16, [.ref u6])), (u6, .inl (cy 0, 24, .inl (zE 1))), (h0, .inr (17, [.ref m0, .ref m1, .ref m2, .ref m3, .ref m4, .ref m5, .ref m6, .ref m7, .ref m8, .ref m9, .ref m10, .ref m11, .ref m12, .ref m13, .ref m14, .ref m15, .ref m16, .ref m17, .ref m18, .ref m19, .ref m20, .int 0, .int 0, .int 0, .int 0, .long 1, .int 0])), (n8, .inr (16, [.null]))] H := hP
  have hD : va_D A [(x5, .inr (16, [.ref u4])), (u4, .inl (cy 0, 24, .inl (zE 0))), (w0, .inr (16, [.ref b0])), (b0, .inl (cy 0, 24, .inl (zE 0))), (n1, .inr (16, [.ref u2])), (u2, .inl (cy 0, 24, .inl (zE 1000))), (x7, .inr (16, [.ref u6])), (u6, .inl (cy 0, 24, .inl (zE 1))), (h0, .inr (17, [.ref m0, .ref m1, .ref m2, .ref m3, .ref m4, .ref m5, .ref m6, .ref m7, .ref m8, .ref m9, .ref m10, .ref m11, .ref m12, .ref m13, .ref m14, .ref m15, .ref m16, .ref m17, .ref m18, .ref m19, .ref m20, .int 0, .int 0, .int 0, .int 0, .long 1, .int 0])), (n8, .inr (16, [.null]))] := hD
  refine W.widen (k := 9) (n := 101) (by omega) (by omega) ?_
  refine lv_dup hx hb dX14_thousandths_26 rfl ?_
  refine lv_lload hx hb dX14_thousandths_27 (lv_at hl 0 rfl) ?_
  refine zq_v (wc := [(n8, .inr (16, [.null]))]) (wr := [(x5, .inr (16, [.ref u4])), (u4, .inl (cy 0, 24, .inl (zE 0))), (w0, .inr (16, [.ref b0])), (b0, .inl (cy 0, 24, .inl (zE 0))), (n1, .inr (16, [.ref u2])), (u2, .inl (cy 0, 24, .inl (zE 1000))), (x7, .inr (16, [.ref u6])), (u6, .inl (cy 0, 24, .inl (zE 1))), (h0, .inr (17, [.ref m0, .ref m1, .ref m2, .ref m3, .ref m4, .ref m5, .ref m6, .ref m7, .ref m8, .ref m9, .ref m10, .ref m11, .ref m12, .ref m13, .ref m14, .ref m15, .ref m16, .ref m17, .ref m18, .ref m19, .ref m20, .int 0, .int 0, .int 0, .int 0, .long 1, .int 0]))]) (va_runI (As := [.long 1]) (rest := [.ref n8]) ⟨hx, hb, hml, hown, hts⟩ (k_Wide1 l D cy n8 H.size ) (cwI 1 hts (gz q317) rfl rfl rfl (hts _ q315) (hts _ q320) (hts _ q318) rfl vX13_init.2 ⟨Nat.le_of_ble_eq_true rfl, Nat.le_of_ble_eq_true rfl⟩) (zpS hK hX hY hP hD hS hA [9] (by decide) rfl) rfl rfl hl.1 rfl (lv_room (Nat.le_of_ble_eq_true rfl)) dX14_thousandths_29 ⟨Nat.le_of_ble_eq_true rfl, Nat.le_of_ble_eq_true rfl⟩) hP hD hS hA [9] [0, 1, 2, 3, 4, 5, 6, 7, 8] rfl rfl (by decide) (by decide) (fun u9 H locs hw hP hD hS => ?_)
  have hP : va_P D vwCl [(x5, .inr (16, [.ref u4])), (u4, .inl (cy 0, 24, .inl (zE 0))), (w0, .inr (16, [.ref b0])), (b0, .inl (cy 0, 24, .inl (zE 0))), (n1, .inr (16, [.ref u2])), (u2, .inl (cy 0, 24, .inl (zE 1000))), (x7, .inr (16, [.ref u6])), (u6, .inl (cy 0, 24, .inl (zE 1))), (h0, .inr (17, [.ref m0, .ref m1, .ref m2, .ref m3, .ref m4, .ref m5, .ref m6, .ref m7, .ref m8, .ref m9, .ref m10, .ref m11, .ref m12, .ref m13, .ref m14, .ref m15, .ref m16, .ref m17, .ref m18, .ref m19, .ref m20, .int 0, .int 0, .int 0, .int 0, .long 1, .int 0])), (n8, .inr (16, [.ref u9])), (u9, .inl (cy 0, 24, .inl (zE 1)))] H := hP
  have hD : va_D A [(x5, .inr (16, [.ref u4])), (u4, .inl (cy 0, 24, .inl (zE 0))), (w0, .inr (16, [.ref b0])), (b0, .inl (cy 0, 24, .inl (zE 0))), (n1, .inr (16, [.ref u2])), (u2, .inl (cy 0, 24, .inl (zE 1000))), (x7, .inr (16, [.ref u6])), (u6, .inl (cy 0, 24, .inl (zE 1))), (h0, .inr (17, [.ref m0, .ref m1, .ref m2, .ref m3, .ref m4, .ref m5, .ref m6, .ref m7, .ref m8, .ref m9, .ref m10, .ref m11, .ref m12, .ref m13, .ref m14, .ref m15, .ref m16, .ref m17, .ref m18, .ref m19, .ref m20, .int 0, .int 0, .int 0, .int 0, .long 1, .int 0])), (n8, .inr (16, [.ref u9])), (u9, .inl (cy 0, 24, .inl (zE 1)))] := hD
  refine W.widen (k := 10) (n := 125) (by omega) (by omega) ?_
  refine lv_aload_n hx hb dX14_thousandths_32 rfl (lv_at hl 1 rfl) ?_
  refine zq_r (wc := [(n8, .inr (16, [.ref u9])), (u9, .inl (cy 0, 24, .inl (zE 1))), (x7, .inr (16, [.ref u6])), (u6, .inl (cy 0, 24, .inl (zE 1)))]) (wr := [(x5, .inr (16, [.ref u4])), (u4, .inl (cy 0, 24, .inl (zE 0))), (w0, .inr (16, [.ref b0])), (b0, .inl (cy 0, 24, .inl (zE 0))), (n1, .inr (16, [.ref u2])), (u2, .inl (cy 0, 24, .inl (zE 1000))), (h0, .inr (17, [.ref m0, .ref m1, .ref m2, .ref m3, .ref m4, .ref m5, .ref m6, .ref m7, .ref m8, .ref m9, .ref m10, .ref m11, .ref m12, .ref m13, .ref m14, .ref m15, .ref m16, .ref m17, .ref m18, .ref m19, .ref m20, .int 0, .int 0, .int 0, .int 0, .long 1, .int 0]))]) (va_runV (As := [.ref x7]) (rest := []) ⟨hx, hb, hml, hown, hts⟩ (k_times_1_1 l D cy n8 u9 x7 u6 H.size ) (cwV 1 hts (gzV (gz q322) q321 q323 q324 q315) rfl rfl rfl vX13_times ⟨Nat.le_of_ble_eq_true rfl, Nat.le_of_ble_eq_true rfl⟩) (zpV (ci := 16) (T := TX13) (N := 1) (q0 := 0) hK hX hY hP hD hS hA [9, 10, 6, 7] (by decide) rfl rfl rfl) rfl rfl hl.1 rfl (lv_room (Nat.le_of_ble_eq_true rfl)) dX14_thousandths_33 ⟨Nat.le_of_ble_eq_true rfl, Nat.le_of_ble_eq_true rfl⟩) hP hD hS hA [9, 10, 6, 7] [0, 1, 2, 3, 4, 5, 8] rfl rfl (by decide) (by decide) (fun u11 x12 H locs hw hP hD hS => ?_)
  have hP : va_P D vwCl [(x5, .inr (16, [.ref u4])), (u4, .inl (cy 0, 24, .inl (zE 0))), (w0, .inr (16, [.ref b0])), (b0, .inl (cy 0, 24, .inl (zE 0))), (n1, .inr (16, [.ref u2])), (u2, .inl (cy 0, 24, .inl (zE 1000))), (h0, .inr (17, [.ref m0, .ref m1, .ref m2, .ref m3, .ref m4, .ref m5, .ref m6, .ref m7, .ref m8, .ref m9, .ref m10, .ref m11, .ref m12, .ref m13, .ref m14, .ref m15, .ref m16, .ref m17, .ref m18, .ref m19, .ref m20, .int 0, .int 0, .int 0, .int 0, .long 1, .int 0])), (x12, .inr (16, [.ref u11])), (u11, .inl (cy 0, 24, .inl (zE 1))), (n8, .inr (16, [.ref u9])), (u9, .inl (cy 0, 24, .inl (zE 1))), (x7, .inr (16, [.ref u6])), (u6, .inl (cy 0, 24, .inl (zE 1)))] H := hP
  have hD : va_D A [(x5, .inr (16, [.ref u4])), (u4, .inl (cy 0, 24, .inl (zE 0))), (w0, .inr (16, [.ref b0])), (b0, .inl (cy 0, 24, .inl (zE 0))), (n1, .inr (16, [.ref u2])), (u2, .inl (cy 0, 24, .inl (zE 1000))), (h0, .inr (17, [.ref m0, .ref m1, .ref m2, .ref m3, .ref m4, .ref m5, .ref m6, .ref m7, .ref m8, .ref m9, .ref m10, .ref m11, .ref m12, .ref m13, .ref m14, .ref m15, .ref m16, .ref m17, .ref m18, .ref m19, .ref m20, .int 0, .int 0, .int 0, .int 0, .long 1, .int 0])), (x12, .inr (16, [.ref u11])), (u11, .inl (cy 0, 24, .inl (zE 1))), (n8, .inr (16, [.ref u9])), (u9, .inl (cy 0, 24, .inl (zE 1))), (x7, .inr (16, [.ref u6])), (u6, .inl (cy 0, 24, .inl (zE 1)))] := hD
  refine W.widen (k := 12) (n := 150) (by omega) (by omega) ?_
  refine lv_aload_n hx hb dX14_thousandths_36 rfl (lv_at hl 2 rfl) ?_
  refine zq_i (wc := [(x12, .inr (16, [.ref u11])), (u11, .inl (cy 0, 24, .inl (zE 1))), (x5, .inr (16, [.ref u4])), (u4, .inl (cy 0, 24, .inl (zE 0)))]) (wr := [(w0, .inr (16, [.ref b0])), (b0, .inl (cy 0, 24, .inl (zE 0))), (n1, .inr (16, [.ref u2])), (u2, .inl (cy 0, 24, .inl (zE 1000))), (h0, .inr (17, [.ref m0, .ref m1, .ref m2, .ref m3, .ref m4, .ref m5, .ref m6, .ref m7, .ref m8, .ref m9, .ref m10, .ref m11, .ref m12, .ref m13, .ref m14, .ref m15, .ref m16, .ref m17, .ref m18, .ref m19, .ref m20, .int 0, .int 0, .int 0, .int 0, .long 1, .int 0])), (n8, .inr (16, [.ref u9])), (u9, .inl (cy 0, 24, .inl (zE 1))), (x7, .inr (16, [.ref u6])), (u6, .inl (cy 0, 24, .inl (zE 1)))]) (va_runV (As := [.ref x5]) (rest := []) ⟨hx, hb, hml, hown, hts⟩ (k_against_1_0 l D cy x12 u11 x5 u4 H.size ) (cwV 1 hts (gzV (gz q331) q330 q332 q333 q315) rfl rfl rfl vX13_against ⟨Nat.le_of_ble_eq_true rfl, Nat.le_of_ble_eq_true rfl⟩) (zpV (ci := 16) (T := TX13) (N := 1) (q0 := 0) hK hX hY hP hD hS hA [7, 8, 0, 1] (by decide) rfl rfl rfl) rfl rfl hl.1 rfl (lv_room (Nat.le_of_ble_eq_true rfl)) dX14_thousandths_37 ⟨Nat.le_of_ble_eq_true rfl, Nat.le_of_ble_eq_true rfl⟩) hP hD hS hA [7, 8, 0, 1] [2, 3, 4, 5, 6, 9, 10, 11, 12] rfl rfl (by decide) (by decide) (fun x14 u13 H locs hw hP hD hS => ?_)
  obtain rfl : x14 = 1 := hw
  have hP : va_P D vwCl [(w0, .inr (16, [.ref b0])), (b0, .inl (cy 0, 24, .inl (zE 0))), (n1, .inr (16, [.ref u2])), (u2, .inl (cy 0, 24, .inl (zE 1000))), (h0, .inr (17, [.ref m0, .ref m1, .ref m2, .ref m3, .ref m4, .ref m5, .ref m6, .ref m7, .ref m8, .ref m9, .ref m10, .ref m11, .ref m12, .ref m13, .ref m14, .ref m15, .ref m16, .ref m17, .ref m18, .ref m19, .ref m20, .int 0, .int 0, .int 0, .int 0, .long 1, .int 0])), (n8, .inr (16, [.ref u9])), (u9, .inl (cy 0, 24, .inl (zE 1))), (x7, .inr (16, [.ref u6])), (u6, .inl (cy 0, 24, .inl (zE 1))), (x5, .inr (16, [.ref u4])), (u4, .inl (cy 0, 24, .inl (zE 0)))] H := hP
  have hD : va_D A [(w0, .inr (16, [.ref b0])), (b0, .inl (cy 0, 24, .inl (zE 0))), (n1, .inr (16, [.ref u2])), (u2, .inl (cy 0, 24, .inl (zE 1000))), (h0, .inr (17, [.ref m0, .ref m1, .ref m2, .ref m3, .ref m4, .ref m5, .ref m6, .ref m7, .ref m8, .ref m9, .ref m10, .ref m11, .ref m12, .ref m13, .ref m14, .ref m15, .ref m16, .ref m17, .ref m18, .ref m19, .ref m20, .int 0, .int 0, .int 0, .int 0, .long 1, .int 0])), (n8, .inr (16, [.ref u9])), (u9, .inl (cy 0, 24, .inl (zE 1))), (x7, .inr (16, [.ref u6])), (u6, .inl (cy 0, 24, .inl (zE 1))), (x5, .inr (16, [.ref u4])), (u4, .inl (cy 0, 24, .inl (zE 0)))] := hD
  refine lv_if_gt (tgt := 54) hx hb dX14_thousandths_40 (by decide) (fun _ => ?_) (fun c_40_14 => absurd (by decide +kernel) c_40_14)
  refine lv_lload hx hb dX14_thousandths_54 (lv_at hl 0 rfl) ?_
  refine lv_ldc2 (v := 2) hx hb hown (hts _ q334) dX14_thousandths_56 ?_
  refine lv_ldiv hx hb dX14_thousandths_59 (by decide) ?_
  refine lv_topl (fun y16 ey16 => ?_)
  obtain rfl : y16 = 0 := ey16.trans (by decide +kernel)
  refine lv_lstore (lv' := [(6, .long 0), (4, .long 1), (3, .ref x7), (2, .ref x5), (0, .ref h0), (1, .ref w0)]) hx hb dX14_thousandths_60 hl (by decide) rfl (fun ls hl => ?_)
  refine lv_lload hx hb dX14_thousandths_62 (lv_at hl 1 rfl) ?_
  refine lv_lload hx hb dX14_thousandths_64 (lv_at hl 0 rfl) ?_
  refine lv_lsub hx hb dX14_thousandths_66 ?_
  refine lv_topl (fun y17 ey17 => ?_)
  obtain rfl : y17 = 1 := ey17.trans (by decide +kernel)
  refine lv_lconst (v := 1) hx hb dX14_thousandths_67 rfl ?_
  refine W.lcmp hx hb dX14_thousandths_68 ?_
  refine lv_topi (fun y18 ey18 => ?_)
  obtain rfl : y18 = 0 := ey18.trans (by decide +kernel)
  refine lv_if_le (tgt := 120) hx hb dX14_thousandths_69 (by decide) (fun _ => ?_) (fun c_69_18 => absurd (by decide +kernel) c_69_18)
  refine va_new (ci := 16) (fs := [.null]) (C := RX13) (T := TX13) (N := 1) hx hb hts iRX13 tyX13 tyX13_ok hown (hts _ q319) (hts _ q314) (hts _ q315) hK hP hD hS hA rfl (fun j hj => by rcases (show j = 0 by omega) with rfl; rfl) (Nat.le_of_ble_eq_true rfl) (Nat.le_of_ble_eq_true rfl) dX14_thousandths_120 (fun n20 H hP hD hS => ?_)
  have hP : va_P D vwCl [(w0, .inr (16, [.ref b0])), (b0, .inl (cy 0, 24, .inl (zE 0))), (n1, .inr (16, [.ref u2])), (u2, .inl (cy 0, 24, .inl (zE 1000))), (h0, .inr (17, [.ref m0, .ref m1, .ref m2, .ref m3, .ref m4, .ref m5, .ref m6, .ref m7, .ref m8, .ref m9, .ref m10, .ref m11, .ref m12, .ref m13, .ref m14, .ref m15, .ref m16, .ref m17, .ref m18, .ref m19, .ref m20, .int 0, .int 0, .int 0, .int 0, .long 1, .int 0])), (n8, .inr (16, [.ref u9])), (u9, .inl (cy 0, 24, .inl (zE 1))), (x7, .inr (16, [.ref u6])), (u6, .inl (cy 0, 24, .inl (zE 1))), (x5, .inr (16, [.ref u4])), (u4, .inl (cy 0, 24, .inl (zE 0))), (n20, .inr (16, [.null]))] H := hP
  have hD : va_D A [(w0, .inr (16, [.ref b0])), (b0, .inl (cy 0, 24, .inl (zE 0))), (n1, .inr (16, [.ref u2])), (u2, .inl (cy 0, 24, .inl (zE 1000))), (h0, .inr (17, [.ref m0, .ref m1, .ref m2, .ref m3, .ref m4, .ref m5, .ref m6, .ref m7, .ref m8, .ref m9, .ref m10, .ref m11, .ref m12, .ref m13, .ref m14, .ref m15, .ref m16, .ref m17, .ref m18, .ref m19, .ref m20, .int 0, .int 0, .int 0, .int 0, .long 1, .int 0])), (n8, .inr (16, [.ref u9])), (u9, .inl (cy 0, 24, .inl (zE 1))), (x7, .inr (16, [.ref u6])), (u6, .inl (cy 0, 24, .inl (zE 1))), (x5, .inr (16, [.ref u4])), (u4, .inl (cy 0, 24, .inl (zE 0))), (n20, .inr (16, [.null]))] := hD
  refine W.widen (k := 13) (n := 151) (by omega) (by omega) ?_
  refine lv_dup hx hb dX14_thousandths_123 rfl ?_
  refine lv_lload hx hb dX14_thousandths_124 (lv_at hl 0 rfl) ?_
  refine zq_v (wc := [(n20, .inr (16, [.null]))]) (wr := [(w0, .inr (16, [.ref b0])), (b0, .inl (cy 0, 24, .inl (zE 0))), (n1, .inr (16, [.ref u2])), (u2, .inl (cy 0, 24, .inl (zE 1000))), (h0, .inr (17, [.ref m0, .ref m1, .ref m2, .ref m3, .ref m4, .ref m5, .ref m6, .ref m7, .ref m8, .ref m9, .ref m10, .ref m11, .ref m12, .ref m13, .ref m14, .ref m15, .ref m16, .ref m17, .ref m18, .ref m19, .ref m20, .int 0, .int 0, .int 0, .int 0, .long 1, .int 0])), (n8, .inr (16, [.ref u9])), (u9, .inl (cy 0, 24, .inl (zE 1))), (x7, .inr (16, [.ref u6])), (u6, .inl (cy 0, 24, .inl (zE 1))), (x5, .inr (16, [.ref u4])), (u4, .inl (cy 0, 24, .inl (zE 0)))]) (va_runI (As := [.long 0]) (rest := [.ref n20]) ⟨hx, hb, hml, hown, hts⟩ (k_Wide0 l D cy n20 H.size ) (cwI 1 hts (gz q317) rfl rfl rfl (hts _ q315) (hts _ q320) (hts _ q318) rfl vX13_init.2 ⟨Nat.le_of_ble_eq_true rfl, Nat.le_of_ble_eq_true rfl⟩) (zpS hK hX hY hP hD hS hA [11] (by decide) rfl) rfl rfl hl.1 rfl (lv_room (Nat.le_of_ble_eq_true rfl)) dX14_thousandths_126 ⟨Nat.le_of_ble_eq_true rfl, Nat.le_of_ble_eq_true rfl⟩) hP hD hS hA [11] [0, 1, 2, 3, 4, 5, 6, 7, 8, 9, 10] rfl rfl (by decide) (by decide) (fun u21 H locs hw hP hD hS => ?_)
  have hP : va_P D vwCl [(w0, .inr (16, [.ref b0])), (b0, .inl (cy 0, 24, .inl (zE 0))), (n1, .inr (16, [.ref u2])), (u2, .inl (cy 0, 24, .inl (zE 1000))), (h0, .inr (17, [.ref m0, .ref m1, .ref m2, .ref m3, .ref m4, .ref m5, .ref m6, .ref m7, .ref m8, .ref m9, .ref m10, .ref m11, .ref m12, .ref m13, .ref m14, .ref m15, .ref m16, .ref m17, .ref m18, .ref m19, .ref m20, .int 0, .int 0, .int 0, .int 0, .long 1, .int 0])), (n8, .inr (16, [.ref u9])), (u9, .inl (cy 0, 24, .inl (zE 1))), (x7, .inr (16, [.ref u6])), (u6, .inl (cy 0, 24, .inl (zE 1))), (x5, .inr (16, [.ref u4])), (u4, .inl (cy 0, 24, .inl (zE 0))), (n20, .inr (16, [.ref u21])), (u21, .inl (cy 0, 24, .inl (zE 0)))] H := hP
  have hD : va_D A [(w0, .inr (16, [.ref b0])), (b0, .inl (cy 0, 24, .inl (zE 0))), (n1, .inr (16, [.ref u2])), (u2, .inl (cy 0, 24, .inl (zE 1000))), (h0, .inr (17, [.ref m0, .ref m1, .ref m2, .ref m3, .ref m4, .ref m5, .ref m6, .ref m7, .ref m8, .ref m9, .ref m10, .ref m11, .ref m12, .ref m13, .ref m14, .ref m15, .ref m16, .ref m17, .ref m18, .ref m19, .ref m20, .int 0, .int 0, .int 0, .int 0, .long 1, .int 0])), (n8, .inr (16, [.ref u9])), (u9, .inl (cy 0, 24, .inl (zE 1))), (x7, .inr (16, [.ref u6])), (u6, .inl (cy 0, 24, .inl (zE 1))), (x5, .inr (16, [.ref u4])), (u4, .inl (cy 0, 24, .inl (zE 0))), (n20, .inr (16, [.ref u21])), (u21, .inl (cy 0, 24, .inl (zE 0)))] := hD
  refine W.widen (k := 14) (n := 175) (by omega) (by omega) ?_
  refine lv_aload_n hx hb dX14_thousandths_129 rfl (lv_at hl 2 rfl) ?_
  refine zq_r (wc := [(n20, .inr (16, [.ref u21])), (u21, .inl (cy 0, 24, .inl (zE 0))), (x7, .inr (16, [.ref u6])), (u6, .inl (cy 0, 24, .inl (zE 1)))]) (wr := [(w0, .inr (16, [.ref b0])), (b0, .inl (cy 0, 24, .inl (zE 0))), (n1, .inr (16, [.ref u2])), (u2, .inl (cy 0, 24, .inl (zE 1000))), (h0, .inr (17, [.ref m0, .ref m1, .ref m2, .ref m3, .ref m4, .ref m5, .ref m6, .ref m7, .ref m8, .ref m9, .ref m10, .ref m11, .ref m12, .ref m13, .ref m14, .ref m15, .ref m16, .ref m17, .ref m18, .ref m19, .ref m20, .int 0, .int 0, .int 0, .int 0, .long 1, .int 0])), (n8, .inr (16, [.ref u9])), (u9, .inl (cy 0, 24, .inl (zE 1))), (x5, .inr (16, [.ref u4])), (u4, .inl (cy 0, 24, .inl (zE 0)))]) (va_runV (As := [.ref x7]) (rest := []) ⟨hx, hb, hml, hown, hts⟩ (k_times_0_1 l D cy n20 u21 x7 u6 H.size ) (cwV 1 hts (gzV (gz q322) q321 q323 q324 q315) rfl rfl rfl vX13_times ⟨Nat.le_of_ble_eq_true rfl, Nat.le_of_ble_eq_true rfl⟩) (zpV (ci := 16) (T := TX13) (N := 1) (q0 := 0) hK hX hY hP hD hS hA [11, 12, 7, 8] (by decide) rfl rfl rfl) rfl rfl hl.1 rfl (lv_room (Nat.le_of_ble_eq_true rfl)) dX14_thousandths_130 ⟨Nat.le_of_ble_eq_true rfl, Nat.le_of_ble_eq_true rfl⟩) hP hD hS hA [11, 12, 7, 8] [0, 1, 2, 3, 4, 5, 6, 9, 10] rfl rfl (by decide) (by decide) (fun u23 x24 H locs hw hP hD hS => ?_)
  have hP : va_P D vwCl [(w0, .inr (16, [.ref b0])), (b0, .inl (cy 0, 24, .inl (zE 0))), (n1, .inr (16, [.ref u2])), (u2, .inl (cy 0, 24, .inl (zE 1000))), (h0, .inr (17, [.ref m0, .ref m1, .ref m2, .ref m3, .ref m4, .ref m5, .ref m6, .ref m7, .ref m8, .ref m9, .ref m10, .ref m11, .ref m12, .ref m13, .ref m14, .ref m15, .ref m16, .ref m17, .ref m18, .ref m19, .ref m20, .int 0, .int 0, .int 0, .int 0, .long 1, .int 0])), (n8, .inr (16, [.ref u9])), (u9, .inl (cy 0, 24, .inl (zE 1))), (x5, .inr (16, [.ref u4])), (u4, .inl (cy 0, 24, .inl (zE 0))), (x24, .inr (16, [.ref u23])), (u23, .inl (cy 0, 24, .inl (zE 0))), (n20, .inr (16, [.ref u21])), (u21, .inl (cy 0, 24, .inl (zE 0))), (x7, .inr (16, [.ref u6])), (u6, .inl (cy 0, 24, .inl (zE 1)))] H := hP
  have hD : va_D A [(w0, .inr (16, [.ref b0])), (b0, .inl (cy 0, 24, .inl (zE 0))), (n1, .inr (16, [.ref u2])), (u2, .inl (cy 0, 24, .inl (zE 1000))), (h0, .inr (17, [.ref m0, .ref m1, .ref m2, .ref m3, .ref m4, .ref m5, .ref m6, .ref m7, .ref m8, .ref m9, .ref m10, .ref m11, .ref m12, .ref m13, .ref m14, .ref m15, .ref m16, .ref m17, .ref m18, .ref m19, .ref m20, .int 0, .int 0, .int 0, .int 0, .long 1, .int 0])), (n8, .inr (16, [.ref u9])), (u9, .inl (cy 0, 24, .inl (zE 1))), (x5, .inr (16, [.ref u4])), (u4, .inl (cy 0, 24, .inl (zE 0))), (x24, .inr (16, [.ref u23])), (u23, .inl (cy 0, 24, .inl (zE 0))), (n20, .inr (16, [.ref u21])), (u21, .inl (cy 0, 24, .inl (zE 0))), (x7, .inr (16, [.ref u6])), (u6, .inl (cy 0, 24, .inl (zE 1)))] := hD
  refine W.widen (k := 16) (n := 200) (by omega) (by omega) ?_
  refine lv_aload_n hx hb dX14_thousandths_133 rfl (lv_at hl 3 rfl) ?_
  refine zq_i (wc := [(x24, .inr (16, [.ref u23])), (u23, .inl (cy 0, 24, .inl (zE 0))), (x5, .inr (16, [.ref u4])), (u4, .inl (cy 0, 24, .inl (zE 0)))]) (wr := [(w0, .inr (16, [.ref b0])), (b0, .inl (cy 0, 24, .inl (zE 0))), (n1, .inr (16, [.ref u2])), (u2, .inl (cy 0, 24, .inl (zE 1000))), (h0, .inr (17, [.ref m0, .ref m1, .ref m2, .ref m3, .ref m4, .ref m5, .ref m6, .ref m7, .ref m8, .ref m9, .ref m10, .ref m11, .ref m12, .ref m13, .ref m14, .ref m15, .ref m16, .ref m17, .ref m18, .ref m19, .ref m20, .int 0, .int 0, .int 0, .int 0, .long 1, .int 0])), (n8, .inr (16, [.ref u9])), (u9, .inl (cy 0, 24, .inl (zE 1))), (n20, .inr (16, [.ref u21])), (u21, .inl (cy 0, 24, .inl (zE 0))), (x7, .inr (16, [.ref u6])), (u6, .inl (cy 0, 24, .inl (zE 1)))]) (va_runV (As := [.ref x5]) (rest := []) ⟨hx, hb, hml, hown, hts⟩ (k_against_0_0 l D cy x24 u23 x5 u4 H.size ) (cwV 1 hts (gzV (gz q331) q330 q332 q333 q315) rfl rfl rfl vX13_against ⟨Nat.le_of_ble_eq_true rfl, Nat.le_of_ble_eq_true rfl⟩) (zpV (ci := 16) (T := TX13) (N := 1) (q0 := 0) hK hX hY hP hD hS hA [9, 10, 7, 8] (by decide) rfl rfl rfl) rfl rfl hl.1 rfl (lv_room (Nat.le_of_ble_eq_true rfl)) dX14_thousandths_134 ⟨Nat.le_of_ble_eq_true rfl, Nat.le_of_ble_eq_true rfl⟩) hP hD hS hA [9, 10, 7, 8] [0, 1, 2, 3, 4, 5, 6, 11, 12, 13, 14] rfl rfl (by decide) (by decide) (fun x26 u25 H locs hw hP hD hS => ?_)
  obtain rfl : x26 = 0 := hw
  have hP : va_P D vwCl [(w0, .inr (16, [.ref b0])), (b0, .inl (cy 0, 24, .inl (zE 0))), (n1, .inr (16, [.ref u2])), (u2, .inl (cy 0, 24, .inl (zE 1000))), (h0, .inr (17, [.ref m0, .ref m1, .ref m2, .ref m3, .ref m4, .ref m5, .ref m6, .ref m7, .ref m8, .ref m9, .ref m10, .ref m11, .ref m12, .ref m13, .ref m14, .ref m15, .ref m16, .ref m17, .ref m18, .ref m19, .ref m20, .int 0, .int 0, .int 0, .int 0, .long 1, .int 0])), (n8, .inr (16, [.ref u9])), (u9, .inl (cy 0, 24, .inl (zE 1))), (n20, .inr (16, [.ref u21])), (u21, .inl (cy 0, 24, .inl (zE 0))), (x7, .inr (16, [.ref u6])), (u6, .inl (cy 0, 24, .inl (zE 1))), (x5, .inr (16, [.ref u4])), (u4, .inl (cy 0, 24, .inl (zE 0)))] H := hP
  have hD : va_D A [(w0, .inr (16, [.ref b0])), (b0, .inl (cy 0, 24, .inl (zE 0))), (n1, .inr (16, [.ref u2])), (u2, .inl (cy 0, 24, .inl (zE 1000))), (h0, .inr (17, [.ref m0, .ref m1, .ref m2, .ref m3, .ref m4, .ref m5, .ref m6, .ref m7, .ref m8, .ref m9, .ref m10, .ref m11, .ref m12, .ref m13, .ref m14, .ref m15, .ref m16, .ref m17, .ref m18, .ref m19, .ref m20, .int 0, .int 0, .int 0, .int 0, .long 1, .int 0])), (n8, .inr (16, [.ref u9])), (u9, .inl (cy 0, 24, .inl (zE 1))), (n20, .inr (16, [.ref u21])), (u21, .inl (cy 0, 24, .inl (zE 0))), (x7, .inr (16, [.ref u6])), (u6, .inl (cy 0, 24, .inl (zE 1))), (x5, .inr (16, [.ref u4])), (u4, .inl (cy 0, 24, .inl (zE 0)))] := hD
  refine lv_if_gt (tgt := 145) hx hb dX14_thousandths_137 (by decide) (fun c_137_26 => absurd c_137_26 (by decide +kernel)) (fun _ => ?_)
  refine lv_lload hx hb dX14_thousandths_140 (lv_at hl 0 rfl) ?_
  refine lv_goto (tgt := 146) hx hb dX14_thousandths_142 (by decide) ?_
  have hP9 := hP.sub (ws' := [(h0, .inr (17, [.ref m0, .ref m1, .ref m2, .ref m3, .ref m4, .ref m5, .ref m6, .ref m7, .ref m8, .ref m9, .ref m10, .ref m11, .ref m12, .ref m13, .ref m14, .ref m15, .ref m16, .ref m17, .ref m18, .ref m19, .ref m20, .int 0, .int 0, .int 0, .int 0, .long 1, .int 0]))]) [4] rfl
  have hD9 := hD.sub (ws' := [(h0, .inr (17, [.ref m0, .ref m1, .ref m2, .ref m3, .ref m4, .ref m5, .ref m6, .ref m7, .ref m8, .ref m9, .ref m10, .ref m11, .ref m12, .ref m13, .ref m14, .ref m15, .ref m16, .ref m17, .ref m18, .ref m19, .ref m20, .int 0, .int 0, .int 0, .int 0, .long 1, .int 0]))]) [4] (by decide) rfl
  refine W.widen (k := 16) (n := 200) (Nat.le_of_ble_eq_true rfl) (Nat.le_of_ble_eq_true rfl) ?_
  rw [hQe]
  exact W.lret (v := 0) hx hb hr (fun t ht hW => ⟨⟨0, (), rfl, rfl, ⟨by rw [ht]; exact hP9, hD9⟩⟩, hS.F ht⟩) hS.2.2 dX14_thousandths_146
set_option maxHeartbeats 4000000 in
set_option maxRecDepth 100000 in
/-- no rain: no water -/
theorem k_waterIn (l : Launch) (D : va_G) (cy : Nat → ClassId) (h0 : Nat) (m0 : Nat) (m1 : Nat) (m2 : Nat) (m3 : Nat) (m4 : Nat) (m5 : Nat) (m6 : Nat) (m7 : Nat) (m8 : Nat) (m9 : Nat) (m10 : Nat) (m11 : Nat) (m12 : Nat) (m13 : Nat) (m14 : Nat) (m15 : Nat) (m16 : Nat) (m17 : Nat) (m18 : Nat) (m19 : Nat) (m20 : Nat) (k : Nat) (sz : Nat) (hk : k < 401) : Met l yX14_waterIn (wz yX14_waterIn cX14_waterIn 3 (some .int)) ({ frames := 0, cells := 0, slots := 0, locals := 0 } : Room) (va_Pc [.ref h0, .int (nI k)] (zPre vwCl D cy [(h0, .inr (17, [.ref m0, .ref m1, .ref m2, .ref m3, .ref m4, .ref m5, .ref m6, .ref m7, .ref m8, .ref m9, .ref m10, .ref m11, .ref m12, .ref m13, .ref m14, .ref m15, .ref m16, .ref m17, .ref m18, .ref m19, .ref m20, .int 0, .int 0, .int 0, .int 0, .long 0, .int 0])), (m8, .inl (cy 0, 401, .inl (fun _ => 0))), (m7, .inl (cy 0, 200, .inl (fun _ => 0)))] sz)) (va_Qi (fun (r : Int32) (_ : Unit) => r = 0) (fun (u : Unit) t => zPost vwCl D (va_A [(h0, .inr (17, [.ref m0, .ref m1, .ref m2, .ref m3, .ref m4, .ref m5, .ref m6, .ref m7, .ref m8, .ref m9, .ref m10, .ref m11, .ref m12, .ref m13, .ref m14, .ref m15, .ref m16, .ref m17, .ref m18, .ref m19, .ref m20, .int 0, .int 0, .int 0, .int 0, .long 0, .int 0])), (m8, .inl (cy 0, 401, .inl (fun _ => 0))), (m7, .inl (cy 0, 200, .inl (fun _ => 0)))] sz) [(h0, .inr (17, [.ref m0, .ref m1, .ref m2, .ref m3, .ref m4, .ref m5, .ref m6, .ref m7, .ref m8, .ref m9, .ref m10, .ref m11, .ref m12, .ref m13, .ref m14, .ref m15, .ref m16, .ref m17, .ref m18, .ref m19, .ref m20, .int 0, .int 0, .int 0, .int 0, .long 0, .int 1]))] t) (va_A [(h0, .inr (17, [.ref m0, .ref m1, .ref m2, .ref m3, .ref m4, .ref m5, .ref m6, .ref m7, .ref m8, .ref m9, .ref m10, .ref m11, .ref m12, .ref m13, .ref m14, .ref m15, .ref m16, .ref m17, .ref m18, .ref m19, .ref m20, .int 0, .int 0, .int 0, .int 0, .long 0, .int 0])), (m8, .inl (cy 0, 401, .inl (fun _ => 0))), (m7, .inl (cy 0, 200, .inl (fun _ => 0)))] sz)) 0 0 (va_A [(h0, .inr (17, [.ref m0, .ref m1, .ref m2, .ref m3, .ref m4, .ref m5, .ref m6, .ref m7, .ref m8, .ref m9, .ref m10, .ref m11, .ref m12, .ref m13, .ref m14, .ref m15, .ref m16, .ref m17, .ref m18, .ref m19, .ref m20, .int 0, .int 0, .int 0, .int 0, .long 0, .int 0])), (m8, .inl (cy 0, 401, .inl (fun _ => 0))), (m7, .inl (cy 0, 200, .inl (fun _ => 0)))] sz) := by
  refine Met.ofW (cc := cX14_waterIn) (maxL := 3) (ret := (some .int)) (by decide) rfl ?_
  intro p e s m args below meth c s₁ B hml hv
  obtain ⟨rfl, hsz, hP, hK, hD0, hX, hY⟩ := hv
  have hx := B.exec
  have hb := B.bytes
  have hr := B.returns
  have hts0 := atoms_spec (ws := wz yX14_waterIn cX14_waterIn 3 (some .int)) B.pre
  have hts : ∀ w ∈ wAll, w.before _ s = true := fun w h => hts0 w (List.mem_cons_of_mem _ h)
  have hown : s.vm.findClass RX14 = some m.cls := findClass_of_methodNamed B.named
  have hlocks := B.notSynchronized
  subst hsz
  have hD := hD0.self (sz := s.heap.size)
  generalize hAe : va_A [(h0, .inr (17, [.ref m0, .ref m1, .ref m2, .ref m3, .ref m4, .ref m5, .ref m6, .ref m7, .ref m8, .ref m9, .ref m10, .ref m11, .ref m12, .ref m13, .ref m14, .ref m15, .ref m16, .ref m17, .ref m18, .ref m19, .ref m20, .int 0, .int 0, .int 0, .int 0, .long 0, .int 0])), (m8, .inl (cy 0, 401, .inl (fun _ => 0))), (m7, .inl (cy 0, 200, .inl (fun _ => 0)))] s.heap.size = A at hD hY ⊢
  have hA : ∀ q : Nat, s.heap.size ≤ q → A q := fun q h => by rw [← hAe]; exact Or.inr h
  have hS : va_S A s.heap s.heap [] := va_S.rf
  have hP : va_P D vwCl [(h0, .inr (17, [.ref m0, .ref m1, .ref m2, .ref m3, .ref m4, .ref m5, .ref m6, .ref m7, .ref m8, .ref m9, .ref m10, .ref m11, .ref m12, .ref m13, .ref m14, .ref m15, .ref m16, .ref m17, .ref m18, .ref m19, .ref m20, .int 0, .int 0, .int 0, .int 0, .long 0, .int 0])), (m8, .inl (cy 0, 401, .inl (fun _ => 0))), (m7, .inl (cy 0, 200, .inl (fun _ => 0)))] s.heap := hP
  have hl := lv_entry ([.ref h0, .int (nI k)]) (n := 3) (Nat.le_of_ble_eq_true rfl)
  rw [lg_entry_eq]
  generalize (lg_sl ([.ref h0, .int (nI k)]) ++ List.replicate (3 - (lg_sl ([.ref h0, .int (nI k)])).length) Slot.unset).toArray = ls at hl ⊢
  have hl : lv_has ls 3 [(0, .ref h0), (1, .int (nI k))] := hl
  refine z_anyQ (fun Q hQe => ?_)
  refine lv_iconst (v := 0) hx hb dX14_waterIn_0 (by decide) ?_
  refine lv_istore_n (lv' := [(2, .int 0), (0, .ref h0), (1, .int (nI k))]) hx hb dX14_waterIn_1 rfl hl (by decide) rfl (fun ls hl => ?_)
  have lp2_1 : ∀ (n i : Nat), i ≤ 401 → 401 + 1 ≤ i + n → ∀ (g : Nat → Int32) (hg : ∀ j, j < i → g j = 0) (H : Heap) (locs : List Loc), va_P D vwCl [(h0, .inr (17, [.ref m0, .ref m1, .ref m2, .ref m3, .ref m4, .ref m5, .ref m6, .ref m7, .ref m8, .ref m9, .ref m10, .ref m11, .ref m12, .ref m13, .ref m14, .ref m15, .ref m16, .ref m17, .ref m18, .ref m19, .ref m20, .int 0, .int 0, .int 0, .int 0, .long 0, .int 0])), (m8, .inl (cy 0, 401, .inl g)), (m7, .inl (cy 0, 200, .inl (fun _ => 0)))] H → va_D A [(h0, .inr (17, [.ref m0, .ref m1, .ref m2, .ref m3, .ref m4, .ref m5, .ref m6, .ref m7, .ref m8, .ref m9, .ref m10, .ref m11, .ref m12, .ref m13, .ref m14, .ref m15, .ref m16, .ref m17, .ref m18, .ref m19, .ref m20, .int 0, .int 0, .int 0, .int 0, .long 0, .int 0])), (m8, .inl (cy 0, 401, .inl g)), (m7, .inl (cy 0, 200, .inl (fun _ => 0)))] → va_S A s.heap H locs → ∀ ls, lv_has ls 3 [(0, .ref h0), (1, .int (nI k)), (2, .int (nI i))] → W p l e (headSpec (wz yX14_waterIn cX14_waterIn 3 (some .int)) ({ frames := 0, cells := 0, slots := 0, locals := 0 } : Room)).room s m ([.ref h0, .int (nI k)] : List Value).toArray below meth c H locs 0 0 Q (F0 m 2 ls []) := by
    intro n
    induction n with
    | zero => intro i h1 h2; exact absurd h2 (by omega)
    | succ n ih2 =>
      intro i hii hni g hg H locs hP hD hS ls hl
      refine lv_iload_n hx hb dX14_waterIn_2 rfl (lv_at hl 2 rfl) ?_
      refine lv_sipush (v := 400) hx hb dX14_waterIn_3 (by decide) ?_
      refine lv_icmp_gt (tgt := 66) hx hb dX14_waterIn_6 (by decide) (fun c_6_1 => ?_) (fun c_6_1 => ?_)
      · skip
        have hE : i = 401 := z_gt (M := 400) (by decide) hii (by decide) c_6_1
        subst hE
        have hl : lv_has ls 3 [(0, .ref h0), (1, .int (nI k)), (2, .int 401)] := hl
        obtain ⟨hP, hD⟩ := zP_i (fun _ => 0) hP hD (q := 1) rfl hg
        have hP : va_P D vwCl [(h0, .inr (17, [.ref m0, .ref m1, .ref m2, .ref m3, .ref m4, .ref m5, .ref m6, .ref m7, .ref m8, .ref m9, .ref m10, .ref m11, .ref m12, .ref m13, .ref m14, .ref m15, .ref m16, .ref m17, .ref m18, .ref m19, .ref m20, .int 0, .int 0, .int 0, .int 0, .long 0, .int 0])), (m8, .inl (cy 0, 401, .inl (fun _ => 0))), (m7, .inl (cy 0, 200, .inl (fun _ => 0)))] H := hP
        have hD : va_D A [(h0, .inr (17, [.ref m0, .ref m1, .ref m2, .ref m3, .ref m4, .ref m5, .ref m6, .ref m7, .ref m8, .ref m9, .ref m10, .ref m11, .ref m12, .ref m13, .ref m14, .ref m15, .ref m16, .ref m17, .ref m18, .ref m19, .ref m20, .int 0, .int 0, .int 0, .int 0, .long 0, .int 0])), (m8, .inl (cy 0, 401, .inl (fun _ => 0))), (m7, .inl (cy 0, 200, .inl (fun _ => 0)))] := hD
        refine lv_aload_n hx hb dX14_waterIn_66 rfl (lv_at hl 0 rfl) ?_
        refine lv_iconst (v := 1) hx hb dX14_waterIn_67 (by decide) ?_
        refine va_put (D := D) (ci := 17) (v := .int 1) (ty := .boolean) (C := RX14) (T := TX14) (N := 27) hx hb hts iRX14 tyX14 tyX14_ok nmX14 hown hK hP hD hS 0 rfl rfl 26 (by decide) (hts _ q335) (fun _ h9 => h9) rfl (tyX14_ok 26 (by decide)) rfl rfl (Nat.le_of_ble_eq_true rfl) dX14_waterIn_68 (fun H locs hP hD hS => ?_)
        have hP : va_P D vwCl [(h0, .inr (17, [.ref m0, .ref m1, .ref m2, .ref m3, .ref m4, .ref m5, .ref m6, .ref m7, .ref m8, .ref m9, .ref m10, .ref m11, .ref m12, .ref m13, .ref m14, .ref m15, .ref m16, .ref m17, .ref m18, .ref m19, .ref m20, .int 0, .int 0, .int 0, .int 0, .long 0, .int 1])), (m8, .inl (cy 0, 401, .inl (fun _ => 0))), (m7, .inl (cy 0, 200, .inl (fun _ => 0)))] H := hP
        have hD : va_D A [(h0, .inr (17, [.ref m0, .ref m1, .ref m2, .ref m3, .ref m4, .ref m5, .ref m6, .ref m7, .ref m8, .ref m9, .ref m10, .ref m11, .ref m12, .ref m13, .ref m14, .ref m15, .ref m16, .ref m17, .ref m18, .ref m19, .ref m20, .int 0, .int 0, .int 0, .int 0, .long 0, .int 1])), (m8, .inl (cy 0, 401, .inl (fun _ => 0))), (m7, .inl (cy 0, 200, .inl (fun _ => 0)))] := hD
        refine lv_aload_n hx hb dX14_waterIn_71 rfl (lv_at hl 0 rfl) ?_
        refine va_get (D := D) (ci := 17) (v := .ref m8) (C := RX14) (T := TX14) (N := 27) hx hb hts iRX14 hown hK hP 0 rfl rfl 8 (by decide) (hts _ q267) (fun _ h9 => h9) rfl dX14_waterIn_72 ?_
        refine lv_iload_n hx hb dX14_waterIn_75 rfl (lv_at hl 1 rfl) ?_
        refine va_iald hx hb hK hP 1 0 rfl rfl (vp_in_nI (by omega) (by decide)) dX14_waterIn_76 ?_
        refine lv_topi (fun y3 ey3 => ?_)
        obtain rfl : y3 = 0 := ey3.trans rfl
        have hP9 := hP.sub (ws' := [(h0, .inr (17, [.ref m0, .ref m1, .ref m2, .ref m3, .ref m4, .ref m5, .ref m6, .ref m7, .ref m8, .ref m9, .ref m10, .ref m11, .ref m12, .ref m13, .ref m14, .ref m15, .ref m16, .ref m17, .ref m18, .ref m19, .ref m20, .int 0, .int 0, .int 0, .int 0, .long 0, .int 1]))]) [0] rfl
        have hD9 := hD.sub (ws' := [(h0, .inr (17, [.ref m0, .ref m1, .ref m2, .ref m3, .ref m4, .ref m5, .ref m6, .ref m7, .ref m8, .ref m9, .ref m10, .ref m11, .ref m12, .ref m13, .ref m14, .ref m15, .ref m16, .ref m17, .ref m18, .ref m19, .ref m20, .int 0, .int 0, .int 0, .int 0, .long 0, .int 1]))]) [0] (by decide) rfl
        refine W.widen (k := 0) (n := 0) (Nat.le_of_ble_eq_true rfl) (Nat.le_of_ble_eq_true rfl) ?_
        rw [hQe]
        exact W.iret (v := 0) hx hb hr (fun t ht hW => ⟨⟨0, (), rfl, rfl, ⟨by rw [ht]; exact hP9, hD9⟩⟩, hS.F ht⟩) hS.2.2 dX14_waterIn_77
      · skip
        have hlti : i < 401 := Nat.lt_succ_of_le (z_le (M := 400) (by decide) hii (by decide) c_6_1)
        refine lv_aload_n hx hb dX14_waterIn_9 rfl (lv_at hl 0 rfl) ?_
        refine va_get (D := D) (ci := 17) (v := .int 0) (C := RX14) (T := TX14) (N := 27) hx hb hts iRX14 hown hK hP 0 rfl rfl 26 (by decide) (hts _ q335) (fun _ h9 => h9) rfl dX14_waterIn_10 ?_
        refine lv_if_ne (tgt := 66) hx hb dX14_waterIn_13 (by decide) (fun c_13_3 => absurd (by decide +kernel) c_13_3) (fun _ => ?_)
        refine lv_aload_n hx hb dX14_waterIn_16 rfl (lv_at hl 0 rfl) ?_
        refine va_get (D := D) (ci := 17) (v := .ref m8) (C := RX14) (T := TX14) (N := 27) hx hb hts iRX14 hown hK hP 0 rfl rfl 8 (by decide) (hts _ q267) (fun _ h9 => h9) rfl dX14_waterIn_17 ?_
        refine lv_iload_n hx hb dX14_waterIn_20 rfl (lv_at hl 2 rfl) ?_
        refine lv_iload_n hx hb dX14_waterIn_21 rfl (lv_at hl 2 rfl) ?_
        refine lv_if_ne (tgt := 29) hx hb dX14_waterIn_22 (by decide) (fun c_22_4 => ?_) (fun c_22_4 => ?_)
        · skip
          have i0 : 0 < i := z_hp c_22_4
          refine lv_iconst (v := 3) hx hb dX14_waterIn_29 (by decide) ?_
          refine lv_aload_n hx hb dX14_waterIn_30 rfl (lv_at hl 0 rfl) ?_
          refine va_get (D := D) (ci := 17) (v := .ref m8) (C := RX14) (T := TX14) (N := 27) hx hb hts iRX14 hown hK hP 0 rfl rfl 8 (by decide) (hts _ q267) (fun _ h9 => h9) rfl dX14_waterIn_31 ?_
          refine lv_iload_n hx hb dX14_waterIn_34 rfl (lv_at hl 2 rfl) ?_
          refine lv_iconst (v := 1) hx hb dX14_waterIn_35 (by decide) ?_
          refine lv_isub hx hb dX14_waterIn_36 ?_
          refine lv_topi (fun y6 ey6 => ?_)
          obtain rfl : y6 = (nI (i - 1)) := ey6.trans (pk_sub (b := 1) (by omega))
          refine va_iald hx hb hK hP 1 0 rfl rfl (vp_in_nI (by omega) (by decide)) dX14_waterIn_37 ?_
          refine lv_topi (fun y7 ey7 => ?_)
          obtain rfl : y7 = 0 := ey7.trans ((congrArg g (nI_clamp (by omega))).trans (hg (i - 1) (by omega)))
          refine lv_imul hx hb dX14_waterIn_38 ?_
          refine lv_topi (fun y8 ey8 => ?_)
          obtain rfl : y8 = 0 := ey8.trans (by decide +kernel)
          refine lv_iconst (v := 4) hx hb dX14_waterIn_39 (by decide) ?_
          refine lv_idiv hx hb dX14_waterIn_40 (by decide) ?_
          refine lv_topi (fun y9 ey9 => ?_)
          obtain rfl : y9 = 0 := ey9.trans (by decide +kernel)
          refine lv_iload_n hx hb dX14_waterIn_41 rfl (lv_at hl 2 rfl) ?_
          refine lv_sipush (v := 199) hx hb dX14_waterIn_42 (by decide) ?_
          refine lv_icmp_gt (tgt := 57) hx hb dX14_waterIn_45 (by decide) (fun c_45_9 => ?_) (fun c_45_9 => ?_)
          · skip
            refine lv_iconst (v := 0) hx hb dX14_waterIn_57 (by decide) ?_
            refine lv_iadd hx hb dX14_waterIn_58 ?_
            refine lv_topi (fun y11 ey11 => ?_)
            obtain rfl : y11 = 0 := ey11.trans (by decide +kernel)
            refine va_iast hx hb hK hP hD hS 1 0 rfl rfl (vp_in_nI (by omega) (by decide)) dX14_waterIn_59 (fun H locs hP hD hS => ?_)
            have hP : va_P D vwCl [(h0, .inr (17, [.ref m0, .ref m1, .ref m2, .ref m3, .ref m4, .ref m5, .ref m6, .ref m7, .ref m8, .ref m9, .ref m10, .ref m11, .ref m12, .ref m13, .ref m14, .ref m15, .ref m16, .ref m17, .ref m18, .ref m19, .ref m20, .int 0, .int 0, .int 0, .int 0, .long 0, .int 0])), (m8, .inl (cy 0, 401, .inl (upd g (nI i).toNatClampNeg 0))), (m7, .inl (cy 0, 200, .inl (fun _ => 0)))] H := hP
            have hD : va_D A [(h0, .inr (17, [.ref m0, .ref m1, .ref m2, .ref m3, .ref m4, .ref m5, .ref m6, .ref m7, .ref m8, .ref m9, .ref m10, .ref m11, .ref m12, .ref m13, .ref m14, .ref m15, .ref m16, .ref m17, .ref m18, .ref m19, .ref m20, .int 0, .int 0, .int 0, .int 0, .long 0, .int 0])), (m8, .inl (cy 0, 401, .inl (upd g (nI i).toNatClampNeg 0))), (m7, .inl (cy 0, 200, .inl (fun _ => 0)))] := hD
            refine lv_iinc (v := (nI (i + 1))) (lv' := [(2, .int (nI (i + 1))), (0, .ref h0), (1, .int (nI k))]) hx hb dX14_waterIn_60 hl (k := 2) rfl (z_n1 i) (by decide) rfl (fun ls hl => ?_)
            refine lv_goto (tgt := 2) hx hb dX14_waterIn_63 (by decide) ?_
            exact ih2 (i + 1) (by omega) (by omega) _ (z_up (by omega) hg rfl) _ _ (hP.sub [0, 1, 2] rfl) (hD.sub [0, 1, 2] (by decide) rfl) hS ls (lv_sub hl [1, 2, 0] rfl)
          · skip
            have i2 : i ≤ 199 := z_le2 401 (by decide) (by omega) (by decide) c_45_9
            refine lv_aload_n hx hb dX14_waterIn_48 rfl (lv_at hl 0 rfl) ?_
            refine va_get (D := D) (ci := 17) (v := .ref m7) (C := RX14) (T := TX14) (N := 27) hx hb hts iRX14 hown hK hP 0 rfl rfl 7 (by decide) (hts _ q266) (fun _ h9 => h9) rfl dX14_waterIn_49 ?_
            refine lv_iload_n hx hb dX14_waterIn_52 rfl (lv_at hl 2 rfl) ?_
            refine va_iald hx hb hK hP 2 0 rfl rfl (vp_in_nI (by omega) (by decide)) dX14_waterIn_53 ?_
            refine lv_topi (fun y12 ey12 => ?_)
            obtain rfl : y12 = 0 := ey12.trans rfl
            refine lv_goto (tgt := 58) hx hb dX14_waterIn_54 (by decide) ?_
            refine lv_iadd hx hb dX14_waterIn_58 ?_
            refine lv_topi (fun y13 ey13 => ?_)
            obtain rfl : y13 = 0 := ey13.trans (by decide +kernel)
            refine va_iast hx hb hK hP hD hS 1 0 rfl rfl (vp_in_nI (by omega) (by decide)) dX14_waterIn_59 (fun H locs hP hD hS => ?_)
            have hP : va_P D vwCl [(h0, .inr (17, [.ref m0, .ref m1, .ref m2, .ref m3, .ref m4, .ref m5, .ref m6, .ref m7, .ref m8, .ref m9, .ref m10, .ref m11, .ref m12, .ref m13, .ref m14, .ref m15, .ref m16, .ref m17, .ref m18, .ref m19, .ref m20, .int 0, .int 0, .int 0, .int 0, .long 0, .int 0])), (m8, .inl (cy 0, 401, .inl (upd g (nI i).toNatClampNeg 0))), (m7, .inl (cy 0, 200, .inl (fun _ => 0)))] H := hP
            have hD : va_D A [(h0, .inr (17, [.ref m0, .ref m1, .ref m2, .ref m3, .ref m4, .ref m5, .ref m6, .ref m7, .ref m8, .ref m9, .ref m10, .ref m11, .ref m12, .ref m13, .ref m14, .ref m15, .ref m16, .ref m17, .ref m18, .ref m19, .ref m20, .int 0, .int 0, .int 0, .int 0, .long 0, .int 0])), (m8, .inl (cy 0, 401, .inl (upd g (nI i).toNatClampNeg 0))), (m7, .inl (cy 0, 200, .inl (fun _ => 0)))] := hD
            refine lv_iinc (v := (nI (i + 1))) (lv' := [(2, .int (nI (i + 1))), (0, .ref h0), (1, .int (nI k))]) hx hb dX14_waterIn_60 hl (k := 2) rfl (z_n1 i) (by decide) rfl (fun ls hl => ?_)
            refine lv_goto (tgt := 2) hx hb dX14_waterIn_63 (by decide) ?_
            exact ih2 (i + 1) (by omega) (by omega) _ (z_up (by omega) hg rfl) _ _ (hP.sub [0, 1, 2] rfl) (hD.sub [0, 1, 2] (by decide) rfl) hS ls (lv_sub hl [1, 2, 0] rfl)
        · skip
          refine lv_iconst (v := 0) hx hb dX14_waterIn_25 (by decide) ?_
          refine lv_goto (tgt := 41) hx hb dX14_waterIn_26 (by decide) ?_
          refine lv_iload_n hx hb dX14_waterIn_41 rfl (lv_at hl 2 rfl) ?_
          refine lv_sipush (v := 199) hx hb dX14_waterIn_42 (by decide) ?_
          refine lv_icmp_gt (tgt := 57) hx hb dX14_waterIn_45 (by decide) (fun c_45_13 => ?_) (fun c_45_13 => ?_)
          · skip
            refine lv_iconst (v := 0) hx hb dX14_waterIn_57 (by decide) ?_
            refine lv_iadd hx hb dX14_waterIn_58 ?_
            refine lv_topi (fun y15 ey15 => ?_)
            obtain rfl : y15 = 0 := ey15.trans (by decide +kernel)
            refine va_iast hx hb hK hP hD hS 1 0 rfl rfl (vp_in_nI (by omega) (by decide)) dX14_waterIn_59 (fun H locs hP hD hS => ?_)
            have hP : va_P D vwCl [(h0, .inr (17, [.ref m0, .ref m1, .ref m2, .ref m3, .ref m4, .ref m5, .ref m6, .ref m7, .ref m8, .ref m9, .ref m10, .ref m11, .ref m12, .ref m13, .ref m14, .ref m15, .ref m16, .ref m17, .ref m18, .ref m19, .ref m20, .int 0, .int 0, .int 0, .int 0, .long 0, .int 0])), (m8, .inl (cy 0, 401, .inl (upd g (nI i).toNatClampNeg 0))), (m7, .inl (cy 0, 200, .inl (fun _ => 0)))] H := hP
            have hD : va_D A [(h0, .inr (17, [.ref m0, .ref m1, .ref m2, .ref m3, .ref m4, .ref m5, .ref m6, .ref m7, .ref m8, .ref m9, .ref m10, .ref m11, .ref m12, .ref m13, .ref m14, .ref m15, .ref m16, .ref m17, .ref m18, .ref m19, .ref m20, .int 0, .int 0, .int 0, .int 0, .long 0, .int 0])), (m8, .inl (cy 0, 401, .inl (upd g (nI i).toNatClampNeg 0))), (m7, .inl (cy 0, 200, .inl (fun _ => 0)))] := hD
            refine lv_iinc (v := (nI (i + 1))) (lv' := [(2, .int (nI (i + 1))), (0, .ref h0), (1, .int (nI k))]) hx hb dX14_waterIn_60 hl (k := 2) rfl (z_n1 i) (by decide) rfl (fun ls hl => ?_)
            refine lv_goto (tgt := 2) hx hb dX14_waterIn_63 (by decide) ?_
            exact ih2 (i + 1) (by omega) (by omega) _ (z_up (by omega) hg rfl) _ _ (hP.sub [0, 1, 2] rfl) (hD.sub [0, 1, 2] (by decide) rfl) hS ls (lv_sub hl [1, 2, 0] rfl)
          · skip
            have i2 : i ≤ 199 := z_le2 401 (by decide) (by omega) (by decide) c_45_13
            refine lv_aload_n hx hb dX14_waterIn_48 rfl (lv_at hl 0 rfl) ?_
            refine va_get (D := D) (ci := 17) (v := .ref m7) (C := RX14) (T := TX14) (N := 27) hx hb hts iRX14 hown hK hP 0 rfl rfl 7 (by decide) (hts _ q266) (fun _ h9 => h9) rfl dX14_waterIn_49 ?_
            refine lv_iload_n hx hb dX14_waterIn_52 rfl (lv_at hl 2 rfl) ?_
            refine va_iald hx hb hK hP 2 0 rfl rfl (vp_in_nI (by omega) (by decide)) dX14_waterIn_53 ?_
            refine lv_topi (fun y16 ey16 => ?_)
            obtain rfl : y16 = 0 := ey16.trans rfl
            refine lv_goto (tgt := 58) hx hb dX14_waterIn_54 (by decide) ?_
            refine lv_iadd hx hb dX14_waterIn_58 ?_
            refine lv_topi (fun y17 ey17 => ?_)
            obtain rfl : y17 = 0 := ey17.trans (by decide +kernel)
            refine va_iast hx hb hK hP hD hS 1 0 rfl rfl (vp_in_nI (by omega) (by decide)) dX14_waterIn_59 (fun H locs hP hD hS => ?_)
            have hP : va_P D vwCl [(h0, .inr (17, [.ref m0, .ref m1, .ref m2, .ref m3, .ref m4, .ref m5, .ref m6, .ref m7, .ref m8, .ref m9, .ref m10, .ref m11, .ref m12, .ref m13, .ref m14, .ref m15, .ref m16, .ref m17, .ref m18, .ref m19, .ref m20, .int 0, .int 0, .int 0, .int 0, .long 0, .int 0])), (m8, .inl (cy 0, 401, .inl (upd g (nI i).toNatClampNeg 0))), (m7, .inl (cy 0, 200, .inl (fun _ => 0)))] H := hP
            have hD : va_D A [(h0, .inr (17, [.ref m0, .ref m1, .ref m2, .ref m3, .ref m4, .ref m5, .ref m6, .ref m7, .ref m8, .ref m9, .ref m10, .ref m11, .ref m12, .ref m13, .ref m14, .ref m15, .ref m16, .ref m17, .ref m18, .ref m19, .ref m20, .int 0, .int 0, .int 0, .int 0, .long 0, .int 0])), (m8, .inl (cy 0, 401, .inl (upd g (nI i).toNatClampNeg 0))), (m7, .inl (cy 0, 200, .inl (fun _ => 0)))] := hD
            refine lv_iinc (v := (nI (i + 1))) (lv' := [(2, .int (nI (i + 1))), (0, .ref h0), (1, .int (nI k))]) hx hb dX14_waterIn_60 hl (k := 2) rfl (z_n1 i) (by decide) rfl (fun ls hl => ?_)
            refine lv_goto (tgt := 2) hx hb dX14_waterIn_63 (by decide) ?_
            exact ih2 (i + 1) (by omega) (by omega) _ (z_up (by omega) hg rfl) _ _ (hP.sub [0, 1, 2] rfl) (hD.sub [0, 1, 2] (by decide) rfl) hS ls (lv_sub hl [1, 2, 0] rfl)
  exact lp2_1 (401 + 1) 0 (by decide) (by decide) _ z_nil _ _ hP hD hS ls (lv_sub hl [1, 2, 0] rfl)
set_option maxHeartbeats 4000000 in
set_option maxRecDepth 100000 in
theorem k_isPlace (l : Launch) (D : va_G) (cy : Nat → ClassId) (h0 : Nat) (m0 : Nat) (m1 : Nat) (m2 : Nat) (m3 : Nat) (m4 : Nat) (m5 : Nat) (m6 : Nat) (m7 : Nat) (m8 : Nat) (m9 : Nat) (m10 : Nat) (m11 : Nat) (m12 : Nat) (m13 : Nat) (m14 : Nat) (m15 : Nat) (m16 : Nat) (m17 : Nat) (m18 : Nat) (m19 : Nat) (m20 : Nat) (a1 : Int32) (a2 : Int32) (a3 : Int32) (sz : Nat)  : Met l yX14_isPlace (wz yX14_isPlace cX14_isPlace 4 (some .boolean)) ({ frames := 2, cells := 0, slots := 0, locals := 46 } : Room) (va_Pc [.ref h0, .int a1, .int a2, .int a3] (zPre vwCl D cy [(h0, .inr (17, [.ref m0, .ref m1, .ref m2, .ref m3, .ref m4, .ref m5, .ref m6, .ref m7, .ref m8, .ref m9, .ref m10, .ref m11, .ref m12, .ref m13, .ref m14, .ref m15, .ref m16, .ref m17, .ref m18, .ref m19, .ref m20, .int 0, .int 0, .int 0, .int 0, .long 0, .int 0]))] sz)) (va_Qi (fun (r : Int32) (_ : Unit) => r = 0) (fun (u : Unit) t => zPost vwCl D (va_A [(h0, .inr (17, [.ref m0, .ref m1, .ref m2, .ref m3, .ref m4, .ref m5, .ref m6, .ref m7, .ref m8, .ref m9, .ref m10, .ref m11, .ref m12, .ref m13, .ref m14, .ref m15, .ref m16, .ref m17, .ref m18, .ref m19, .ref m20, .int 0, .int 0, .int 0, .int 0, .long 0, .int 0]))] sz) [(h0, .inr (17, [.ref m0, .ref m1, .ref m2, .ref m3, .ref m4, .ref m5, .ref m6, .ref m7, .ref m8, .ref m9, .ref m10, .ref m11, .ref m12, .ref m13, .ref m14, .ref m15, .ref m16, .ref m17, .ref m18, .ref m19, .ref m20, .int 1, .int 0, .int 0, .int 0, .long 0, .int 0]))] t) (va_A [(h0, .inr (17, [.ref m0, .ref m1, .ref m2, .ref m3, .ref m4, .ref m5, .ref m6, .ref m7, .ref m8, .ref m9, .ref m10, .ref m11, .ref m12, .ref m13, .ref m14, .ref m15, .ref m16, .ref m17, .ref m18, .ref m19, .ref m20, .int 0, .int 0, .int 0, .int 0, .long 0, .int 0]))] sz)) 0 0 (va_A [(h0, .inr (17, [.ref m0, .ref m1, .ref m2, .ref m3, .ref m4, .ref m5, .ref m6, .ref m7, .ref m8, .ref m9, .ref m10, .ref m11, .ref m12, .ref m13, .ref m14, .ref m15, .ref m16, .ref m17, .ref m18, .ref m19, .ref m20, .int 0, .int 0, .int 0, .int 0, .long 0, .int 0]))] sz) := by
  refine Met.ofW (cc := cX14_isPlace) (maxL := 4) (ret := (some .boolean)) (by decide) rfl ?_
  intro p e s m args below meth c s₁ B hml hv
  obtain ⟨rfl, hsz, hP, hK, hD0, hX, hY⟩ := hv
  have hx := B.exec
  have hb := B.bytes
  have hr := B.returns
  have hts0 := atoms_spec (ws := wz yX14_isPlace cX14_isPlace 4 (some .boolean)) B.pre
  have hts : ∀ w ∈ wAll, w.before _ s = true := fun w h => hts0 w (List.mem_cons_of_mem _ h)
  have hown : s.vm.findClass RX14 = some m.cls := findClass_of_methodNamed B.named
  have hlocks := B.notSynchronized
  subst hsz
  have hD := hD0.self (sz := s.heap.size)
  generalize hAe : va_A [(h0, .inr (17, [.ref m0, .ref m1, .ref m2, .ref m3, .ref m4, .ref m5, .ref m6, .ref m7, .ref m8, .ref m9, .ref m10, .ref m11, .ref m12, .ref m13, .ref m14, .ref m15, .ref m16, .ref m17, .ref m18, .ref m19, .ref m20, .int 0, .int 0, .int 0, .int 0, .long 0, .int 0]))] s.heap.size = A at hD hY ⊢
  have hA : ∀ q : Nat, s.heap.size ≤ q → A q := fun q h => by rw [← hAe]; exact Or.inr h
  have hS : va_S A s.heap s.heap [] := va_S.rf
  have hP : va_P D vwCl [(h0, .inr (17, [.ref m0, .ref m1, .ref m2, .ref m3, .ref m4, .ref m5, .ref m6, .ref m7, .ref m8, .ref m9, .ref m10, .ref m11, .ref m12, .ref m13, .ref m14, .ref m15, .ref m16, .ref m17, .ref m18, .ref m19, .ref m20, .int 0, .int 0, .int 0, .int 0, .long 0, .int 0]))] s.heap := hP
  have hl := lv_entry ([.ref h0, .int a1, .int a2, .int a3]) (n := 4) (Nat.le_of_ble_eq_true rfl)
  rw [lg_entry_eq]
  generalize (lg_sl ([.ref h0, .int a1, .int a2, .int a3]) ++ List.replicate (4 - (lg_sl ([.ref h0, .int a1, .int a2, .int a3])).length) Slot.unset).toArray = ls at hl ⊢
  have hl : lv_has ls 4 [(0, .ref h0), (1, .int a1), (2, .int a2), (3, .int a3)] := hl
  refine z_anyQ (fun Q hQe => ?_)
  refine lv_aload_n hx hb dX14_isPlace_0 rfl (lv_at hl 0 rfl) ?_
  refine lv_aload_n hx hb dX14_isPlace_1 rfl (lv_at hl 0 rfl) ?_
  refine lv_iload_n hx hb dX14_isPlace_2 rfl (lv_at hl 1 rfl) ?_
  refine zq_i (wc := [(h0, .inr (17, [.ref m0, .ref m1, .ref m2, .ref m3, .ref m4, .ref m5, .ref m6, .ref m7, .ref m8, .ref m9, .ref m10, .ref m11, .ref m12, .ref m13, .ref m14, .ref m15, .ref m16, .ref m17, .ref m18, .ref m19, .ref m20, .int 0, .int 0, .int 0, .int 0, .long 0, .int 0]))]) (wr := []) (va_runV (As := [.int a1]) (rest := [.ref h0]) ⟨hx, hb, hml, hown, hts⟩ (k_isStation l D cy h0 m0 m1 m2 m3 m4 m5 m6 m7 m8 m9 m10 m11 m12 m13 m14 m15 m16 m17 m18 m19 m20 a1 s.heap.size ) (cwV 1 hts (gzV (gz q337) q336 q338 q339 q285) rfl rfl rfl vX14_isStation ⟨Nat.le_of_ble_eq_true rfl, Nat.le_of_ble_eq_true rfl⟩) (zpV (ci := 17) (T := TX14) (N := 27) (q0 := 0) hK hX hY hP hD hS hA [0] (by decide) rfl rfl rfl) rfl rfl hl.1 rfl (lv_room (Nat.le_of_ble_eq_true rfl)) dX14_isPlace_3 ⟨Nat.le_of_ble_eq_true rfl, Nat.le_of_ble_eq_true rfl⟩) hP hD hS hA [0] [] rfl rfl (by decide) (by decide) (fun x2 u1 H locs hw hP hD hS => ?_)
  obtain rfl : x2 = 0 := hw
  have hP : va_P D vwCl [(h0, .inr (17, [.ref m0, .ref m1, .ref m2, .ref m3, .ref m4, .ref m5, .ref m6, .ref m7, .ref m8, .ref m9, .ref m10, .ref m11, .ref m12, .ref m13, .ref m14, .ref m15, .ref m16, .ref m17, .ref m18, .ref m19, .ref m20, .int 0, .int 0, .int 0, .int 0, .long 0, .int 0]))] H := hP
  have hD : va_D A [(h0, .inr (17, [.ref m0, .ref m1, .ref m2, .ref m3, .ref m4, .ref m5, .ref m6, .ref m7, .ref m8, .ref m9, .ref m10, .ref m11, .ref m12, .ref m13, .ref m14, .ref m15, .ref m16, .ref m17, .ref m18, .ref m19, .ref m20, .int 0, .int 0, .int 0, .int 0, .long 0, .int 0]))] := hD
  refine lv_if_eq (tgt := 21) hx hb dX14_isPlace_6 (by decide) (fun _ => ?_) (fun c_6_2 => absurd (by decide +kernel) c_6_2)
  refine lv_iconst (v := 1) hx hb dX14_isPlace_21 (by decide) ?_
  refine lv_goto (tgt := 37) hx hb dX14_isPlace_22 (by decide) ?_
  refine va_put (D := D) (ci := 17) (v := .int 1) (ty := .int) (C := RX14) (T := TX14) (N := 27) hx hb hts iRX14 tyX14 tyX14_ok nmX14 hown hK hP hD hS 0 rfl rfl 21 (by decide) (hts _ q280) (fun _ h9 => h9) rfl (tyX14_ok 21 (by decide)) rfl rfl (Nat.le_of_ble_eq_true rfl) dX14_isPlace_37 (fun H locs hP hD hS => ?_)
  have hP : va_P D vwCl [(h0, .inr (17, [.ref m0, .ref m1, .ref m2, .ref m3, .ref m4, .ref m5, .ref m6, .ref m7, .ref m8, .ref m9, .ref m10, .ref m11, .ref m12, .ref m13, .ref m14, .ref m15, .ref m16, .ref m17, .ref m18, .ref m19, .ref m20, .int 1, .int 0, .int 0, .int 0, .long 0, .int 0]))] H := hP
  have hD : va_D A [(h0, .inr (17, [.ref m0, .ref m1, .ref m2, .ref m3, .ref m4, .ref m5, .ref m6, .ref m7, .ref m8, .ref m9, .ref m10, .ref m11, .ref m12, .ref m13, .ref m14, .ref m15, .ref m16, .ref m17, .ref m18, .ref m19, .ref m20, .int 1, .int 0, .int 0, .int 0, .long 0, .int 0]))] := hD
  refine lv_aload_n hx hb dX14_isPlace_40 rfl (lv_at hl 0 rfl) ?_
  refine va_get (D := D) (ci := 17) (v := .int 1) (C := RX14) (T := TX14) (N := 27) hx hb hts iRX14 hown hK hP 0 rfl rfl 21 (by decide) (hts _ q280) (fun _ h9 => h9) rfl dX14_isPlace_41 ?_
  refine lv_if_le (tgt := 49) hx hb dX14_isPlace_44 (by decide) (fun c_44_3 => absurd c_44_3 (by decide +kernel)) (fun _ => ?_)
  refine lv_iconst (v := 0) hx hb dX14_isPlace_47 (by decide) ?_
  have hP9 := hP.sub (ws' := [(h0, .inr (17, [.ref m0, .ref m1, .ref m2, .ref m3, .ref m4, .ref m5, .ref m6, .ref m7, .ref m8, .ref m9, .ref m10, .ref m11, .ref m12, .ref m13, .ref m14, .ref m15, .ref m16, .ref m17, .ref m18, .ref m19, .ref m20, .int 1, .int 0, .int 0, .int 0, .long 0, .int 0]))]) [0] rfl
  have hD9 := hD.sub (ws' := [(h0, .inr (17, [.ref m0, .ref m1, .ref m2, .ref m3, .ref m4, .ref m5, .ref m6, .ref m7, .ref m8, .ref m9, .ref m10, .ref m11, .ref m12, .ref m13, .ref m14, .ref m15, .ref m16, .ref m17, .ref m18, .ref m19, .ref m20, .int 1, .int 0, .int 0, .int 0, .long 0, .int 0]))]) [0] (by decide) rfl
  refine W.widen (k := 0) (n := 0) (Nat.le_of_ble_eq_true rfl) (Nat.le_of_ble_eq_true rfl) ?_
  rw [hQe]
  exact W.zret (v := 0) hx hb hr rfl (fun t ht hW => ⟨⟨0, (), rfl, rfl, ⟨by rw [ht]; exact hP9, hD9⟩⟩, hS.F ht⟩) hS.2.2 dX14_isPlace_48
set_option maxHeartbeats 4000000 in
set_option maxRecDepth 100000 in
theorem k_hasPlan (l : Launch) (D : va_G) (cy : Nat → ClassId) (h0 : Nat) (m0 : Nat) (m1 : Nat) (m2 : Nat) (m3 : Nat) (m4 : Nat) (m5 : Nat) (m6 : Nat) (m7 : Nat) (m8 : Nat) (m9 : Nat) (m10 : Nat) (m11 : Nat) (m12 : Nat) (m13 : Nat) (m14 : Nat) (m15 : Nat) (m16 : Nat) (m17 : Nat) (m18 : Nat) (m19 : Nat) (m20 : Nat) (b2 : Nat) (a1 : Int32) (a2 : Int32) (sz : Nat)  : Met l yX14_hasPlan (wz yX14_hasPlan cX14_hasPlan 3 (some .boolean)) ({ frames := 2, cells := 0, slots := 0, locals := 46 } : Room) (va_Pc [.ref h0, .int a1, .int a2] (zPre vwCl D cy [(h0, .inr (17, [.ref m0, .ref m1, .ref m2, .ref m3, .ref m4, .ref m5, .ref m6, .ref m7, .ref m8, .ref m9, .ref m10, .ref m11, .ref m12, .ref m13, .ref m14, .ref m15, .ref m16, .ref m17, .ref m18, .ref m19, .ref m20, .int 0, .int 0, .int 0, .int 0, .long 0, .int 0])), (m2, .inr (2, [.int 0, .ref b2, .int 0]))] sz)) (va_Qi (fun (r : Int32) (_ : Unit) => r = 0) (fun (u : Unit) t => zPost vwCl D (va_A [(h0, .inr (17, [.ref m0, .ref m1, .ref m2, .ref m3, .ref m4, .ref m5, .ref m6, .ref m7, .ref m8, .ref m9, .ref m10, .ref m11, .ref m12, .ref m13, .ref m14, .ref m15, .ref m16, .ref m17, .ref m18, .ref m19, .ref m20, .int 0, .int 0, .int 0, .int 0, .long 0, .int 0])), (m2, .inr (2, [.int 0, .ref b2, .int 0]))] sz) [(h0, .inr (17, [.ref m0, .ref m1, .ref m2, .ref m3, .ref m4, .ref m5, .ref m6, .ref m7, .ref m8, .ref m9, .ref m10, .ref m11, .ref m12, .ref m13, .ref m14, .ref m15, .ref m16, .ref m17, .ref m18, .ref m19, .ref m20, .int 1, .int 0, .int 0, .int 0, .long 0, .int 0]))] t) (va_A [(h0, .inr (17, [.ref m0, .ref m1, .ref m2, .ref m3, .ref m4, .ref m5, .ref m6, .ref m7, .ref m8, .ref m9, .ref m10, .ref m11, .ref m12, .ref m13, .ref m14, .ref m15, .ref m16, .ref m17, .ref m18, .ref m19, .ref m20, .int 0, .int 0, .int 0, .int 0, .long 0, .int 0])), (m2, .inr (2, [.int 0, .ref b2, .int 0]))] sz)) 0 0 (va_A [(h0, .inr (17, [.ref m0, .ref m1, .ref m2, .ref m3, .ref m4, .ref m5, .ref m6, .ref m7, .ref m8, .ref m9, .ref m10, .ref m11, .ref m12, .ref m13, .ref m14, .ref m15, .ref m16, .ref m17, .ref m18, .ref m19, .ref m20, .int 0, .int 0, .int 0, .int 0, .long 0, .int 0])), (m2, .inr (2, [.int 0, .ref b2, .int 0]))] sz) := by
  refine Met.ofW (cc := cX14_hasPlan) (maxL := 3) (ret := (some .boolean)) (by decide) rfl ?_
  intro p e s m args below meth c s₁ B hml hv
  obtain ⟨rfl, hsz, hP, hK, hD0, hX, hY⟩ := hv
  have hx := B.exec
  have hb := B.bytes
  have hr := B.returns
  have hts0 := atoms_spec (ws := wz yX14_hasPlan cX14_hasPlan 3 (some .boolean)) B.pre
  have hts : ∀ w ∈ wAll, w.before _ s = true := fun w h => hts0 w (List.mem_cons_of_mem _ h)
  have hown : s.vm.findClass RX14 = some m.cls := findClass_of_methodNamed B.named
  have hlocks := B.notSynchronized
  subst hsz
  have hD := hD0.self (sz := s.heap.size)
  generalize hAe : va_A [(h0, .inr (17, [.ref m0, .ref m1, .ref m2, .ref m3, .ref m4, .ref m5, .ref m6, .ref m7, .ref m8, .ref m9, .ref m10, .ref m11, .ref m12, .ref m13, .ref m14, .ref m15, .ref m16, .ref m17, .ref m18, .ref m19, .ref m20, .int 0, .int 0, .int 0, .int 0, .long 0, .int 0])), (m2, .inr (2, [.int 0, .ref b2, .int 0]))] s.heap.size = A at hD hY ⊢
  have hA : ∀ q : Nat, s.heap.size ≤ q → A q := fun q h => by rw [← hAe]; exact Or.inr h
  have hS : va_S A s.heap s.heap [] := va_S.rf
  have hP : va_P D vwCl [(h0, .inr (17, [.ref m0, .ref m1, .ref m2, .ref m3, .ref m4, .ref m5, .ref m6, .ref m7, .ref m8, .ref m9, .ref m10, .ref m11, .ref m12, .ref m13, .ref m14, .ref m15, .ref m16, .ref m17, .ref m18, .ref m19, .ref m20, .int 0, .int 0, .int 0, .int 0, .long 0, .int 0])), (m2, .inr (2, [.int 0, .ref b2, .int 0]))] s.heap := hP
  have hl := lv_entry ([.ref h0, .int a1, .int a2]) (n := 3) (Nat.le_of_ble_eq_true rfl)
  rw [lg_entry_eq]
  generalize (lg_sl ([.ref h0, .int a1, .int a2]) ++ List.replicate (3 - (lg_sl ([.ref h0, .int a1, .int a2])).length) Slot.unset).toArray = ls at hl ⊢
  have hl : lv_has ls 3 [(0, .ref h0), (1, .int a1), (2, .int a2)] := hl
  refine z_anyQ (fun Q hQe => ?_)
  refine lv_aload_n hx hb dX14_hasPlan_0 rfl (lv_at hl 0 rfl) ?_
  refine lv_aload_n hx hb dX14_hasPlan_1 rfl (lv_at hl 0 rfl) ?_
  refine lv_iload_n hx hb dX14_hasPlan_2 rfl (lv_at hl 1 rfl) ?_
  refine zq_i (wc := [(h0, .inr (17, [.ref m0, .ref m1, .ref m2, .ref m3, .ref m4, .ref m5, .ref m6, .ref m7, .ref m8, .ref m9, .ref m10, .ref m11, .ref m12, .ref m13, .ref m14, .ref m15, .ref m16, .ref m17, .ref m18, .ref m19, .ref m20, .int 0, .int 0, .int 0, .int 0, .long 0, .int 0])), (m2, .inr (2, [.int 0, .ref b2, .int 0]))]) (wr := []) (va_runV (As := [.int a1]) (rest := [.ref h0]) ⟨hx, hb, hml, hown, hts⟩ (k_isParty l D cy h0 m0 m1 m2 m3 m4 m5 m6 m7 m8 m9 m10 m11 m12 m13 m14 m15 m16 m17 m18 m19 m20 b2 a1 s.heap.size ) (cwV 1 hts (gzV (gz q341) q340 q342 q343 q285) rfl rfl rfl vX14_isParty ⟨Nat.le_of_ble_eq_true rfl, Nat.le_of_ble_eq_true rfl⟩) (zpV (ci := 17) (T := TX14) (N := 27) (q0 := 0) hK hX hY hP hD hS hA [0, 1] (by decide) rfl rfl rfl) rfl rfl hl.1 rfl (lv_room (Nat.le_of_ble_eq_true rfl)) dX14_hasPlan_3 ⟨Nat.le_of_ble_eq_true rfl, Nat.le_of_ble_eq_true rfl⟩) hP hD hS hA [0, 1] [] rfl rfl (by decide) (by decide) (fun x2 u1 H locs hw hP hD hS => ?_)
  obtain rfl : x2 = 0 := hw
  have hP : va_P D vwCl [(h0, .inr (17, [.ref m0, .ref m1, .ref m2, .ref m3, .ref m4, .ref m5, .ref m6, .ref m7, .ref m8, .ref m9, .ref m10, .ref m11, .ref m12, .ref m13, .ref m14, .ref m15, .ref m16, .ref m17, .ref m18, .ref m19, .ref m20, .int 0, .int 0, .int 0, .int 0, .long 0, .int 0])), (m2, .inr (2, [.int 0, .ref b2, .int 0]))] H := hP
  have hD : va_D A [(h0, .inr (17, [.ref m0, .ref m1, .ref m2, .ref m3, .ref m4, .ref m5, .ref m6, .ref m7, .ref m8, .ref m9, .ref m10, .ref m11, .ref m12, .ref m13, .ref m14, .ref m15, .ref m16, .ref m17, .ref m18, .ref m19, .ref m20, .int 0, .int 0, .int 0, .int 0, .long 0, .int 0])), (m2, .inr (2, [.int 0, .ref b2, .int 0]))] := hD
  refine lv_if_ne (tgt := 13) hx hb dX14_hasPlan_6 (by decide) (fun c_6_2 => absurd (by decide +kernel) c_6_2) (fun _ => ?_)
  refine lv_iconst (v := 1) hx hb dX14_hasPlan_9 (by decide) ?_
  refine lv_goto (tgt := 37) hx hb dX14_hasPlan_10 (by decide) ?_
  refine va_put (D := D) (ci := 17) (v := .int 1) (ty := .int) (C := RX14) (T := TX14) (N := 27) hx hb hts iRX14 tyX14 tyX14_ok nmX14 hown hK hP hD hS 0 rfl rfl 21 (by decide) (hts _ q280) (fun _ h9 => h9) rfl (tyX14_ok 21 (by decide)) rfl rfl (Nat.le_of_ble_eq_true rfl) dX14_hasPlan_37 (fun H locs hP hD hS => ?_)
  have hP : va_P D vwCl [(h0, .inr (17, [.ref m0, .ref m1, .ref m2, .ref m3, .ref m4, .ref m5, .ref m6, .ref m7, .ref m8, .ref m9, .ref m10, .ref m11, .ref m12, .ref m13, .ref m14, .ref m15, .ref m16, .ref m17, .ref m18, .ref m19, .ref m20, .int 1, .int 0, .int 0, .int 0, .long 0, .int 0])), (m2, .inr (2, [.int 0, .ref b2, .int 0]))] H := hP
  have hD : va_D A [(h0, .inr (17, [.ref m0, .ref m1, .ref m2, .ref m3, .ref m4, .ref m5, .ref m6, .ref m7, .ref m8, .ref m9, .ref m10, .ref m11, .ref m12, .ref m13, .ref m14, .ref m15, .ref m16, .ref m17, .ref m18, .ref m19, .ref m20, .int 1, .int 0, .int 0, .int 0, .long 0, .int 0])), (m2, .inr (2, [.int 0, .ref b2, .int 0]))] := hD
  refine lv_aload_n hx hb dX14_hasPlan_40 rfl (lv_at hl 0 rfl) ?_
  refine va_get (D := D) (ci := 17) (v := .int 1) (C := RX14) (T := TX14) (N := 27) hx hb hts iRX14 hown hK hP 0 rfl rfl 21 (by decide) (hts _ q280) (fun _ h9 => h9) rfl dX14_hasPlan_41 ?_
  refine lv_if_ne (tgt := 51) hx hb dX14_hasPlan_44 (by decide) (fun _ => ?_) (fun c_44_3 => absurd c_44_3 (by decide +kernel))
  refine lv_iconst (v := 0) hx hb dX14_hasPlan_51 (by decide) ?_
  have hP9 := hP.sub (ws' := [(h0, .inr (17, [.ref m0, .ref m1, .ref m2, .ref m3, .ref m4, .ref m5, .ref m6, .ref m7, .ref m8, .ref m9, .ref m10, .ref m11, .ref m12, .ref m13, .ref m14, .ref m15, .ref m16, .ref m17, .ref m18, .ref m19, .ref m20, .int 1, .int 0, .int 0, .int 0, .long 0, .int 0]))]) [0] rfl
  have hD9 := hD.sub (ws' := [(h0, .inr (17, [.ref m0, .ref m1, .ref m2, .ref m3, .ref m4, .ref m5, .ref m6, .ref m7, .ref m8, .ref m9, .ref m10, .ref m11, .ref m12, .ref m13, .ref m14, .ref m15, .ref m16, .ref m17, .ref m18, .ref m19, .ref m20, .int 1, .int 0, .int 0, .int 0, .long 0, .int 0]))]) [0] (by decide) rfl
  refine W.widen (k := 0) (n := 0) (Nat.le_of_ble_eq_true rfl) (Nat.le_of_ble_eq_true rfl) ?_
  rw [hQe]
  exact W.zret (v := 0) hx hb hr rfl (fun t ht hW => ⟨⟨0, (), rfl, rfl, ⟨by rw [ht]; exact hP9, hD9⟩⟩, hS.F ht⟩) hS.2.2 dX14_hasPlan_52
