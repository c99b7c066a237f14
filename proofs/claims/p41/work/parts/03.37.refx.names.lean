abbrev cX12_dance : ByteArray := prog_14_method_36_code
def yX12_dance : MethodName := ⟨RX12, "dance", "()I"⟩
abbrev cX12_changes : ByteArray := prog_14_method_137_code
def yX12_changes : MethodName := ⟨RX12, "changes", "(IIII)V"⟩
abbrev cX12_stumble : ByteArray := prog_14_method_138_code
def yX12_stumble : MethodName := ⟨RX12, "stumble", "(IIII)I"⟩
abbrev cX12_mud : ByteArray := prog_14_method_139_code
def yX12_mud : MethodName := ⟨RX12, "mud", "(II)I"⟩
abbrev cX12_teach : ByteArray := prog_14_method_140_code
def yX12_teach : MethodName := ⟨RX12, "teach", "(III)I"⟩
abbrev cX12_undo : ByteArray := prog_14_method_141_code
def yX12_undo : MethodName := ⟨RX12, "undo", "()I"⟩
abbrev cX12_count : ByteArray := prog_14_method_142_code
def yX12_count : MethodName := ⟨RX12, "count", "(I)I"⟩
abbrev cX12_image : ByteArray := prog_14_method_143_code
def yX12_image : MethodName := ⟨RX12, "image", "(I)I"⟩
abbrev cX12_back : ByteArray := prog_14_method_144_code
def yX12_back : MethodName := ⟨RX12, "back", "(I)I"⟩
def wsX12_dance_r1 : List Cond := [Cond.fieldLink RX12 80 "OverHillModel" "thrown" "I", Cond.fieldLink RX12 121 "OverHillModel" "token" "I", Cond.fieldLink RX12 31 "OverHillModel" "lines" "[I", Cond.constantLong RX12 230 (2155739), Cond.constantLong RX12 232 (5146), Cond.constantLong RX12 234 (298288), Cond.constantLong RX12 236 (355280), Cond.fieldLink RX12 132 "OverHillModel" "bad" "I", Cond.methodLink RX12 224 yX12_clears, Cond.instanceMethod yX12_clears, Cond.selects RX12 yX12_clears yX12_clears, Cond.initialized RX12, Cond.code yX12_clears cX12_clears 2 none, Cond.fieldLink RX12 40 "OverHillModel" "meets" "[I", Cond.fieldLink RX12 46 "OverHillModel" "isMud" "[Z", Cond.methodLink RX12 177 yX12_reads, Cond.instanceMethod yX12_reads, Cond.selects RX12 yX12_reads yX12_reads, Cond.code yX12_reads cX12_reads 3 none, Cond.fieldLink RX12 34 "OverHillModel" "has" "[I", Cond.methodLink RX12 227 yX12_begins, Cond.instanceMethod yX12_begins, Cond.selects RX12 yX12_begins yX12_begins, Cond.code yX12_begins cX12_begins 1 none]
def wsX12_dance_r2 : List Cond := [Cond.fieldLink RX12 135 "OverHillModel" "badPlace" "I", Cond.fieldLink RX12 104 "OverHillModel" "at" "I", Cond.methodLink RX12 142 yX12_next, Cond.instanceMethod yX12_next, Cond.selects RX12 yX12_next yX12_next, Cond.code yX12_next cX12_next 2 none, Cond.fieldLink RX12 111 "OverHillModel" "place" "I", Cond.fieldLink RX12 114 "OverHillModel" "value" "I", Cond.fieldLink RX12 117 "OverHillModel" "word" "J", Cond.fieldLink RX12 97 "OverHillModel" "taped" "I", Cond.constantLong RX12 124 (-1), Cond.constantLong RX12 126 (27), Cond.fieldLink RX12 23 "OverHillModel" "tape" "[B", Cond.constantLong RX12 128 (96), Cond.constant RX12 130 (100000), Cond.constant RX12 131 (1000000), Cond.methodLink RX12 107 yX12_isByte, Cond.instanceMethod yX12_isByte, Cond.selects RX12 yX12_isByte yX12_isByte, Cond.code yX12_isByte cX12_isByte 4 (some .boolean), Cond.methodLink RX12 168 yX12_isGood, Cond.instanceMethod yX12_isGood, Cond.selects RX12 yX12_isGood yX12_isGood, Cond.code yX12_isGood cX12_isGood 1 (some .boolean)]
def wsX12_dance_r3 : List Cond := [Cond.methodLink RX12 151 yX12_asks, Cond.instanceMethod yX12_asks, Cond.selects RX12 yX12_asks yX12_asks, Cond.code yX12_asks cX12_asks 3 none, Cond.methodLink RX12 145 yX12_takes, Cond.instanceMethod yX12_takes, Cond.selects RX12 yX12_takes yX12_takes, Cond.code yX12_takes cX12_takes 3 (some .boolean), Cond.methodLink RX12 138 yX12_is, Cond.instanceMethod yX12_is, Cond.selects RX12 yX12_is yX12_is, Cond.code yX12_is cX12_is 3 (some .boolean), Cond.methodLink RX12 148 yX12_fails, Cond.instanceMethod yX12_fails, Cond.selects RX12 yX12_fails yX12_fails, Cond.code yX12_fails cX12_fails 2 none, Cond.methodLink RX12 174 yX12_number_, Cond.instanceMethod yX12_number_, Cond.selects RX12 yX12_number_ yX12_number_, Cond.code yX12_number_ cX12_number_ 5 (some .int), Cond.methodLink RX12 155 yX12_number, Cond.instanceMethod yX12_number, Cond.selects RX12 yX12_number yX12_number, Cond.code yX12_number cX12_number 4 (some .int)]
def wsX12_dance_r4 : List Cond := [Cond.methodLink RX12 85 yX12_in, Cond.static yX12_in, Cond.code yX12_in cX12_in 6 (some .boolean), Cond.methodLink RX12 238 yX12_line, Cond.instanceMethod yX12_line, Cond.selects RX12 yX12_line yX12_line, Cond.code yX12_line cX12_line 5 none, Cond.constantLong RX12 197 (7659385358), Cond.constantLong RX12 199 (464053), Cond.constantLong RX12 201 (409352), Cond.constantLong RX12 206 (3094387), Cond.fieldLink RX12 50 "OverHillModel" "cell" "[I", Cond.fieldLink RX12 53 "OverHillModel" "tune" "[I", Cond.constantLong RX12 212 (9876874), Cond.constantLong RX12 217 (598859425), Cond.constantLong RX12 222 (10048), Cond.methodLink RX12 181 yX12_hasRead, Cond.instanceMethod yX12_hasRead, Cond.selects RX12 yX12_hasRead yX12_hasRead, Cond.code yX12_hasRead cX12_hasRead 2 (some .int), Cond.methodLink RX12 203 yX12_stumbleLine, Cond.instanceMethod yX12_stumbleLine, Cond.selects RX12 yX12_stumbleLine yX12_stumbleLine, Cond.code yX12_stumbleLine cX12_stumbleLine 3 none]
def wsX12_dance_r5 : List Cond := [Cond.constantLong RX12 185 (47), Cond.fieldLink RX12 43 "OverHillModel" "stumble" "[I", Cond.constantLong RX12 193 (89821), Cond.constantLong RX12 195 (8782), Cond.methodLink RX12 187 yX12_isStumbled, Cond.instanceMethod yX12_isStumbled, Cond.selects RX12 yX12_isStumbled yX12_isStumbled, Cond.code yX12_isStumbled cX12_isStumbled 5 (some .boolean), Cond.methodLink RX12 190 yX12_beatHere, Cond.instanceMethod yX12_beatHere, Cond.selects RX12 yX12_beatHere yX12_beatHere, Cond.code yX12_beatHere cX12_beatHere 1 (some .int), Cond.methodLink RX12 208 yX12_everyLine, Cond.instanceMethod yX12_everyLine, Cond.selects RX12 yX12_everyLine yX12_everyLine, Cond.code yX12_everyLine cX12_everyLine 4 none, Cond.methodLink RX12 214 yX12_roundLine, Cond.instanceMethod yX12_roundLine, Cond.selects RX12 yX12_roundLine yX12_roundLine, Cond.code yX12_roundLine cX12_roundLine 5 none, Cond.constantLong RX12 162 (411), Cond.fieldLink RX12 62 "OverHillModel" "steps" "[I", Cond.constantLong RX12 172 (31499758), Cond.fieldLink RX12 37 "OverHillModel" "round" "[I"]
def wsX12_dance_r6 : List Cond := [Cond.methodLink RX12 164 yX12_stepHere, Cond.instanceMethod yX12_stepHere, Cond.selects RX12 yX12_stepHere yX12_stepHere, Cond.code yX12_stepHere cX12_stepHere 1 (some .int), Cond.methodLink RX12 219 yX12_answersLine, Cond.instanceMethod yX12_answersLine, Cond.selects RX12 yX12_answersLine yX12_answersLine, Cond.code yX12_answersLine cX12_answersLine 3 none, Cond.methodLink RX12 241 yX12_ends, Cond.instanceMethod yX12_ends, Cond.selects RX12 yX12_ends yX12_ends, Cond.code yX12_ends cX12_ends 1 none, Cond.methodLink RX12 244 yX12_isOver, Cond.instanceMethod yX12_isOver, Cond.selects RX12 yX12_isOver yX12_isOver, Cond.code yX12_isOver cX12_isOver 1 none, Cond.fieldLink RX12 159 "OverHillModel" "fault" "I", Cond.fieldLink RX12 27 "OverHillModel" "faultPlace" "I", Cond.methodLink RX12 247 yX12_copyDance, Cond.instanceMethod yX12_copyDance, Cond.selects RX12 yX12_copyDance yX12_copyDance, Cond.code yX12_copyDance cX12_copyDance 4 none, Cond.fieldLink RX12 56 "OverHillModel" "change" "[I", Cond.methodLink RX12 250 yX12_copyRow]
def wsX12_dance_r7 : List Cond := [Cond.static yX12_copyRow, Cond.code yX12_copyRow cX12_copyRow 5 none]
def wsX12_dance : List Cond := .code yX12_dance cX12_dance 1 (some .int) :: ((wsX12_dance_r1 ++ (wsX12_dance_r2 ++ (wsX12_dance_r3 ++ (wsX12_dance_r4 ++ (wsX12_dance_r5 ++ (wsX12_dance_r6 ++ wsX12_dance_r7)))))) ++ wsX120)
def wsX12_changes : List Cond := .code yX12_changes cX12_changes 6 none :: ([.fieldLink RX12 34 "OverHillModel" "has" "[I", .fieldLink RX12 56 "OverHillModel" "change" "[I"] ++ wsX120)
def wsX12_stumble_r1 : List Cond := [Cond.fieldLink RX12 80 "OverHillModel" "thrown" "I", Cond.constantLong RX12 419 (9), Cond.fieldLink RX12 34 "OverHillModel" "has" "[I", Cond.fieldLink RX12 43 "OverHillModel" "stumble" "[I", Cond.methodLink RX12 261 yX12_isSide, Cond.instanceMethod yX12_isSide, Cond.selects RX12 yX12_isSide yX12_isSide, Cond.initialized RX12, Cond.code yX12_isSide cX12_isSide 2 (some .boolean), Cond.methodLink RX12 254 yX12_isDance, Cond.instanceMethod yX12_isDance, Cond.selects RX12 yX12_isDance yX12_isDance, Cond.code yX12_isDance cX12_isDance 1 (some .boolean), Cond.fieldLink RX12 31 "OverHillModel" "lines" "[I", Cond.methodLink RX12 85 yX12_in, Cond.static yX12_in, Cond.code yX12_in cX12_in 6 (some .boolean), Cond.methodLink RX12 270 yX12_isBeat, Cond.static yX12_isBeat, Cond.code yX12_isBeat cX12_isBeat 2 (some .boolean), Cond.constantLong RX12 257 (199), Cond.methodLink RX12 267 yX12_isStep, Cond.static yX12_isStep, Cond.code yX12_isStep cX12_isStep 2 (some .boolean)]
def wsX12_stumble_r2 : List Cond := [Cond.constantLong RX12 259 (5), Cond.methodLink RX12 187 yX12_isStumbled, Cond.instanceMethod yX12_isStumbled, Cond.selects RX12 yX12_isStumbled yX12_isStumbled, Cond.code yX12_isStumbled cX12_isStumbled 5 (some .boolean), Cond.methodLink RX12 473 yX12_changes, Cond.instanceMethod yX12_changes, Cond.selects RX12 yX12_changes yX12_changes, Cond.code yX12_changes cX12_changes 6 none, Cond.fieldLink RX12 56 "OverHillModel" "change" "[I"]
def wsX12_stumble : List Cond := .code yX12_stumble cX12_stumble 6 (some .int) :: ((wsX12_stumble_r1 ++ wsX12_stumble_r2) ++ wsX120)
def wsX12_mud : List Cond := .code yX12_mud cX12_mud 4 (some .int) :: ([.fieldLink RX12 80 "OverHillModel" "thrown" "I", .fieldLink RX12 34 "OverHillModel" "has" "[I", .fieldLink RX12 46 "OverHillModel" "isMud" "[Z", .methodLink RX12 254 yX12_isDance, .instanceMethod yX12_isDance, .selects RX12 yX12_isDance yX12_isDance, .initialized RX12, .code yX12_isDance cX12_isDance 1 (some .boolean), .fieldLink RX12 31 "OverHillModel" "lines" "[I", .methodLink RX12 270 yX12_isBeat, .static yX12_isBeat, .code yX12_isBeat cX12_isBeat 2 (some .boolean), .constantLong RX12 257 (199), .methodLink RX12 85 yX12_in, .static yX12_in, .code yX12_in cX12_in 6 (some .boolean), .methodLink RX12 473 yX12_changes, .instanceMethod yX12_changes, .selects RX12 yX12_changes yX12_changes, .code yX12_changes cX12_changes 6 none, .fieldLink RX12 56 "OverHillModel" "change" "[I"] ++ wsX120)
def wsX12_teach_r1 : List Cond := [Cond.fieldLink RX12 80 "OverHillModel" "thrown" "I", Cond.fieldLink RX12 34 "OverHillModel" "has" "[I", Cond.fieldLink RX12 37 "OverHillModel" "round" "[I", Cond.methodLink RX12 261 yX12_isSide, Cond.instanceMethod yX12_isSide, Cond.selects RX12 yX12_isSide yX12_isSide, Cond.initialized RX12, Cond.code yX12_isSide cX12_isSide 2 (some .boolean), Cond.methodLink RX12 254 yX12_isDance, Cond.instanceMethod yX12_isDance, Cond.selects RX12 yX12_isDance yX12_isDance, Cond.code yX12_isDance cX12_isDance 1 (some .boolean), Cond.fieldLink RX12 31 "OverHillModel" "lines" "[I", Cond.methodLink RX12 85 yX12_in, Cond.static yX12_in, Cond.code yX12_in cX12_in 6 (some .boolean), Cond.methodLink RX12 264 yX12_lengthOf, Cond.instanceMethod yX12_lengthOf, Cond.selects RX12 yX12_lengthOf yX12_lengthOf, Cond.code yX12_lengthOf cX12_lengthOf 2 (some .int), Cond.methodLink RX12 267 yX12_isStep, Cond.static yX12_isStep, Cond.code yX12_isStep cX12_isStep 2 (some .boolean), Cond.constantLong RX12 259 (5)]
def wsX12_teach_r2 : List Cond := [Cond.methodLink RX12 473 yX12_changes, Cond.instanceMethod yX12_changes, Cond.selects RX12 yX12_changes yX12_changes, Cond.code yX12_changes cX12_changes 6 none, Cond.fieldLink RX12 56 "OverHillModel" "change" "[I"]
def wsX12_teach : List Cond := .code yX12_teach cX12_teach 5 (some .int) :: ((wsX12_teach_r1 ++ wsX12_teach_r2) ++ wsX120)
def wsX12_undo : List Cond := .code yX12_undo cX12_undo 2 (some .int) :: ([.fieldLink RX12 80 "OverHillModel" "thrown" "I", .fieldLink RX12 34 "OverHillModel" "has" "[I", .fieldLink RX12 56 "OverHillModel" "change" "[I", .fieldLink RX12 46 "OverHillModel" "isMud" "[Z", .fieldLink RX12 37 "OverHillModel" "round" "[I", .methodLink RX12 254 yX12_isDance, .instanceMethod yX12_isDance, .selects RX12 yX12_isDance yX12_isDance, .initialized RX12, .code yX12_isDance cX12_isDance 1 (some .boolean), .fieldLink RX12 31 "OverHillModel" "lines" "[I"] ++ wsX120)
def wsX12_count : List Cond := .code yX12_count cX12_count 4 (some .int) :: ([.fieldLink RX12 80 "OverHillModel" "thrown" "I", .fieldLink RX12 34 "OverHillModel" "has" "[I", .fieldLink RX12 46 "OverHillModel" "isMud" "[Z", .fieldLink RX12 31 "OverHillModel" "lines" "[I", .fieldLink RX12 97 "OverHillModel" "taped" "I", .fieldLink RX12 7 "OverHillModel" "width" "[I", .methodLink RX12 264 yX12_lengthOf, .instanceMethod yX12_lengthOf, .selects RX12 yX12_lengthOf yX12_lengthOf, .initialized RX12, .code yX12_lengthOf cX12_lengthOf 2 (some .int)] ++ wsX120)
def wsX12_image : List Cond := .code yX12_image cX12_image 2 (some .int) :: ([.fieldLink RX12 80 "OverHillModel" "thrown" "I", .constantLong RX12 477 (2), .fieldLink RX12 59 "OverHillModel" "isKept" "[Z", .methodLink RX12 85 yX12_in, .static yX12_in, .initialized RX12, .code yX12_in cX12_in 6 (some .boolean), .methodLink RX12 247 yX12_copyDance, .instanceMethod yX12_copyDance, .selects RX12 yX12_copyDance yX12_copyDance, .code yX12_copyDance cX12_copyDance 4 none, .fieldLink RX12 31 "OverHillModel" "lines" "[I", .fieldLink RX12 34 "OverHillModel" "has" "[I", .fieldLink RX12 37 "OverHillModel" "round" "[I", .fieldLink RX12 40 "OverHillModel" "meets" "[I", .fieldLink RX12 43 "OverHillModel" "stumble" "[I", .fieldLink RX12 50 "OverHillModel" "cell" "[I", .fieldLink RX12 53 "OverHillModel" "tune" "[I", .fieldLink RX12 56 "OverHillModel" "change" "[I", .fieldLink RX12 46 "OverHillModel" "isMud" "[Z", .methodLink RX12 250 yX12_copyRow, .static yX12_copyRow, .code yX12_copyRow cX12_copyRow 5 none] ++ wsX120)
def wsX12_back : List Cond := .code yX12_back cX12_back 2 (some .int) :: ([.fieldLink RX12 80 "OverHillModel" "thrown" "I", .constantLong RX12 477 (2), .fieldLink RX12 59 "OverHillModel" "isKept" "[Z", .methodLink RX12 85 yX12_in, .static yX12_in, .initialized RX12, .code yX12_in cX12_in 6 (some .boolean), .methodLink RX12 247 yX12_copyDance, .instanceMethod yX12_copyDance, .selects RX12 yX12_copyDance yX12_copyDance, .code yX12_copyDance cX12_copyDance 4 none, .fieldLink RX12 31 "OverHillModel" "lines" "[I", .fieldLink RX12 34 "OverHillModel" "has" "[I", .fieldLink RX12 37 "OverHillModel" "round" "[I", .fieldLink RX12 40 "OverHillModel" "meets" "[I", .fieldLink RX12 43 "OverHillModel" "stumble" "[I", .fieldLink RX12 50 "OverHillModel" "cell" "[I", .fieldLink RX12 53 "OverHillModel" "tune" "[I", .fieldLink RX12 56 "OverHillModel" "change" "[I", .fieldLink RX12 46 "OverHillModel" "isMud" "[Z", .methodLink RX12 250 yX12_copyRow, .static yX12_copyRow, .code yX12_copyRow cX12_copyRow 5 none] ++ wsX120)
theorem wrr_wsX12_dance {i : Nat} {w : Cond} (h : wsX12_dance[i]? = some w) : w ∈ wsX12_dance := List.mem_of_getElem? h
theorem wrr_wsX12_dance_wsX12_dance_r1 {i : Nat} {w : Cond} (h : wsX12_dance_r1[i]? = some w) : w ∈ wsX12_dance := (List.mem_cons_of_mem _ (List.mem_append_left _ (List.mem_append_left _ (List.mem_of_getElem? h))))
theorem wrr_wsX12_dance_wsX12_dance_r2 {i : Nat} {w : Cond} (h : wsX12_dance_r2[i]? = some w) : w ∈ wsX12_dance := (List.mem_cons_of_mem _ (List.mem_append_left _ (List.mem_append_right _ (List.mem_append_left _ (List.mem_of_getElem? h)))))
theorem wrr_wsX12_dance_wsX12_dance_r3 {i : Nat} {w : Cond} (h : wsX12_dance_r3[i]? = some w) : w ∈ wsX12_dance := (List.mem_cons_of_mem _ (List.mem_append_left _ (List.mem_append_right _ (List.mem_append_right _ (List.mem_append_left _ (List.mem_of_getElem? h))))))
theorem wrr_wsX12_dance_wsX12_dance_r4 {i : Nat} {w : Cond} (h : wsX12_dance_r4[i]? = some w) : w ∈ wsX12_dance := (List.mem_cons_of_mem _ (List.mem_append_left _ (List.mem_append_right _ (List.mem_append_right _ (List.mem_append_right _ (List.mem_append_left _ (List.mem_of_getElem? h)))))))
theorem wrr_wsX12_dance_wsX12_dance_r5 {i : Nat} {w : Cond} (h : wsX12_dance_r5[i]? = some w) : w ∈ wsX12_dance := (List.mem_cons_of_mem _ (List.mem_append_left _ (List.mem_append_right _ (List.mem_append_right _ (List.mem_append_right _ (List.mem_append_right _ (List.mem_append_left _ (List.mem_of_getElem? h))))))))
theorem wrr_wsX12_dance_wsX12_dance_r6 {i : Nat} {w : Cond} (h : wsX12_dance_r6[i]? = some w) : w ∈ wsX12_dance := (List.mem_cons_of_mem _ (List.mem_append_left _ (List.mem_append_right _ (List.mem_append_right _ (List.mem_append_right _ (List.mem_append_right _ (List.mem_append_right _ (List.mem_append_left _ (List.mem_of_getElem? h)))))))))
theorem wrr_wsX12_dance_wsX12_dance_r7 {i : Nat} {w : Cond} (h : wsX12_dance_r7[i]? = some w) : w ∈ wsX12_dance := (List.mem_cons_of_mem _ (List.mem_append_left _ (List.mem_append_right _ (List.mem_append_right _ (List.mem_append_right _ (List.mem_append_right _ (List.mem_append_right _ (List.mem_append_right _ (List.mem_of_getElem? h)))))))))
theorem wru_wsX12_dance_wsX120 : ∀ w ∈ wsX120, w ∈ wsX12_dance := fun w h => (List.mem_cons_of_mem _ (List.mem_append_right _ h))
set_option maxRecDepth 20000 in
theorem gw_wsX12_clears : wsX12_clears.all goodWord = true := by decide +kernel
set_option maxRecDepth 20000 in
theorem ggX12_dance_X12_clears : GoodIn wsX12_dance wsX12_clears := goodIn_sub (List.forall_mem_cons.mpr ⟨wrr_wsX12_dance_wsX12_dance_r1 (i := 12) rfl, (List.forall_mem_append.mpr ⟨(List.forall_mem_cons.mpr ⟨wrr_wsX12_dance_wsX12_dance_r1 (i := 2) rfl, (List.forall_mem_cons.mpr ⟨wrr_wsX12_dance_wsX12_dance_r1 (i := 13) rfl, (List.forall_mem_cons.mpr ⟨wrr_wsX12_dance_wsX12_dance_r1 (i := 14) rfl, (List.forall_mem_cons.mpr ⟨wrr_wsX12_dance_wsX12_dance_r1 (i := 15) rfl, (List.forall_mem_cons.mpr ⟨wrr_wsX12_dance_wsX12_dance_r1 (i := 16) rfl, (List.forall_mem_cons.mpr ⟨wrr_wsX12_dance_wsX12_dance_r1 (i := 17) rfl, (List.forall_mem_cons.mpr ⟨wrr_wsX12_dance_wsX12_dance_r1 (i := 11) rfl, (List.forall_mem_cons.mpr ⟨wrr_wsX12_dance_wsX12_dance_r1 (i := 18) rfl, (List.forall_mem_cons.mpr ⟨wrr_wsX12_dance_wsX12_dance_r1 (i := 19) rfl, (fun _ h => absurd h List.not_mem_nil)⟩)⟩)⟩)⟩)⟩)⟩)⟩)⟩)⟩), wru_wsX12_dance_wsX120⟩)⟩) gw_wsX12_clears
set_option maxRecDepth 20000 in
theorem gX12_dance_X12_clears : GoodIn wsX12_dance (wsV RX12 224 RX12 yX12_clears wsX12_clears) := goodIn_app (goodIn_sub (List.forall_mem_cons.mpr ⟨wrr_wsX12_dance_wsX12_dance_r1 (i := 8) rfl, (List.forall_mem_cons.mpr ⟨wrr_wsX12_dance_wsX12_dance_r1 (i := 9) rfl, (List.forall_mem_cons.mpr ⟨wrr_wsX12_dance_wsX12_dance_r1 (i := 10) rfl, (List.forall_mem_cons.mpr ⟨wrr_wsX12_dance_wsX12_dance_r1 (i := 11) rfl, (fun _ h => absurd h List.not_mem_nil)⟩)⟩)⟩)⟩) (by decide +kernel)) ggX12_dance_X12_clears
set_option maxRecDepth 20000 in
theorem gw_wsX12_begins : wsX12_begins.all goodWord = true := by decide +kernel
set_option maxRecDepth 20000 in
theorem ggX12_dance_X12_begins : GoodIn wsX12_dance wsX12_begins := goodIn_sub (List.forall_mem_cons.mpr ⟨wrr_wsX12_dance_wsX12_dance_r1 (i := 23) rfl, (List.forall_mem_append.mpr ⟨(List.forall_mem_cons.mpr ⟨wrr_wsX12_dance_wsX12_dance_r1 (i := 7) rfl, (List.forall_mem_cons.mpr ⟨wrr_wsX12_dance_wsX12_dance_r2 (i := 0) rfl, (List.forall_mem_cons.mpr ⟨wrr_wsX12_dance_wsX12_dance_r2 (i := 1) rfl, (List.forall_mem_cons.mpr ⟨wrr_wsX12_dance_wsX12_dance_r2 (i := 2) rfl, (List.forall_mem_cons.mpr ⟨wrr_wsX12_dance_wsX12_dance_r2 (i := 3) rfl, (List.forall_mem_cons.mpr ⟨wrr_wsX12_dance_wsX12_dance_r2 (i := 4) rfl, (List.forall_mem_cons.mpr ⟨wrr_wsX12_dance_wsX12_dance_r1 (i := 11) rfl, (List.forall_mem_cons.mpr ⟨wrr_wsX12_dance_wsX12_dance_r2 (i := 5) rfl, (List.forall_mem_cons.mpr ⟨wrr_wsX12_dance_wsX12_dance_r2 (i := 6) rfl, (List.forall_mem_cons.mpr ⟨wrr_wsX12_dance_wsX12_dance_r2 (i := 7) rfl, (List.forall_mem_cons.mpr ⟨wrr_wsX12_dance_wsX12_dance_r2 (i := 8) rfl, (List.forall_mem_cons.mpr ⟨wrr_wsX12_dance_wsX12_dance_r2 (i := 9) rfl, (List.forall_mem_cons.mpr ⟨wrr_wsX12_dance_wsX12_dance_r1 (i := 1) rfl, (List.forall_mem_cons.mpr ⟨wrr_wsX12_dance_wsX12_dance_r2 (i := 10) rfl, (List.forall_mem_cons.mpr ⟨wrr_wsX12_dance_wsX12_dance_r2 (i := 11) rfl, (List.forall_mem_cons.mpr ⟨wrr_wsX12_dance_wsX12_dance_r2 (i := 12) rfl, (List.forall_mem_cons.mpr ⟨wrr_wsX12_dance_wsX12_dance_r2 (i := 13) rfl, (List.forall_mem_cons.mpr ⟨wrr_wsX12_dance_wsX12_dance_r2 (i := 14) rfl, (List.forall_mem_cons.mpr ⟨wrr_wsX12_dance_wsX12_dance_r2 (i := 15) rfl, (List.forall_mem_cons.mpr ⟨wrr_wsX12_dance_wsX12_dance_r2 (i := 16) rfl, (List.forall_mem_cons.mpr ⟨wrr_wsX12_dance_wsX12_dance_r2 (i := 17) rfl, (List.forall_mem_cons.mpr ⟨wrr_wsX12_dance_wsX12_dance_r2 (i := 18) rfl, (List.forall_mem_cons.mpr ⟨wrr_wsX12_dance_wsX12_dance_r2 (i := 19) rfl, (fun _ h => absurd h List.not_mem_nil)⟩)⟩)⟩)⟩)⟩)⟩)⟩)⟩)⟩)⟩)⟩)⟩)⟩)⟩)⟩)⟩)⟩)⟩)⟩)⟩)⟩)⟩)⟩), wru_wsX12_dance_wsX120⟩)⟩) gw_wsX12_begins
set_option maxRecDepth 20000 in
theorem gX12_dance_X12_begins : GoodIn wsX12_dance (wsV RX12 227 RX12 yX12_begins wsX12_begins) := goodIn_app (goodIn_sub (List.forall_mem_cons.mpr ⟨wrr_wsX12_dance_wsX12_dance_r1 (i := 20) rfl, (List.forall_mem_cons.mpr ⟨wrr_wsX12_dance_wsX12_dance_r1 (i := 21) rfl, (List.forall_mem_cons.mpr ⟨wrr_wsX12_dance_wsX12_dance_r1 (i := 22) rfl, (List.forall_mem_cons.mpr ⟨wrr_wsX12_dance_wsX12_dance_r1 (i := 11) rfl, (fun _ h => absurd h List.not_mem_nil)⟩)⟩)⟩)⟩) (by decide +kernel)) ggX12_dance_X12_begins
set_option maxRecDepth 20000 in
theorem ggX12_dance_X12_isGood : GoodIn wsX12_dance wsX12_isGood := goodIn_sub (List.forall_mem_cons.mpr ⟨wrr_wsX12_dance_wsX12_dance_r2 (i := 23) rfl, (List.forall_mem_append.mpr ⟨(List.forall_mem_cons.mpr ⟨wrr_wsX12_dance_wsX12_dance_r1 (i := 7) rfl, (fun _ h => absurd h List.not_mem_nil)⟩), wru_wsX12_dance_wsX120⟩)⟩) gw_wsX12_isGood
set_option maxRecDepth 20000 in
theorem gX12_dance_X12_isGood : GoodIn wsX12_dance (wsV RX12 168 RX12 yX12_isGood wsX12_isGood) := goodIn_app (goodIn_sub (List.forall_mem_cons.mpr ⟨wrr_wsX12_dance_wsX12_dance_r2 (i := 20) rfl, (List.forall_mem_cons.mpr ⟨wrr_wsX12_dance_wsX12_dance_r2 (i := 21) rfl, (List.forall_mem_cons.mpr ⟨wrr_wsX12_dance_wsX12_dance_r2 (i := 22) rfl, (List.forall_mem_cons.mpr ⟨wrr_wsX12_dance_wsX12_dance_r1 (i := 11) rfl, (fun _ h => absurd h List.not_mem_nil)⟩)⟩)⟩)⟩) (by decide +kernel)) ggX12_dance_X12_isGood
set_option maxRecDepth 20000 in
theorem ggX12_dance_X12_asks : GoodIn wsX12_dance wsX12_asks := goodIn_sub (List.forall_mem_cons.mpr ⟨wrr_wsX12_dance_wsX12_dance_r3 (i := 3) rfl, (List.forall_mem_append.mpr ⟨(List.forall_mem_append.mpr ⟨(List.forall_mem_cons.mpr ⟨wrr_wsX12_dance_wsX12_dance_r3 (i := 4) rfl, (List.forall_mem_cons.mpr ⟨wrr_wsX12_dance_wsX12_dance_r3 (i := 5) rfl, (List.forall_mem_cons.mpr ⟨wrr_wsX12_dance_wsX12_dance_r3 (i := 6) rfl, (List.forall_mem_cons.mpr ⟨wrr_wsX12_dance_wsX12_dance_r1 (i := 11) rfl, (List.forall_mem_cons.mpr ⟨wrr_wsX12_dance_wsX12_dance_r3 (i := 7) rfl, (List.forall_mem_cons.mpr ⟨wrr_wsX12_dance_wsX12_dance_r3 (i := 8) rfl, (List.forall_mem_cons.mpr ⟨wrr_wsX12_dance_wsX12_dance_r3 (i := 9) rfl, (List.forall_mem_cons.mpr ⟨wrr_wsX12_dance_wsX12_dance_r3 (i := 10) rfl, (List.forall_mem_cons.mpr ⟨wrr_wsX12_dance_wsX12_dance_r3 (i := 11) rfl, (List.forall_mem_cons.mpr ⟨wrr_wsX12_dance_wsX12_dance_r1 (i := 7) rfl, (List.forall_mem_cons.mpr ⟨wrr_wsX12_dance_wsX12_dance_r1 (i := 1) rfl, (List.forall_mem_cons.mpr ⟨wrr_wsX12_dance_wsX12_dance_r2 (i := 8) rfl, (List.forall_mem_cons.mpr ⟨wrr_wsX12_dance_wsX12_dance_r2 (i := 2) rfl, (List.forall_mem_cons.mpr ⟨wrr_wsX12_dance_wsX12_dance_r2 (i := 3) rfl, (List.forall_mem_cons.mpr ⟨wrr_wsX12_dance_wsX12_dance_r2 (i := 4) rfl, (List.forall_mem_cons.mpr ⟨wrr_wsX12_dance_wsX12_dance_r2 (i := 5) rfl, (List.forall_mem_cons.mpr ⟨wrr_wsX12_dance_wsX12_dance_r2 (i := 1) rfl, (List.forall_mem_cons.mpr ⟨wrr_wsX12_dance_wsX12_dance_r2 (i := 6) rfl, (List.forall_mem_cons.mpr ⟨wrr_wsX12_dance_wsX12_dance_r2 (i := 7) rfl, (List.forall_mem_cons.mpr ⟨wrr_wsX12_dance_wsX12_dance_r2 (i := 9) rfl, (List.forall_mem_cons.mpr ⟨wrr_wsX12_dance_wsX12_dance_r2 (i := 10) rfl, (List.forall_mem_cons.mpr ⟨wrr_wsX12_dance_wsX12_dance_r2 (i := 11) rfl, (List.forall_mem_cons.mpr ⟨wrr_wsX12_dance_wsX12_dance_r2 (i := 12) rfl, (List.forall_mem_cons.mpr ⟨wrr_wsX12_dance_wsX12_dance_r2 (i := 13) rfl, (fun _ h => absurd h List.not_mem_nil)⟩)⟩)⟩)⟩)⟩)⟩)⟩)⟩)⟩)⟩)⟩)⟩)⟩)⟩)⟩)⟩)⟩)⟩)⟩)⟩)⟩)⟩)⟩)⟩), (List.forall_mem_cons.mpr ⟨wrr_wsX12_dance_wsX12_dance_r2 (i := 14) rfl, (List.forall_mem_cons.mpr ⟨wrr_wsX12_dance_wsX12_dance_r2 (i := 15) rfl, (List.forall_mem_cons.mpr ⟨wrr_wsX12_dance_wsX12_dance_r2 (i := 16) rfl, (List.forall_mem_cons.mpr ⟨wrr_wsX12_dance_wsX12_dance_r2 (i := 17) rfl, (List.forall_mem_cons.mpr ⟨wrr_wsX12_dance_wsX12_dance_r2 (i := 18) rfl, (List.forall_mem_cons.mpr ⟨wrr_wsX12_dance_wsX12_dance_r2 (i := 19) rfl, (List.forall_mem_cons.mpr ⟨wrr_wsX12_dance_wsX12_dance_r3 (i := 12) rfl, (List.forall_mem_cons.mpr ⟨wrr_wsX12_dance_wsX12_dance_r3 (i := 13) rfl, (List.forall_mem_cons.mpr ⟨wrr_wsX12_dance_wsX12_dance_r3 (i := 14) rfl, (List.forall_mem_cons.mpr ⟨wrr_wsX12_dance_wsX12_dance_r3 (i := 15) rfl, (List.forall_mem_cons.mpr ⟨wrr_wsX12_dance_wsX12_dance_r2 (i := 0) rfl, (fun _ h => absurd h List.not_mem_nil)⟩)⟩)⟩)⟩)⟩)⟩)⟩)⟩)⟩)⟩)⟩)⟩), wru_wsX12_dance_wsX120⟩)⟩) gw_wsX12_asks
set_option maxRecDepth 20000 in
theorem gX12_dance_X12_asks : GoodIn wsX12_dance (wsV RX12 151 RX12 yX12_asks wsX12_asks) := goodIn_app (goodIn_sub (List.forall_mem_cons.mpr ⟨wrr_wsX12_dance_wsX12_dance_r3 (i := 0) rfl, (List.forall_mem_cons.mpr ⟨wrr_wsX12_dance_wsX12_dance_r3 (i := 1) rfl, (List.forall_mem_cons.mpr ⟨wrr_wsX12_dance_wsX12_dance_r3 (i := 2) rfl, (List.forall_mem_cons.mpr ⟨wrr_wsX12_dance_wsX12_dance_r1 (i := 11) rfl, (fun _ h => absurd h List.not_mem_nil)⟩)⟩)⟩)⟩) (by decide +kernel)) ggX12_dance_X12_asks
set_option maxRecDepth 20000 in
theorem ggX12_dance_X12_number_ : GoodIn wsX12_dance wsX12_number_ := goodIn_sub (List.forall_mem_cons.mpr ⟨wrr_wsX12_dance_wsX12_dance_r3 (i := 19) rfl, (List.forall_mem_append.mpr ⟨(List.forall_mem_append.mpr ⟨(List.forall_mem_cons.mpr ⟨wrr_wsX12_dance_wsX12_dance_r3 (i := 0) rfl, (List.forall_mem_cons.mpr ⟨wrr_wsX12_dance_wsX12_dance_r3 (i := 1) rfl, (List.forall_mem_cons.mpr ⟨wrr_wsX12_dance_wsX12_dance_r3 (i := 2) rfl, (List.forall_mem_cons.mpr ⟨wrr_wsX12_dance_wsX12_dance_r1 (i := 11) rfl, (List.forall_mem_cons.mpr ⟨wrr_wsX12_dance_wsX12_dance_r3 (i := 3) rfl, (List.forall_mem_cons.mpr ⟨wrr_wsX12_dance_wsX12_dance_r3 (i := 4) rfl, (List.forall_mem_cons.mpr ⟨wrr_wsX12_dance_wsX12_dance_r3 (i := 5) rfl, (List.forall_mem_cons.mpr ⟨wrr_wsX12_dance_wsX12_dance_r3 (i := 6) rfl, (List.forall_mem_cons.mpr ⟨wrr_wsX12_dance_wsX12_dance_r3 (i := 7) rfl, (List.forall_mem_cons.mpr ⟨wrr_wsX12_dance_wsX12_dance_r3 (i := 8) rfl, (List.forall_mem_cons.mpr ⟨wrr_wsX12_dance_wsX12_dance_r3 (i := 9) rfl, (List.forall_mem_cons.mpr ⟨wrr_wsX12_dance_wsX12_dance_r3 (i := 10) rfl, (List.forall_mem_cons.mpr ⟨wrr_wsX12_dance_wsX12_dance_r3 (i := 11) rfl, (List.forall_mem_cons.mpr ⟨wrr_wsX12_dance_wsX12_dance_r1 (i := 7) rfl, (List.forall_mem_cons.mpr ⟨wrr_wsX12_dance_wsX12_dance_r1 (i := 1) rfl, (List.forall_mem_cons.mpr ⟨wrr_wsX12_dance_wsX12_dance_r2 (i := 8) rfl, (List.forall_mem_cons.mpr ⟨wrr_wsX12_dance_wsX12_dance_r2 (i := 2) rfl, (List.forall_mem_cons.mpr ⟨wrr_wsX12_dance_wsX12_dance_r2 (i := 3) rfl, (List.forall_mem_cons.mpr ⟨wrr_wsX12_dance_wsX12_dance_r2 (i := 4) rfl, (List.forall_mem_cons.mpr ⟨wrr_wsX12_dance_wsX12_dance_r2 (i := 5) rfl, (List.forall_mem_cons.mpr ⟨wrr_wsX12_dance_wsX12_dance_r2 (i := 1) rfl, (List.forall_mem_cons.mpr ⟨wrr_wsX12_dance_wsX12_dance_r2 (i := 6) rfl, (List.forall_mem_cons.mpr ⟨wrr_wsX12_dance_wsX12_dance_r2 (i := 7) rfl, (List.forall_mem_cons.mpr ⟨wrr_wsX12_dance_wsX12_dance_r2 (i := 9) rfl, (fun _ h => absurd h List.not_mem_nil)⟩)⟩)⟩)⟩)⟩)⟩)⟩)⟩)⟩)⟩)⟩)⟩)⟩)⟩)⟩)⟩)⟩)⟩)⟩)⟩)⟩)⟩)⟩)⟩), (List.forall_mem_cons.mpr ⟨wrr_wsX12_dance_wsX12_dance_r2 (i := 10) rfl, (List.forall_mem_cons.mpr ⟨wrr_wsX12_dance_wsX12_dance_r2 (i := 11) rfl, (List.forall_mem_cons.mpr ⟨wrr_wsX12_dance_wsX12_dance_r2 (i := 12) rfl, (List.forall_mem_cons.mpr ⟨wrr_wsX12_dance_wsX12_dance_r2 (i := 13) rfl, (List.forall_mem_cons.mpr ⟨wrr_wsX12_dance_wsX12_dance_r2 (i := 14) rfl, (List.forall_mem_cons.mpr ⟨wrr_wsX12_dance_wsX12_dance_r2 (i := 15) rfl, (List.forall_mem_cons.mpr ⟨wrr_wsX12_dance_wsX12_dance_r2 (i := 16) rfl, (List.forall_mem_cons.mpr ⟨wrr_wsX12_dance_wsX12_dance_r2 (i := 17) rfl, (List.forall_mem_cons.mpr ⟨wrr_wsX12_dance_wsX12_dance_r2 (i := 18) rfl, (List.forall_mem_cons.mpr ⟨wrr_wsX12_dance_wsX12_dance_r2 (i := 19) rfl, (List.forall_mem_cons.mpr ⟨wrr_wsX12_dance_wsX12_dance_r3 (i := 12) rfl, (List.forall_mem_cons.mpr ⟨wrr_wsX12_dance_wsX12_dance_r3 (i := 13) rfl, (List.forall_mem_cons.mpr ⟨wrr_wsX12_dance_wsX12_dance_r3 (i := 14) rfl, (List.forall_mem_cons.mpr ⟨wrr_wsX12_dance_wsX12_dance_r3 (i := 15) rfl, (List.forall_mem_cons.mpr ⟨wrr_wsX12_dance_wsX12_dance_r2 (i := 0) rfl, (List.forall_mem_cons.mpr ⟨wrr_wsX12_dance_wsX12_dance_r3 (i := 20) rfl, (List.forall_mem_cons.mpr ⟨wrr_wsX12_dance_wsX12_dance_r3 (i := 21) rfl, (List.forall_mem_cons.mpr ⟨wrr_wsX12_dance_wsX12_dance_r3 (i := 22) rfl, (List.forall_mem_cons.mpr ⟨wrr_wsX12_dance_wsX12_dance_r3 (i := 23) rfl, (List.forall_mem_cons.mpr ⟨wrr_wsX12_dance_wsX12_dance_r4 (i := 0) rfl, (List.forall_mem_cons.mpr ⟨wrr_wsX12_dance_wsX12_dance_r4 (i := 1) rfl, (List.forall_mem_cons.mpr ⟨wrr_wsX12_dance_wsX12_dance_r4 (i := 2) rfl, (fun _ h => absurd h List.not_mem_nil)⟩)⟩)⟩)⟩)⟩)⟩)⟩)⟩)⟩)⟩)⟩)⟩)⟩)⟩)⟩)⟩)⟩)⟩)⟩)⟩)⟩)⟩)⟩), wru_wsX12_dance_wsX120⟩)⟩) gw_wsX12_number_
set_option maxRecDepth 20000 in
theorem gX12_dance_X12_number_ : GoodIn wsX12_dance (wsV RX12 174 RX12 yX12_number_ wsX12_number_) := goodIn_app (goodIn_sub (List.forall_mem_cons.mpr ⟨wrr_wsX12_dance_wsX12_dance_r3 (i := 16) rfl, (List.forall_mem_cons.mpr ⟨wrr_wsX12_dance_wsX12_dance_r3 (i := 17) rfl, (List.forall_mem_cons.mpr ⟨wrr_wsX12_dance_wsX12_dance_r3 (i := 18) rfl, (List.forall_mem_cons.mpr ⟨wrr_wsX12_dance_wsX12_dance_r1 (i := 11) rfl, (fun _ h => absurd h List.not_mem_nil)⟩)⟩)⟩)⟩) (by decide +kernel)) ggX12_dance_X12_number_
set_option maxRecDepth 20000 in
theorem ggX12_dance_X12_reads : GoodIn wsX12_dance wsX12_reads := goodIn_sub (List.forall_mem_cons.mpr ⟨wrr_wsX12_dance_wsX12_dance_r1 (i := 18) rfl, (List.forall_mem_append.mpr ⟨(List.forall_mem_cons.mpr ⟨wrr_wsX12_dance_wsX12_dance_r1 (i := 19) rfl, (fun _ h => absurd h List.not_mem_nil)⟩), wru_wsX12_dance_wsX120⟩)⟩) gw_wsX12_reads
set_option maxRecDepth 20000 in
theorem gX12_dance_X12_reads : GoodIn wsX12_dance (wsV RX12 177 RX12 yX12_reads wsX12_reads) := goodIn_app (goodIn_sub (List.forall_mem_cons.mpr ⟨wrr_wsX12_dance_wsX12_dance_r1 (i := 15) rfl, (List.forall_mem_cons.mpr ⟨wrr_wsX12_dance_wsX12_dance_r1 (i := 16) rfl, (List.forall_mem_cons.mpr ⟨wrr_wsX12_dance_wsX12_dance_r1 (i := 17) rfl, (List.forall_mem_cons.mpr ⟨wrr_wsX12_dance_wsX12_dance_r1 (i := 11) rfl, (fun _ h => absurd h List.not_mem_nil)⟩)⟩)⟩)⟩) (by decide +kernel)) ggX12_dance_X12_reads
set_option maxRecDepth 20000 in
theorem gw_wsX12_line : wsX12_line.all goodWord = true := by decide +kernel
set_option maxRecDepth 20000 in
theorem ggX12_dance_X12_line : GoodIn wsX12_dance wsX12_line := goodIn_sub (List.forall_mem_cons.mpr ⟨wrr_wsX12_dance_wsX12_dance_r4 (i := 6) rfl, (List.forall_mem_append.mpr ⟨(List.forall_mem_append.mpr ⟨(List.forall_mem_cons.mpr ⟨wrr_wsX12_dance_wsX12_dance_r4 (i := 7) rfl, (List.forall_mem_cons.mpr ⟨wrr_wsX12_dance_wsX12_dance_r4 (i := 8) rfl, (List.forall_mem_cons.mpr ⟨wrr_wsX12_dance_wsX12_dance_r4 (i := 9) rfl, (List.forall_mem_cons.mpr ⟨wrr_wsX12_dance_wsX12_dance_r1 (i := 7) rfl, (List.forall_mem_cons.mpr ⟨wrr_wsX12_dance_wsX12_dance_r4 (i := 10) rfl, (List.forall_mem_cons.mpr ⟨wrr_wsX12_dance_wsX12_dance_r4 (i := 11) rfl, (List.forall_mem_cons.mpr ⟨wrr_wsX12_dance_wsX12_dance_r4 (i := 12) rfl, (List.forall_mem_cons.mpr ⟨wrr_wsX12_dance_wsX12_dance_r4 (i := 13) rfl, (List.forall_mem_cons.mpr ⟨wrr_wsX12_dance_wsX12_dance_r4 (i := 14) rfl, (List.forall_mem_cons.mpr ⟨wrr_wsX12_dance_wsX12_dance_r4 (i := 15) rfl, (List.forall_mem_cons.mpr ⟨wrr_wsX12_dance_wsX12_dance_r1 (i := 1) rfl, (List.forall_mem_cons.mpr ⟨wrr_wsX12_dance_wsX12_dance_r2 (i := 7) rfl, (List.forall_mem_cons.mpr ⟨wrr_wsX12_dance_wsX12_dance_r1 (i := 14) rfl, (List.forall_mem_cons.mpr ⟨wrr_wsX12_dance_wsX12_dance_r3 (i := 8) rfl, (List.forall_mem_cons.mpr ⟨wrr_wsX12_dance_wsX12_dance_r3 (i := 9) rfl, (List.forall_mem_cons.mpr ⟨wrr_wsX12_dance_wsX12_dance_r3 (i := 10) rfl, (List.forall_mem_cons.mpr ⟨wrr_wsX12_dance_wsX12_dance_r1 (i := 11) rfl, (List.forall_mem_cons.mpr ⟨wrr_wsX12_dance_wsX12_dance_r3 (i := 11) rfl, (List.forall_mem_cons.mpr ⟨wrr_wsX12_dance_wsX12_dance_r2 (i := 8) rfl, (List.forall_mem_cons.mpr ⟨wrr_wsX12_dance_wsX12_dance_r4 (i := 16) rfl, (List.forall_mem_cons.mpr ⟨wrr_wsX12_dance_wsX12_dance_r4 (i := 17) rfl, (List.forall_mem_cons.mpr ⟨wrr_wsX12_dance_wsX12_dance_r4 (i := 18) rfl, (List.forall_mem_cons.mpr ⟨wrr_wsX12_dance_wsX12_dance_r4 (i := 19) rfl, (List.forall_mem_cons.mpr ⟨wrr_wsX12_dance_wsX12_dance_r1 (i := 19) rfl, (fun _ h => absurd h List.not_mem_nil)⟩)⟩)⟩)⟩)⟩)⟩)⟩)⟩)⟩)⟩)⟩)⟩)⟩)⟩)⟩)⟩)⟩)⟩)⟩)⟩)⟩)⟩)⟩)⟩), (List.forall_mem_append.mpr ⟨(List.forall_mem_cons.mpr ⟨wrr_wsX12_dance_wsX12_dance_r3 (i := 12) rfl, (List.forall_mem_cons.mpr ⟨wrr_wsX12_dance_wsX12_dance_r3 (i := 13) rfl, (List.forall_mem_cons.mpr ⟨wrr_wsX12_dance_wsX12_dance_r3 (i := 14) rfl, (List.forall_mem_cons.mpr ⟨wrr_wsX12_dance_wsX12_dance_r3 (i := 15) rfl, (List.forall_mem_cons.mpr ⟨wrr_wsX12_dance_wsX12_dance_r2 (i := 6) rfl, (List.forall_mem_cons.mpr ⟨wrr_wsX12_dance_wsX12_dance_r2 (i := 0) rfl, (List.forall_mem_cons.mpr ⟨wrr_wsX12_dance_wsX12_dance_r2 (i := 2) rfl, (List.forall_mem_cons.mpr ⟨wrr_wsX12_dance_wsX12_dance_r2 (i := 3) rfl, (List.forall_mem_cons.mpr ⟨wrr_wsX12_dance_wsX12_dance_r2 (i := 4) rfl, (List.forall_mem_cons.mpr ⟨wrr_wsX12_dance_wsX12_dance_r2 (i := 5) rfl, (List.forall_mem_cons.mpr ⟨wrr_wsX12_dance_wsX12_dance_r2 (i := 1) rfl, (List.forall_mem_cons.mpr ⟨wrr_wsX12_dance_wsX12_dance_r2 (i := 9) rfl, (List.forall_mem_cons.mpr ⟨wrr_wsX12_dance_wsX12_dance_r2 (i := 10) rfl, (List.forall_mem_cons.mpr ⟨wrr_wsX12_dance_wsX12_dance_r2 (i := 11) rfl, (List.forall_mem_cons.mpr ⟨wrr_wsX12_dance_wsX12_dance_r2 (i := 12) rfl, (List.forall_mem_cons.mpr ⟨wrr_wsX12_dance_wsX12_dance_r2 (i := 13) rfl, (List.forall_mem_cons.mpr ⟨wrr_wsX12_dance_wsX12_dance_r2 (i := 14) rfl, (List.forall_mem_cons.mpr ⟨wrr_wsX12_dance_wsX12_dance_r2 (i := 15) rfl, (List.forall_mem_cons.mpr ⟨wrr_wsX12_dance_wsX12_dance_r2 (i := 16) rfl, (List.forall_mem_cons.mpr ⟨wrr_wsX12_dance_wsX12_dance_r2 (i := 17) rfl, (List.forall_mem_cons.mpr ⟨wrr_wsX12_dance_wsX12_dance_r2 (i := 18) rfl, (List.forall_mem_cons.mpr ⟨wrr_wsX12_dance_wsX12_dance_r2 (i := 19) rfl, (List.forall_mem_cons.mpr ⟨wrr_wsX12_dance_wsX12_dance_r4 (i := 20) rfl, (List.forall_mem_cons.mpr ⟨wrr_wsX12_dance_wsX12_dance_r4 (i := 21) rfl, (fun _ h => absurd h List.not_mem_nil)⟩)⟩)⟩)⟩)⟩)⟩)⟩)⟩)⟩)⟩)⟩)⟩)⟩)⟩)⟩)⟩)⟩)⟩)⟩)⟩)⟩)⟩)⟩)⟩), (List.forall_mem_append.mpr ⟨(List.forall_mem_cons.mpr ⟨wrr_wsX12_dance_wsX12_dance_r4 (i := 22) rfl, (List.forall_mem_cons.mpr ⟨wrr_wsX12_dance_wsX12_dance_r4 (i := 23) rfl, (List.forall_mem_cons.mpr ⟨wrr_wsX12_dance_wsX12_dance_r5 (i := 0) rfl, (List.forall_mem_cons.mpr ⟨wrr_wsX12_dance_wsX12_dance_r5 (i := 1) rfl, (List.forall_mem_cons.mpr ⟨wrr_wsX12_dance_wsX12_dance_r5 (i := 2) rfl, (List.forall_mem_cons.mpr ⟨wrr_wsX12_dance_wsX12_dance_r5 (i := 3) rfl, (List.forall_mem_cons.mpr ⟨wrr_wsX12_dance_wsX12_dance_r3 (i := 20) rfl, (List.forall_mem_cons.mpr ⟨wrr_wsX12_dance_wsX12_dance_r3 (i := 21) rfl, (List.forall_mem_cons.mpr ⟨wrr_wsX12_dance_wsX12_dance_r3 (i := 22) rfl, (List.forall_mem_cons.mpr ⟨wrr_wsX12_dance_wsX12_dance_r3 (i := 23) rfl, (List.forall_mem_cons.mpr ⟨wrr_wsX12_dance_wsX12_dance_r4 (i := 0) rfl, (List.forall_mem_cons.mpr ⟨wrr_wsX12_dance_wsX12_dance_r4 (i := 1) rfl, (List.forall_mem_cons.mpr ⟨wrr_wsX12_dance_wsX12_dance_r4 (i := 2) rfl, (List.forall_mem_cons.mpr ⟨wrr_wsX12_dance_wsX12_dance_r3 (i := 0) rfl, (List.forall_mem_cons.mpr ⟨wrr_wsX12_dance_wsX12_dance_r3 (i := 1) rfl, (List.forall_mem_cons.mpr ⟨wrr_wsX12_dance_wsX12_dance_r3 (i := 2) rfl, (List.forall_mem_cons.mpr ⟨wrr_wsX12_dance_wsX12_dance_r3 (i := 3) rfl, (List.forall_mem_cons.mpr ⟨wrr_wsX12_dance_wsX12_dance_r3 (i := 4) rfl, (List.forall_mem_cons.mpr ⟨wrr_wsX12_dance_wsX12_dance_r3 (i := 5) rfl, (List.forall_mem_cons.mpr ⟨wrr_wsX12_dance_wsX12_dance_r3 (i := 6) rfl, (List.forall_mem_cons.mpr ⟨wrr_wsX12_dance_wsX12_dance_r3 (i := 7) rfl, (List.forall_mem_cons.mpr ⟨wrr_wsX12_dance_wsX12_dance_r5 (i := 4) rfl, (List.forall_mem_cons.mpr ⟨wrr_wsX12_dance_wsX12_dance_r5 (i := 5) rfl, (List.forall_mem_cons.mpr ⟨wrr_wsX12_dance_wsX12_dance_r5 (i := 6) rfl, (fun _ h => absurd h List.not_mem_nil)⟩)⟩)⟩)⟩)⟩)⟩)⟩)⟩)⟩)⟩)⟩)⟩)⟩)⟩)⟩)⟩)⟩)⟩)⟩)⟩)⟩)⟩)⟩)⟩), (List.forall_mem_append.mpr ⟨(List.forall_mem_cons.mpr ⟨wrr_wsX12_dance_wsX12_dance_r5 (i := 7) rfl, (List.forall_mem_cons.mpr ⟨wrr_wsX12_dance_wsX12_dance_r5 (i := 8) rfl, (List.forall_mem_cons.mpr ⟨wrr_wsX12_dance_wsX12_dance_r5 (i := 9) rfl, (List.forall_mem_cons.mpr ⟨wrr_wsX12_dance_wsX12_dance_r5 (i := 10) rfl, (List.forall_mem_cons.mpr ⟨wrr_wsX12_dance_wsX12_dance_r5 (i := 11) rfl, (List.forall_mem_cons.mpr ⟨wrr_wsX12_dance_wsX12_dance_r3 (i := 16) rfl, (List.forall_mem_cons.mpr ⟨wrr_wsX12_dance_wsX12_dance_r3 (i := 17) rfl, (List.forall_mem_cons.mpr ⟨wrr_wsX12_dance_wsX12_dance_r3 (i := 18) rfl, (List.forall_mem_cons.mpr ⟨wrr_wsX12_dance_wsX12_dance_r3 (i := 19) rfl, (List.forall_mem_cons.mpr ⟨wrr_wsX12_dance_wsX12_dance_r1 (i := 15) rfl, (List.forall_mem_cons.mpr ⟨wrr_wsX12_dance_wsX12_dance_r1 (i := 16) rfl, (List.forall_mem_cons.mpr ⟨wrr_wsX12_dance_wsX12_dance_r1 (i := 17) rfl, (List.forall_mem_cons.mpr ⟨wrr_wsX12_dance_wsX12_dance_r1 (i := 18) rfl, (List.forall_mem_cons.mpr ⟨wrr_wsX12_dance_wsX12_dance_r5 (i := 12) rfl, (List.forall_mem_cons.mpr ⟨wrr_wsX12_dance_wsX12_dance_r5 (i := 13) rfl, (List.forall_mem_cons.mpr ⟨wrr_wsX12_dance_wsX12_dance_r5 (i := 14) rfl, (List.forall_mem_cons.mpr ⟨wrr_wsX12_dance_wsX12_dance_r5 (i := 15) rfl, (List.forall_mem_cons.mpr ⟨wrr_wsX12_dance_wsX12_dance_r5 (i := 16) rfl, (List.forall_mem_cons.mpr ⟨wrr_wsX12_dance_wsX12_dance_r5 (i := 17) rfl, (List.forall_mem_cons.mpr ⟨wrr_wsX12_dance_wsX12_dance_r5 (i := 18) rfl, (List.forall_mem_cons.mpr ⟨wrr_wsX12_dance_wsX12_dance_r5 (i := 19) rfl, (List.forall_mem_cons.mpr ⟨wrr_wsX12_dance_wsX12_dance_r5 (i := 20) rfl, (List.forall_mem_cons.mpr ⟨wrr_wsX12_dance_wsX12_dance_r5 (i := 21) rfl, (List.forall_mem_cons.mpr ⟨wrr_wsX12_dance_wsX12_dance_r5 (i := 22) rfl, (fun _ h => absurd h List.not_mem_nil)⟩)⟩)⟩)⟩)⟩)⟩)⟩)⟩)⟩)⟩)⟩)⟩)⟩)⟩)⟩)⟩)⟩)⟩)⟩)⟩)⟩)⟩)⟩)⟩), (List.forall_mem_cons.mpr ⟨wrr_wsX12_dance_wsX12_dance_r5 (i := 23) rfl, (List.forall_mem_cons.mpr ⟨wrr_wsX12_dance_wsX12_dance_r6 (i := 0) rfl, (List.forall_mem_cons.mpr ⟨wrr_wsX12_dance_wsX12_dance_r6 (i := 1) rfl, (List.forall_mem_cons.mpr ⟨wrr_wsX12_dance_wsX12_dance_r6 (i := 2) rfl, (List.forall_mem_cons.mpr ⟨wrr_wsX12_dance_wsX12_dance_r6 (i := 3) rfl, (List.forall_mem_cons.mpr ⟨wrr_wsX12_dance_wsX12_dance_r2 (i := 20) rfl, (List.forall_mem_cons.mpr ⟨wrr_wsX12_dance_wsX12_dance_r2 (i := 21) rfl, (List.forall_mem_cons.mpr ⟨wrr_wsX12_dance_wsX12_dance_r2 (i := 22) rfl, (List.forall_mem_cons.mpr ⟨wrr_wsX12_dance_wsX12_dance_r2 (i := 23) rfl, (List.forall_mem_cons.mpr ⟨wrr_wsX12_dance_wsX12_dance_r6 (i := 4) rfl, (List.forall_mem_cons.mpr ⟨wrr_wsX12_dance_wsX12_dance_r6 (i := 5) rfl, (List.forall_mem_cons.mpr ⟨wrr_wsX12_dance_wsX12_dance_r6 (i := 6) rfl, (List.forall_mem_cons.mpr ⟨wrr_wsX12_dance_wsX12_dance_r6 (i := 7) rfl, (List.forall_mem_cons.mpr ⟨wrr_wsX12_dance_wsX12_dance_r1 (i := 13) rfl, (fun _ h => absurd h List.not_mem_nil)⟩)⟩)⟩)⟩)⟩)⟩)⟩)⟩)⟩)⟩)⟩)⟩)⟩)⟩)⟩)⟩)⟩)⟩), wru_wsX12_dance_wsX120⟩)⟩) gw_wsX12_line
set_option maxRecDepth 20000 in
theorem gX12_dance_X12_line : GoodIn wsX12_dance (wsV RX12 238 RX12 yX12_line wsX12_line) := goodIn_app (goodIn_sub (List.forall_mem_cons.mpr ⟨wrr_wsX12_dance_wsX12_dance_r4 (i := 3) rfl, (List.forall_mem_cons.mpr ⟨wrr_wsX12_dance_wsX12_dance_r4 (i := 4) rfl, (List.forall_mem_cons.mpr ⟨wrr_wsX12_dance_wsX12_dance_r4 (i := 5) rfl, (List.forall_mem_cons.mpr ⟨wrr_wsX12_dance_wsX12_dance_r1 (i := 11) rfl, (fun _ h => absurd h List.not_mem_nil)⟩)⟩)⟩)⟩) (by decide +kernel)) ggX12_dance_X12_line
set_option maxRecDepth 20000 in
theorem gw_wsX12_ends : wsX12_ends.all goodWord = true := by decide +kernel
set_option maxRecDepth 20000 in
theorem ggX12_dance_X12_ends : GoodIn wsX12_dance wsX12_ends := goodIn_sub (List.forall_mem_cons.mpr ⟨wrr_wsX12_dance_wsX12_dance_r6 (i := 11) rfl, (List.forall_mem_append.mpr ⟨(List.forall_mem_append.mpr ⟨(List.forall_mem_cons.mpr ⟨wrr_wsX12_dance_wsX12_dance_r1 (i := 1) rfl, (List.forall_mem_cons.mpr ⟨wrr_wsX12_dance_wsX12_dance_r1 (i := 7) rfl, (List.forall_mem_cons.mpr ⟨wrr_wsX12_dance_wsX12_dance_r3 (i := 12) rfl, (List.forall_mem_cons.mpr ⟨wrr_wsX12_dance_wsX12_dance_r3 (i := 13) rfl, (List.forall_mem_cons.mpr ⟨wrr_wsX12_dance_wsX12_dance_r3 (i := 14) rfl, (List.forall_mem_cons.mpr ⟨wrr_wsX12_dance_wsX12_dance_r1 (i := 11) rfl, (List.forall_mem_cons.mpr ⟨wrr_wsX12_dance_wsX12_dance_r3 (i := 15) rfl, (List.forall_mem_cons.mpr ⟨wrr_wsX12_dance_wsX12_dance_r2 (i := 6) rfl, (List.forall_mem_cons.mpr ⟨wrr_wsX12_dance_wsX12_dance_r2 (i := 0) rfl, (List.forall_mem_cons.mpr ⟨wrr_wsX12_dance_wsX12_dance_r2 (i := 2) rfl, (List.forall_mem_cons.mpr ⟨wrr_wsX12_dance_wsX12_dance_r2 (i := 3) rfl, (List.forall_mem_cons.mpr ⟨wrr_wsX12_dance_wsX12_dance_r2 (i := 4) rfl, (List.forall_mem_cons.mpr ⟨wrr_wsX12_dance_wsX12_dance_r2 (i := 5) rfl, (List.forall_mem_cons.mpr ⟨wrr_wsX12_dance_wsX12_dance_r2 (i := 1) rfl, (List.forall_mem_cons.mpr ⟨wrr_wsX12_dance_wsX12_dance_r2 (i := 7) rfl, (List.forall_mem_cons.mpr ⟨wrr_wsX12_dance_wsX12_dance_r2 (i := 8) rfl, (List.forall_mem_cons.mpr ⟨wrr_wsX12_dance_wsX12_dance_r2 (i := 9) rfl, (List.forall_mem_cons.mpr ⟨wrr_wsX12_dance_wsX12_dance_r2 (i := 10) rfl, (List.forall_mem_cons.mpr ⟨wrr_wsX12_dance_wsX12_dance_r2 (i := 11) rfl, (List.forall_mem_cons.mpr ⟨wrr_wsX12_dance_wsX12_dance_r2 (i := 12) rfl, (List.forall_mem_cons.mpr ⟨wrr_wsX12_dance_wsX12_dance_r2 (i := 13) rfl, (List.forall_mem_cons.mpr ⟨wrr_wsX12_dance_wsX12_dance_r2 (i := 14) rfl, (List.forall_mem_cons.mpr ⟨wrr_wsX12_dance_wsX12_dance_r2 (i := 15) rfl, (List.forall_mem_cons.mpr ⟨wrr_wsX12_dance_wsX12_dance_r2 (i := 16) rfl, (fun _ h => absurd h List.not_mem_nil)⟩)⟩)⟩)⟩)⟩)⟩)⟩)⟩)⟩)⟩)⟩)⟩)⟩)⟩)⟩)⟩)⟩)⟩)⟩)⟩)⟩)⟩)⟩)⟩), (List.forall_mem_cons.mpr ⟨wrr_wsX12_dance_wsX12_dance_r2 (i := 17) rfl, (List.forall_mem_cons.mpr ⟨wrr_wsX12_dance_wsX12_dance_r2 (i := 18) rfl, (List.forall_mem_cons.mpr ⟨wrr_wsX12_dance_wsX12_dance_r2 (i := 19) rfl, (fun _ h => absurd h List.not_mem_nil)⟩)⟩)⟩)⟩), wru_wsX12_dance_wsX120⟩)⟩) gw_wsX12_ends
set_option maxRecDepth 20000 in
theorem gX12_dance_X12_ends : GoodIn wsX12_dance (wsV RX12 241 RX12 yX12_ends wsX12_ends) := goodIn_app (goodIn_sub (List.forall_mem_cons.mpr ⟨wrr_wsX12_dance_wsX12_dance_r6 (i := 8) rfl, (List.forall_mem_cons.mpr ⟨wrr_wsX12_dance_wsX12_dance_r6 (i := 9) rfl, (List.forall_mem_cons.mpr ⟨wrr_wsX12_dance_wsX12_dance_r6 (i := 10) rfl, (List.forall_mem_cons.mpr ⟨wrr_wsX12_dance_wsX12_dance_r1 (i := 11) rfl, (fun _ h => absurd h List.not_mem_nil)⟩)⟩)⟩)⟩) (by decide +kernel)) ggX12_dance_X12_ends
set_option maxRecDepth 20000 in
theorem gw_wsX12_isOver : wsX12_isOver.all goodWord = true := by decide +kernel
set_option maxRecDepth 20000 in
theorem ggX12_dance_X12_isOver : GoodIn wsX12_dance wsX12_isOver := goodIn_sub (List.forall_mem_cons.mpr ⟨wrr_wsX12_dance_wsX12_dance_r6 (i := 15) rfl, (List.forall_mem_append.mpr ⟨(List.forall_mem_cons.mpr ⟨wrr_wsX12_dance_wsX12_dance_r2 (i := 9) rfl, (List.forall_mem_cons.mpr ⟨wrr_wsX12_dance_wsX12_dance_r1 (i := 7) rfl, (List.forall_mem_cons.mpr ⟨wrr_wsX12_dance_wsX12_dance_r6 (i := 16) rfl, (List.forall_mem_cons.mpr ⟨wrr_wsX12_dance_wsX12_dance_r2 (i := 0) rfl, (List.forall_mem_cons.mpr ⟨wrr_wsX12_dance_wsX12_dance_r6 (i := 17) rfl, (fun _ h => absurd h List.not_mem_nil)⟩)⟩)⟩)⟩)⟩), wru_wsX12_dance_wsX120⟩)⟩) gw_wsX12_isOver
set_option maxRecDepth 20000 in
theorem gX12_dance_X12_isOver : GoodIn wsX12_dance (wsV RX12 244 RX12 yX12_isOver wsX12_isOver) := goodIn_app (goodIn_sub (List.forall_mem_cons.mpr ⟨wrr_wsX12_dance_wsX12_dance_r6 (i := 12) rfl, (List.forall_mem_cons.mpr ⟨wrr_wsX12_dance_wsX12_dance_r6 (i := 13) rfl, (List.forall_mem_cons.mpr ⟨wrr_wsX12_dance_wsX12_dance_r6 (i := 14) rfl, (List.forall_mem_cons.mpr ⟨wrr_wsX12_dance_wsX12_dance_r1 (i := 11) rfl, (fun _ h => absurd h List.not_mem_nil)⟩)⟩)⟩)⟩) (by decide +kernel)) ggX12_dance_X12_isOver
set_option maxRecDepth 20000 in
theorem gw_wsX12_copyDance : wsX12_copyDance.all goodWord = true := by decide +kernel
set_option maxRecDepth 20000 in
theorem ggX12_dance_X12_copyDance : GoodIn wsX12_dance wsX12_copyDance := goodIn_sub (List.forall_mem_cons.mpr ⟨wrr_wsX12_dance_wsX12_dance_r6 (i := 21) rfl, (List.forall_mem_append.mpr ⟨(List.forall_mem_cons.mpr ⟨wrr_wsX12_dance_wsX12_dance_r1 (i := 2) rfl, (List.forall_mem_cons.mpr ⟨wrr_wsX12_dance_wsX12_dance_r1 (i := 19) rfl, (List.forall_mem_cons.mpr ⟨wrr_wsX12_dance_wsX12_dance_r5 (i := 23) rfl, (List.forall_mem_cons.mpr ⟨wrr_wsX12_dance_wsX12_dance_r1 (i := 13) rfl, (List.forall_mem_cons.mpr ⟨wrr_wsX12_dance_wsX12_dance_r5 (i := 1) rfl, (List.forall_mem_cons.mpr ⟨wrr_wsX12_dance_wsX12_dance_r4 (i := 11) rfl, (List.forall_mem_cons.mpr ⟨wrr_wsX12_dance_wsX12_dance_r4 (i := 12) rfl, (List.forall_mem_cons.mpr ⟨wrr_wsX12_dance_wsX12_dance_r6 (i := 22) rfl, (List.forall_mem_cons.mpr ⟨wrr_wsX12_dance_wsX12_dance_r1 (i := 14) rfl, (List.forall_mem_cons.mpr ⟨wrr_wsX12_dance_wsX12_dance_r6 (i := 23) rfl, (List.forall_mem_cons.mpr ⟨wrr_wsX12_dance_wsX12_dance_r7 (i := 0) rfl, (List.forall_mem_cons.mpr ⟨wrr_wsX12_dance_wsX12_dance_r1 (i := 11) rfl, (List.forall_mem_cons.mpr ⟨wrr_wsX12_dance_wsX12_dance_r7 (i := 1) rfl, (fun _ h => absurd h List.not_mem_nil)⟩)⟩)⟩)⟩)⟩)⟩)⟩)⟩)⟩)⟩)⟩)⟩)⟩), wru_wsX12_dance_wsX120⟩)⟩) gw_wsX12_copyDance
set_option maxRecDepth 20000 in
theorem gX12_dance_X12_copyDance : GoodIn wsX12_dance (wsV RX12 247 RX12 yX12_copyDance wsX12_copyDance) := goodIn_app (goodIn_sub (List.forall_mem_cons.mpr ⟨wrr_wsX12_dance_wsX12_dance_r6 (i := 18) rfl, (List.forall_mem_cons.mpr ⟨wrr_wsX12_dance_wsX12_dance_r6 (i := 19) rfl, (List.forall_mem_cons.mpr ⟨wrr_wsX12_dance_wsX12_dance_r6 (i := 20) rfl, (List.forall_mem_cons.mpr ⟨wrr_wsX12_dance_wsX12_dance_r1 (i := 11) rfl, (fun _ h => absurd h List.not_mem_nil)⟩)⟩)⟩)⟩) (by decide +kernel)) ggX12_dance_X12_copyDance
theorem dX12_dance_0 : decode cX12_dance 0 = .ok (.aload_n 0, 1) := by decide +kernel
theorem dX12_dance_1 : decode cX12_dance 1 = .ok (.iconst 0, 1) := by decide +kernel
theorem dX12_dance_2 : decode cX12_dance 2 = .ok (.putfield 80, 3) := by decide +kernel
theorem dX12_dance_5 : decode cX12_dance 5 = .ok (.aload_n 0, 1) := by decide +kernel
theorem dX12_dance_6 : decode cX12_dance 6 = .ok (.invokevirtual 224, 3) := by decide +kernel
theorem dX12_dance_9 : decode cX12_dance 9 = .ok (.aload_n 0, 1) := by decide +kernel
theorem dX12_dance_10 : decode cX12_dance 10 = .ok (.invokevirtual 227, 3) := by decide +kernel
theorem dX12_dance_13 : decode cX12_dance 13 = .ok (.aload_n 0, 1) := by decide +kernel
theorem dX12_dance_14 : decode cX12_dance 14 = .ok (.invokevirtual 168, 3) := by decide +kernel
theorem dX12_dance_17 : decode cX12_dance 17 = .ok (.ifCond .eq 102, 3) := by decide +kernel
theorem dX12_dance_20 : decode cX12_dance 20 = .ok (.aload_n 0, 1) := by decide +kernel
theorem dX12_dance_21 : decode cX12_dance 21 = .ok (.getfield 121, 3) := by decide +kernel
theorem dX12_dance_24 : decode cX12_dance 24 = .ok (.ifCond .eq 95, 3) := by decide +kernel
theorem dX12_dance_27 : decode cX12_dance 27 = .ok (.aload_n 0, 1) := by decide +kernel
theorem dX12_dance_28 : decode cX12_dance 28 = .ok (.getfield 31, 3) := by decide +kernel
theorem dX12_dance_31 : decode cX12_dance 31 = .ok (.iconst 4, 1) := by decide +kernel
theorem dX12_dance_32 : decode cX12_dance 32 = .ok (.iaload, 1) := by decide +kernel
theorem dX12_dance_33 : decode cX12_dance 33 = .ok (.ifCond .ne 58, 3) := by decide +kernel
theorem dX12_dance_36 : decode cX12_dance 36 = .ok (.aload_n 0, 1) := by decide +kernel
theorem dX12_dance_37 : decode cX12_dance 37 = .ok (.ldc2_w 230, 3) := by decide +kernel
theorem dX12_dance_40 : decode cX12_dance 40 = .ok (.invokevirtual 151, 3) := by decide +kernel
theorem dX12_dance_43 : decode cX12_dance 43 = .ok (.aload_n 0, 1) := by decide +kernel
theorem dX12_dance_44 : decode cX12_dance 44 = .ok (.iconst 0, 1) := by decide +kernel
theorem dX12_dance_45 : decode cX12_dance 45 = .ok (.aload_n 0, 1) := by decide +kernel
theorem dX12_dance_46 : decode cX12_dance 46 = .ok (.ldc2_w 232, 3) := by decide +kernel
theorem dX12_dance_49 : decode cX12_dance 49 = .ok (.iconst 0, 1) := by decide +kernel
theorem dX12_dance_50 : decode cX12_dance 50 = .ok (.bipush 20, 2) := by decide +kernel
theorem dX12_dance_52 : decode cX12_dance 52 = .ok (.invokevirtual 174, 3) := by decide +kernel
theorem dX12_dance_55 : decode cX12_dance 55 = .ok (.invokevirtual 177, 3) := by decide +kernel
theorem dX12_dance_58 : decode cX12_dance 58 = .ok (.aload_n 0, 1) := by decide +kernel
theorem dX12_dance_59 : decode cX12_dance 59 = .ok (.iconst 1, 1) := by decide +kernel
theorem dX12_dance_60 : decode cX12_dance 60 = .ok (.aload_n 0, 1) := by decide +kernel
theorem dX12_dance_61 : decode cX12_dance 61 = .ok (.ldc2_w 234, 3) := by decide +kernel
theorem dX12_dance_64 : decode cX12_dance 64 = .ok (.iconst 0, 1) := by decide +kernel
theorem dX12_dance_65 : decode cX12_dance 65 = .ok (.bipush 100, 2) := by decide +kernel
theorem dX12_dance_67 : decode cX12_dance 67 = .ok (.invokevirtual 174, 3) := by decide +kernel
theorem dX12_dance_70 : decode cX12_dance 70 = .ok (.invokevirtual 177, 3) := by decide +kernel
theorem dX12_dance_73 : decode cX12_dance 73 = .ok (.aload_n 0, 1) := by decide +kernel
theorem dX12_dance_74 : decode cX12_dance 74 = .ok (.iconst 2, 1) := by decide +kernel
theorem dX12_dance_75 : decode cX12_dance 75 = .ok (.aload_n 0, 1) := by decide +kernel
theorem dX12_dance_76 : decode cX12_dance 76 = .ok (.ldc2_w 236, 3) := by decide +kernel
theorem dX12_dance_79 : decode cX12_dance 79 = .ok (.iconst 0, 1) := by decide +kernel
theorem dX12_dance_80 : decode cX12_dance 80 = .ok (.bipush 100, 2) := by decide +kernel
theorem dX12_dance_82 : decode cX12_dance 82 = .ok (.invokevirtual 174, 3) := by decide +kernel
theorem dX12_dance_85 : decode cX12_dance 85 = .ok (.invokevirtual 177, 3) := by decide +kernel
theorem dX12_dance_88 : decode cX12_dance 88 = .ok (.goto 7, 3) := by decide +kernel
theorem dX12_dance_91 : decode cX12_dance 91 = .ok (.aload_n 0, 1) := by decide +kernel
theorem dX12_dance_92 : decode cX12_dance 92 = .ok (.invokevirtual 238, 3) := by decide +kernel
theorem dX12_dance_95 : decode cX12_dance 95 = .ok (.aload_n 0, 1) := by decide +kernel
theorem dX12_dance_96 : decode cX12_dance 96 = .ok (.invokevirtual 168, 3) := by decide +kernel
theorem dX12_dance_99 : decode cX12_dance 99 = .ok (.ifCond .eq 7, 3) := by decide +kernel
theorem dX12_dance_102 : decode cX12_dance 102 = .ok (.aload_n 0, 1) := by decide +kernel
theorem dX12_dance_103 : decode cX12_dance 103 = .ok (.invokevirtual 241, 3) := by decide +kernel
theorem dX12_dance_106 : decode cX12_dance 106 = .ok (.aload_n 0, 1) := by decide +kernel
theorem dX12_dance_107 : decode cX12_dance 107 = .ok (.getfield 31, 3) := by decide +kernel
theorem dX12_dance_110 : decode cX12_dance 110 = .ok (.iconst 4, 1) := by decide +kernel
theorem dX12_dance_111 : decode cX12_dance 111 = .ok (.dup2, 1) := by decide +kernel
theorem dX12_dance_112 : decode cX12_dance 112 = .ok (.iaload, 1) := by decide +kernel
theorem dX12_dance_113 : decode cX12_dance 113 = .ok (.iconst 1, 1) := by decide +kernel
theorem dX12_dance_114 : decode cX12_dance 114 = .ok (.iadd, 1) := by decide +kernel
theorem dX12_dance_115 : decode cX12_dance 115 = .ok (.iastore, 1) := by decide +kernel
theorem dX12_dance_116 : decode cX12_dance 116 = .ok (.goto (-103), 3) := by decide +kernel
theorem dX12_dance_119 : decode cX12_dance 119 = .ok (.aload_n 0, 1) := by decide +kernel
theorem dX12_dance_120 : decode cX12_dance 120 = .ok (.invokevirtual 244, 3) := by decide +kernel
theorem dX12_dance_123 : decode cX12_dance 123 = .ok (.aload_n 0, 1) := by decide +kernel
theorem dX12_dance_124 : decode cX12_dance 124 = .ok (.getfield 132, 3) := by decide +kernel
theorem dX12_dance_127 : decode cX12_dance 127 = .ok (.ifCond .eq 6, 3) := by decide +kernel
theorem dX12_dance_130 : decode cX12_dance 130 = .ok (.bipush (-4), 2) := by decide +kernel
theorem dX12_dance_132 : decode cX12_dance 132 = .ok (.ireturn, 1) := by decide +kernel
theorem dX12_dance_133 : decode cX12_dance 133 = .ok (.aload_n 0, 1) := by decide +kernel
theorem dX12_dance_134 : decode cX12_dance 134 = .ok (.iconst 4, 1) := by decide +kernel
theorem dX12_dance_135 : decode cX12_dance 135 = .ok (.iconst 0, 1) := by decide +kernel
theorem dX12_dance_136 : decode cX12_dance 136 = .ok (.invokevirtual 247, 3) := by decide +kernel
theorem dX12_dance_139 : decode cX12_dance 139 = .ok (.aload_n 0, 1) := by decide +kernel
theorem dX12_dance_140 : decode cX12_dance 140 = .ok (.getfield 31, 3) := by decide +kernel
theorem dX12_dance_143 : decode cX12_dance 143 = .ok (.iconst 0, 1) := by decide +kernel
theorem dX12_dance_144 : decode cX12_dance 144 = .ok (.iaload, 1) := by decide +kernel
theorem dX12_dance_145 : decode cX12_dance 145 = .ok (.ireturn, 1) := by decide +kernel
theorem dX12_changes_0 : decode cX12_changes 0 = .ok (.iconst 4, 1) := by decide +kernel
theorem dX12_changes_1 : decode cX12_changes 1 = .ok (.aload_n 0, 1) := by decide +kernel
theorem dX12_changes_2 : decode cX12_changes 2 = .ok (.getfield 34, 3) := by decide +kernel
theorem dX12_changes_5 : decode cX12_changes 5 = .ok (.bipush 10, 2) := by decide +kernel
theorem dX12_changes_7 : decode cX12_changes 7 = .ok (.iaload, 1) := by decide +kernel
theorem dX12_changes_8 : decode cX12_changes 8 = .ok (.imul, 1) := by decide +kernel
theorem dX12_changes_9 : decode cX12_changes 9 = .ok (.istore 5, 2) := by decide +kernel
theorem dX12_changes_11 : decode cX12_changes 11 = .ok (.aload_n 0, 1) := by decide +kernel
theorem dX12_changes_12 : decode cX12_changes 12 = .ok (.getfield 56, 3) := by decide +kernel
theorem dX12_changes_15 : decode cX12_changes 15 = .ok (.iload 5, 2) := by decide +kernel
theorem dX12_changes_17 : decode cX12_changes 17 = .ok (.iload_n 1, 1) := by decide +kernel
theorem dX12_changes_18 : decode cX12_changes 18 = .ok (.iastore, 1) := by decide +kernel
theorem dX12_changes_19 : decode cX12_changes 19 = .ok (.aload_n 0, 1) := by decide +kernel
theorem dX12_changes_20 : decode cX12_changes 20 = .ok (.getfield 56, 3) := by decide +kernel
theorem dX12_changes_23 : decode cX12_changes 23 = .ok (.iload 5, 2) := by decide +kernel
theorem dX12_changes_25 : decode cX12_changes 25 = .ok (.iconst 1, 1) := by decide +kernel
theorem dX12_changes_26 : decode cX12_changes 26 = .ok (.iadd, 1) := by decide +kernel
theorem dX12_changes_27 : decode cX12_changes 27 = .ok (.iload_n 2, 1) := by decide +kernel
theorem dX12_changes_28 : decode cX12_changes 28 = .ok (.iastore, 1) := by decide +kernel
theorem dX12_changes_29 : decode cX12_changes 29 = .ok (.aload_n 0, 1) := by decide +kernel
theorem dX12_changes_30 : decode cX12_changes 30 = .ok (.getfield 56, 3) := by decide +kernel
theorem dX12_changes_33 : decode cX12_changes 33 = .ok (.iload 5, 2) := by decide +kernel
theorem dX12_changes_35 : decode cX12_changes 35 = .ok (.iconst 2, 1) := by decide +kernel
theorem dX12_changes_36 : decode cX12_changes 36 = .ok (.iadd, 1) := by decide +kernel
theorem dX12_changes_37 : decode cX12_changes 37 = .ok (.iload_n 3, 1) := by decide +kernel
theorem dX12_changes_38 : decode cX12_changes 38 = .ok (.iastore, 1) := by decide +kernel
theorem dX12_changes_39 : decode cX12_changes 39 = .ok (.aload_n 0, 1) := by decide +kernel
theorem dX12_changes_40 : decode cX12_changes 40 = .ok (.getfield 56, 3) := by decide +kernel
theorem dX12_changes_43 : decode cX12_changes 43 = .ok (.iload 5, 2) := by decide +kernel
theorem dX12_changes_45 : decode cX12_changes 45 = .ok (.iconst 3, 1) := by decide +kernel
theorem dX12_changes_46 : decode cX12_changes 46 = .ok (.iadd, 1) := by decide +kernel
theorem dX12_changes_47 : decode cX12_changes 47 = .ok (.iload 4, 2) := by decide +kernel
theorem dX12_changes_49 : decode cX12_changes 49 = .ok (.iastore, 1) := by decide +kernel
theorem dX12_changes_50 : decode cX12_changes 50 = .ok (.aload_n 0, 1) := by decide +kernel
theorem dX12_changes_51 : decode cX12_changes 51 = .ok (.getfield 34, 3) := by decide +kernel
theorem dX12_changes_54 : decode cX12_changes 54 = .ok (.bipush 10, 2) := by decide +kernel
theorem dX12_changes_56 : decode cX12_changes 56 = .ok (.dup2, 1) := by decide +kernel
theorem dX12_changes_57 : decode cX12_changes 57 = .ok (.iaload, 1) := by decide +kernel
theorem dX12_changes_58 : decode cX12_changes 58 = .ok (.iconst 1, 1) := by decide +kernel
theorem dX12_changes_59 : decode cX12_changes 59 = .ok (.iadd, 1) := by decide +kernel
theorem dX12_changes_60 : decode cX12_changes 60 = .ok (.iastore, 1) := by decide +kernel
theorem dX12_changes_61 : decode cX12_changes 61 = .ok (.return_, 1) := by decide +kernel
theorem wrr_wsX12_stumble {i : Nat} {w : Cond} (h : wsX12_stumble[i]? = some w) : w ∈ wsX12_stumble := List.mem_of_getElem? h
theorem wrr_wsX12_stumble_wsX12_stumble_r1 {i : Nat} {w : Cond} (h : wsX12_stumble_r1[i]? = some w) : w ∈ wsX12_stumble := (List.mem_cons_of_mem _ (List.mem_append_left _ (List.mem_append_left _ (List.mem_of_getElem? h))))
theorem wrr_wsX12_stumble_wsX12_stumble_r2 {i : Nat} {w : Cond} (h : wsX12_stumble_r2[i]? = some w) : w ∈ wsX12_stumble := (List.mem_cons_of_mem _ (List.mem_append_left _ (List.mem_append_right _ (List.mem_of_getElem? h))))
theorem wru_wsX12_stumble_wsX120 : ∀ w ∈ wsX120, w ∈ wsX12_stumble := fun w h => (List.mem_cons_of_mem _ (List.mem_append_right _ h))
set_option maxRecDepth 20000 in
theorem ggX12_stumble_X12_isSide : GoodIn wsX12_stumble wsX12_isSide := goodIn_sub (List.forall_mem_cons.mpr ⟨wrr_wsX12_stumble_wsX12_stumble_r1 (i := 8) rfl, (List.forall_mem_append.mpr ⟨(List.forall_mem_cons.mpr ⟨wrr_wsX12_stumble_wsX12_stumble_r1 (i := 9) rfl, (List.forall_mem_cons.mpr ⟨wrr_wsX12_stumble_wsX12_stumble_r1 (i := 10) rfl, (List.forall_mem_cons.mpr ⟨wrr_wsX12_stumble_wsX12_stumble_r1 (i := 11) rfl, (List.forall_mem_cons.mpr ⟨wrr_wsX12_stumble_wsX12_stumble_r1 (i := 7) rfl, (List.forall_mem_cons.mpr ⟨wrr_wsX12_stumble_wsX12_stumble_r1 (i := 12) rfl, (List.forall_mem_cons.mpr ⟨wrr_wsX12_stumble_wsX12_stumble_r1 (i := 13) rfl, (List.forall_mem_cons.mpr ⟨wrr_wsX12_stumble_wsX12_stumble_r1 (i := 14) rfl, (List.forall_mem_cons.mpr ⟨wrr_wsX12_stumble_wsX12_stumble_r1 (i := 15) rfl, (List.forall_mem_cons.mpr ⟨wrr_wsX12_stumble_wsX12_stumble_r1 (i := 16) rfl, (fun _ h => absurd h List.not_mem_nil)⟩)⟩)⟩)⟩)⟩)⟩)⟩)⟩)⟩), wru_wsX12_stumble_wsX120⟩)⟩) gw_wsX12_isSide
set_option maxRecDepth 20000 in
theorem gX12_stumble_X12_isSide : GoodIn wsX12_stumble (wsV RX12 261 RX12 yX12_isSide wsX12_isSide) := goodIn_app (goodIn_sub (List.forall_mem_cons.mpr ⟨wrr_wsX12_stumble_wsX12_stumble_r1 (i := 4) rfl, (List.forall_mem_cons.mpr ⟨wrr_wsX12_stumble_wsX12_stumble_r1 (i := 5) rfl, (List.forall_mem_cons.mpr ⟨wrr_wsX12_stumble_wsX12_stumble_r1 (i := 6) rfl, (List.forall_mem_cons.mpr ⟨wrr_wsX12_stumble_wsX12_stumble_r1 (i := 7) rfl, (fun _ h => absurd h List.not_mem_nil)⟩)⟩)⟩)⟩) (by decide +kernel)) ggX12_stumble_X12_isSide
set_option maxRecDepth 20000 in
theorem ggX12_stumble_X12_isBeat : GoodIn wsX12_stumble wsX12_isBeat := goodIn_sub (List.forall_mem_cons.mpr ⟨wrr_wsX12_stumble_wsX12_stumble_r1 (i := 19) rfl, (List.forall_mem_cons.mpr ⟨wrr_wsX12_stumble_wsX12_stumble_r1 (i := 20) rfl, (List.forall_mem_cons.mpr ⟨wrr_wsX12_stumble_wsX12_stumble_r1 (i := 14) rfl, (List.forall_mem_cons.mpr ⟨wrr_wsX12_stumble_wsX12_stumble_r1 (i := 15) rfl, (List.forall_mem_cons.mpr ⟨wrr_wsX12_stumble_wsX12_stumble_r1 (i := 7) rfl, (List.forall_mem_cons.mpr ⟨wrr_wsX12_stumble_wsX12_stumble_r1 (i := 16) rfl, (fun _ h => absurd h List.not_mem_nil)⟩)⟩)⟩)⟩)⟩)⟩) gw_wsX12_isBeat
set_option maxRecDepth 20000 in
theorem gX12_stumble_X12_isBeat : GoodIn wsX12_stumble (va_wsS RX12 270 yX12_isBeat wsX12_isBeat) := goodIn_app (goodIn_sub (List.forall_mem_cons.mpr ⟨wrr_wsX12_stumble_wsX12_stumble_r1 (i := 17) rfl, (List.forall_mem_cons.mpr ⟨wrr_wsX12_stumble_wsX12_stumble_r1 (i := 18) rfl, (List.forall_mem_cons.mpr ⟨wrr_wsX12_stumble_wsX12_stumble_r1 (i := 7) rfl, (fun _ h => absurd h List.not_mem_nil)⟩)⟩)⟩) (by decide +kernel)) ggX12_stumble_X12_isBeat
set_option maxRecDepth 20000 in
theorem ggX12_stumble_X12_isStep : GoodIn wsX12_stumble wsX12_isStep := goodIn_sub (List.forall_mem_cons.mpr ⟨wrr_wsX12_stumble_wsX12_stumble_r1 (i := 23) rfl, (List.forall_mem_cons.mpr ⟨wrr_wsX12_stumble_wsX12_stumble_r2 (i := 0) rfl, (List.forall_mem_cons.mpr ⟨wrr_wsX12_stumble_wsX12_stumble_r1 (i := 14) rfl, (List.forall_mem_cons.mpr ⟨wrr_wsX12_stumble_wsX12_stumble_r1 (i := 15) rfl, (List.forall_mem_cons.mpr ⟨wrr_wsX12_stumble_wsX12_stumble_r1 (i := 7) rfl, (List.forall_mem_cons.mpr ⟨wrr_wsX12_stumble_wsX12_stumble_r1 (i := 16) rfl, (fun _ h => absurd h List.not_mem_nil)⟩)⟩)⟩)⟩)⟩)⟩) gw_wsX12_isStep
set_option maxRecDepth 20000 in
theorem gX12_stumble_X12_isStep : GoodIn wsX12_stumble (va_wsS RX12 267 yX12_isStep wsX12_isStep) := goodIn_app (goodIn_sub (List.forall_mem_cons.mpr ⟨wrr_wsX12_stumble_wsX12_stumble_r1 (i := 21) rfl, (List.forall_mem_cons.mpr ⟨wrr_wsX12_stumble_wsX12_stumble_r1 (i := 22) rfl, (List.forall_mem_cons.mpr ⟨wrr_wsX12_stumble_wsX12_stumble_r1 (i := 7) rfl, (fun _ h => absurd h List.not_mem_nil)⟩)⟩)⟩) (by decide +kernel)) ggX12_stumble_X12_isStep
set_option maxRecDepth 20000 in
theorem ggX12_stumble_X12_in : GoodIn wsX12_stumble wsX12_in := goodIn_sub (List.forall_mem_cons.mpr ⟨wrr_wsX12_stumble_wsX12_stumble_r1 (i := 16) rfl, (fun _ h => absurd h List.not_mem_nil)⟩) gw_wsX12_in
set_option maxRecDepth 20000 in
theorem gX12_stumble_X12_in : GoodIn wsX12_stumble (va_wsS RX12 85 yX12_in wsX12_in) := goodIn_app (goodIn_sub (List.forall_mem_cons.mpr ⟨wrr_wsX12_stumble_wsX12_stumble_r1 (i := 14) rfl, (List.forall_mem_cons.mpr ⟨wrr_wsX12_stumble_wsX12_stumble_r1 (i := 15) rfl, (List.forall_mem_cons.mpr ⟨wrr_wsX12_stumble_wsX12_stumble_r1 (i := 7) rfl, (fun _ h => absurd h List.not_mem_nil)⟩)⟩)⟩) (by decide +kernel)) ggX12_stumble_X12_in
set_option maxRecDepth 20000 in
theorem ggX12_stumble_X12_isStumbled : GoodIn wsX12_stumble wsX12_isStumbled := goodIn_sub (List.forall_mem_cons.mpr ⟨wrr_wsX12_stumble_wsX12_stumble_r2 (i := 4) rfl, (List.forall_mem_append.mpr ⟨(List.forall_mem_cons.mpr ⟨wrr_wsX12_stumble_wsX12_stumble_r1 (i := 2) rfl, (List.forall_mem_cons.mpr ⟨wrr_wsX12_stumble_wsX12_stumble_r1 (i := 3) rfl, (fun _ h => absurd h List.not_mem_nil)⟩)⟩), wru_wsX12_stumble_wsX120⟩)⟩) gw_wsX12_isStumbled
set_option maxRecDepth 20000 in
theorem gX12_stumble_X12_isStumbled : GoodIn wsX12_stumble (wsV RX12 187 RX12 yX12_isStumbled wsX12_isStumbled) := goodIn_app (goodIn_sub (List.forall_mem_cons.mpr ⟨wrr_wsX12_stumble_wsX12_stumble_r2 (i := 1) rfl, (List.forall_mem_cons.mpr ⟨wrr_wsX12_stumble_wsX12_stumble_r2 (i := 2) rfl, (List.forall_mem_cons.mpr ⟨wrr_wsX12_stumble_wsX12_stumble_r2 (i := 3) rfl, (List.forall_mem_cons.mpr ⟨wrr_wsX12_stumble_wsX12_stumble_r1 (i := 7) rfl, (fun _ h => absurd h List.not_mem_nil)⟩)⟩)⟩)⟩) (by decide +kernel)) ggX12_stumble_X12_isStumbled
set_option maxRecDepth 20000 in
theorem gw_wsX12_changes : wsX12_changes.all goodWord = true := by decide +kernel
set_option maxRecDepth 20000 in
theorem ggX12_stumble_X12_changes : GoodIn wsX12_stumble wsX12_changes := goodIn_sub (List.forall_mem_cons.mpr ⟨wrr_wsX12_stumble_wsX12_stumble_r2 (i := 8) rfl, (List.forall_mem_append.mpr ⟨(List.forall_mem_cons.mpr ⟨wrr_wsX12_stumble_wsX12_stumble_r1 (i := 2) rfl, (List.forall_mem_cons.mpr ⟨wrr_wsX12_stumble_wsX12_stumble_r2 (i := 9) rfl, (fun _ h => absurd h List.not_mem_nil)⟩)⟩), wru_wsX12_stumble_wsX120⟩)⟩) gw_wsX12_changes
set_option maxRecDepth 20000 in
theorem gX12_stumble_X12_changes : GoodIn wsX12_stumble (wsV RX12 473 RX12 yX12_changes wsX12_changes) := goodIn_app (goodIn_sub (List.forall_mem_cons.mpr ⟨wrr_wsX12_stumble_wsX12_stumble_r2 (i := 5) rfl, (List.forall_mem_cons.mpr ⟨wrr_wsX12_stumble_wsX12_stumble_r2 (i := 6) rfl, (List.forall_mem_cons.mpr ⟨wrr_wsX12_stumble_wsX12_stumble_r2 (i := 7) rfl, (List.forall_mem_cons.mpr ⟨wrr_wsX12_stumble_wsX12_stumble_r1 (i := 7) rfl, (fun _ h => absurd h List.not_mem_nil)⟩)⟩)⟩)⟩) (by decide +kernel)) ggX12_stumble_X12_changes
theorem dX12_stumble_0 : decode cX12_stumble 0 = .ok (.aload_n 0, 1) := by decide +kernel
theorem dX12_stumble_1 : decode cX12_stumble 1 = .ok (.iconst 0, 1) := by decide +kernel
theorem dX12_stumble_2 : decode cX12_stumble 2 = .ok (.putfield 80, 3) := by decide +kernel
theorem dX12_stumble_5 : decode cX12_stumble 5 = .ok (.aload_n 0, 1) := by decide +kernel
theorem dX12_stumble_6 : decode cX12_stumble 6 = .ok (.iload_n 1, 1) := by decide +kernel
theorem dX12_stumble_7 : decode cX12_stumble 7 = .ok (.invokevirtual 261, 3) := by decide +kernel
theorem dX12_stumble_10 : decode cX12_stumble 10 = .ok (.ifCond .eq 32, 3) := by decide +kernel
theorem dX12_stumble_13 : decode cX12_stumble 13 = .ok (.iload_n 2, 1) := by decide +kernel
theorem dX12_stumble_14 : decode cX12_stumble 14 = .ok (.i2l, 1) := by decide +kernel
theorem dX12_stumble_15 : decode cX12_stumble 15 = .ok (.invokestatic 270, 3) := by decide +kernel
theorem dX12_stumble_18 : decode cX12_stumble 18 = .ok (.ifCond .eq 24, 3) := by decide +kernel
theorem dX12_stumble_21 : decode cX12_stumble 21 = .ok (.iload_n 3, 1) := by decide +kernel
theorem dX12_stumble_22 : decode cX12_stumble 22 = .ok (.i2l, 1) := by decide +kernel
theorem dX12_stumble_23 : decode cX12_stumble 23 = .ok (.invokestatic 267, 3) := by decide +kernel
theorem dX12_stumble_26 : decode cX12_stumble 26 = .ok (.ifCond .eq 16, 3) := by decide +kernel
theorem dX12_stumble_29 : decode cX12_stumble 29 = .ok (.iload 4, 2) := by decide +kernel
theorem dX12_stumble_31 : decode cX12_stumble 31 = .ok (.i2l, 1) := by decide +kernel
theorem dX12_stumble_32 : decode cX12_stumble 32 = .ok (.lconst 0, 1) := by decide +kernel
theorem dX12_stumble_33 : decode cX12_stumble 33 = .ok (.ldc2_w 419, 3) := by decide +kernel
theorem dX12_stumble_36 : decode cX12_stumble 36 = .ok (.invokestatic 85, 3) := by decide +kernel
theorem dX12_stumble_39 : decode cX12_stumble 39 = .ok (.ifCond .ne 6, 3) := by decide +kernel
theorem dX12_stumble_42 : decode cX12_stumble 42 = .ok (.bipush (-2), 2) := by decide +kernel
theorem dX12_stumble_44 : decode cX12_stumble 44 = .ok (.ireturn, 1) := by decide +kernel
theorem dX12_stumble_45 : decode cX12_stumble 45 = .ok (.aload_n 0, 1) := by decide +kernel
theorem dX12_stumble_46 : decode cX12_stumble 46 = .ok (.getfield 34, 3) := by decide +kernel
theorem dX12_stumble_49 : decode cX12_stumble 49 = .ok (.bipush 7, 2) := by decide +kernel
theorem dX12_stumble_51 : decode cX12_stumble 51 = .ok (.iaload, 1) := by decide +kernel
theorem dX12_stumble_52 : decode cX12_stumble 52 = .ok (.bipush 8, 2) := by decide +kernel
theorem dX12_stumble_54 : decode cX12_stumble 54 = .ok (.if_icmp .eq 25, 3) := by decide +kernel
theorem dX12_stumble_57 : decode cX12_stumble 57 = .ok (.aload_n 0, 1) := by decide +kernel
theorem dX12_stumble_58 : decode cX12_stumble 58 = .ok (.iconst 0, 1) := by decide +kernel
theorem dX12_stumble_59 : decode cX12_stumble 59 = .ok (.iload_n 1, 1) := by decide +kernel
theorem dX12_stumble_60 : decode cX12_stumble 60 = .ok (.iload_n 2, 1) := by decide +kernel
theorem dX12_stumble_61 : decode cX12_stumble 61 = .ok (.invokevirtual 187, 3) := by decide +kernel
theorem dX12_stumble_64 : decode cX12_stumble 64 = .ok (.ifCond .ne 15, 3) := by decide +kernel
theorem dX12_stumble_67 : decode cX12_stumble 67 = .ok (.aload_n 0, 1) := by decide +kernel
theorem dX12_stumble_68 : decode cX12_stumble 68 = .ok (.getfield 34, 3) := by decide +kernel
theorem dX12_stumble_71 : decode cX12_stumble 71 = .ok (.bipush 10, 2) := by decide +kernel
theorem dX12_stumble_73 : decode cX12_stumble 73 = .ok (.iaload, 1) := by decide +kernel
theorem dX12_stumble_74 : decode cX12_stumble 74 = .ok (.bipush 40, 2) := by decide +kernel
theorem dX12_stumble_76 : decode cX12_stumble 76 = .ok (.if_icmp .ne 6, 3) := by decide +kernel
theorem dX12_stumble_79 : decode cX12_stumble 79 = .ok (.bipush (-5), 2) := by decide +kernel
theorem dX12_stumble_81 : decode cX12_stumble 81 = .ok (.ireturn, 1) := by decide +kernel
theorem dX12_stumble_82 : decode cX12_stumble 82 = .ok (.iconst 4, 1) := by decide +kernel
theorem dX12_stumble_83 : decode cX12_stumble 83 = .ok (.aload_n 0, 1) := by decide +kernel
theorem dX12_stumble_84 : decode cX12_stumble 84 = .ok (.getfield 34, 3) := by decide +kernel
theorem dX12_stumble_87 : decode cX12_stumble 87 = .ok (.bipush 7, 2) := by decide +kernel
theorem dX12_stumble_89 : decode cX12_stumble 89 = .ok (.iaload, 1) := by decide +kernel
theorem dX12_stumble_90 : decode cX12_stumble 90 = .ok (.imul, 1) := by decide +kernel
theorem dX12_stumble_91 : decode cX12_stumble 91 = .ok (.istore 5, 2) := by decide +kernel
theorem dX12_stumble_93 : decode cX12_stumble 93 = .ok (.aload_n 0, 1) := by decide +kernel
theorem dX12_stumble_94 : decode cX12_stumble 94 = .ok (.getfield 43, 3) := by decide +kernel
theorem dX12_stumble_97 : decode cX12_stumble 97 = .ok (.iload 5, 2) := by decide +kernel
theorem dX12_stumble_99 : decode cX12_stumble 99 = .ok (.iload_n 1, 1) := by decide +kernel
theorem dX12_stumble_100 : decode cX12_stumble 100 = .ok (.iastore, 1) := by decide +kernel
theorem dX12_stumble_101 : decode cX12_stumble 101 = .ok (.aload_n 0, 1) := by decide +kernel
theorem dX12_stumble_102 : decode cX12_stumble 102 = .ok (.getfield 43, 3) := by decide +kernel
theorem dX12_stumble_105 : decode cX12_stumble 105 = .ok (.iload 5, 2) := by decide +kernel
theorem dX12_stumble_107 : decode cX12_stumble 107 = .ok (.iconst 1, 1) := by decide +kernel
theorem dX12_stumble_108 : decode cX12_stumble 108 = .ok (.iadd, 1) := by decide +kernel
theorem dX12_stumble_109 : decode cX12_stumble 109 = .ok (.iload_n 2, 1) := by decide +kernel
theorem dX12_stumble_110 : decode cX12_stumble 110 = .ok (.iastore, 1) := by decide +kernel
theorem dX12_stumble_111 : decode cX12_stumble 111 = .ok (.aload_n 0, 1) := by decide +kernel
theorem dX12_stumble_112 : decode cX12_stumble 112 = .ok (.getfield 43, 3) := by decide +kernel
theorem dX12_stumble_115 : decode cX12_stumble 115 = .ok (.iload 5, 2) := by decide +kernel
theorem dX12_stumble_117 : decode cX12_stumble 117 = .ok (.iconst 2, 1) := by decide +kernel
theorem dX12_stumble_118 : decode cX12_stumble 118 = .ok (.iadd, 1) := by decide +kernel
theorem dX12_stumble_119 : decode cX12_stumble 119 = .ok (.iload_n 3, 1) := by decide +kernel
theorem dX12_stumble_120 : decode cX12_stumble 120 = .ok (.iastore, 1) := by decide +kernel
theorem dX12_stumble_121 : decode cX12_stumble 121 = .ok (.aload_n 0, 1) := by decide +kernel
theorem dX12_stumble_122 : decode cX12_stumble 122 = .ok (.getfield 43, 3) := by decide +kernel
theorem dX12_stumble_125 : decode cX12_stumble 125 = .ok (.iload 5, 2) := by decide +kernel
theorem dX12_stumble_127 : decode cX12_stumble 127 = .ok (.iconst 3, 1) := by decide +kernel
theorem dX12_stumble_128 : decode cX12_stumble 128 = .ok (.iadd, 1) := by decide +kernel
theorem dX12_stumble_129 : decode cX12_stumble 129 = .ok (.iload 4, 2) := by decide +kernel
theorem dX12_stumble_131 : decode cX12_stumble 131 = .ok (.iastore, 1) := by decide +kernel
theorem dX12_stumble_132 : decode cX12_stumble 132 = .ok (.aload_n 0, 1) := by decide +kernel
theorem dX12_stumble_133 : decode cX12_stumble 133 = .ok (.iconst 0, 1) := by decide +kernel
theorem dX12_stumble_134 : decode cX12_stumble 134 = .ok (.iconst 0, 1) := by decide +kernel
theorem dX12_stumble_135 : decode cX12_stumble 135 = .ok (.iconst 0, 1) := by decide +kernel
theorem dX12_stumble_136 : decode cX12_stumble 136 = .ok (.iconst 0, 1) := by decide +kernel
theorem dX12_stumble_137 : decode cX12_stumble 137 = .ok (.invokevirtual 473, 3) := by decide +kernel
theorem dX12_stumble_140 : decode cX12_stumble 140 = .ok (.aload_n 0, 1) := by decide +kernel
theorem dX12_stumble_141 : decode cX12_stumble 141 = .ok (.getfield 34, 3) := by decide +kernel
theorem dX12_stumble_144 : decode cX12_stumble 144 = .ok (.bipush 7, 2) := by decide +kernel
theorem dX12_stumble_146 : decode cX12_stumble 146 = .ok (.dup2, 1) := by decide +kernel
theorem dX12_stumble_147 : decode cX12_stumble 147 = .ok (.iaload, 1) := by decide +kernel
theorem dX12_stumble_148 : decode cX12_stumble 148 = .ok (.iconst 1, 1) := by decide +kernel
theorem dX12_stumble_149 : decode cX12_stumble 149 = .ok (.iadd, 1) := by decide +kernel
theorem dX12_stumble_150 : decode cX12_stumble 150 = .ok (.iastore, 1) := by decide +kernel
theorem dX12_stumble_151 : decode cX12_stumble 151 = .ok (.aload_n 0, 1) := by decide +kernel
theorem dX12_stumble_152 : decode cX12_stumble 152 = .ok (.getfield 34, 3) := by decide +kernel
theorem dX12_stumble_155 : decode cX12_stumble 155 = .ok (.bipush 7, 2) := by decide +kernel
theorem dX12_stumble_157 : decode cX12_stumble 157 = .ok (.iaload, 1) := by decide +kernel
theorem dX12_stumble_158 : decode cX12_stumble 158 = .ok (.iconst 1, 1) := by decide +kernel
theorem dX12_stumble_159 : decode cX12_stumble 159 = .ok (.isub, 1) := by decide +kernel
theorem dX12_stumble_160 : decode cX12_stumble 160 = .ok (.ireturn, 1) := by decide +kernel
theorem wrr_wsX12_mud {i : Nat} {w : Cond} (h : wsX12_mud[i]? = some w) : w ∈ wsX12_mud := List.mem_of_getElem? h
theorem wru_wsX12_mud_wsX120 : ∀ w ∈ wsX120, w ∈ wsX12_mud := fun w h => (List.mem_cons_of_mem _ (List.mem_append_right _ h))
set_option maxRecDepth 20000 in
theorem ggX12_mud_X12_isDance : GoodIn wsX12_mud wsX12_isDance := goodIn_sub (List.forall_mem_cons.mpr ⟨wrr_wsX12_mud (i := 8) rfl, (List.forall_mem_append.mpr ⟨(List.forall_mem_cons.mpr ⟨wrr_wsX12_mud (i := 9) rfl, (fun _ h => absurd h List.not_mem_nil)⟩), wru_wsX12_mud_wsX120⟩)⟩) gw_wsX12_isDance
set_option maxRecDepth 20000 in
theorem gX12_mud_X12_isDance : GoodIn wsX12_mud (wsV RX12 254 RX12 yX12_isDance wsX12_isDance) := goodIn_app (goodIn_sub (List.forall_mem_cons.mpr ⟨wrr_wsX12_mud (i := 4) rfl, (List.forall_mem_cons.mpr ⟨wrr_wsX12_mud (i := 5) rfl, (List.forall_mem_cons.mpr ⟨wrr_wsX12_mud (i := 6) rfl, (List.forall_mem_cons.mpr ⟨wrr_wsX12_mud (i := 7) rfl, (fun _ h => absurd h List.not_mem_nil)⟩)⟩)⟩)⟩) (by decide +kernel)) ggX12_mud_X12_isDance
set_option maxRecDepth 20000 in
theorem ggX12_mud_X12_isBeat : GoodIn wsX12_mud wsX12_isBeat := goodIn_sub (List.forall_mem_cons.mpr ⟨wrr_wsX12_mud (i := 12) rfl, (List.forall_mem_cons.mpr ⟨wrr_wsX12_mud (i := 13) rfl, (List.forall_mem_cons.mpr ⟨wrr_wsX12_mud (i := 14) rfl, (List.forall_mem_cons.mpr ⟨wrr_wsX12_mud (i := 15) rfl, (List.forall_mem_cons.mpr ⟨wrr_wsX12_mud (i := 7) rfl, (List.forall_mem_cons.mpr ⟨wrr_wsX12_mud (i := 16) rfl, (fun _ h => absurd h List.not_mem_nil)⟩)⟩)⟩)⟩)⟩)⟩) gw_wsX12_isBeat
set_option maxRecDepth 20000 in
theorem gX12_mud_X12_isBeat : GoodIn wsX12_mud (va_wsS RX12 270 yX12_isBeat wsX12_isBeat) := goodIn_app (goodIn_sub (List.forall_mem_cons.mpr ⟨wrr_wsX12_mud (i := 10) rfl, (List.forall_mem_cons.mpr ⟨wrr_wsX12_mud (i := 11) rfl, (List.forall_mem_cons.mpr ⟨wrr_wsX12_mud (i := 7) rfl, (fun _ h => absurd h List.not_mem_nil)⟩)⟩)⟩) (by decide +kernel)) ggX12_mud_X12_isBeat
set_option maxRecDepth 20000 in
theorem ggX12_mud_X12_in : GoodIn wsX12_mud wsX12_in := goodIn_sub (List.forall_mem_cons.mpr ⟨wrr_wsX12_mud (i := 16) rfl, (fun _ h => absurd h List.not_mem_nil)⟩) gw_wsX12_in
set_option maxRecDepth 20000 in
theorem gX12_mud_X12_in : GoodIn wsX12_mud (va_wsS RX12 85 yX12_in wsX12_in) := goodIn_app (goodIn_sub (List.forall_mem_cons.mpr ⟨wrr_wsX12_mud (i := 14) rfl, (List.forall_mem_cons.mpr ⟨wrr_wsX12_mud (i := 15) rfl, (List.forall_mem_cons.mpr ⟨wrr_wsX12_mud (i := 7) rfl, (fun _ h => absurd h List.not_mem_nil)⟩)⟩)⟩) (by decide +kernel)) ggX12_mud_X12_in
set_option maxRecDepth 20000 in
theorem ggX12_mud_X12_changes : GoodIn wsX12_mud wsX12_changes := goodIn_sub (List.forall_mem_cons.mpr ⟨wrr_wsX12_mud (i := 20) rfl, (List.forall_mem_append.mpr ⟨(List.forall_mem_cons.mpr ⟨wrr_wsX12_mud (i := 2) rfl, (List.forall_mem_cons.mpr ⟨wrr_wsX12_mud (i := 21) rfl, (fun _ h => absurd h List.not_mem_nil)⟩)⟩), wru_wsX12_mud_wsX120⟩)⟩) gw_wsX12_changes
set_option maxRecDepth 20000 in
theorem gX12_mud_X12_changes : GoodIn wsX12_mud (wsV RX12 473 RX12 yX12_changes wsX12_changes) := goodIn_app (goodIn_sub (List.forall_mem_cons.mpr ⟨wrr_wsX12_mud (i := 17) rfl, (List.forall_mem_cons.mpr ⟨wrr_wsX12_mud (i := 18) rfl, (List.forall_mem_cons.mpr ⟨wrr_wsX12_mud (i := 19) rfl, (List.forall_mem_cons.mpr ⟨wrr_wsX12_mud (i := 7) rfl, (fun _ h => absurd h List.not_mem_nil)⟩)⟩)⟩)⟩) (by decide +kernel)) ggX12_mud_X12_changes
theorem dX12_mud_0 : decode cX12_mud 0 = .ok (.aload_n 0, 1) := by decide +kernel
theorem dX12_mud_1 : decode cX12_mud 1 = .ok (.iconst 0, 1) := by decide +kernel
theorem dX12_mud_2 : decode cX12_mud 2 = .ok (.putfield 80, 3) := by decide +kernel
theorem dX12_mud_5 : decode cX12_mud 5 = .ok (.aload_n 0, 1) := by decide +kernel
theorem dX12_mud_6 : decode cX12_mud 6 = .ok (.invokevirtual 254, 3) := by decide +kernel
theorem dX12_mud_9 : decode cX12_mud 9 = .ok (.ifCond .eq 21, 3) := by decide +kernel
theorem dX12_mud_12 : decode cX12_mud 12 = .ok (.iload_n 1, 1) := by decide +kernel
theorem dX12_mud_13 : decode cX12_mud 13 = .ok (.i2l, 1) := by decide +kernel
theorem dX12_mud_14 : decode cX12_mud 14 = .ok (.invokestatic 270, 3) := by decide +kernel
theorem dX12_mud_17 : decode cX12_mud 17 = .ok (.ifCond .eq 13, 3) := by decide +kernel
theorem dX12_mud_20 : decode cX12_mud 20 = .ok (.iload_n 2, 1) := by decide +kernel
theorem dX12_mud_21 : decode cX12_mud 21 = .ok (.i2l, 1) := by decide +kernel
theorem dX12_mud_22 : decode cX12_mud 22 = .ok (.lconst 0, 1) := by decide +kernel
theorem dX12_mud_23 : decode cX12_mud 23 = .ok (.lconst 1, 1) := by decide +kernel
theorem dX12_mud_24 : decode cX12_mud 24 = .ok (.invokestatic 85, 3) := by decide +kernel
theorem dX12_mud_27 : decode cX12_mud 27 = .ok (.ifCond .ne 6, 3) := by decide +kernel
theorem dX12_mud_30 : decode cX12_mud 30 = .ok (.bipush (-2), 2) := by decide +kernel
theorem dX12_mud_32 : decode cX12_mud 32 = .ok (.ireturn, 1) := by decide +kernel
theorem dX12_mud_33 : decode cX12_mud 33 = .ok (.aload_n 0, 1) := by decide +kernel
theorem dX12_mud_34 : decode cX12_mud 34 = .ok (.getfield 34, 3) := by decide +kernel
theorem dX12_mud_37 : decode cX12_mud 37 = .ok (.bipush 10, 2) := by decide +kernel
theorem dX12_mud_39 : decode cX12_mud 39 = .ok (.iaload, 1) := by decide +kernel
theorem dX12_mud_40 : decode cX12_mud 40 = .ok (.bipush 40, 2) := by decide +kernel
theorem dX12_mud_42 : decode cX12_mud 42 = .ok (.if_icmp .ne 6, 3) := by decide +kernel
theorem dX12_mud_45 : decode cX12_mud 45 = .ok (.bipush (-5), 2) := by decide +kernel
theorem dX12_mud_47 : decode cX12_mud 47 = .ok (.ireturn, 1) := by decide +kernel
theorem dX12_mud_48 : decode cX12_mud 48 = .ok (.aload_n 0, 1) := by decide +kernel
theorem dX12_mud_49 : decode cX12_mud 49 = .ok (.getfield 46, 3) := by decide +kernel
theorem dX12_mud_52 : decode cX12_mud 52 = .ok (.iload_n 1, 1) := by decide +kernel
theorem dX12_mud_53 : decode cX12_mud 53 = .ok (.baload, 1) := by decide +kernel
theorem dX12_mud_54 : decode cX12_mud 54 = .ok (.ifCond .eq 7, 3) := by decide +kernel
theorem dX12_mud_57 : decode cX12_mud 57 = .ok (.iconst 1, 1) := by decide +kernel
theorem dX12_mud_58 : decode cX12_mud 58 = .ok (.goto 4, 3) := by decide +kernel
theorem dX12_mud_61 : decode cX12_mud 61 = .ok (.iconst 0, 1) := by decide +kernel
theorem dX12_mud_62 : decode cX12_mud 62 = .ok (.istore_n 3, 1) := by decide +kernel
theorem dX12_mud_63 : decode cX12_mud 63 = .ok (.aload_n 0, 1) := by decide +kernel
theorem dX12_mud_64 : decode cX12_mud 64 = .ok (.iconst 1, 1) := by decide +kernel
theorem dX12_mud_65 : decode cX12_mud 65 = .ok (.iconst 0, 1) := by decide +kernel
theorem dX12_mud_66 : decode cX12_mud 66 = .ok (.iload_n 1, 1) := by decide +kernel
theorem dX12_mud_67 : decode cX12_mud 67 = .ok (.iload_n 3, 1) := by decide +kernel
theorem dX12_mud_68 : decode cX12_mud 68 = .ok (.invokevirtual 473, 3) := by decide +kernel
theorem dX12_mud_71 : decode cX12_mud 71 = .ok (.aload_n 0, 1) := by decide +kernel
theorem dX12_mud_72 : decode cX12_mud 72 = .ok (.getfield 46, 3) := by decide +kernel
theorem dX12_mud_75 : decode cX12_mud 75 = .ok (.iload_n 1, 1) := by decide +kernel
theorem dX12_mud_76 : decode cX12_mud 76 = .ok (.iload_n 2, 1) := by decide +kernel
theorem dX12_mud_77 : decode cX12_mud 77 = .ok (.iconst 1, 1) := by decide +kernel
theorem dX12_mud_78 : decode cX12_mud 78 = .ok (.if_icmp .ne 7, 3) := by decide +kernel
theorem dX12_mud_81 : decode cX12_mud 81 = .ok (.iconst 1, 1) := by decide +kernel
theorem dX12_mud_82 : decode cX12_mud 82 = .ok (.goto 4, 3) := by decide +kernel
theorem dX12_mud_85 : decode cX12_mud 85 = .ok (.iconst 0, 1) := by decide +kernel
theorem dX12_mud_86 : decode cX12_mud 86 = .ok (.bastore, 1) := by decide +kernel
theorem dX12_mud_87 : decode cX12_mud 87 = .ok (.iload_n 3, 1) := by decide +kernel
theorem dX12_mud_88 : decode cX12_mud 88 = .ok (.ireturn, 1) := by decide +kernel
theorem wrr_wsX12_teach {i : Nat} {w : Cond} (h : wsX12_teach[i]? = some w) : w ∈ wsX12_teach := List.mem_of_getElem? h
theorem wrr_wsX12_teach_wsX12_teach_r1 {i : Nat} {w : Cond} (h : wsX12_teach_r1[i]? = some w) : w ∈ wsX12_teach := (List.mem_cons_of_mem _ (List.mem_append_left _ (List.mem_append_left _ (List.mem_of_getElem? h))))
theorem wrr_wsX12_teach_wsX12_teach_r2 {i : Nat} {w : Cond} (h : wsX12_teach_r2[i]? = some w) : w ∈ wsX12_teach := (List.mem_cons_of_mem _ (List.mem_append_left _ (List.mem_append_right _ (List.mem_of_getElem? h))))
theorem wru_wsX12_teach_wsX120 : ∀ w ∈ wsX120, w ∈ wsX12_teach := fun w h => (List.mem_cons_of_mem _ (List.mem_append_right _ h))
set_option maxRecDepth 20000 in
theorem ggX12_teach_X12_isSide : GoodIn wsX12_teach wsX12_isSide := goodIn_sub (List.forall_mem_cons.mpr ⟨wrr_wsX12_teach_wsX12_teach_r1 (i := 7) rfl, (List.forall_mem_append.mpr ⟨(List.forall_mem_cons.mpr ⟨wrr_wsX12_teach_wsX12_teach_r1 (i := 8) rfl, (List.forall_mem_cons.mpr ⟨wrr_wsX12_teach_wsX12_teach_r1 (i := 9) rfl, (List.forall_mem_cons.mpr ⟨wrr_wsX12_teach_wsX12_teach_r1 (i := 10) rfl, (List.forall_mem_cons.mpr ⟨wrr_wsX12_teach_wsX12_teach_r1 (i := 6) rfl, (List.forall_mem_cons.mpr ⟨wrr_wsX12_teach_wsX12_teach_r1 (i := 11) rfl, (List.forall_mem_cons.mpr ⟨wrr_wsX12_teach_wsX12_teach_r1 (i := 12) rfl, (List.forall_mem_cons.mpr ⟨wrr_wsX12_teach_wsX12_teach_r1 (i := 13) rfl, (List.forall_mem_cons.mpr ⟨wrr_wsX12_teach_wsX12_teach_r1 (i := 14) rfl, (List.forall_mem_cons.mpr ⟨wrr_wsX12_teach_wsX12_teach_r1 (i := 15) rfl, (fun _ h => absurd h List.not_mem_nil)⟩)⟩)⟩)⟩)⟩)⟩)⟩)⟩)⟩), wru_wsX12_teach_wsX120⟩)⟩) gw_wsX12_isSide
set_option maxRecDepth 20000 in
theorem gX12_teach_X12_isSide : GoodIn wsX12_teach (wsV RX12 261 RX12 yX12_isSide wsX12_isSide) := goodIn_app (goodIn_sub (List.forall_mem_cons.mpr ⟨wrr_wsX12_teach_wsX12_teach_r1 (i := 3) rfl, (List.forall_mem_cons.mpr ⟨wrr_wsX12_teach_wsX12_teach_r1 (i := 4) rfl, (List.forall_mem_cons.mpr ⟨wrr_wsX12_teach_wsX12_teach_r1 (i := 5) rfl, (List.forall_mem_cons.mpr ⟨wrr_wsX12_teach_wsX12_teach_r1 (i := 6) rfl, (fun _ h => absurd h List.not_mem_nil)⟩)⟩)⟩)⟩) (by decide +kernel)) ggX12_teach_X12_isSide
set_option maxRecDepth 20000 in
theorem ggX12_teach_X12_lengthOf : GoodIn wsX12_teach wsX12_lengthOf := goodIn_sub (List.forall_mem_cons.mpr ⟨wrr_wsX12_teach_wsX12_teach_r1 (i := 19) rfl, (List.forall_mem_append.mpr ⟨(List.forall_mem_cons.mpr ⟨wrr_wsX12_teach_wsX12_teach_r1 (i := 1) rfl, (fun _ h => absurd h List.not_mem_nil)⟩), wru_wsX12_teach_wsX120⟩)⟩) gw_wsX12_lengthOf
set_option maxRecDepth 20000 in
theorem gX12_teach_X12_lengthOf : GoodIn wsX12_teach (wsV RX12 264 RX12 yX12_lengthOf wsX12_lengthOf) := goodIn_app (goodIn_sub (List.forall_mem_cons.mpr ⟨wrr_wsX12_teach_wsX12_teach_r1 (i := 16) rfl, (List.forall_mem_cons.mpr ⟨wrr_wsX12_teach_wsX12_teach_r1 (i := 17) rfl, (List.forall_mem_cons.mpr ⟨wrr_wsX12_teach_wsX12_teach_r1 (i := 18) rfl, (List.forall_mem_cons.mpr ⟨wrr_wsX12_teach_wsX12_teach_r1 (i := 6) rfl, (fun _ h => absurd h List.not_mem_nil)⟩)⟩)⟩)⟩) (by decide +kernel)) ggX12_teach_X12_lengthOf
set_option maxRecDepth 20000 in
theorem ggX12_teach_X12_in : GoodIn wsX12_teach wsX12_in := goodIn_sub (List.forall_mem_cons.mpr ⟨wrr_wsX12_teach_wsX12_teach_r1 (i := 15) rfl, (fun _ h => absurd h List.not_mem_nil)⟩) gw_wsX12_in
set_option maxRecDepth 20000 in
theorem gX12_teach_X12_in : GoodIn wsX12_teach (va_wsS RX12 85 yX12_in wsX12_in) := goodIn_app (goodIn_sub (List.forall_mem_cons.mpr ⟨wrr_wsX12_teach_wsX12_teach_r1 (i := 13) rfl, (List.forall_mem_cons.mpr ⟨wrr_wsX12_teach_wsX12_teach_r1 (i := 14) rfl, (List.forall_mem_cons.mpr ⟨wrr_wsX12_teach_wsX12_teach_r1 (i := 6) rfl, (fun _ h => absurd h List.not_mem_nil)⟩)⟩)⟩) (by decide +kernel)) ggX12_teach_X12_in
set_option maxRecDepth 20000 in
theorem ggX12_teach_X12_isStep : GoodIn wsX12_teach wsX12_isStep := goodIn_sub (List.forall_mem_cons.mpr ⟨wrr_wsX12_teach_wsX12_teach_r1 (i := 22) rfl, (List.forall_mem_cons.mpr ⟨wrr_wsX12_teach_wsX12_teach_r1 (i := 23) rfl, (List.forall_mem_cons.mpr ⟨wrr_wsX12_teach_wsX12_teach_r1 (i := 13) rfl, (List.forall_mem_cons.mpr ⟨wrr_wsX12_teach_wsX12_teach_r1 (i := 14) rfl, (List.forall_mem_cons.mpr ⟨wrr_wsX12_teach_wsX12_teach_r1 (i := 6) rfl, (List.forall_mem_cons.mpr ⟨wrr_wsX12_teach_wsX12_teach_r1 (i := 15) rfl, (fun _ h => absurd h List.not_mem_nil)⟩)⟩)⟩)⟩)⟩)⟩) gw_wsX12_isStep
set_option maxRecDepth 20000 in
theorem gX12_teach_X12_isStep : GoodIn wsX12_teach (va_wsS RX12 267 yX12_isStep wsX12_isStep) := goodIn_app (goodIn_sub (List.forall_mem_cons.mpr ⟨wrr_wsX12_teach_wsX12_teach_r1 (i := 20) rfl, (List.forall_mem_cons.mpr ⟨wrr_wsX12_teach_wsX12_teach_r1 (i := 21) rfl, (List.forall_mem_cons.mpr ⟨wrr_wsX12_teach_wsX12_teach_r1 (i := 6) rfl, (fun _ h => absurd h List.not_mem_nil)⟩)⟩)⟩) (by decide +kernel)) ggX12_teach_X12_isStep
set_option maxRecDepth 20000 in
theorem ggX12_teach_X12_changes : GoodIn wsX12_teach wsX12_changes := goodIn_sub (List.forall_mem_cons.mpr ⟨wrr_wsX12_teach_wsX12_teach_r2 (i := 3) rfl, (List.forall_mem_append.mpr ⟨(List.forall_mem_cons.mpr ⟨wrr_wsX12_teach_wsX12_teach_r1 (i := 1) rfl, (List.forall_mem_cons.mpr ⟨wrr_wsX12_teach_wsX12_teach_r2 (i := 4) rfl, (fun _ h => absurd h List.not_mem_nil)⟩)⟩), wru_wsX12_teach_wsX120⟩)⟩) gw_wsX12_changes
set_option maxRecDepth 20000 in
theorem gX12_teach_X12_changes : GoodIn wsX12_teach (wsV RX12 473 RX12 yX12_changes wsX12_changes) := goodIn_app (goodIn_sub (List.forall_mem_cons.mpr ⟨wrr_wsX12_teach_wsX12_teach_r2 (i := 0) rfl, (List.forall_mem_cons.mpr ⟨wrr_wsX12_teach_wsX12_teach_r2 (i := 1) rfl, (List.forall_mem_cons.mpr ⟨wrr_wsX12_teach_wsX12_teach_r2 (i := 2) rfl, (List.forall_mem_cons.mpr ⟨wrr_wsX12_teach_wsX12_teach_r1 (i := 6) rfl, (fun _ h => absurd h List.not_mem_nil)⟩)⟩)⟩)⟩) (by decide +kernel)) ggX12_teach_X12_changes
theorem dX12_teach_0 : decode cX12_teach 0 = .ok (.aload_n 0, 1) := by decide +kernel
theorem dX12_teach_1 : decode cX12_teach 1 = .ok (.iconst 0, 1) := by decide +kernel
theorem dX12_teach_2 : decode cX12_teach 2 = .ok (.putfield 80, 3) := by decide +kernel
theorem dX12_teach_5 : decode cX12_teach 5 = .ok (.aload_n 0, 1) := by decide +kernel
theorem dX12_teach_6 : decode cX12_teach 6 = .ok (.iload_n 1, 1) := by decide +kernel
theorem dX12_teach_7 : decode cX12_teach 7 = .ok (.invokevirtual 261, 3) := by decide +kernel
theorem dX12_teach_10 : decode cX12_teach 10 = .ok (.ifCond .eq 28, 3) := by decide +kernel
theorem dX12_teach_13 : decode cX12_teach 13 = .ok (.iload_n 2, 1) := by decide +kernel
theorem dX12_teach_14 : decode cX12_teach 14 = .ok (.i2l, 1) := by decide +kernel
theorem dX12_teach_15 : decode cX12_teach 15 = .ok (.lconst 0, 1) := by decide +kernel
theorem dX12_teach_16 : decode cX12_teach 16 = .ok (.aload_n 0, 1) := by decide +kernel
theorem dX12_teach_17 : decode cX12_teach 17 = .ok (.iload_n 1, 1) := by decide +kernel
theorem dX12_teach_18 : decode cX12_teach 18 = .ok (.invokevirtual 264, 3) := by decide +kernel
theorem dX12_teach_21 : decode cX12_teach 21 = .ok (.iconst 1, 1) := by decide +kernel
theorem dX12_teach_22 : decode cX12_teach 22 = .ok (.isub, 1) := by decide +kernel
theorem dX12_teach_23 : decode cX12_teach 23 = .ok (.i2l, 1) := by decide +kernel
theorem dX12_teach_24 : decode cX12_teach 24 = .ok (.invokestatic 85, 3) := by decide +kernel
theorem dX12_teach_27 : decode cX12_teach 27 = .ok (.ifCond .eq 11, 3) := by decide +kernel
theorem dX12_teach_30 : decode cX12_teach 30 = .ok (.iload_n 3, 1) := by decide +kernel
theorem dX12_teach_31 : decode cX12_teach 31 = .ok (.i2l, 1) := by decide +kernel
theorem dX12_teach_32 : decode cX12_teach 32 = .ok (.invokestatic 267, 3) := by decide +kernel
theorem dX12_teach_35 : decode cX12_teach 35 = .ok (.ifCond .ne 6, 3) := by decide +kernel
theorem dX12_teach_38 : decode cX12_teach 38 = .ok (.bipush (-2), 2) := by decide +kernel
theorem dX12_teach_40 : decode cX12_teach 40 = .ok (.ireturn, 1) := by decide +kernel
theorem dX12_teach_41 : decode cX12_teach 41 = .ok (.aload_n 0, 1) := by decide +kernel
theorem dX12_teach_42 : decode cX12_teach 42 = .ok (.getfield 34, 3) := by decide +kernel
theorem dX12_teach_45 : decode cX12_teach 45 = .ok (.bipush 10, 2) := by decide +kernel
theorem dX12_teach_47 : decode cX12_teach 47 = .ok (.iaload, 1) := by decide +kernel
theorem dX12_teach_48 : decode cX12_teach 48 = .ok (.bipush 40, 2) := by decide +kernel
theorem dX12_teach_50 : decode cX12_teach 50 = .ok (.if_icmp .ne 6, 3) := by decide +kernel
theorem dX12_teach_53 : decode cX12_teach 53 = .ok (.bipush (-5), 2) := by decide +kernel
theorem dX12_teach_55 : decode cX12_teach 55 = .ok (.ireturn, 1) := by decide +kernel
theorem dX12_teach_56 : decode cX12_teach 56 = .ok (.aload_n 0, 1) := by decide +kernel
theorem dX12_teach_57 : decode cX12_teach 57 = .ok (.getfield 37, 3) := by decide +kernel
theorem dX12_teach_60 : decode cX12_teach 60 = .ok (.bipush 12, 2) := by decide +kernel
theorem dX12_teach_62 : decode cX12_teach 62 = .ok (.iload_n 1, 1) := by decide +kernel
theorem dX12_teach_63 : decode cX12_teach 63 = .ok (.imul, 1) := by decide +kernel
theorem dX12_teach_64 : decode cX12_teach 64 = .ok (.iload_n 2, 1) := by decide +kernel
theorem dX12_teach_65 : decode cX12_teach 65 = .ok (.iadd, 1) := by decide +kernel
theorem dX12_teach_66 : decode cX12_teach 66 = .ok (.iaload, 1) := by decide +kernel
theorem dX12_teach_67 : decode cX12_teach 67 = .ok (.istore 4, 2) := by decide +kernel
theorem dX12_teach_69 : decode cX12_teach 69 = .ok (.aload_n 0, 1) := by decide +kernel
theorem dX12_teach_70 : decode cX12_teach 70 = .ok (.iconst 2, 1) := by decide +kernel
theorem dX12_teach_71 : decode cX12_teach 71 = .ok (.iload_n 1, 1) := by decide +kernel
theorem dX12_teach_72 : decode cX12_teach 72 = .ok (.iload_n 2, 1) := by decide +kernel
theorem dX12_teach_73 : decode cX12_teach 73 = .ok (.iload 4, 2) := by decide +kernel
theorem dX12_teach_75 : decode cX12_teach 75 = .ok (.invokevirtual 473, 3) := by decide +kernel
theorem dX12_teach_78 : decode cX12_teach 78 = .ok (.aload_n 0, 1) := by decide +kernel
theorem dX12_teach_79 : decode cX12_teach 79 = .ok (.getfield 37, 3) := by decide +kernel
theorem dX12_teach_82 : decode cX12_teach 82 = .ok (.bipush 12, 2) := by decide +kernel
theorem dX12_teach_84 : decode cX12_teach 84 = .ok (.iload_n 1, 1) := by decide +kernel
theorem dX12_teach_85 : decode cX12_teach 85 = .ok (.imul, 1) := by decide +kernel
theorem dX12_teach_86 : decode cX12_teach 86 = .ok (.iload_n 2, 1) := by decide +kernel
theorem dX12_teach_87 : decode cX12_teach 87 = .ok (.iadd, 1) := by decide +kernel
theorem dX12_teach_88 : decode cX12_teach 88 = .ok (.iload_n 3, 1) := by decide +kernel
theorem dX12_teach_89 : decode cX12_teach 89 = .ok (.iastore, 1) := by decide +kernel
theorem dX12_teach_90 : decode cX12_teach 90 = .ok (.iload 4, 2) := by decide +kernel
theorem dX12_teach_92 : decode cX12_teach 92 = .ok (.ireturn, 1) := by decide +kernel
theorem wrr_wsX12_undo {i : Nat} {w : Cond} (h : wsX12_undo[i]? = some w) : w ∈ wsX12_undo := List.mem_of_getElem? h
theorem wru_wsX12_undo_wsX120 : ∀ w ∈ wsX120, w ∈ wsX12_undo := fun w h => (List.mem_cons_of_mem _ (List.mem_append_right _ h))
set_option maxRecDepth 20000 in
theorem ggX12_undo_X12_isDance : GoodIn wsX12_undo wsX12_isDance := goodIn_sub (List.forall_mem_cons.mpr ⟨wrr_wsX12_undo (i := 10) rfl, (List.forall_mem_append.mpr ⟨(List.forall_mem_cons.mpr ⟨wrr_wsX12_undo (i := 11) rfl, (fun _ h => absurd h List.not_mem_nil)⟩), wru_wsX12_undo_wsX120⟩)⟩) gw_wsX12_isDance
set_option maxRecDepth 20000 in
theorem gX12_undo_X12_isDance : GoodIn wsX12_undo (wsV RX12 254 RX12 yX12_isDance wsX12_isDance) := goodIn_app (goodIn_sub (List.forall_mem_cons.mpr ⟨wrr_wsX12_undo (i := 6) rfl, (List.forall_mem_cons.mpr ⟨wrr_wsX12_undo (i := 7) rfl, (List.forall_mem_cons.mpr ⟨wrr_wsX12_undo (i := 8) rfl, (List.forall_mem_cons.mpr ⟨wrr_wsX12_undo (i := 9) rfl, (fun _ h => absurd h List.not_mem_nil)⟩)⟩)⟩)⟩) (by decide +kernel)) ggX12_undo_X12_isDance
theorem dX12_undo_0 : decode cX12_undo 0 = .ok (.aload_n 0, 1) := by decide +kernel
theorem dX12_undo_1 : decode cX12_undo 1 = .ok (.iconst 0, 1) := by decide +kernel
theorem dX12_undo_2 : decode cX12_undo 2 = .ok (.putfield 80, 3) := by decide +kernel
theorem dX12_undo_5 : decode cX12_undo 5 = .ok (.aload_n 0, 1) := by decide +kernel
theorem dX12_undo_6 : decode cX12_undo 6 = .ok (.invokevirtual 254, 3) := by decide +kernel
theorem dX12_undo_9 : decode cX12_undo 9 = .ok (.ifCond .ne 6, 3) := by decide +kernel
theorem dX12_undo_12 : decode cX12_undo 12 = .ok (.bipush (-2), 2) := by decide +kernel
theorem dX12_undo_14 : decode cX12_undo 14 = .ok (.ireturn, 1) := by decide +kernel
theorem dX12_undo_15 : decode cX12_undo 15 = .ok (.aload_n 0, 1) := by decide +kernel
theorem dX12_undo_16 : decode cX12_undo 16 = .ok (.getfield 34, 3) := by decide +kernel
theorem dX12_undo_19 : decode cX12_undo 19 = .ok (.bipush 10, 2) := by decide +kernel
theorem dX12_undo_21 : decode cX12_undo 21 = .ok (.iaload, 1) := by decide +kernel
theorem dX12_undo_22 : decode cX12_undo 22 = .ok (.ifCond .ne 6, 3) := by decide +kernel
theorem dX12_undo_25 : decode cX12_undo 25 = .ok (.bipush (-5), 2) := by decide +kernel
theorem dX12_undo_27 : decode cX12_undo 27 = .ok (.ireturn, 1) := by decide +kernel
theorem dX12_undo_28 : decode cX12_undo 28 = .ok (.aload_n 0, 1) := by decide +kernel
theorem dX12_undo_29 : decode cX12_undo 29 = .ok (.getfield 34, 3) := by decide +kernel
theorem dX12_undo_32 : decode cX12_undo 32 = .ok (.bipush 10, 2) := by decide +kernel
theorem dX12_undo_34 : decode cX12_undo 34 = .ok (.dup2, 1) := by decide +kernel
theorem dX12_undo_35 : decode cX12_undo 35 = .ok (.iaload, 1) := by decide +kernel
theorem dX12_undo_36 : decode cX12_undo 36 = .ok (.iconst 1, 1) := by decide +kernel
theorem dX12_undo_37 : decode cX12_undo 37 = .ok (.isub, 1) := by decide +kernel
theorem dX12_undo_38 : decode cX12_undo 38 = .ok (.iastore, 1) := by decide +kernel
theorem dX12_undo_39 : decode cX12_undo 39 = .ok (.iconst 4, 1) := by decide +kernel
theorem dX12_undo_40 : decode cX12_undo 40 = .ok (.aload_n 0, 1) := by decide +kernel
theorem dX12_undo_41 : decode cX12_undo 41 = .ok (.getfield 34, 3) := by decide +kernel
theorem dX12_undo_44 : decode cX12_undo 44 = .ok (.bipush 10, 2) := by decide +kernel
theorem dX12_undo_46 : decode cX12_undo 46 = .ok (.iaload, 1) := by decide +kernel
theorem dX12_undo_47 : decode cX12_undo 47 = .ok (.imul, 1) := by decide +kernel
theorem dX12_undo_48 : decode cX12_undo 48 = .ok (.istore_n 1, 1) := by decide +kernel
theorem dX12_undo_49 : decode cX12_undo 49 = .ok (.aload_n 0, 1) := by decide +kernel
theorem dX12_undo_50 : decode cX12_undo 50 = .ok (.getfield 56, 3) := by decide +kernel
theorem dX12_undo_53 : decode cX12_undo 53 = .ok (.iload_n 1, 1) := by decide +kernel
theorem dX12_undo_54 : decode cX12_undo 54 = .ok (.iaload, 1) := by decide +kernel
theorem dX12_undo_55 : decode cX12_undo 55 = .ok (.ifCond .ne 17, 3) := by decide +kernel
theorem dX12_undo_58 : decode cX12_undo 58 = .ok (.aload_n 0, 1) := by decide +kernel
theorem dX12_undo_59 : decode cX12_undo 59 = .ok (.getfield 34, 3) := by decide +kernel
theorem dX12_undo_62 : decode cX12_undo 62 = .ok (.bipush 7, 2) := by decide +kernel
theorem dX12_undo_64 : decode cX12_undo 64 = .ok (.dup2, 1) := by decide +kernel
theorem dX12_undo_65 : decode cX12_undo 65 = .ok (.iaload, 1) := by decide +kernel
theorem dX12_undo_66 : decode cX12_undo 66 = .ok (.iconst 1, 1) := by decide +kernel
theorem dX12_undo_67 : decode cX12_undo 67 = .ok (.isub, 1) := by decide +kernel
theorem dX12_undo_68 : decode cX12_undo 68 = .ok (.iastore, 1) := by decide +kernel
theorem dX12_undo_69 : decode cX12_undo 69 = .ok (.goto 79, 3) := by decide +kernel
theorem dX12_undo_72 : decode cX12_undo 72 = .ok (.aload_n 0, 1) := by decide +kernel
theorem dX12_undo_73 : decode cX12_undo 73 = .ok (.getfield 56, 3) := by decide +kernel
theorem dX12_undo_76 : decode cX12_undo 76 = .ok (.iload_n 1, 1) := by decide +kernel
theorem dX12_undo_77 : decode cX12_undo 77 = .ok (.iaload, 1) := by decide +kernel
theorem dX12_undo_78 : decode cX12_undo 78 = .ok (.iconst 1, 1) := by decide +kernel
theorem dX12_undo_79 : decode cX12_undo 79 = .ok (.if_icmp .ne 36, 3) := by decide +kernel
theorem dX12_undo_82 : decode cX12_undo 82 = .ok (.aload_n 0, 1) := by decide +kernel
theorem dX12_undo_83 : decode cX12_undo 83 = .ok (.getfield 46, 3) := by decide +kernel
theorem dX12_undo_86 : decode cX12_undo 86 = .ok (.aload_n 0, 1) := by decide +kernel
theorem dX12_undo_87 : decode cX12_undo 87 = .ok (.getfield 56, 3) := by decide +kernel
theorem dX12_undo_90 : decode cX12_undo 90 = .ok (.iload_n 1, 1) := by decide +kernel
theorem dX12_undo_91 : decode cX12_undo 91 = .ok (.iconst 2, 1) := by decide +kernel
theorem dX12_undo_92 : decode cX12_undo 92 = .ok (.iadd, 1) := by decide +kernel
theorem dX12_undo_93 : decode cX12_undo 93 = .ok (.iaload, 1) := by decide +kernel
theorem dX12_undo_94 : decode cX12_undo 94 = .ok (.aload_n 0, 1) := by decide +kernel
theorem dX12_undo_95 : decode cX12_undo 95 = .ok (.getfield 56, 3) := by decide +kernel
theorem dX12_undo_98 : decode cX12_undo 98 = .ok (.iload_n 1, 1) := by decide +kernel
theorem dX12_undo_99 : decode cX12_undo 99 = .ok (.iconst 3, 1) := by decide +kernel
theorem dX12_undo_100 : decode cX12_undo 100 = .ok (.iadd, 1) := by decide +kernel
theorem dX12_undo_101 : decode cX12_undo 101 = .ok (.iaload, 1) := by decide +kernel
theorem dX12_undo_102 : decode cX12_undo 102 = .ok (.iconst 1, 1) := by decide +kernel
theorem dX12_undo_103 : decode cX12_undo 103 = .ok (.if_icmp .ne 7, 3) := by decide +kernel
theorem dX12_undo_106 : decode cX12_undo 106 = .ok (.iconst 1, 1) := by decide +kernel
theorem dX12_undo_107 : decode cX12_undo 107 = .ok (.goto 4, 3) := by decide +kernel
theorem dX12_undo_110 : decode cX12_undo 110 = .ok (.iconst 0, 1) := by decide +kernel
theorem dX12_undo_111 : decode cX12_undo 111 = .ok (.bastore, 1) := by decide +kernel
theorem dX12_undo_112 : decode cX12_undo 112 = .ok (.goto 36, 3) := by decide +kernel
theorem dX12_undo_115 : decode cX12_undo 115 = .ok (.aload_n 0, 1) := by decide +kernel
theorem dX12_undo_116 : decode cX12_undo 116 = .ok (.getfield 37, 3) := by decide +kernel
theorem dX12_undo_119 : decode cX12_undo 119 = .ok (.bipush 12, 2) := by decide +kernel
theorem dX12_undo_121 : decode cX12_undo 121 = .ok (.aload_n 0, 1) := by decide +kernel
theorem dX12_undo_122 : decode cX12_undo 122 = .ok (.getfield 56, 3) := by decide +kernel
theorem dX12_undo_125 : decode cX12_undo 125 = .ok (.iload_n 1, 1) := by decide +kernel
theorem dX12_undo_126 : decode cX12_undo 126 = .ok (.iconst 1, 1) := by decide +kernel
theorem dX12_undo_127 : decode cX12_undo 127 = .ok (.iadd, 1) := by decide +kernel
theorem dX12_undo_128 : decode cX12_undo 128 = .ok (.iaload, 1) := by decide +kernel
theorem dX12_undo_129 : decode cX12_undo 129 = .ok (.imul, 1) := by decide +kernel
theorem dX12_undo_130 : decode cX12_undo 130 = .ok (.aload_n 0, 1) := by decide +kernel
theorem dX12_undo_131 : decode cX12_undo 131 = .ok (.getfield 56, 3) := by decide +kernel
theorem dX12_undo_134 : decode cX12_undo 134 = .ok (.iload_n 1, 1) := by decide +kernel
theorem dX12_undo_135 : decode cX12_undo 135 = .ok (.iconst 2, 1) := by decide +kernel
theorem dX12_undo_136 : decode cX12_undo 136 = .ok (.iadd, 1) := by decide +kernel
theorem dX12_undo_137 : decode cX12_undo 137 = .ok (.iaload, 1) := by decide +kernel
theorem dX12_undo_138 : decode cX12_undo 138 = .ok (.iadd, 1) := by decide +kernel
theorem dX12_undo_139 : decode cX12_undo 139 = .ok (.aload_n 0, 1) := by decide +kernel
theorem dX12_undo_140 : decode cX12_undo 140 = .ok (.getfield 56, 3) := by decide +kernel
theorem dX12_undo_143 : decode cX12_undo 143 = .ok (.iload_n 1, 1) := by decide +kernel
theorem dX12_undo_144 : decode cX12_undo 144 = .ok (.iconst 3, 1) := by decide +kernel
theorem dX12_undo_145 : decode cX12_undo 145 = .ok (.iadd, 1) := by decide +kernel
theorem dX12_undo_146 : decode cX12_undo 146 = .ok (.iaload, 1) := by decide +kernel
theorem dX12_undo_147 : decode cX12_undo 147 = .ok (.iastore, 1) := by decide +kernel
theorem dX12_undo_148 : decode cX12_undo 148 = .ok (.aload_n 0, 1) := by decide +kernel
theorem dX12_undo_149 : decode cX12_undo 149 = .ok (.getfield 34, 3) := by decide +kernel
theorem dX12_undo_152 : decode cX12_undo 152 = .ok (.bipush 10, 2) := by decide +kernel
theorem dX12_undo_154 : decode cX12_undo 154 = .ok (.iaload, 1) := by decide +kernel
theorem dX12_undo_155 : decode cX12_undo 155 = .ok (.ireturn, 1) := by decide +kernel
theorem wrr_wsX12_count {i : Nat} {w : Cond} (h : wsX12_count[i]? = some w) : w ∈ wsX12_count := List.mem_of_getElem? h
theorem wru_wsX12_count_wsX120 : ∀ w ∈ wsX120, w ∈ wsX12_count := fun w h => (List.mem_cons_of_mem _ (List.mem_append_right _ h))
set_option maxRecDepth 20000 in
theorem ggX12_count_X12_lengthOf : GoodIn wsX12_count wsX12_lengthOf := goodIn_sub (List.forall_mem_cons.mpr ⟨wrr_wsX12_count (i := 11) rfl, (List.forall_mem_append.mpr ⟨(List.forall_mem_cons.mpr ⟨wrr_wsX12_count (i := 2) rfl, (fun _ h => absurd h List.not_mem_nil)⟩), wru_wsX12_count_wsX120⟩)⟩) gw_wsX12_lengthOf
set_option maxRecDepth 20000 in
theorem gX12_count_X12_lengthOf : GoodIn wsX12_count (wsV RX12 264 RX12 yX12_lengthOf wsX12_lengthOf) := goodIn_app (goodIn_sub (List.forall_mem_cons.mpr ⟨wrr_wsX12_count (i := 7) rfl, (List.forall_mem_cons.mpr ⟨wrr_wsX12_count (i := 8) rfl, (List.forall_mem_cons.mpr ⟨wrr_wsX12_count (i := 9) rfl, (List.forall_mem_cons.mpr ⟨wrr_wsX12_count (i := 10) rfl, (fun _ h => absurd h List.not_mem_nil)⟩)⟩)⟩)⟩) (by decide +kernel)) ggX12_count_X12_lengthOf
theorem dX12_count_0 : decode cX12_count 0 = .ok (.aload_n 0, 1) := by decide +kernel
theorem dX12_count_1 : decode cX12_count 1 = .ok (.iconst 0, 1) := by decide +kernel
theorem dX12_count_2 : decode cX12_count 2 = .ok (.putfield 80, 3) := by decide +kernel
theorem dX12_count_5 : decode cX12_count 5 = .ok (.iconst 0, 1) := by decide +kernel
theorem dX12_count_6 : decode cX12_count 6 = .ok (.istore_n 2, 1) := by decide +kernel
theorem dX12_count_7 : decode cX12_count 7 = .ok (.iload_n 1, 1) := by decide +kernel
theorem dX12_count_8 : decode cX12_count 8 = .ok (.tableswitch 212 0 12 #[68, 75, 82, 89, 95, 101, 109, 143, 151, 159, 167, 174, 179], 68) := by decide +kernel
theorem dX12_count_76 : decode cX12_count 76 = .ok (.aload_n 0, 1) := by decide +kernel
theorem dX12_count_77 : decode cX12_count 77 = .ok (.getfield 34, 3) := by decide +kernel
theorem dX12_count_80 : decode cX12_count 80 = .ok (.iconst 0, 1) := by decide +kernel
theorem dX12_count_81 : decode cX12_count 81 = .ok (.iaload, 1) := by decide +kernel
theorem dX12_count_82 : decode cX12_count 82 = .ok (.ireturn, 1) := by decide +kernel
theorem dX12_count_83 : decode cX12_count 83 = .ok (.aload_n 0, 1) := by decide +kernel
theorem dX12_count_84 : decode cX12_count 84 = .ok (.getfield 34, 3) := by decide +kernel
theorem dX12_count_87 : decode cX12_count 87 = .ok (.iconst 1, 1) := by decide +kernel
theorem dX12_count_88 : decode cX12_count 88 = .ok (.iaload, 1) := by decide +kernel
theorem dX12_count_89 : decode cX12_count 89 = .ok (.ireturn, 1) := by decide +kernel
theorem dX12_count_90 : decode cX12_count 90 = .ok (.aload_n 0, 1) := by decide +kernel
theorem dX12_count_91 : decode cX12_count 91 = .ok (.getfield 34, 3) := by decide +kernel
theorem dX12_count_94 : decode cX12_count 94 = .ok (.iconst 2, 1) := by decide +kernel
theorem dX12_count_95 : decode cX12_count 95 = .ok (.iaload, 1) := by decide +kernel
theorem dX12_count_96 : decode cX12_count 96 = .ok (.ireturn, 1) := by decide +kernel
theorem dX12_count_97 : decode cX12_count 97 = .ok (.aload_n 0, 1) := by decide +kernel
theorem dX12_count_98 : decode cX12_count 98 = .ok (.iconst 0, 1) := by decide +kernel
theorem dX12_count_99 : decode cX12_count 99 = .ok (.invokevirtual 264, 3) := by decide +kernel
theorem dX12_count_102 : decode cX12_count 102 = .ok (.ireturn, 1) := by decide +kernel
theorem dX12_count_103 : decode cX12_count 103 = .ok (.aload_n 0, 1) := by decide +kernel
theorem dX12_count_104 : decode cX12_count 104 = .ok (.iconst 1, 1) := by decide +kernel
theorem dX12_count_105 : decode cX12_count 105 = .ok (.invokevirtual 264, 3) := by decide +kernel
theorem dX12_count_108 : decode cX12_count 108 = .ok (.ireturn, 1) := by decide +kernel
theorem dX12_count_109 : decode cX12_count 109 = .ok (.aload_n 0, 1) := by decide +kernel
theorem dX12_count_110 : decode cX12_count 110 = .ok (.getfield 34, 3) := by decide +kernel
theorem dX12_count_113 : decode cX12_count 113 = .ok (.bipush 7, 2) := by decide +kernel
theorem dX12_count_115 : decode cX12_count 115 = .ok (.iaload, 1) := by decide +kernel
theorem dX12_count_116 : decode cX12_count 116 = .ok (.ireturn, 1) := by decide +kernel
theorem dX12_count_117 : decode cX12_count 117 = .ok (.iconst 0, 1) := by decide +kernel
theorem dX12_count_118 : decode cX12_count 118 = .ok (.istore_n 3, 1) := by decide +kernel
theorem dX12_count_119 : decode cX12_count 119 = .ok (.iload_n 3, 1) := by decide +kernel
theorem dX12_count_120 : decode cX12_count 120 = .ok (.sipush 200, 3) := by decide +kernel
theorem dX12_count_123 : decode cX12_count 123 = .ok (.if_icmp .ge 26, 3) := by decide +kernel
theorem dX12_count_126 : decode cX12_count 126 = .ok (.iload_n 2, 1) := by decide +kernel
theorem dX12_count_127 : decode cX12_count 127 = .ok (.aload_n 0, 1) := by decide +kernel
theorem dX12_count_128 : decode cX12_count 128 = .ok (.getfield 46, 3) := by decide +kernel
theorem dX12_count_131 : decode cX12_count 131 = .ok (.iload_n 3, 1) := by decide +kernel
theorem dX12_count_132 : decode cX12_count 132 = .ok (.baload, 1) := by decide +kernel
theorem dX12_count_133 : decode cX12_count 133 = .ok (.ifCond .eq 7, 3) := by decide +kernel
theorem dX12_count_136 : decode cX12_count 136 = .ok (.iconst 1, 1) := by decide +kernel
theorem dX12_count_137 : decode cX12_count 137 = .ok (.goto 4, 3) := by decide +kernel
theorem dX12_count_140 : decode cX12_count 140 = .ok (.iconst 0, 1) := by decide +kernel
theorem dX12_count_141 : decode cX12_count 141 = .ok (.iadd, 1) := by decide +kernel
theorem dX12_count_142 : decode cX12_count 142 = .ok (.istore_n 2, 1) := by decide +kernel
theorem dX12_count_143 : decode cX12_count 143 = .ok (.iinc 3 1, 3) := by decide +kernel
theorem dX12_count_146 : decode cX12_count 146 = .ok (.goto (-27), 3) := by decide +kernel
theorem dX12_count_149 : decode cX12_count 149 = .ok (.iload_n 2, 1) := by decide +kernel
theorem dX12_count_150 : decode cX12_count 150 = .ok (.ireturn, 1) := by decide +kernel
theorem dX12_count_151 : decode cX12_count 151 = .ok (.aload_n 0, 1) := by decide +kernel
theorem dX12_count_152 : decode cX12_count 152 = .ok (.getfield 34, 3) := by decide +kernel
theorem dX12_count_155 : decode cX12_count 155 = .ok (.bipush 8, 2) := by decide +kernel
theorem dX12_count_157 : decode cX12_count 157 = .ok (.iaload, 1) := by decide +kernel
theorem dX12_count_158 : decode cX12_count 158 = .ok (.ireturn, 1) := by decide +kernel
theorem dX12_count_159 : decode cX12_count 159 = .ok (.aload_n 0, 1) := by decide +kernel
theorem dX12_count_160 : decode cX12_count 160 = .ok (.getfield 34, 3) := by decide +kernel
theorem dX12_count_163 : decode cX12_count 163 = .ok (.bipush 9, 2) := by decide +kernel
theorem dX12_count_165 : decode cX12_count 165 = .ok (.iaload, 1) := by decide +kernel
theorem dX12_count_166 : decode cX12_count 166 = .ok (.ireturn, 1) := by decide +kernel
theorem dX12_count_167 : decode cX12_count 167 = .ok (.aload_n 0, 1) := by decide +kernel
theorem dX12_count_168 : decode cX12_count 168 = .ok (.getfield 34, 3) := by decide +kernel
theorem dX12_count_171 : decode cX12_count 171 = .ok (.bipush 10, 2) := by decide +kernel
theorem dX12_count_173 : decode cX12_count 173 = .ok (.iaload, 1) := by decide +kernel
theorem dX12_count_174 : decode cX12_count 174 = .ok (.ireturn, 1) := by decide +kernel
theorem dX12_count_175 : decode cX12_count 175 = .ok (.aload_n 0, 1) := by decide +kernel
theorem dX12_count_176 : decode cX12_count 176 = .ok (.getfield 31, 3) := by decide +kernel
theorem dX12_count_179 : decode cX12_count 179 = .ok (.iconst 0, 1) := by decide +kernel
theorem dX12_count_180 : decode cX12_count 180 = .ok (.iaload, 1) := by decide +kernel
theorem dX12_count_181 : decode cX12_count 181 = .ok (.ireturn, 1) := by decide +kernel
theorem dX12_count_182 : decode cX12_count 182 = .ok (.aload_n 0, 1) := by decide +kernel
theorem dX12_count_183 : decode cX12_count 183 = .ok (.getfield 97, 3) := by decide +kernel
theorem dX12_count_186 : decode cX12_count 186 = .ok (.ireturn, 1) := by decide +kernel
theorem dX12_count_187 : decode cX12_count 187 = .ok (.iconst 0, 1) := by decide +kernel
theorem dX12_count_188 : decode cX12_count 188 = .ok (.istore_n 3, 1) := by decide +kernel
theorem dX12_count_189 : decode cX12_count 189 = .ok (.iload_n 3, 1) := by decide +kernel
theorem dX12_count_190 : decode cX12_count 190 = .ok (.iconst 4, 1) := by decide +kernel
theorem dX12_count_191 : decode cX12_count 191 = .ok (.if_icmp .ge 27, 3) := by decide +kernel
theorem dX12_count_194 : decode cX12_count 194 = .ok (.iload_n 2, 1) := by decide +kernel
theorem dX12_count_195 : decode cX12_count 195 = .ok (.aload_n 0, 1) := by decide +kernel
theorem dX12_count_196 : decode cX12_count 196 = .ok (.getfield 7, 3) := by decide +kernel
theorem dX12_count_199 : decode cX12_count 199 = .ok (.iload_n 3, 1) := by decide +kernel
theorem dX12_count_200 : decode cX12_count 200 = .ok (.iaload, 1) := by decide +kernel
theorem dX12_count_201 : decode cX12_count 201 = .ok (.iconst (-1), 1) := by decide +kernel
theorem dX12_count_202 : decode cX12_count 202 = .ok (.if_icmp .ne 7, 3) := by decide +kernel
theorem dX12_count_205 : decode cX12_count 205 = .ok (.iconst 0, 1) := by decide +kernel
theorem dX12_count_206 : decode cX12_count 206 = .ok (.goto 4, 3) := by decide +kernel
theorem dX12_count_209 : decode cX12_count 209 = .ok (.iconst 1, 1) := by decide +kernel
theorem dX12_count_210 : decode cX12_count 210 = .ok (.iadd, 1) := by decide +kernel
theorem dX12_count_211 : decode cX12_count 211 = .ok (.istore_n 2, 1) := by decide +kernel
theorem dX12_count_212 : decode cX12_count 212 = .ok (.iinc 3 1, 3) := by decide +kernel
theorem dX12_count_215 : decode cX12_count 215 = .ok (.goto (-26), 3) := by decide +kernel
theorem dX12_count_218 : decode cX12_count 218 = .ok (.iload_n 2, 1) := by decide +kernel
theorem dX12_count_219 : decode cX12_count 219 = .ok (.ireturn, 1) := by decide +kernel
theorem dX12_count_220 : decode cX12_count 220 = .ok (.iconst (-1), 1) := by decide +kernel
theorem dX12_count_221 : decode cX12_count 221 = .ok (.ireturn, 1) := by decide +kernel
theorem wrr_wsX12_image {i : Nat} {w : Cond} (h : wsX12_image[i]? = some w) : w ∈ wsX12_image := List.mem_of_getElem? h
theorem wru_wsX12_image_wsX120 : ∀ w ∈ wsX120, w ∈ wsX12_image := fun w h => (List.mem_cons_of_mem _ (List.mem_append_right _ h))
set_option maxRecDepth 20000 in
theorem ggX12_image_X12_in : GoodIn wsX12_image wsX12_in := goodIn_sub (List.forall_mem_cons.mpr ⟨wrr_wsX12_image (i := 7) rfl, (fun _ h => absurd h List.not_mem_nil)⟩) gw_wsX12_in
set_option maxRecDepth 20000 in
theorem gX12_image_X12_in : GoodIn wsX12_image (va_wsS RX12 85 yX12_in wsX12_in) := goodIn_app (goodIn_sub (List.forall_mem_cons.mpr ⟨wrr_wsX12_image (i := 4) rfl, (List.forall_mem_cons.mpr ⟨wrr_wsX12_image (i := 5) rfl, (List.forall_mem_cons.mpr ⟨wrr_wsX12_image (i := 6) rfl, (fun _ h => absurd h List.not_mem_nil)⟩)⟩)⟩) (by decide +kernel)) ggX12_image_X12_in
set_option maxRecDepth 20000 in
theorem ggX12_image_X12_copyDance : GoodIn wsX12_image wsX12_copyDance := goodIn_sub (List.forall_mem_cons.mpr ⟨wrr_wsX12_image (i := 11) rfl, (List.forall_mem_append.mpr ⟨(List.forall_mem_cons.mpr ⟨wrr_wsX12_image (i := 12) rfl, (List.forall_mem_cons.mpr ⟨wrr_wsX12_image (i := 13) rfl, (List.forall_mem_cons.mpr ⟨wrr_wsX12_image (i := 14) rfl, (List.forall_mem_cons.mpr ⟨wrr_wsX12_image (i := 15) rfl, (List.forall_mem_cons.mpr ⟨wrr_wsX12_image (i := 16) rfl, (List.forall_mem_cons.mpr ⟨wrr_wsX12_image (i := 17) rfl, (List.forall_mem_cons.mpr ⟨wrr_wsX12_image (i := 18) rfl, (List.forall_mem_cons.mpr ⟨wrr_wsX12_image (i := 19) rfl, (List.forall_mem_cons.mpr ⟨wrr_wsX12_image (i := 20) rfl, (List.forall_mem_cons.mpr ⟨wrr_wsX12_image (i := 21) rfl, (List.forall_mem_cons.mpr ⟨wrr_wsX12_image (i := 22) rfl, (List.forall_mem_cons.mpr ⟨wrr_wsX12_image (i := 6) rfl, (List.forall_mem_cons.mpr ⟨wrr_wsX12_image (i := 23) rfl, (fun _ h => absurd h List.not_mem_nil)⟩)⟩)⟩)⟩)⟩)⟩)⟩)⟩)⟩)⟩)⟩)⟩)⟩), wru_wsX12_image_wsX120⟩)⟩) gw_wsX12_copyDance
set_option maxRecDepth 20000 in
theorem gX12_image_X12_copyDance : GoodIn wsX12_image (wsV RX12 247 RX12 yX12_copyDance wsX12_copyDance) := goodIn_app (goodIn_sub (List.forall_mem_cons.mpr ⟨wrr_wsX12_image (i := 8) rfl, (List.forall_mem_cons.mpr ⟨wrr_wsX12_image (i := 9) rfl, (List.forall_mem_cons.mpr ⟨wrr_wsX12_image (i := 10) rfl, (List.forall_mem_cons.mpr ⟨wrr_wsX12_image (i := 6) rfl, (fun _ h => absurd h List.not_mem_nil)⟩)⟩)⟩)⟩) (by decide +kernel)) ggX12_image_X12_copyDance
theorem dX12_image_0 : decode cX12_image 0 = .ok (.aload_n 0, 1) := by decide +kernel
theorem dX12_image_1 : decode cX12_image 1 = .ok (.iconst 0, 1) := by decide +kernel
theorem dX12_image_2 : decode cX12_image 2 = .ok (.putfield 80, 3) := by decide +kernel
theorem dX12_image_5 : decode cX12_image 5 = .ok (.iload_n 1, 1) := by decide +kernel
theorem dX12_image_6 : decode cX12_image 6 = .ok (.i2l, 1) := by decide +kernel
theorem dX12_image_7 : decode cX12_image 7 = .ok (.lconst 0, 1) := by decide +kernel
theorem dX12_image_8 : decode cX12_image 8 = .ok (.ldc2_w 477, 3) := by decide +kernel
theorem dX12_image_11 : decode cX12_image 11 = .ok (.invokestatic 85, 3) := by decide +kernel
theorem dX12_image_14 : decode cX12_image 14 = .ok (.ifCond .ne 6, 3) := by decide +kernel
theorem dX12_image_17 : decode cX12_image 17 = .ok (.bipush (-2), 2) := by decide +kernel
theorem dX12_image_19 : decode cX12_image 19 = .ok (.ireturn, 1) := by decide +kernel
theorem dX12_image_20 : decode cX12_image 20 = .ok (.aload_n 0, 1) := by decide +kernel
theorem dX12_image_21 : decode cX12_image 21 = .ok (.iconst 0, 1) := by decide +kernel
theorem dX12_image_22 : decode cX12_image 22 = .ok (.iconst 1, 1) := by decide +kernel
theorem dX12_image_23 : decode cX12_image 23 = .ok (.iload_n 1, 1) := by decide +kernel
theorem dX12_image_24 : decode cX12_image 24 = .ok (.iadd, 1) := by decide +kernel
theorem dX12_image_25 : decode cX12_image 25 = .ok (.invokevirtual 247, 3) := by decide +kernel
theorem dX12_image_28 : decode cX12_image 28 = .ok (.aload_n 0, 1) := by decide +kernel
theorem dX12_image_29 : decode cX12_image 29 = .ok (.getfield 59, 3) := by decide +kernel
theorem dX12_image_32 : decode cX12_image 32 = .ok (.iload_n 1, 1) := by decide +kernel
theorem dX12_image_33 : decode cX12_image 33 = .ok (.iconst 1, 1) := by decide +kernel
theorem dX12_image_34 : decode cX12_image 34 = .ok (.bastore, 1) := by decide +kernel
theorem dX12_image_35 : decode cX12_image 35 = .ok (.iconst 0, 1) := by decide +kernel
theorem dX12_image_36 : decode cX12_image 36 = .ok (.ireturn, 1) := by decide +kernel
theorem wrr_wsX12_back {i : Nat} {w : Cond} (h : wsX12_back[i]? = some w) : w ∈ wsX12_back := List.mem_of_getElem? h
theorem wru_wsX12_back_wsX120 : ∀ w ∈ wsX120, w ∈ wsX12_back := fun w h => (List.mem_cons_of_mem _ (List.mem_append_right _ h))
set_option maxRecDepth 20000 in
theorem ggX12_back_X12_in : GoodIn wsX12_back wsX12_in := goodIn_sub (List.forall_mem_cons.mpr ⟨wrr_wsX12_back (i := 7) rfl, (fun _ h => absurd h List.not_mem_nil)⟩) gw_wsX12_in
set_option maxRecDepth 20000 in
theorem gX12_back_X12_in : GoodIn wsX12_back (va_wsS RX12 85 yX12_in wsX12_in) := goodIn_app (goodIn_sub (List.forall_mem_cons.mpr ⟨wrr_wsX12_back (i := 4) rfl, (List.forall_mem_cons.mpr ⟨wrr_wsX12_back (i := 5) rfl, (List.forall_mem_cons.mpr ⟨wrr_wsX12_back (i := 6) rfl, (fun _ h => absurd h List.not_mem_nil)⟩)⟩)⟩) (by decide +kernel)) ggX12_back_X12_in
set_option maxRecDepth 20000 in
theorem ggX12_back_X12_copyDance : GoodIn wsX12_back wsX12_copyDance := goodIn_sub (List.forall_mem_cons.mpr ⟨wrr_wsX12_back (i := 11) rfl, (List.forall_mem_append.mpr ⟨(List.forall_mem_cons.mpr ⟨wrr_wsX12_back (i := 12) rfl, (List.forall_mem_cons.mpr ⟨wrr_wsX12_back (i := 13) rfl, (List.forall_mem_cons.mpr ⟨wrr_wsX12_back (i := 14) rfl, (List.forall_mem_cons.mpr ⟨wrr_wsX12_back (i := 15) rfl, (List.forall_mem_cons.mpr ⟨wrr_wsX12_back (i := 16) rfl, (List.forall_mem_cons.mpr ⟨wrr_wsX12_back (i := 17) rfl, (List.forall_mem_cons.mpr ⟨wrr_wsX12_back (i := 18) rfl, (List.forall_mem_cons.mpr ⟨wrr_wsX12_back (i := 19) rfl, (List.forall_mem_cons.mpr ⟨wrr_wsX12_back (i := 20) rfl, (List.forall_mem_cons.mpr ⟨wrr_wsX12_back (i := 21) rfl, (List.forall_mem_cons.mpr ⟨wrr_wsX12_back (i := 22) rfl, (List.forall_mem_cons.mpr ⟨wrr_wsX12_back (i := 6) rfl, (List.forall_mem_cons.mpr ⟨wrr_wsX12_back (i := 23) rfl, (fun _ h => absurd h List.not_mem_nil)⟩)⟩)⟩)⟩)⟩)⟩)⟩)⟩)⟩)⟩)⟩)⟩)⟩), wru_wsX12_back_wsX120⟩)⟩) gw_wsX12_copyDance
set_option maxRecDepth 20000 in
theorem gX12_back_X12_copyDance : GoodIn wsX12_back (wsV RX12 247 RX12 yX12_copyDance wsX12_copyDance) := goodIn_app (goodIn_sub (List.forall_mem_cons.mpr ⟨wrr_wsX12_back (i := 8) rfl, (List.forall_mem_cons.mpr ⟨wrr_wsX12_back (i := 9) rfl, (List.forall_mem_cons.mpr ⟨wrr_wsX12_back (i := 10) rfl, (List.forall_mem_cons.mpr ⟨wrr_wsX12_back (i := 6) rfl, (fun _ h => absurd h List.not_mem_nil)⟩)⟩)⟩)⟩) (by decide +kernel)) ggX12_back_X12_copyDance
theorem dX12_back_0 : decode cX12_back 0 = .ok (.aload_n 0, 1) := by decide +kernel
theorem dX12_back_1 : decode cX12_back 1 = .ok (.iconst 0, 1) := by decide +kernel
theorem dX12_back_2 : decode cX12_back 2 = .ok (.putfield 80, 3) := by decide +kernel
theorem dX12_back_5 : decode cX12_back 5 = .ok (.iload_n 1, 1) := by decide +kernel
theorem dX12_back_6 : decode cX12_back 6 = .ok (.i2l, 1) := by decide +kernel
theorem dX12_back_7 : decode cX12_back 7 = .ok (.lconst 0, 1) := by decide +kernel
theorem dX12_back_8 : decode cX12_back 8 = .ok (.ldc2_w 477, 3) := by decide +kernel
theorem dX12_back_11 : decode cX12_back 11 = .ok (.invokestatic 85, 3) := by decide +kernel
theorem dX12_back_14 : decode cX12_back 14 = .ok (.ifCond .ne 6, 3) := by decide +kernel
theorem dX12_back_17 : decode cX12_back 17 = .ok (.bipush (-2), 2) := by decide +kernel
theorem dX12_back_19 : decode cX12_back 19 = .ok (.ireturn, 1) := by decide +kernel
theorem dX12_back_20 : decode cX12_back 20 = .ok (.aload_n 0, 1) := by decide +kernel
theorem dX12_back_21 : decode cX12_back 21 = .ok (.getfield 59, 3) := by decide +kernel
theorem dX12_back_24 : decode cX12_back 24 = .ok (.iload_n 1, 1) := by decide +kernel
theorem dX12_back_25 : decode cX12_back 25 = .ok (.baload, 1) := by decide +kernel
theorem dX12_back_26 : decode cX12_back 26 = .ok (.ifCond .ne 6, 3) := by decide +kernel
theorem dX12_back_29 : decode cX12_back 29 = .ok (.bipush (-6), 2) := by decide +kernel
theorem dX12_back_31 : decode cX12_back 31 = .ok (.ireturn, 1) := by decide +kernel
theorem dX12_back_32 : decode cX12_back 32 = .ok (.aload_n 0, 1) := by decide +kernel
theorem dX12_back_33 : decode cX12_back 33 = .ok (.iconst 1, 1) := by decide +kernel
theorem dX12_back_34 : decode cX12_back 34 = .ok (.iload_n 1, 1) := by decide +kernel
theorem dX12_back_35 : decode cX12_back 35 = .ok (.iadd, 1) := by decide +kernel
theorem dX12_back_36 : decode cX12_back 36 = .ok (.iconst 0, 1) := by decide +kernel
theorem dX12_back_37 : decode cX12_back 37 = .ok (.invokevirtual 247, 3) := by decide +kernel
theorem dX12_back_40 : decode cX12_back 40 = .ok (.iconst 0, 1) := by decide +kernel
theorem dX12_back_41 : decode cX12_back 41 = .ok (.ireturn, 1) := by decide +kernel
