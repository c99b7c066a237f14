abbrev cX12_mayBe : ByteArray := prog_14_method_82_code
def yX12_mayBe : MethodName := ⟨RX12, "mayBe", "(II)I"⟩
abbrev cX12_mendedOf : ByteArray := prog_14_method_83_code
def yX12_mendedOf : MethodName := ⟨RX12, "mendedOf", "(II)I"⟩
abbrev cX12_stuckOf : ByteArray := prog_14_method_84_code
def yX12_stuckOf : MethodName := ⟨RX12, "stuckOf", "(I)I"⟩
abbrev cX12_mend : ByteArray := prog_14_method_85_code
def yX12_mend : MethodName := ⟨RX12, "mend", "(I)I"⟩
abbrev cX12_mended : ByteArray := prog_14_method_86_code
def yX12_mended : MethodName := ⟨RX12, "mended", "(II)I"⟩
abbrev cX12_stuck : ByteArray := prog_14_method_87_code
def yX12_stuck : MethodName := ⟨RX12, "stuck", "(I)I"⟩
abbrev cX12_whyNot : ByteArray := prog_14_method_88_code
def yX12_whyNot : MethodName := ⟨RX12, "whyNot", "(II)I"⟩
abbrev cX12_isHeard : ByteArray := prog_14_method_89_code
def yX12_isHeard : MethodName := ⟨RX12, "isHeard", "(II)Z"⟩
abbrev cX12_laysFits : ByteArray := prog_14_method_90_code
def yX12_laysFits : MethodName := ⟨RX12, "laysFits", "(II)V"⟩
abbrev cX12_heard : ByteArray := prog_14_method_91_code
def yX12_heard : MethodName := ⟨RX12, "heard", "(II)I"⟩
abbrev cX12_first : ByteArray := prog_14_method_92_code
def yX12_first : MethodName := ⟨RX12, "first", "(II)I"⟩
abbrev cX12_when : ByteArray := prog_14_method_93_code
def yX12_when : MethodName := ⟨RX12, "when", "(II)J"⟩
abbrev cX12_listens : ByteArray := prog_14_method_94_code
def yX12_listens : MethodName := ⟨RX12, "listens", "(II)I"⟩
abbrev cX12_listen : ByteArray := prog_14_method_95_code
def yX12_listen : MethodName := ⟨RX12, "listen", "(II)I"⟩
abbrev cX12_leaves : ByteArray := prog_14_method_96_code
def yX12_leaves : MethodName := ⟨RX12, "leaves", "(II)I"⟩
abbrev cX12_walks : ByteArray := prog_14_method_97_code
def yX12_walks : MethodName := ⟨RX12, "walks", "(II)I"⟩
abbrev cX12_crosses : ByteArray := prog_14_method_99_code
def yX12_crosses : MethodName := ⟨RX12, "crosses", "(I)I"⟩
abbrev cX12_returns : ByteArray := prog_14_method_100_code
def yX12_returns : MethodName := ⟨RX12, "returns", "(I)I"⟩
abbrev cX12_laysMeet : ByteArray := prog_14_method_101_code
def yX12_laysMeet : MethodName := ⟨RX12, "laysMeet", "(II)V"⟩
abbrev cX12_meet : ByteArray := prog_14_method_102_code
def yX12_meet : MethodName := ⟨RX12, "meet", "(II)I"⟩
abbrev cX12_cell : ByteArray := prog_14_method_103_code
def yX12_cell : MethodName := ⟨RX12, "cell", "(II)I"⟩
abbrev cX12_longest : ByteArray := prog_14_method_104_code
def yX12_longest : MethodName := ⟨RX12, "longest", "()I"⟩
abbrev cX12_whyNotHalf : ByteArray := prog_14_method_105_code
def yX12_whyNotHalf : MethodName := ⟨RX12, "whyNotHalf", "(I)I"⟩
abbrev cX12_isHalf : ByteArray := prog_14_method_106_code
def yX12_isHalf : MethodName := ⟨RX12, "isHalf", "(II)Z"⟩
abbrev cX12_halfOf : ByteArray := prog_14_method_107_code
def yX12_halfOf : MethodName := ⟨RX12, "halfOf", "(I)I"⟩
abbrev cX12_half : ByteArray := prog_14_method_108_code
def yX12_half : MethodName := ⟨RX12, "half", "(I)I"⟩
abbrev cX12_fills : ByteArray := prog_14_method_109_code
def yX12_fills : MethodName := ⟨RX12, "fills", "(II)I"⟩
abbrev cX12_open : ByteArray := prog_14_method_110_code
def yX12_open : MethodName := ⟨RX12, "open", "(I)I"⟩
def wsX12_mayBe : List Cond := .code yX12_mayBe cX12_mayBe 9 (some .int) :: ([.fieldLink RX12 34 "OverHillModel" "has" "[I", .fieldLink RX12 40 "OverHillModel" "meets" "[I", .methodLink RX12 325 yX12_periodOf, .instanceMethod yX12_periodOf, .selects RX12 yX12_periodOf yX12_periodOf, .initialized RX12, .code yX12_periodOf cX12_periodOf 1 (some .int), .methodLink RX12 264 yX12_lengthOf, .instanceMethod yX12_lengthOf, .selects RX12 yX12_lengthOf yX12_lengthOf, .code yX12_lengthOf cX12_lengthOf 2 (some .int), .methodLink RX12 315 yX12_common, .static yX12_common, .code yX12_common cX12_common 2 (some .int), .methodLink RX12 328 yX12_plain, .instanceMethod yX12_plain, .selects RX12 yX12_plain yX12_plain, .code yX12_plain cX12_plain 4 (some .int), .fieldLink RX12 37 "OverHillModel" "round" "[I", .methodLink RX12 280 yX12_isBit, .static yX12_isBit, .code yX12_isBit cX12_isBit 2 (some .boolean)] ++ wsX120)
def wsX12_mendedOf_r1 : List Cond := [Cond.fieldLink RX12 37 "OverHillModel" "round" "[I", Cond.methodLink RX12 334 yX12_mayBe, Cond.instanceMethod yX12_mayBe, Cond.selects RX12 yX12_mayBe yX12_mayBe, Cond.initialized RX12, Cond.code yX12_mayBe cX12_mayBe 9 (some .int), Cond.fieldLink RX12 34 "OverHillModel" "has" "[I", Cond.fieldLink RX12 40 "OverHillModel" "meets" "[I", Cond.methodLink RX12 325 yX12_periodOf, Cond.instanceMethod yX12_periodOf, Cond.selects RX12 yX12_periodOf yX12_periodOf, Cond.code yX12_periodOf cX12_periodOf 1 (some .int), Cond.methodLink RX12 264 yX12_lengthOf, Cond.instanceMethod yX12_lengthOf, Cond.selects RX12 yX12_lengthOf yX12_lengthOf, Cond.code yX12_lengthOf cX12_lengthOf 2 (some .int), Cond.methodLink RX12 315 yX12_common, Cond.static yX12_common, Cond.code yX12_common cX12_common 2 (some .int), Cond.methodLink RX12 328 yX12_plain, Cond.instanceMethod yX12_plain, Cond.selects RX12 yX12_plain yX12_plain, Cond.code yX12_plain cX12_plain 4 (some .int), Cond.methodLink RX12 280 yX12_isBit]
def wsX12_mendedOf_r2 : List Cond := [Cond.static yX12_isBit, Cond.code yX12_isBit cX12_isBit 2 (some .boolean)]
def wsX12_mendedOf : List Cond := .code yX12_mendedOf cX12_mendedOf 6 (some .int) :: ((wsX12_mendedOf_r1 ++ wsX12_mendedOf_r2) ++ wsX120)
def wsX12_stuckOf_r1 : List Cond := [Cond.methodLink RX12 264 yX12_lengthOf, Cond.instanceMethod yX12_lengthOf, Cond.selects RX12 yX12_lengthOf yX12_lengthOf, Cond.initialized RX12, Cond.code yX12_lengthOf cX12_lengthOf 2 (some .int), Cond.fieldLink RX12 34 "OverHillModel" "has" "[I", Cond.methodLink RX12 337 yX12_mendedOf, Cond.instanceMethod yX12_mendedOf, Cond.selects RX12 yX12_mendedOf yX12_mendedOf, Cond.code yX12_mendedOf cX12_mendedOf 6 (some .int), Cond.fieldLink RX12 37 "OverHillModel" "round" "[I", Cond.methodLink RX12 334 yX12_mayBe, Cond.instanceMethod yX12_mayBe, Cond.selects RX12 yX12_mayBe yX12_mayBe, Cond.code yX12_mayBe cX12_mayBe 9 (some .int), Cond.fieldLink RX12 40 "OverHillModel" "meets" "[I", Cond.methodLink RX12 325 yX12_periodOf, Cond.instanceMethod yX12_periodOf, Cond.selects RX12 yX12_periodOf yX12_periodOf, Cond.code yX12_periodOf cX12_periodOf 1 (some .int), Cond.methodLink RX12 315 yX12_common, Cond.static yX12_common, Cond.code yX12_common cX12_common 2 (some .int), Cond.methodLink RX12 328 yX12_plain]
def wsX12_stuckOf_r2 : List Cond := [Cond.instanceMethod yX12_plain, Cond.selects RX12 yX12_plain yX12_plain, Cond.code yX12_plain cX12_plain 4 (some .int), Cond.methodLink RX12 280 yX12_isBit, Cond.static yX12_isBit, Cond.code yX12_isBit cX12_isBit 2 (some .boolean)]
def wsX12_stuckOf : List Cond := .code yX12_stuckOf cX12_stuckOf 3 (some .int) :: ((wsX12_stuckOf_r1 ++ wsX12_stuckOf_r2) ++ wsX120)
def wsX12_mend_r1 : List Cond := [Cond.fieldLink RX12 80 "OverHillModel" "thrown" "I", Cond.fieldLink RX12 37 "OverHillModel" "round" "[I", Cond.methodLink RX12 261 yX12_isSide, Cond.instanceMethod yX12_isSide, Cond.selects RX12 yX12_isSide yX12_isSide, Cond.initialized RX12, Cond.code yX12_isSide cX12_isSide 2 (some .boolean), Cond.methodLink RX12 254 yX12_isDance, Cond.instanceMethod yX12_isDance, Cond.selects RX12 yX12_isDance yX12_isDance, Cond.code yX12_isDance cX12_isDance 1 (some .boolean), Cond.fieldLink RX12 31 "OverHillModel" "lines" "[I", Cond.methodLink RX12 85 yX12_in, Cond.static yX12_in, Cond.code yX12_in cX12_in 6 (some .boolean), Cond.methodLink RX12 322 yX12_areRounds, Cond.instanceMethod yX12_areRounds, Cond.selects RX12 yX12_areRounds yX12_areRounds, Cond.code yX12_areRounds cX12_areRounds 1 (some .boolean), Cond.fieldLink RX12 34 "OverHillModel" "has" "[I", Cond.methodLink RX12 340 yX12_stuckOf, Cond.instanceMethod yX12_stuckOf, Cond.selects RX12 yX12_stuckOf yX12_stuckOf, Cond.code yX12_stuckOf cX12_stuckOf 3 (some .int)]
def wsX12_mend_r2 : List Cond := [Cond.methodLink RX12 264 yX12_lengthOf, Cond.instanceMethod yX12_lengthOf, Cond.selects RX12 yX12_lengthOf yX12_lengthOf, Cond.code yX12_lengthOf cX12_lengthOf 2 (some .int), Cond.methodLink RX12 337 yX12_mendedOf, Cond.instanceMethod yX12_mendedOf, Cond.selects RX12 yX12_mendedOf yX12_mendedOf, Cond.code yX12_mendedOf cX12_mendedOf 6 (some .int), Cond.methodLink RX12 334 yX12_mayBe, Cond.instanceMethod yX12_mayBe, Cond.selects RX12 yX12_mayBe yX12_mayBe, Cond.code yX12_mayBe cX12_mayBe 9 (some .int), Cond.fieldLink RX12 40 "OverHillModel" "meets" "[I", Cond.methodLink RX12 325 yX12_periodOf, Cond.instanceMethod yX12_periodOf, Cond.selects RX12 yX12_periodOf yX12_periodOf, Cond.code yX12_periodOf cX12_periodOf 1 (some .int), Cond.methodLink RX12 315 yX12_common, Cond.static yX12_common, Cond.code yX12_common cX12_common 2 (some .int), Cond.methodLink RX12 328 yX12_plain, Cond.instanceMethod yX12_plain, Cond.selects RX12 yX12_plain yX12_plain, Cond.code yX12_plain cX12_plain 4 (some .int)]
def wsX12_mend_r3 : List Cond := [Cond.methodLink RX12 280 yX12_isBit, Cond.static yX12_isBit, Cond.code yX12_isBit cX12_isBit 2 (some .boolean)]
def wsX12_mend : List Cond := .code yX12_mend cX12_mend 4 (some .int) :: ((wsX12_mend_r1 ++ (wsX12_mend_r2 ++ wsX12_mend_r3)) ++ wsX120)
def wsX12_mended_r1 : List Cond := [Cond.fieldLink RX12 80 "OverHillModel" "thrown" "I", Cond.methodLink RX12 261 yX12_isSide, Cond.instanceMethod yX12_isSide, Cond.selects RX12 yX12_isSide yX12_isSide, Cond.initialized RX12, Cond.code yX12_isSide cX12_isSide 2 (some .boolean), Cond.methodLink RX12 254 yX12_isDance, Cond.instanceMethod yX12_isDance, Cond.selects RX12 yX12_isDance yX12_isDance, Cond.code yX12_isDance cX12_isDance 1 (some .boolean), Cond.fieldLink RX12 31 "OverHillModel" "lines" "[I", Cond.methodLink RX12 85 yX12_in, Cond.static yX12_in, Cond.code yX12_in cX12_in 6 (some .boolean), Cond.methodLink RX12 322 yX12_areRounds, Cond.instanceMethod yX12_areRounds, Cond.selects RX12 yX12_areRounds yX12_areRounds, Cond.code yX12_areRounds cX12_areRounds 1 (some .boolean), Cond.fieldLink RX12 34 "OverHillModel" "has" "[I", Cond.methodLink RX12 264 yX12_lengthOf, Cond.instanceMethod yX12_lengthOf, Cond.selects RX12 yX12_lengthOf yX12_lengthOf, Cond.code yX12_lengthOf cX12_lengthOf 2 (some .int), Cond.methodLink RX12 340 yX12_stuckOf]
def wsX12_mended_r2 : List Cond := [Cond.instanceMethod yX12_stuckOf, Cond.selects RX12 yX12_stuckOf yX12_stuckOf, Cond.code yX12_stuckOf cX12_stuckOf 3 (some .int), Cond.methodLink RX12 337 yX12_mendedOf, Cond.instanceMethod yX12_mendedOf, Cond.selects RX12 yX12_mendedOf yX12_mendedOf, Cond.code yX12_mendedOf cX12_mendedOf 6 (some .int), Cond.fieldLink RX12 37 "OverHillModel" "round" "[I", Cond.methodLink RX12 334 yX12_mayBe, Cond.instanceMethod yX12_mayBe, Cond.selects RX12 yX12_mayBe yX12_mayBe, Cond.code yX12_mayBe cX12_mayBe 9 (some .int), Cond.fieldLink RX12 40 "OverHillModel" "meets" "[I", Cond.methodLink RX12 325 yX12_periodOf, Cond.instanceMethod yX12_periodOf, Cond.selects RX12 yX12_periodOf yX12_periodOf, Cond.code yX12_periodOf cX12_periodOf 1 (some .int), Cond.methodLink RX12 315 yX12_common, Cond.static yX12_common, Cond.code yX12_common cX12_common 2 (some .int), Cond.methodLink RX12 328 yX12_plain, Cond.instanceMethod yX12_plain, Cond.selects RX12 yX12_plain yX12_plain, Cond.code yX12_plain cX12_plain 4 (some .int)]
def wsX12_mended_r3 : List Cond := [Cond.methodLink RX12 280 yX12_isBit, Cond.static yX12_isBit, Cond.code yX12_isBit cX12_isBit 2 (some .boolean)]
def wsX12_mended : List Cond := .code yX12_mended cX12_mended 3 (some .int) :: ((wsX12_mended_r1 ++ (wsX12_mended_r2 ++ wsX12_mended_r3)) ++ wsX120)
def wsX12_stuck_r1 : List Cond := [Cond.fieldLink RX12 80 "OverHillModel" "thrown" "I", Cond.methodLink RX12 261 yX12_isSide, Cond.instanceMethod yX12_isSide, Cond.selects RX12 yX12_isSide yX12_isSide, Cond.initialized RX12, Cond.code yX12_isSide cX12_isSide 2 (some .boolean), Cond.methodLink RX12 254 yX12_isDance, Cond.instanceMethod yX12_isDance, Cond.selects RX12 yX12_isDance yX12_isDance, Cond.code yX12_isDance cX12_isDance 1 (some .boolean), Cond.fieldLink RX12 31 "OverHillModel" "lines" "[I", Cond.methodLink RX12 85 yX12_in, Cond.static yX12_in, Cond.code yX12_in cX12_in 6 (some .boolean), Cond.methodLink RX12 322 yX12_areRounds, Cond.instanceMethod yX12_areRounds, Cond.selects RX12 yX12_areRounds yX12_areRounds, Cond.code yX12_areRounds cX12_areRounds 1 (some .boolean), Cond.fieldLink RX12 34 "OverHillModel" "has" "[I", Cond.methodLink RX12 340 yX12_stuckOf, Cond.instanceMethod yX12_stuckOf, Cond.selects RX12 yX12_stuckOf yX12_stuckOf, Cond.code yX12_stuckOf cX12_stuckOf 3 (some .int), Cond.methodLink RX12 264 yX12_lengthOf]
def wsX12_stuck_r2 : List Cond := [Cond.instanceMethod yX12_lengthOf, Cond.selects RX12 yX12_lengthOf yX12_lengthOf, Cond.code yX12_lengthOf cX12_lengthOf 2 (some .int), Cond.methodLink RX12 337 yX12_mendedOf, Cond.instanceMethod yX12_mendedOf, Cond.selects RX12 yX12_mendedOf yX12_mendedOf, Cond.code yX12_mendedOf cX12_mendedOf 6 (some .int), Cond.fieldLink RX12 37 "OverHillModel" "round" "[I", Cond.methodLink RX12 334 yX12_mayBe, Cond.instanceMethod yX12_mayBe, Cond.selects RX12 yX12_mayBe yX12_mayBe, Cond.code yX12_mayBe cX12_mayBe 9 (some .int), Cond.fieldLink RX12 40 "OverHillModel" "meets" "[I", Cond.methodLink RX12 325 yX12_periodOf, Cond.instanceMethod yX12_periodOf, Cond.selects RX12 yX12_periodOf yX12_periodOf, Cond.code yX12_periodOf cX12_periodOf 1 (some .int), Cond.methodLink RX12 315 yX12_common, Cond.static yX12_common, Cond.code yX12_common cX12_common 2 (some .int), Cond.methodLink RX12 328 yX12_plain, Cond.instanceMethod yX12_plain, Cond.selects RX12 yX12_plain yX12_plain, Cond.code yX12_plain cX12_plain 4 (some .int)]
def wsX12_stuck_r3 : List Cond := [Cond.methodLink RX12 280 yX12_isBit, Cond.static yX12_isBit, Cond.code yX12_isBit cX12_isBit 2 (some .boolean)]
def wsX12_stuck : List Cond := .code yX12_stuck cX12_stuck 2 (some .int) :: ((wsX12_stuck_r1 ++ (wsX12_stuck_r2 ++ wsX12_stuck_r3)) ++ wsX120)
def wsX12_whyNot_r1 : List Cond := [Cond.fieldLink RX12 7 "OverHillModel" "width" "[I", Cond.fieldLink RX12 13 "OverHillModel" "many" "[I", Cond.fieldLink RX12 16 "OverHillModel" "cells" "[J", Cond.constantLong RX12 124 (-1), Cond.constantLong RX12 259 (5), Cond.methodLink RX12 89 yX12_isSlot, Cond.static yX12_isSlot, Cond.initialized RX12, Cond.code yX12_isSlot cX12_isSlot 1 (some .boolean), Cond.constantLong RX12 83 (3), Cond.methodLink RX12 85 yX12_in, Cond.static yX12_in, Cond.code yX12_in cX12_in 6 (some .boolean), Cond.methodLink RX12 261 yX12_isSide, Cond.instanceMethod yX12_isSide, Cond.selects RX12 yX12_isSide yX12_isSide, Cond.code yX12_isSide cX12_isSide 2 (some .boolean), Cond.methodLink RX12 254 yX12_isDance, Cond.instanceMethod yX12_isDance, Cond.selects RX12 yX12_isDance yX12_isDance, Cond.code yX12_isDance cX12_isDance 1 (some .boolean), Cond.fieldLink RX12 31 "OverHillModel" "lines" "[I", Cond.methodLink RX12 270 yX12_isBeat, Cond.static yX12_isBeat]
def wsX12_whyNot_r2 : List Cond := [Cond.code yX12_isBeat cX12_isBeat 2 (some .boolean), Cond.constantLong RX12 257 (199)]
def wsX12_whyNot : List Cond := .code yX12_whyNot cX12_whyNot 4 (some .int) :: ((wsX12_whyNot_r1 ++ wsX12_whyNot_r2) ++ wsX120)
def wsX12_isHeard : List Cond := .code yX12_isHeard cX12_isHeard 4 (some .boolean) :: ([.fieldLink RX12 13 "OverHillModel" "many" "[I", .fieldLink RX12 16 "OverHillModel" "cells" "[J", .methodLink RX12 284 yX12_hearsAt, .instanceMethod yX12_hearsAt, .selects RX12 yX12_hearsAt yX12_hearsAt, .initialized RX12, .code yX12_hearsAt cX12_hearsAt 3 (some .int), .fieldLink RX12 34 "OverHillModel" "has" "[I", .fieldLink RX12 68 "OverHillModel" "danced" "[I"] ++ wsX120)
def wsX12_laysFits_r1 : List Cond := [Cond.fieldLink RX12 343 "OverHillModel" "fitMany" "I", Cond.fieldLink RX12 346 "OverHillModel" "fitFirst" "I", Cond.fieldLink RX12 349 "OverHillModel" "fitBeats" "J", Cond.fieldLink RX12 71 "OverHillModel" "heardBy" "[I", Cond.methodLink RX12 273 yX12_dances, Cond.instanceMethod yX12_dances, Cond.selects RX12 yX12_dances yX12_dances, Cond.initialized RX12, Cond.code yX12_dances cX12_dances 13 none, Cond.fieldLink RX12 34 "OverHillModel" "has" "[I", Cond.fieldLink RX12 65 "OverHillModel" "places" "[I", Cond.fieldLink RX12 68 "OverHillModel" "danced" "[I", Cond.fieldLink RX12 46 "OverHillModel" "isMud" "[Z", Cond.fieldLink RX12 37 "OverHillModel" "round" "[I", Cond.fieldLink RX12 43 "OverHillModel" "stumble" "[I", Cond.methodLink RX12 264 yX12_lengthOf, Cond.instanceMethod yX12_lengthOf, Cond.selects RX12 yX12_lengthOf yX12_lengthOf, Cond.code yX12_lengthOf cX12_lengthOf 2 (some .int), Cond.methodLink RX12 352 yX12_isHeard, Cond.instanceMethod yX12_isHeard, Cond.selects RX12 yX12_isHeard yX12_isHeard, Cond.code yX12_isHeard cX12_isHeard 4 (some .boolean), Cond.fieldLink RX12 13 "OverHillModel" "many" "[I"]
def wsX12_laysFits_r2 : List Cond := [Cond.fieldLink RX12 16 "OverHillModel" "cells" "[J", Cond.methodLink RX12 284 yX12_hearsAt, Cond.instanceMethod yX12_hearsAt, Cond.selects RX12 yX12_hearsAt yX12_hearsAt, Cond.code yX12_hearsAt cX12_hearsAt 3 (some .int)]
def wsX12_laysFits : List Cond := .code yX12_laysFits cX12_laysFits 6 none :: ((wsX12_laysFits_r1 ++ wsX12_laysFits_r2) ++ wsX120)
def wsX12_heard_r1 : List Cond := [Cond.fieldLink RX12 80 "OverHillModel" "thrown" "I", Cond.fieldLink RX12 343 "OverHillModel" "fitMany" "I", Cond.methodLink RX12 355 yX12_whyNot, Cond.instanceMethod yX12_whyNot, Cond.selects RX12 yX12_whyNot yX12_whyNot, Cond.initialized RX12, Cond.code yX12_whyNot cX12_whyNot 4 (some .int), Cond.fieldLink RX12 7 "OverHillModel" "width" "[I", Cond.fieldLink RX12 13 "OverHillModel" "many" "[I", Cond.fieldLink RX12 16 "OverHillModel" "cells" "[J", Cond.constantLong RX12 124 (-1), Cond.constantLong RX12 259 (5), Cond.methodLink RX12 89 yX12_isSlot, Cond.static yX12_isSlot, Cond.code yX12_isSlot cX12_isSlot 1 (some .boolean), Cond.constantLong RX12 83 (3), Cond.methodLink RX12 85 yX12_in, Cond.static yX12_in, Cond.code yX12_in cX12_in 6 (some .boolean), Cond.methodLink RX12 261 yX12_isSide, Cond.instanceMethod yX12_isSide, Cond.selects RX12 yX12_isSide yX12_isSide, Cond.code yX12_isSide cX12_isSide 2 (some .boolean), Cond.methodLink RX12 254 yX12_isDance]
def wsX12_heard_r2 : List Cond := [Cond.instanceMethod yX12_isDance, Cond.selects RX12 yX12_isDance yX12_isDance, Cond.code yX12_isDance cX12_isDance 1 (some .boolean), Cond.fieldLink RX12 31 "OverHillModel" "lines" "[I", Cond.methodLink RX12 270 yX12_isBeat, Cond.static yX12_isBeat, Cond.code yX12_isBeat cX12_isBeat 2 (some .boolean), Cond.constantLong RX12 257 (199), Cond.methodLink RX12 358 yX12_laysFits, Cond.instanceMethod yX12_laysFits, Cond.selects RX12 yX12_laysFits yX12_laysFits, Cond.code yX12_laysFits cX12_laysFits 6 none, Cond.fieldLink RX12 346 "OverHillModel" "fitFirst" "I", Cond.fieldLink RX12 349 "OverHillModel" "fitBeats" "J", Cond.fieldLink RX12 71 "OverHillModel" "heardBy" "[I", Cond.methodLink RX12 273 yX12_dances, Cond.instanceMethod yX12_dances, Cond.selects RX12 yX12_dances yX12_dances, Cond.code yX12_dances cX12_dances 13 none, Cond.fieldLink RX12 34 "OverHillModel" "has" "[I", Cond.fieldLink RX12 65 "OverHillModel" "places" "[I", Cond.fieldLink RX12 68 "OverHillModel" "danced" "[I", Cond.fieldLink RX12 46 "OverHillModel" "isMud" "[Z", Cond.fieldLink RX12 37 "OverHillModel" "round" "[I"]
def wsX12_heard_r3 : List Cond := [Cond.fieldLink RX12 43 "OverHillModel" "stumble" "[I", Cond.methodLink RX12 264 yX12_lengthOf, Cond.instanceMethod yX12_lengthOf, Cond.selects RX12 yX12_lengthOf yX12_lengthOf, Cond.code yX12_lengthOf cX12_lengthOf 2 (some .int), Cond.methodLink RX12 352 yX12_isHeard, Cond.instanceMethod yX12_isHeard, Cond.selects RX12 yX12_isHeard yX12_isHeard, Cond.code yX12_isHeard cX12_isHeard 4 (some .boolean), Cond.methodLink RX12 284 yX12_hearsAt, Cond.instanceMethod yX12_hearsAt, Cond.selects RX12 yX12_hearsAt yX12_hearsAt, Cond.code yX12_hearsAt cX12_hearsAt 3 (some .int)]
def wsX12_heard : List Cond := .code yX12_heard cX12_heard 4 (some .int) :: ((wsX12_heard_r1 ++ (wsX12_heard_r2 ++ wsX12_heard_r3)) ++ wsX120)
def wsX12_first_r1 : List Cond := [Cond.fieldLink RX12 80 "OverHillModel" "thrown" "I", Cond.fieldLink RX12 346 "OverHillModel" "fitFirst" "I", Cond.methodLink RX12 355 yX12_whyNot, Cond.instanceMethod yX12_whyNot, Cond.selects RX12 yX12_whyNot yX12_whyNot, Cond.initialized RX12, Cond.code yX12_whyNot cX12_whyNot 4 (some .int), Cond.fieldLink RX12 7 "OverHillModel" "width" "[I", Cond.fieldLink RX12 13 "OverHillModel" "many" "[I", Cond.fieldLink RX12 16 "OverHillModel" "cells" "[J", Cond.constantLong RX12 124 (-1), Cond.constantLong RX12 259 (5), Cond.methodLink RX12 89 yX12_isSlot, Cond.static yX12_isSlot, Cond.code yX12_isSlot cX12_isSlot 1 (some .boolean), Cond.constantLong RX12 83 (3), Cond.methodLink RX12 85 yX12_in, Cond.static yX12_in, Cond.code yX12_in cX12_in 6 (some .boolean), Cond.methodLink RX12 261 yX12_isSide, Cond.instanceMethod yX12_isSide, Cond.selects RX12 yX12_isSide yX12_isSide, Cond.code yX12_isSide cX12_isSide 2 (some .boolean), Cond.methodLink RX12 254 yX12_isDance]
def wsX12_first_r2 : List Cond := [Cond.instanceMethod yX12_isDance, Cond.selects RX12 yX12_isDance yX12_isDance, Cond.code yX12_isDance cX12_isDance 1 (some .boolean), Cond.fieldLink RX12 31 "OverHillModel" "lines" "[I", Cond.methodLink RX12 270 yX12_isBeat, Cond.static yX12_isBeat, Cond.code yX12_isBeat cX12_isBeat 2 (some .boolean), Cond.constantLong RX12 257 (199), Cond.methodLink RX12 358 yX12_laysFits, Cond.instanceMethod yX12_laysFits, Cond.selects RX12 yX12_laysFits yX12_laysFits, Cond.code yX12_laysFits cX12_laysFits 6 none, Cond.fieldLink RX12 343 "OverHillModel" "fitMany" "I", Cond.fieldLink RX12 349 "OverHillModel" "fitBeats" "J", Cond.fieldLink RX12 71 "OverHillModel" "heardBy" "[I", Cond.methodLink RX12 273 yX12_dances, Cond.instanceMethod yX12_dances, Cond.selects RX12 yX12_dances yX12_dances, Cond.code yX12_dances cX12_dances 13 none, Cond.fieldLink RX12 34 "OverHillModel" "has" "[I", Cond.fieldLink RX12 65 "OverHillModel" "places" "[I", Cond.fieldLink RX12 68 "OverHillModel" "danced" "[I", Cond.fieldLink RX12 46 "OverHillModel" "isMud" "[Z", Cond.fieldLink RX12 37 "OverHillModel" "round" "[I"]
def wsX12_first_r3 : List Cond := [Cond.fieldLink RX12 43 "OverHillModel" "stumble" "[I", Cond.methodLink RX12 264 yX12_lengthOf, Cond.instanceMethod yX12_lengthOf, Cond.selects RX12 yX12_lengthOf yX12_lengthOf, Cond.code yX12_lengthOf cX12_lengthOf 2 (some .int), Cond.methodLink RX12 352 yX12_isHeard, Cond.instanceMethod yX12_isHeard, Cond.selects RX12 yX12_isHeard yX12_isHeard, Cond.code yX12_isHeard cX12_isHeard 4 (some .boolean), Cond.methodLink RX12 284 yX12_hearsAt, Cond.instanceMethod yX12_hearsAt, Cond.selects RX12 yX12_hearsAt yX12_hearsAt, Cond.code yX12_hearsAt cX12_hearsAt 3 (some .int)]
def wsX12_first : List Cond := .code yX12_first cX12_first 4 (some .int) :: ((wsX12_first_r1 ++ (wsX12_first_r2 ++ wsX12_first_r3)) ++ wsX120)
def wsX12_when_r1 : List Cond := [Cond.fieldLink RX12 80 "OverHillModel" "thrown" "I", Cond.fieldLink RX12 349 "OverHillModel" "fitBeats" "J", Cond.methodLink RX12 355 yX12_whyNot, Cond.instanceMethod yX12_whyNot, Cond.selects RX12 yX12_whyNot yX12_whyNot, Cond.initialized RX12, Cond.code yX12_whyNot cX12_whyNot 4 (some .int), Cond.fieldLink RX12 7 "OverHillModel" "width" "[I", Cond.fieldLink RX12 13 "OverHillModel" "many" "[I", Cond.fieldLink RX12 16 "OverHillModel" "cells" "[J", Cond.constantLong RX12 124 (-1), Cond.constantLong RX12 259 (5), Cond.methodLink RX12 89 yX12_isSlot, Cond.static yX12_isSlot, Cond.code yX12_isSlot cX12_isSlot 1 (some .boolean), Cond.constantLong RX12 83 (3), Cond.methodLink RX12 85 yX12_in, Cond.static yX12_in, Cond.code yX12_in cX12_in 6 (some .boolean), Cond.methodLink RX12 261 yX12_isSide, Cond.instanceMethod yX12_isSide, Cond.selects RX12 yX12_isSide yX12_isSide, Cond.code yX12_isSide cX12_isSide 2 (some .boolean), Cond.methodLink RX12 254 yX12_isDance]
def wsX12_when_r2 : List Cond := [Cond.instanceMethod yX12_isDance, Cond.selects RX12 yX12_isDance yX12_isDance, Cond.code yX12_isDance cX12_isDance 1 (some .boolean), Cond.fieldLink RX12 31 "OverHillModel" "lines" "[I", Cond.methodLink RX12 270 yX12_isBeat, Cond.static yX12_isBeat, Cond.code yX12_isBeat cX12_isBeat 2 (some .boolean), Cond.constantLong RX12 257 (199), Cond.methodLink RX12 358 yX12_laysFits, Cond.instanceMethod yX12_laysFits, Cond.selects RX12 yX12_laysFits yX12_laysFits, Cond.code yX12_laysFits cX12_laysFits 6 none, Cond.fieldLink RX12 343 "OverHillModel" "fitMany" "I", Cond.fieldLink RX12 346 "OverHillModel" "fitFirst" "I", Cond.fieldLink RX12 71 "OverHillModel" "heardBy" "[I", Cond.methodLink RX12 273 yX12_dances, Cond.instanceMethod yX12_dances, Cond.selects RX12 yX12_dances yX12_dances, Cond.code yX12_dances cX12_dances 13 none, Cond.fieldLink RX12 34 "OverHillModel" "has" "[I", Cond.fieldLink RX12 65 "OverHillModel" "places" "[I", Cond.fieldLink RX12 68 "OverHillModel" "danced" "[I", Cond.fieldLink RX12 46 "OverHillModel" "isMud" "[Z", Cond.fieldLink RX12 37 "OverHillModel" "round" "[I"]
def wsX12_when_r3 : List Cond := [Cond.fieldLink RX12 43 "OverHillModel" "stumble" "[I", Cond.methodLink RX12 264 yX12_lengthOf, Cond.instanceMethod yX12_lengthOf, Cond.selects RX12 yX12_lengthOf yX12_lengthOf, Cond.code yX12_lengthOf cX12_lengthOf 2 (some .int), Cond.methodLink RX12 352 yX12_isHeard, Cond.instanceMethod yX12_isHeard, Cond.selects RX12 yX12_isHeard yX12_isHeard, Cond.code yX12_isHeard cX12_isHeard 4 (some .boolean), Cond.methodLink RX12 284 yX12_hearsAt, Cond.instanceMethod yX12_hearsAt, Cond.selects RX12 yX12_hearsAt yX12_hearsAt, Cond.code yX12_hearsAt cX12_hearsAt 3 (some .int)]
def wsX12_when : List Cond := .code yX12_when cX12_when 4 (some .long) :: ((wsX12_when_r1 ++ (wsX12_when_r2 ++ wsX12_when_r3)) ++ wsX120)
def wsX12_listens_r1 : List Cond := [Cond.fieldLink RX12 343 "OverHillModel" "fitMany" "I", Cond.fieldLink RX12 361 "OverHillModel" "listenLeaves" "I", Cond.fieldLink RX12 71 "OverHillModel" "heardBy" "[I", Cond.methodLink RX12 358 yX12_laysFits, Cond.instanceMethod yX12_laysFits, Cond.selects RX12 yX12_laysFits yX12_laysFits, Cond.initialized RX12, Cond.code yX12_laysFits cX12_laysFits 6 none, Cond.fieldLink RX12 346 "OverHillModel" "fitFirst" "I", Cond.fieldLink RX12 349 "OverHillModel" "fitBeats" "J", Cond.methodLink RX12 273 yX12_dances, Cond.instanceMethod yX12_dances, Cond.selects RX12 yX12_dances yX12_dances, Cond.code yX12_dances cX12_dances 13 none, Cond.fieldLink RX12 34 "OverHillModel" "has" "[I", Cond.fieldLink RX12 65 "OverHillModel" "places" "[I", Cond.fieldLink RX12 68 "OverHillModel" "danced" "[I", Cond.fieldLink RX12 46 "OverHillModel" "isMud" "[Z", Cond.fieldLink RX12 37 "OverHillModel" "round" "[I", Cond.fieldLink RX12 43 "OverHillModel" "stumble" "[I", Cond.methodLink RX12 264 yX12_lengthOf, Cond.instanceMethod yX12_lengthOf, Cond.selects RX12 yX12_lengthOf yX12_lengthOf, Cond.code yX12_lengthOf cX12_lengthOf 2 (some .int)]
def wsX12_listens_r2 : List Cond := [Cond.methodLink RX12 352 yX12_isHeard, Cond.instanceMethod yX12_isHeard, Cond.selects RX12 yX12_isHeard yX12_isHeard, Cond.code yX12_isHeard cX12_isHeard 4 (some .boolean), Cond.fieldLink RX12 13 "OverHillModel" "many" "[I", Cond.fieldLink RX12 16 "OverHillModel" "cells" "[J", Cond.methodLink RX12 284 yX12_hearsAt, Cond.instanceMethod yX12_hearsAt, Cond.selects RX12 yX12_hearsAt yX12_hearsAt, Cond.code yX12_hearsAt cX12_hearsAt 3 (some .int)]
def wsX12_listens : List Cond := .code yX12_listens cX12_listens 7 (some .int) :: ((wsX12_listens_r1 ++ wsX12_listens_r2) ++ wsX120)
def wsX12_listen_r1 : List Cond := [Cond.fieldLink RX12 80 "OverHillModel" "thrown" "I", Cond.methodLink RX12 355 yX12_whyNot, Cond.instanceMethod yX12_whyNot, Cond.selects RX12 yX12_whyNot yX12_whyNot, Cond.initialized RX12, Cond.code yX12_whyNot cX12_whyNot 4 (some .int), Cond.fieldLink RX12 7 "OverHillModel" "width" "[I", Cond.fieldLink RX12 13 "OverHillModel" "many" "[I", Cond.fieldLink RX12 16 "OverHillModel" "cells" "[J", Cond.constantLong RX12 124 (-1), Cond.constantLong RX12 259 (5), Cond.methodLink RX12 89 yX12_isSlot, Cond.static yX12_isSlot, Cond.code yX12_isSlot cX12_isSlot 1 (some .boolean), Cond.constantLong RX12 83 (3), Cond.methodLink RX12 85 yX12_in, Cond.static yX12_in, Cond.code yX12_in cX12_in 6 (some .boolean), Cond.methodLink RX12 261 yX12_isSide, Cond.instanceMethod yX12_isSide, Cond.selects RX12 yX12_isSide yX12_isSide, Cond.code yX12_isSide cX12_isSide 2 (some .boolean), Cond.methodLink RX12 254 yX12_isDance, Cond.instanceMethod yX12_isDance]
def wsX12_listen_r2 : List Cond := [Cond.selects RX12 yX12_isDance yX12_isDance, Cond.code yX12_isDance cX12_isDance 1 (some .boolean), Cond.fieldLink RX12 31 "OverHillModel" "lines" "[I", Cond.methodLink RX12 270 yX12_isBeat, Cond.static yX12_isBeat, Cond.code yX12_isBeat cX12_isBeat 2 (some .boolean), Cond.constantLong RX12 257 (199), Cond.methodLink RX12 364 yX12_listens, Cond.instanceMethod yX12_listens, Cond.selects RX12 yX12_listens yX12_listens, Cond.code yX12_listens cX12_listens 7 (some .int), Cond.fieldLink RX12 343 "OverHillModel" "fitMany" "I", Cond.fieldLink RX12 361 "OverHillModel" "listenLeaves" "I", Cond.fieldLink RX12 71 "OverHillModel" "heardBy" "[I", Cond.methodLink RX12 358 yX12_laysFits, Cond.instanceMethod yX12_laysFits, Cond.selects RX12 yX12_laysFits yX12_laysFits, Cond.code yX12_laysFits cX12_laysFits 6 none, Cond.fieldLink RX12 346 "OverHillModel" "fitFirst" "I", Cond.fieldLink RX12 349 "OverHillModel" "fitBeats" "J", Cond.methodLink RX12 273 yX12_dances, Cond.instanceMethod yX12_dances, Cond.selects RX12 yX12_dances yX12_dances, Cond.code yX12_dances cX12_dances 13 none]
def wsX12_listen_r3 : List Cond := [Cond.fieldLink RX12 34 "OverHillModel" "has" "[I", Cond.fieldLink RX12 65 "OverHillModel" "places" "[I", Cond.fieldLink RX12 68 "OverHillModel" "danced" "[I", Cond.fieldLink RX12 46 "OverHillModel" "isMud" "[Z", Cond.fieldLink RX12 37 "OverHillModel" "round" "[I", Cond.fieldLink RX12 43 "OverHillModel" "stumble" "[I", Cond.methodLink RX12 264 yX12_lengthOf, Cond.instanceMethod yX12_lengthOf, Cond.selects RX12 yX12_lengthOf yX12_lengthOf, Cond.code yX12_lengthOf cX12_lengthOf 2 (some .int), Cond.methodLink RX12 352 yX12_isHeard, Cond.instanceMethod yX12_isHeard, Cond.selects RX12 yX12_isHeard yX12_isHeard, Cond.code yX12_isHeard cX12_isHeard 4 (some .boolean), Cond.methodLink RX12 284 yX12_hearsAt, Cond.instanceMethod yX12_hearsAt, Cond.selects RX12 yX12_hearsAt yX12_hearsAt, Cond.code yX12_hearsAt cX12_hearsAt 3 (some .int)]
def wsX12_listen : List Cond := .code yX12_listen cX12_listen 4 (some .int) :: ((wsX12_listen_r1 ++ (wsX12_listen_r2 ++ wsX12_listen_r3)) ++ wsX120)
def wsX12_leaves_r1 : List Cond := [Cond.fieldLink RX12 80 "OverHillModel" "thrown" "I", Cond.fieldLink RX12 361 "OverHillModel" "listenLeaves" "I", Cond.methodLink RX12 355 yX12_whyNot, Cond.instanceMethod yX12_whyNot, Cond.selects RX12 yX12_whyNot yX12_whyNot, Cond.initialized RX12, Cond.code yX12_whyNot cX12_whyNot 4 (some .int), Cond.fieldLink RX12 7 "OverHillModel" "width" "[I", Cond.fieldLink RX12 13 "OverHillModel" "many" "[I", Cond.fieldLink RX12 16 "OverHillModel" "cells" "[J", Cond.constantLong RX12 124 (-1), Cond.constantLong RX12 259 (5), Cond.methodLink RX12 89 yX12_isSlot, Cond.static yX12_isSlot, Cond.code yX12_isSlot cX12_isSlot 1 (some .boolean), Cond.constantLong RX12 83 (3), Cond.methodLink RX12 85 yX12_in, Cond.static yX12_in, Cond.code yX12_in cX12_in 6 (some .boolean), Cond.methodLink RX12 261 yX12_isSide, Cond.instanceMethod yX12_isSide, Cond.selects RX12 yX12_isSide yX12_isSide, Cond.code yX12_isSide cX12_isSide 2 (some .boolean), Cond.methodLink RX12 254 yX12_isDance]
def wsX12_leaves_r2 : List Cond := [Cond.instanceMethod yX12_isDance, Cond.selects RX12 yX12_isDance yX12_isDance, Cond.code yX12_isDance cX12_isDance 1 (some .boolean), Cond.fieldLink RX12 31 "OverHillModel" "lines" "[I", Cond.methodLink RX12 270 yX12_isBeat, Cond.static yX12_isBeat, Cond.code yX12_isBeat cX12_isBeat 2 (some .boolean), Cond.constantLong RX12 257 (199), Cond.methodLink RX12 364 yX12_listens, Cond.instanceMethod yX12_listens, Cond.selects RX12 yX12_listens yX12_listens, Cond.code yX12_listens cX12_listens 7 (some .int), Cond.fieldLink RX12 343 "OverHillModel" "fitMany" "I", Cond.fieldLink RX12 71 "OverHillModel" "heardBy" "[I", Cond.methodLink RX12 358 yX12_laysFits, Cond.instanceMethod yX12_laysFits, Cond.selects RX12 yX12_laysFits yX12_laysFits, Cond.code yX12_laysFits cX12_laysFits 6 none, Cond.fieldLink RX12 346 "OverHillModel" "fitFirst" "I", Cond.fieldLink RX12 349 "OverHillModel" "fitBeats" "J", Cond.methodLink RX12 273 yX12_dances, Cond.instanceMethod yX12_dances, Cond.selects RX12 yX12_dances yX12_dances, Cond.code yX12_dances cX12_dances 13 none]
def wsX12_leaves_r3 : List Cond := [Cond.fieldLink RX12 34 "OverHillModel" "has" "[I", Cond.fieldLink RX12 65 "OverHillModel" "places" "[I", Cond.fieldLink RX12 68 "OverHillModel" "danced" "[I", Cond.fieldLink RX12 46 "OverHillModel" "isMud" "[Z", Cond.fieldLink RX12 37 "OverHillModel" "round" "[I", Cond.fieldLink RX12 43 "OverHillModel" "stumble" "[I", Cond.methodLink RX12 264 yX12_lengthOf, Cond.instanceMethod yX12_lengthOf, Cond.selects RX12 yX12_lengthOf yX12_lengthOf, Cond.code yX12_lengthOf cX12_lengthOf 2 (some .int), Cond.methodLink RX12 352 yX12_isHeard, Cond.instanceMethod yX12_isHeard, Cond.selects RX12 yX12_isHeard yX12_isHeard, Cond.code yX12_isHeard cX12_isHeard 4 (some .boolean), Cond.methodLink RX12 284 yX12_hearsAt, Cond.instanceMethod yX12_hearsAt, Cond.selects RX12 yX12_hearsAt yX12_hearsAt, Cond.code yX12_hearsAt cX12_hearsAt 3 (some .int)]
def wsX12_leaves : List Cond := .code yX12_leaves cX12_leaves 4 (some .int) :: ((wsX12_leaves_r1 ++ (wsX12_leaves_r2 ++ wsX12_leaves_r3)) ++ wsX120)
def wsX12_walks : List Cond := .code yX12_walks cX12_walks 6 (some .int) :: ([.fieldLink RX12 34 "OverHillModel" "has" "[I", .fieldLink RX12 50 "OverHillModel" "cell" "[I", .fieldLink RX12 74 "OverHillModel" "there" "[I"] ++ wsX120)
def wsX12_crosses : List Cond := .code yX12_crosses cX12_crosses 2 (some .int) :: ([.fieldLink RX12 80 "OverHillModel" "thrown" "I", .methodLink RX12 254 yX12_isDance, .instanceMethod yX12_isDance, .selects RX12 yX12_isDance yX12_isDance, .initialized RX12, .code yX12_isDance cX12_isDance 1 (some .boolean), .fieldLink RX12 31 "OverHillModel" "lines" "[I", .methodLink RX12 270 yX12_isBeat, .static yX12_isBeat, .code yX12_isBeat cX12_isBeat 2 (some .boolean), .constantLong RX12 257 (199), .methodLink RX12 85 yX12_in, .static yX12_in, .code yX12_in cX12_in 6 (some .boolean), .methodLink RX12 367 yX12_walks, .instanceMethod yX12_walks, .selects RX12 yX12_walks yX12_walks, .code yX12_walks cX12_walks 6 (some .int), .fieldLink RX12 34 "OverHillModel" "has" "[I", .fieldLink RX12 50 "OverHillModel" "cell" "[I", .fieldLink RX12 74 "OverHillModel" "there" "[I", .methodLink RX12 370 yX12_known, .static yX12_known, .code yX12_known cX12_known 1 (some .int)] ++ wsX120)
def wsX12_returns : List Cond := .code yX12_returns cX12_returns 2 (some .int) :: ([.fieldLink RX12 80 "OverHillModel" "thrown" "I", .methodLink RX12 254 yX12_isDance, .instanceMethod yX12_isDance, .selects RX12 yX12_isDance yX12_isDance, .initialized RX12, .code yX12_isDance cX12_isDance 1 (some .boolean), .fieldLink RX12 31 "OverHillModel" "lines" "[I", .methodLink RX12 270 yX12_isBeat, .static yX12_isBeat, .code yX12_isBeat cX12_isBeat 2 (some .boolean), .constantLong RX12 257 (199), .methodLink RX12 85 yX12_in, .static yX12_in, .code yX12_in cX12_in 6 (some .boolean), .methodLink RX12 367 yX12_walks, .instanceMethod yX12_walks, .selects RX12 yX12_walks yX12_walks, .code yX12_walks cX12_walks 6 (some .int), .fieldLink RX12 34 "OverHillModel" "has" "[I", .fieldLink RX12 50 "OverHillModel" "cell" "[I", .fieldLink RX12 74 "OverHillModel" "there" "[I", .methodLink RX12 370 yX12_known, .static yX12_known, .code yX12_known cX12_known 1 (some .int)] ++ wsX120)
def wsX12_laysMeet : List Cond := .code yX12_laysMeet cX12_laysMeet 5 none :: ([.constant RX12 131 (1000000), .fieldLink RX12 373 "OverHillModel" "metAt" "I", .fieldLink RX12 376 "OverHillModel" "metIn" "I", .fieldLink RX12 34 "OverHillModel" "has" "[I", .fieldLink RX12 74 "OverHillModel" "there" "[I", .methodLink RX12 367 yX12_walks, .instanceMethod yX12_walks, .selects RX12 yX12_walks yX12_walks, .initialized RX12, .code yX12_walks cX12_walks 6 (some .int), .fieldLink RX12 50 "OverHillModel" "cell" "[I"] ++ wsX120)
def wsX12_meet_r1 : List Cond := [Cond.fieldLink RX12 80 "OverHillModel" "thrown" "I", Cond.fieldLink RX12 373 "OverHillModel" "metAt" "I", Cond.methodLink RX12 254 yX12_isDance, Cond.instanceMethod yX12_isDance, Cond.selects RX12 yX12_isDance yX12_isDance, Cond.initialized RX12, Cond.code yX12_isDance cX12_isDance 1 (some .boolean), Cond.fieldLink RX12 31 "OverHillModel" "lines" "[I", Cond.methodLink RX12 270 yX12_isBeat, Cond.static yX12_isBeat, Cond.code yX12_isBeat cX12_isBeat 2 (some .boolean), Cond.constantLong RX12 257 (199), Cond.methodLink RX12 85 yX12_in, Cond.static yX12_in, Cond.code yX12_in cX12_in 6 (some .boolean), Cond.methodLink RX12 379 yX12_laysMeet, Cond.instanceMethod yX12_laysMeet, Cond.selects RX12 yX12_laysMeet yX12_laysMeet, Cond.code yX12_laysMeet cX12_laysMeet 5 none, Cond.constant RX12 131 (1000000), Cond.fieldLink RX12 376 "OverHillModel" "metIn" "I", Cond.fieldLink RX12 34 "OverHillModel" "has" "[I", Cond.fieldLink RX12 74 "OverHillModel" "there" "[I", Cond.methodLink RX12 367 yX12_walks]
def wsX12_meet_r2 : List Cond := [Cond.instanceMethod yX12_walks, Cond.selects RX12 yX12_walks yX12_walks, Cond.code yX12_walks cX12_walks 6 (some .int), Cond.fieldLink RX12 50 "OverHillModel" "cell" "[I", Cond.methodLink RX12 370 yX12_known, Cond.static yX12_known, Cond.code yX12_known cX12_known 1 (some .int)]
def wsX12_meet : List Cond := .code yX12_meet cX12_meet 3 (some .int) :: ((wsX12_meet_r1 ++ wsX12_meet_r2) ++ wsX120)
def wsX12_cell_r1 : List Cond := [Cond.fieldLink RX12 80 "OverHillModel" "thrown" "I", Cond.fieldLink RX12 376 "OverHillModel" "metIn" "I", Cond.methodLink RX12 254 yX12_isDance, Cond.instanceMethod yX12_isDance, Cond.selects RX12 yX12_isDance yX12_isDance, Cond.initialized RX12, Cond.code yX12_isDance cX12_isDance 1 (some .boolean), Cond.fieldLink RX12 31 "OverHillModel" "lines" "[I", Cond.methodLink RX12 270 yX12_isBeat, Cond.static yX12_isBeat, Cond.code yX12_isBeat cX12_isBeat 2 (some .boolean), Cond.constantLong RX12 257 (199), Cond.methodLink RX12 85 yX12_in, Cond.static yX12_in, Cond.code yX12_in cX12_in 6 (some .boolean), Cond.methodLink RX12 379 yX12_laysMeet, Cond.instanceMethod yX12_laysMeet, Cond.selects RX12 yX12_laysMeet yX12_laysMeet, Cond.code yX12_laysMeet cX12_laysMeet 5 none, Cond.constant RX12 131 (1000000), Cond.fieldLink RX12 373 "OverHillModel" "metAt" "I", Cond.fieldLink RX12 34 "OverHillModel" "has" "[I", Cond.fieldLink RX12 74 "OverHillModel" "there" "[I", Cond.methodLink RX12 367 yX12_walks]
def wsX12_cell_r2 : List Cond := [Cond.instanceMethod yX12_walks, Cond.selects RX12 yX12_walks yX12_walks, Cond.code yX12_walks cX12_walks 6 (some .int), Cond.fieldLink RX12 50 "OverHillModel" "cell" "[I"]
def wsX12_cell : List Cond := .code yX12_cell cX12_cell 3 (some .int) :: ((wsX12_cell_r1 ++ wsX12_cell_r2) ++ wsX120)
def wsX12_longest : List Cond := .code yX12_longest cX12_longest 4 (some .int) :: ([.fieldLink RX12 80 "OverHillModel" "thrown" "I", .methodLink RX12 254 yX12_isDance, .instanceMethod yX12_isDance, .selects RX12 yX12_isDance yX12_isDance, .initialized RX12, .code yX12_isDance cX12_isDance 1 (some .boolean), .fieldLink RX12 31 "OverHillModel" "lines" "[I", .methodLink RX12 367 yX12_walks, .instanceMethod yX12_walks, .selects RX12 yX12_walks yX12_walks, .code yX12_walks cX12_walks 6 (some .int), .fieldLink RX12 34 "OverHillModel" "has" "[I", .fieldLink RX12 50 "OverHillModel" "cell" "[I", .fieldLink RX12 74 "OverHillModel" "there" "[I"] ++ wsX120)
def wsX12_whyNotHalf : List Cond := .code yX12_whyNotHalf cX12_whyNotHalf 3 (some .int) :: ([.fieldLink RX12 7 "OverHillModel" "width" "[I", .fieldLink RX12 13 "OverHillModel" "many" "[I", .fieldLink RX12 16 "OverHillModel" "cells" "[J", .constantLong RX12 124 (-1), .constantLong RX12 259 (5), .methodLink RX12 89 yX12_isSlot, .static yX12_isSlot, .initialized RX12, .code yX12_isSlot cX12_isSlot 1 (some .boolean), .constantLong RX12 83 (3), .methodLink RX12 85 yX12_in, .static yX12_in, .code yX12_in cX12_in 6 (some .boolean)] ++ wsX120)
def wsX12_isHalf : List Cond := .code yX12_isHalf cX12_isHalf 5 (some .boolean) :: ([.fieldLink RX12 62 "OverHillModel" "steps" "[I", .fieldLink RX12 13 "OverHillModel" "many" "[I", .fieldLink RX12 16 "OverHillModel" "cells" "[J"] ++ wsX120)
def wsX12_halfOf : List Cond := .code yX12_halfOf cX12_halfOf 3 (some .int) :: ([.methodLink RX12 382 yX12_isHalf, .instanceMethod yX12_isHalf, .selects RX12 yX12_isHalf yX12_isHalf, .initialized RX12, .code yX12_isHalf cX12_isHalf 5 (some .boolean), .fieldLink RX12 62 "OverHillModel" "steps" "[I", .fieldLink RX12 13 "OverHillModel" "many" "[I", .fieldLink RX12 16 "OverHillModel" "cells" "[J"] ++ wsX120)
def wsX12_half_r1 : List Cond := [Cond.fieldLink RX12 80 "OverHillModel" "thrown" "I", Cond.methodLink RX12 385 yX12_whyNotHalf, Cond.instanceMethod yX12_whyNotHalf, Cond.selects RX12 yX12_whyNotHalf yX12_whyNotHalf, Cond.initialized RX12, Cond.code yX12_whyNotHalf cX12_whyNotHalf 3 (some .int), Cond.fieldLink RX12 7 "OverHillModel" "width" "[I", Cond.fieldLink RX12 13 "OverHillModel" "many" "[I", Cond.fieldLink RX12 16 "OverHillModel" "cells" "[J", Cond.constantLong RX12 124 (-1), Cond.constantLong RX12 259 (5), Cond.methodLink RX12 89 yX12_isSlot, Cond.static yX12_isSlot, Cond.code yX12_isSlot cX12_isSlot 1 (some .boolean), Cond.constantLong RX12 83 (3), Cond.methodLink RX12 85 yX12_in, Cond.static yX12_in, Cond.code yX12_in cX12_in 6 (some .boolean), Cond.methodLink RX12 388 yX12_halfOf, Cond.instanceMethod yX12_halfOf, Cond.selects RX12 yX12_halfOf yX12_halfOf, Cond.code yX12_halfOf cX12_halfOf 3 (some .int), Cond.methodLink RX12 382 yX12_isHalf, Cond.instanceMethod yX12_isHalf]
def wsX12_half_r2 : List Cond := [Cond.selects RX12 yX12_isHalf yX12_isHalf, Cond.code yX12_isHalf cX12_isHalf 5 (some .boolean), Cond.fieldLink RX12 62 "OverHillModel" "steps" "[I"]
def wsX12_half : List Cond := .code yX12_half cX12_half 3 (some .int) :: ((wsX12_half_r1 ++ wsX12_half_r2) ++ wsX120)
def wsX12_fills_r1 : List Cond := [Cond.fieldLink RX12 80 "OverHillModel" "thrown" "I", Cond.fieldLink RX12 62 "OverHillModel" "steps" "[I", Cond.methodLink RX12 385 yX12_whyNotHalf, Cond.instanceMethod yX12_whyNotHalf, Cond.selects RX12 yX12_whyNotHalf yX12_whyNotHalf, Cond.initialized RX12, Cond.code yX12_whyNotHalf cX12_whyNotHalf 3 (some .int), Cond.fieldLink RX12 7 "OverHillModel" "width" "[I", Cond.fieldLink RX12 13 "OverHillModel" "many" "[I", Cond.fieldLink RX12 16 "OverHillModel" "cells" "[J", Cond.constantLong RX12 124 (-1), Cond.constantLong RX12 259 (5), Cond.methodLink RX12 89 yX12_isSlot, Cond.static yX12_isSlot, Cond.code yX12_isSlot cX12_isSlot 1 (some .boolean), Cond.constantLong RX12 83 (3), Cond.methodLink RX12 85 yX12_in, Cond.static yX12_in, Cond.code yX12_in cX12_in 6 (some .boolean), Cond.methodLink RX12 388 yX12_halfOf, Cond.instanceMethod yX12_halfOf, Cond.selects RX12 yX12_halfOf yX12_halfOf, Cond.code yX12_halfOf cX12_halfOf 3 (some .int), Cond.methodLink RX12 382 yX12_isHalf]
def wsX12_fills_r2 : List Cond := [Cond.instanceMethod yX12_isHalf, Cond.selects RX12 yX12_isHalf yX12_isHalf, Cond.code yX12_isHalf cX12_isHalf 5 (some .boolean)]
def wsX12_fills : List Cond := .code yX12_fills cX12_fills 4 (some .int) :: ((wsX12_fills_r1 ++ wsX12_fills_r2) ++ wsX120)
def wsX12_open_r1 : List Cond := [Cond.fieldLink RX12 80 "OverHillModel" "thrown" "I", Cond.fieldLink RX12 62 "OverHillModel" "steps" "[I", Cond.methodLink RX12 385 yX12_whyNotHalf, Cond.instanceMethod yX12_whyNotHalf, Cond.selects RX12 yX12_whyNotHalf yX12_whyNotHalf, Cond.initialized RX12, Cond.code yX12_whyNotHalf cX12_whyNotHalf 3 (some .int), Cond.fieldLink RX12 7 "OverHillModel" "width" "[I", Cond.fieldLink RX12 13 "OverHillModel" "many" "[I", Cond.fieldLink RX12 16 "OverHillModel" "cells" "[J", Cond.constantLong RX12 124 (-1), Cond.constantLong RX12 259 (5), Cond.methodLink RX12 89 yX12_isSlot, Cond.static yX12_isSlot, Cond.code yX12_isSlot cX12_isSlot 1 (some .boolean), Cond.constantLong RX12 83 (3), Cond.methodLink RX12 85 yX12_in, Cond.static yX12_in, Cond.code yX12_in cX12_in 6 (some .boolean), Cond.methodLink RX12 388 yX12_halfOf, Cond.instanceMethod yX12_halfOf, Cond.selects RX12 yX12_halfOf yX12_halfOf, Cond.code yX12_halfOf cX12_halfOf 3 (some .int), Cond.methodLink RX12 382 yX12_isHalf]
def wsX12_open_r2 : List Cond := [Cond.instanceMethod yX12_isHalf, Cond.selects RX12 yX12_isHalf yX12_isHalf, Cond.code yX12_isHalf cX12_isHalf 5 (some .boolean)]
def wsX12_open : List Cond := .code yX12_open cX12_open 6 (some .int) :: ((wsX12_open_r1 ++ wsX12_open_r2) ++ wsX120)
theorem wrr_wsX12_mayBe {i : Nat} {w : Cond} (h : wsX12_mayBe[i]? = some w) : w ∈ wsX12_mayBe := List.mem_of_getElem? h
theorem wru_wsX12_mayBe_wsX120 : ∀ w ∈ wsX120, w ∈ wsX12_mayBe := fun w h => (List.mem_cons_of_mem _ (List.mem_append_right _ h))
set_option maxRecDepth 20000 in
theorem ggX12_mayBe_X12_periodOf : GoodIn wsX12_mayBe wsX12_periodOf := goodIn_sub (List.forall_mem_cons.mpr ⟨wrr_wsX12_mayBe (i := 7) rfl, (List.forall_mem_append.mpr ⟨(List.forall_mem_cons.mpr ⟨wrr_wsX12_mayBe (i := 8) rfl, (List.forall_mem_cons.mpr ⟨wrr_wsX12_mayBe (i := 9) rfl, (List.forall_mem_cons.mpr ⟨wrr_wsX12_mayBe (i := 10) rfl, (List.forall_mem_cons.mpr ⟨wrr_wsX12_mayBe (i := 6) rfl, (List.forall_mem_cons.mpr ⟨wrr_wsX12_mayBe (i := 11) rfl, (List.forall_mem_cons.mpr ⟨wrr_wsX12_mayBe (i := 1) rfl, (List.forall_mem_cons.mpr ⟨wrr_wsX12_mayBe (i := 12) rfl, (List.forall_mem_cons.mpr ⟨wrr_wsX12_mayBe (i := 13) rfl, (List.forall_mem_cons.mpr ⟨wrr_wsX12_mayBe (i := 14) rfl, (fun _ h => absurd h List.not_mem_nil)⟩)⟩)⟩)⟩)⟩)⟩)⟩)⟩)⟩), wru_wsX12_mayBe_wsX120⟩)⟩) gw_wsX12_periodOf
set_option maxRecDepth 20000 in
theorem gX12_mayBe_X12_periodOf : GoodIn wsX12_mayBe (wsV RX12 325 RX12 yX12_periodOf wsX12_periodOf) := goodIn_app (goodIn_sub (List.forall_mem_cons.mpr ⟨wrr_wsX12_mayBe (i := 3) rfl, (List.forall_mem_cons.mpr ⟨wrr_wsX12_mayBe (i := 4) rfl, (List.forall_mem_cons.mpr ⟨wrr_wsX12_mayBe (i := 5) rfl, (List.forall_mem_cons.mpr ⟨wrr_wsX12_mayBe (i := 6) rfl, (fun _ h => absurd h List.not_mem_nil)⟩)⟩)⟩)⟩) (by decide +kernel)) ggX12_mayBe_X12_periodOf
set_option maxRecDepth 20000 in
theorem ggX12_mayBe_X12_lengthOf : GoodIn wsX12_mayBe wsX12_lengthOf := goodIn_sub (List.forall_mem_cons.mpr ⟨wrr_wsX12_mayBe (i := 11) rfl, (List.forall_mem_append.mpr ⟨(List.forall_mem_cons.mpr ⟨wrr_wsX12_mayBe (i := 1) rfl, (fun _ h => absurd h List.not_mem_nil)⟩), wru_wsX12_mayBe_wsX120⟩)⟩) gw_wsX12_lengthOf
set_option maxRecDepth 20000 in
theorem gX12_mayBe_X12_lengthOf : GoodIn wsX12_mayBe (wsV RX12 264 RX12 yX12_lengthOf wsX12_lengthOf) := goodIn_app (goodIn_sub (List.forall_mem_cons.mpr ⟨wrr_wsX12_mayBe (i := 8) rfl, (List.forall_mem_cons.mpr ⟨wrr_wsX12_mayBe (i := 9) rfl, (List.forall_mem_cons.mpr ⟨wrr_wsX12_mayBe (i := 10) rfl, (List.forall_mem_cons.mpr ⟨wrr_wsX12_mayBe (i := 6) rfl, (fun _ h => absurd h List.not_mem_nil)⟩)⟩)⟩)⟩) (by decide +kernel)) ggX12_mayBe_X12_lengthOf
set_option maxRecDepth 20000 in
theorem ggX12_mayBe_X12_plain : GoodIn wsX12_mayBe wsX12_plain := goodIn_sub (List.forall_mem_cons.mpr ⟨wrr_wsX12_mayBe (i := 18) rfl, (List.forall_mem_append.mpr ⟨(List.forall_mem_cons.mpr ⟨wrr_wsX12_mayBe (i := 19) rfl, (List.forall_mem_cons.mpr ⟨wrr_wsX12_mayBe (i := 1) rfl, (List.forall_mem_cons.mpr ⟨wrr_wsX12_mayBe (i := 8) rfl, (List.forall_mem_cons.mpr ⟨wrr_wsX12_mayBe (i := 9) rfl, (List.forall_mem_cons.mpr ⟨wrr_wsX12_mayBe (i := 10) rfl, (List.forall_mem_cons.mpr ⟨wrr_wsX12_mayBe (i := 6) rfl, (List.forall_mem_cons.mpr ⟨wrr_wsX12_mayBe (i := 11) rfl, (fun _ h => absurd h List.not_mem_nil)⟩)⟩)⟩)⟩)⟩)⟩)⟩), wru_wsX12_mayBe_wsX120⟩)⟩) gw_wsX12_plain
set_option maxRecDepth 20000 in
theorem gX12_mayBe_X12_plain : GoodIn wsX12_mayBe (wsV RX12 328 RX12 yX12_plain wsX12_plain) := goodIn_app (goodIn_sub (List.forall_mem_cons.mpr ⟨wrr_wsX12_mayBe (i := 15) rfl, (List.forall_mem_cons.mpr ⟨wrr_wsX12_mayBe (i := 16) rfl, (List.forall_mem_cons.mpr ⟨wrr_wsX12_mayBe (i := 17) rfl, (List.forall_mem_cons.mpr ⟨wrr_wsX12_mayBe (i := 6) rfl, (fun _ h => absurd h List.not_mem_nil)⟩)⟩)⟩)⟩) (by decide +kernel)) ggX12_mayBe_X12_plain
set_option maxRecDepth 20000 in
theorem ggX12_mayBe_X12_isBit : GoodIn wsX12_mayBe wsX12_isBit := goodIn_sub (List.forall_mem_cons.mpr ⟨wrr_wsX12_mayBe (i := 22) rfl, (fun _ h => absurd h List.not_mem_nil)⟩) gw_wsX12_isBit
set_option maxRecDepth 20000 in
theorem gX12_mayBe_X12_isBit : GoodIn wsX12_mayBe (va_wsS RX12 280 yX12_isBit wsX12_isBit) := goodIn_app (goodIn_sub (List.forall_mem_cons.mpr ⟨wrr_wsX12_mayBe (i := 20) rfl, (List.forall_mem_cons.mpr ⟨wrr_wsX12_mayBe (i := 21) rfl, (List.forall_mem_cons.mpr ⟨wrr_wsX12_mayBe (i := 6) rfl, (fun _ h => absurd h List.not_mem_nil)⟩)⟩)⟩) (by decide +kernel)) ggX12_mayBe_X12_isBit
theorem dX12_mayBe_0 : decode cX12_mayBe 0 = .ok (.bipush 63, 2) := by decide +kernel
theorem dX12_mayBe_2 : decode cX12_mayBe 2 = .ok (.istore_n 3, 1) := by decide +kernel
theorem dX12_mayBe_3 : decode cX12_mayBe 3 = .ok (.aload_n 0, 1) := by decide +kernel
theorem dX12_mayBe_4 : decode cX12_mayBe 4 = .ok (.getfield 34, 3) := by decide +kernel
theorem dX12_mayBe_7 : decode cX12_mayBe 7 = .ok (.iconst 0, 1) := by decide +kernel
theorem dX12_mayBe_8 : decode cX12_mayBe 8 = .ok (.iaload, 1) := by decide +kernel
theorem dX12_mayBe_9 : decode cX12_mayBe 9 = .ok (.istore 4, 2) := by decide +kernel
theorem dX12_mayBe_11 : decode cX12_mayBe 11 = .ok (.iload 4, 2) := by decide +kernel
theorem dX12_mayBe_13 : decode cX12_mayBe 13 = .ok (.istore 5, 2) := by decide +kernel
theorem dX12_mayBe_15 : decode cX12_mayBe 15 = .ok (.iload 5, 2) := by decide +kernel
theorem dX12_mayBe_17 : decode cX12_mayBe 17 = .ok (.iload 4, 2) := by decide +kernel
theorem dX12_mayBe_19 : decode cX12_mayBe 19 = .ok (.aload_n 0, 1) := by decide +kernel
theorem dX12_mayBe_20 : decode cX12_mayBe 20 = .ok (.invokevirtual 325, 3) := by decide +kernel
theorem dX12_mayBe_23 : decode cX12_mayBe 23 = .ok (.iadd, 1) := by decide +kernel
theorem dX12_mayBe_24 : decode cX12_mayBe 24 = .ok (.if_icmp .ge 161, 3) := by decide +kernel
theorem dX12_mayBe_27 : decode cX12_mayBe 27 = .ok (.aload_n 0, 1) := by decide +kernel
theorem dX12_mayBe_28 : decode cX12_mayBe 28 = .ok (.getfield 34, 3) := by decide +kernel
theorem dX12_mayBe_31 : decode cX12_mayBe 31 = .ok (.iconst 5, 1) := by decide +kernel
theorem dX12_mayBe_32 : decode cX12_mayBe 32 = .ok (.iload_n 1, 1) := by decide +kernel
theorem dX12_mayBe_33 : decode cX12_mayBe 33 = .ok (.iadd, 1) := by decide +kernel
theorem dX12_mayBe_34 : decode cX12_mayBe 34 = .ok (.iaload, 1) := by decide +kernel
theorem dX12_mayBe_35 : decode cX12_mayBe 35 = .ok (.iload 5, 2) := by decide +kernel
theorem dX12_mayBe_37 : decode cX12_mayBe 37 = .ok (.iadd, 1) := by decide +kernel
theorem dX12_mayBe_38 : decode cX12_mayBe 38 = .ok (.aload_n 0, 1) := by decide +kernel
theorem dX12_mayBe_39 : decode cX12_mayBe 39 = .ok (.iload_n 1, 1) := by decide +kernel
theorem dX12_mayBe_40 : decode cX12_mayBe 40 = .ok (.invokevirtual 264, 3) := by decide +kernel
theorem dX12_mayBe_43 : decode cX12_mayBe 43 = .ok (.irem, 1) := by decide +kernel
theorem dX12_mayBe_44 : decode cX12_mayBe 44 = .ok (.iload_n 2, 1) := by decide +kernel
theorem dX12_mayBe_45 : decode cX12_mayBe 45 = .ok (.if_icmp .ne 7, 3) := by decide +kernel
theorem dX12_mayBe_48 : decode cX12_mayBe 48 = .ok (.iconst 1, 1) := by decide +kernel
theorem dX12_mayBe_49 : decode cX12_mayBe 49 = .ok (.goto 4, 3) := by decide +kernel
theorem dX12_mayBe_52 : decode cX12_mayBe 52 = .ok (.iconst 0, 1) := by decide +kernel
theorem dX12_mayBe_53 : decode cX12_mayBe 53 = .ok (.istore 6, 2) := by decide +kernel
theorem dX12_mayBe_55 : decode cX12_mayBe 55 = .ok (.aload_n 0, 1) := by decide +kernel
theorem dX12_mayBe_56 : decode cX12_mayBe 56 = .ok (.getfield 34, 3) := by decide +kernel
theorem dX12_mayBe_59 : decode cX12_mayBe 59 = .ok (.iconst 5, 1) := by decide +kernel
theorem dX12_mayBe_60 : decode cX12_mayBe 60 = .ok (.iload_n 1, 1) := by decide +kernel
theorem dX12_mayBe_61 : decode cX12_mayBe 61 = .ok (.iadd, 1) := by decide +kernel
theorem dX12_mayBe_62 : decode cX12_mayBe 62 = .ok (.iaload, 1) := by decide +kernel
theorem dX12_mayBe_63 : decode cX12_mayBe 63 = .ok (.iload 5, 2) := by decide +kernel
theorem dX12_mayBe_65 : decode cX12_mayBe 65 = .ok (.iadd, 1) := by decide +kernel
theorem dX12_mayBe_66 : decode cX12_mayBe 66 = .ok (.iload 4, 2) := by decide +kernel
theorem dX12_mayBe_68 : decode cX12_mayBe 68 = .ok (.isub, 1) := by decide +kernel
theorem dX12_mayBe_69 : decode cX12_mayBe 69 = .ok (.aload_n 0, 1) := by decide +kernel
theorem dX12_mayBe_70 : decode cX12_mayBe 70 = .ok (.iload_n 1, 1) := by decide +kernel
theorem dX12_mayBe_71 : decode cX12_mayBe 71 = .ok (.invokevirtual 264, 3) := by decide +kernel
theorem dX12_mayBe_74 : decode cX12_mayBe 74 = .ok (.irem, 1) := by decide +kernel
theorem dX12_mayBe_75 : decode cX12_mayBe 75 = .ok (.iload_n 2, 1) := by decide +kernel
theorem dX12_mayBe_76 : decode cX12_mayBe 76 = .ok (.if_icmp .ne 7, 3) := by decide +kernel
theorem dX12_mayBe_79 : decode cX12_mayBe 79 = .ok (.iconst 1, 1) := by decide +kernel
theorem dX12_mayBe_80 : decode cX12_mayBe 80 = .ok (.goto 4, 3) := by decide +kernel
theorem dX12_mayBe_83 : decode cX12_mayBe 83 = .ok (.iconst 0, 1) := by decide +kernel
theorem dX12_mayBe_84 : decode cX12_mayBe 84 = .ok (.istore 7, 2) := by decide +kernel
theorem dX12_mayBe_86 : decode cX12_mayBe 86 = .ok (.iconst 0, 1) := by decide +kernel
theorem dX12_mayBe_87 : decode cX12_mayBe 87 = .ok (.istore 8, 2) := by decide +kernel
theorem dX12_mayBe_89 : decode cX12_mayBe 89 = .ok (.iload 8, 2) := by decide +kernel
theorem dX12_mayBe_91 : decode cX12_mayBe 91 = .ok (.bipush 6, 2) := by decide +kernel
theorem dX12_mayBe_93 : decode cX12_mayBe 93 = .ok (.if_icmp .ge 86, 3) := by decide +kernel
theorem dX12_mayBe_96 : decode cX12_mayBe 96 = .ok (.iload 6, 2) := by decide +kernel
theorem dX12_mayBe_98 : decode cX12_mayBe 98 = .ok (.ifCond .eq 38, 3) := by decide +kernel
theorem dX12_mayBe_101 : decode cX12_mayBe 101 = .ok (.aload_n 0, 1) := by decide +kernel
theorem dX12_mayBe_102 : decode cX12_mayBe 102 = .ok (.getfield 40, 3) := by decide +kernel
theorem dX12_mayBe_105 : decode cX12_mayBe 105 = .ok (.iload 8, 2) := by decide +kernel
theorem dX12_mayBe_107 : decode cX12_mayBe 107 = .ok (.iaload, 1) := by decide +kernel
theorem dX12_mayBe_108 : decode cX12_mayBe 108 = .ok (.aload_n 0, 1) := by decide +kernel
theorem dX12_mayBe_109 : decode cX12_mayBe 109 = .ok (.iconst 1, 1) := by decide +kernel
theorem dX12_mayBe_110 : decode cX12_mayBe 110 = .ok (.iload_n 1, 1) := by decide +kernel
theorem dX12_mayBe_111 : decode cX12_mayBe 111 = .ok (.isub, 1) := by decide +kernel
theorem dX12_mayBe_112 : decode cX12_mayBe 112 = .ok (.iload 5, 2) := by decide +kernel
theorem dX12_mayBe_114 : decode cX12_mayBe 114 = .ok (.iload 4, 2) := by decide +kernel
theorem dX12_mayBe_116 : decode cX12_mayBe 116 = .ok (.isub, 1) := by decide +kernel
theorem dX12_mayBe_117 : decode cX12_mayBe 117 = .ok (.iconst 0, 1) := by decide +kernel
theorem dX12_mayBe_118 : decode cX12_mayBe 118 = .ok (.invokevirtual 328, 3) := by decide +kernel
theorem dX12_mayBe_121 : decode cX12_mayBe 121 = .ok (.invokestatic 280, 3) := by decide +kernel
theorem dX12_mayBe_124 : decode cX12_mayBe 124 = .ok (.ifCond .ne 12, 3) := by decide +kernel
theorem dX12_mayBe_127 : decode cX12_mayBe 127 = .ok (.iload_n 3, 1) := by decide +kernel
theorem dX12_mayBe_128 : decode cX12_mayBe 128 = .ok (.iconst 1, 1) := by decide +kernel
theorem dX12_mayBe_129 : decode cX12_mayBe 129 = .ok (.iload 8, 2) := by decide +kernel
theorem dX12_mayBe_131 : decode cX12_mayBe 131 = .ok (.ishl, 1) := by decide +kernel
theorem dX12_mayBe_132 : decode cX12_mayBe 132 = .ok (.iconst (-1), 1) := by decide +kernel
theorem dX12_mayBe_133 : decode cX12_mayBe 133 = .ok (.ixor, 1) := by decide +kernel
theorem dX12_mayBe_134 : decode cX12_mayBe 134 = .ok (.iand, 1) := by decide +kernel
theorem dX12_mayBe_135 : decode cX12_mayBe 135 = .ok (.istore_n 3, 1) := by decide +kernel
theorem dX12_mayBe_136 : decode cX12_mayBe 136 = .ok (.iload 7, 2) := by decide +kernel
theorem dX12_mayBe_138 : decode cX12_mayBe 138 = .ok (.ifCond .eq 35, 3) := by decide +kernel
theorem dX12_mayBe_141 : decode cX12_mayBe 141 = .ok (.aload_n 0, 1) := by decide +kernel
theorem dX12_mayBe_142 : decode cX12_mayBe 142 = .ok (.getfield 40, 3) := by decide +kernel
theorem dX12_mayBe_145 : decode cX12_mayBe 145 = .ok (.aload_n 0, 1) := by decide +kernel
theorem dX12_mayBe_146 : decode cX12_mayBe 146 = .ok (.iconst 1, 1) := by decide +kernel
theorem dX12_mayBe_147 : decode cX12_mayBe 147 = .ok (.iload_n 1, 1) := by decide +kernel
theorem dX12_mayBe_148 : decode cX12_mayBe 148 = .ok (.isub, 1) := by decide +kernel
theorem dX12_mayBe_149 : decode cX12_mayBe 149 = .ok (.iload 5, 2) := by decide +kernel
theorem dX12_mayBe_151 : decode cX12_mayBe 151 = .ok (.iconst 0, 1) := by decide +kernel
theorem dX12_mayBe_152 : decode cX12_mayBe 152 = .ok (.invokevirtual 328, 3) := by decide +kernel
theorem dX12_mayBe_155 : decode cX12_mayBe 155 = .ok (.iaload, 1) := by decide +kernel
theorem dX12_mayBe_156 : decode cX12_mayBe 156 = .ok (.iload 8, 2) := by decide +kernel
theorem dX12_mayBe_158 : decode cX12_mayBe 158 = .ok (.invokestatic 280, 3) := by decide +kernel
theorem dX12_mayBe_161 : decode cX12_mayBe 161 = .ok (.ifCond .ne 12, 3) := by decide +kernel
theorem dX12_mayBe_164 : decode cX12_mayBe 164 = .ok (.iload_n 3, 1) := by decide +kernel
theorem dX12_mayBe_165 : decode cX12_mayBe 165 = .ok (.iconst 1, 1) := by decide +kernel
theorem dX12_mayBe_166 : decode cX12_mayBe 166 = .ok (.iload 8, 2) := by decide +kernel
theorem dX12_mayBe_168 : decode cX12_mayBe 168 = .ok (.ishl, 1) := by decide +kernel
theorem dX12_mayBe_169 : decode cX12_mayBe 169 = .ok (.iconst (-1), 1) := by decide +kernel
theorem dX12_mayBe_170 : decode cX12_mayBe 170 = .ok (.ixor, 1) := by decide +kernel
theorem dX12_mayBe_171 : decode cX12_mayBe 171 = .ok (.iand, 1) := by decide +kernel
theorem dX12_mayBe_172 : decode cX12_mayBe 172 = .ok (.istore_n 3, 1) := by decide +kernel
theorem dX12_mayBe_173 : decode cX12_mayBe 173 = .ok (.iinc 8 1, 3) := by decide +kernel
theorem dX12_mayBe_176 : decode cX12_mayBe 176 = .ok (.goto (-87), 3) := by decide +kernel
theorem dX12_mayBe_179 : decode cX12_mayBe 179 = .ok (.iinc 5 1, 3) := by decide +kernel
theorem dX12_mayBe_182 : decode cX12_mayBe 182 = .ok (.goto (-167), 3) := by decide +kernel
theorem dX12_mayBe_185 : decode cX12_mayBe 185 = .ok (.iload_n 3, 1) := by decide +kernel
theorem dX12_mayBe_186 : decode cX12_mayBe 186 = .ok (.ireturn, 1) := by decide +kernel
theorem wrr_wsX12_mendedOf {i : Nat} {w : Cond} (h : wsX12_mendedOf[i]? = some w) : w ∈ wsX12_mendedOf := List.mem_of_getElem? h
theorem wrr_wsX12_mendedOf_wsX12_mendedOf_r1 {i : Nat} {w : Cond} (h : wsX12_mendedOf_r1[i]? = some w) : w ∈ wsX12_mendedOf := (List.mem_cons_of_mem _ (List.mem_append_left _ (List.mem_append_left _ (List.mem_of_getElem? h))))
theorem wrr_wsX12_mendedOf_wsX12_mendedOf_r2 {i : Nat} {w : Cond} (h : wsX12_mendedOf_r2[i]? = some w) : w ∈ wsX12_mendedOf := (List.mem_cons_of_mem _ (List.mem_append_left _ (List.mem_append_right _ (List.mem_of_getElem? h))))
theorem wru_wsX12_mendedOf_wsX120 : ∀ w ∈ wsX120, w ∈ wsX12_mendedOf := fun w h => (List.mem_cons_of_mem _ (List.mem_append_right _ h))
set_option maxRecDepth 20000 in
theorem gw_wsX12_mayBe : wsX12_mayBe.all goodWord = true := by decide +kernel
set_option maxRecDepth 20000 in
theorem ggX12_mendedOf_X12_mayBe : GoodIn wsX12_mendedOf wsX12_mayBe := goodIn_sub (List.forall_mem_cons.mpr ⟨wrr_wsX12_mendedOf_wsX12_mendedOf_r1 (i := 5) rfl, (List.forall_mem_append.mpr ⟨(List.forall_mem_cons.mpr ⟨wrr_wsX12_mendedOf_wsX12_mendedOf_r1 (i := 6) rfl, (List.forall_mem_cons.mpr ⟨wrr_wsX12_mendedOf_wsX12_mendedOf_r1 (i := 7) rfl, (List.forall_mem_cons.mpr ⟨wrr_wsX12_mendedOf_wsX12_mendedOf_r1 (i := 8) rfl, (List.forall_mem_cons.mpr ⟨wrr_wsX12_mendedOf_wsX12_mendedOf_r1 (i := 9) rfl, (List.forall_mem_cons.mpr ⟨wrr_wsX12_mendedOf_wsX12_mendedOf_r1 (i := 10) rfl, (List.forall_mem_cons.mpr ⟨wrr_wsX12_mendedOf_wsX12_mendedOf_r1 (i := 4) rfl, (List.forall_mem_cons.mpr ⟨wrr_wsX12_mendedOf_wsX12_mendedOf_r1 (i := 11) rfl, (List.forall_mem_cons.mpr ⟨wrr_wsX12_mendedOf_wsX12_mendedOf_r1 (i := 12) rfl, (List.forall_mem_cons.mpr ⟨wrr_wsX12_mendedOf_wsX12_mendedOf_r1 (i := 13) rfl, (List.forall_mem_cons.mpr ⟨wrr_wsX12_mendedOf_wsX12_mendedOf_r1 (i := 14) rfl, (List.forall_mem_cons.mpr ⟨wrr_wsX12_mendedOf_wsX12_mendedOf_r1 (i := 15) rfl, (List.forall_mem_cons.mpr ⟨wrr_wsX12_mendedOf_wsX12_mendedOf_r1 (i := 16) rfl, (List.forall_mem_cons.mpr ⟨wrr_wsX12_mendedOf_wsX12_mendedOf_r1 (i := 17) rfl, (List.forall_mem_cons.mpr ⟨wrr_wsX12_mendedOf_wsX12_mendedOf_r1 (i := 18) rfl, (List.forall_mem_cons.mpr ⟨wrr_wsX12_mendedOf_wsX12_mendedOf_r1 (i := 19) rfl, (List.forall_mem_cons.mpr ⟨wrr_wsX12_mendedOf_wsX12_mendedOf_r1 (i := 20) rfl, (List.forall_mem_cons.mpr ⟨wrr_wsX12_mendedOf_wsX12_mendedOf_r1 (i := 21) rfl, (List.forall_mem_cons.mpr ⟨wrr_wsX12_mendedOf_wsX12_mendedOf_r1 (i := 22) rfl, (List.forall_mem_cons.mpr ⟨wrr_wsX12_mendedOf_wsX12_mendedOf_r1 (i := 0) rfl, (List.forall_mem_cons.mpr ⟨wrr_wsX12_mendedOf_wsX12_mendedOf_r1 (i := 23) rfl, (List.forall_mem_cons.mpr ⟨wrr_wsX12_mendedOf_wsX12_mendedOf_r2 (i := 0) rfl, (List.forall_mem_cons.mpr ⟨wrr_wsX12_mendedOf_wsX12_mendedOf_r2 (i := 1) rfl, (fun _ h => absurd h List.not_mem_nil)⟩)⟩)⟩)⟩)⟩)⟩)⟩)⟩)⟩)⟩)⟩)⟩)⟩)⟩)⟩)⟩)⟩)⟩)⟩)⟩)⟩)⟩), wru_wsX12_mendedOf_wsX120⟩)⟩) gw_wsX12_mayBe
set_option maxRecDepth 20000 in
theorem gX12_mendedOf_X12_mayBe : GoodIn wsX12_mendedOf (wsV RX12 334 RX12 yX12_mayBe wsX12_mayBe) := goodIn_app (goodIn_sub (List.forall_mem_cons.mpr ⟨wrr_wsX12_mendedOf_wsX12_mendedOf_r1 (i := 1) rfl, (List.forall_mem_cons.mpr ⟨wrr_wsX12_mendedOf_wsX12_mendedOf_r1 (i := 2) rfl, (List.forall_mem_cons.mpr ⟨wrr_wsX12_mendedOf_wsX12_mendedOf_r1 (i := 3) rfl, (List.forall_mem_cons.mpr ⟨wrr_wsX12_mendedOf_wsX12_mendedOf_r1 (i := 4) rfl, (fun _ h => absurd h List.not_mem_nil)⟩)⟩)⟩)⟩) (by decide +kernel)) ggX12_mendedOf_X12_mayBe
set_option maxRecDepth 20000 in
theorem ggX12_mendedOf_X12_isBit : GoodIn wsX12_mendedOf wsX12_isBit := goodIn_sub (List.forall_mem_cons.mpr ⟨wrr_wsX12_mendedOf_wsX12_mendedOf_r2 (i := 1) rfl, (fun _ h => absurd h List.not_mem_nil)⟩) gw_wsX12_isBit
set_option maxRecDepth 20000 in
theorem gX12_mendedOf_X12_isBit : GoodIn wsX12_mendedOf (va_wsS RX12 280 yX12_isBit wsX12_isBit) := goodIn_app (goodIn_sub (List.forall_mem_cons.mpr ⟨wrr_wsX12_mendedOf_wsX12_mendedOf_r1 (i := 23) rfl, (List.forall_mem_cons.mpr ⟨wrr_wsX12_mendedOf_wsX12_mendedOf_r2 (i := 0) rfl, (List.forall_mem_cons.mpr ⟨wrr_wsX12_mendedOf_wsX12_mendedOf_r1 (i := 4) rfl, (fun _ h => absurd h List.not_mem_nil)⟩)⟩)⟩) (by decide +kernel)) ggX12_mendedOf_X12_isBit
theorem dX12_mendedOf_0 : decode cX12_mendedOf 0 = .ok (.aload_n 0, 1) := by decide +kernel
theorem dX12_mendedOf_1 : decode cX12_mendedOf 1 = .ok (.iload_n 1, 1) := by decide +kernel
theorem dX12_mendedOf_2 : decode cX12_mendedOf 2 = .ok (.iload_n 2, 1) := by decide +kernel
theorem dX12_mendedOf_3 : decode cX12_mendedOf 3 = .ok (.invokevirtual 334, 3) := by decide +kernel
theorem dX12_mendedOf_6 : decode cX12_mendedOf 6 = .ok (.istore_n 3, 1) := by decide +kernel
theorem dX12_mendedOf_7 : decode cX12_mendedOf 7 = .ok (.aload_n 0, 1) := by decide +kernel
theorem dX12_mendedOf_8 : decode cX12_mendedOf 8 = .ok (.getfield 37, 3) := by decide +kernel
theorem dX12_mendedOf_11 : decode cX12_mendedOf 11 = .ok (.bipush 12, 2) := by decide +kernel
theorem dX12_mendedOf_13 : decode cX12_mendedOf 13 = .ok (.iload_n 1, 1) := by decide +kernel
theorem dX12_mendedOf_14 : decode cX12_mendedOf 14 = .ok (.imul, 1) := by decide +kernel
theorem dX12_mendedOf_15 : decode cX12_mendedOf 15 = .ok (.iload_n 2, 1) := by decide +kernel
theorem dX12_mendedOf_16 : decode cX12_mendedOf 16 = .ok (.iadd, 1) := by decide +kernel
theorem dX12_mendedOf_17 : decode cX12_mendedOf 17 = .ok (.iaload, 1) := by decide +kernel
theorem dX12_mendedOf_18 : decode cX12_mendedOf 18 = .ok (.istore 4, 2) := by decide +kernel
theorem dX12_mendedOf_20 : decode cX12_mendedOf 20 = .ok (.iload_n 3, 1) := by decide +kernel
theorem dX12_mendedOf_21 : decode cX12_mendedOf 21 = .ok (.ifCond .eq 12, 3) := by decide +kernel
theorem dX12_mendedOf_24 : decode cX12_mendedOf 24 = .ok (.iload_n 3, 1) := by decide +kernel
theorem dX12_mendedOf_25 : decode cX12_mendedOf 25 = .ok (.iload 4, 2) := by decide +kernel
theorem dX12_mendedOf_27 : decode cX12_mendedOf 27 = .ok (.invokestatic 280, 3) := by decide +kernel
theorem dX12_mendedOf_30 : decode cX12_mendedOf 30 = .ok (.ifCond .eq 14, 3) := by decide +kernel
theorem dX12_mendedOf_33 : decode cX12_mendedOf 33 = .ok (.iload_n 3, 1) := by decide +kernel
theorem dX12_mendedOf_34 : decode cX12_mendedOf 34 = .ok (.ifCond .ne 7, 3) := by decide +kernel
theorem dX12_mendedOf_37 : decode cX12_mendedOf 37 = .ok (.iconst (-1), 1) := by decide +kernel
theorem dX12_mendedOf_38 : decode cX12_mendedOf 38 = .ok (.goto 5, 3) := by decide +kernel
theorem dX12_mendedOf_41 : decode cX12_mendedOf 41 = .ok (.iload 4, 2) := by decide +kernel
theorem dX12_mendedOf_43 : decode cX12_mendedOf 43 = .ok (.ireturn, 1) := by decide +kernel
theorem dX12_mendedOf_44 : decode cX12_mendedOf 44 = .ok (.iconst 0, 1) := by decide +kernel
theorem dX12_mendedOf_45 : decode cX12_mendedOf 45 = .ok (.istore 5, 2) := by decide +kernel
theorem dX12_mendedOf_47 : decode cX12_mendedOf 47 = .ok (.iload_n 3, 1) := by decide +kernel
theorem dX12_mendedOf_48 : decode cX12_mendedOf 48 = .ok (.iload 5, 2) := by decide +kernel
theorem dX12_mendedOf_50 : decode cX12_mendedOf 50 = .ok (.invokestatic 280, 3) := by decide +kernel
theorem dX12_mendedOf_53 : decode cX12_mendedOf 53 = .ok (.ifCond .ne 9, 3) := by decide +kernel
theorem dX12_mendedOf_56 : decode cX12_mendedOf 56 = .ok (.iinc 5 1, 3) := by decide +kernel
theorem dX12_mendedOf_59 : decode cX12_mendedOf 59 = .ok (.goto (-12), 3) := by decide +kernel
theorem dX12_mendedOf_62 : decode cX12_mendedOf 62 = .ok (.iload 5, 2) := by decide +kernel
theorem dX12_mendedOf_64 : decode cX12_mendedOf 64 = .ok (.ireturn, 1) := by decide +kernel
theorem wrr_wsX12_stuckOf {i : Nat} {w : Cond} (h : wsX12_stuckOf[i]? = some w) : w ∈ wsX12_stuckOf := List.mem_of_getElem? h
theorem wrr_wsX12_stuckOf_wsX12_stuckOf_r1 {i : Nat} {w : Cond} (h : wsX12_stuckOf_r1[i]? = some w) : w ∈ wsX12_stuckOf := (List.mem_cons_of_mem _ (List.mem_append_left _ (List.mem_append_left _ (List.mem_of_getElem? h))))
theorem wrr_wsX12_stuckOf_wsX12_stuckOf_r2 {i : Nat} {w : Cond} (h : wsX12_stuckOf_r2[i]? = some w) : w ∈ wsX12_stuckOf := (List.mem_cons_of_mem _ (List.mem_append_left _ (List.mem_append_right _ (List.mem_of_getElem? h))))
theorem wru_wsX12_stuckOf_wsX120 : ∀ w ∈ wsX120, w ∈ wsX12_stuckOf := fun w h => (List.mem_cons_of_mem _ (List.mem_append_right _ h))
set_option maxRecDepth 20000 in
theorem ggX12_stuckOf_X12_lengthOf : GoodIn wsX12_stuckOf wsX12_lengthOf := goodIn_sub (List.forall_mem_cons.mpr ⟨wrr_wsX12_stuckOf_wsX12_stuckOf_r1 (i := 4) rfl, (List.forall_mem_append.mpr ⟨(List.forall_mem_cons.mpr ⟨wrr_wsX12_stuckOf_wsX12_stuckOf_r1 (i := 5) rfl, (fun _ h => absurd h List.not_mem_nil)⟩), wru_wsX12_stuckOf_wsX120⟩)⟩) gw_wsX12_lengthOf
set_option maxRecDepth 20000 in
theorem gX12_stuckOf_X12_lengthOf : GoodIn wsX12_stuckOf (wsV RX12 264 RX12 yX12_lengthOf wsX12_lengthOf) := goodIn_app (goodIn_sub (List.forall_mem_cons.mpr ⟨wrr_wsX12_stuckOf_wsX12_stuckOf_r1 (i := 0) rfl, (List.forall_mem_cons.mpr ⟨wrr_wsX12_stuckOf_wsX12_stuckOf_r1 (i := 1) rfl, (List.forall_mem_cons.mpr ⟨wrr_wsX12_stuckOf_wsX12_stuckOf_r1 (i := 2) rfl, (List.forall_mem_cons.mpr ⟨wrr_wsX12_stuckOf_wsX12_stuckOf_r1 (i := 3) rfl, (fun _ h => absurd h List.not_mem_nil)⟩)⟩)⟩)⟩) (by decide +kernel)) ggX12_stuckOf_X12_lengthOf
set_option maxRecDepth 20000 in
theorem gw_wsX12_mendedOf : wsX12_mendedOf.all goodWord = true := by decide +kernel
set_option maxRecDepth 20000 in
theorem ggX12_stuckOf_X12_mendedOf : GoodIn wsX12_stuckOf wsX12_mendedOf := goodIn_sub (List.forall_mem_cons.mpr ⟨wrr_wsX12_stuckOf_wsX12_stuckOf_r1 (i := 9) rfl, (List.forall_mem_append.mpr ⟨(List.forall_mem_append.mpr ⟨(List.forall_mem_cons.mpr ⟨wrr_wsX12_stuckOf_wsX12_stuckOf_r1 (i := 10) rfl, (List.forall_mem_cons.mpr ⟨wrr_wsX12_stuckOf_wsX12_stuckOf_r1 (i := 11) rfl, (List.forall_mem_cons.mpr ⟨wrr_wsX12_stuckOf_wsX12_stuckOf_r1 (i := 12) rfl, (List.forall_mem_cons.mpr ⟨wrr_wsX12_stuckOf_wsX12_stuckOf_r1 (i := 13) rfl, (List.forall_mem_cons.mpr ⟨wrr_wsX12_stuckOf_wsX12_stuckOf_r1 (i := 3) rfl, (List.forall_mem_cons.mpr ⟨wrr_wsX12_stuckOf_wsX12_stuckOf_r1 (i := 14) rfl, (List.forall_mem_cons.mpr ⟨wrr_wsX12_stuckOf_wsX12_stuckOf_r1 (i := 5) rfl, (List.forall_mem_cons.mpr ⟨wrr_wsX12_stuckOf_wsX12_stuckOf_r1 (i := 15) rfl, (List.forall_mem_cons.mpr ⟨wrr_wsX12_stuckOf_wsX12_stuckOf_r1 (i := 16) rfl, (List.forall_mem_cons.mpr ⟨wrr_wsX12_stuckOf_wsX12_stuckOf_r1 (i := 17) rfl, (List.forall_mem_cons.mpr ⟨wrr_wsX12_stuckOf_wsX12_stuckOf_r1 (i := 18) rfl, (List.forall_mem_cons.mpr ⟨wrr_wsX12_stuckOf_wsX12_stuckOf_r1 (i := 19) rfl, (List.forall_mem_cons.mpr ⟨wrr_wsX12_stuckOf_wsX12_stuckOf_r1 (i := 0) rfl, (List.forall_mem_cons.mpr ⟨wrr_wsX12_stuckOf_wsX12_stuckOf_r1 (i := 1) rfl, (List.forall_mem_cons.mpr ⟨wrr_wsX12_stuckOf_wsX12_stuckOf_r1 (i := 2) rfl, (List.forall_mem_cons.mpr ⟨wrr_wsX12_stuckOf_wsX12_stuckOf_r1 (i := 4) rfl, (List.forall_mem_cons.mpr ⟨wrr_wsX12_stuckOf_wsX12_stuckOf_r1 (i := 20) rfl, (List.forall_mem_cons.mpr ⟨wrr_wsX12_stuckOf_wsX12_stuckOf_r1 (i := 21) rfl, (List.forall_mem_cons.mpr ⟨wrr_wsX12_stuckOf_wsX12_stuckOf_r1 (i := 22) rfl, (List.forall_mem_cons.mpr ⟨wrr_wsX12_stuckOf_wsX12_stuckOf_r1 (i := 23) rfl, (List.forall_mem_cons.mpr ⟨wrr_wsX12_stuckOf_wsX12_stuckOf_r2 (i := 0) rfl, (List.forall_mem_cons.mpr ⟨wrr_wsX12_stuckOf_wsX12_stuckOf_r2 (i := 1) rfl, (List.forall_mem_cons.mpr ⟨wrr_wsX12_stuckOf_wsX12_stuckOf_r2 (i := 2) rfl, (List.forall_mem_cons.mpr ⟨wrr_wsX12_stuckOf_wsX12_stuckOf_r2 (i := 3) rfl, (fun _ h => absurd h List.not_mem_nil)⟩)⟩)⟩)⟩)⟩)⟩)⟩)⟩)⟩)⟩)⟩)⟩)⟩)⟩)⟩)⟩)⟩)⟩)⟩)⟩)⟩)⟩)⟩)⟩), (List.forall_mem_cons.mpr ⟨wrr_wsX12_stuckOf_wsX12_stuckOf_r2 (i := 4) rfl, (List.forall_mem_cons.mpr ⟨wrr_wsX12_stuckOf_wsX12_stuckOf_r2 (i := 5) rfl, (fun _ h => absurd h List.not_mem_nil)⟩)⟩)⟩), wru_wsX12_stuckOf_wsX120⟩)⟩) gw_wsX12_mendedOf
set_option maxRecDepth 20000 in
theorem gX12_stuckOf_X12_mendedOf : GoodIn wsX12_stuckOf (wsV RX12 337 RX12 yX12_mendedOf wsX12_mendedOf) := goodIn_app (goodIn_sub (List.forall_mem_cons.mpr ⟨wrr_wsX12_stuckOf_wsX12_stuckOf_r1 (i := 6) rfl, (List.forall_mem_cons.mpr ⟨wrr_wsX12_stuckOf_wsX12_stuckOf_r1 (i := 7) rfl, (List.forall_mem_cons.mpr ⟨wrr_wsX12_stuckOf_wsX12_stuckOf_r1 (i := 8) rfl, (List.forall_mem_cons.mpr ⟨wrr_wsX12_stuckOf_wsX12_stuckOf_r1 (i := 3) rfl, (fun _ h => absurd h List.not_mem_nil)⟩)⟩)⟩)⟩) (by decide +kernel)) ggX12_stuckOf_X12_mendedOf
theorem dX12_stuckOf_0 : decode cX12_stuckOf 0 = .ok (.iconst 0, 1) := by decide +kernel
theorem dX12_stuckOf_1 : decode cX12_stuckOf 1 = .ok (.istore_n 2, 1) := by decide +kernel
theorem dX12_stuckOf_2 : decode cX12_stuckOf 2 = .ok (.iload_n 2, 1) := by decide +kernel
theorem dX12_stuckOf_3 : decode cX12_stuckOf 3 = .ok (.aload_n 0, 1) := by decide +kernel
theorem dX12_stuckOf_4 : decode cX12_stuckOf 4 = .ok (.iload_n 1, 1) := by decide +kernel
theorem dX12_stuckOf_5 : decode cX12_stuckOf 5 = .ok (.invokevirtual 264, 3) := by decide +kernel
theorem dX12_stuckOf_8 : decode cX12_stuckOf 8 = .ok (.if_icmp .ge 21, 3) := by decide +kernel
theorem dX12_stuckOf_11 : decode cX12_stuckOf 11 = .ok (.aload_n 0, 1) := by decide +kernel
theorem dX12_stuckOf_12 : decode cX12_stuckOf 12 = .ok (.iload_n 1, 1) := by decide +kernel
theorem dX12_stuckOf_13 : decode cX12_stuckOf 13 = .ok (.iload_n 2, 1) := by decide +kernel
theorem dX12_stuckOf_14 : decode cX12_stuckOf 14 = .ok (.invokevirtual 337, 3) := by decide +kernel
theorem dX12_stuckOf_17 : decode cX12_stuckOf 17 = .ok (.iconst (-1), 1) := by decide +kernel
theorem dX12_stuckOf_18 : decode cX12_stuckOf 18 = .ok (.if_icmp .ne 5, 3) := by decide +kernel
theorem dX12_stuckOf_21 : decode cX12_stuckOf 21 = .ok (.iload_n 2, 1) := by decide +kernel
theorem dX12_stuckOf_22 : decode cX12_stuckOf 22 = .ok (.ireturn, 1) := by decide +kernel
theorem dX12_stuckOf_23 : decode cX12_stuckOf 23 = .ok (.iinc 2 1, 3) := by decide +kernel
theorem dX12_stuckOf_26 : decode cX12_stuckOf 26 = .ok (.goto (-24), 3) := by decide +kernel
theorem dX12_stuckOf_29 : decode cX12_stuckOf 29 = .ok (.iconst (-1), 1) := by decide +kernel
theorem dX12_stuckOf_30 : decode cX12_stuckOf 30 = .ok (.ireturn, 1) := by decide +kernel
theorem wrr_wsX12_mend {i : Nat} {w : Cond} (h : wsX12_mend[i]? = some w) : w ∈ wsX12_mend := List.mem_of_getElem? h
theorem wrr_wsX12_mend_wsX12_mend_r1 {i : Nat} {w : Cond} (h : wsX12_mend_r1[i]? = some w) : w ∈ wsX12_mend := (List.mem_cons_of_mem _ (List.mem_append_left _ (List.mem_append_left _ (List.mem_of_getElem? h))))
theorem wrr_wsX12_mend_wsX12_mend_r2 {i : Nat} {w : Cond} (h : wsX12_mend_r2[i]? = some w) : w ∈ wsX12_mend := (List.mem_cons_of_mem _ (List.mem_append_left _ (List.mem_append_right _ (List.mem_append_left _ (List.mem_of_getElem? h)))))
theorem wrr_wsX12_mend_wsX12_mend_r3 {i : Nat} {w : Cond} (h : wsX12_mend_r3[i]? = some w) : w ∈ wsX12_mend := (List.mem_cons_of_mem _ (List.mem_append_left _ (List.mem_append_right _ (List.mem_append_right _ (List.mem_of_getElem? h)))))
theorem wru_wsX12_mend_wsX120 : ∀ w ∈ wsX120, w ∈ wsX12_mend := fun w h => (List.mem_cons_of_mem _ (List.mem_append_right _ h))
set_option maxRecDepth 20000 in
theorem ggX12_mend_X12_isSide : GoodIn wsX12_mend wsX12_isSide := goodIn_sub (List.forall_mem_cons.mpr ⟨wrr_wsX12_mend_wsX12_mend_r1 (i := 6) rfl, (List.forall_mem_append.mpr ⟨(List.forall_mem_cons.mpr ⟨wrr_wsX12_mend_wsX12_mend_r1 (i := 7) rfl, (List.forall_mem_cons.mpr ⟨wrr_wsX12_mend_wsX12_mend_r1 (i := 8) rfl, (List.forall_mem_cons.mpr ⟨wrr_wsX12_mend_wsX12_mend_r1 (i := 9) rfl, (List.forall_mem_cons.mpr ⟨wrr_wsX12_mend_wsX12_mend_r1 (i := 5) rfl, (List.forall_mem_cons.mpr ⟨wrr_wsX12_mend_wsX12_mend_r1 (i := 10) rfl, (List.forall_mem_cons.mpr ⟨wrr_wsX12_mend_wsX12_mend_r1 (i := 11) rfl, (List.forall_mem_cons.mpr ⟨wrr_wsX12_mend_wsX12_mend_r1 (i := 12) rfl, (List.forall_mem_cons.mpr ⟨wrr_wsX12_mend_wsX12_mend_r1 (i := 13) rfl, (List.forall_mem_cons.mpr ⟨wrr_wsX12_mend_wsX12_mend_r1 (i := 14) rfl, (fun _ h => absurd h List.not_mem_nil)⟩)⟩)⟩)⟩)⟩)⟩)⟩)⟩)⟩), wru_wsX12_mend_wsX120⟩)⟩) gw_wsX12_isSide
set_option maxRecDepth 20000 in
theorem gX12_mend_X12_isSide : GoodIn wsX12_mend (wsV RX12 261 RX12 yX12_isSide wsX12_isSide) := goodIn_app (goodIn_sub (List.forall_mem_cons.mpr ⟨wrr_wsX12_mend_wsX12_mend_r1 (i := 2) rfl, (List.forall_mem_cons.mpr ⟨wrr_wsX12_mend_wsX12_mend_r1 (i := 3) rfl, (List.forall_mem_cons.mpr ⟨wrr_wsX12_mend_wsX12_mend_r1 (i := 4) rfl, (List.forall_mem_cons.mpr ⟨wrr_wsX12_mend_wsX12_mend_r1 (i := 5) rfl, (fun _ h => absurd h List.not_mem_nil)⟩)⟩)⟩)⟩) (by decide +kernel)) ggX12_mend_X12_isSide
set_option maxRecDepth 20000 in
theorem ggX12_mend_X12_areRounds : GoodIn wsX12_mend wsX12_areRounds := goodIn_sub (List.forall_mem_cons.mpr ⟨wrr_wsX12_mend_wsX12_mend_r1 (i := 18) rfl, (List.forall_mem_append.mpr ⟨(List.forall_mem_cons.mpr ⟨wrr_wsX12_mend_wsX12_mend_r1 (i := 19) rfl, (fun _ h => absurd h List.not_mem_nil)⟩), wru_wsX12_mend_wsX120⟩)⟩) gw_wsX12_areRounds
set_option maxRecDepth 20000 in
theorem gX12_mend_X12_areRounds : GoodIn wsX12_mend (wsV RX12 322 RX12 yX12_areRounds wsX12_areRounds) := goodIn_app (goodIn_sub (List.forall_mem_cons.mpr ⟨wrr_wsX12_mend_wsX12_mend_r1 (i := 15) rfl, (List.forall_mem_cons.mpr ⟨wrr_wsX12_mend_wsX12_mend_r1 (i := 16) rfl, (List.forall_mem_cons.mpr ⟨wrr_wsX12_mend_wsX12_mend_r1 (i := 17) rfl, (List.forall_mem_cons.mpr ⟨wrr_wsX12_mend_wsX12_mend_r1 (i := 5) rfl, (fun _ h => absurd h List.not_mem_nil)⟩)⟩)⟩)⟩) (by decide +kernel)) ggX12_mend_X12_areRounds
set_option maxRecDepth 20000 in
theorem gw_wsX12_stuckOf : wsX12_stuckOf.all goodWord = true := by decide +kernel
set_option maxRecDepth 20000 in
theorem ggX12_mend_X12_stuckOf : GoodIn wsX12_mend wsX12_stuckOf := goodIn_sub (List.forall_mem_cons.mpr ⟨wrr_wsX12_mend_wsX12_mend_r1 (i := 23) rfl, (List.forall_mem_append.mpr ⟨(List.forall_mem_append.mpr ⟨(List.forall_mem_cons.mpr ⟨wrr_wsX12_mend_wsX12_mend_r2 (i := 0) rfl, (List.forall_mem_cons.mpr ⟨wrr_wsX12_mend_wsX12_mend_r2 (i := 1) rfl, (List.forall_mem_cons.mpr ⟨wrr_wsX12_mend_wsX12_mend_r2 (i := 2) rfl, (List.forall_mem_cons.mpr ⟨wrr_wsX12_mend_wsX12_mend_r1 (i := 5) rfl, (List.forall_mem_cons.mpr ⟨wrr_wsX12_mend_wsX12_mend_r2 (i := 3) rfl, (List.forall_mem_cons.mpr ⟨wrr_wsX12_mend_wsX12_mend_r1 (i := 19) rfl, (List.forall_mem_cons.mpr ⟨wrr_wsX12_mend_wsX12_mend_r2 (i := 4) rfl, (List.forall_mem_cons.mpr ⟨wrr_wsX12_mend_wsX12_mend_r2 (i := 5) rfl, (List.forall_mem_cons.mpr ⟨wrr_wsX12_mend_wsX12_mend_r2 (i := 6) rfl, (List.forall_mem_cons.mpr ⟨wrr_wsX12_mend_wsX12_mend_r2 (i := 7) rfl, (List.forall_mem_cons.mpr ⟨wrr_wsX12_mend_wsX12_mend_r1 (i := 1) rfl, (List.forall_mem_cons.mpr ⟨wrr_wsX12_mend_wsX12_mend_r2 (i := 8) rfl, (List.forall_mem_cons.mpr ⟨wrr_wsX12_mend_wsX12_mend_r2 (i := 9) rfl, (List.forall_mem_cons.mpr ⟨wrr_wsX12_mend_wsX12_mend_r2 (i := 10) rfl, (List.forall_mem_cons.mpr ⟨wrr_wsX12_mend_wsX12_mend_r2 (i := 11) rfl, (List.forall_mem_cons.mpr ⟨wrr_wsX12_mend_wsX12_mend_r2 (i := 12) rfl, (List.forall_mem_cons.mpr ⟨wrr_wsX12_mend_wsX12_mend_r2 (i := 13) rfl, (List.forall_mem_cons.mpr ⟨wrr_wsX12_mend_wsX12_mend_r2 (i := 14) rfl, (List.forall_mem_cons.mpr ⟨wrr_wsX12_mend_wsX12_mend_r2 (i := 15) rfl, (List.forall_mem_cons.mpr ⟨wrr_wsX12_mend_wsX12_mend_r2 (i := 16) rfl, (List.forall_mem_cons.mpr ⟨wrr_wsX12_mend_wsX12_mend_r2 (i := 17) rfl, (List.forall_mem_cons.mpr ⟨wrr_wsX12_mend_wsX12_mend_r2 (i := 18) rfl, (List.forall_mem_cons.mpr ⟨wrr_wsX12_mend_wsX12_mend_r2 (i := 19) rfl, (List.forall_mem_cons.mpr ⟨wrr_wsX12_mend_wsX12_mend_r2 (i := 20) rfl, (fun _ h => absurd h List.not_mem_nil)⟩)⟩)⟩)⟩)⟩)⟩)⟩)⟩)⟩)⟩)⟩)⟩)⟩)⟩)⟩)⟩)⟩)⟩)⟩)⟩)⟩)⟩)⟩)⟩), (List.forall_mem_cons.mpr ⟨wrr_wsX12_mend_wsX12_mend_r2 (i := 21) rfl, (List.forall_mem_cons.mpr ⟨wrr_wsX12_mend_wsX12_mend_r2 (i := 22) rfl, (List.forall_mem_cons.mpr ⟨wrr_wsX12_mend_wsX12_mend_r2 (i := 23) rfl, (List.forall_mem_cons.mpr ⟨wrr_wsX12_mend_wsX12_mend_r3 (i := 0) rfl, (List.forall_mem_cons.mpr ⟨wrr_wsX12_mend_wsX12_mend_r3 (i := 1) rfl, (List.forall_mem_cons.mpr ⟨wrr_wsX12_mend_wsX12_mend_r3 (i := 2) rfl, (fun _ h => absurd h List.not_mem_nil)⟩)⟩)⟩)⟩)⟩)⟩)⟩), wru_wsX12_mend_wsX120⟩)⟩) gw_wsX12_stuckOf
set_option maxRecDepth 20000 in
theorem gX12_mend_X12_stuckOf : GoodIn wsX12_mend (wsV RX12 340 RX12 yX12_stuckOf wsX12_stuckOf) := goodIn_app (goodIn_sub (List.forall_mem_cons.mpr ⟨wrr_wsX12_mend_wsX12_mend_r1 (i := 20) rfl, (List.forall_mem_cons.mpr ⟨wrr_wsX12_mend_wsX12_mend_r1 (i := 21) rfl, (List.forall_mem_cons.mpr ⟨wrr_wsX12_mend_wsX12_mend_r1 (i := 22) rfl, (List.forall_mem_cons.mpr ⟨wrr_wsX12_mend_wsX12_mend_r1 (i := 5) rfl, (fun _ h => absurd h List.not_mem_nil)⟩)⟩)⟩)⟩) (by decide +kernel)) ggX12_mend_X12_stuckOf
set_option maxRecDepth 20000 in
theorem ggX12_mend_X12_lengthOf : GoodIn wsX12_mend wsX12_lengthOf := goodIn_sub (List.forall_mem_cons.mpr ⟨wrr_wsX12_mend_wsX12_mend_r2 (i := 3) rfl, (List.forall_mem_append.mpr ⟨(List.forall_mem_cons.mpr ⟨wrr_wsX12_mend_wsX12_mend_r1 (i := 19) rfl, (fun _ h => absurd h List.not_mem_nil)⟩), wru_wsX12_mend_wsX120⟩)⟩) gw_wsX12_lengthOf
set_option maxRecDepth 20000 in
theorem gX12_mend_X12_lengthOf : GoodIn wsX12_mend (wsV RX12 264 RX12 yX12_lengthOf wsX12_lengthOf) := goodIn_app (goodIn_sub (List.forall_mem_cons.mpr ⟨wrr_wsX12_mend_wsX12_mend_r2 (i := 0) rfl, (List.forall_mem_cons.mpr ⟨wrr_wsX12_mend_wsX12_mend_r2 (i := 1) rfl, (List.forall_mem_cons.mpr ⟨wrr_wsX12_mend_wsX12_mend_r2 (i := 2) rfl, (List.forall_mem_cons.mpr ⟨wrr_wsX12_mend_wsX12_mend_r1 (i := 5) rfl, (fun _ h => absurd h List.not_mem_nil)⟩)⟩)⟩)⟩) (by decide +kernel)) ggX12_mend_X12_lengthOf
set_option maxRecDepth 20000 in
theorem ggX12_mend_X12_mendedOf : GoodIn wsX12_mend wsX12_mendedOf := goodIn_sub (List.forall_mem_cons.mpr ⟨wrr_wsX12_mend_wsX12_mend_r2 (i := 7) rfl, (List.forall_mem_append.mpr ⟨(List.forall_mem_append.mpr ⟨(List.forall_mem_cons.mpr ⟨wrr_wsX12_mend_wsX12_mend_r1 (i := 1) rfl, (List.forall_mem_cons.mpr ⟨wrr_wsX12_mend_wsX12_mend_r2 (i := 8) rfl, (List.forall_mem_cons.mpr ⟨wrr_wsX12_mend_wsX12_mend_r2 (i := 9) rfl, (List.forall_mem_cons.mpr ⟨wrr_wsX12_mend_wsX12_mend_r2 (i := 10) rfl, (List.forall_mem_cons.mpr ⟨wrr_wsX12_mend_wsX12_mend_r1 (i := 5) rfl, (List.forall_mem_cons.mpr ⟨wrr_wsX12_mend_wsX12_mend_r2 (i := 11) rfl, (List.forall_mem_cons.mpr ⟨wrr_wsX12_mend_wsX12_mend_r1 (i := 19) rfl, (List.forall_mem_cons.mpr ⟨wrr_wsX12_mend_wsX12_mend_r2 (i := 12) rfl, (List.forall_mem_cons.mpr ⟨wrr_wsX12_mend_wsX12_mend_r2 (i := 13) rfl, (List.forall_mem_cons.mpr ⟨wrr_wsX12_mend_wsX12_mend_r2 (i := 14) rfl, (List.forall_mem_cons.mpr ⟨wrr_wsX12_mend_wsX12_mend_r2 (i := 15) rfl, (List.forall_mem_cons.mpr ⟨wrr_wsX12_mend_wsX12_mend_r2 (i := 16) rfl, (List.forall_mem_cons.mpr ⟨wrr_wsX12_mend_wsX12_mend_r2 (i := 0) rfl, (List.forall_mem_cons.mpr ⟨wrr_wsX12_mend_wsX12_mend_r2 (i := 1) rfl, (List.forall_mem_cons.mpr ⟨wrr_wsX12_mend_wsX12_mend_r2 (i := 2) rfl, (List.forall_mem_cons.mpr ⟨wrr_wsX12_mend_wsX12_mend_r2 (i := 3) rfl, (List.forall_mem_cons.mpr ⟨wrr_wsX12_mend_wsX12_mend_r2 (i := 17) rfl, (List.forall_mem_cons.mpr ⟨wrr_wsX12_mend_wsX12_mend_r2 (i := 18) rfl, (List.forall_mem_cons.mpr ⟨wrr_wsX12_mend_wsX12_mend_r2 (i := 19) rfl, (List.forall_mem_cons.mpr ⟨wrr_wsX12_mend_wsX12_mend_r2 (i := 20) rfl, (List.forall_mem_cons.mpr ⟨wrr_wsX12_mend_wsX12_mend_r2 (i := 21) rfl, (List.forall_mem_cons.mpr ⟨wrr_wsX12_mend_wsX12_mend_r2 (i := 22) rfl, (List.forall_mem_cons.mpr ⟨wrr_wsX12_mend_wsX12_mend_r2 (i := 23) rfl, (List.forall_mem_cons.mpr ⟨wrr_wsX12_mend_wsX12_mend_r3 (i := 0) rfl, (fun _ h => absurd h List.not_mem_nil)⟩)⟩)⟩)⟩)⟩)⟩)⟩)⟩)⟩)⟩)⟩)⟩)⟩)⟩)⟩)⟩)⟩)⟩)⟩)⟩)⟩)⟩)⟩)⟩), (List.forall_mem_cons.mpr ⟨wrr_wsX12_mend_wsX12_mend_r3 (i := 1) rfl, (List.forall_mem_cons.mpr ⟨wrr_wsX12_mend_wsX12_mend_r3 (i := 2) rfl, (fun _ h => absurd h List.not_mem_nil)⟩)⟩)⟩), wru_wsX12_mend_wsX120⟩)⟩) gw_wsX12_mendedOf
set_option maxRecDepth 20000 in
theorem gX12_mend_X12_mendedOf : GoodIn wsX12_mend (wsV RX12 337 RX12 yX12_mendedOf wsX12_mendedOf) := goodIn_app (goodIn_sub (List.forall_mem_cons.mpr ⟨wrr_wsX12_mend_wsX12_mend_r2 (i := 4) rfl, (List.forall_mem_cons.mpr ⟨wrr_wsX12_mend_wsX12_mend_r2 (i := 5) rfl, (List.forall_mem_cons.mpr ⟨wrr_wsX12_mend_wsX12_mend_r2 (i := 6) rfl, (List.forall_mem_cons.mpr ⟨wrr_wsX12_mend_wsX12_mend_r1 (i := 5) rfl, (fun _ h => absurd h List.not_mem_nil)⟩)⟩)⟩)⟩) (by decide +kernel)) ggX12_mend_X12_mendedOf
theorem dX12_mend_0 : decode cX12_mend 0 = .ok (.aload_n 0, 1) := by decide +kernel
theorem dX12_mend_1 : decode cX12_mend 1 = .ok (.iconst 0, 1) := by decide +kernel
theorem dX12_mend_2 : decode cX12_mend 2 = .ok (.putfield 80, 3) := by decide +kernel
theorem dX12_mend_5 : decode cX12_mend 5 = .ok (.aload_n 0, 1) := by decide +kernel
theorem dX12_mend_6 : decode cX12_mend 6 = .ok (.iload_n 1, 1) := by decide +kernel
theorem dX12_mend_7 : decode cX12_mend 7 = .ok (.invokevirtual 261, 3) := by decide +kernel
theorem dX12_mend_10 : decode cX12_mend 10 = .ok (.ifCond .eq 10, 3) := by decide +kernel
theorem dX12_mend_13 : decode cX12_mend 13 = .ok (.aload_n 0, 1) := by decide +kernel
theorem dX12_mend_14 : decode cX12_mend 14 = .ok (.invokevirtual 322, 3) := by decide +kernel
theorem dX12_mend_17 : decode cX12_mend 17 = .ok (.ifCond .ne 6, 3) := by decide +kernel
theorem dX12_mend_20 : decode cX12_mend 20 = .ok (.bipush (-2), 2) := by decide +kernel
theorem dX12_mend_22 : decode cX12_mend 22 = .ok (.ireturn, 1) := by decide +kernel
theorem dX12_mend_23 : decode cX12_mend 23 = .ok (.aload_n 0, 1) := by decide +kernel
theorem dX12_mend_24 : decode cX12_mend 24 = .ok (.iload_n 1, 1) := by decide +kernel
theorem dX12_mend_25 : decode cX12_mend 25 = .ok (.invokevirtual 340, 3) := by decide +kernel
theorem dX12_mend_28 : decode cX12_mend 28 = .ok (.iconst (-1), 1) := by decide +kernel
theorem dX12_mend_29 : decode cX12_mend 29 = .ok (.if_icmp .eq 5, 3) := by decide +kernel
theorem dX12_mend_32 : decode cX12_mend 32 = .ok (.iconst (-1), 1) := by decide +kernel
theorem dX12_mend_33 : decode cX12_mend 33 = .ok (.ireturn, 1) := by decide +kernel
theorem dX12_mend_34 : decode cX12_mend 34 = .ok (.iconst 0, 1) := by decide +kernel
theorem dX12_mend_35 : decode cX12_mend 35 = .ok (.istore_n 2, 1) := by decide +kernel
theorem dX12_mend_36 : decode cX12_mend 36 = .ok (.iconst 0, 1) := by decide +kernel
theorem dX12_mend_37 : decode cX12_mend 37 = .ok (.istore_n 3, 1) := by decide +kernel
theorem dX12_mend_38 : decode cX12_mend 38 = .ok (.iload_n 3, 1) := by decide +kernel
theorem dX12_mend_39 : decode cX12_mend 39 = .ok (.aload_n 0, 1) := by decide +kernel
theorem dX12_mend_40 : decode cX12_mend 40 = .ok (.iload_n 1, 1) := by decide +kernel
theorem dX12_mend_41 : decode cX12_mend 41 = .ok (.invokevirtual 264, 3) := by decide +kernel
theorem dX12_mend_44 : decode cX12_mend 44 = .ok (.if_icmp .ge 37, 3) := by decide +kernel
theorem dX12_mend_47 : decode cX12_mend 47 = .ok (.iload_n 2, 1) := by decide +kernel
theorem dX12_mend_48 : decode cX12_mend 48 = .ok (.aload_n 0, 1) := by decide +kernel
theorem dX12_mend_49 : decode cX12_mend 49 = .ok (.iload_n 1, 1) := by decide +kernel
theorem dX12_mend_50 : decode cX12_mend 50 = .ok (.iload_n 3, 1) := by decide +kernel
theorem dX12_mend_51 : decode cX12_mend 51 = .ok (.invokevirtual 337, 3) := by decide +kernel
theorem dX12_mend_54 : decode cX12_mend 54 = .ok (.aload_n 0, 1) := by decide +kernel
theorem dX12_mend_55 : decode cX12_mend 55 = .ok (.getfield 37, 3) := by decide +kernel
theorem dX12_mend_58 : decode cX12_mend 58 = .ok (.bipush 12, 2) := by decide +kernel
theorem dX12_mend_60 : decode cX12_mend 60 = .ok (.iload_n 1, 1) := by decide +kernel
theorem dX12_mend_61 : decode cX12_mend 61 = .ok (.imul, 1) := by decide +kernel
theorem dX12_mend_62 : decode cX12_mend 62 = .ok (.iload_n 3, 1) := by decide +kernel
theorem dX12_mend_63 : decode cX12_mend 63 = .ok (.iadd, 1) := by decide +kernel
theorem dX12_mend_64 : decode cX12_mend 64 = .ok (.iaload, 1) := by decide +kernel
theorem dX12_mend_65 : decode cX12_mend 65 = .ok (.if_icmp .eq 7, 3) := by decide +kernel
theorem dX12_mend_68 : decode cX12_mend 68 = .ok (.iconst 1, 1) := by decide +kernel
theorem dX12_mend_69 : decode cX12_mend 69 = .ok (.goto 4, 3) := by decide +kernel
theorem dX12_mend_72 : decode cX12_mend 72 = .ok (.iconst 0, 1) := by decide +kernel
theorem dX12_mend_73 : decode cX12_mend 73 = .ok (.iadd, 1) := by decide +kernel
theorem dX12_mend_74 : decode cX12_mend 74 = .ok (.istore_n 2, 1) := by decide +kernel
theorem dX12_mend_75 : decode cX12_mend 75 = .ok (.iinc 3 1, 3) := by decide +kernel
theorem dX12_mend_78 : decode cX12_mend 78 = .ok (.goto (-40), 3) := by decide +kernel
theorem dX12_mend_81 : decode cX12_mend 81 = .ok (.iload_n 2, 1) := by decide +kernel
theorem dX12_mend_82 : decode cX12_mend 82 = .ok (.ireturn, 1) := by decide +kernel
theorem wrr_wsX12_mended {i : Nat} {w : Cond} (h : wsX12_mended[i]? = some w) : w ∈ wsX12_mended := List.mem_of_getElem? h
theorem wrr_wsX12_mended_wsX12_mended_r1 {i : Nat} {w : Cond} (h : wsX12_mended_r1[i]? = some w) : w ∈ wsX12_mended := (List.mem_cons_of_mem _ (List.mem_append_left _ (List.mem_append_left _ (List.mem_of_getElem? h))))
theorem wrr_wsX12_mended_wsX12_mended_r2 {i : Nat} {w : Cond} (h : wsX12_mended_r2[i]? = some w) : w ∈ wsX12_mended := (List.mem_cons_of_mem _ (List.mem_append_left _ (List.mem_append_right _ (List.mem_append_left _ (List.mem_of_getElem? h)))))
theorem wrr_wsX12_mended_wsX12_mended_r3 {i : Nat} {w : Cond} (h : wsX12_mended_r3[i]? = some w) : w ∈ wsX12_mended := (List.mem_cons_of_mem _ (List.mem_append_left _ (List.mem_append_right _ (List.mem_append_right _ (List.mem_of_getElem? h)))))
theorem wru_wsX12_mended_wsX120 : ∀ w ∈ wsX120, w ∈ wsX12_mended := fun w h => (List.mem_cons_of_mem _ (List.mem_append_right _ h))
set_option maxRecDepth 20000 in
theorem ggX12_mended_X12_isSide : GoodIn wsX12_mended wsX12_isSide := goodIn_sub (List.forall_mem_cons.mpr ⟨wrr_wsX12_mended_wsX12_mended_r1 (i := 5) rfl, (List.forall_mem_append.mpr ⟨(List.forall_mem_cons.mpr ⟨wrr_wsX12_mended_wsX12_mended_r1 (i := 6) rfl, (List.forall_mem_cons.mpr ⟨wrr_wsX12_mended_wsX12_mended_r1 (i := 7) rfl, (List.forall_mem_cons.mpr ⟨wrr_wsX12_mended_wsX12_mended_r1 (i := 8) rfl, (List.forall_mem_cons.mpr ⟨wrr_wsX12_mended_wsX12_mended_r1 (i := 4) rfl, (List.forall_mem_cons.mpr ⟨wrr_wsX12_mended_wsX12_mended_r1 (i := 9) rfl, (List.forall_mem_cons.mpr ⟨wrr_wsX12_mended_wsX12_mended_r1 (i := 10) rfl, (List.forall_mem_cons.mpr ⟨wrr_wsX12_mended_wsX12_mended_r1 (i := 11) rfl, (List.forall_mem_cons.mpr ⟨wrr_wsX12_mended_wsX12_mended_r1 (i := 12) rfl, (List.forall_mem_cons.mpr ⟨wrr_wsX12_mended_wsX12_mended_r1 (i := 13) rfl, (fun _ h => absurd h List.not_mem_nil)⟩)⟩)⟩)⟩)⟩)⟩)⟩)⟩)⟩), wru_wsX12_mended_wsX120⟩)⟩) gw_wsX12_isSide
set_option maxRecDepth 20000 in
theorem gX12_mended_X12_isSide : GoodIn wsX12_mended (wsV RX12 261 RX12 yX12_isSide wsX12_isSide) := goodIn_app (goodIn_sub (List.forall_mem_cons.mpr ⟨wrr_wsX12_mended_wsX12_mended_r1 (i := 1) rfl, (List.forall_mem_cons.mpr ⟨wrr_wsX12_mended_wsX12_mended_r1 (i := 2) rfl, (List.forall_mem_cons.mpr ⟨wrr_wsX12_mended_wsX12_mended_r1 (i := 3) rfl, (List.forall_mem_cons.mpr ⟨wrr_wsX12_mended_wsX12_mended_r1 (i := 4) rfl, (fun _ h => absurd h List.not_mem_nil)⟩)⟩)⟩)⟩) (by decide +kernel)) ggX12_mended_X12_isSide
set_option maxRecDepth 20000 in
theorem ggX12_mended_X12_areRounds : GoodIn wsX12_mended wsX12_areRounds := goodIn_sub (List.forall_mem_cons.mpr ⟨wrr_wsX12_mended_wsX12_mended_r1 (i := 17) rfl, (List.forall_mem_append.mpr ⟨(List.forall_mem_cons.mpr ⟨wrr_wsX12_mended_wsX12_mended_r1 (i := 18) rfl, (fun _ h => absurd h List.not_mem_nil)⟩), wru_wsX12_mended_wsX120⟩)⟩) gw_wsX12_areRounds
set_option maxRecDepth 20000 in
theorem gX12_mended_X12_areRounds : GoodIn wsX12_mended (wsV RX12 322 RX12 yX12_areRounds wsX12_areRounds) := goodIn_app (goodIn_sub (List.forall_mem_cons.mpr ⟨wrr_wsX12_mended_wsX12_mended_r1 (i := 14) rfl, (List.forall_mem_cons.mpr ⟨wrr_wsX12_mended_wsX12_mended_r1 (i := 15) rfl, (List.forall_mem_cons.mpr ⟨wrr_wsX12_mended_wsX12_mended_r1 (i := 16) rfl, (List.forall_mem_cons.mpr ⟨wrr_wsX12_mended_wsX12_mended_r1 (i := 4) rfl, (fun _ h => absurd h List.not_mem_nil)⟩)⟩)⟩)⟩) (by decide +kernel)) ggX12_mended_X12_areRounds
set_option maxRecDepth 20000 in
theorem ggX12_mended_X12_lengthOf : GoodIn wsX12_mended wsX12_lengthOf := goodIn_sub (List.forall_mem_cons.mpr ⟨wrr_wsX12_mended_wsX12_mended_r1 (i := 22) rfl, (List.forall_mem_append.mpr ⟨(List.forall_mem_cons.mpr ⟨wrr_wsX12_mended_wsX12_mended_r1 (i := 18) rfl, (fun _ h => absurd h List.not_mem_nil)⟩), wru_wsX12_mended_wsX120⟩)⟩) gw_wsX12_lengthOf
set_option maxRecDepth 20000 in
theorem gX12_mended_X12_lengthOf : GoodIn wsX12_mended (wsV RX12 264 RX12 yX12_lengthOf wsX12_lengthOf) := goodIn_app (goodIn_sub (List.forall_mem_cons.mpr ⟨wrr_wsX12_mended_wsX12_mended_r1 (i := 19) rfl, (List.forall_mem_cons.mpr ⟨wrr_wsX12_mended_wsX12_mended_r1 (i := 20) rfl, (List.forall_mem_cons.mpr ⟨wrr_wsX12_mended_wsX12_mended_r1 (i := 21) rfl, (List.forall_mem_cons.mpr ⟨wrr_wsX12_mended_wsX12_mended_r1 (i := 4) rfl, (fun _ h => absurd h List.not_mem_nil)⟩)⟩)⟩)⟩) (by decide +kernel)) ggX12_mended_X12_lengthOf
set_option maxRecDepth 20000 in
theorem ggX12_mended_X12_in : GoodIn wsX12_mended wsX12_in := goodIn_sub (List.forall_mem_cons.mpr ⟨wrr_wsX12_mended_wsX12_mended_r1 (i := 13) rfl, (fun _ h => absurd h List.not_mem_nil)⟩) gw_wsX12_in
set_option maxRecDepth 20000 in
theorem gX12_mended_X12_in : GoodIn wsX12_mended (va_wsS RX12 85 yX12_in wsX12_in) := goodIn_app (goodIn_sub (List.forall_mem_cons.mpr ⟨wrr_wsX12_mended_wsX12_mended_r1 (i := 11) rfl, (List.forall_mem_cons.mpr ⟨wrr_wsX12_mended_wsX12_mended_r1 (i := 12) rfl, (List.forall_mem_cons.mpr ⟨wrr_wsX12_mended_wsX12_mended_r1 (i := 4) rfl, (fun _ h => absurd h List.not_mem_nil)⟩)⟩)⟩) (by decide +kernel)) ggX12_mended_X12_in
set_option maxRecDepth 20000 in
theorem ggX12_mended_X12_stuckOf : GoodIn wsX12_mended wsX12_stuckOf := goodIn_sub (List.forall_mem_cons.mpr ⟨wrr_wsX12_mended_wsX12_mended_r2 (i := 2) rfl, (List.forall_mem_append.mpr ⟨(List.forall_mem_append.mpr ⟨(List.forall_mem_cons.mpr ⟨wrr_wsX12_mended_wsX12_mended_r1 (i := 19) rfl, (List.forall_mem_cons.mpr ⟨wrr_wsX12_mended_wsX12_mended_r1 (i := 20) rfl, (List.forall_mem_cons.mpr ⟨wrr_wsX12_mended_wsX12_mended_r1 (i := 21) rfl, (List.forall_mem_cons.mpr ⟨wrr_wsX12_mended_wsX12_mended_r1 (i := 4) rfl, (List.forall_mem_cons.mpr ⟨wrr_wsX12_mended_wsX12_mended_r1 (i := 22) rfl, (List.forall_mem_cons.mpr ⟨wrr_wsX12_mended_wsX12_mended_r1 (i := 18) rfl, (List.forall_mem_cons.mpr ⟨wrr_wsX12_mended_wsX12_mended_r2 (i := 3) rfl, (List.forall_mem_cons.mpr ⟨wrr_wsX12_mended_wsX12_mended_r2 (i := 4) rfl, (List.forall_mem_cons.mpr ⟨wrr_wsX12_mended_wsX12_mended_r2 (i := 5) rfl, (List.forall_mem_cons.mpr ⟨wrr_wsX12_mended_wsX12_mended_r2 (i := 6) rfl, (List.forall_mem_cons.mpr ⟨wrr_wsX12_mended_wsX12_mended_r2 (i := 7) rfl, (List.forall_mem_cons.mpr ⟨wrr_wsX12_mended_wsX12_mended_r2 (i := 8) rfl, (List.forall_mem_cons.mpr ⟨wrr_wsX12_mended_wsX12_mended_r2 (i := 9) rfl, (List.forall_mem_cons.mpr ⟨wrr_wsX12_mended_wsX12_mended_r2 (i := 10) rfl, (List.forall_mem_cons.mpr ⟨wrr_wsX12_mended_wsX12_mended_r2 (i := 11) rfl, (List.forall_mem_cons.mpr ⟨wrr_wsX12_mended_wsX12_mended_r2 (i := 12) rfl, (List.forall_mem_cons.mpr ⟨wrr_wsX12_mended_wsX12_mended_r2 (i := 13) rfl, (List.forall_mem_cons.mpr ⟨wrr_wsX12_mended_wsX12_mended_r2 (i := 14) rfl, (List.forall_mem_cons.mpr ⟨wrr_wsX12_mended_wsX12_mended_r2 (i := 15) rfl, (List.forall_mem_cons.mpr ⟨wrr_wsX12_mended_wsX12_mended_r2 (i := 16) rfl, (List.forall_mem_cons.mpr ⟨wrr_wsX12_mended_wsX12_mended_r2 (i := 17) rfl, (List.forall_mem_cons.mpr ⟨wrr_wsX12_mended_wsX12_mended_r2 (i := 18) rfl, (List.forall_mem_cons.mpr ⟨wrr_wsX12_mended_wsX12_mended_r2 (i := 19) rfl, (List.forall_mem_cons.mpr ⟨wrr_wsX12_mended_wsX12_mended_r2 (i := 20) rfl, (fun _ h => absurd h List.not_mem_nil)⟩)⟩)⟩)⟩)⟩)⟩)⟩)⟩)⟩)⟩)⟩)⟩)⟩)⟩)⟩)⟩)⟩)⟩)⟩)⟩)⟩)⟩)⟩)⟩), (List.forall_mem_cons.mpr ⟨wrr_wsX12_mended_wsX12_mended_r2 (i := 21) rfl, (List.forall_mem_cons.mpr ⟨wrr_wsX12_mended_wsX12_mended_r2 (i := 22) rfl, (List.forall_mem_cons.mpr ⟨wrr_wsX12_mended_wsX12_mended_r2 (i := 23) rfl, (List.forall_mem_cons.mpr ⟨wrr_wsX12_mended_wsX12_mended_r3 (i := 0) rfl, (List.forall_mem_cons.mpr ⟨wrr_wsX12_mended_wsX12_mended_r3 (i := 1) rfl, (List.forall_mem_cons.mpr ⟨wrr_wsX12_mended_wsX12_mended_r3 (i := 2) rfl, (fun _ h => absurd h List.not_mem_nil)⟩)⟩)⟩)⟩)⟩)⟩)⟩), wru_wsX12_mended_wsX120⟩)⟩) gw_wsX12_stuckOf
set_option maxRecDepth 20000 in
theorem gX12_mended_X12_stuckOf : GoodIn wsX12_mended (wsV RX12 340 RX12 yX12_stuckOf wsX12_stuckOf) := goodIn_app (goodIn_sub (List.forall_mem_cons.mpr ⟨wrr_wsX12_mended_wsX12_mended_r1 (i := 23) rfl, (List.forall_mem_cons.mpr ⟨wrr_wsX12_mended_wsX12_mended_r2 (i := 0) rfl, (List.forall_mem_cons.mpr ⟨wrr_wsX12_mended_wsX12_mended_r2 (i := 1) rfl, (List.forall_mem_cons.mpr ⟨wrr_wsX12_mended_wsX12_mended_r1 (i := 4) rfl, (fun _ h => absurd h List.not_mem_nil)⟩)⟩)⟩)⟩) (by decide +kernel)) ggX12_mended_X12_stuckOf
set_option maxRecDepth 20000 in
theorem ggX12_mended_X12_mendedOf : GoodIn wsX12_mended wsX12_mendedOf := goodIn_sub (List.forall_mem_cons.mpr ⟨wrr_wsX12_mended_wsX12_mended_r2 (i := 6) rfl, (List.forall_mem_append.mpr ⟨(List.forall_mem_append.mpr ⟨(List.forall_mem_cons.mpr ⟨wrr_wsX12_mended_wsX12_mended_r2 (i := 7) rfl, (List.forall_mem_cons.mpr ⟨wrr_wsX12_mended_wsX12_mended_r2 (i := 8) rfl, (List.forall_mem_cons.mpr ⟨wrr_wsX12_mended_wsX12_mended_r2 (i := 9) rfl, (List.forall_mem_cons.mpr ⟨wrr_wsX12_mended_wsX12_mended_r2 (i := 10) rfl, (List.forall_mem_cons.mpr ⟨wrr_wsX12_mended_wsX12_mended_r1 (i := 4) rfl, (List.forall_mem_cons.mpr ⟨wrr_wsX12_mended_wsX12_mended_r2 (i := 11) rfl, (List.forall_mem_cons.mpr ⟨wrr_wsX12_mended_wsX12_mended_r1 (i := 18) rfl, (List.forall_mem_cons.mpr ⟨wrr_wsX12_mended_wsX12_mended_r2 (i := 12) rfl, (List.forall_mem_cons.mpr ⟨wrr_wsX12_mended_wsX12_mended_r2 (i := 13) rfl, (List.forall_mem_cons.mpr ⟨wrr_wsX12_mended_wsX12_mended_r2 (i := 14) rfl, (List.forall_mem_cons.mpr ⟨wrr_wsX12_mended_wsX12_mended_r2 (i := 15) rfl, (List.forall_mem_cons.mpr ⟨wrr_wsX12_mended_wsX12_mended_r2 (i := 16) rfl, (List.forall_mem_cons.mpr ⟨wrr_wsX12_mended_wsX12_mended_r1 (i := 19) rfl, (List.forall_mem_cons.mpr ⟨wrr_wsX12_mended_wsX12_mended_r1 (i := 20) rfl, (List.forall_mem_cons.mpr ⟨wrr_wsX12_mended_wsX12_mended_r1 (i := 21) rfl, (List.forall_mem_cons.mpr ⟨wrr_wsX12_mended_wsX12_mended_r1 (i := 22) rfl, (List.forall_mem_cons.mpr ⟨wrr_wsX12_mended_wsX12_mended_r2 (i := 17) rfl, (List.forall_mem_cons.mpr ⟨wrr_wsX12_mended_wsX12_mended_r2 (i := 18) rfl, (List.forall_mem_cons.mpr ⟨wrr_wsX12_mended_wsX12_mended_r2 (i := 19) rfl, (List.forall_mem_cons.mpr ⟨wrr_wsX12_mended_wsX12_mended_r2 (i := 20) rfl, (List.forall_mem_cons.mpr ⟨wrr_wsX12_mended_wsX12_mended_r2 (i := 21) rfl, (List.forall_mem_cons.mpr ⟨wrr_wsX12_mended_wsX12_mended_r2 (i := 22) rfl, (List.forall_mem_cons.mpr ⟨wrr_wsX12_mended_wsX12_mended_r2 (i := 23) rfl, (List.forall_mem_cons.mpr ⟨wrr_wsX12_mended_wsX12_mended_r3 (i := 0) rfl, (fun _ h => absurd h List.not_mem_nil)⟩)⟩)⟩)⟩)⟩)⟩)⟩)⟩)⟩)⟩)⟩)⟩)⟩)⟩)⟩)⟩)⟩)⟩)⟩)⟩)⟩)⟩)⟩)⟩), (List.forall_mem_cons.mpr ⟨wrr_wsX12_mended_wsX12_mended_r3 (i := 1) rfl, (List.forall_mem_cons.mpr ⟨wrr_wsX12_mended_wsX12_mended_r3 (i := 2) rfl, (fun _ h => absurd h List.not_mem_nil)⟩)⟩)⟩), wru_wsX12_mended_wsX120⟩)⟩) gw_wsX12_mendedOf
set_option maxRecDepth 20000 in
theorem gX12_mended_X12_mendedOf : GoodIn wsX12_mended (wsV RX12 337 RX12 yX12_mendedOf wsX12_mendedOf) := goodIn_app (goodIn_sub (List.forall_mem_cons.mpr ⟨wrr_wsX12_mended_wsX12_mended_r2 (i := 3) rfl, (List.forall_mem_cons.mpr ⟨wrr_wsX12_mended_wsX12_mended_r2 (i := 4) rfl, (List.forall_mem_cons.mpr ⟨wrr_wsX12_mended_wsX12_mended_r2 (i := 5) rfl, (List.forall_mem_cons.mpr ⟨wrr_wsX12_mended_wsX12_mended_r1 (i := 4) rfl, (fun _ h => absurd h List.not_mem_nil)⟩)⟩)⟩)⟩) (by decide +kernel)) ggX12_mended_X12_mendedOf
theorem dX12_mended_0 : decode cX12_mended 0 = .ok (.aload_n 0, 1) := by decide +kernel
theorem dX12_mended_1 : decode cX12_mended 1 = .ok (.iconst 0, 1) := by decide +kernel
theorem dX12_mended_2 : decode cX12_mended 2 = .ok (.putfield 80, 3) := by decide +kernel
theorem dX12_mended_5 : decode cX12_mended 5 = .ok (.aload_n 0, 1) := by decide +kernel
theorem dX12_mended_6 : decode cX12_mended 6 = .ok (.iload_n 1, 1) := by decide +kernel
theorem dX12_mended_7 : decode cX12_mended 7 = .ok (.invokevirtual 261, 3) := by decide +kernel
theorem dX12_mended_10 : decode cX12_mended 10 = .ok (.ifCond .eq 27, 3) := by decide +kernel
theorem dX12_mended_13 : decode cX12_mended 13 = .ok (.aload_n 0, 1) := by decide +kernel
theorem dX12_mended_14 : decode cX12_mended 14 = .ok (.invokevirtual 322, 3) := by decide +kernel
theorem dX12_mended_17 : decode cX12_mended 17 = .ok (.ifCond .eq 20, 3) := by decide +kernel
theorem dX12_mended_20 : decode cX12_mended 20 = .ok (.iload_n 2, 1) := by decide +kernel
theorem dX12_mended_21 : decode cX12_mended 21 = .ok (.i2l, 1) := by decide +kernel
theorem dX12_mended_22 : decode cX12_mended 22 = .ok (.lconst 0, 1) := by decide +kernel
theorem dX12_mended_23 : decode cX12_mended 23 = .ok (.aload_n 0, 1) := by decide +kernel
theorem dX12_mended_24 : decode cX12_mended 24 = .ok (.iload_n 1, 1) := by decide +kernel
theorem dX12_mended_25 : decode cX12_mended 25 = .ok (.invokevirtual 264, 3) := by decide +kernel
theorem dX12_mended_28 : decode cX12_mended 28 = .ok (.iconst 1, 1) := by decide +kernel
theorem dX12_mended_29 : decode cX12_mended 29 = .ok (.isub, 1) := by decide +kernel
theorem dX12_mended_30 : decode cX12_mended 30 = .ok (.i2l, 1) := by decide +kernel
theorem dX12_mended_31 : decode cX12_mended 31 = .ok (.invokestatic 85, 3) := by decide +kernel
theorem dX12_mended_34 : decode cX12_mended 34 = .ok (.ifCond .ne 6, 3) := by decide +kernel
theorem dX12_mended_37 : decode cX12_mended 37 = .ok (.bipush (-2), 2) := by decide +kernel
theorem dX12_mended_39 : decode cX12_mended 39 = .ok (.ireturn, 1) := by decide +kernel
theorem dX12_mended_40 : decode cX12_mended 40 = .ok (.aload_n 0, 1) := by decide +kernel
theorem dX12_mended_41 : decode cX12_mended 41 = .ok (.iload_n 1, 1) := by decide +kernel
theorem dX12_mended_42 : decode cX12_mended 42 = .ok (.invokevirtual 340, 3) := by decide +kernel
theorem dX12_mended_45 : decode cX12_mended 45 = .ok (.iconst (-1), 1) := by decide +kernel
theorem dX12_mended_46 : decode cX12_mended 46 = .ok (.if_icmp .eq 7, 3) := by decide +kernel
theorem dX12_mended_49 : decode cX12_mended 49 = .ok (.iconst (-1), 1) := by decide +kernel
theorem dX12_mended_50 : decode cX12_mended 50 = .ok (.goto 9, 3) := by decide +kernel
theorem dX12_mended_53 : decode cX12_mended 53 = .ok (.aload_n 0, 1) := by decide +kernel
theorem dX12_mended_54 : decode cX12_mended 54 = .ok (.iload_n 1, 1) := by decide +kernel
theorem dX12_mended_55 : decode cX12_mended 55 = .ok (.iload_n 2, 1) := by decide +kernel
theorem dX12_mended_56 : decode cX12_mended 56 = .ok (.invokevirtual 337, 3) := by decide +kernel
theorem dX12_mended_59 : decode cX12_mended 59 = .ok (.ireturn, 1) := by decide +kernel
theorem wrr_wsX12_stuck {i : Nat} {w : Cond} (h : wsX12_stuck[i]? = some w) : w ∈ wsX12_stuck := List.mem_of_getElem? h
theorem wrr_wsX12_stuck_wsX12_stuck_r1 {i : Nat} {w : Cond} (h : wsX12_stuck_r1[i]? = some w) : w ∈ wsX12_stuck := (List.mem_cons_of_mem _ (List.mem_append_left _ (List.mem_append_left _ (List.mem_of_getElem? h))))
theorem wrr_wsX12_stuck_wsX12_stuck_r2 {i : Nat} {w : Cond} (h : wsX12_stuck_r2[i]? = some w) : w ∈ wsX12_stuck := (List.mem_cons_of_mem _ (List.mem_append_left _ (List.mem_append_right _ (List.mem_append_left _ (List.mem_of_getElem? h)))))
theorem wrr_wsX12_stuck_wsX12_stuck_r3 {i : Nat} {w : Cond} (h : wsX12_stuck_r3[i]? = some w) : w ∈ wsX12_stuck := (List.mem_cons_of_mem _ (List.mem_append_left _ (List.mem_append_right _ (List.mem_append_right _ (List.mem_of_getElem? h)))))
theorem wru_wsX12_stuck_wsX120 : ∀ w ∈ wsX120, w ∈ wsX12_stuck := fun w h => (List.mem_cons_of_mem _ (List.mem_append_right _ h))
set_option maxRecDepth 20000 in
theorem ggX12_stuck_X12_isSide : GoodIn wsX12_stuck wsX12_isSide := goodIn_sub (List.forall_mem_cons.mpr ⟨wrr_wsX12_stuck_wsX12_stuck_r1 (i := 5) rfl, (List.forall_mem_append.mpr ⟨(List.forall_mem_cons.mpr ⟨wrr_wsX12_stuck_wsX12_stuck_r1 (i := 6) rfl, (List.forall_mem_cons.mpr ⟨wrr_wsX12_stuck_wsX12_stuck_r1 (i := 7) rfl, (List.forall_mem_cons.mpr ⟨wrr_wsX12_stuck_wsX12_stuck_r1 (i := 8) rfl, (List.forall_mem_cons.mpr ⟨wrr_wsX12_stuck_wsX12_stuck_r1 (i := 4) rfl, (List.forall_mem_cons.mpr ⟨wrr_wsX12_stuck_wsX12_stuck_r1 (i := 9) rfl, (List.forall_mem_cons.mpr ⟨wrr_wsX12_stuck_wsX12_stuck_r1 (i := 10) rfl, (List.forall_mem_cons.mpr ⟨wrr_wsX12_stuck_wsX12_stuck_r1 (i := 11) rfl, (List.forall_mem_cons.mpr ⟨wrr_wsX12_stuck_wsX12_stuck_r1 (i := 12) rfl, (List.forall_mem_cons.mpr ⟨wrr_wsX12_stuck_wsX12_stuck_r1 (i := 13) rfl, (fun _ h => absurd h List.not_mem_nil)⟩)⟩)⟩)⟩)⟩)⟩)⟩)⟩)⟩), wru_wsX12_stuck_wsX120⟩)⟩) gw_wsX12_isSide
set_option maxRecDepth 20000 in
theorem gX12_stuck_X12_isSide : GoodIn wsX12_stuck (wsV RX12 261 RX12 yX12_isSide wsX12_isSide) := goodIn_app (goodIn_sub (List.forall_mem_cons.mpr ⟨wrr_wsX12_stuck_wsX12_stuck_r1 (i := 1) rfl, (List.forall_mem_cons.mpr ⟨wrr_wsX12_stuck_wsX12_stuck_r1 (i := 2) rfl, (List.forall_mem_cons.mpr ⟨wrr_wsX12_stuck_wsX12_stuck_r1 (i := 3) rfl, (List.forall_mem_cons.mpr ⟨wrr_wsX12_stuck_wsX12_stuck_r1 (i := 4) rfl, (fun _ h => absurd h List.not_mem_nil)⟩)⟩)⟩)⟩) (by decide +kernel)) ggX12_stuck_X12_isSide
set_option maxRecDepth 20000 in
theorem ggX12_stuck_X12_areRounds : GoodIn wsX12_stuck wsX12_areRounds := goodIn_sub (List.forall_mem_cons.mpr ⟨wrr_wsX12_stuck_wsX12_stuck_r1 (i := 17) rfl, (List.forall_mem_append.mpr ⟨(List.forall_mem_cons.mpr ⟨wrr_wsX12_stuck_wsX12_stuck_r1 (i := 18) rfl, (fun _ h => absurd h List.not_mem_nil)⟩), wru_wsX12_stuck_wsX120⟩)⟩) gw_wsX12_areRounds
set_option maxRecDepth 20000 in
theorem gX12_stuck_X12_areRounds : GoodIn wsX12_stuck (wsV RX12 322 RX12 yX12_areRounds wsX12_areRounds) := goodIn_app (goodIn_sub (List.forall_mem_cons.mpr ⟨wrr_wsX12_stuck_wsX12_stuck_r1 (i := 14) rfl, (List.forall_mem_cons.mpr ⟨wrr_wsX12_stuck_wsX12_stuck_r1 (i := 15) rfl, (List.forall_mem_cons.mpr ⟨wrr_wsX12_stuck_wsX12_stuck_r1 (i := 16) rfl, (List.forall_mem_cons.mpr ⟨wrr_wsX12_stuck_wsX12_stuck_r1 (i := 4) rfl, (fun _ h => absurd h List.not_mem_nil)⟩)⟩)⟩)⟩) (by decide +kernel)) ggX12_stuck_X12_areRounds
set_option maxRecDepth 20000 in
theorem ggX12_stuck_X12_stuckOf : GoodIn wsX12_stuck wsX12_stuckOf := goodIn_sub (List.forall_mem_cons.mpr ⟨wrr_wsX12_stuck_wsX12_stuck_r1 (i := 22) rfl, (List.forall_mem_append.mpr ⟨(List.forall_mem_append.mpr ⟨(List.forall_mem_cons.mpr ⟨wrr_wsX12_stuck_wsX12_stuck_r1 (i := 23) rfl, (List.forall_mem_cons.mpr ⟨wrr_wsX12_stuck_wsX12_stuck_r2 (i := 0) rfl, (List.forall_mem_cons.mpr ⟨wrr_wsX12_stuck_wsX12_stuck_r2 (i := 1) rfl, (List.forall_mem_cons.mpr ⟨wrr_wsX12_stuck_wsX12_stuck_r1 (i := 4) rfl, (List.forall_mem_cons.mpr ⟨wrr_wsX12_stuck_wsX12_stuck_r2 (i := 2) rfl, (List.forall_mem_cons.mpr ⟨wrr_wsX12_stuck_wsX12_stuck_r1 (i := 18) rfl, (List.forall_mem_cons.mpr ⟨wrr_wsX12_stuck_wsX12_stuck_r2 (i := 3) rfl, (List.forall_mem_cons.mpr ⟨wrr_wsX12_stuck_wsX12_stuck_r2 (i := 4) rfl, (List.forall_mem_cons.mpr ⟨wrr_wsX12_stuck_wsX12_stuck_r2 (i := 5) rfl, (List.forall_mem_cons.mpr ⟨wrr_wsX12_stuck_wsX12_stuck_r2 (i := 6) rfl, (List.forall_mem_cons.mpr ⟨wrr_wsX12_stuck_wsX12_stuck_r2 (i := 7) rfl, (List.forall_mem_cons.mpr ⟨wrr_wsX12_stuck_wsX12_stuck_r2 (i := 8) rfl, (List.forall_mem_cons.mpr ⟨wrr_wsX12_stuck_wsX12_stuck_r2 (i := 9) rfl, (List.forall_mem_cons.mpr ⟨wrr_wsX12_stuck_wsX12_stuck_r2 (i := 10) rfl, (List.forall_mem_cons.mpr ⟨wrr_wsX12_stuck_wsX12_stuck_r2 (i := 11) rfl, (List.forall_mem_cons.mpr ⟨wrr_wsX12_stuck_wsX12_stuck_r2 (i := 12) rfl, (List.forall_mem_cons.mpr ⟨wrr_wsX12_stuck_wsX12_stuck_r2 (i := 13) rfl, (List.forall_mem_cons.mpr ⟨wrr_wsX12_stuck_wsX12_stuck_r2 (i := 14) rfl, (List.forall_mem_cons.mpr ⟨wrr_wsX12_stuck_wsX12_stuck_r2 (i := 15) rfl, (List.forall_mem_cons.mpr ⟨wrr_wsX12_stuck_wsX12_stuck_r2 (i := 16) rfl, (List.forall_mem_cons.mpr ⟨wrr_wsX12_stuck_wsX12_stuck_r2 (i := 17) rfl, (List.forall_mem_cons.mpr ⟨wrr_wsX12_stuck_wsX12_stuck_r2 (i := 18) rfl, (List.forall_mem_cons.mpr ⟨wrr_wsX12_stuck_wsX12_stuck_r2 (i := 19) rfl, (List.forall_mem_cons.mpr ⟨wrr_wsX12_stuck_wsX12_stuck_r2 (i := 20) rfl, (fun _ h => absurd h List.not_mem_nil)⟩)⟩)⟩)⟩)⟩)⟩)⟩)⟩)⟩)⟩)⟩)⟩)⟩)⟩)⟩)⟩)⟩)⟩)⟩)⟩)⟩)⟩)⟩)⟩), (List.forall_mem_cons.mpr ⟨wrr_wsX12_stuck_wsX12_stuck_r2 (i := 21) rfl, (List.forall_mem_cons.mpr ⟨wrr_wsX12_stuck_wsX12_stuck_r2 (i := 22) rfl, (List.forall_mem_cons.mpr ⟨wrr_wsX12_stuck_wsX12_stuck_r2 (i := 23) rfl, (List.forall_mem_cons.mpr ⟨wrr_wsX12_stuck_wsX12_stuck_r3 (i := 0) rfl, (List.forall_mem_cons.mpr ⟨wrr_wsX12_stuck_wsX12_stuck_r3 (i := 1) rfl, (List.forall_mem_cons.mpr ⟨wrr_wsX12_stuck_wsX12_stuck_r3 (i := 2) rfl, (fun _ h => absurd h List.not_mem_nil)⟩)⟩)⟩)⟩)⟩)⟩)⟩), wru_wsX12_stuck_wsX120⟩)⟩) gw_wsX12_stuckOf
set_option maxRecDepth 20000 in
theorem gX12_stuck_X12_stuckOf : GoodIn wsX12_stuck (wsV RX12 340 RX12 yX12_stuckOf wsX12_stuckOf) := goodIn_app (goodIn_sub (List.forall_mem_cons.mpr ⟨wrr_wsX12_stuck_wsX12_stuck_r1 (i := 19) rfl, (List.forall_mem_cons.mpr ⟨wrr_wsX12_stuck_wsX12_stuck_r1 (i := 20) rfl, (List.forall_mem_cons.mpr ⟨wrr_wsX12_stuck_wsX12_stuck_r1 (i := 21) rfl, (List.forall_mem_cons.mpr ⟨wrr_wsX12_stuck_wsX12_stuck_r1 (i := 4) rfl, (fun _ h => absurd h List.not_mem_nil)⟩)⟩)⟩)⟩) (by decide +kernel)) ggX12_stuck_X12_stuckOf
theorem dX12_stuck_0 : decode cX12_stuck 0 = .ok (.aload_n 0, 1) := by decide +kernel
theorem dX12_stuck_1 : decode cX12_stuck 1 = .ok (.iconst 0, 1) := by decide +kernel
theorem dX12_stuck_2 : decode cX12_stuck 2 = .ok (.putfield 80, 3) := by decide +kernel
theorem dX12_stuck_5 : decode cX12_stuck 5 = .ok (.aload_n 0, 1) := by decide +kernel
theorem dX12_stuck_6 : decode cX12_stuck 6 = .ok (.iload_n 1, 1) := by decide +kernel
theorem dX12_stuck_7 : decode cX12_stuck 7 = .ok (.invokevirtual 261, 3) := by decide +kernel
theorem dX12_stuck_10 : decode cX12_stuck 10 = .ok (.ifCond .eq 18, 3) := by decide +kernel
theorem dX12_stuck_13 : decode cX12_stuck 13 = .ok (.aload_n 0, 1) := by decide +kernel
theorem dX12_stuck_14 : decode cX12_stuck 14 = .ok (.invokevirtual 322, 3) := by decide +kernel
theorem dX12_stuck_17 : decode cX12_stuck 17 = .ok (.ifCond .eq 11, 3) := by decide +kernel
theorem dX12_stuck_20 : decode cX12_stuck 20 = .ok (.aload_n 0, 1) := by decide +kernel
theorem dX12_stuck_21 : decode cX12_stuck 21 = .ok (.iload_n 1, 1) := by decide +kernel
theorem dX12_stuck_22 : decode cX12_stuck 22 = .ok (.invokevirtual 340, 3) := by decide +kernel
theorem dX12_stuck_25 : decode cX12_stuck 25 = .ok (.goto 5, 3) := by decide +kernel
theorem dX12_stuck_28 : decode cX12_stuck 28 = .ok (.bipush (-2), 2) := by decide +kernel
theorem dX12_stuck_30 : decode cX12_stuck 30 = .ok (.ireturn, 1) := by decide +kernel
theorem wrr_wsX12_whyNot {i : Nat} {w : Cond} (h : wsX12_whyNot[i]? = some w) : w ∈ wsX12_whyNot := List.mem_of_getElem? h
theorem wrr_wsX12_whyNot_wsX12_whyNot_r1 {i : Nat} {w : Cond} (h : wsX12_whyNot_r1[i]? = some w) : w ∈ wsX12_whyNot := (List.mem_cons_of_mem _ (List.mem_append_left _ (List.mem_append_left _ (List.mem_of_getElem? h))))
theorem wrr_wsX12_whyNot_wsX12_whyNot_r2 {i : Nat} {w : Cond} (h : wsX12_whyNot_r2[i]? = some w) : w ∈ wsX12_whyNot := (List.mem_cons_of_mem _ (List.mem_append_left _ (List.mem_append_right _ (List.mem_of_getElem? h))))
theorem wru_wsX12_whyNot_wsX120 : ∀ w ∈ wsX120, w ∈ wsX12_whyNot := fun w h => (List.mem_cons_of_mem _ (List.mem_append_right _ h))
set_option maxRecDepth 20000 in
theorem ggX12_whyNot_X12_isSlot : GoodIn wsX12_whyNot wsX12_isSlot := goodIn_sub (List.forall_mem_cons.mpr ⟨wrr_wsX12_whyNot_wsX12_whyNot_r1 (i := 8) rfl, (List.forall_mem_cons.mpr ⟨wrr_wsX12_whyNot_wsX12_whyNot_r1 (i := 9) rfl, (List.forall_mem_cons.mpr ⟨wrr_wsX12_whyNot_wsX12_whyNot_r1 (i := 10) rfl, (List.forall_mem_cons.mpr ⟨wrr_wsX12_whyNot_wsX12_whyNot_r1 (i := 11) rfl, (List.forall_mem_cons.mpr ⟨wrr_wsX12_whyNot_wsX12_whyNot_r1 (i := 7) rfl, (List.forall_mem_cons.mpr ⟨wrr_wsX12_whyNot_wsX12_whyNot_r1 (i := 12) rfl, (fun _ h => absurd h List.not_mem_nil)⟩)⟩)⟩)⟩)⟩)⟩) gw_wsX12_isSlot
set_option maxRecDepth 20000 in
theorem gX12_whyNot_X12_isSlot : GoodIn wsX12_whyNot (va_wsS RX12 89 yX12_isSlot wsX12_isSlot) := goodIn_app (goodIn_sub (List.forall_mem_cons.mpr ⟨wrr_wsX12_whyNot_wsX12_whyNot_r1 (i := 5) rfl, (List.forall_mem_cons.mpr ⟨wrr_wsX12_whyNot_wsX12_whyNot_r1 (i := 6) rfl, (List.forall_mem_cons.mpr ⟨wrr_wsX12_whyNot_wsX12_whyNot_r1 (i := 7) rfl, (fun _ h => absurd h List.not_mem_nil)⟩)⟩)⟩) (by decide +kernel)) ggX12_whyNot_X12_isSlot
set_option maxRecDepth 20000 in
theorem ggX12_whyNot_X12_isSide : GoodIn wsX12_whyNot wsX12_isSide := goodIn_sub (List.forall_mem_cons.mpr ⟨wrr_wsX12_whyNot_wsX12_whyNot_r1 (i := 16) rfl, (List.forall_mem_append.mpr ⟨(List.forall_mem_cons.mpr ⟨wrr_wsX12_whyNot_wsX12_whyNot_r1 (i := 17) rfl, (List.forall_mem_cons.mpr ⟨wrr_wsX12_whyNot_wsX12_whyNot_r1 (i := 18) rfl, (List.forall_mem_cons.mpr ⟨wrr_wsX12_whyNot_wsX12_whyNot_r1 (i := 19) rfl, (List.forall_mem_cons.mpr ⟨wrr_wsX12_whyNot_wsX12_whyNot_r1 (i := 7) rfl, (List.forall_mem_cons.mpr ⟨wrr_wsX12_whyNot_wsX12_whyNot_r1 (i := 20) rfl, (List.forall_mem_cons.mpr ⟨wrr_wsX12_whyNot_wsX12_whyNot_r1 (i := 21) rfl, (List.forall_mem_cons.mpr ⟨wrr_wsX12_whyNot_wsX12_whyNot_r1 (i := 10) rfl, (List.forall_mem_cons.mpr ⟨wrr_wsX12_whyNot_wsX12_whyNot_r1 (i := 11) rfl, (List.forall_mem_cons.mpr ⟨wrr_wsX12_whyNot_wsX12_whyNot_r1 (i := 12) rfl, (fun _ h => absurd h List.not_mem_nil)⟩)⟩)⟩)⟩)⟩)⟩)⟩)⟩)⟩), wru_wsX12_whyNot_wsX120⟩)⟩) gw_wsX12_isSide
set_option maxRecDepth 20000 in
theorem gX12_whyNot_X12_isSide : GoodIn wsX12_whyNot (wsV RX12 261 RX12 yX12_isSide wsX12_isSide) := goodIn_app (goodIn_sub (List.forall_mem_cons.mpr ⟨wrr_wsX12_whyNot_wsX12_whyNot_r1 (i := 13) rfl, (List.forall_mem_cons.mpr ⟨wrr_wsX12_whyNot_wsX12_whyNot_r1 (i := 14) rfl, (List.forall_mem_cons.mpr ⟨wrr_wsX12_whyNot_wsX12_whyNot_r1 (i := 15) rfl, (List.forall_mem_cons.mpr ⟨wrr_wsX12_whyNot_wsX12_whyNot_r1 (i := 7) rfl, (fun _ h => absurd h List.not_mem_nil)⟩)⟩)⟩)⟩) (by decide +kernel)) ggX12_whyNot_X12_isSide
set_option maxRecDepth 20000 in
theorem ggX12_whyNot_X12_isBeat : GoodIn wsX12_whyNot wsX12_isBeat := goodIn_sub (List.forall_mem_cons.mpr ⟨wrr_wsX12_whyNot_wsX12_whyNot_r2 (i := 0) rfl, (List.forall_mem_cons.mpr ⟨wrr_wsX12_whyNot_wsX12_whyNot_r2 (i := 1) rfl, (List.forall_mem_cons.mpr ⟨wrr_wsX12_whyNot_wsX12_whyNot_r1 (i := 10) rfl, (List.forall_mem_cons.mpr ⟨wrr_wsX12_whyNot_wsX12_whyNot_r1 (i := 11) rfl, (List.forall_mem_cons.mpr ⟨wrr_wsX12_whyNot_wsX12_whyNot_r1 (i := 7) rfl, (List.forall_mem_cons.mpr ⟨wrr_wsX12_whyNot_wsX12_whyNot_r1 (i := 12) rfl, (fun _ h => absurd h List.not_mem_nil)⟩)⟩)⟩)⟩)⟩)⟩) gw_wsX12_isBeat
set_option maxRecDepth 20000 in
theorem gX12_whyNot_X12_isBeat : GoodIn wsX12_whyNot (va_wsS RX12 270 yX12_isBeat wsX12_isBeat) := goodIn_app (goodIn_sub (List.forall_mem_cons.mpr ⟨wrr_wsX12_whyNot_wsX12_whyNot_r1 (i := 22) rfl, (List.forall_mem_cons.mpr ⟨wrr_wsX12_whyNot_wsX12_whyNot_r1 (i := 23) rfl, (List.forall_mem_cons.mpr ⟨wrr_wsX12_whyNot_wsX12_whyNot_r1 (i := 7) rfl, (fun _ h => absurd h List.not_mem_nil)⟩)⟩)⟩) (by decide +kernel)) ggX12_whyNot_X12_isBeat
set_option maxRecDepth 20000 in
theorem ggX12_whyNot_X12_in : GoodIn wsX12_whyNot wsX12_in := goodIn_sub (List.forall_mem_cons.mpr ⟨wrr_wsX12_whyNot_wsX12_whyNot_r1 (i := 12) rfl, (fun _ h => absurd h List.not_mem_nil)⟩) gw_wsX12_in
set_option maxRecDepth 20000 in
theorem gX12_whyNot_X12_in : GoodIn wsX12_whyNot (va_wsS RX12 85 yX12_in wsX12_in) := goodIn_app (goodIn_sub (List.forall_mem_cons.mpr ⟨wrr_wsX12_whyNot_wsX12_whyNot_r1 (i := 10) rfl, (List.forall_mem_cons.mpr ⟨wrr_wsX12_whyNot_wsX12_whyNot_r1 (i := 11) rfl, (List.forall_mem_cons.mpr ⟨wrr_wsX12_whyNot_wsX12_whyNot_r1 (i := 7) rfl, (fun _ h => absurd h List.not_mem_nil)⟩)⟩)⟩) (by decide +kernel)) ggX12_whyNot_X12_in
theorem dX12_whyNot_0 : decode cX12_whyNot 0 = .ok (.iload_n 1, 1) := by decide +kernel
theorem dX12_whyNot_1 : decode cX12_whyNot 1 = .ok (.invokestatic 89, 3) := by decide +kernel
theorem dX12_whyNot_4 : decode cX12_whyNot 4 = .ok (.ifCond .eq 11, 3) := by decide +kernel
theorem dX12_whyNot_7 : decode cX12_whyNot 7 = .ok (.aload_n 0, 1) := by decide +kernel
theorem dX12_whyNot_8 : decode cX12_whyNot 8 = .ok (.iload_n 2, 1) := by decide +kernel
theorem dX12_whyNot_9 : decode cX12_whyNot 9 = .ok (.invokevirtual 261, 3) := by decide +kernel
theorem dX12_whyNot_12 : decode cX12_whyNot 12 = .ok (.ifCond .ne 6, 3) := by decide +kernel
theorem dX12_whyNot_15 : decode cX12_whyNot 15 = .ok (.bipush (-2), 2) := by decide +kernel
theorem dX12_whyNot_17 : decode cX12_whyNot 17 = .ok (.ireturn, 1) := by decide +kernel
theorem dX12_whyNot_18 : decode cX12_whyNot 18 = .ok (.aload_n 0, 1) := by decide +kernel
theorem dX12_whyNot_19 : decode cX12_whyNot 19 = .ok (.getfield 7, 3) := by decide +kernel
theorem dX12_whyNot_22 : decode cX12_whyNot 22 = .ok (.iload_n 1, 1) := by decide +kernel
theorem dX12_whyNot_23 : decode cX12_whyNot 23 = .ok (.iaload, 1) := by decide +kernel
theorem dX12_whyNot_24 : decode cX12_whyNot 24 = .ok (.iconst (-1), 1) := by decide +kernel
theorem dX12_whyNot_25 : decode cX12_whyNot 25 = .ok (.if_icmp .ne 6, 3) := by decide +kernel
theorem dX12_whyNot_28 : decode cX12_whyNot 28 = .ok (.bipush (-6), 2) := by decide +kernel
theorem dX12_whyNot_30 : decode cX12_whyNot 30 = .ok (.ireturn, 1) := by decide +kernel
theorem dX12_whyNot_31 : decode cX12_whyNot 31 = .ok (.aload_n 0, 1) := by decide +kernel
theorem dX12_whyNot_32 : decode cX12_whyNot 32 = .ok (.getfield 13, 3) := by decide +kernel
theorem dX12_whyNot_35 : decode cX12_whyNot 35 = .ok (.iload_n 1, 1) := by decide +kernel
theorem dX12_whyNot_36 : decode cX12_whyNot 36 = .ok (.iaload, 1) := by decide +kernel
theorem dX12_whyNot_37 : decode cX12_whyNot 37 = .ok (.iconst 2, 1) := by decide +kernel
theorem dX12_whyNot_38 : decode cX12_whyNot 38 = .ok (.irem, 1) := by decide +kernel
theorem dX12_whyNot_39 : decode cX12_whyNot 39 = .ok (.ifCond .eq 6, 3) := by decide +kernel
theorem dX12_whyNot_42 : decode cX12_whyNot 42 = .ok (.bipush (-2), 2) := by decide +kernel
theorem dX12_whyNot_44 : decode cX12_whyNot 44 = .ok (.ireturn, 1) := by decide +kernel
theorem dX12_whyNot_45 : decode cX12_whyNot 45 = .ok (.iconst 0, 1) := by decide +kernel
theorem dX12_whyNot_46 : decode cX12_whyNot 46 = .ok (.istore_n 3, 1) := by decide +kernel
theorem dX12_whyNot_47 : decode cX12_whyNot 47 = .ok (.iload_n 3, 1) := by decide +kernel
theorem dX12_whyNot_48 : decode cX12_whyNot 48 = .ok (.aload_n 0, 1) := by decide +kernel
theorem dX12_whyNot_49 : decode cX12_whyNot 49 = .ok (.getfield 13, 3) := by decide +kernel
theorem dX12_whyNot_52 : decode cX12_whyNot 52 = .ok (.iload_n 1, 1) := by decide +kernel
theorem dX12_whyNot_53 : decode cX12_whyNot 53 = .ok (.iaload, 1) := by decide +kernel
theorem dX12_whyNot_54 : decode cX12_whyNot 54 = .ok (.if_icmp .ge 54, 3) := by decide +kernel
theorem dX12_whyNot_57 : decode cX12_whyNot 57 = .ok (.aload_n 0, 1) := by decide +kernel
theorem dX12_whyNot_58 : decode cX12_whyNot 58 = .ok (.getfield 16, 3) := by decide +kernel
theorem dX12_whyNot_61 : decode cX12_whyNot 61 = .ok (.bipush 60, 2) := by decide +kernel
theorem dX12_whyNot_63 : decode cX12_whyNot 63 = .ok (.iload_n 1, 1) := by decide +kernel
theorem dX12_whyNot_64 : decode cX12_whyNot 64 = .ok (.imul, 1) := by decide +kernel
theorem dX12_whyNot_65 : decode cX12_whyNot 65 = .ok (.iload_n 3, 1) := by decide +kernel
theorem dX12_whyNot_66 : decode cX12_whyNot 66 = .ok (.iadd, 1) := by decide +kernel
theorem dX12_whyNot_67 : decode cX12_whyNot 67 = .ok (.laload, 1) := by decide +kernel
theorem dX12_whyNot_68 : decode cX12_whyNot 68 = .ok (.invokestatic 270, 3) := by decide +kernel
theorem dX12_whyNot_71 : decode cX12_whyNot 71 = .ok (.ifCond .eq 28, 3) := by decide +kernel
theorem dX12_whyNot_74 : decode cX12_whyNot 74 = .ok (.aload_n 0, 1) := by decide +kernel
theorem dX12_whyNot_75 : decode cX12_whyNot 75 = .ok (.getfield 16, 3) := by decide +kernel
theorem dX12_whyNot_78 : decode cX12_whyNot 78 = .ok (.bipush 60, 2) := by decide +kernel
theorem dX12_whyNot_80 : decode cX12_whyNot 80 = .ok (.iload_n 1, 1) := by decide +kernel
theorem dX12_whyNot_81 : decode cX12_whyNot 81 = .ok (.imul, 1) := by decide +kernel
theorem dX12_whyNot_82 : decode cX12_whyNot 82 = .ok (.iload_n 3, 1) := by decide +kernel
theorem dX12_whyNot_83 : decode cX12_whyNot 83 = .ok (.iadd, 1) := by decide +kernel
theorem dX12_whyNot_84 : decode cX12_whyNot 84 = .ok (.iconst 1, 1) := by decide +kernel
theorem dX12_whyNot_85 : decode cX12_whyNot 85 = .ok (.iadd, 1) := by decide +kernel
theorem dX12_whyNot_86 : decode cX12_whyNot 86 = .ok (.laload, 1) := by decide +kernel
theorem dX12_whyNot_87 : decode cX12_whyNot 87 = .ok (.ldc2_w 124, 3) := by decide +kernel
theorem dX12_whyNot_90 : decode cX12_whyNot 90 = .ok (.ldc2_w 259, 3) := by decide +kernel
theorem dX12_whyNot_93 : decode cX12_whyNot 93 = .ok (.invokestatic 85, 3) := by decide +kernel
theorem dX12_whyNot_96 : decode cX12_whyNot 96 = .ok (.ifCond .ne 6, 3) := by decide +kernel
theorem dX12_whyNot_99 : decode cX12_whyNot 99 = .ok (.bipush (-2), 2) := by decide +kernel
theorem dX12_whyNot_101 : decode cX12_whyNot 101 = .ok (.ireturn, 1) := by decide +kernel
theorem dX12_whyNot_102 : decode cX12_whyNot 102 = .ok (.iinc 3 2, 3) := by decide +kernel
theorem dX12_whyNot_105 : decode cX12_whyNot 105 = .ok (.goto (-58), 3) := by decide +kernel
theorem dX12_whyNot_108 : decode cX12_whyNot 108 = .ok (.iconst 0, 1) := by decide +kernel
theorem dX12_whyNot_109 : decode cX12_whyNot 109 = .ok (.ireturn, 1) := by decide +kernel
theorem wrr_wsX12_isHeard {i : Nat} {w : Cond} (h : wsX12_isHeard[i]? = some w) : w ∈ wsX12_isHeard := List.mem_of_getElem? h
theorem wru_wsX12_isHeard_wsX120 : ∀ w ∈ wsX120, w ∈ wsX12_isHeard := fun w h => (List.mem_cons_of_mem _ (List.mem_append_right _ h))
set_option maxRecDepth 20000 in
theorem ggX12_isHeard_X12_hearsAt : GoodIn wsX12_isHeard wsX12_hearsAt := goodIn_sub (List.forall_mem_cons.mpr ⟨wrr_wsX12_isHeard (i := 7) rfl, (List.forall_mem_append.mpr ⟨(List.forall_mem_cons.mpr ⟨wrr_wsX12_isHeard (i := 8) rfl, (List.forall_mem_cons.mpr ⟨wrr_wsX12_isHeard (i := 9) rfl, (fun _ h => absurd h List.not_mem_nil)⟩)⟩), wru_wsX12_isHeard_wsX120⟩)⟩) gw_wsX12_hearsAt
set_option maxRecDepth 20000 in
theorem gX12_isHeard_X12_hearsAt : GoodIn wsX12_isHeard (wsV RX12 284 RX12 yX12_hearsAt wsX12_hearsAt) := goodIn_app (goodIn_sub (List.forall_mem_cons.mpr ⟨wrr_wsX12_isHeard (i := 3) rfl, (List.forall_mem_cons.mpr ⟨wrr_wsX12_isHeard (i := 4) rfl, (List.forall_mem_cons.mpr ⟨wrr_wsX12_isHeard (i := 5) rfl, (List.forall_mem_cons.mpr ⟨wrr_wsX12_isHeard (i := 6) rfl, (fun _ h => absurd h List.not_mem_nil)⟩)⟩)⟩)⟩) (by decide +kernel)) ggX12_isHeard_X12_hearsAt
theorem dX12_isHeard_0 : decode cX12_isHeard 0 = .ok (.iconst 0, 1) := by decide +kernel
theorem dX12_isHeard_1 : decode cX12_isHeard 1 = .ok (.istore_n 3, 1) := by decide +kernel
theorem dX12_isHeard_2 : decode cX12_isHeard 2 = .ok (.iload_n 3, 1) := by decide +kernel
theorem dX12_isHeard_3 : decode cX12_isHeard 3 = .ok (.aload_n 0, 1) := by decide +kernel
theorem dX12_isHeard_4 : decode cX12_isHeard 4 = .ok (.getfield 13, 3) := by decide +kernel
theorem dX12_isHeard_7 : decode cX12_isHeard 7 = .ok (.iload_n 1, 1) := by decide +kernel
theorem dX12_isHeard_8 : decode cX12_isHeard 8 = .ok (.iaload, 1) := by decide +kernel
theorem dX12_isHeard_9 : decode cX12_isHeard 9 = .ok (.if_icmp .ge 46, 3) := by decide +kernel
theorem dX12_isHeard_12 : decode cX12_isHeard 12 = .ok (.aload_n 0, 1) := by decide +kernel
theorem dX12_isHeard_13 : decode cX12_isHeard 13 = .ok (.iload_n 2, 1) := by decide +kernel
theorem dX12_isHeard_14 : decode cX12_isHeard 14 = .ok (.aload_n 0, 1) := by decide +kernel
theorem dX12_isHeard_15 : decode cX12_isHeard 15 = .ok (.getfield 16, 3) := by decide +kernel
theorem dX12_isHeard_18 : decode cX12_isHeard 18 = .ok (.bipush 60, 2) := by decide +kernel
theorem dX12_isHeard_20 : decode cX12_isHeard 20 = .ok (.iload_n 1, 1) := by decide +kernel
theorem dX12_isHeard_21 : decode cX12_isHeard 21 = .ok (.imul, 1) := by decide +kernel
theorem dX12_isHeard_22 : decode cX12_isHeard 22 = .ok (.iload_n 3, 1) := by decide +kernel
theorem dX12_isHeard_23 : decode cX12_isHeard 23 = .ok (.iadd, 1) := by decide +kernel
theorem dX12_isHeard_24 : decode cX12_isHeard 24 = .ok (.laload, 1) := by decide +kernel
theorem dX12_isHeard_25 : decode cX12_isHeard 25 = .ok (.l2i, 1) := by decide +kernel
theorem dX12_isHeard_26 : decode cX12_isHeard 26 = .ok (.invokevirtual 284, 3) := by decide +kernel
theorem dX12_isHeard_29 : decode cX12_isHeard 29 = .ok (.i2l, 1) := by decide +kernel
theorem dX12_isHeard_30 : decode cX12_isHeard 30 = .ok (.aload_n 0, 1) := by decide +kernel
theorem dX12_isHeard_31 : decode cX12_isHeard 31 = .ok (.getfield 16, 3) := by decide +kernel
theorem dX12_isHeard_34 : decode cX12_isHeard 34 = .ok (.bipush 60, 2) := by decide +kernel
theorem dX12_isHeard_36 : decode cX12_isHeard 36 = .ok (.iload_n 1, 1) := by decide +kernel
theorem dX12_isHeard_37 : decode cX12_isHeard 37 = .ok (.imul, 1) := by decide +kernel
theorem dX12_isHeard_38 : decode cX12_isHeard 38 = .ok (.iload_n 3, 1) := by decide +kernel
theorem dX12_isHeard_39 : decode cX12_isHeard 39 = .ok (.iadd, 1) := by decide +kernel
theorem dX12_isHeard_40 : decode cX12_isHeard 40 = .ok (.iconst 1, 1) := by decide +kernel
theorem dX12_isHeard_41 : decode cX12_isHeard 41 = .ok (.iadd, 1) := by decide +kernel
theorem dX12_isHeard_42 : decode cX12_isHeard 42 = .ok (.laload, 1) := by decide +kernel
theorem dX12_isHeard_43 : decode cX12_isHeard 43 = .ok (.lcmp, 1) := by decide +kernel
theorem dX12_isHeard_44 : decode cX12_isHeard 44 = .ok (.ifCond .eq 5, 3) := by decide +kernel
theorem dX12_isHeard_47 : decode cX12_isHeard 47 = .ok (.iconst 0, 1) := by decide +kernel
theorem dX12_isHeard_48 : decode cX12_isHeard 48 = .ok (.ireturn, 1) := by decide +kernel
theorem dX12_isHeard_49 : decode cX12_isHeard 49 = .ok (.iinc 3 2, 3) := by decide +kernel
theorem dX12_isHeard_52 : decode cX12_isHeard 52 = .ok (.goto (-50), 3) := by decide +kernel
theorem dX12_isHeard_55 : decode cX12_isHeard 55 = .ok (.iconst 1, 1) := by decide +kernel
theorem dX12_isHeard_56 : decode cX12_isHeard 56 = .ok (.ireturn, 1) := by decide +kernel
theorem wrr_wsX12_laysFits {i : Nat} {w : Cond} (h : wsX12_laysFits[i]? = some w) : w ∈ wsX12_laysFits := List.mem_of_getElem? h
theorem wrr_wsX12_laysFits_wsX12_laysFits_r1 {i : Nat} {w : Cond} (h : wsX12_laysFits_r1[i]? = some w) : w ∈ wsX12_laysFits := (List.mem_cons_of_mem _ (List.mem_append_left _ (List.mem_append_left _ (List.mem_of_getElem? h))))
theorem wrr_wsX12_laysFits_wsX12_laysFits_r2 {i : Nat} {w : Cond} (h : wsX12_laysFits_r2[i]? = some w) : w ∈ wsX12_laysFits := (List.mem_cons_of_mem _ (List.mem_append_left _ (List.mem_append_right _ (List.mem_of_getElem? h))))
theorem wru_wsX12_laysFits_wsX120 : ∀ w ∈ wsX120, w ∈ wsX12_laysFits := fun w h => (List.mem_cons_of_mem _ (List.mem_append_right _ h))
set_option maxRecDepth 20000 in
theorem ggX12_laysFits_X12_dances : GoodIn wsX12_laysFits wsX12_dances := goodIn_sub (List.forall_mem_cons.mpr ⟨wrr_wsX12_laysFits_wsX12_laysFits_r1 (i := 8) rfl, (List.forall_mem_append.mpr ⟨(List.forall_mem_cons.mpr ⟨wrr_wsX12_laysFits_wsX12_laysFits_r1 (i := 9) rfl, (List.forall_mem_cons.mpr ⟨wrr_wsX12_laysFits_wsX12_laysFits_r1 (i := 10) rfl, (List.forall_mem_cons.mpr ⟨wrr_wsX12_laysFits_wsX12_laysFits_r1 (i := 11) rfl, (List.forall_mem_cons.mpr ⟨wrr_wsX12_laysFits_wsX12_laysFits_r1 (i := 12) rfl, (List.forall_mem_cons.mpr ⟨wrr_wsX12_laysFits_wsX12_laysFits_r1 (i := 13) rfl, (List.forall_mem_cons.mpr ⟨wrr_wsX12_laysFits_wsX12_laysFits_r1 (i := 14) rfl, (List.forall_mem_cons.mpr ⟨wrr_wsX12_laysFits_wsX12_laysFits_r1 (i := 15) rfl, (List.forall_mem_cons.mpr ⟨wrr_wsX12_laysFits_wsX12_laysFits_r1 (i := 16) rfl, (List.forall_mem_cons.mpr ⟨wrr_wsX12_laysFits_wsX12_laysFits_r1 (i := 17) rfl, (List.forall_mem_cons.mpr ⟨wrr_wsX12_laysFits_wsX12_laysFits_r1 (i := 7) rfl, (List.forall_mem_cons.mpr ⟨wrr_wsX12_laysFits_wsX12_laysFits_r1 (i := 18) rfl, (fun _ h => absurd h List.not_mem_nil)⟩)⟩)⟩)⟩)⟩)⟩)⟩)⟩)⟩)⟩)⟩), wru_wsX12_laysFits_wsX120⟩)⟩) gw_wsX12_dances
set_option maxRecDepth 20000 in
theorem gX12_laysFits_X12_dances : GoodIn wsX12_laysFits (wsV RX12 273 RX12 yX12_dances wsX12_dances) := goodIn_app (goodIn_sub (List.forall_mem_cons.mpr ⟨wrr_wsX12_laysFits_wsX12_laysFits_r1 (i := 4) rfl, (List.forall_mem_cons.mpr ⟨wrr_wsX12_laysFits_wsX12_laysFits_r1 (i := 5) rfl, (List.forall_mem_cons.mpr ⟨wrr_wsX12_laysFits_wsX12_laysFits_r1 (i := 6) rfl, (List.forall_mem_cons.mpr ⟨wrr_wsX12_laysFits_wsX12_laysFits_r1 (i := 7) rfl, (fun _ h => absurd h List.not_mem_nil)⟩)⟩)⟩)⟩) (by decide +kernel)) ggX12_laysFits_X12_dances
set_option maxRecDepth 20000 in
theorem gw_wsX12_isHeard : wsX12_isHeard.all goodWord = true := by decide +kernel
set_option maxRecDepth 20000 in
theorem ggX12_laysFits_X12_isHeard : GoodIn wsX12_laysFits wsX12_isHeard := goodIn_sub (List.forall_mem_cons.mpr ⟨wrr_wsX12_laysFits_wsX12_laysFits_r1 (i := 22) rfl, (List.forall_mem_append.mpr ⟨(List.forall_mem_cons.mpr ⟨wrr_wsX12_laysFits_wsX12_laysFits_r1 (i := 23) rfl, (List.forall_mem_cons.mpr ⟨wrr_wsX12_laysFits_wsX12_laysFits_r2 (i := 0) rfl, (List.forall_mem_cons.mpr ⟨wrr_wsX12_laysFits_wsX12_laysFits_r2 (i := 1) rfl, (List.forall_mem_cons.mpr ⟨wrr_wsX12_laysFits_wsX12_laysFits_r2 (i := 2) rfl, (List.forall_mem_cons.mpr ⟨wrr_wsX12_laysFits_wsX12_laysFits_r2 (i := 3) rfl, (List.forall_mem_cons.mpr ⟨wrr_wsX12_laysFits_wsX12_laysFits_r1 (i := 7) rfl, (List.forall_mem_cons.mpr ⟨wrr_wsX12_laysFits_wsX12_laysFits_r2 (i := 4) rfl, (List.forall_mem_cons.mpr ⟨wrr_wsX12_laysFits_wsX12_laysFits_r1 (i := 9) rfl, (List.forall_mem_cons.mpr ⟨wrr_wsX12_laysFits_wsX12_laysFits_r1 (i := 11) rfl, (fun _ h => absurd h List.not_mem_nil)⟩)⟩)⟩)⟩)⟩)⟩)⟩)⟩)⟩), wru_wsX12_laysFits_wsX120⟩)⟩) gw_wsX12_isHeard
set_option maxRecDepth 20000 in
theorem gX12_laysFits_X12_isHeard : GoodIn wsX12_laysFits (wsV RX12 352 RX12 yX12_isHeard wsX12_isHeard) := goodIn_app (goodIn_sub (List.forall_mem_cons.mpr ⟨wrr_wsX12_laysFits_wsX12_laysFits_r1 (i := 19) rfl, (List.forall_mem_cons.mpr ⟨wrr_wsX12_laysFits_wsX12_laysFits_r1 (i := 20) rfl, (List.forall_mem_cons.mpr ⟨wrr_wsX12_laysFits_wsX12_laysFits_r1 (i := 21) rfl, (List.forall_mem_cons.mpr ⟨wrr_wsX12_laysFits_wsX12_laysFits_r1 (i := 7) rfl, (fun _ h => absurd h List.not_mem_nil)⟩)⟩)⟩)⟩) (by decide +kernel)) ggX12_laysFits_X12_isHeard
set_option maxRecDepth 20000 in
theorem ggX12_laysFits_X12_hearsAt : GoodIn wsX12_laysFits wsX12_hearsAt := goodIn_sub (List.forall_mem_cons.mpr ⟨wrr_wsX12_laysFits_wsX12_laysFits_r2 (i := 4) rfl, (List.forall_mem_append.mpr ⟨(List.forall_mem_cons.mpr ⟨wrr_wsX12_laysFits_wsX12_laysFits_r1 (i := 9) rfl, (List.forall_mem_cons.mpr ⟨wrr_wsX12_laysFits_wsX12_laysFits_r1 (i := 11) rfl, (fun _ h => absurd h List.not_mem_nil)⟩)⟩), wru_wsX12_laysFits_wsX120⟩)⟩) gw_wsX12_hearsAt
set_option maxRecDepth 20000 in
theorem gX12_laysFits_X12_hearsAt : GoodIn wsX12_laysFits (wsV RX12 284 RX12 yX12_hearsAt wsX12_hearsAt) := goodIn_app (goodIn_sub (List.forall_mem_cons.mpr ⟨wrr_wsX12_laysFits_wsX12_laysFits_r2 (i := 1) rfl, (List.forall_mem_cons.mpr ⟨wrr_wsX12_laysFits_wsX12_laysFits_r2 (i := 2) rfl, (List.forall_mem_cons.mpr ⟨wrr_wsX12_laysFits_wsX12_laysFits_r2 (i := 3) rfl, (List.forall_mem_cons.mpr ⟨wrr_wsX12_laysFits_wsX12_laysFits_r1 (i := 7) rfl, (fun _ h => absurd h List.not_mem_nil)⟩)⟩)⟩)⟩) (by decide +kernel)) ggX12_laysFits_X12_hearsAt
theorem dX12_laysFits_0 : decode cX12_laysFits 0 = .ok (.aload_n 0, 1) := by decide +kernel
theorem dX12_laysFits_1 : decode cX12_laysFits 1 = .ok (.iconst 0, 1) := by decide +kernel
theorem dX12_laysFits_2 : decode cX12_laysFits 2 = .ok (.putfield 343, 3) := by decide +kernel
theorem dX12_laysFits_5 : decode cX12_laysFits 5 = .ok (.aload_n 0, 1) := by decide +kernel
theorem dX12_laysFits_6 : decode cX12_laysFits 6 = .ok (.iconst (-1), 1) := by decide +kernel
theorem dX12_laysFits_7 : decode cX12_laysFits 7 = .ok (.putfield 346, 3) := by decide +kernel
theorem dX12_laysFits_10 : decode cX12_laysFits 10 = .ok (.aload_n 0, 1) := by decide +kernel
theorem dX12_laysFits_11 : decode cX12_laysFits 11 = .ok (.lconst 0, 1) := by decide +kernel
theorem dX12_laysFits_12 : decode cX12_laysFits 12 = .ok (.putfield 349, 3) := by decide +kernel
theorem dX12_laysFits_15 : decode cX12_laysFits 15 = .ok (.iconst 0, 1) := by decide +kernel
theorem dX12_laysFits_16 : decode cX12_laysFits 16 = .ok (.istore_n 3, 1) := by decide +kernel
theorem dX12_laysFits_17 : decode cX12_laysFits 17 = .ok (.iload_n 3, 1) := by decide +kernel
theorem dX12_laysFits_18 : decode cX12_laysFits 18 = .ok (.sipush 560, 3) := by decide +kernel
theorem dX12_laysFits_21 : decode cX12_laysFits 21 = .ok (.if_icmp .ge 16, 3) := by decide +kernel
theorem dX12_laysFits_24 : decode cX12_laysFits 24 = .ok (.aload_n 0, 1) := by decide +kernel
theorem dX12_laysFits_25 : decode cX12_laysFits 25 = .ok (.getfield 71, 3) := by decide +kernel
theorem dX12_laysFits_28 : decode cX12_laysFits 28 = .ok (.iload_n 3, 1) := by decide +kernel
theorem dX12_laysFits_29 : decode cX12_laysFits 29 = .ok (.iconst 0, 1) := by decide +kernel
theorem dX12_laysFits_30 : decode cX12_laysFits 30 = .ok (.iastore, 1) := by decide +kernel
theorem dX12_laysFits_31 : decode cX12_laysFits 31 = .ok (.iinc 3 1, 3) := by decide +kernel
theorem dX12_laysFits_34 : decode cX12_laysFits 34 = .ok (.goto (-17), 3) := by decide +kernel
theorem dX12_laysFits_37 : decode cX12_laysFits 37 = .ok (.iconst 0, 1) := by decide +kernel
theorem dX12_laysFits_38 : decode cX12_laysFits 38 = .ok (.istore_n 3, 1) := by decide +kernel
theorem dX12_laysFits_39 : decode cX12_laysFits 39 = .ok (.iload_n 3, 1) := by decide +kernel
theorem dX12_laysFits_40 : decode cX12_laysFits 40 = .ok (.sipush 3601, 3) := by decide +kernel
theorem dX12_laysFits_43 : decode cX12_laysFits 43 = .ok (.if_icmp .ge 159, 3) := by decide +kernel
theorem dX12_laysFits_46 : decode cX12_laysFits 46 = .ok (.iload_n 3, 1) := by decide +kernel
theorem dX12_laysFits_47 : decode cX12_laysFits 47 = .ok (.ifCond .ne 7, 3) := by decide +kernel
theorem dX12_laysFits_50 : decode cX12_laysFits 50 = .ok (.iconst (-1), 1) := by decide +kernel
theorem dX12_laysFits_51 : decode cX12_laysFits 51 = .ok (.goto 9, 3) := by decide +kernel
theorem dX12_laysFits_54 : decode cX12_laysFits 54 = .ok (.iload_n 3, 1) := by decide +kernel
theorem dX12_laysFits_55 : decode cX12_laysFits 55 = .ok (.iconst 1, 1) := by decide +kernel
theorem dX12_laysFits_56 : decode cX12_laysFits 56 = .ok (.isub, 1) := by decide +kernel
theorem dX12_laysFits_57 : decode cX12_laysFits 57 = .ok (.bipush 60, 2) := by decide +kernel
theorem dX12_laysFits_59 : decode cX12_laysFits 59 = .ok (.idiv, 1) := by decide +kernel
theorem dX12_laysFits_60 : decode cX12_laysFits 60 = .ok (.istore 4, 2) := by decide +kernel
theorem dX12_laysFits_62 : decode cX12_laysFits 62 = .ok (.aload_n 0, 1) := by decide +kernel
theorem dX12_laysFits_63 : decode cX12_laysFits 63 = .ok (.iconst 1, 1) := by decide +kernel
theorem dX12_laysFits_64 : decode cX12_laysFits 64 = .ok (.iload_n 2, 1) := by decide +kernel
theorem dX12_laysFits_65 : decode cX12_laysFits 65 = .ok (.isub, 1) := by decide +kernel
theorem dX12_laysFits_66 : decode cX12_laysFits 66 = .ok (.bipush 99, 2) := by decide +kernel
theorem dX12_laysFits_68 : decode cX12_laysFits 68 = .ok (.iload 4, 2) := by decide +kernel
theorem dX12_laysFits_70 : decode cX12_laysFits 70 = .ok (.iload_n 3, 1) := by decide +kernel
theorem dX12_laysFits_71 : decode cX12_laysFits 71 = .ok (.ifCond .ne 7, 3) := by decide +kernel
theorem dX12_laysFits_74 : decode cX12_laysFits 74 = .ok (.iconst 0, 1) := by decide +kernel
theorem dX12_laysFits_75 : decode cX12_laysFits 75 = .ok (.goto 12, 3) := by decide +kernel
theorem dX12_laysFits_78 : decode cX12_laysFits 78 = .ok (.iload_n 3, 1) := by decide +kernel
theorem dX12_laysFits_79 : decode cX12_laysFits 79 = .ok (.iconst 1, 1) := by decide +kernel
theorem dX12_laysFits_80 : decode cX12_laysFits 80 = .ok (.isub, 1) := by decide +kernel
theorem dX12_laysFits_81 : decode cX12_laysFits 81 = .ok (.bipush 10, 2) := by decide +kernel
theorem dX12_laysFits_83 : decode cX12_laysFits 83 = .ok (.idiv, 1) := by decide +kernel
theorem dX12_laysFits_84 : decode cX12_laysFits 84 = .ok (.bipush 6, 2) := by decide +kernel
theorem dX12_laysFits_86 : decode cX12_laysFits 86 = .ok (.irem, 1) := by decide +kernel
theorem dX12_laysFits_87 : decode cX12_laysFits 87 = .ok (.iload_n 3, 1) := by decide +kernel
theorem dX12_laysFits_88 : decode cX12_laysFits 88 = .ok (.ifCond .ne 7, 3) := by decide +kernel
theorem dX12_laysFits_91 : decode cX12_laysFits 91 = .ok (.iconst 0, 1) := by decide +kernel
theorem dX12_laysFits_92 : decode cX12_laysFits 92 = .ok (.goto 9, 3) := by decide +kernel
theorem dX12_laysFits_95 : decode cX12_laysFits 95 = .ok (.iload_n 3, 1) := by decide +kernel
theorem dX12_laysFits_96 : decode cX12_laysFits 96 = .ok (.iconst 1, 1) := by decide +kernel
theorem dX12_laysFits_97 : decode cX12_laysFits 97 = .ok (.isub, 1) := by decide +kernel
theorem dX12_laysFits_98 : decode cX12_laysFits 98 = .ok (.bipush 10, 2) := by decide +kernel
theorem dX12_laysFits_100 : decode cX12_laysFits 100 = .ok (.irem, 1) := by decide +kernel
theorem dX12_laysFits_101 : decode cX12_laysFits 101 = .ok (.invokevirtual 273, 3) := by decide +kernel
theorem dX12_laysFits_104 : decode cX12_laysFits 104 = .ok (.aload_n 0, 1) := by decide +kernel
theorem dX12_laysFits_105 : decode cX12_laysFits 105 = .ok (.iload_n 1, 1) := by decide +kernel
theorem dX12_laysFits_106 : decode cX12_laysFits 106 = .ok (.iload_n 2, 1) := by decide +kernel
theorem dX12_laysFits_107 : decode cX12_laysFits 107 = .ok (.invokevirtual 352, 3) := by decide +kernel
theorem dX12_laysFits_110 : decode cX12_laysFits 110 = .ok (.ifCond .ne 6, 3) := by decide +kernel
theorem dX12_laysFits_113 : decode cX12_laysFits 113 = .ok (.goto 83, 3) := by decide +kernel
theorem dX12_laysFits_116 : decode cX12_laysFits 116 = .ok (.aload_n 0, 1) := by decide +kernel
theorem dX12_laysFits_117 : decode cX12_laysFits 117 = .ok (.dup, 1) := by decide +kernel
theorem dX12_laysFits_118 : decode cX12_laysFits 118 = .ok (.getfield 343, 3) := by decide +kernel
theorem dX12_laysFits_121 : decode cX12_laysFits 121 = .ok (.iconst 1, 1) := by decide +kernel
theorem dX12_laysFits_122 : decode cX12_laysFits 122 = .ok (.iadd, 1) := by decide +kernel
theorem dX12_laysFits_123 : decode cX12_laysFits 123 = .ok (.putfield 343, 3) := by decide +kernel
theorem dX12_laysFits_126 : decode cX12_laysFits 126 = .ok (.aload_n 0, 1) := by decide +kernel
theorem dX12_laysFits_127 : decode cX12_laysFits 127 = .ok (.getfield 346, 3) := by decide +kernel
theorem dX12_laysFits_130 : decode cX12_laysFits 130 = .ok (.iconst (-1), 1) := by decide +kernel
theorem dX12_laysFits_131 : decode cX12_laysFits 131 = .ok (.if_icmp .ne 8, 3) := by decide +kernel
theorem dX12_laysFits_134 : decode cX12_laysFits 134 = .ok (.aload_n 0, 1) := by decide +kernel
theorem dX12_laysFits_135 : decode cX12_laysFits 135 = .ok (.iload_n 3, 1) := by decide +kernel
theorem dX12_laysFits_136 : decode cX12_laysFits 136 = .ok (.putfield 346, 3) := by decide +kernel
theorem dX12_laysFits_139 : decode cX12_laysFits 139 = .ok (.iload_n 3, 1) := by decide +kernel
theorem dX12_laysFits_140 : decode cX12_laysFits 140 = .ok (.ifCond .le 16, 3) := by decide +kernel
theorem dX12_laysFits_143 : decode cX12_laysFits 143 = .ok (.aload_n 0, 1) := by decide +kernel
theorem dX12_laysFits_144 : decode cX12_laysFits 144 = .ok (.dup, 1) := by decide +kernel
theorem dX12_laysFits_145 : decode cX12_laysFits 145 = .ok (.getfield 349, 3) := by decide +kernel
theorem dX12_laysFits_148 : decode cX12_laysFits 148 = .ok (.lconst 1, 1) := by decide +kernel
theorem dX12_laysFits_149 : decode cX12_laysFits 149 = .ok (.iload 4, 2) := by decide +kernel
theorem dX12_laysFits_151 : decode cX12_laysFits 151 = .ok (.lshl, 1) := by decide +kernel
theorem dX12_laysFits_152 : decode cX12_laysFits 152 = .ok (.lor, 1) := by decide +kernel
theorem dX12_laysFits_153 : decode cX12_laysFits 153 = .ok (.putfield 349, 3) := by decide +kernel
theorem dX12_laysFits_156 : decode cX12_laysFits 156 = .ok (.iconst 0, 1) := by decide +kernel
theorem dX12_laysFits_157 : decode cX12_laysFits 157 = .ok (.istore 5, 2) := by decide +kernel
theorem dX12_laysFits_159 : decode cX12_laysFits 159 = .ok (.iload 5, 2) := by decide +kernel
theorem dX12_laysFits_161 : decode cX12_laysFits 161 = .ok (.bipush 80, 2) := by decide +kernel
theorem dX12_laysFits_163 : decode cX12_laysFits 163 = .ok (.if_icmp .ge 33, 3) := by decide +kernel
theorem dX12_laysFits_166 : decode cX12_laysFits 166 = .ok (.aload_n 0, 1) := by decide +kernel
theorem dX12_laysFits_167 : decode cX12_laysFits 167 = .ok (.getfield 71, 3) := by decide +kernel
theorem dX12_laysFits_170 : decode cX12_laysFits 170 = .ok (.bipush 7, 2) := by decide +kernel
theorem dX12_laysFits_172 : decode cX12_laysFits 172 = .ok (.iload 5, 2) := by decide +kernel
theorem dX12_laysFits_174 : decode cX12_laysFits 174 = .ok (.imul, 1) := by decide +kernel
theorem dX12_laysFits_175 : decode cX12_laysFits 175 = .ok (.aload_n 0, 1) := by decide +kernel
theorem dX12_laysFits_176 : decode cX12_laysFits 176 = .ok (.iload_n 2, 1) := by decide +kernel
theorem dX12_laysFits_177 : decode cX12_laysFits 177 = .ok (.iload 5, 2) := by decide +kernel
theorem dX12_laysFits_179 : decode cX12_laysFits 179 = .ok (.invokevirtual 284, 3) := by decide +kernel
theorem dX12_laysFits_182 : decode cX12_laysFits 182 = .ok (.iadd, 1) := by decide +kernel
theorem dX12_laysFits_183 : decode cX12_laysFits 183 = .ok (.iconst 1, 1) := by decide +kernel
theorem dX12_laysFits_184 : decode cX12_laysFits 184 = .ok (.iadd, 1) := by decide +kernel
theorem dX12_laysFits_185 : decode cX12_laysFits 185 = .ok (.dup2, 1) := by decide +kernel
theorem dX12_laysFits_186 : decode cX12_laysFits 186 = .ok (.iaload, 1) := by decide +kernel
theorem dX12_laysFits_187 : decode cX12_laysFits 187 = .ok (.iconst 1, 1) := by decide +kernel
theorem dX12_laysFits_188 : decode cX12_laysFits 188 = .ok (.iadd, 1) := by decide +kernel
theorem dX12_laysFits_189 : decode cX12_laysFits 189 = .ok (.iastore, 1) := by decide +kernel
theorem dX12_laysFits_190 : decode cX12_laysFits 190 = .ok (.iinc 5 1, 3) := by decide +kernel
theorem dX12_laysFits_193 : decode cX12_laysFits 193 = .ok (.goto (-34), 3) := by decide +kernel
theorem dX12_laysFits_196 : decode cX12_laysFits 196 = .ok (.iinc 3 1, 3) := by decide +kernel
theorem dX12_laysFits_199 : decode cX12_laysFits 199 = .ok (.goto (-160), 3) := by decide +kernel
theorem dX12_laysFits_202 : decode cX12_laysFits 202 = .ok (.return_, 1) := by decide +kernel
theorem wrr_wsX12_heard {i : Nat} {w : Cond} (h : wsX12_heard[i]? = some w) : w ∈ wsX12_heard := List.mem_of_getElem? h
theorem wrr_wsX12_heard_wsX12_heard_r1 {i : Nat} {w : Cond} (h : wsX12_heard_r1[i]? = some w) : w ∈ wsX12_heard := (List.mem_cons_of_mem _ (List.mem_append_left _ (List.mem_append_left _ (List.mem_of_getElem? h))))
theorem wrr_wsX12_heard_wsX12_heard_r2 {i : Nat} {w : Cond} (h : wsX12_heard_r2[i]? = some w) : w ∈ wsX12_heard := (List.mem_cons_of_mem _ (List.mem_append_left _ (List.mem_append_right _ (List.mem_append_left _ (List.mem_of_getElem? h)))))
theorem wrr_wsX12_heard_wsX12_heard_r3 {i : Nat} {w : Cond} (h : wsX12_heard_r3[i]? = some w) : w ∈ wsX12_heard := (List.mem_cons_of_mem _ (List.mem_append_left _ (List.mem_append_right _ (List.mem_append_right _ (List.mem_of_getElem? h)))))
theorem wru_wsX12_heard_wsX120 : ∀ w ∈ wsX120, w ∈ wsX12_heard := fun w h => (List.mem_cons_of_mem _ (List.mem_append_right _ h))
set_option maxRecDepth 20000 in
theorem gw_wsX12_whyNot : wsX12_whyNot.all goodWord = true := by decide +kernel
set_option maxRecDepth 20000 in
theorem ggX12_heard_X12_whyNot : GoodIn wsX12_heard wsX12_whyNot := goodIn_sub (List.forall_mem_cons.mpr ⟨wrr_wsX12_heard_wsX12_heard_r1 (i := 6) rfl, (List.forall_mem_append.mpr ⟨(List.forall_mem_append.mpr ⟨(List.forall_mem_cons.mpr ⟨wrr_wsX12_heard_wsX12_heard_r1 (i := 7) rfl, (List.forall_mem_cons.mpr ⟨wrr_wsX12_heard_wsX12_heard_r1 (i := 8) rfl, (List.forall_mem_cons.mpr ⟨wrr_wsX12_heard_wsX12_heard_r1 (i := 9) rfl, (List.forall_mem_cons.mpr ⟨wrr_wsX12_heard_wsX12_heard_r1 (i := 10) rfl, (List.forall_mem_cons.mpr ⟨wrr_wsX12_heard_wsX12_heard_r1 (i := 11) rfl, (List.forall_mem_cons.mpr ⟨wrr_wsX12_heard_wsX12_heard_r1 (i := 12) rfl, (List.forall_mem_cons.mpr ⟨wrr_wsX12_heard_wsX12_heard_r1 (i := 13) rfl, (List.forall_mem_cons.mpr ⟨wrr_wsX12_heard_wsX12_heard_r1 (i := 5) rfl, (List.forall_mem_cons.mpr ⟨wrr_wsX12_heard_wsX12_heard_r1 (i := 14) rfl, (List.forall_mem_cons.mpr ⟨wrr_wsX12_heard_wsX12_heard_r1 (i := 15) rfl, (List.forall_mem_cons.mpr ⟨wrr_wsX12_heard_wsX12_heard_r1 (i := 16) rfl, (List.forall_mem_cons.mpr ⟨wrr_wsX12_heard_wsX12_heard_r1 (i := 17) rfl, (List.forall_mem_cons.mpr ⟨wrr_wsX12_heard_wsX12_heard_r1 (i := 18) rfl, (List.forall_mem_cons.mpr ⟨wrr_wsX12_heard_wsX12_heard_r1 (i := 19) rfl, (List.forall_mem_cons.mpr ⟨wrr_wsX12_heard_wsX12_heard_r1 (i := 20) rfl, (List.forall_mem_cons.mpr ⟨wrr_wsX12_heard_wsX12_heard_r1 (i := 21) rfl, (List.forall_mem_cons.mpr ⟨wrr_wsX12_heard_wsX12_heard_r1 (i := 22) rfl, (List.forall_mem_cons.mpr ⟨wrr_wsX12_heard_wsX12_heard_r1 (i := 23) rfl, (List.forall_mem_cons.mpr ⟨wrr_wsX12_heard_wsX12_heard_r2 (i := 0) rfl, (List.forall_mem_cons.mpr ⟨wrr_wsX12_heard_wsX12_heard_r2 (i := 1) rfl, (List.forall_mem_cons.mpr ⟨wrr_wsX12_heard_wsX12_heard_r2 (i := 2) rfl, (List.forall_mem_cons.mpr ⟨wrr_wsX12_heard_wsX12_heard_r2 (i := 3) rfl, (List.forall_mem_cons.mpr ⟨wrr_wsX12_heard_wsX12_heard_r2 (i := 4) rfl, (List.forall_mem_cons.mpr ⟨wrr_wsX12_heard_wsX12_heard_r2 (i := 5) rfl, (fun _ h => absurd h List.not_mem_nil)⟩)⟩)⟩)⟩)⟩)⟩)⟩)⟩)⟩)⟩)⟩)⟩)⟩)⟩)⟩)⟩)⟩)⟩)⟩)⟩)⟩)⟩)⟩)⟩), (List.forall_mem_cons.mpr ⟨wrr_wsX12_heard_wsX12_heard_r2 (i := 6) rfl, (List.forall_mem_cons.mpr ⟨wrr_wsX12_heard_wsX12_heard_r2 (i := 7) rfl, (fun _ h => absurd h List.not_mem_nil)⟩)⟩)⟩), wru_wsX12_heard_wsX120⟩)⟩) gw_wsX12_whyNot
set_option maxRecDepth 20000 in
theorem gX12_heard_X12_whyNot : GoodIn wsX12_heard (wsV RX12 355 RX12 yX12_whyNot wsX12_whyNot) := goodIn_app (goodIn_sub (List.forall_mem_cons.mpr ⟨wrr_wsX12_heard_wsX12_heard_r1 (i := 2) rfl, (List.forall_mem_cons.mpr ⟨wrr_wsX12_heard_wsX12_heard_r1 (i := 3) rfl, (List.forall_mem_cons.mpr ⟨wrr_wsX12_heard_wsX12_heard_r1 (i := 4) rfl, (List.forall_mem_cons.mpr ⟨wrr_wsX12_heard_wsX12_heard_r1 (i := 5) rfl, (fun _ h => absurd h List.not_mem_nil)⟩)⟩)⟩)⟩) (by decide +kernel)) ggX12_heard_X12_whyNot
set_option maxRecDepth 20000 in
theorem gw_wsX12_laysFits : wsX12_laysFits.all goodWord = true := by decide +kernel
set_option maxRecDepth 20000 in
theorem ggX12_heard_X12_laysFits : GoodIn wsX12_heard wsX12_laysFits := goodIn_sub (List.forall_mem_cons.mpr ⟨wrr_wsX12_heard_wsX12_heard_r2 (i := 11) rfl, (List.forall_mem_append.mpr ⟨(List.forall_mem_append.mpr ⟨(List.forall_mem_cons.mpr ⟨wrr_wsX12_heard_wsX12_heard_r1 (i := 1) rfl, (List.forall_mem_cons.mpr ⟨wrr_wsX12_heard_wsX12_heard_r2 (i := 12) rfl, (List.forall_mem_cons.mpr ⟨wrr_wsX12_heard_wsX12_heard_r2 (i := 13) rfl, (List.forall_mem_cons.mpr ⟨wrr_wsX12_heard_wsX12_heard_r2 (i := 14) rfl, (List.forall_mem_cons.mpr ⟨wrr_wsX12_heard_wsX12_heard_r2 (i := 15) rfl, (List.forall_mem_cons.mpr ⟨wrr_wsX12_heard_wsX12_heard_r2 (i := 16) rfl, (List.forall_mem_cons.mpr ⟨wrr_wsX12_heard_wsX12_heard_r2 (i := 17) rfl, (List.forall_mem_cons.mpr ⟨wrr_wsX12_heard_wsX12_heard_r1 (i := 5) rfl, (List.forall_mem_cons.mpr ⟨wrr_wsX12_heard_wsX12_heard_r2 (i := 18) rfl, (List.forall_mem_cons.mpr ⟨wrr_wsX12_heard_wsX12_heard_r2 (i := 19) rfl, (List.forall_mem_cons.mpr ⟨wrr_wsX12_heard_wsX12_heard_r2 (i := 20) rfl, (List.forall_mem_cons.mpr ⟨wrr_wsX12_heard_wsX12_heard_r2 (i := 21) rfl, (List.forall_mem_cons.mpr ⟨wrr_wsX12_heard_wsX12_heard_r2 (i := 22) rfl, (List.forall_mem_cons.mpr ⟨wrr_wsX12_heard_wsX12_heard_r2 (i := 23) rfl, (List.forall_mem_cons.mpr ⟨wrr_wsX12_heard_wsX12_heard_r3 (i := 0) rfl, (List.forall_mem_cons.mpr ⟨wrr_wsX12_heard_wsX12_heard_r3 (i := 1) rfl, (List.forall_mem_cons.mpr ⟨wrr_wsX12_heard_wsX12_heard_r3 (i := 2) rfl, (List.forall_mem_cons.mpr ⟨wrr_wsX12_heard_wsX12_heard_r3 (i := 3) rfl, (List.forall_mem_cons.mpr ⟨wrr_wsX12_heard_wsX12_heard_r3 (i := 4) rfl, (List.forall_mem_cons.mpr ⟨wrr_wsX12_heard_wsX12_heard_r3 (i := 5) rfl, (List.forall_mem_cons.mpr ⟨wrr_wsX12_heard_wsX12_heard_r3 (i := 6) rfl, (List.forall_mem_cons.mpr ⟨wrr_wsX12_heard_wsX12_heard_r3 (i := 7) rfl, (List.forall_mem_cons.mpr ⟨wrr_wsX12_heard_wsX12_heard_r3 (i := 8) rfl, (List.forall_mem_cons.mpr ⟨wrr_wsX12_heard_wsX12_heard_r1 (i := 8) rfl, (fun _ h => absurd h List.not_mem_nil)⟩)⟩)⟩)⟩)⟩)⟩)⟩)⟩)⟩)⟩)⟩)⟩)⟩)⟩)⟩)⟩)⟩)⟩)⟩)⟩)⟩)⟩)⟩)⟩), (List.forall_mem_cons.mpr ⟨wrr_wsX12_heard_wsX12_heard_r1 (i := 9) rfl, (List.forall_mem_cons.mpr ⟨wrr_wsX12_heard_wsX12_heard_r3 (i := 9) rfl, (List.forall_mem_cons.mpr ⟨wrr_wsX12_heard_wsX12_heard_r3 (i := 10) rfl, (List.forall_mem_cons.mpr ⟨wrr_wsX12_heard_wsX12_heard_r3 (i := 11) rfl, (List.forall_mem_cons.mpr ⟨wrr_wsX12_heard_wsX12_heard_r3 (i := 12) rfl, (fun _ h => absurd h List.not_mem_nil)⟩)⟩)⟩)⟩)⟩)⟩), wru_wsX12_heard_wsX120⟩)⟩) gw_wsX12_laysFits
set_option maxRecDepth 20000 in
theorem gX12_heard_X12_laysFits : GoodIn wsX12_heard (wsV RX12 358 RX12 yX12_laysFits wsX12_laysFits) := goodIn_app (goodIn_sub (List.forall_mem_cons.mpr ⟨wrr_wsX12_heard_wsX12_heard_r2 (i := 8) rfl, (List.forall_mem_cons.mpr ⟨wrr_wsX12_heard_wsX12_heard_r2 (i := 9) rfl, (List.forall_mem_cons.mpr ⟨wrr_wsX12_heard_wsX12_heard_r2 (i := 10) rfl, (List.forall_mem_cons.mpr ⟨wrr_wsX12_heard_wsX12_heard_r1 (i := 5) rfl, (fun _ h => absurd h List.not_mem_nil)⟩)⟩)⟩)⟩) (by decide +kernel)) ggX12_heard_X12_laysFits
theorem dX12_heard_0 : decode cX12_heard 0 = .ok (.aload_n 0, 1) := by decide +kernel
theorem dX12_heard_1 : decode cX12_heard 1 = .ok (.iconst 0, 1) := by decide +kernel
theorem dX12_heard_2 : decode cX12_heard 2 = .ok (.putfield 80, 3) := by decide +kernel
theorem dX12_heard_5 : decode cX12_heard 5 = .ok (.aload_n 0, 1) := by decide +kernel
theorem dX12_heard_6 : decode cX12_heard 6 = .ok (.iload_n 1, 1) := by decide +kernel
theorem dX12_heard_7 : decode cX12_heard 7 = .ok (.iload_n 2, 1) := by decide +kernel
theorem dX12_heard_8 : decode cX12_heard 8 = .ok (.invokevirtual 355, 3) := by decide +kernel
theorem dX12_heard_11 : decode cX12_heard 11 = .ok (.istore_n 3, 1) := by decide +kernel
theorem dX12_heard_12 : decode cX12_heard 12 = .ok (.iload_n 3, 1) := by decide +kernel
theorem dX12_heard_13 : decode cX12_heard 13 = .ok (.ifCond .eq 5, 3) := by decide +kernel
theorem dX12_heard_16 : decode cX12_heard 16 = .ok (.iload_n 3, 1) := by decide +kernel
theorem dX12_heard_17 : decode cX12_heard 17 = .ok (.ireturn, 1) := by decide +kernel
theorem dX12_heard_18 : decode cX12_heard 18 = .ok (.aload_n 0, 1) := by decide +kernel
theorem dX12_heard_19 : decode cX12_heard 19 = .ok (.iload_n 1, 1) := by decide +kernel
theorem dX12_heard_20 : decode cX12_heard 20 = .ok (.iload_n 2, 1) := by decide +kernel
theorem dX12_heard_21 : decode cX12_heard 21 = .ok (.invokevirtual 358, 3) := by decide +kernel
theorem dX12_heard_24 : decode cX12_heard 24 = .ok (.aload_n 0, 1) := by decide +kernel
theorem dX12_heard_25 : decode cX12_heard 25 = .ok (.getfield 343, 3) := by decide +kernel
theorem dX12_heard_28 : decode cX12_heard 28 = .ok (.ireturn, 1) := by decide +kernel
theorem wrr_wsX12_first {i : Nat} {w : Cond} (h : wsX12_first[i]? = some w) : w ∈ wsX12_first := List.mem_of_getElem? h
theorem wrr_wsX12_first_wsX12_first_r1 {i : Nat} {w : Cond} (h : wsX12_first_r1[i]? = some w) : w ∈ wsX12_first := (List.mem_cons_of_mem _ (List.mem_append_left _ (List.mem_append_left _ (List.mem_of_getElem? h))))
theorem wrr_wsX12_first_wsX12_first_r2 {i : Nat} {w : Cond} (h : wsX12_first_r2[i]? = some w) : w ∈ wsX12_first := (List.mem_cons_of_mem _ (List.mem_append_left _ (List.mem_append_right _ (List.mem_append_left _ (List.mem_of_getElem? h)))))
theorem wrr_wsX12_first_wsX12_first_r3 {i : Nat} {w : Cond} (h : wsX12_first_r3[i]? = some w) : w ∈ wsX12_first := (List.mem_cons_of_mem _ (List.mem_append_left _ (List.mem_append_right _ (List.mem_append_right _ (List.mem_of_getElem? h)))))
theorem wru_wsX12_first_wsX120 : ∀ w ∈ wsX120, w ∈ wsX12_first := fun w h => (List.mem_cons_of_mem _ (List.mem_append_right _ h))
set_option maxRecDepth 20000 in
theorem ggX12_first_X12_whyNot : GoodIn wsX12_first wsX12_whyNot := goodIn_sub (List.forall_mem_cons.mpr ⟨wrr_wsX12_first_wsX12_first_r1 (i := 6) rfl, (List.forall_mem_append.mpr ⟨(List.forall_mem_append.mpr ⟨(List.forall_mem_cons.mpr ⟨wrr_wsX12_first_wsX12_first_r1 (i := 7) rfl, (List.forall_mem_cons.mpr ⟨wrr_wsX12_first_wsX12_first_r1 (i := 8) rfl, (List.forall_mem_cons.mpr ⟨wrr_wsX12_first_wsX12_first_r1 (i := 9) rfl, (List.forall_mem_cons.mpr ⟨wrr_wsX12_first_wsX12_first_r1 (i := 10) rfl, (List.forall_mem_cons.mpr ⟨wrr_wsX12_first_wsX12_first_r1 (i := 11) rfl, (List.forall_mem_cons.mpr ⟨wrr_wsX12_first_wsX12_first_r1 (i := 12) rfl, (List.forall_mem_cons.mpr ⟨wrr_wsX12_first_wsX12_first_r1 (i := 13) rfl, (List.forall_mem_cons.mpr ⟨wrr_wsX12_first_wsX12_first_r1 (i := 5) rfl, (List.forall_mem_cons.mpr ⟨wrr_wsX12_first_wsX12_first_r1 (i := 14) rfl, (List.forall_mem_cons.mpr ⟨wrr_wsX12_first_wsX12_first_r1 (i := 15) rfl, (List.forall_mem_cons.mpr ⟨wrr_wsX12_first_wsX12_first_r1 (i := 16) rfl, (List.forall_mem_cons.mpr ⟨wrr_wsX12_first_wsX12_first_r1 (i := 17) rfl, (List.forall_mem_cons.mpr ⟨wrr_wsX12_first_wsX12_first_r1 (i := 18) rfl, (List.forall_mem_cons.mpr ⟨wrr_wsX12_first_wsX12_first_r1 (i := 19) rfl, (List.forall_mem_cons.mpr ⟨wrr_wsX12_first_wsX12_first_r1 (i := 20) rfl, (List.forall_mem_cons.mpr ⟨wrr_wsX12_first_wsX12_first_r1 (i := 21) rfl, (List.forall_mem_cons.mpr ⟨wrr_wsX12_first_wsX12_first_r1 (i := 22) rfl, (List.forall_mem_cons.mpr ⟨wrr_wsX12_first_wsX12_first_r1 (i := 23) rfl, (List.forall_mem_cons.mpr ⟨wrr_wsX12_first_wsX12_first_r2 (i := 0) rfl, (List.forall_mem_cons.mpr ⟨wrr_wsX12_first_wsX12_first_r2 (i := 1) rfl, (List.forall_mem_cons.mpr ⟨wrr_wsX12_first_wsX12_first_r2 (i := 2) rfl, (List.forall_mem_cons.mpr ⟨wrr_wsX12_first_wsX12_first_r2 (i := 3) rfl, (List.forall_mem_cons.mpr ⟨wrr_wsX12_first_wsX12_first_r2 (i := 4) rfl, (List.forall_mem_cons.mpr ⟨wrr_wsX12_first_wsX12_first_r2 (i := 5) rfl, (fun _ h => absurd h List.not_mem_nil)⟩)⟩)⟩)⟩)⟩)⟩)⟩)⟩)⟩)⟩)⟩)⟩)⟩)⟩)⟩)⟩)⟩)⟩)⟩)⟩)⟩)⟩)⟩)⟩), (List.forall_mem_cons.mpr ⟨wrr_wsX12_first_wsX12_first_r2 (i := 6) rfl, (List.forall_mem_cons.mpr ⟨wrr_wsX12_first_wsX12_first_r2 (i := 7) rfl, (fun _ h => absurd h List.not_mem_nil)⟩)⟩)⟩), wru_wsX12_first_wsX120⟩)⟩) gw_wsX12_whyNot
set_option maxRecDepth 20000 in
theorem gX12_first_X12_whyNot : GoodIn wsX12_first (wsV RX12 355 RX12 yX12_whyNot wsX12_whyNot) := goodIn_app (goodIn_sub (List.forall_mem_cons.mpr ⟨wrr_wsX12_first_wsX12_first_r1 (i := 2) rfl, (List.forall_mem_cons.mpr ⟨wrr_wsX12_first_wsX12_first_r1 (i := 3) rfl, (List.forall_mem_cons.mpr ⟨wrr_wsX12_first_wsX12_first_r1 (i := 4) rfl, (List.forall_mem_cons.mpr ⟨wrr_wsX12_first_wsX12_first_r1 (i := 5) rfl, (fun _ h => absurd h List.not_mem_nil)⟩)⟩)⟩)⟩) (by decide +kernel)) ggX12_first_X12_whyNot
set_option maxRecDepth 20000 in
theorem ggX12_first_X12_laysFits : GoodIn wsX12_first wsX12_laysFits := goodIn_sub (List.forall_mem_cons.mpr ⟨wrr_wsX12_first_wsX12_first_r2 (i := 11) rfl, (List.forall_mem_append.mpr ⟨(List.forall_mem_append.mpr ⟨(List.forall_mem_cons.mpr ⟨wrr_wsX12_first_wsX12_first_r2 (i := 12) rfl, (List.forall_mem_cons.mpr ⟨wrr_wsX12_first_wsX12_first_r1 (i := 1) rfl, (List.forall_mem_cons.mpr ⟨wrr_wsX12_first_wsX12_first_r2 (i := 13) rfl, (List.forall_mem_cons.mpr ⟨wrr_wsX12_first_wsX12_first_r2 (i := 14) rfl, (List.forall_mem_cons.mpr ⟨wrr_wsX12_first_wsX12_first_r2 (i := 15) rfl, (List.forall_mem_cons.mpr ⟨wrr_wsX12_first_wsX12_first_r2 (i := 16) rfl, (List.forall_mem_cons.mpr ⟨wrr_wsX12_first_wsX12_first_r2 (i := 17) rfl, (List.forall_mem_cons.mpr ⟨wrr_wsX12_first_wsX12_first_r1 (i := 5) rfl, (List.forall_mem_cons.mpr ⟨wrr_wsX12_first_wsX12_first_r2 (i := 18) rfl, (List.forall_mem_cons.mpr ⟨wrr_wsX12_first_wsX12_first_r2 (i := 19) rfl, (List.forall_mem_cons.mpr ⟨wrr_wsX12_first_wsX12_first_r2 (i := 20) rfl, (List.forall_mem_cons.mpr ⟨wrr_wsX12_first_wsX12_first_r2 (i := 21) rfl, (List.forall_mem_cons.mpr ⟨wrr_wsX12_first_wsX12_first_r2 (i := 22) rfl, (List.forall_mem_cons.mpr ⟨wrr_wsX12_first_wsX12_first_r2 (i := 23) rfl, (List.forall_mem_cons.mpr ⟨wrr_wsX12_first_wsX12_first_r3 (i := 0) rfl, (List.forall_mem_cons.mpr ⟨wrr_wsX12_first_wsX12_first_r3 (i := 1) rfl, (List.forall_mem_cons.mpr ⟨wrr_wsX12_first_wsX12_first_r3 (i := 2) rfl, (List.forall_mem_cons.mpr ⟨wrr_wsX12_first_wsX12_first_r3 (i := 3) rfl, (List.forall_mem_cons.mpr ⟨wrr_wsX12_first_wsX12_first_r3 (i := 4) rfl, (List.forall_mem_cons.mpr ⟨wrr_wsX12_first_wsX12_first_r3 (i := 5) rfl, (List.forall_mem_cons.mpr ⟨wrr_wsX12_first_wsX12_first_r3 (i := 6) rfl, (List.forall_mem_cons.mpr ⟨wrr_wsX12_first_wsX12_first_r3 (i := 7) rfl, (List.forall_mem_cons.mpr ⟨wrr_wsX12_first_wsX12_first_r3 (i := 8) rfl, (List.forall_mem_cons.mpr ⟨wrr_wsX12_first_wsX12_first_r1 (i := 8) rfl, (fun _ h => absurd h List.not_mem_nil)⟩)⟩)⟩)⟩)⟩)⟩)⟩)⟩)⟩)⟩)⟩)⟩)⟩)⟩)⟩)⟩)⟩)⟩)⟩)⟩)⟩)⟩)⟩)⟩), (List.forall_mem_cons.mpr ⟨wrr_wsX12_first_wsX12_first_r1 (i := 9) rfl, (List.forall_mem_cons.mpr ⟨wrr_wsX12_first_wsX12_first_r3 (i := 9) rfl, (List.forall_mem_cons.mpr ⟨wrr_wsX12_first_wsX12_first_r3 (i := 10) rfl, (List.forall_mem_cons.mpr ⟨wrr_wsX12_first_wsX12_first_r3 (i := 11) rfl, (List.forall_mem_cons.mpr ⟨wrr_wsX12_first_wsX12_first_r3 (i := 12) rfl, (fun _ h => absurd h List.not_mem_nil)⟩)⟩)⟩)⟩)⟩)⟩), wru_wsX12_first_wsX120⟩)⟩) gw_wsX12_laysFits
set_option maxRecDepth 20000 in
theorem gX12_first_X12_laysFits : GoodIn wsX12_first (wsV RX12 358 RX12 yX12_laysFits wsX12_laysFits) := goodIn_app (goodIn_sub (List.forall_mem_cons.mpr ⟨wrr_wsX12_first_wsX12_first_r2 (i := 8) rfl, (List.forall_mem_cons.mpr ⟨wrr_wsX12_first_wsX12_first_r2 (i := 9) rfl, (List.forall_mem_cons.mpr ⟨wrr_wsX12_first_wsX12_first_r2 (i := 10) rfl, (List.forall_mem_cons.mpr ⟨wrr_wsX12_first_wsX12_first_r1 (i := 5) rfl, (fun _ h => absurd h List.not_mem_nil)⟩)⟩)⟩)⟩) (by decide +kernel)) ggX12_first_X12_laysFits
theorem dX12_first_0 : decode cX12_first 0 = .ok (.aload_n 0, 1) := by decide +kernel
theorem dX12_first_1 : decode cX12_first 1 = .ok (.iconst 0, 1) := by decide +kernel
theorem dX12_first_2 : decode cX12_first 2 = .ok (.putfield 80, 3) := by decide +kernel
theorem dX12_first_5 : decode cX12_first 5 = .ok (.aload_n 0, 1) := by decide +kernel
theorem dX12_first_6 : decode cX12_first 6 = .ok (.iload_n 1, 1) := by decide +kernel
theorem dX12_first_7 : decode cX12_first 7 = .ok (.iload_n 2, 1) := by decide +kernel
theorem dX12_first_8 : decode cX12_first 8 = .ok (.invokevirtual 355, 3) := by decide +kernel
theorem dX12_first_11 : decode cX12_first 11 = .ok (.istore_n 3, 1) := by decide +kernel
theorem dX12_first_12 : decode cX12_first 12 = .ok (.iload_n 3, 1) := by decide +kernel
theorem dX12_first_13 : decode cX12_first 13 = .ok (.ifCond .eq 5, 3) := by decide +kernel
theorem dX12_first_16 : decode cX12_first 16 = .ok (.iload_n 3, 1) := by decide +kernel
theorem dX12_first_17 : decode cX12_first 17 = .ok (.ireturn, 1) := by decide +kernel
theorem dX12_first_18 : decode cX12_first 18 = .ok (.aload_n 0, 1) := by decide +kernel
theorem dX12_first_19 : decode cX12_first 19 = .ok (.iload_n 1, 1) := by decide +kernel
theorem dX12_first_20 : decode cX12_first 20 = .ok (.iload_n 2, 1) := by decide +kernel
theorem dX12_first_21 : decode cX12_first 21 = .ok (.invokevirtual 358, 3) := by decide +kernel
theorem dX12_first_24 : decode cX12_first 24 = .ok (.aload_n 0, 1) := by decide +kernel
theorem dX12_first_25 : decode cX12_first 25 = .ok (.getfield 346, 3) := by decide +kernel
theorem dX12_first_28 : decode cX12_first 28 = .ok (.ireturn, 1) := by decide +kernel
theorem wrr_wsX12_when {i : Nat} {w : Cond} (h : wsX12_when[i]? = some w) : w ∈ wsX12_when := List.mem_of_getElem? h
theorem wrr_wsX12_when_wsX12_when_r1 {i : Nat} {w : Cond} (h : wsX12_when_r1[i]? = some w) : w ∈ wsX12_when := (List.mem_cons_of_mem _ (List.mem_append_left _ (List.mem_append_left _ (List.mem_of_getElem? h))))
theorem wrr_wsX12_when_wsX12_when_r2 {i : Nat} {w : Cond} (h : wsX12_when_r2[i]? = some w) : w ∈ wsX12_when := (List.mem_cons_of_mem _ (List.mem_append_left _ (List.mem_append_right _ (List.mem_append_left _ (List.mem_of_getElem? h)))))
theorem wrr_wsX12_when_wsX12_when_r3 {i : Nat} {w : Cond} (h : wsX12_when_r3[i]? = some w) : w ∈ wsX12_when := (List.mem_cons_of_mem _ (List.mem_append_left _ (List.mem_append_right _ (List.mem_append_right _ (List.mem_of_getElem? h)))))
theorem wru_wsX12_when_wsX120 : ∀ w ∈ wsX120, w ∈ wsX12_when := fun w h => (List.mem_cons_of_mem _ (List.mem_append_right _ h))
set_option maxRecDepth 20000 in
theorem ggX12_when_X12_whyNot : GoodIn wsX12_when wsX12_whyNot := goodIn_sub (List.forall_mem_cons.mpr ⟨wrr_wsX12_when_wsX12_when_r1 (i := 6) rfl, (List.forall_mem_append.mpr ⟨(List.forall_mem_append.mpr ⟨(List.forall_mem_cons.mpr ⟨wrr_wsX12_when_wsX12_when_r1 (i := 7) rfl, (List.forall_mem_cons.mpr ⟨wrr_wsX12_when_wsX12_when_r1 (i := 8) rfl, (List.forall_mem_cons.mpr ⟨wrr_wsX12_when_wsX12_when_r1 (i := 9) rfl, (List.forall_mem_cons.mpr ⟨wrr_wsX12_when_wsX12_when_r1 (i := 10) rfl, (List.forall_mem_cons.mpr ⟨wrr_wsX12_when_wsX12_when_r1 (i := 11) rfl, (List.forall_mem_cons.mpr ⟨wrr_wsX12_when_wsX12_when_r1 (i := 12) rfl, (List.forall_mem_cons.mpr ⟨wrr_wsX12_when_wsX12_when_r1 (i := 13) rfl, (List.forall_mem_cons.mpr ⟨wrr_wsX12_when_wsX12_when_r1 (i := 5) rfl, (List.forall_mem_cons.mpr ⟨wrr_wsX12_when_wsX12_when_r1 (i := 14) rfl, (List.forall_mem_cons.mpr ⟨wrr_wsX12_when_wsX12_when_r1 (i := 15) rfl, (List.forall_mem_cons.mpr ⟨wrr_wsX12_when_wsX12_when_r1 (i := 16) rfl, (List.forall_mem_cons.mpr ⟨wrr_wsX12_when_wsX12_when_r1 (i := 17) rfl, (List.forall_mem_cons.mpr ⟨wrr_wsX12_when_wsX12_when_r1 (i := 18) rfl, (List.forall_mem_cons.mpr ⟨wrr_wsX12_when_wsX12_when_r1 (i := 19) rfl, (List.forall_mem_cons.mpr ⟨wrr_wsX12_when_wsX12_when_r1 (i := 20) rfl, (List.forall_mem_cons.mpr ⟨wrr_wsX12_when_wsX12_when_r1 (i := 21) rfl, (List.forall_mem_cons.mpr ⟨wrr_wsX12_when_wsX12_when_r1 (i := 22) rfl, (List.forall_mem_cons.mpr ⟨wrr_wsX12_when_wsX12_when_r1 (i := 23) rfl, (List.forall_mem_cons.mpr ⟨wrr_wsX12_when_wsX12_when_r2 (i := 0) rfl, (List.forall_mem_cons.mpr ⟨wrr_wsX12_when_wsX12_when_r2 (i := 1) rfl, (List.forall_mem_cons.mpr ⟨wrr_wsX12_when_wsX12_when_r2 (i := 2) rfl, (List.forall_mem_cons.mpr ⟨wrr_wsX12_when_wsX12_when_r2 (i := 3) rfl, (List.forall_mem_cons.mpr ⟨wrr_wsX12_when_wsX12_when_r2 (i := 4) rfl, (List.forall_mem_cons.mpr ⟨wrr_wsX12_when_wsX12_when_r2 (i := 5) rfl, (fun _ h => absurd h List.not_mem_nil)⟩)⟩)⟩)⟩)⟩)⟩)⟩)⟩)⟩)⟩)⟩)⟩)⟩)⟩)⟩)⟩)⟩)⟩)⟩)⟩)⟩)⟩)⟩)⟩), (List.forall_mem_cons.mpr ⟨wrr_wsX12_when_wsX12_when_r2 (i := 6) rfl, (List.forall_mem_cons.mpr ⟨wrr_wsX12_when_wsX12_when_r2 (i := 7) rfl, (fun _ h => absurd h List.not_mem_nil)⟩)⟩)⟩), wru_wsX12_when_wsX120⟩)⟩) gw_wsX12_whyNot
set_option maxRecDepth 20000 in
theorem gX12_when_X12_whyNot : GoodIn wsX12_when (wsV RX12 355 RX12 yX12_whyNot wsX12_whyNot) := goodIn_app (goodIn_sub (List.forall_mem_cons.mpr ⟨wrr_wsX12_when_wsX12_when_r1 (i := 2) rfl, (List.forall_mem_cons.mpr ⟨wrr_wsX12_when_wsX12_when_r1 (i := 3) rfl, (List.forall_mem_cons.mpr ⟨wrr_wsX12_when_wsX12_when_r1 (i := 4) rfl, (List.forall_mem_cons.mpr ⟨wrr_wsX12_when_wsX12_when_r1 (i := 5) rfl, (fun _ h => absurd h List.not_mem_nil)⟩)⟩)⟩)⟩) (by decide +kernel)) ggX12_when_X12_whyNot
set_option maxRecDepth 20000 in
theorem ggX12_when_X12_laysFits : GoodIn wsX12_when wsX12_laysFits := goodIn_sub (List.forall_mem_cons.mpr ⟨wrr_wsX12_when_wsX12_when_r2 (i := 11) rfl, (List.forall_mem_append.mpr ⟨(List.forall_mem_append.mpr ⟨(List.forall_mem_cons.mpr ⟨wrr_wsX12_when_wsX12_when_r2 (i := 12) rfl, (List.forall_mem_cons.mpr ⟨wrr_wsX12_when_wsX12_when_r2 (i := 13) rfl, (List.forall_mem_cons.mpr ⟨wrr_wsX12_when_wsX12_when_r1 (i := 1) rfl, (List.forall_mem_cons.mpr ⟨wrr_wsX12_when_wsX12_when_r2 (i := 14) rfl, (List.forall_mem_cons.mpr ⟨wrr_wsX12_when_wsX12_when_r2 (i := 15) rfl, (List.forall_mem_cons.mpr ⟨wrr_wsX12_when_wsX12_when_r2 (i := 16) rfl, (List.forall_mem_cons.mpr ⟨wrr_wsX12_when_wsX12_when_r2 (i := 17) rfl, (List.forall_mem_cons.mpr ⟨wrr_wsX12_when_wsX12_when_r1 (i := 5) rfl, (List.forall_mem_cons.mpr ⟨wrr_wsX12_when_wsX12_when_r2 (i := 18) rfl, (List.forall_mem_cons.mpr ⟨wrr_wsX12_when_wsX12_when_r2 (i := 19) rfl, (List.forall_mem_cons.mpr ⟨wrr_wsX12_when_wsX12_when_r2 (i := 20) rfl, (List.forall_mem_cons.mpr ⟨wrr_wsX12_when_wsX12_when_r2 (i := 21) rfl, (List.forall_mem_cons.mpr ⟨wrr_wsX12_when_wsX12_when_r2 (i := 22) rfl, (List.forall_mem_cons.mpr ⟨wrr_wsX12_when_wsX12_when_r2 (i := 23) rfl, (List.forall_mem_cons.mpr ⟨wrr_wsX12_when_wsX12_when_r3 (i := 0) rfl, (List.forall_mem_cons.mpr ⟨wrr_wsX12_when_wsX12_when_r3 (i := 1) rfl, (List.forall_mem_cons.mpr ⟨wrr_wsX12_when_wsX12_when_r3 (i := 2) rfl, (List.forall_mem_cons.mpr ⟨wrr_wsX12_when_wsX12_when_r3 (i := 3) rfl, (List.forall_mem_cons.mpr ⟨wrr_wsX12_when_wsX12_when_r3 (i := 4) rfl, (List.forall_mem_cons.mpr ⟨wrr_wsX12_when_wsX12_when_r3 (i := 5) rfl, (List.forall_mem_cons.mpr ⟨wrr_wsX12_when_wsX12_when_r3 (i := 6) rfl, (List.forall_mem_cons.mpr ⟨wrr_wsX12_when_wsX12_when_r3 (i := 7) rfl, (List.forall_mem_cons.mpr ⟨wrr_wsX12_when_wsX12_when_r3 (i := 8) rfl, (List.forall_mem_cons.mpr ⟨wrr_wsX12_when_wsX12_when_r1 (i := 8) rfl, (fun _ h => absurd h List.not_mem_nil)⟩)⟩)⟩)⟩)⟩)⟩)⟩)⟩)⟩)⟩)⟩)⟩)⟩)⟩)⟩)⟩)⟩)⟩)⟩)⟩)⟩)⟩)⟩)⟩), (List.forall_mem_cons.mpr ⟨wrr_wsX12_when_wsX12_when_r1 (i := 9) rfl, (List.forall_mem_cons.mpr ⟨wrr_wsX12_when_wsX12_when_r3 (i := 9) rfl, (List.forall_mem_cons.mpr ⟨wrr_wsX12_when_wsX12_when_r3 (i := 10) rfl, (List.forall_mem_cons.mpr ⟨wrr_wsX12_when_wsX12_when_r3 (i := 11) rfl, (List.forall_mem_cons.mpr ⟨wrr_wsX12_when_wsX12_when_r3 (i := 12) rfl, (fun _ h => absurd h List.not_mem_nil)⟩)⟩)⟩)⟩)⟩)⟩), wru_wsX12_when_wsX120⟩)⟩) gw_wsX12_laysFits
set_option maxRecDepth 20000 in
theorem gX12_when_X12_laysFits : GoodIn wsX12_when (wsV RX12 358 RX12 yX12_laysFits wsX12_laysFits) := goodIn_app (goodIn_sub (List.forall_mem_cons.mpr ⟨wrr_wsX12_when_wsX12_when_r2 (i := 8) rfl, (List.forall_mem_cons.mpr ⟨wrr_wsX12_when_wsX12_when_r2 (i := 9) rfl, (List.forall_mem_cons.mpr ⟨wrr_wsX12_when_wsX12_when_r2 (i := 10) rfl, (List.forall_mem_cons.mpr ⟨wrr_wsX12_when_wsX12_when_r1 (i := 5) rfl, (fun _ h => absurd h List.not_mem_nil)⟩)⟩)⟩)⟩) (by decide +kernel)) ggX12_when_X12_laysFits
theorem dX12_when_0 : decode cX12_when 0 = .ok (.aload_n 0, 1) := by decide +kernel
theorem dX12_when_1 : decode cX12_when 1 = .ok (.iconst 0, 1) := by decide +kernel
theorem dX12_when_2 : decode cX12_when 2 = .ok (.putfield 80, 3) := by decide +kernel
theorem dX12_when_5 : decode cX12_when 5 = .ok (.aload_n 0, 1) := by decide +kernel
theorem dX12_when_6 : decode cX12_when 6 = .ok (.iload_n 1, 1) := by decide +kernel
theorem dX12_when_7 : decode cX12_when 7 = .ok (.iload_n 2, 1) := by decide +kernel
theorem dX12_when_8 : decode cX12_when 8 = .ok (.invokevirtual 355, 3) := by decide +kernel
theorem dX12_when_11 : decode cX12_when 11 = .ok (.istore_n 3, 1) := by decide +kernel
theorem dX12_when_12 : decode cX12_when 12 = .ok (.iload_n 3, 1) := by decide +kernel
theorem dX12_when_13 : decode cX12_when 13 = .ok (.ifCond .eq 6, 3) := by decide +kernel
theorem dX12_when_16 : decode cX12_when 16 = .ok (.iload_n 3, 1) := by decide +kernel
theorem dX12_when_17 : decode cX12_when 17 = .ok (.i2l, 1) := by decide +kernel
theorem dX12_when_18 : decode cX12_when 18 = .ok (.lreturn, 1) := by decide +kernel
theorem dX12_when_19 : decode cX12_when 19 = .ok (.aload_n 0, 1) := by decide +kernel
theorem dX12_when_20 : decode cX12_when 20 = .ok (.iload_n 1, 1) := by decide +kernel
theorem dX12_when_21 : decode cX12_when 21 = .ok (.iload_n 2, 1) := by decide +kernel
theorem dX12_when_22 : decode cX12_when 22 = .ok (.invokevirtual 358, 3) := by decide +kernel
theorem dX12_when_25 : decode cX12_when 25 = .ok (.aload_n 0, 1) := by decide +kernel
theorem dX12_when_26 : decode cX12_when 26 = .ok (.getfield 349, 3) := by decide +kernel
theorem dX12_when_29 : decode cX12_when 29 = .ok (.lreturn, 1) := by decide +kernel
theorem wrr_wsX12_listens {i : Nat} {w : Cond} (h : wsX12_listens[i]? = some w) : w ∈ wsX12_listens := List.mem_of_getElem? h
theorem wrr_wsX12_listens_wsX12_listens_r1 {i : Nat} {w : Cond} (h : wsX12_listens_r1[i]? = some w) : w ∈ wsX12_listens := (List.mem_cons_of_mem _ (List.mem_append_left _ (List.mem_append_left _ (List.mem_of_getElem? h))))
theorem wrr_wsX12_listens_wsX12_listens_r2 {i : Nat} {w : Cond} (h : wsX12_listens_r2[i]? = some w) : w ∈ wsX12_listens := (List.mem_cons_of_mem _ (List.mem_append_left _ (List.mem_append_right _ (List.mem_of_getElem? h))))
theorem wru_wsX12_listens_wsX120 : ∀ w ∈ wsX120, w ∈ wsX12_listens := fun w h => (List.mem_cons_of_mem _ (List.mem_append_right _ h))
set_option maxRecDepth 20000 in
theorem ggX12_listens_X12_laysFits : GoodIn wsX12_listens wsX12_laysFits := goodIn_sub (List.forall_mem_cons.mpr ⟨wrr_wsX12_listens_wsX12_listens_r1 (i := 7) rfl, (List.forall_mem_append.mpr ⟨(List.forall_mem_append.mpr ⟨(List.forall_mem_cons.mpr ⟨wrr_wsX12_listens_wsX12_listens_r1 (i := 0) rfl, (List.forall_mem_cons.mpr ⟨wrr_wsX12_listens_wsX12_listens_r1 (i := 8) rfl, (List.forall_mem_cons.mpr ⟨wrr_wsX12_listens_wsX12_listens_r1 (i := 9) rfl, (List.forall_mem_cons.mpr ⟨wrr_wsX12_listens_wsX12_listens_r1 (i := 2) rfl, (List.forall_mem_cons.mpr ⟨wrr_wsX12_listens_wsX12_listens_r1 (i := 10) rfl, (List.forall_mem_cons.mpr ⟨wrr_wsX12_listens_wsX12_listens_r1 (i := 11) rfl, (List.forall_mem_cons.mpr ⟨wrr_wsX12_listens_wsX12_listens_r1 (i := 12) rfl, (List.forall_mem_cons.mpr ⟨wrr_wsX12_listens_wsX12_listens_r1 (i := 6) rfl, (List.forall_mem_cons.mpr ⟨wrr_wsX12_listens_wsX12_listens_r1 (i := 13) rfl, (List.forall_mem_cons.mpr ⟨wrr_wsX12_listens_wsX12_listens_r1 (i := 14) rfl, (List.forall_mem_cons.mpr ⟨wrr_wsX12_listens_wsX12_listens_r1 (i := 15) rfl, (List.forall_mem_cons.mpr ⟨wrr_wsX12_listens_wsX12_listens_r1 (i := 16) rfl, (List.forall_mem_cons.mpr ⟨wrr_wsX12_listens_wsX12_listens_r1 (i := 17) rfl, (List.forall_mem_cons.mpr ⟨wrr_wsX12_listens_wsX12_listens_r1 (i := 18) rfl, (List.forall_mem_cons.mpr ⟨wrr_wsX12_listens_wsX12_listens_r1 (i := 19) rfl, (List.forall_mem_cons.mpr ⟨wrr_wsX12_listens_wsX12_listens_r1 (i := 20) rfl, (List.forall_mem_cons.mpr ⟨wrr_wsX12_listens_wsX12_listens_r1 (i := 21) rfl, (List.forall_mem_cons.mpr ⟨wrr_wsX12_listens_wsX12_listens_r1 (i := 22) rfl, (List.forall_mem_cons.mpr ⟨wrr_wsX12_listens_wsX12_listens_r1 (i := 23) rfl, (List.forall_mem_cons.mpr ⟨wrr_wsX12_listens_wsX12_listens_r2 (i := 0) rfl, (List.forall_mem_cons.mpr ⟨wrr_wsX12_listens_wsX12_listens_r2 (i := 1) rfl, (List.forall_mem_cons.mpr ⟨wrr_wsX12_listens_wsX12_listens_r2 (i := 2) rfl, (List.forall_mem_cons.mpr ⟨wrr_wsX12_listens_wsX12_listens_r2 (i := 3) rfl, (List.forall_mem_cons.mpr ⟨wrr_wsX12_listens_wsX12_listens_r2 (i := 4) rfl, (fun _ h => absurd h List.not_mem_nil)⟩)⟩)⟩)⟩)⟩)⟩)⟩)⟩)⟩)⟩)⟩)⟩)⟩)⟩)⟩)⟩)⟩)⟩)⟩)⟩)⟩)⟩)⟩)⟩), (List.forall_mem_cons.mpr ⟨wrr_wsX12_listens_wsX12_listens_r2 (i := 5) rfl, (List.forall_mem_cons.mpr ⟨wrr_wsX12_listens_wsX12_listens_r2 (i := 6) rfl, (List.forall_mem_cons.mpr ⟨wrr_wsX12_listens_wsX12_listens_r2 (i := 7) rfl, (List.forall_mem_cons.mpr ⟨wrr_wsX12_listens_wsX12_listens_r2 (i := 8) rfl, (List.forall_mem_cons.mpr ⟨wrr_wsX12_listens_wsX12_listens_r2 (i := 9) rfl, (fun _ h => absurd h List.not_mem_nil)⟩)⟩)⟩)⟩)⟩)⟩), wru_wsX12_listens_wsX120⟩)⟩) gw_wsX12_laysFits
set_option maxRecDepth 20000 in
theorem gX12_listens_X12_laysFits : GoodIn wsX12_listens (wsV RX12 358 RX12 yX12_laysFits wsX12_laysFits) := goodIn_app (goodIn_sub (List.forall_mem_cons.mpr ⟨wrr_wsX12_listens_wsX12_listens_r1 (i := 3) rfl, (List.forall_mem_cons.mpr ⟨wrr_wsX12_listens_wsX12_listens_r1 (i := 4) rfl, (List.forall_mem_cons.mpr ⟨wrr_wsX12_listens_wsX12_listens_r1 (i := 5) rfl, (List.forall_mem_cons.mpr ⟨wrr_wsX12_listens_wsX12_listens_r1 (i := 6) rfl, (fun _ h => absurd h List.not_mem_nil)⟩)⟩)⟩)⟩) (by decide +kernel)) ggX12_listens_X12_laysFits
theorem dX12_listens_0 : decode cX12_listens 0 = .ok (.aload_n 0, 1) := by decide +kernel
theorem dX12_listens_1 : decode cX12_listens 1 = .ok (.iload_n 1, 1) := by decide +kernel
theorem dX12_listens_2 : decode cX12_listens 2 = .ok (.iload_n 2, 1) := by decide +kernel
theorem dX12_listens_3 : decode cX12_listens 3 = .ok (.invokevirtual 358, 3) := by decide +kernel
theorem dX12_listens_6 : decode cX12_listens 6 = .ok (.iconst (-1), 1) := by decide +kernel
theorem dX12_listens_7 : decode cX12_listens 7 = .ok (.istore_n 3, 1) := by decide +kernel
theorem dX12_listens_8 : decode cX12_listens 8 = .ok (.aload_n 0, 1) := by decide +kernel
theorem dX12_listens_9 : decode cX12_listens 9 = .ok (.aload_n 0, 1) := by decide +kernel
theorem dX12_listens_10 : decode cX12_listens 10 = .ok (.getfield 343, 3) := by decide +kernel
theorem dX12_listens_13 : decode cX12_listens 13 = .ok (.putfield 361, 3) := by decide +kernel
theorem dX12_listens_16 : decode cX12_listens 16 = .ok (.iconst 0, 1) := by decide +kernel
theorem dX12_listens_17 : decode cX12_listens 17 = .ok (.istore 4, 2) := by decide +kernel
theorem dX12_listens_19 : decode cX12_listens 19 = .ok (.iload 4, 2) := by decide +kernel
theorem dX12_listens_21 : decode cX12_listens 21 = .ok (.bipush 80, 2) := by decide +kernel
theorem dX12_listens_23 : decode cX12_listens 23 = .ok (.if_icmp .ge 87, 3) := by decide +kernel
theorem dX12_listens_26 : decode cX12_listens 26 = .ok (.iconst 0, 1) := by decide +kernel
theorem dX12_listens_27 : decode cX12_listens 27 = .ok (.istore 5, 2) := by decide +kernel
theorem dX12_listens_29 : decode cX12_listens 29 = .ok (.iconst 0, 1) := by decide +kernel
theorem dX12_listens_30 : decode cX12_listens 30 = .ok (.istore 6, 2) := by decide +kernel
theorem dX12_listens_32 : decode cX12_listens 32 = .ok (.iload 6, 2) := by decide +kernel
theorem dX12_listens_34 : decode cX12_listens 34 = .ok (.bipush 7, 2) := by decide +kernel
theorem dX12_listens_36 : decode cX12_listens 36 = .ok (.if_icmp .ge 47, 3) := by decide +kernel
theorem dX12_listens_39 : decode cX12_listens 39 = .ok (.aload_n 0, 1) := by decide +kernel
theorem dX12_listens_40 : decode cX12_listens 40 = .ok (.getfield 71, 3) := by decide +kernel
theorem dX12_listens_43 : decode cX12_listens 43 = .ok (.bipush 7, 2) := by decide +kernel
theorem dX12_listens_45 : decode cX12_listens 45 = .ok (.iload 4, 2) := by decide +kernel
theorem dX12_listens_47 : decode cX12_listens 47 = .ok (.imul, 1) := by decide +kernel
theorem dX12_listens_48 : decode cX12_listens 48 = .ok (.iload 6, 2) := by decide +kernel
theorem dX12_listens_50 : decode cX12_listens 50 = .ok (.iadd, 1) := by decide +kernel
theorem dX12_listens_51 : decode cX12_listens 51 = .ok (.iaload, 1) := by decide +kernel
theorem dX12_listens_52 : decode cX12_listens 52 = .ok (.iload 5, 2) := by decide +kernel
theorem dX12_listens_54 : decode cX12_listens 54 = .ok (.if_icmp .le 19, 3) := by decide +kernel
theorem dX12_listens_57 : decode cX12_listens 57 = .ok (.aload_n 0, 1) := by decide +kernel
theorem dX12_listens_58 : decode cX12_listens 58 = .ok (.getfield 71, 3) := by decide +kernel
theorem dX12_listens_61 : decode cX12_listens 61 = .ok (.bipush 7, 2) := by decide +kernel
theorem dX12_listens_63 : decode cX12_listens 63 = .ok (.iload 4, 2) := by decide +kernel
theorem dX12_listens_65 : decode cX12_listens 65 = .ok (.imul, 1) := by decide +kernel
theorem dX12_listens_66 : decode cX12_listens 66 = .ok (.iload 6, 2) := by decide +kernel
theorem dX12_listens_68 : decode cX12_listens 68 = .ok (.iadd, 1) := by decide +kernel
theorem dX12_listens_69 : decode cX12_listens 69 = .ok (.iaload, 1) := by decide +kernel
theorem dX12_listens_70 : decode cX12_listens 70 = .ok (.goto 5, 3) := by decide +kernel
theorem dX12_listens_73 : decode cX12_listens 73 = .ok (.iload 5, 2) := by decide +kernel
theorem dX12_listens_75 : decode cX12_listens 75 = .ok (.istore 5, 2) := by decide +kernel
theorem dX12_listens_77 : decode cX12_listens 77 = .ok (.iinc 6 1, 3) := by decide +kernel
theorem dX12_listens_80 : decode cX12_listens 80 = .ok (.goto (-48), 3) := by decide +kernel
theorem dX12_listens_83 : decode cX12_listens 83 = .ok (.iload 5, 2) := by decide +kernel
theorem dX12_listens_85 : decode cX12_listens 85 = .ok (.aload_n 0, 1) := by decide +kernel
theorem dX12_listens_86 : decode cX12_listens 86 = .ok (.getfield 361, 3) := by decide +kernel
theorem dX12_listens_89 : decode cX12_listens 89 = .ok (.if_icmp .lt 6, 3) := by decide +kernel
theorem dX12_listens_92 : decode cX12_listens 92 = .ok (.goto 12, 3) := by decide +kernel
theorem dX12_listens_95 : decode cX12_listens 95 = .ok (.iload 4, 2) := by decide +kernel
theorem dX12_listens_97 : decode cX12_listens 97 = .ok (.istore_n 3, 1) := by decide +kernel
theorem dX12_listens_98 : decode cX12_listens 98 = .ok (.aload_n 0, 1) := by decide +kernel
theorem dX12_listens_99 : decode cX12_listens 99 = .ok (.iload 5, 2) := by decide +kernel
theorem dX12_listens_101 : decode cX12_listens 101 = .ok (.putfield 361, 3) := by decide +kernel
theorem dX12_listens_104 : decode cX12_listens 104 = .ok (.iinc 4 1, 3) := by decide +kernel
theorem dX12_listens_107 : decode cX12_listens 107 = .ok (.goto (-88), 3) := by decide +kernel
theorem dX12_listens_110 : decode cX12_listens 110 = .ok (.iload_n 3, 1) := by decide +kernel
theorem dX12_listens_111 : decode cX12_listens 111 = .ok (.ireturn, 1) := by decide +kernel
theorem wrr_wsX12_listen {i : Nat} {w : Cond} (h : wsX12_listen[i]? = some w) : w ∈ wsX12_listen := List.mem_of_getElem? h
theorem wrr_wsX12_listen_wsX12_listen_r1 {i : Nat} {w : Cond} (h : wsX12_listen_r1[i]? = some w) : w ∈ wsX12_listen := (List.mem_cons_of_mem _ (List.mem_append_left _ (List.mem_append_left _ (List.mem_of_getElem? h))))
theorem wrr_wsX12_listen_wsX12_listen_r2 {i : Nat} {w : Cond} (h : wsX12_listen_r2[i]? = some w) : w ∈ wsX12_listen := (List.mem_cons_of_mem _ (List.mem_append_left _ (List.mem_append_right _ (List.mem_append_left _ (List.mem_of_getElem? h)))))
theorem wrr_wsX12_listen_wsX12_listen_r3 {i : Nat} {w : Cond} (h : wsX12_listen_r3[i]? = some w) : w ∈ wsX12_listen := (List.mem_cons_of_mem _ (List.mem_append_left _ (List.mem_append_right _ (List.mem_append_right _ (List.mem_of_getElem? h)))))
theorem wru_wsX12_listen_wsX120 : ∀ w ∈ wsX120, w ∈ wsX12_listen := fun w h => (List.mem_cons_of_mem _ (List.mem_append_right _ h))
set_option maxRecDepth 20000 in
theorem ggX12_listen_X12_whyNot : GoodIn wsX12_listen wsX12_whyNot := goodIn_sub (List.forall_mem_cons.mpr ⟨wrr_wsX12_listen_wsX12_listen_r1 (i := 5) rfl, (List.forall_mem_append.mpr ⟨(List.forall_mem_append.mpr ⟨(List.forall_mem_cons.mpr ⟨wrr_wsX12_listen_wsX12_listen_r1 (i := 6) rfl, (List.forall_mem_cons.mpr ⟨wrr_wsX12_listen_wsX12_listen_r1 (i := 7) rfl, (List.forall_mem_cons.mpr ⟨wrr_wsX12_listen_wsX12_listen_r1 (i := 8) rfl, (List.forall_mem_cons.mpr ⟨wrr_wsX12_listen_wsX12_listen_r1 (i := 9) rfl, (List.forall_mem_cons.mpr ⟨wrr_wsX12_listen_wsX12_listen_r1 (i := 10) rfl, (List.forall_mem_cons.mpr ⟨wrr_wsX12_listen_wsX12_listen_r1 (i := 11) rfl, (List.forall_mem_cons.mpr ⟨wrr_wsX12_listen_wsX12_listen_r1 (i := 12) rfl, (List.forall_mem_cons.mpr ⟨wrr_wsX12_listen_wsX12_listen_r1 (i := 4) rfl, (List.forall_mem_cons.mpr ⟨wrr_wsX12_listen_wsX12_listen_r1 (i := 13) rfl, (List.forall_mem_cons.mpr ⟨wrr_wsX12_listen_wsX12_listen_r1 (i := 14) rfl, (List.forall_mem_cons.mpr ⟨wrr_wsX12_listen_wsX12_listen_r1 (i := 15) rfl, (List.forall_mem_cons.mpr ⟨wrr_wsX12_listen_wsX12_listen_r1 (i := 16) rfl, (List.forall_mem_cons.mpr ⟨wrr_wsX12_listen_wsX12_listen_r1 (i := 17) rfl, (List.forall_mem_cons.mpr ⟨wrr_wsX12_listen_wsX12_listen_r1 (i := 18) rfl, (List.forall_mem_cons.mpr ⟨wrr_wsX12_listen_wsX12_listen_r1 (i := 19) rfl, (List.forall_mem_cons.mpr ⟨wrr_wsX12_listen_wsX12_listen_r1 (i := 20) rfl, (List.forall_mem_cons.mpr ⟨wrr_wsX12_listen_wsX12_listen_r1 (i := 21) rfl, (List.forall_mem_cons.mpr ⟨wrr_wsX12_listen_wsX12_listen_r1 (i := 22) rfl, (List.forall_mem_cons.mpr ⟨wrr_wsX12_listen_wsX12_listen_r1 (i := 23) rfl, (List.forall_mem_cons.mpr ⟨wrr_wsX12_listen_wsX12_listen_r2 (i := 0) rfl, (List.forall_mem_cons.mpr ⟨wrr_wsX12_listen_wsX12_listen_r2 (i := 1) rfl, (List.forall_mem_cons.mpr ⟨wrr_wsX12_listen_wsX12_listen_r2 (i := 2) rfl, (List.forall_mem_cons.mpr ⟨wrr_wsX12_listen_wsX12_listen_r2 (i := 3) rfl, (List.forall_mem_cons.mpr ⟨wrr_wsX12_listen_wsX12_listen_r2 (i := 4) rfl, (fun _ h => absurd h List.not_mem_nil)⟩)⟩)⟩)⟩)⟩)⟩)⟩)⟩)⟩)⟩)⟩)⟩)⟩)⟩)⟩)⟩)⟩)⟩)⟩)⟩)⟩)⟩)⟩)⟩), (List.forall_mem_cons.mpr ⟨wrr_wsX12_listen_wsX12_listen_r2 (i := 5) rfl, (List.forall_mem_cons.mpr ⟨wrr_wsX12_listen_wsX12_listen_r2 (i := 6) rfl, (fun _ h => absurd h List.not_mem_nil)⟩)⟩)⟩), wru_wsX12_listen_wsX120⟩)⟩) gw_wsX12_whyNot
set_option maxRecDepth 20000 in
theorem gX12_listen_X12_whyNot : GoodIn wsX12_listen (wsV RX12 355 RX12 yX12_whyNot wsX12_whyNot) := goodIn_app (goodIn_sub (List.forall_mem_cons.mpr ⟨wrr_wsX12_listen_wsX12_listen_r1 (i := 1) rfl, (List.forall_mem_cons.mpr ⟨wrr_wsX12_listen_wsX12_listen_r1 (i := 2) rfl, (List.forall_mem_cons.mpr ⟨wrr_wsX12_listen_wsX12_listen_r1 (i := 3) rfl, (List.forall_mem_cons.mpr ⟨wrr_wsX12_listen_wsX12_listen_r1 (i := 4) rfl, (fun _ h => absurd h List.not_mem_nil)⟩)⟩)⟩)⟩) (by decide +kernel)) ggX12_listen_X12_whyNot
set_option maxRecDepth 20000 in
theorem gw_wsX12_listens : wsX12_listens.all goodWord = true := by decide +kernel
set_option maxRecDepth 20000 in
theorem ggX12_listen_X12_listens : GoodIn wsX12_listen wsX12_listens := goodIn_sub (List.forall_mem_cons.mpr ⟨wrr_wsX12_listen_wsX12_listen_r2 (i := 10) rfl, (List.forall_mem_append.mpr ⟨(List.forall_mem_append.mpr ⟨(List.forall_mem_cons.mpr ⟨wrr_wsX12_listen_wsX12_listen_r2 (i := 11) rfl, (List.forall_mem_cons.mpr ⟨wrr_wsX12_listen_wsX12_listen_r2 (i := 12) rfl, (List.forall_mem_cons.mpr ⟨wrr_wsX12_listen_wsX12_listen_r2 (i := 13) rfl, (List.forall_mem_cons.mpr ⟨wrr_wsX12_listen_wsX12_listen_r2 (i := 14) rfl, (List.forall_mem_cons.mpr ⟨wrr_wsX12_listen_wsX12_listen_r2 (i := 15) rfl, (List.forall_mem_cons.mpr ⟨wrr_wsX12_listen_wsX12_listen_r2 (i := 16) rfl, (List.forall_mem_cons.mpr ⟨wrr_wsX12_listen_wsX12_listen_r1 (i := 4) rfl, (List.forall_mem_cons.mpr ⟨wrr_wsX12_listen_wsX12_listen_r2 (i := 17) rfl, (List.forall_mem_cons.mpr ⟨wrr_wsX12_listen_wsX12_listen_r2 (i := 18) rfl, (List.forall_mem_cons.mpr ⟨wrr_wsX12_listen_wsX12_listen_r2 (i := 19) rfl, (List.forall_mem_cons.mpr ⟨wrr_wsX12_listen_wsX12_listen_r2 (i := 20) rfl, (List.forall_mem_cons.mpr ⟨wrr_wsX12_listen_wsX12_listen_r2 (i := 21) rfl, (List.forall_mem_cons.mpr ⟨wrr_wsX12_listen_wsX12_listen_r2 (i := 22) rfl, (List.forall_mem_cons.mpr ⟨wrr_wsX12_listen_wsX12_listen_r2 (i := 23) rfl, (List.forall_mem_cons.mpr ⟨wrr_wsX12_listen_wsX12_listen_r3 (i := 0) rfl, (List.forall_mem_cons.mpr ⟨wrr_wsX12_listen_wsX12_listen_r3 (i := 1) rfl, (List.forall_mem_cons.mpr ⟨wrr_wsX12_listen_wsX12_listen_r3 (i := 2) rfl, (List.forall_mem_cons.mpr ⟨wrr_wsX12_listen_wsX12_listen_r3 (i := 3) rfl, (List.forall_mem_cons.mpr ⟨wrr_wsX12_listen_wsX12_listen_r3 (i := 4) rfl, (List.forall_mem_cons.mpr ⟨wrr_wsX12_listen_wsX12_listen_r3 (i := 5) rfl, (List.forall_mem_cons.mpr ⟨wrr_wsX12_listen_wsX12_listen_r3 (i := 6) rfl, (List.forall_mem_cons.mpr ⟨wrr_wsX12_listen_wsX12_listen_r3 (i := 7) rfl, (List.forall_mem_cons.mpr ⟨wrr_wsX12_listen_wsX12_listen_r3 (i := 8) rfl, (List.forall_mem_cons.mpr ⟨wrr_wsX12_listen_wsX12_listen_r3 (i := 9) rfl, (fun _ h => absurd h List.not_mem_nil)⟩)⟩)⟩)⟩)⟩)⟩)⟩)⟩)⟩)⟩)⟩)⟩)⟩)⟩)⟩)⟩)⟩)⟩)⟩)⟩)⟩)⟩)⟩)⟩), (List.forall_mem_cons.mpr ⟨wrr_wsX12_listen_wsX12_listen_r3 (i := 10) rfl, (List.forall_mem_cons.mpr ⟨wrr_wsX12_listen_wsX12_listen_r3 (i := 11) rfl, (List.forall_mem_cons.mpr ⟨wrr_wsX12_listen_wsX12_listen_r3 (i := 12) rfl, (List.forall_mem_cons.mpr ⟨wrr_wsX12_listen_wsX12_listen_r3 (i := 13) rfl, (List.forall_mem_cons.mpr ⟨wrr_wsX12_listen_wsX12_listen_r1 (i := 7) rfl, (List.forall_mem_cons.mpr ⟨wrr_wsX12_listen_wsX12_listen_r1 (i := 8) rfl, (List.forall_mem_cons.mpr ⟨wrr_wsX12_listen_wsX12_listen_r3 (i := 14) rfl, (List.forall_mem_cons.mpr ⟨wrr_wsX12_listen_wsX12_listen_r3 (i := 15) rfl, (List.forall_mem_cons.mpr ⟨wrr_wsX12_listen_wsX12_listen_r3 (i := 16) rfl, (List.forall_mem_cons.mpr ⟨wrr_wsX12_listen_wsX12_listen_r3 (i := 17) rfl, (fun _ h => absurd h List.not_mem_nil)⟩)⟩)⟩)⟩)⟩)⟩)⟩)⟩)⟩)⟩)⟩), wru_wsX12_listen_wsX120⟩)⟩) gw_wsX12_listens
set_option maxRecDepth 20000 in
theorem gX12_listen_X12_listens : GoodIn wsX12_listen (wsV RX12 364 RX12 yX12_listens wsX12_listens) := goodIn_app (goodIn_sub (List.forall_mem_cons.mpr ⟨wrr_wsX12_listen_wsX12_listen_r2 (i := 7) rfl, (List.forall_mem_cons.mpr ⟨wrr_wsX12_listen_wsX12_listen_r2 (i := 8) rfl, (List.forall_mem_cons.mpr ⟨wrr_wsX12_listen_wsX12_listen_r2 (i := 9) rfl, (List.forall_mem_cons.mpr ⟨wrr_wsX12_listen_wsX12_listen_r1 (i := 4) rfl, (fun _ h => absurd h List.not_mem_nil)⟩)⟩)⟩)⟩) (by decide +kernel)) ggX12_listen_X12_listens
theorem dX12_listen_0 : decode cX12_listen 0 = .ok (.aload_n 0, 1) := by decide +kernel
theorem dX12_listen_1 : decode cX12_listen 1 = .ok (.iconst 0, 1) := by decide +kernel
theorem dX12_listen_2 : decode cX12_listen 2 = .ok (.putfield 80, 3) := by decide +kernel
theorem dX12_listen_5 : decode cX12_listen 5 = .ok (.aload_n 0, 1) := by decide +kernel
theorem dX12_listen_6 : decode cX12_listen 6 = .ok (.iload_n 1, 1) := by decide +kernel
theorem dX12_listen_7 : decode cX12_listen 7 = .ok (.iload_n 2, 1) := by decide +kernel
theorem dX12_listen_8 : decode cX12_listen 8 = .ok (.invokevirtual 355, 3) := by decide +kernel
theorem dX12_listen_11 : decode cX12_listen 11 = .ok (.istore_n 3, 1) := by decide +kernel
theorem dX12_listen_12 : decode cX12_listen 12 = .ok (.iload_n 3, 1) := by decide +kernel
theorem dX12_listen_13 : decode cX12_listen 13 = .ok (.ifCond .eq 7, 3) := by decide +kernel
theorem dX12_listen_16 : decode cX12_listen 16 = .ok (.iload_n 3, 1) := by decide +kernel
theorem dX12_listen_17 : decode cX12_listen 17 = .ok (.goto 9, 3) := by decide +kernel
theorem dX12_listen_20 : decode cX12_listen 20 = .ok (.aload_n 0, 1) := by decide +kernel
theorem dX12_listen_21 : decode cX12_listen 21 = .ok (.iload_n 1, 1) := by decide +kernel
theorem dX12_listen_22 : decode cX12_listen 22 = .ok (.iload_n 2, 1) := by decide +kernel
theorem dX12_listen_23 : decode cX12_listen 23 = .ok (.invokevirtual 364, 3) := by decide +kernel
theorem dX12_listen_26 : decode cX12_listen 26 = .ok (.ireturn, 1) := by decide +kernel
theorem wrr_wsX12_leaves {i : Nat} {w : Cond} (h : wsX12_leaves[i]? = some w) : w ∈ wsX12_leaves := List.mem_of_getElem? h
theorem wrr_wsX12_leaves_wsX12_leaves_r1 {i : Nat} {w : Cond} (h : wsX12_leaves_r1[i]? = some w) : w ∈ wsX12_leaves := (List.mem_cons_of_mem _ (List.mem_append_left _ (List.mem_append_left _ (List.mem_of_getElem? h))))
theorem wrr_wsX12_leaves_wsX12_leaves_r2 {i : Nat} {w : Cond} (h : wsX12_leaves_r2[i]? = some w) : w ∈ wsX12_leaves := (List.mem_cons_of_mem _ (List.mem_append_left _ (List.mem_append_right _ (List.mem_append_left _ (List.mem_of_getElem? h)))))
theorem wrr_wsX12_leaves_wsX12_leaves_r3 {i : Nat} {w : Cond} (h : wsX12_leaves_r3[i]? = some w) : w ∈ wsX12_leaves := (List.mem_cons_of_mem _ (List.mem_append_left _ (List.mem_append_right _ (List.mem_append_right _ (List.mem_of_getElem? h)))))
theorem wru_wsX12_leaves_wsX120 : ∀ w ∈ wsX120, w ∈ wsX12_leaves := fun w h => (List.mem_cons_of_mem _ (List.mem_append_right _ h))
set_option maxRecDepth 20000 in
theorem ggX12_leaves_X12_whyNot : GoodIn wsX12_leaves wsX12_whyNot := goodIn_sub (List.forall_mem_cons.mpr ⟨wrr_wsX12_leaves_wsX12_leaves_r1 (i := 6) rfl, (List.forall_mem_append.mpr ⟨(List.forall_mem_append.mpr ⟨(List.forall_mem_cons.mpr ⟨wrr_wsX12_leaves_wsX12_leaves_r1 (i := 7) rfl, (List.forall_mem_cons.mpr ⟨wrr_wsX12_leaves_wsX12_leaves_r1 (i := 8) rfl, (List.forall_mem_cons.mpr ⟨wrr_wsX12_leaves_wsX12_leaves_r1 (i := 9) rfl, (List.forall_mem_cons.mpr ⟨wrr_wsX12_leaves_wsX12_leaves_r1 (i := 10) rfl, (List.forall_mem_cons.mpr ⟨wrr_wsX12_leaves_wsX12_leaves_r1 (i := 11) rfl, (List.forall_mem_cons.mpr ⟨wrr_wsX12_leaves_wsX12_leaves_r1 (i := 12) rfl, (List.forall_mem_cons.mpr ⟨wrr_wsX12_leaves_wsX12_leaves_r1 (i := 13) rfl, (List.forall_mem_cons.mpr ⟨wrr_wsX12_leaves_wsX12_leaves_r1 (i := 5) rfl, (List.forall_mem_cons.mpr ⟨wrr_wsX12_leaves_wsX12_leaves_r1 (i := 14) rfl, (List.forall_mem_cons.mpr ⟨wrr_wsX12_leaves_wsX12_leaves_r1 (i := 15) rfl, (List.forall_mem_cons.mpr ⟨wrr_wsX12_leaves_wsX12_leaves_r1 (i := 16) rfl, (List.forall_mem_cons.mpr ⟨wrr_wsX12_leaves_wsX12_leaves_r1 (i := 17) rfl, (List.forall_mem_cons.mpr ⟨wrr_wsX12_leaves_wsX12_leaves_r1 (i := 18) rfl, (List.forall_mem_cons.mpr ⟨wrr_wsX12_leaves_wsX12_leaves_r1 (i := 19) rfl, (List.forall_mem_cons.mpr ⟨wrr_wsX12_leaves_wsX12_leaves_r1 (i := 20) rfl, (List.forall_mem_cons.mpr ⟨wrr_wsX12_leaves_wsX12_leaves_r1 (i := 21) rfl, (List.forall_mem_cons.mpr ⟨wrr_wsX12_leaves_wsX12_leaves_r1 (i := 22) rfl, (List.forall_mem_cons.mpr ⟨wrr_wsX12_leaves_wsX12_leaves_r1 (i := 23) rfl, (List.forall_mem_cons.mpr ⟨wrr_wsX12_leaves_wsX12_leaves_r2 (i := 0) rfl, (List.forall_mem_cons.mpr ⟨wrr_wsX12_leaves_wsX12_leaves_r2 (i := 1) rfl, (List.forall_mem_cons.mpr ⟨wrr_wsX12_leaves_wsX12_leaves_r2 (i := 2) rfl, (List.forall_mem_cons.mpr ⟨wrr_wsX12_leaves_wsX12_leaves_r2 (i := 3) rfl, (List.forall_mem_cons.mpr ⟨wrr_wsX12_leaves_wsX12_leaves_r2 (i := 4) rfl, (List.forall_mem_cons.mpr ⟨wrr_wsX12_leaves_wsX12_leaves_r2 (i := 5) rfl, (fun _ h => absurd h List.not_mem_nil)⟩)⟩)⟩)⟩)⟩)⟩)⟩)⟩)⟩)⟩)⟩)⟩)⟩)⟩)⟩)⟩)⟩)⟩)⟩)⟩)⟩)⟩)⟩)⟩), (List.forall_mem_cons.mpr ⟨wrr_wsX12_leaves_wsX12_leaves_r2 (i := 6) rfl, (List.forall_mem_cons.mpr ⟨wrr_wsX12_leaves_wsX12_leaves_r2 (i := 7) rfl, (fun _ h => absurd h List.not_mem_nil)⟩)⟩)⟩), wru_wsX12_leaves_wsX120⟩)⟩) gw_wsX12_whyNot
set_option maxRecDepth 20000 in
theorem gX12_leaves_X12_whyNot : GoodIn wsX12_leaves (wsV RX12 355 RX12 yX12_whyNot wsX12_whyNot) := goodIn_app (goodIn_sub (List.forall_mem_cons.mpr ⟨wrr_wsX12_leaves_wsX12_leaves_r1 (i := 2) rfl, (List.forall_mem_cons.mpr ⟨wrr_wsX12_leaves_wsX12_leaves_r1 (i := 3) rfl, (List.forall_mem_cons.mpr ⟨wrr_wsX12_leaves_wsX12_leaves_r1 (i := 4) rfl, (List.forall_mem_cons.mpr ⟨wrr_wsX12_leaves_wsX12_leaves_r1 (i := 5) rfl, (fun _ h => absurd h List.not_mem_nil)⟩)⟩)⟩)⟩) (by decide +kernel)) ggX12_leaves_X12_whyNot
set_option maxRecDepth 20000 in
theorem ggX12_leaves_X12_listens : GoodIn wsX12_leaves wsX12_listens := goodIn_sub (List.forall_mem_cons.mpr ⟨wrr_wsX12_leaves_wsX12_leaves_r2 (i := 11) rfl, (List.forall_mem_append.mpr ⟨(List.forall_mem_append.mpr ⟨(List.forall_mem_cons.mpr ⟨wrr_wsX12_leaves_wsX12_leaves_r2 (i := 12) rfl, (List.forall_mem_cons.mpr ⟨wrr_wsX12_leaves_wsX12_leaves_r1 (i := 1) rfl, (List.forall_mem_cons.mpr ⟨wrr_wsX12_leaves_wsX12_leaves_r2 (i := 13) rfl, (List.forall_mem_cons.mpr ⟨wrr_wsX12_leaves_wsX12_leaves_r2 (i := 14) rfl, (List.forall_mem_cons.mpr ⟨wrr_wsX12_leaves_wsX12_leaves_r2 (i := 15) rfl, (List.forall_mem_cons.mpr ⟨wrr_wsX12_leaves_wsX12_leaves_r2 (i := 16) rfl, (List.forall_mem_cons.mpr ⟨wrr_wsX12_leaves_wsX12_leaves_r1 (i := 5) rfl, (List.forall_mem_cons.mpr ⟨wrr_wsX12_leaves_wsX12_leaves_r2 (i := 17) rfl, (List.forall_mem_cons.mpr ⟨wrr_wsX12_leaves_wsX12_leaves_r2 (i := 18) rfl, (List.forall_mem_cons.mpr ⟨wrr_wsX12_leaves_wsX12_leaves_r2 (i := 19) rfl, (List.forall_mem_cons.mpr ⟨wrr_wsX12_leaves_wsX12_leaves_r2 (i := 20) rfl, (List.forall_mem_cons.mpr ⟨wrr_wsX12_leaves_wsX12_leaves_r2 (i := 21) rfl, (List.forall_mem_cons.mpr ⟨wrr_wsX12_leaves_wsX12_leaves_r2 (i := 22) rfl, (List.forall_mem_cons.mpr ⟨wrr_wsX12_leaves_wsX12_leaves_r2 (i := 23) rfl, (List.forall_mem_cons.mpr ⟨wrr_wsX12_leaves_wsX12_leaves_r3 (i := 0) rfl, (List.forall_mem_cons.mpr ⟨wrr_wsX12_leaves_wsX12_leaves_r3 (i := 1) rfl, (List.forall_mem_cons.mpr ⟨wrr_wsX12_leaves_wsX12_leaves_r3 (i := 2) rfl, (List.forall_mem_cons.mpr ⟨wrr_wsX12_leaves_wsX12_leaves_r3 (i := 3) rfl, (List.forall_mem_cons.mpr ⟨wrr_wsX12_leaves_wsX12_leaves_r3 (i := 4) rfl, (List.forall_mem_cons.mpr ⟨wrr_wsX12_leaves_wsX12_leaves_r3 (i := 5) rfl, (List.forall_mem_cons.mpr ⟨wrr_wsX12_leaves_wsX12_leaves_r3 (i := 6) rfl, (List.forall_mem_cons.mpr ⟨wrr_wsX12_leaves_wsX12_leaves_r3 (i := 7) rfl, (List.forall_mem_cons.mpr ⟨wrr_wsX12_leaves_wsX12_leaves_r3 (i := 8) rfl, (List.forall_mem_cons.mpr ⟨wrr_wsX12_leaves_wsX12_leaves_r3 (i := 9) rfl, (fun _ h => absurd h List.not_mem_nil)⟩)⟩)⟩)⟩)⟩)⟩)⟩)⟩)⟩)⟩)⟩)⟩)⟩)⟩)⟩)⟩)⟩)⟩)⟩)⟩)⟩)⟩)⟩)⟩), (List.forall_mem_cons.mpr ⟨wrr_wsX12_leaves_wsX12_leaves_r3 (i := 10) rfl, (List.forall_mem_cons.mpr ⟨wrr_wsX12_leaves_wsX12_leaves_r3 (i := 11) rfl, (List.forall_mem_cons.mpr ⟨wrr_wsX12_leaves_wsX12_leaves_r3 (i := 12) rfl, (List.forall_mem_cons.mpr ⟨wrr_wsX12_leaves_wsX12_leaves_r3 (i := 13) rfl, (List.forall_mem_cons.mpr ⟨wrr_wsX12_leaves_wsX12_leaves_r1 (i := 8) rfl, (List.forall_mem_cons.mpr ⟨wrr_wsX12_leaves_wsX12_leaves_r1 (i := 9) rfl, (List.forall_mem_cons.mpr ⟨wrr_wsX12_leaves_wsX12_leaves_r3 (i := 14) rfl, (List.forall_mem_cons.mpr ⟨wrr_wsX12_leaves_wsX12_leaves_r3 (i := 15) rfl, (List.forall_mem_cons.mpr ⟨wrr_wsX12_leaves_wsX12_leaves_r3 (i := 16) rfl, (List.forall_mem_cons.mpr ⟨wrr_wsX12_leaves_wsX12_leaves_r3 (i := 17) rfl, (fun _ h => absurd h List.not_mem_nil)⟩)⟩)⟩)⟩)⟩)⟩)⟩)⟩)⟩)⟩)⟩), wru_wsX12_leaves_wsX120⟩)⟩) gw_wsX12_listens
set_option maxRecDepth 20000 in
theorem gX12_leaves_X12_listens : GoodIn wsX12_leaves (wsV RX12 364 RX12 yX12_listens wsX12_listens) := goodIn_app (goodIn_sub (List.forall_mem_cons.mpr ⟨wrr_wsX12_leaves_wsX12_leaves_r2 (i := 8) rfl, (List.forall_mem_cons.mpr ⟨wrr_wsX12_leaves_wsX12_leaves_r2 (i := 9) rfl, (List.forall_mem_cons.mpr ⟨wrr_wsX12_leaves_wsX12_leaves_r2 (i := 10) rfl, (List.forall_mem_cons.mpr ⟨wrr_wsX12_leaves_wsX12_leaves_r1 (i := 5) rfl, (fun _ h => absurd h List.not_mem_nil)⟩)⟩)⟩)⟩) (by decide +kernel)) ggX12_leaves_X12_listens
theorem dX12_leaves_0 : decode cX12_leaves 0 = .ok (.aload_n 0, 1) := by decide +kernel
theorem dX12_leaves_1 : decode cX12_leaves 1 = .ok (.iconst 0, 1) := by decide +kernel
theorem dX12_leaves_2 : decode cX12_leaves 2 = .ok (.putfield 80, 3) := by decide +kernel
theorem dX12_leaves_5 : decode cX12_leaves 5 = .ok (.aload_n 0, 1) := by decide +kernel
theorem dX12_leaves_6 : decode cX12_leaves 6 = .ok (.iload_n 1, 1) := by decide +kernel
theorem dX12_leaves_7 : decode cX12_leaves 7 = .ok (.iload_n 2, 1) := by decide +kernel
theorem dX12_leaves_8 : decode cX12_leaves 8 = .ok (.invokevirtual 355, 3) := by decide +kernel
theorem dX12_leaves_11 : decode cX12_leaves 11 = .ok (.istore_n 3, 1) := by decide +kernel
theorem dX12_leaves_12 : decode cX12_leaves 12 = .ok (.iload_n 3, 1) := by decide +kernel
theorem dX12_leaves_13 : decode cX12_leaves 13 = .ok (.ifCond .eq 5, 3) := by decide +kernel
theorem dX12_leaves_16 : decode cX12_leaves 16 = .ok (.iload_n 3, 1) := by decide +kernel
theorem dX12_leaves_17 : decode cX12_leaves 17 = .ok (.ireturn, 1) := by decide +kernel
theorem dX12_leaves_18 : decode cX12_leaves 18 = .ok (.aload_n 0, 1) := by decide +kernel
theorem dX12_leaves_19 : decode cX12_leaves 19 = .ok (.iload_n 1, 1) := by decide +kernel
theorem dX12_leaves_20 : decode cX12_leaves 20 = .ok (.iload_n 2, 1) := by decide +kernel
theorem dX12_leaves_21 : decode cX12_leaves 21 = .ok (.invokevirtual 364, 3) := by decide +kernel
theorem dX12_leaves_24 : decode cX12_leaves 24 = .ok (.pop, 1) := by decide +kernel
theorem dX12_leaves_25 : decode cX12_leaves 25 = .ok (.aload_n 0, 1) := by decide +kernel
theorem dX12_leaves_26 : decode cX12_leaves 26 = .ok (.getfield 361, 3) := by decide +kernel
theorem dX12_leaves_29 : decode cX12_leaves 29 = .ok (.ireturn, 1) := by decide +kernel
theorem dX12_walks_0 : decode cX12_walks 0 = .ok (.iload_n 2, 1) := by decide +kernel
theorem dX12_walks_1 : decode cX12_walks 1 = .ok (.istore_n 3, 1) := by decide +kernel
theorem dX12_walks_2 : decode cX12_walks 2 = .ok (.iconst 0, 1) := by decide +kernel
theorem dX12_walks_3 : decode cX12_walks 3 = .ok (.istore 4, 2) := by decide +kernel
theorem dX12_walks_5 : decode cX12_walks 5 = .ok (.iload 4, 2) := by decide +kernel
theorem dX12_walks_7 : decode cX12_walks 7 = .ok (.aload_n 0, 1) := by decide +kernel
theorem dX12_walks_8 : decode cX12_walks 8 = .ok (.getfield 34, 3) := by decide +kernel
theorem dX12_walks_11 : decode cX12_walks 11 = .ok (.bipush 8, 2) := by decide +kernel
theorem dX12_walks_13 : decode cX12_walks 13 = .ok (.iaload, 1) := by decide +kernel
theorem dX12_walks_14 : decode cX12_walks 14 = .ok (.if_icmp .ge 79, 3) := by decide +kernel
theorem dX12_walks_17 : decode cX12_walks 17 = .ok (.iload_n 1, 1) := by decide +kernel
theorem dX12_walks_18 : decode cX12_walks 18 = .ok (.ifCond .ne 8, 3) := by decide +kernel
theorem dX12_walks_21 : decode cX12_walks 21 = .ok (.iload 4, 2) := by decide +kernel
theorem dX12_walks_23 : decode cX12_walks 23 = .ok (.goto 15, 3) := by decide +kernel
theorem dX12_walks_26 : decode cX12_walks 26 = .ok (.aload_n 0, 1) := by decide +kernel
theorem dX12_walks_27 : decode cX12_walks 27 = .ok (.getfield 34, 3) := by decide +kernel
theorem dX12_walks_30 : decode cX12_walks 30 = .ok (.bipush 8, 2) := by decide +kernel
theorem dX12_walks_32 : decode cX12_walks 32 = .ok (.iaload, 1) := by decide +kernel
theorem dX12_walks_33 : decode cX12_walks 33 = .ok (.iconst 1, 1) := by decide +kernel
theorem dX12_walks_34 : decode cX12_walks 34 = .ok (.isub, 1) := by decide +kernel
theorem dX12_walks_35 : decode cX12_walks 35 = .ok (.iload 4, 2) := by decide +kernel
theorem dX12_walks_37 : decode cX12_walks 37 = .ok (.isub, 1) := by decide +kernel
theorem dX12_walks_38 : decode cX12_walks 38 = .ok (.istore 5, 2) := by decide +kernel
theorem dX12_walks_40 : decode cX12_walks 40 = .ok (.iload_n 3, 1) := by decide +kernel
theorem dX12_walks_41 : decode cX12_walks 41 = .ok (.aload_n 0, 1) := by decide +kernel
theorem dX12_walks_42 : decode cX12_walks 42 = .ok (.getfield 50, 3) := by decide +kernel
theorem dX12_walks_45 : decode cX12_walks 45 = .ok (.iconst 2, 1) := by decide +kernel
theorem dX12_walks_46 : decode cX12_walks 46 = .ok (.iload 5, 2) := by decide +kernel
theorem dX12_walks_48 : decode cX12_walks 48 = .ok (.imul, 1) := by decide +kernel
theorem dX12_walks_49 : decode cX12_walks 49 = .ok (.iaload, 1) := by decide +kernel
theorem dX12_walks_50 : decode cX12_walks 50 = .ok (.irem, 1) := by decide +kernel
theorem dX12_walks_51 : decode cX12_walks 51 = .ok (.aload_n 0, 1) := by decide +kernel
theorem dX12_walks_52 : decode cX12_walks 52 = .ok (.getfield 50, 3) := by decide +kernel
theorem dX12_walks_55 : decode cX12_walks 55 = .ok (.iconst 2, 1) := by decide +kernel
theorem dX12_walks_56 : decode cX12_walks 56 = .ok (.iload 5, 2) := by decide +kernel
theorem dX12_walks_58 : decode cX12_walks 58 = .ok (.imul, 1) := by decide +kernel
theorem dX12_walks_59 : decode cX12_walks 59 = .ok (.iconst 1, 1) := by decide +kernel
theorem dX12_walks_60 : decode cX12_walks 60 = .ok (.iadd, 1) := by decide +kernel
theorem dX12_walks_61 : decode cX12_walks 61 = .ok (.iaload, 1) := by decide +kernel
theorem dX12_walks_62 : decode cX12_walks 62 = .ok (.if_icmp .eq 9, 3) := by decide +kernel
theorem dX12_walks_65 : decode cX12_walks 65 = .ok (.iinc 3 1, 3) := by decide +kernel
theorem dX12_walks_68 : decode cX12_walks 68 = .ok (.goto (-28), 3) := by decide +kernel
theorem dX12_walks_71 : decode cX12_walks 71 = .ok (.iinc 3 1, 3) := by decide +kernel
theorem dX12_walks_74 : decode cX12_walks 74 = .ok (.aload_n 0, 1) := by decide +kernel
theorem dX12_walks_75 : decode cX12_walks 75 = .ok (.getfield 74, 3) := by decide +kernel
theorem dX12_walks_78 : decode cX12_walks 78 = .ok (.bipush 12, 2) := by decide +kernel
theorem dX12_walks_80 : decode cX12_walks 80 = .ok (.iload_n 1, 1) := by decide +kernel
theorem dX12_walks_81 : decode cX12_walks 81 = .ok (.imul, 1) := by decide +kernel
theorem dX12_walks_82 : decode cX12_walks 82 = .ok (.iload 5, 2) := by decide +kernel
theorem dX12_walks_84 : decode cX12_walks 84 = .ok (.iadd, 1) := by decide +kernel
theorem dX12_walks_85 : decode cX12_walks 85 = .ok (.iload_n 3, 1) := by decide +kernel
theorem dX12_walks_86 : decode cX12_walks 86 = .ok (.iastore, 1) := by decide +kernel
theorem dX12_walks_87 : decode cX12_walks 87 = .ok (.iinc 4 1, 3) := by decide +kernel
theorem dX12_walks_90 : decode cX12_walks 90 = .ok (.goto (-85), 3) := by decide +kernel
theorem dX12_walks_93 : decode cX12_walks 93 = .ok (.iload_n 3, 1) := by decide +kernel
theorem dX12_walks_94 : decode cX12_walks 94 = .ok (.iconst 1, 1) := by decide +kernel
theorem dX12_walks_95 : decode cX12_walks 95 = .ok (.iadd, 1) := by decide +kernel
theorem dX12_walks_96 : decode cX12_walks 96 = .ok (.ireturn, 1) := by decide +kernel
theorem wrr_wsX12_crosses {i : Nat} {w : Cond} (h : wsX12_crosses[i]? = some w) : w ∈ wsX12_crosses := List.mem_of_getElem? h
theorem wru_wsX12_crosses_wsX120 : ∀ w ∈ wsX120, w ∈ wsX12_crosses := fun w h => (List.mem_cons_of_mem _ (List.mem_append_right _ h))
set_option maxRecDepth 20000 in
theorem ggX12_crosses_X12_isDance : GoodIn wsX12_crosses wsX12_isDance := goodIn_sub (List.forall_mem_cons.mpr ⟨wrr_wsX12_crosses (i := 6) rfl, (List.forall_mem_append.mpr ⟨(List.forall_mem_cons.mpr ⟨wrr_wsX12_crosses (i := 7) rfl, (fun _ h => absurd h List.not_mem_nil)⟩), wru_wsX12_crosses_wsX120⟩)⟩) gw_wsX12_isDance
set_option maxRecDepth 20000 in
theorem gX12_crosses_X12_isDance : GoodIn wsX12_crosses (wsV RX12 254 RX12 yX12_isDance wsX12_isDance) := goodIn_app (goodIn_sub (List.forall_mem_cons.mpr ⟨wrr_wsX12_crosses (i := 2) rfl, (List.forall_mem_cons.mpr ⟨wrr_wsX12_crosses (i := 3) rfl, (List.forall_mem_cons.mpr ⟨wrr_wsX12_crosses (i := 4) rfl, (List.forall_mem_cons.mpr ⟨wrr_wsX12_crosses (i := 5) rfl, (fun _ h => absurd h List.not_mem_nil)⟩)⟩)⟩)⟩) (by decide +kernel)) ggX12_crosses_X12_isDance
set_option maxRecDepth 20000 in
theorem ggX12_crosses_X12_isBeat : GoodIn wsX12_crosses wsX12_isBeat := goodIn_sub (List.forall_mem_cons.mpr ⟨wrr_wsX12_crosses (i := 10) rfl, (List.forall_mem_cons.mpr ⟨wrr_wsX12_crosses (i := 11) rfl, (List.forall_mem_cons.mpr ⟨wrr_wsX12_crosses (i := 12) rfl, (List.forall_mem_cons.mpr ⟨wrr_wsX12_crosses (i := 13) rfl, (List.forall_mem_cons.mpr ⟨wrr_wsX12_crosses (i := 5) rfl, (List.forall_mem_cons.mpr ⟨wrr_wsX12_crosses (i := 14) rfl, (fun _ h => absurd h List.not_mem_nil)⟩)⟩)⟩)⟩)⟩)⟩) gw_wsX12_isBeat
set_option maxRecDepth 20000 in
theorem gX12_crosses_X12_isBeat : GoodIn wsX12_crosses (va_wsS RX12 270 yX12_isBeat wsX12_isBeat) := goodIn_app (goodIn_sub (List.forall_mem_cons.mpr ⟨wrr_wsX12_crosses (i := 8) rfl, (List.forall_mem_cons.mpr ⟨wrr_wsX12_crosses (i := 9) rfl, (List.forall_mem_cons.mpr ⟨wrr_wsX12_crosses (i := 5) rfl, (fun _ h => absurd h List.not_mem_nil)⟩)⟩)⟩) (by decide +kernel)) ggX12_crosses_X12_isBeat
set_option maxRecDepth 20000 in
theorem gw_wsX12_walks : wsX12_walks.all goodWord = true := by decide +kernel
set_option maxRecDepth 20000 in
theorem ggX12_crosses_X12_walks : GoodIn wsX12_crosses wsX12_walks := goodIn_sub (List.forall_mem_cons.mpr ⟨wrr_wsX12_crosses (i := 18) rfl, (List.forall_mem_append.mpr ⟨(List.forall_mem_cons.mpr ⟨wrr_wsX12_crosses (i := 19) rfl, (List.forall_mem_cons.mpr ⟨wrr_wsX12_crosses (i := 20) rfl, (List.forall_mem_cons.mpr ⟨wrr_wsX12_crosses (i := 21) rfl, (fun _ h => absurd h List.not_mem_nil)⟩)⟩)⟩), wru_wsX12_crosses_wsX120⟩)⟩) gw_wsX12_walks
set_option maxRecDepth 20000 in
theorem gX12_crosses_X12_walks : GoodIn wsX12_crosses (wsV RX12 367 RX12 yX12_walks wsX12_walks) := goodIn_app (goodIn_sub (List.forall_mem_cons.mpr ⟨wrr_wsX12_crosses (i := 15) rfl, (List.forall_mem_cons.mpr ⟨wrr_wsX12_crosses (i := 16) rfl, (List.forall_mem_cons.mpr ⟨wrr_wsX12_crosses (i := 17) rfl, (List.forall_mem_cons.mpr ⟨wrr_wsX12_crosses (i := 5) rfl, (fun _ h => absurd h List.not_mem_nil)⟩)⟩)⟩)⟩) (by decide +kernel)) ggX12_crosses_X12_walks
set_option maxRecDepth 20000 in
theorem gw_wsX12_known : wsX12_known.all goodWord = true := by decide +kernel
set_option maxRecDepth 20000 in
theorem ggX12_crosses_X12_known : GoodIn wsX12_crosses wsX12_known := goodIn_sub (List.forall_mem_cons.mpr ⟨wrr_wsX12_crosses (i := 24) rfl, (fun _ h => absurd h List.not_mem_nil)⟩) gw_wsX12_known
set_option maxRecDepth 20000 in
theorem gX12_crosses_X12_known : GoodIn wsX12_crosses (va_wsS RX12 370 yX12_known wsX12_known) := goodIn_app (goodIn_sub (List.forall_mem_cons.mpr ⟨wrr_wsX12_crosses (i := 22) rfl, (List.forall_mem_cons.mpr ⟨wrr_wsX12_crosses (i := 23) rfl, (List.forall_mem_cons.mpr ⟨wrr_wsX12_crosses (i := 5) rfl, (fun _ h => absurd h List.not_mem_nil)⟩)⟩)⟩) (by decide +kernel)) ggX12_crosses_X12_known
theorem dX12_crosses_0 : decode cX12_crosses 0 = .ok (.aload_n 0, 1) := by decide +kernel
theorem dX12_crosses_1 : decode cX12_crosses 1 = .ok (.iconst 0, 1) := by decide +kernel
theorem dX12_crosses_2 : decode cX12_crosses 2 = .ok (.putfield 80, 3) := by decide +kernel
theorem dX12_crosses_5 : decode cX12_crosses 5 = .ok (.aload_n 0, 1) := by decide +kernel
theorem dX12_crosses_6 : decode cX12_crosses 6 = .ok (.invokevirtual 254, 3) := by decide +kernel
theorem dX12_crosses_9 : decode cX12_crosses 9 = .ok (.ifCond .eq 23, 3) := by decide +kernel
theorem dX12_crosses_12 : decode cX12_crosses 12 = .ok (.iload_n 1, 1) := by decide +kernel
theorem dX12_crosses_13 : decode cX12_crosses 13 = .ok (.i2l, 1) := by decide +kernel
theorem dX12_crosses_14 : decode cX12_crosses 14 = .ok (.invokestatic 270, 3) := by decide +kernel
theorem dX12_crosses_17 : decode cX12_crosses 17 = .ok (.ifCond .eq 15, 3) := by decide +kernel
theorem dX12_crosses_20 : decode cX12_crosses 20 = .ok (.aload_n 0, 1) := by decide +kernel
theorem dX12_crosses_21 : decode cX12_crosses 21 = .ok (.iconst 0, 1) := by decide +kernel
theorem dX12_crosses_22 : decode cX12_crosses 22 = .ok (.iload_n 1, 1) := by decide +kernel
theorem dX12_crosses_23 : decode cX12_crosses 23 = .ok (.invokevirtual 367, 3) := by decide +kernel
theorem dX12_crosses_26 : decode cX12_crosses 26 = .ok (.invokestatic 370, 3) := by decide +kernel
theorem dX12_crosses_29 : decode cX12_crosses 29 = .ok (.goto 5, 3) := by decide +kernel
theorem dX12_crosses_32 : decode cX12_crosses 32 = .ok (.bipush (-2), 2) := by decide +kernel
theorem dX12_crosses_34 : decode cX12_crosses 34 = .ok (.ireturn, 1) := by decide +kernel
theorem wrr_wsX12_returns {i : Nat} {w : Cond} (h : wsX12_returns[i]? = some w) : w ∈ wsX12_returns := List.mem_of_getElem? h
theorem wru_wsX12_returns_wsX120 : ∀ w ∈ wsX120, w ∈ wsX12_returns := fun w h => (List.mem_cons_of_mem _ (List.mem_append_right _ h))
set_option maxRecDepth 20000 in
theorem ggX12_returns_X12_isDance : GoodIn wsX12_returns wsX12_isDance := goodIn_sub (List.forall_mem_cons.mpr ⟨wrr_wsX12_returns (i := 6) rfl, (List.forall_mem_append.mpr ⟨(List.forall_mem_cons.mpr ⟨wrr_wsX12_returns (i := 7) rfl, (fun _ h => absurd h List.not_mem_nil)⟩), wru_wsX12_returns_wsX120⟩)⟩) gw_wsX12_isDance
set_option maxRecDepth 20000 in
theorem gX12_returns_X12_isDance : GoodIn wsX12_returns (wsV RX12 254 RX12 yX12_isDance wsX12_isDance) := goodIn_app (goodIn_sub (List.forall_mem_cons.mpr ⟨wrr_wsX12_returns (i := 2) rfl, (List.forall_mem_cons.mpr ⟨wrr_wsX12_returns (i := 3) rfl, (List.forall_mem_cons.mpr ⟨wrr_wsX12_returns (i := 4) rfl, (List.forall_mem_cons.mpr ⟨wrr_wsX12_returns (i := 5) rfl, (fun _ h => absurd h List.not_mem_nil)⟩)⟩)⟩)⟩) (by decide +kernel)) ggX12_returns_X12_isDance
set_option maxRecDepth 20000 in
theorem ggX12_returns_X12_isBeat : GoodIn wsX12_returns wsX12_isBeat := goodIn_sub (List.forall_mem_cons.mpr ⟨wrr_wsX12_returns (i := 10) rfl, (List.forall_mem_cons.mpr ⟨wrr_wsX12_returns (i := 11) rfl, (List.forall_mem_cons.mpr ⟨wrr_wsX12_returns (i := 12) rfl, (List.forall_mem_cons.mpr ⟨wrr_wsX12_returns (i := 13) rfl, (List.forall_mem_cons.mpr ⟨wrr_wsX12_returns (i := 5) rfl, (List.forall_mem_cons.mpr ⟨wrr_wsX12_returns (i := 14) rfl, (fun _ h => absurd h List.not_mem_nil)⟩)⟩)⟩)⟩)⟩)⟩) gw_wsX12_isBeat
set_option maxRecDepth 20000 in
theorem gX12_returns_X12_isBeat : GoodIn wsX12_returns (va_wsS RX12 270 yX12_isBeat wsX12_isBeat) := goodIn_app (goodIn_sub (List.forall_mem_cons.mpr ⟨wrr_wsX12_returns (i := 8) rfl, (List.forall_mem_cons.mpr ⟨wrr_wsX12_returns (i := 9) rfl, (List.forall_mem_cons.mpr ⟨wrr_wsX12_returns (i := 5) rfl, (fun _ h => absurd h List.not_mem_nil)⟩)⟩)⟩) (by decide +kernel)) ggX12_returns_X12_isBeat
set_option maxRecDepth 20000 in
theorem ggX12_returns_X12_walks : GoodIn wsX12_returns wsX12_walks := goodIn_sub (List.forall_mem_cons.mpr ⟨wrr_wsX12_returns (i := 18) rfl, (List.forall_mem_append.mpr ⟨(List.forall_mem_cons.mpr ⟨wrr_wsX12_returns (i := 19) rfl, (List.forall_mem_cons.mpr ⟨wrr_wsX12_returns (i := 20) rfl, (List.forall_mem_cons.mpr ⟨wrr_wsX12_returns (i := 21) rfl, (fun _ h => absurd h List.not_mem_nil)⟩)⟩)⟩), wru_wsX12_returns_wsX120⟩)⟩) gw_wsX12_walks
set_option maxRecDepth 20000 in
theorem gX12_returns_X12_walks : GoodIn wsX12_returns (wsV RX12 367 RX12 yX12_walks wsX12_walks) := goodIn_app (goodIn_sub (List.forall_mem_cons.mpr ⟨wrr_wsX12_returns (i := 15) rfl, (List.forall_mem_cons.mpr ⟨wrr_wsX12_returns (i := 16) rfl, (List.forall_mem_cons.mpr ⟨wrr_wsX12_returns (i := 17) rfl, (List.forall_mem_cons.mpr ⟨wrr_wsX12_returns (i := 5) rfl, (fun _ h => absurd h List.not_mem_nil)⟩)⟩)⟩)⟩) (by decide +kernel)) ggX12_returns_X12_walks
set_option maxRecDepth 20000 in
theorem ggX12_returns_X12_known : GoodIn wsX12_returns wsX12_known := goodIn_sub (List.forall_mem_cons.mpr ⟨wrr_wsX12_returns (i := 24) rfl, (fun _ h => absurd h List.not_mem_nil)⟩) gw_wsX12_known
set_option maxRecDepth 20000 in
theorem gX12_returns_X12_known : GoodIn wsX12_returns (va_wsS RX12 370 yX12_known wsX12_known) := goodIn_app (goodIn_sub (List.forall_mem_cons.mpr ⟨wrr_wsX12_returns (i := 22) rfl, (List.forall_mem_cons.mpr ⟨wrr_wsX12_returns (i := 23) rfl, (List.forall_mem_cons.mpr ⟨wrr_wsX12_returns (i := 5) rfl, (fun _ h => absurd h List.not_mem_nil)⟩)⟩)⟩) (by decide +kernel)) ggX12_returns_X12_known
theorem dX12_returns_0 : decode cX12_returns 0 = .ok (.aload_n 0, 1) := by decide +kernel
theorem dX12_returns_1 : decode cX12_returns 1 = .ok (.iconst 0, 1) := by decide +kernel
theorem dX12_returns_2 : decode cX12_returns 2 = .ok (.putfield 80, 3) := by decide +kernel
theorem dX12_returns_5 : decode cX12_returns 5 = .ok (.aload_n 0, 1) := by decide +kernel
theorem dX12_returns_6 : decode cX12_returns 6 = .ok (.invokevirtual 254, 3) := by decide +kernel
theorem dX12_returns_9 : decode cX12_returns 9 = .ok (.ifCond .eq 23, 3) := by decide +kernel
theorem dX12_returns_12 : decode cX12_returns 12 = .ok (.iload_n 1, 1) := by decide +kernel
theorem dX12_returns_13 : decode cX12_returns 13 = .ok (.i2l, 1) := by decide +kernel
theorem dX12_returns_14 : decode cX12_returns 14 = .ok (.invokestatic 270, 3) := by decide +kernel
theorem dX12_returns_17 : decode cX12_returns 17 = .ok (.ifCond .eq 15, 3) := by decide +kernel
theorem dX12_returns_20 : decode cX12_returns 20 = .ok (.aload_n 0, 1) := by decide +kernel
theorem dX12_returns_21 : decode cX12_returns 21 = .ok (.iconst 1, 1) := by decide +kernel
theorem dX12_returns_22 : decode cX12_returns 22 = .ok (.iload_n 1, 1) := by decide +kernel
theorem dX12_returns_23 : decode cX12_returns 23 = .ok (.invokevirtual 367, 3) := by decide +kernel
theorem dX12_returns_26 : decode cX12_returns 26 = .ok (.invokestatic 370, 3) := by decide +kernel
theorem dX12_returns_29 : decode cX12_returns 29 = .ok (.goto 5, 3) := by decide +kernel
theorem dX12_returns_32 : decode cX12_returns 32 = .ok (.bipush (-2), 2) := by decide +kernel
theorem dX12_returns_34 : decode cX12_returns 34 = .ok (.ireturn, 1) := by decide +kernel
theorem wrr_wsX12_laysMeet {i : Nat} {w : Cond} (h : wsX12_laysMeet[i]? = some w) : w ∈ wsX12_laysMeet := List.mem_of_getElem? h
theorem wru_wsX12_laysMeet_wsX120 : ∀ w ∈ wsX120, w ∈ wsX12_laysMeet := fun w h => (List.mem_cons_of_mem _ (List.mem_append_right _ h))
set_option maxRecDepth 20000 in
theorem ggX12_laysMeet_X12_walks : GoodIn wsX12_laysMeet wsX12_walks := goodIn_sub (List.forall_mem_cons.mpr ⟨wrr_wsX12_laysMeet (i := 10) rfl, (List.forall_mem_append.mpr ⟨(List.forall_mem_cons.mpr ⟨wrr_wsX12_laysMeet (i := 4) rfl, (List.forall_mem_cons.mpr ⟨wrr_wsX12_laysMeet (i := 11) rfl, (List.forall_mem_cons.mpr ⟨wrr_wsX12_laysMeet (i := 5) rfl, (fun _ h => absurd h List.not_mem_nil)⟩)⟩)⟩), wru_wsX12_laysMeet_wsX120⟩)⟩) gw_wsX12_walks
set_option maxRecDepth 20000 in
theorem gX12_laysMeet_X12_walks : GoodIn wsX12_laysMeet (wsV RX12 367 RX12 yX12_walks wsX12_walks) := goodIn_app (goodIn_sub (List.forall_mem_cons.mpr ⟨wrr_wsX12_laysMeet (i := 6) rfl, (List.forall_mem_cons.mpr ⟨wrr_wsX12_laysMeet (i := 7) rfl, (List.forall_mem_cons.mpr ⟨wrr_wsX12_laysMeet (i := 8) rfl, (List.forall_mem_cons.mpr ⟨wrr_wsX12_laysMeet (i := 9) rfl, (fun _ h => absurd h List.not_mem_nil)⟩)⟩)⟩)⟩) (by decide +kernel)) ggX12_laysMeet_X12_walks
theorem dX12_laysMeet_0 : decode cX12_laysMeet 0 = .ok (.aload_n 0, 1) := by decide +kernel
theorem dX12_laysMeet_1 : decode cX12_laysMeet 1 = .ok (.iconst 0, 1) := by decide +kernel
theorem dX12_laysMeet_2 : decode cX12_laysMeet 2 = .ok (.iload_n 1, 1) := by decide +kernel
theorem dX12_laysMeet_3 : decode cX12_laysMeet 3 = .ok (.invokevirtual 367, 3) := by decide +kernel
theorem dX12_laysMeet_6 : decode cX12_laysMeet 6 = .ok (.pop, 1) := by decide +kernel
theorem dX12_laysMeet_7 : decode cX12_laysMeet 7 = .ok (.aload_n 0, 1) := by decide +kernel
theorem dX12_laysMeet_8 : decode cX12_laysMeet 8 = .ok (.iconst 1, 1) := by decide +kernel
theorem dX12_laysMeet_9 : decode cX12_laysMeet 9 = .ok (.iload_n 2, 1) := by decide +kernel
theorem dX12_laysMeet_10 : decode cX12_laysMeet 10 = .ok (.invokevirtual 367, 3) := by decide +kernel
theorem dX12_laysMeet_13 : decode cX12_laysMeet 13 = .ok (.pop, 1) := by decide +kernel
theorem dX12_laysMeet_14 : decode cX12_laysMeet 14 = .ok (.aload_n 0, 1) := by decide +kernel
theorem dX12_laysMeet_15 : decode cX12_laysMeet 15 = .ok (.ldc 131, 2) := by decide +kernel
theorem dX12_laysMeet_17 : decode cX12_laysMeet 17 = .ok (.putfield 373, 3) := by decide +kernel
theorem dX12_laysMeet_20 : decode cX12_laysMeet 20 = .ok (.aload_n 0, 1) := by decide +kernel
theorem dX12_laysMeet_21 : decode cX12_laysMeet 21 = .ok (.iconst (-1), 1) := by decide +kernel
theorem dX12_laysMeet_22 : decode cX12_laysMeet 22 = .ok (.putfield 376, 3) := by decide +kernel
theorem dX12_laysMeet_25 : decode cX12_laysMeet 25 = .ok (.iconst 0, 1) := by decide +kernel
theorem dX12_laysMeet_26 : decode cX12_laysMeet 26 = .ok (.istore_n 3, 1) := by decide +kernel
theorem dX12_laysMeet_27 : decode cX12_laysMeet 27 = .ok (.iload_n 3, 1) := by decide +kernel
theorem dX12_laysMeet_28 : decode cX12_laysMeet 28 = .ok (.aload_n 0, 1) := by decide +kernel
theorem dX12_laysMeet_29 : decode cX12_laysMeet 29 = .ok (.getfield 34, 3) := by decide +kernel
theorem dX12_laysMeet_32 : decode cX12_laysMeet 32 = .ok (.bipush 8, 2) := by decide +kernel
theorem dX12_laysMeet_34 : decode cX12_laysMeet 34 = .ok (.iaload, 1) := by decide +kernel
theorem dX12_laysMeet_35 : decode cX12_laysMeet 35 = .ok (.if_icmp .ge 70, 3) := by decide +kernel
theorem dX12_laysMeet_38 : decode cX12_laysMeet 38 = .ok (.aload_n 0, 1) := by decide +kernel
theorem dX12_laysMeet_39 : decode cX12_laysMeet 39 = .ok (.getfield 74, 3) := by decide +kernel
theorem dX12_laysMeet_42 : decode cX12_laysMeet 42 = .ok (.iload_n 3, 1) := by decide +kernel
theorem dX12_laysMeet_43 : decode cX12_laysMeet 43 = .ok (.iaload, 1) := by decide +kernel
theorem dX12_laysMeet_44 : decode cX12_laysMeet 44 = .ok (.aload_n 0, 1) := by decide +kernel
theorem dX12_laysMeet_45 : decode cX12_laysMeet 45 = .ok (.getfield 74, 3) := by decide +kernel
theorem dX12_laysMeet_48 : decode cX12_laysMeet 48 = .ok (.bipush 12, 2) := by decide +kernel
theorem dX12_laysMeet_50 : decode cX12_laysMeet 50 = .ok (.iload_n 3, 1) := by decide +kernel
theorem dX12_laysMeet_51 : decode cX12_laysMeet 51 = .ok (.iadd, 1) := by decide +kernel
theorem dX12_laysMeet_52 : decode cX12_laysMeet 52 = .ok (.iaload, 1) := by decide +kernel
theorem dX12_laysMeet_53 : decode cX12_laysMeet 53 = .ok (.if_icmp .le 12, 3) := by decide +kernel
theorem dX12_laysMeet_56 : decode cX12_laysMeet 56 = .ok (.aload_n 0, 1) := by decide +kernel
theorem dX12_laysMeet_57 : decode cX12_laysMeet 57 = .ok (.getfield 74, 3) := by decide +kernel
theorem dX12_laysMeet_60 : decode cX12_laysMeet 60 = .ok (.iload_n 3, 1) := by decide +kernel
theorem dX12_laysMeet_61 : decode cX12_laysMeet 61 = .ok (.iaload, 1) := by decide +kernel
theorem dX12_laysMeet_62 : decode cX12_laysMeet 62 = .ok (.goto 12, 3) := by decide +kernel
theorem dX12_laysMeet_65 : decode cX12_laysMeet 65 = .ok (.aload_n 0, 1) := by decide +kernel
theorem dX12_laysMeet_66 : decode cX12_laysMeet 66 = .ok (.getfield 74, 3) := by decide +kernel
theorem dX12_laysMeet_69 : decode cX12_laysMeet 69 = .ok (.bipush 12, 2) := by decide +kernel
theorem dX12_laysMeet_71 : decode cX12_laysMeet 71 = .ok (.iload_n 3, 1) := by decide +kernel
theorem dX12_laysMeet_72 : decode cX12_laysMeet 72 = .ok (.iadd, 1) := by decide +kernel
theorem dX12_laysMeet_73 : decode cX12_laysMeet 73 = .ok (.iaload, 1) := by decide +kernel
theorem dX12_laysMeet_74 : decode cX12_laysMeet 74 = .ok (.istore 4, 2) := by decide +kernel
theorem dX12_laysMeet_76 : decode cX12_laysMeet 76 = .ok (.iload 4, 2) := by decide +kernel
theorem dX12_laysMeet_78 : decode cX12_laysMeet 78 = .ok (.aload_n 0, 1) := by decide +kernel
theorem dX12_laysMeet_79 : decode cX12_laysMeet 79 = .ok (.getfield 373, 3) := by decide +kernel
theorem dX12_laysMeet_82 : decode cX12_laysMeet 82 = .ok (.if_icmp .lt 6, 3) := by decide +kernel
theorem dX12_laysMeet_85 : decode cX12_laysMeet 85 = .ok (.goto 14, 3) := by decide +kernel
theorem dX12_laysMeet_88 : decode cX12_laysMeet 88 = .ok (.aload_n 0, 1) := by decide +kernel
theorem dX12_laysMeet_89 : decode cX12_laysMeet 89 = .ok (.iload 4, 2) := by decide +kernel
theorem dX12_laysMeet_91 : decode cX12_laysMeet 91 = .ok (.putfield 373, 3) := by decide +kernel
theorem dX12_laysMeet_94 : decode cX12_laysMeet 94 = .ok (.aload_n 0, 1) := by decide +kernel
theorem dX12_laysMeet_95 : decode cX12_laysMeet 95 = .ok (.iload_n 3, 1) := by decide +kernel
theorem dX12_laysMeet_96 : decode cX12_laysMeet 96 = .ok (.putfield 376, 3) := by decide +kernel
theorem dX12_laysMeet_99 : decode cX12_laysMeet 99 = .ok (.iinc 3 1, 3) := by decide +kernel
theorem dX12_laysMeet_102 : decode cX12_laysMeet 102 = .ok (.goto (-75), 3) := by decide +kernel
theorem dX12_laysMeet_105 : decode cX12_laysMeet 105 = .ok (.aload_n 0, 1) := by decide +kernel
theorem dX12_laysMeet_106 : decode cX12_laysMeet 106 = .ok (.getfield 373, 3) := by decide +kernel
theorem dX12_laysMeet_109 : decode cX12_laysMeet 109 = .ok (.sipush 1000, 3) := by decide +kernel
theorem dX12_laysMeet_112 : decode cX12_laysMeet 112 = .ok (.if_icmp .le 8, 3) := by decide +kernel
theorem dX12_laysMeet_115 : decode cX12_laysMeet 115 = .ok (.aload_n 0, 1) := by decide +kernel
theorem dX12_laysMeet_116 : decode cX12_laysMeet 116 = .ok (.iconst (-1), 1) := by decide +kernel
theorem dX12_laysMeet_117 : decode cX12_laysMeet 117 = .ok (.putfield 376, 3) := by decide +kernel
theorem dX12_laysMeet_120 : decode cX12_laysMeet 120 = .ok (.return_, 1) := by decide +kernel
theorem wrr_wsX12_meet {i : Nat} {w : Cond} (h : wsX12_meet[i]? = some w) : w ∈ wsX12_meet := List.mem_of_getElem? h
theorem wrr_wsX12_meet_wsX12_meet_r1 {i : Nat} {w : Cond} (h : wsX12_meet_r1[i]? = some w) : w ∈ wsX12_meet := (List.mem_cons_of_mem _ (List.mem_append_left _ (List.mem_append_left _ (List.mem_of_getElem? h))))
theorem wrr_wsX12_meet_wsX12_meet_r2 {i : Nat} {w : Cond} (h : wsX12_meet_r2[i]? = some w) : w ∈ wsX12_meet := (List.mem_cons_of_mem _ (List.mem_append_left _ (List.mem_append_right _ (List.mem_of_getElem? h))))
theorem wru_wsX12_meet_wsX120 : ∀ w ∈ wsX120, w ∈ wsX12_meet := fun w h => (List.mem_cons_of_mem _ (List.mem_append_right _ h))
set_option maxRecDepth 20000 in
theorem ggX12_meet_X12_isDance : GoodIn wsX12_meet wsX12_isDance := goodIn_sub (List.forall_mem_cons.mpr ⟨wrr_wsX12_meet_wsX12_meet_r1 (i := 6) rfl, (List.forall_mem_append.mpr ⟨(List.forall_mem_cons.mpr ⟨wrr_wsX12_meet_wsX12_meet_r1 (i := 7) rfl, (fun _ h => absurd h List.not_mem_nil)⟩), wru_wsX12_meet_wsX120⟩)⟩) gw_wsX12_isDance
set_option maxRecDepth 20000 in
theorem gX12_meet_X12_isDance : GoodIn wsX12_meet (wsV RX12 254 RX12 yX12_isDance wsX12_isDance) := goodIn_app (goodIn_sub (List.forall_mem_cons.mpr ⟨wrr_wsX12_meet_wsX12_meet_r1 (i := 2) rfl, (List.forall_mem_cons.mpr ⟨wrr_wsX12_meet_wsX12_meet_r1 (i := 3) rfl, (List.forall_mem_cons.mpr ⟨wrr_wsX12_meet_wsX12_meet_r1 (i := 4) rfl, (List.forall_mem_cons.mpr ⟨wrr_wsX12_meet_wsX12_meet_r1 (i := 5) rfl, (fun _ h => absurd h List.not_mem_nil)⟩)⟩)⟩)⟩) (by decide +kernel)) ggX12_meet_X12_isDance
set_option maxRecDepth 20000 in
theorem ggX12_meet_X12_isBeat : GoodIn wsX12_meet wsX12_isBeat := goodIn_sub (List.forall_mem_cons.mpr ⟨wrr_wsX12_meet_wsX12_meet_r1 (i := 10) rfl, (List.forall_mem_cons.mpr ⟨wrr_wsX12_meet_wsX12_meet_r1 (i := 11) rfl, (List.forall_mem_cons.mpr ⟨wrr_wsX12_meet_wsX12_meet_r1 (i := 12) rfl, (List.forall_mem_cons.mpr ⟨wrr_wsX12_meet_wsX12_meet_r1 (i := 13) rfl, (List.forall_mem_cons.mpr ⟨wrr_wsX12_meet_wsX12_meet_r1 (i := 5) rfl, (List.forall_mem_cons.mpr ⟨wrr_wsX12_meet_wsX12_meet_r1 (i := 14) rfl, (fun _ h => absurd h List.not_mem_nil)⟩)⟩)⟩)⟩)⟩)⟩) gw_wsX12_isBeat
set_option maxRecDepth 20000 in
theorem gX12_meet_X12_isBeat : GoodIn wsX12_meet (va_wsS RX12 270 yX12_isBeat wsX12_isBeat) := goodIn_app (goodIn_sub (List.forall_mem_cons.mpr ⟨wrr_wsX12_meet_wsX12_meet_r1 (i := 8) rfl, (List.forall_mem_cons.mpr ⟨wrr_wsX12_meet_wsX12_meet_r1 (i := 9) rfl, (List.forall_mem_cons.mpr ⟨wrr_wsX12_meet_wsX12_meet_r1 (i := 5) rfl, (fun _ h => absurd h List.not_mem_nil)⟩)⟩)⟩) (by decide +kernel)) ggX12_meet_X12_isBeat
set_option maxRecDepth 20000 in
theorem gw_wsX12_laysMeet : wsX12_laysMeet.all goodWord = true := by decide +kernel
set_option maxRecDepth 20000 in
theorem ggX12_meet_X12_laysMeet : GoodIn wsX12_meet wsX12_laysMeet := goodIn_sub (List.forall_mem_cons.mpr ⟨wrr_wsX12_meet_wsX12_meet_r1 (i := 18) rfl, (List.forall_mem_append.mpr ⟨(List.forall_mem_cons.mpr ⟨wrr_wsX12_meet_wsX12_meet_r1 (i := 19) rfl, (List.forall_mem_cons.mpr ⟨wrr_wsX12_meet_wsX12_meet_r1 (i := 1) rfl, (List.forall_mem_cons.mpr ⟨wrr_wsX12_meet_wsX12_meet_r1 (i := 20) rfl, (List.forall_mem_cons.mpr ⟨wrr_wsX12_meet_wsX12_meet_r1 (i := 21) rfl, (List.forall_mem_cons.mpr ⟨wrr_wsX12_meet_wsX12_meet_r1 (i := 22) rfl, (List.forall_mem_cons.mpr ⟨wrr_wsX12_meet_wsX12_meet_r1 (i := 23) rfl, (List.forall_mem_cons.mpr ⟨wrr_wsX12_meet_wsX12_meet_r2 (i := 0) rfl, (List.forall_mem_cons.mpr ⟨wrr_wsX12_meet_wsX12_meet_r2 (i := 1) rfl, (List.forall_mem_cons.mpr ⟨wrr_wsX12_meet_wsX12_meet_r1 (i := 5) rfl, (List.forall_mem_cons.mpr ⟨wrr_wsX12_meet_wsX12_meet_r2 (i := 2) rfl, (List.forall_mem_cons.mpr ⟨wrr_wsX12_meet_wsX12_meet_r2 (i := 3) rfl, (fun _ h => absurd h List.not_mem_nil)⟩)⟩)⟩)⟩)⟩)⟩)⟩)⟩)⟩)⟩)⟩), wru_wsX12_meet_wsX120⟩)⟩) gw_wsX12_laysMeet
set_option maxRecDepth 20000 in
theorem gX12_meet_X12_laysMeet : GoodIn wsX12_meet (wsV RX12 379 RX12 yX12_laysMeet wsX12_laysMeet) := goodIn_app (goodIn_sub (List.forall_mem_cons.mpr ⟨wrr_wsX12_meet_wsX12_meet_r1 (i := 15) rfl, (List.forall_mem_cons.mpr ⟨wrr_wsX12_meet_wsX12_meet_r1 (i := 16) rfl, (List.forall_mem_cons.mpr ⟨wrr_wsX12_meet_wsX12_meet_r1 (i := 17) rfl, (List.forall_mem_cons.mpr ⟨wrr_wsX12_meet_wsX12_meet_r1 (i := 5) rfl, (fun _ h => absurd h List.not_mem_nil)⟩)⟩)⟩)⟩) (by decide +kernel)) ggX12_meet_X12_laysMeet
set_option maxRecDepth 20000 in
theorem ggX12_meet_X12_known : GoodIn wsX12_meet wsX12_known := goodIn_sub (List.forall_mem_cons.mpr ⟨wrr_wsX12_meet_wsX12_meet_r2 (i := 6) rfl, (fun _ h => absurd h List.not_mem_nil)⟩) gw_wsX12_known
set_option maxRecDepth 20000 in
theorem gX12_meet_X12_known : GoodIn wsX12_meet (va_wsS RX12 370 yX12_known wsX12_known) := goodIn_app (goodIn_sub (List.forall_mem_cons.mpr ⟨wrr_wsX12_meet_wsX12_meet_r2 (i := 4) rfl, (List.forall_mem_cons.mpr ⟨wrr_wsX12_meet_wsX12_meet_r2 (i := 5) rfl, (List.forall_mem_cons.mpr ⟨wrr_wsX12_meet_wsX12_meet_r1 (i := 5) rfl, (fun _ h => absurd h List.not_mem_nil)⟩)⟩)⟩) (by decide +kernel)) ggX12_meet_X12_known
theorem dX12_meet_0 : decode cX12_meet 0 = .ok (.aload_n 0, 1) := by decide +kernel
theorem dX12_meet_1 : decode cX12_meet 1 = .ok (.iconst 0, 1) := by decide +kernel
theorem dX12_meet_2 : decode cX12_meet 2 = .ok (.putfield 80, 3) := by decide +kernel
theorem dX12_meet_5 : decode cX12_meet 5 = .ok (.aload_n 0, 1) := by decide +kernel
theorem dX12_meet_6 : decode cX12_meet 6 = .ok (.invokevirtual 254, 3) := by decide +kernel
theorem dX12_meet_9 : decode cX12_meet 9 = .ok (.ifCond .eq 19, 3) := by decide +kernel
theorem dX12_meet_12 : decode cX12_meet 12 = .ok (.iload_n 1, 1) := by decide +kernel
theorem dX12_meet_13 : decode cX12_meet 13 = .ok (.i2l, 1) := by decide +kernel
theorem dX12_meet_14 : decode cX12_meet 14 = .ok (.invokestatic 270, 3) := by decide +kernel
theorem dX12_meet_17 : decode cX12_meet 17 = .ok (.ifCond .eq 11, 3) := by decide +kernel
theorem dX12_meet_20 : decode cX12_meet 20 = .ok (.iload_n 2, 1) := by decide +kernel
theorem dX12_meet_21 : decode cX12_meet 21 = .ok (.i2l, 1) := by decide +kernel
theorem dX12_meet_22 : decode cX12_meet 22 = .ok (.invokestatic 270, 3) := by decide +kernel
theorem dX12_meet_25 : decode cX12_meet 25 = .ok (.ifCond .ne 6, 3) := by decide +kernel
theorem dX12_meet_28 : decode cX12_meet 28 = .ok (.bipush (-2), 2) := by decide +kernel
theorem dX12_meet_30 : decode cX12_meet 30 = .ok (.ireturn, 1) := by decide +kernel
theorem dX12_meet_31 : decode cX12_meet 31 = .ok (.aload_n 0, 1) := by decide +kernel
theorem dX12_meet_32 : decode cX12_meet 32 = .ok (.iload_n 1, 1) := by decide +kernel
theorem dX12_meet_33 : decode cX12_meet 33 = .ok (.iload_n 2, 1) := by decide +kernel
theorem dX12_meet_34 : decode cX12_meet 34 = .ok (.invokevirtual 379, 3) := by decide +kernel
theorem dX12_meet_37 : decode cX12_meet 37 = .ok (.aload_n 0, 1) := by decide +kernel
theorem dX12_meet_38 : decode cX12_meet 38 = .ok (.getfield 373, 3) := by decide +kernel
theorem dX12_meet_41 : decode cX12_meet 41 = .ok (.invokestatic 370, 3) := by decide +kernel
theorem dX12_meet_44 : decode cX12_meet 44 = .ok (.ireturn, 1) := by decide +kernel
theorem wrr_wsX12_cell {i : Nat} {w : Cond} (h : wsX12_cell[i]? = some w) : w ∈ wsX12_cell := List.mem_of_getElem? h
theorem wrr_wsX12_cell_wsX12_cell_r1 {i : Nat} {w : Cond} (h : wsX12_cell_r1[i]? = some w) : w ∈ wsX12_cell := (List.mem_cons_of_mem _ (List.mem_append_left _ (List.mem_append_left _ (List.mem_of_getElem? h))))
theorem wrr_wsX12_cell_wsX12_cell_r2 {i : Nat} {w : Cond} (h : wsX12_cell_r2[i]? = some w) : w ∈ wsX12_cell := (List.mem_cons_of_mem _ (List.mem_append_left _ (List.mem_append_right _ (List.mem_of_getElem? h))))
theorem wru_wsX12_cell_wsX120 : ∀ w ∈ wsX120, w ∈ wsX12_cell := fun w h => (List.mem_cons_of_mem _ (List.mem_append_right _ h))
set_option maxRecDepth 20000 in
theorem ggX12_cell_X12_isDance : GoodIn wsX12_cell wsX12_isDance := goodIn_sub (List.forall_mem_cons.mpr ⟨wrr_wsX12_cell_wsX12_cell_r1 (i := 6) rfl, (List.forall_mem_append.mpr ⟨(List.forall_mem_cons.mpr ⟨wrr_wsX12_cell_wsX12_cell_r1 (i := 7) rfl, (fun _ h => absurd h List.not_mem_nil)⟩), wru_wsX12_cell_wsX120⟩)⟩) gw_wsX12_isDance
set_option maxRecDepth 20000 in
theorem gX12_cell_X12_isDance : GoodIn wsX12_cell (wsV RX12 254 RX12 yX12_isDance wsX12_isDance) := goodIn_app (goodIn_sub (List.forall_mem_cons.mpr ⟨wrr_wsX12_cell_wsX12_cell_r1 (i := 2) rfl, (List.forall_mem_cons.mpr ⟨wrr_wsX12_cell_wsX12_cell_r1 (i := 3) rfl, (List.forall_mem_cons.mpr ⟨wrr_wsX12_cell_wsX12_cell_r1 (i := 4) rfl, (List.forall_mem_cons.mpr ⟨wrr_wsX12_cell_wsX12_cell_r1 (i := 5) rfl, (fun _ h => absurd h List.not_mem_nil)⟩)⟩)⟩)⟩) (by decide +kernel)) ggX12_cell_X12_isDance
set_option maxRecDepth 20000 in
theorem ggX12_cell_X12_isBeat : GoodIn wsX12_cell wsX12_isBeat := goodIn_sub (List.forall_mem_cons.mpr ⟨wrr_wsX12_cell_wsX12_cell_r1 (i := 10) rfl, (List.forall_mem_cons.mpr ⟨wrr_wsX12_cell_wsX12_cell_r1 (i := 11) rfl, (List.forall_mem_cons.mpr ⟨wrr_wsX12_cell_wsX12_cell_r1 (i := 12) rfl, (List.forall_mem_cons.mpr ⟨wrr_wsX12_cell_wsX12_cell_r1 (i := 13) rfl, (List.forall_mem_cons.mpr ⟨wrr_wsX12_cell_wsX12_cell_r1 (i := 5) rfl, (List.forall_mem_cons.mpr ⟨wrr_wsX12_cell_wsX12_cell_r1 (i := 14) rfl, (fun _ h => absurd h List.not_mem_nil)⟩)⟩)⟩)⟩)⟩)⟩) gw_wsX12_isBeat
set_option maxRecDepth 20000 in
theorem gX12_cell_X12_isBeat : GoodIn wsX12_cell (va_wsS RX12 270 yX12_isBeat wsX12_isBeat) := goodIn_app (goodIn_sub (List.forall_mem_cons.mpr ⟨wrr_wsX12_cell_wsX12_cell_r1 (i := 8) rfl, (List.forall_mem_cons.mpr ⟨wrr_wsX12_cell_wsX12_cell_r1 (i := 9) rfl, (List.forall_mem_cons.mpr ⟨wrr_wsX12_cell_wsX12_cell_r1 (i := 5) rfl, (fun _ h => absurd h List.not_mem_nil)⟩)⟩)⟩) (by decide +kernel)) ggX12_cell_X12_isBeat
set_option maxRecDepth 20000 in
theorem ggX12_cell_X12_laysMeet : GoodIn wsX12_cell wsX12_laysMeet := goodIn_sub (List.forall_mem_cons.mpr ⟨wrr_wsX12_cell_wsX12_cell_r1 (i := 18) rfl, (List.forall_mem_append.mpr ⟨(List.forall_mem_cons.mpr ⟨wrr_wsX12_cell_wsX12_cell_r1 (i := 19) rfl, (List.forall_mem_cons.mpr ⟨wrr_wsX12_cell_wsX12_cell_r1 (i := 20) rfl, (List.forall_mem_cons.mpr ⟨wrr_wsX12_cell_wsX12_cell_r1 (i := 1) rfl, (List.forall_mem_cons.mpr ⟨wrr_wsX12_cell_wsX12_cell_r1 (i := 21) rfl, (List.forall_mem_cons.mpr ⟨wrr_wsX12_cell_wsX12_cell_r1 (i := 22) rfl, (List.forall_mem_cons.mpr ⟨wrr_wsX12_cell_wsX12_cell_r1 (i := 23) rfl, (List.forall_mem_cons.mpr ⟨wrr_wsX12_cell_wsX12_cell_r2 (i := 0) rfl, (List.forall_mem_cons.mpr ⟨wrr_wsX12_cell_wsX12_cell_r2 (i := 1) rfl, (List.forall_mem_cons.mpr ⟨wrr_wsX12_cell_wsX12_cell_r1 (i := 5) rfl, (List.forall_mem_cons.mpr ⟨wrr_wsX12_cell_wsX12_cell_r2 (i := 2) rfl, (List.forall_mem_cons.mpr ⟨wrr_wsX12_cell_wsX12_cell_r2 (i := 3) rfl, (fun _ h => absurd h List.not_mem_nil)⟩)⟩)⟩)⟩)⟩)⟩)⟩)⟩)⟩)⟩)⟩), wru_wsX12_cell_wsX120⟩)⟩) gw_wsX12_laysMeet
set_option maxRecDepth 20000 in
theorem gX12_cell_X12_laysMeet : GoodIn wsX12_cell (wsV RX12 379 RX12 yX12_laysMeet wsX12_laysMeet) := goodIn_app (goodIn_sub (List.forall_mem_cons.mpr ⟨wrr_wsX12_cell_wsX12_cell_r1 (i := 15) rfl, (List.forall_mem_cons.mpr ⟨wrr_wsX12_cell_wsX12_cell_r1 (i := 16) rfl, (List.forall_mem_cons.mpr ⟨wrr_wsX12_cell_wsX12_cell_r1 (i := 17) rfl, (List.forall_mem_cons.mpr ⟨wrr_wsX12_cell_wsX12_cell_r1 (i := 5) rfl, (fun _ h => absurd h List.not_mem_nil)⟩)⟩)⟩)⟩) (by decide +kernel)) ggX12_cell_X12_laysMeet
theorem dX12_cell_0 : decode cX12_cell 0 = .ok (.aload_n 0, 1) := by decide +kernel
theorem dX12_cell_1 : decode cX12_cell 1 = .ok (.iconst 0, 1) := by decide +kernel
theorem dX12_cell_2 : decode cX12_cell 2 = .ok (.putfield 80, 3) := by decide +kernel
theorem dX12_cell_5 : decode cX12_cell 5 = .ok (.aload_n 0, 1) := by decide +kernel
theorem dX12_cell_6 : decode cX12_cell 6 = .ok (.invokevirtual 254, 3) := by decide +kernel
theorem dX12_cell_9 : decode cX12_cell 9 = .ok (.ifCond .eq 19, 3) := by decide +kernel
theorem dX12_cell_12 : decode cX12_cell 12 = .ok (.iload_n 1, 1) := by decide +kernel
theorem dX12_cell_13 : decode cX12_cell 13 = .ok (.i2l, 1) := by decide +kernel
theorem dX12_cell_14 : decode cX12_cell 14 = .ok (.invokestatic 270, 3) := by decide +kernel
theorem dX12_cell_17 : decode cX12_cell 17 = .ok (.ifCond .eq 11, 3) := by decide +kernel
theorem dX12_cell_20 : decode cX12_cell 20 = .ok (.iload_n 2, 1) := by decide +kernel
theorem dX12_cell_21 : decode cX12_cell 21 = .ok (.i2l, 1) := by decide +kernel
theorem dX12_cell_22 : decode cX12_cell 22 = .ok (.invokestatic 270, 3) := by decide +kernel
theorem dX12_cell_25 : decode cX12_cell 25 = .ok (.ifCond .ne 6, 3) := by decide +kernel
theorem dX12_cell_28 : decode cX12_cell 28 = .ok (.bipush (-2), 2) := by decide +kernel
theorem dX12_cell_30 : decode cX12_cell 30 = .ok (.ireturn, 1) := by decide +kernel
theorem dX12_cell_31 : decode cX12_cell 31 = .ok (.aload_n 0, 1) := by decide +kernel
theorem dX12_cell_32 : decode cX12_cell 32 = .ok (.iload_n 1, 1) := by decide +kernel
theorem dX12_cell_33 : decode cX12_cell 33 = .ok (.iload_n 2, 1) := by decide +kernel
theorem dX12_cell_34 : decode cX12_cell 34 = .ok (.invokevirtual 379, 3) := by decide +kernel
theorem dX12_cell_37 : decode cX12_cell 37 = .ok (.aload_n 0, 1) := by decide +kernel
theorem dX12_cell_38 : decode cX12_cell 38 = .ok (.getfield 376, 3) := by decide +kernel
theorem dX12_cell_41 : decode cX12_cell 41 = .ok (.ireturn, 1) := by decide +kernel
theorem wrr_wsX12_longest {i : Nat} {w : Cond} (h : wsX12_longest[i]? = some w) : w ∈ wsX12_longest := List.mem_of_getElem? h
theorem wru_wsX12_longest_wsX120 : ∀ w ∈ wsX120, w ∈ wsX12_longest := fun w h => (List.mem_cons_of_mem _ (List.mem_append_right _ h))
set_option maxRecDepth 20000 in
theorem ggX12_longest_X12_isDance : GoodIn wsX12_longest wsX12_isDance := goodIn_sub (List.forall_mem_cons.mpr ⟨wrr_wsX12_longest (i := 6) rfl, (List.forall_mem_append.mpr ⟨(List.forall_mem_cons.mpr ⟨wrr_wsX12_longest (i := 7) rfl, (fun _ h => absurd h List.not_mem_nil)⟩), wru_wsX12_longest_wsX120⟩)⟩) gw_wsX12_isDance
set_option maxRecDepth 20000 in
theorem gX12_longest_X12_isDance : GoodIn wsX12_longest (wsV RX12 254 RX12 yX12_isDance wsX12_isDance) := goodIn_app (goodIn_sub (List.forall_mem_cons.mpr ⟨wrr_wsX12_longest (i := 2) rfl, (List.forall_mem_cons.mpr ⟨wrr_wsX12_longest (i := 3) rfl, (List.forall_mem_cons.mpr ⟨wrr_wsX12_longest (i := 4) rfl, (List.forall_mem_cons.mpr ⟨wrr_wsX12_longest (i := 5) rfl, (fun _ h => absurd h List.not_mem_nil)⟩)⟩)⟩)⟩) (by decide +kernel)) ggX12_longest_X12_isDance
set_option maxRecDepth 20000 in
theorem ggX12_longest_X12_walks : GoodIn wsX12_longest wsX12_walks := goodIn_sub (List.forall_mem_cons.mpr ⟨wrr_wsX12_longest (i := 11) rfl, (List.forall_mem_append.mpr ⟨(List.forall_mem_cons.mpr ⟨wrr_wsX12_longest (i := 12) rfl, (List.forall_mem_cons.mpr ⟨wrr_wsX12_longest (i := 13) rfl, (List.forall_mem_cons.mpr ⟨wrr_wsX12_longest (i := 14) rfl, (fun _ h => absurd h List.not_mem_nil)⟩)⟩)⟩), wru_wsX12_longest_wsX120⟩)⟩) gw_wsX12_walks
set_option maxRecDepth 20000 in
theorem gX12_longest_X12_walks : GoodIn wsX12_longest (wsV RX12 367 RX12 yX12_walks wsX12_walks) := goodIn_app (goodIn_sub (List.forall_mem_cons.mpr ⟨wrr_wsX12_longest (i := 8) rfl, (List.forall_mem_cons.mpr ⟨wrr_wsX12_longest (i := 9) rfl, (List.forall_mem_cons.mpr ⟨wrr_wsX12_longest (i := 10) rfl, (List.forall_mem_cons.mpr ⟨wrr_wsX12_longest (i := 5) rfl, (fun _ h => absurd h List.not_mem_nil)⟩)⟩)⟩)⟩) (by decide +kernel)) ggX12_longest_X12_walks
theorem dX12_longest_0 : decode cX12_longest 0 = .ok (.aload_n 0, 1) := by decide +kernel
theorem dX12_longest_1 : decode cX12_longest 1 = .ok (.iconst 0, 1) := by decide +kernel
theorem dX12_longest_2 : decode cX12_longest 2 = .ok (.putfield 80, 3) := by decide +kernel
theorem dX12_longest_5 : decode cX12_longest 5 = .ok (.aload_n 0, 1) := by decide +kernel
theorem dX12_longest_6 : decode cX12_longest 6 = .ok (.invokevirtual 254, 3) := by decide +kernel
theorem dX12_longest_9 : decode cX12_longest 9 = .ok (.ifCond .ne 6, 3) := by decide +kernel
theorem dX12_longest_12 : decode cX12_longest 12 = .ok (.bipush (-2), 2) := by decide +kernel
theorem dX12_longest_14 : decode cX12_longest 14 = .ok (.ireturn, 1) := by decide +kernel
theorem dX12_longest_15 : decode cX12_longest 15 = .ok (.iconst 0, 1) := by decide +kernel
theorem dX12_longest_16 : decode cX12_longest 16 = .ok (.istore_n 1, 1) := by decide +kernel
theorem dX12_longest_17 : decode cX12_longest 17 = .ok (.iconst 0, 1) := by decide +kernel
theorem dX12_longest_18 : decode cX12_longest 18 = .ok (.istore_n 2, 1) := by decide +kernel
theorem dX12_longest_19 : decode cX12_longest 19 = .ok (.iload_n 2, 1) := by decide +kernel
theorem dX12_longest_20 : decode cX12_longest 20 = .ok (.sipush 200, 3) := by decide +kernel
theorem dX12_longest_23 : decode cX12_longest 23 = .ok (.if_icmp .ge 40, 3) := by decide +kernel
theorem dX12_longest_26 : decode cX12_longest 26 = .ok (.aload_n 0, 1) := by decide +kernel
theorem dX12_longest_27 : decode cX12_longest 27 = .ok (.iconst 0, 1) := by decide +kernel
theorem dX12_longest_28 : decode cX12_longest 28 = .ok (.iload_n 2, 1) := by decide +kernel
theorem dX12_longest_29 : decode cX12_longest 29 = .ok (.invokevirtual 367, 3) := by decide +kernel
theorem dX12_longest_32 : decode cX12_longest 32 = .ok (.istore_n 3, 1) := by decide +kernel
theorem dX12_longest_33 : decode cX12_longest 33 = .ok (.iload_n 3, 1) := by decide +kernel
theorem dX12_longest_34 : decode cX12_longest 34 = .ok (.sipush 1000, 3) := by decide +kernel
theorem dX12_longest_37 : decode cX12_longest 37 = .ok (.if_icmp .le 5, 3) := by decide +kernel
theorem dX12_longest_42 : decode cX12_longest 42 = .ok (.iload_n 3, 1) := by decide +kernel
theorem dX12_longest_43 : decode cX12_longest 43 = .ok (.iload_n 2, 1) := by decide +kernel
theorem dX12_longest_44 : decode cX12_longest 44 = .ok (.isub, 1) := by decide +kernel
theorem dX12_longest_45 : decode cX12_longest 45 = .ok (.iload_n 1, 1) := by decide +kernel
theorem dX12_longest_46 : decode cX12_longest 46 = .ok (.if_icmp .le 9, 3) := by decide +kernel
theorem dX12_longest_49 : decode cX12_longest 49 = .ok (.iload_n 3, 1) := by decide +kernel
theorem dX12_longest_50 : decode cX12_longest 50 = .ok (.iload_n 2, 1) := by decide +kernel
theorem dX12_longest_51 : decode cX12_longest 51 = .ok (.isub, 1) := by decide +kernel
theorem dX12_longest_52 : decode cX12_longest 52 = .ok (.goto 4, 3) := by decide +kernel
theorem dX12_longest_55 : decode cX12_longest 55 = .ok (.iload_n 1, 1) := by decide +kernel
theorem dX12_longest_56 : decode cX12_longest 56 = .ok (.istore_n 1, 1) := by decide +kernel
theorem dX12_longest_57 : decode cX12_longest 57 = .ok (.iinc 2 1, 3) := by decide +kernel
theorem dX12_longest_60 : decode cX12_longest 60 = .ok (.goto (-41), 3) := by decide +kernel
theorem dX12_longest_63 : decode cX12_longest 63 = .ok (.iload_n 1, 1) := by decide +kernel
theorem dX12_longest_64 : decode cX12_longest 64 = .ok (.ireturn, 1) := by decide +kernel
theorem wrr_wsX12_whyNotHalf {i : Nat} {w : Cond} (h : wsX12_whyNotHalf[i]? = some w) : w ∈ wsX12_whyNotHalf := List.mem_of_getElem? h
theorem wru_wsX12_whyNotHalf_wsX120 : ∀ w ∈ wsX120, w ∈ wsX12_whyNotHalf := fun w h => (List.mem_cons_of_mem _ (List.mem_append_right _ h))
set_option maxRecDepth 20000 in
theorem ggX12_whyNotHalf_X12_isSlot : GoodIn wsX12_whyNotHalf wsX12_isSlot := goodIn_sub (List.forall_mem_cons.mpr ⟨wrr_wsX12_whyNotHalf (i := 9) rfl, (List.forall_mem_cons.mpr ⟨wrr_wsX12_whyNotHalf (i := 10) rfl, (List.forall_mem_cons.mpr ⟨wrr_wsX12_whyNotHalf (i := 11) rfl, (List.forall_mem_cons.mpr ⟨wrr_wsX12_whyNotHalf (i := 12) rfl, (List.forall_mem_cons.mpr ⟨wrr_wsX12_whyNotHalf (i := 8) rfl, (List.forall_mem_cons.mpr ⟨wrr_wsX12_whyNotHalf (i := 13) rfl, (fun _ h => absurd h List.not_mem_nil)⟩)⟩)⟩)⟩)⟩)⟩) gw_wsX12_isSlot
set_option maxRecDepth 20000 in
theorem gX12_whyNotHalf_X12_isSlot : GoodIn wsX12_whyNotHalf (va_wsS RX12 89 yX12_isSlot wsX12_isSlot) := goodIn_app (goodIn_sub (List.forall_mem_cons.mpr ⟨wrr_wsX12_whyNotHalf (i := 6) rfl, (List.forall_mem_cons.mpr ⟨wrr_wsX12_whyNotHalf (i := 7) rfl, (List.forall_mem_cons.mpr ⟨wrr_wsX12_whyNotHalf (i := 8) rfl, (fun _ h => absurd h List.not_mem_nil)⟩)⟩)⟩) (by decide +kernel)) ggX12_whyNotHalf_X12_isSlot
set_option maxRecDepth 20000 in
theorem ggX12_whyNotHalf_X12_in : GoodIn wsX12_whyNotHalf wsX12_in := goodIn_sub (List.forall_mem_cons.mpr ⟨wrr_wsX12_whyNotHalf (i := 13) rfl, (fun _ h => absurd h List.not_mem_nil)⟩) gw_wsX12_in
set_option maxRecDepth 20000 in
theorem gX12_whyNotHalf_X12_in : GoodIn wsX12_whyNotHalf (va_wsS RX12 85 yX12_in wsX12_in) := goodIn_app (goodIn_sub (List.forall_mem_cons.mpr ⟨wrr_wsX12_whyNotHalf (i := 11) rfl, (List.forall_mem_cons.mpr ⟨wrr_wsX12_whyNotHalf (i := 12) rfl, (List.forall_mem_cons.mpr ⟨wrr_wsX12_whyNotHalf (i := 8) rfl, (fun _ h => absurd h List.not_mem_nil)⟩)⟩)⟩) (by decide +kernel)) ggX12_whyNotHalf_X12_in
theorem dX12_whyNotHalf_0 : decode cX12_whyNotHalf 0 = .ok (.iload_n 1, 1) := by decide +kernel
theorem dX12_whyNotHalf_1 : decode cX12_whyNotHalf 1 = .ok (.invokestatic 89, 3) := by decide +kernel
theorem dX12_whyNotHalf_4 : decode cX12_whyNotHalf 4 = .ok (.ifCond .ne 6, 3) := by decide +kernel
theorem dX12_whyNotHalf_7 : decode cX12_whyNotHalf 7 = .ok (.bipush (-2), 2) := by decide +kernel
theorem dX12_whyNotHalf_9 : decode cX12_whyNotHalf 9 = .ok (.ireturn, 1) := by decide +kernel
theorem dX12_whyNotHalf_10 : decode cX12_whyNotHalf 10 = .ok (.aload_n 0, 1) := by decide +kernel
theorem dX12_whyNotHalf_11 : decode cX12_whyNotHalf 11 = .ok (.getfield 7, 3) := by decide +kernel
theorem dX12_whyNotHalf_14 : decode cX12_whyNotHalf 14 = .ok (.iload_n 1, 1) := by decide +kernel
theorem dX12_whyNotHalf_15 : decode cX12_whyNotHalf 15 = .ok (.iaload, 1) := by decide +kernel
theorem dX12_whyNotHalf_16 : decode cX12_whyNotHalf 16 = .ok (.iconst (-1), 1) := by decide +kernel
theorem dX12_whyNotHalf_17 : decode cX12_whyNotHalf 17 = .ok (.if_icmp .ne 6, 3) := by decide +kernel
theorem dX12_whyNotHalf_20 : decode cX12_whyNotHalf 20 = .ok (.bipush (-6), 2) := by decide +kernel
theorem dX12_whyNotHalf_22 : decode cX12_whyNotHalf 22 = .ok (.ireturn, 1) := by decide +kernel
theorem dX12_whyNotHalf_23 : decode cX12_whyNotHalf 23 = .ok (.iconst 0, 1) := by decide +kernel
theorem dX12_whyNotHalf_24 : decode cX12_whyNotHalf 24 = .ok (.istore_n 2, 1) := by decide +kernel
theorem dX12_whyNotHalf_25 : decode cX12_whyNotHalf 25 = .ok (.iload_n 2, 1) := by decide +kernel
theorem dX12_whyNotHalf_26 : decode cX12_whyNotHalf 26 = .ok (.aload_n 0, 1) := by decide +kernel
theorem dX12_whyNotHalf_27 : decode cX12_whyNotHalf 27 = .ok (.getfield 13, 3) := by decide +kernel
theorem dX12_whyNotHalf_30 : decode cX12_whyNotHalf 30 = .ok (.iload_n 1, 1) := by decide +kernel
theorem dX12_whyNotHalf_31 : decode cX12_whyNotHalf 31 = .ok (.iaload, 1) := by decide +kernel
theorem dX12_whyNotHalf_32 : decode cX12_whyNotHalf 32 = .ok (.if_icmp .ge 35, 3) := by decide +kernel
theorem dX12_whyNotHalf_35 : decode cX12_whyNotHalf 35 = .ok (.aload_n 0, 1) := by decide +kernel
theorem dX12_whyNotHalf_36 : decode cX12_whyNotHalf 36 = .ok (.getfield 16, 3) := by decide +kernel
theorem dX12_whyNotHalf_39 : decode cX12_whyNotHalf 39 = .ok (.bipush 60, 2) := by decide +kernel
theorem dX12_whyNotHalf_41 : decode cX12_whyNotHalf 41 = .ok (.iload_n 1, 1) := by decide +kernel
theorem dX12_whyNotHalf_42 : decode cX12_whyNotHalf 42 = .ok (.imul, 1) := by decide +kernel
theorem dX12_whyNotHalf_43 : decode cX12_whyNotHalf 43 = .ok (.iload_n 2, 1) := by decide +kernel
theorem dX12_whyNotHalf_44 : decode cX12_whyNotHalf 44 = .ok (.iadd, 1) := by decide +kernel
theorem dX12_whyNotHalf_45 : decode cX12_whyNotHalf 45 = .ok (.laload, 1) := by decide +kernel
theorem dX12_whyNotHalf_46 : decode cX12_whyNotHalf 46 = .ok (.ldc2_w 124, 3) := by decide +kernel
theorem dX12_whyNotHalf_49 : decode cX12_whyNotHalf 49 = .ok (.ldc2_w 259, 3) := by decide +kernel
theorem dX12_whyNotHalf_52 : decode cX12_whyNotHalf 52 = .ok (.invokestatic 85, 3) := by decide +kernel
theorem dX12_whyNotHalf_55 : decode cX12_whyNotHalf 55 = .ok (.ifCond .ne 6, 3) := by decide +kernel
theorem dX12_whyNotHalf_58 : decode cX12_whyNotHalf 58 = .ok (.bipush (-2), 2) := by decide +kernel
theorem dX12_whyNotHalf_60 : decode cX12_whyNotHalf 60 = .ok (.ireturn, 1) := by decide +kernel
theorem dX12_whyNotHalf_61 : decode cX12_whyNotHalf 61 = .ok (.iinc 2 1, 3) := by decide +kernel
theorem dX12_whyNotHalf_64 : decode cX12_whyNotHalf 64 = .ok (.goto (-39), 3) := by decide +kernel
theorem dX12_whyNotHalf_67 : decode cX12_whyNotHalf 67 = .ok (.iconst 0, 1) := by decide +kernel
theorem dX12_whyNotHalf_68 : decode cX12_whyNotHalf 68 = .ok (.ireturn, 1) := by decide +kernel
theorem dX12_isHalf_0 : decode cX12_isHalf 0 = .ok (.iconst 0, 1) := by decide +kernel
theorem dX12_isHalf_1 : decode cX12_isHalf 1 = .ok (.istore_n 3, 1) := by decide +kernel
theorem dX12_isHalf_2 : decode cX12_isHalf 2 = .ok (.iload_n 3, 1) := by decide +kernel
theorem dX12_isHalf_3 : decode cX12_isHalf 3 = .ok (.iload_n 2, 1) := by decide +kernel
theorem dX12_isHalf_4 : decode cX12_isHalf 4 = .ok (.if_icmp .ge 16, 3) := by decide +kernel
theorem dX12_isHalf_7 : decode cX12_isHalf 7 = .ok (.aload_n 0, 1) := by decide +kernel
theorem dX12_isHalf_8 : decode cX12_isHalf 8 = .ok (.getfield 62, 3) := by decide +kernel
theorem dX12_isHalf_11 : decode cX12_isHalf 11 = .ok (.iload_n 3, 1) := by decide +kernel
theorem dX12_isHalf_12 : decode cX12_isHalf 12 = .ok (.iconst (-1), 1) := by decide +kernel
theorem dX12_isHalf_13 : decode cX12_isHalf 13 = .ok (.iastore, 1) := by decide +kernel
theorem dX12_isHalf_14 : decode cX12_isHalf 14 = .ok (.iinc 3 1, 3) := by decide +kernel
theorem dX12_isHalf_17 : decode cX12_isHalf 17 = .ok (.goto (-15), 3) := by decide +kernel
theorem dX12_isHalf_20 : decode cX12_isHalf 20 = .ok (.iconst 0, 1) := by decide +kernel
theorem dX12_isHalf_21 : decode cX12_isHalf 21 = .ok (.istore_n 3, 1) := by decide +kernel
theorem dX12_isHalf_22 : decode cX12_isHalf 22 = .ok (.iload_n 3, 1) := by decide +kernel
theorem dX12_isHalf_23 : decode cX12_isHalf 23 = .ok (.aload_n 0, 1) := by decide +kernel
theorem dX12_isHalf_24 : decode cX12_isHalf 24 = .ok (.getfield 13, 3) := by decide +kernel
theorem dX12_isHalf_27 : decode cX12_isHalf 27 = .ok (.iload_n 1, 1) := by decide +kernel
theorem dX12_isHalf_28 : decode cX12_isHalf 28 = .ok (.iaload, 1) := by decide +kernel
theorem dX12_isHalf_29 : decode cX12_isHalf 29 = .ok (.if_icmp .ge 69, 3) := by decide +kernel
theorem dX12_isHalf_32 : decode cX12_isHalf 32 = .ok (.aload_n 0, 1) := by decide +kernel
theorem dX12_isHalf_33 : decode cX12_isHalf 33 = .ok (.getfield 16, 3) := by decide +kernel
theorem dX12_isHalf_36 : decode cX12_isHalf 36 = .ok (.bipush 60, 2) := by decide +kernel
theorem dX12_isHalf_38 : decode cX12_isHalf 38 = .ok (.iload_n 1, 1) := by decide +kernel
theorem dX12_isHalf_39 : decode cX12_isHalf 39 = .ok (.imul, 1) := by decide +kernel
theorem dX12_isHalf_40 : decode cX12_isHalf 40 = .ok (.iload_n 3, 1) := by decide +kernel
theorem dX12_isHalf_41 : decode cX12_isHalf 41 = .ok (.iadd, 1) := by decide +kernel
theorem dX12_isHalf_42 : decode cX12_isHalf 42 = .ok (.laload, 1) := by decide +kernel
theorem dX12_isHalf_43 : decode cX12_isHalf 43 = .ok (.l2i, 1) := by decide +kernel
theorem dX12_isHalf_44 : decode cX12_isHalf 44 = .ok (.istore 4, 2) := by decide +kernel
theorem dX12_isHalf_46 : decode cX12_isHalf 46 = .ok (.iload 4, 2) := by decide +kernel
theorem dX12_isHalf_48 : decode cX12_isHalf 48 = .ok (.iconst (-1), 1) := by decide +kernel
theorem dX12_isHalf_49 : decode cX12_isHalf 49 = .ok (.if_icmp .ne 6, 3) := by decide +kernel
theorem dX12_isHalf_52 : decode cX12_isHalf 52 = .ok (.goto 40, 3) := by decide +kernel
theorem dX12_isHalf_55 : decode cX12_isHalf 55 = .ok (.aload_n 0, 1) := by decide +kernel
theorem dX12_isHalf_56 : decode cX12_isHalf 56 = .ok (.getfield 62, 3) := by decide +kernel
theorem dX12_isHalf_59 : decode cX12_isHalf 59 = .ok (.iload_n 3, 1) := by decide +kernel
theorem dX12_isHalf_60 : decode cX12_isHalf 60 = .ok (.iload_n 2, 1) := by decide +kernel
theorem dX12_isHalf_61 : decode cX12_isHalf 61 = .ok (.irem, 1) := by decide +kernel
theorem dX12_isHalf_62 : decode cX12_isHalf 62 = .ok (.iaload, 1) := by decide +kernel
theorem dX12_isHalf_63 : decode cX12_isHalf 63 = .ok (.iconst (-1), 1) := by decide +kernel
theorem dX12_isHalf_64 : decode cX12_isHalf 64 = .ok (.if_icmp .eq 18, 3) := by decide +kernel
theorem dX12_isHalf_67 : decode cX12_isHalf 67 = .ok (.aload_n 0, 1) := by decide +kernel
theorem dX12_isHalf_68 : decode cX12_isHalf 68 = .ok (.getfield 62, 3) := by decide +kernel
theorem dX12_isHalf_71 : decode cX12_isHalf 71 = .ok (.iload_n 3, 1) := by decide +kernel
theorem dX12_isHalf_72 : decode cX12_isHalf 72 = .ok (.iload_n 2, 1) := by decide +kernel
theorem dX12_isHalf_73 : decode cX12_isHalf 73 = .ok (.irem, 1) := by decide +kernel
theorem dX12_isHalf_74 : decode cX12_isHalf 74 = .ok (.iaload, 1) := by decide +kernel
theorem dX12_isHalf_75 : decode cX12_isHalf 75 = .ok (.iload 4, 2) := by decide +kernel
theorem dX12_isHalf_77 : decode cX12_isHalf 77 = .ok (.if_icmp .eq 5, 3) := by decide +kernel
theorem dX12_isHalf_80 : decode cX12_isHalf 80 = .ok (.iconst 0, 1) := by decide +kernel
theorem dX12_isHalf_81 : decode cX12_isHalf 81 = .ok (.ireturn, 1) := by decide +kernel
theorem dX12_isHalf_82 : decode cX12_isHalf 82 = .ok (.aload_n 0, 1) := by decide +kernel
theorem dX12_isHalf_83 : decode cX12_isHalf 83 = .ok (.getfield 62, 3) := by decide +kernel
theorem dX12_isHalf_86 : decode cX12_isHalf 86 = .ok (.iload_n 3, 1) := by decide +kernel
theorem dX12_isHalf_87 : decode cX12_isHalf 87 = .ok (.iload_n 2, 1) := by decide +kernel
theorem dX12_isHalf_88 : decode cX12_isHalf 88 = .ok (.irem, 1) := by decide +kernel
theorem dX12_isHalf_89 : decode cX12_isHalf 89 = .ok (.iload 4, 2) := by decide +kernel
theorem dX12_isHalf_91 : decode cX12_isHalf 91 = .ok (.iastore, 1) := by decide +kernel
theorem dX12_isHalf_92 : decode cX12_isHalf 92 = .ok (.iinc 3 1, 3) := by decide +kernel
theorem dX12_isHalf_95 : decode cX12_isHalf 95 = .ok (.goto (-73), 3) := by decide +kernel
theorem dX12_isHalf_98 : decode cX12_isHalf 98 = .ok (.iconst 1, 1) := by decide +kernel
theorem dX12_isHalf_99 : decode cX12_isHalf 99 = .ok (.ireturn, 1) := by decide +kernel
theorem wrr_wsX12_halfOf {i : Nat} {w : Cond} (h : wsX12_halfOf[i]? = some w) : w ∈ wsX12_halfOf := List.mem_of_getElem? h
theorem wru_wsX12_halfOf_wsX120 : ∀ w ∈ wsX120, w ∈ wsX12_halfOf := fun w h => (List.mem_cons_of_mem _ (List.mem_append_right _ h))
set_option maxRecDepth 20000 in
theorem gw_wsX12_isHalf : wsX12_isHalf.all goodWord = true := by decide +kernel
set_option maxRecDepth 20000 in
theorem ggX12_halfOf_X12_isHalf : GoodIn wsX12_halfOf wsX12_isHalf := goodIn_sub (List.forall_mem_cons.mpr ⟨wrr_wsX12_halfOf (i := 5) rfl, (List.forall_mem_append.mpr ⟨(List.forall_mem_cons.mpr ⟨wrr_wsX12_halfOf (i := 6) rfl, (List.forall_mem_cons.mpr ⟨wrr_wsX12_halfOf (i := 7) rfl, (List.forall_mem_cons.mpr ⟨wrr_wsX12_halfOf (i := 8) rfl, (fun _ h => absurd h List.not_mem_nil)⟩)⟩)⟩), wru_wsX12_halfOf_wsX120⟩)⟩) gw_wsX12_isHalf
set_option maxRecDepth 20000 in
theorem gX12_halfOf_X12_isHalf : GoodIn wsX12_halfOf (wsV RX12 382 RX12 yX12_isHalf wsX12_isHalf) := goodIn_app (goodIn_sub (List.forall_mem_cons.mpr ⟨wrr_wsX12_halfOf (i := 1) rfl, (List.forall_mem_cons.mpr ⟨wrr_wsX12_halfOf (i := 2) rfl, (List.forall_mem_cons.mpr ⟨wrr_wsX12_halfOf (i := 3) rfl, (List.forall_mem_cons.mpr ⟨wrr_wsX12_halfOf (i := 4) rfl, (fun _ h => absurd h List.not_mem_nil)⟩)⟩)⟩)⟩) (by decide +kernel)) ggX12_halfOf_X12_isHalf
theorem dX12_halfOf_0 : decode cX12_halfOf 0 = .ok (.iconst 1, 1) := by decide +kernel
theorem dX12_halfOf_1 : decode cX12_halfOf 1 = .ok (.istore_n 2, 1) := by decide +kernel
theorem dX12_halfOf_2 : decode cX12_halfOf 2 = .ok (.iload_n 2, 1) := by decide +kernel
theorem dX12_halfOf_3 : decode cX12_halfOf 3 = .ok (.bipush 12, 2) := by decide +kernel
theorem dX12_halfOf_5 : decode cX12_halfOf 5 = .ok (.if_icmp .gt 20, 3) := by decide +kernel
theorem dX12_halfOf_8 : decode cX12_halfOf 8 = .ok (.aload_n 0, 1) := by decide +kernel
theorem dX12_halfOf_9 : decode cX12_halfOf 9 = .ok (.iload_n 1, 1) := by decide +kernel
theorem dX12_halfOf_10 : decode cX12_halfOf 10 = .ok (.iload_n 2, 1) := by decide +kernel
theorem dX12_halfOf_11 : decode cX12_halfOf 11 = .ok (.invokevirtual 382, 3) := by decide +kernel
theorem dX12_halfOf_14 : decode cX12_halfOf 14 = .ok (.ifCond .eq 5, 3) := by decide +kernel
theorem dX12_halfOf_17 : decode cX12_halfOf 17 = .ok (.iload_n 2, 1) := by decide +kernel
theorem dX12_halfOf_18 : decode cX12_halfOf 18 = .ok (.ireturn, 1) := by decide +kernel
theorem dX12_halfOf_19 : decode cX12_halfOf 19 = .ok (.iinc 2 1, 3) := by decide +kernel
theorem dX12_halfOf_22 : decode cX12_halfOf 22 = .ok (.goto (-20), 3) := by decide +kernel
theorem dX12_halfOf_25 : decode cX12_halfOf 25 = .ok (.iconst (-1), 1) := by decide +kernel
theorem dX12_halfOf_26 : decode cX12_halfOf 26 = .ok (.ireturn, 1) := by decide +kernel
theorem wrr_wsX12_half {i : Nat} {w : Cond} (h : wsX12_half[i]? = some w) : w ∈ wsX12_half := List.mem_of_getElem? h
theorem wrr_wsX12_half_wsX12_half_r1 {i : Nat} {w : Cond} (h : wsX12_half_r1[i]? = some w) : w ∈ wsX12_half := (List.mem_cons_of_mem _ (List.mem_append_left _ (List.mem_append_left _ (List.mem_of_getElem? h))))
theorem wrr_wsX12_half_wsX12_half_r2 {i : Nat} {w : Cond} (h : wsX12_half_r2[i]? = some w) : w ∈ wsX12_half := (List.mem_cons_of_mem _ (List.mem_append_left _ (List.mem_append_right _ (List.mem_of_getElem? h))))
theorem wru_wsX12_half_wsX120 : ∀ w ∈ wsX120, w ∈ wsX12_half := fun w h => (List.mem_cons_of_mem _ (List.mem_append_right _ h))
set_option maxRecDepth 20000 in
theorem gw_wsX12_whyNotHalf : wsX12_whyNotHalf.all goodWord = true := by decide +kernel
set_option maxRecDepth 20000 in
theorem ggX12_half_X12_whyNotHalf : GoodIn wsX12_half wsX12_whyNotHalf := goodIn_sub (List.forall_mem_cons.mpr ⟨wrr_wsX12_half_wsX12_half_r1 (i := 5) rfl, (List.forall_mem_append.mpr ⟨(List.forall_mem_cons.mpr ⟨wrr_wsX12_half_wsX12_half_r1 (i := 6) rfl, (List.forall_mem_cons.mpr ⟨wrr_wsX12_half_wsX12_half_r1 (i := 7) rfl, (List.forall_mem_cons.mpr ⟨wrr_wsX12_half_wsX12_half_r1 (i := 8) rfl, (List.forall_mem_cons.mpr ⟨wrr_wsX12_half_wsX12_half_r1 (i := 9) rfl, (List.forall_mem_cons.mpr ⟨wrr_wsX12_half_wsX12_half_r1 (i := 10) rfl, (List.forall_mem_cons.mpr ⟨wrr_wsX12_half_wsX12_half_r1 (i := 11) rfl, (List.forall_mem_cons.mpr ⟨wrr_wsX12_half_wsX12_half_r1 (i := 12) rfl, (List.forall_mem_cons.mpr ⟨wrr_wsX12_half_wsX12_half_r1 (i := 4) rfl, (List.forall_mem_cons.mpr ⟨wrr_wsX12_half_wsX12_half_r1 (i := 13) rfl, (List.forall_mem_cons.mpr ⟨wrr_wsX12_half_wsX12_half_r1 (i := 14) rfl, (List.forall_mem_cons.mpr ⟨wrr_wsX12_half_wsX12_half_r1 (i := 15) rfl, (List.forall_mem_cons.mpr ⟨wrr_wsX12_half_wsX12_half_r1 (i := 16) rfl, (List.forall_mem_cons.mpr ⟨wrr_wsX12_half_wsX12_half_r1 (i := 17) rfl, (fun _ h => absurd h List.not_mem_nil)⟩)⟩)⟩)⟩)⟩)⟩)⟩)⟩)⟩)⟩)⟩)⟩)⟩), wru_wsX12_half_wsX120⟩)⟩) gw_wsX12_whyNotHalf
set_option maxRecDepth 20000 in
theorem gX12_half_X12_whyNotHalf : GoodIn wsX12_half (wsV RX12 385 RX12 yX12_whyNotHalf wsX12_whyNotHalf) := goodIn_app (goodIn_sub (List.forall_mem_cons.mpr ⟨wrr_wsX12_half_wsX12_half_r1 (i := 1) rfl, (List.forall_mem_cons.mpr ⟨wrr_wsX12_half_wsX12_half_r1 (i := 2) rfl, (List.forall_mem_cons.mpr ⟨wrr_wsX12_half_wsX12_half_r1 (i := 3) rfl, (List.forall_mem_cons.mpr ⟨wrr_wsX12_half_wsX12_half_r1 (i := 4) rfl, (fun _ h => absurd h List.not_mem_nil)⟩)⟩)⟩)⟩) (by decide +kernel)) ggX12_half_X12_whyNotHalf
set_option maxRecDepth 20000 in
theorem gw_wsX12_halfOf : wsX12_halfOf.all goodWord = true := by decide +kernel
set_option maxRecDepth 20000 in
theorem ggX12_half_X12_halfOf : GoodIn wsX12_half wsX12_halfOf := goodIn_sub (List.forall_mem_cons.mpr ⟨wrr_wsX12_half_wsX12_half_r1 (i := 21) rfl, (List.forall_mem_append.mpr ⟨(List.forall_mem_cons.mpr ⟨wrr_wsX12_half_wsX12_half_r1 (i := 22) rfl, (List.forall_mem_cons.mpr ⟨wrr_wsX12_half_wsX12_half_r1 (i := 23) rfl, (List.forall_mem_cons.mpr ⟨wrr_wsX12_half_wsX12_half_r2 (i := 0) rfl, (List.forall_mem_cons.mpr ⟨wrr_wsX12_half_wsX12_half_r1 (i := 4) rfl, (List.forall_mem_cons.mpr ⟨wrr_wsX12_half_wsX12_half_r2 (i := 1) rfl, (List.forall_mem_cons.mpr ⟨wrr_wsX12_half_wsX12_half_r2 (i := 2) rfl, (List.forall_mem_cons.mpr ⟨wrr_wsX12_half_wsX12_half_r1 (i := 7) rfl, (List.forall_mem_cons.mpr ⟨wrr_wsX12_half_wsX12_half_r1 (i := 8) rfl, (fun _ h => absurd h List.not_mem_nil)⟩)⟩)⟩)⟩)⟩)⟩)⟩)⟩), wru_wsX12_half_wsX120⟩)⟩) gw_wsX12_halfOf
set_option maxRecDepth 20000 in
theorem gX12_half_X12_halfOf : GoodIn wsX12_half (wsV RX12 388 RX12 yX12_halfOf wsX12_halfOf) := goodIn_app (goodIn_sub (List.forall_mem_cons.mpr ⟨wrr_wsX12_half_wsX12_half_r1 (i := 18) rfl, (List.forall_mem_cons.mpr ⟨wrr_wsX12_half_wsX12_half_r1 (i := 19) rfl, (List.forall_mem_cons.mpr ⟨wrr_wsX12_half_wsX12_half_r1 (i := 20) rfl, (List.forall_mem_cons.mpr ⟨wrr_wsX12_half_wsX12_half_r1 (i := 4) rfl, (fun _ h => absurd h List.not_mem_nil)⟩)⟩)⟩)⟩) (by decide +kernel)) ggX12_half_X12_halfOf
theorem dX12_half_0 : decode cX12_half 0 = .ok (.aload_n 0, 1) := by decide +kernel
theorem dX12_half_1 : decode cX12_half 1 = .ok (.iconst 0, 1) := by decide +kernel
theorem dX12_half_2 : decode cX12_half 2 = .ok (.putfield 80, 3) := by decide +kernel
theorem dX12_half_5 : decode cX12_half 5 = .ok (.aload_n 0, 1) := by decide +kernel
theorem dX12_half_6 : decode cX12_half 6 = .ok (.iload_n 1, 1) := by decide +kernel
theorem dX12_half_7 : decode cX12_half 7 = .ok (.invokevirtual 385, 3) := by decide +kernel
theorem dX12_half_10 : decode cX12_half 10 = .ok (.istore_n 2, 1) := by decide +kernel
theorem dX12_half_11 : decode cX12_half 11 = .ok (.iload_n 2, 1) := by decide +kernel
theorem dX12_half_12 : decode cX12_half 12 = .ok (.ifCond .eq 7, 3) := by decide +kernel
theorem dX12_half_15 : decode cX12_half 15 = .ok (.iload_n 2, 1) := by decide +kernel
theorem dX12_half_16 : decode cX12_half 16 = .ok (.goto 8, 3) := by decide +kernel
theorem dX12_half_19 : decode cX12_half 19 = .ok (.aload_n 0, 1) := by decide +kernel
theorem dX12_half_20 : decode cX12_half 20 = .ok (.iload_n 1, 1) := by decide +kernel
theorem dX12_half_21 : decode cX12_half 21 = .ok (.invokevirtual 388, 3) := by decide +kernel
theorem dX12_half_24 : decode cX12_half 24 = .ok (.ireturn, 1) := by decide +kernel
theorem wrr_wsX12_fills {i : Nat} {w : Cond} (h : wsX12_fills[i]? = some w) : w ∈ wsX12_fills := List.mem_of_getElem? h
theorem wrr_wsX12_fills_wsX12_fills_r1 {i : Nat} {w : Cond} (h : wsX12_fills_r1[i]? = some w) : w ∈ wsX12_fills := (List.mem_cons_of_mem _ (List.mem_append_left _ (List.mem_append_left _ (List.mem_of_getElem? h))))
theorem wrr_wsX12_fills_wsX12_fills_r2 {i : Nat} {w : Cond} (h : wsX12_fills_r2[i]? = some w) : w ∈ wsX12_fills := (List.mem_cons_of_mem _ (List.mem_append_left _ (List.mem_append_right _ (List.mem_of_getElem? h))))
theorem wru_wsX12_fills_wsX120 : ∀ w ∈ wsX120, w ∈ wsX12_fills := fun w h => (List.mem_cons_of_mem _ (List.mem_append_right _ h))
set_option maxRecDepth 20000 in
theorem ggX12_fills_X12_whyNotHalf : GoodIn wsX12_fills wsX12_whyNotHalf := goodIn_sub (List.forall_mem_cons.mpr ⟨wrr_wsX12_fills_wsX12_fills_r1 (i := 6) rfl, (List.forall_mem_append.mpr ⟨(List.forall_mem_cons.mpr ⟨wrr_wsX12_fills_wsX12_fills_r1 (i := 7) rfl, (List.forall_mem_cons.mpr ⟨wrr_wsX12_fills_wsX12_fills_r1 (i := 8) rfl, (List.forall_mem_cons.mpr ⟨wrr_wsX12_fills_wsX12_fills_r1 (i := 9) rfl, (List.forall_mem_cons.mpr ⟨wrr_wsX12_fills_wsX12_fills_r1 (i := 10) rfl, (List.forall_mem_cons.mpr ⟨wrr_wsX12_fills_wsX12_fills_r1 (i := 11) rfl, (List.forall_mem_cons.mpr ⟨wrr_wsX12_fills_wsX12_fills_r1 (i := 12) rfl, (List.forall_mem_cons.mpr ⟨wrr_wsX12_fills_wsX12_fills_r1 (i := 13) rfl, (List.forall_mem_cons.mpr ⟨wrr_wsX12_fills_wsX12_fills_r1 (i := 5) rfl, (List.forall_mem_cons.mpr ⟨wrr_wsX12_fills_wsX12_fills_r1 (i := 14) rfl, (List.forall_mem_cons.mpr ⟨wrr_wsX12_fills_wsX12_fills_r1 (i := 15) rfl, (List.forall_mem_cons.mpr ⟨wrr_wsX12_fills_wsX12_fills_r1 (i := 16) rfl, (List.forall_mem_cons.mpr ⟨wrr_wsX12_fills_wsX12_fills_r1 (i := 17) rfl, (List.forall_mem_cons.mpr ⟨wrr_wsX12_fills_wsX12_fills_r1 (i := 18) rfl, (fun _ h => absurd h List.not_mem_nil)⟩)⟩)⟩)⟩)⟩)⟩)⟩)⟩)⟩)⟩)⟩)⟩)⟩), wru_wsX12_fills_wsX120⟩)⟩) gw_wsX12_whyNotHalf
set_option maxRecDepth 20000 in
theorem gX12_fills_X12_whyNotHalf : GoodIn wsX12_fills (wsV RX12 385 RX12 yX12_whyNotHalf wsX12_whyNotHalf) := goodIn_app (goodIn_sub (List.forall_mem_cons.mpr ⟨wrr_wsX12_fills_wsX12_fills_r1 (i := 2) rfl, (List.forall_mem_cons.mpr ⟨wrr_wsX12_fills_wsX12_fills_r1 (i := 3) rfl, (List.forall_mem_cons.mpr ⟨wrr_wsX12_fills_wsX12_fills_r1 (i := 4) rfl, (List.forall_mem_cons.mpr ⟨wrr_wsX12_fills_wsX12_fills_r1 (i := 5) rfl, (fun _ h => absurd h List.not_mem_nil)⟩)⟩)⟩)⟩) (by decide +kernel)) ggX12_fills_X12_whyNotHalf
set_option maxRecDepth 20000 in
theorem ggX12_fills_X12_halfOf : GoodIn wsX12_fills wsX12_halfOf := goodIn_sub (List.forall_mem_cons.mpr ⟨wrr_wsX12_fills_wsX12_fills_r1 (i := 22) rfl, (List.forall_mem_append.mpr ⟨(List.forall_mem_cons.mpr ⟨wrr_wsX12_fills_wsX12_fills_r1 (i := 23) rfl, (List.forall_mem_cons.mpr ⟨wrr_wsX12_fills_wsX12_fills_r2 (i := 0) rfl, (List.forall_mem_cons.mpr ⟨wrr_wsX12_fills_wsX12_fills_r2 (i := 1) rfl, (List.forall_mem_cons.mpr ⟨wrr_wsX12_fills_wsX12_fills_r1 (i := 5) rfl, (List.forall_mem_cons.mpr ⟨wrr_wsX12_fills_wsX12_fills_r2 (i := 2) rfl, (List.forall_mem_cons.mpr ⟨wrr_wsX12_fills_wsX12_fills_r1 (i := 1) rfl, (List.forall_mem_cons.mpr ⟨wrr_wsX12_fills_wsX12_fills_r1 (i := 8) rfl, (List.forall_mem_cons.mpr ⟨wrr_wsX12_fills_wsX12_fills_r1 (i := 9) rfl, (fun _ h => absurd h List.not_mem_nil)⟩)⟩)⟩)⟩)⟩)⟩)⟩)⟩), wru_wsX12_fills_wsX120⟩)⟩) gw_wsX12_halfOf
set_option maxRecDepth 20000 in
theorem gX12_fills_X12_halfOf : GoodIn wsX12_fills (wsV RX12 388 RX12 yX12_halfOf wsX12_halfOf) := goodIn_app (goodIn_sub (List.forall_mem_cons.mpr ⟨wrr_wsX12_fills_wsX12_fills_r1 (i := 19) rfl, (List.forall_mem_cons.mpr ⟨wrr_wsX12_fills_wsX12_fills_r1 (i := 20) rfl, (List.forall_mem_cons.mpr ⟨wrr_wsX12_fills_wsX12_fills_r1 (i := 21) rfl, (List.forall_mem_cons.mpr ⟨wrr_wsX12_fills_wsX12_fills_r1 (i := 5) rfl, (fun _ h => absurd h List.not_mem_nil)⟩)⟩)⟩)⟩) (by decide +kernel)) ggX12_fills_X12_halfOf
set_option maxRecDepth 20000 in
theorem ggX12_fills_X12_in : GoodIn wsX12_fills wsX12_in := goodIn_sub (List.forall_mem_cons.mpr ⟨wrr_wsX12_fills_wsX12_fills_r1 (i := 18) rfl, (fun _ h => absurd h List.not_mem_nil)⟩) gw_wsX12_in
set_option maxRecDepth 20000 in
theorem gX12_fills_X12_in : GoodIn wsX12_fills (va_wsS RX12 85 yX12_in wsX12_in) := goodIn_app (goodIn_sub (List.forall_mem_cons.mpr ⟨wrr_wsX12_fills_wsX12_fills_r1 (i := 16) rfl, (List.forall_mem_cons.mpr ⟨wrr_wsX12_fills_wsX12_fills_r1 (i := 17) rfl, (List.forall_mem_cons.mpr ⟨wrr_wsX12_fills_wsX12_fills_r1 (i := 5) rfl, (fun _ h => absurd h List.not_mem_nil)⟩)⟩)⟩) (by decide +kernel)) ggX12_fills_X12_in
theorem dX12_fills_0 : decode cX12_fills 0 = .ok (.aload_n 0, 1) := by decide +kernel
theorem dX12_fills_1 : decode cX12_fills 1 = .ok (.iconst 0, 1) := by decide +kernel
theorem dX12_fills_2 : decode cX12_fills 2 = .ok (.putfield 80, 3) := by decide +kernel
theorem dX12_fills_5 : decode cX12_fills 5 = .ok (.aload_n 0, 1) := by decide +kernel
theorem dX12_fills_6 : decode cX12_fills 6 = .ok (.iload_n 1, 1) := by decide +kernel
theorem dX12_fills_7 : decode cX12_fills 7 = .ok (.invokevirtual 385, 3) := by decide +kernel
theorem dX12_fills_10 : decode cX12_fills 10 = .ok (.istore_n 3, 1) := by decide +kernel
theorem dX12_fills_11 : decode cX12_fills 11 = .ok (.iload_n 3, 1) := by decide +kernel
theorem dX12_fills_12 : decode cX12_fills 12 = .ok (.ifCond .eq 5, 3) := by decide +kernel
theorem dX12_fills_15 : decode cX12_fills 15 = .ok (.iload_n 3, 1) := by decide +kernel
theorem dX12_fills_16 : decode cX12_fills 16 = .ok (.ireturn, 1) := by decide +kernel
theorem dX12_fills_17 : decode cX12_fills 17 = .ok (.iload_n 2, 1) := by decide +kernel
theorem dX12_fills_18 : decode cX12_fills 18 = .ok (.i2l, 1) := by decide +kernel
theorem dX12_fills_19 : decode cX12_fills 19 = .ok (.lconst 0, 1) := by decide +kernel
theorem dX12_fills_20 : decode cX12_fills 20 = .ok (.aload_n 0, 1) := by decide +kernel
theorem dX12_fills_21 : decode cX12_fills 21 = .ok (.iload_n 1, 1) := by decide +kernel
theorem dX12_fills_22 : decode cX12_fills 22 = .ok (.invokevirtual 388, 3) := by decide +kernel
theorem dX12_fills_25 : decode cX12_fills 25 = .ok (.iconst 1, 1) := by decide +kernel
theorem dX12_fills_26 : decode cX12_fills 26 = .ok (.isub, 1) := by decide +kernel
theorem dX12_fills_27 : decode cX12_fills 27 = .ok (.i2l, 1) := by decide +kernel
theorem dX12_fills_28 : decode cX12_fills 28 = .ok (.invokestatic 85, 3) := by decide +kernel
theorem dX12_fills_31 : decode cX12_fills 31 = .ok (.ifCond .eq 12, 3) := by decide +kernel
theorem dX12_fills_34 : decode cX12_fills 34 = .ok (.aload_n 0, 1) := by decide +kernel
theorem dX12_fills_35 : decode cX12_fills 35 = .ok (.getfield 62, 3) := by decide +kernel
theorem dX12_fills_38 : decode cX12_fills 38 = .ok (.iload_n 2, 1) := by decide +kernel
theorem dX12_fills_39 : decode cX12_fills 39 = .ok (.iaload, 1) := by decide +kernel
theorem dX12_fills_40 : decode cX12_fills 40 = .ok (.goto 4, 3) := by decide +kernel
theorem dX12_fills_43 : decode cX12_fills 43 = .ok (.iconst (-1), 1) := by decide +kernel
theorem dX12_fills_44 : decode cX12_fills 44 = .ok (.ireturn, 1) := by decide +kernel
theorem wrr_wsX12_open {i : Nat} {w : Cond} (h : wsX12_open[i]? = some w) : w ∈ wsX12_open := List.mem_of_getElem? h
theorem wrr_wsX12_open_wsX12_open_r1 {i : Nat} {w : Cond} (h : wsX12_open_r1[i]? = some w) : w ∈ wsX12_open := (List.mem_cons_of_mem _ (List.mem_append_left _ (List.mem_append_left _ (List.mem_of_getElem? h))))
theorem wrr_wsX12_open_wsX12_open_r2 {i : Nat} {w : Cond} (h : wsX12_open_r2[i]? = some w) : w ∈ wsX12_open := (List.mem_cons_of_mem _ (List.mem_append_left _ (List.mem_append_right _ (List.mem_of_getElem? h))))
theorem wru_wsX12_open_wsX120 : ∀ w ∈ wsX120, w ∈ wsX12_open := fun w h => (List.mem_cons_of_mem _ (List.mem_append_right _ h))
set_option maxRecDepth 20000 in
theorem ggX12_open_X12_whyNotHalf : GoodIn wsX12_open wsX12_whyNotHalf := goodIn_sub (List.forall_mem_cons.mpr ⟨wrr_wsX12_open_wsX12_open_r1 (i := 6) rfl, (List.forall_mem_append.mpr ⟨(List.forall_mem_cons.mpr ⟨wrr_wsX12_open_wsX12_open_r1 (i := 7) rfl, (List.forall_mem_cons.mpr ⟨wrr_wsX12_open_wsX12_open_r1 (i := 8) rfl, (List.forall_mem_cons.mpr ⟨wrr_wsX12_open_wsX12_open_r1 (i := 9) rfl, (List.forall_mem_cons.mpr ⟨wrr_wsX12_open_wsX12_open_r1 (i := 10) rfl, (List.forall_mem_cons.mpr ⟨wrr_wsX12_open_wsX12_open_r1 (i := 11) rfl, (List.forall_mem_cons.mpr ⟨wrr_wsX12_open_wsX12_open_r1 (i := 12) rfl, (List.forall_mem_cons.mpr ⟨wrr_wsX12_open_wsX12_open_r1 (i := 13) rfl, (List.forall_mem_cons.mpr ⟨wrr_wsX12_open_wsX12_open_r1 (i := 5) rfl, (List.forall_mem_cons.mpr ⟨wrr_wsX12_open_wsX12_open_r1 (i := 14) rfl, (List.forall_mem_cons.mpr ⟨wrr_wsX12_open_wsX12_open_r1 (i := 15) rfl, (List.forall_mem_cons.mpr ⟨wrr_wsX12_open_wsX12_open_r1 (i := 16) rfl, (List.forall_mem_cons.mpr ⟨wrr_wsX12_open_wsX12_open_r1 (i := 17) rfl, (List.forall_mem_cons.mpr ⟨wrr_wsX12_open_wsX12_open_r1 (i := 18) rfl, (fun _ h => absurd h List.not_mem_nil)⟩)⟩)⟩)⟩)⟩)⟩)⟩)⟩)⟩)⟩)⟩)⟩)⟩), wru_wsX12_open_wsX120⟩)⟩) gw_wsX12_whyNotHalf
set_option maxRecDepth 20000 in
theorem gX12_open_X12_whyNotHalf : GoodIn wsX12_open (wsV RX12 385 RX12 yX12_whyNotHalf wsX12_whyNotHalf) := goodIn_app (goodIn_sub (List.forall_mem_cons.mpr ⟨wrr_wsX12_open_wsX12_open_r1 (i := 2) rfl, (List.forall_mem_cons.mpr ⟨wrr_wsX12_open_wsX12_open_r1 (i := 3) rfl, (List.forall_mem_cons.mpr ⟨wrr_wsX12_open_wsX12_open_r1 (i := 4) rfl, (List.forall_mem_cons.mpr ⟨wrr_wsX12_open_wsX12_open_r1 (i := 5) rfl, (fun _ h => absurd h List.not_mem_nil)⟩)⟩)⟩)⟩) (by decide +kernel)) ggX12_open_X12_whyNotHalf
set_option maxRecDepth 20000 in
theorem ggX12_open_X12_halfOf : GoodIn wsX12_open wsX12_halfOf := goodIn_sub (List.forall_mem_cons.mpr ⟨wrr_wsX12_open_wsX12_open_r1 (i := 22) rfl, (List.forall_mem_append.mpr ⟨(List.forall_mem_cons.mpr ⟨wrr_wsX12_open_wsX12_open_r1 (i := 23) rfl, (List.forall_mem_cons.mpr ⟨wrr_wsX12_open_wsX12_open_r2 (i := 0) rfl, (List.forall_mem_cons.mpr ⟨wrr_wsX12_open_wsX12_open_r2 (i := 1) rfl, (List.forall_mem_cons.mpr ⟨wrr_wsX12_open_wsX12_open_r1 (i := 5) rfl, (List.forall_mem_cons.mpr ⟨wrr_wsX12_open_wsX12_open_r2 (i := 2) rfl, (List.forall_mem_cons.mpr ⟨wrr_wsX12_open_wsX12_open_r1 (i := 1) rfl, (List.forall_mem_cons.mpr ⟨wrr_wsX12_open_wsX12_open_r1 (i := 8) rfl, (List.forall_mem_cons.mpr ⟨wrr_wsX12_open_wsX12_open_r1 (i := 9) rfl, (fun _ h => absurd h List.not_mem_nil)⟩)⟩)⟩)⟩)⟩)⟩)⟩)⟩), wru_wsX12_open_wsX120⟩)⟩) gw_wsX12_halfOf
set_option maxRecDepth 20000 in
theorem gX12_open_X12_halfOf : GoodIn wsX12_open (wsV RX12 388 RX12 yX12_halfOf wsX12_halfOf) := goodIn_app (goodIn_sub (List.forall_mem_cons.mpr ⟨wrr_wsX12_open_wsX12_open_r1 (i := 19) rfl, (List.forall_mem_cons.mpr ⟨wrr_wsX12_open_wsX12_open_r1 (i := 20) rfl, (List.forall_mem_cons.mpr ⟨wrr_wsX12_open_wsX12_open_r1 (i := 21) rfl, (List.forall_mem_cons.mpr ⟨wrr_wsX12_open_wsX12_open_r1 (i := 5) rfl, (fun _ h => absurd h List.not_mem_nil)⟩)⟩)⟩)⟩) (by decide +kernel)) ggX12_open_X12_halfOf
theorem dX12_open_0 : decode cX12_open 0 = .ok (.aload_n 0, 1) := by decide +kernel
theorem dX12_open_1 : decode cX12_open 1 = .ok (.iconst 0, 1) := by decide +kernel
theorem dX12_open_2 : decode cX12_open 2 = .ok (.putfield 80, 3) := by decide +kernel
theorem dX12_open_5 : decode cX12_open 5 = .ok (.aload_n 0, 1) := by decide +kernel
theorem dX12_open_6 : decode cX12_open 6 = .ok (.iload_n 1, 1) := by decide +kernel
theorem dX12_open_7 : decode cX12_open 7 = .ok (.invokevirtual 385, 3) := by decide +kernel
theorem dX12_open_10 : decode cX12_open 10 = .ok (.istore_n 2, 1) := by decide +kernel
theorem dX12_open_11 : decode cX12_open 11 = .ok (.iload_n 2, 1) := by decide +kernel
theorem dX12_open_12 : decode cX12_open 12 = .ok (.ifCond .eq 5, 3) := by decide +kernel
theorem dX12_open_15 : decode cX12_open 15 = .ok (.iload_n 2, 1) := by decide +kernel
theorem dX12_open_16 : decode cX12_open 16 = .ok (.ireturn, 1) := by decide +kernel
theorem dX12_open_17 : decode cX12_open 17 = .ok (.aload_n 0, 1) := by decide +kernel
theorem dX12_open_18 : decode cX12_open 18 = .ok (.iload_n 1, 1) := by decide +kernel
theorem dX12_open_19 : decode cX12_open 19 = .ok (.invokevirtual 388, 3) := by decide +kernel
theorem dX12_open_22 : decode cX12_open 22 = .ok (.istore_n 3, 1) := by decide +kernel
theorem dX12_open_23 : decode cX12_open 23 = .ok (.iload_n 3, 1) := by decide +kernel
theorem dX12_open_24 : decode cX12_open 24 = .ok (.iconst (-1), 1) := by decide +kernel
theorem dX12_open_25 : decode cX12_open 25 = .ok (.if_icmp .ne 5, 3) := by decide +kernel
theorem dX12_open_28 : decode cX12_open 28 = .ok (.iconst (-1), 1) := by decide +kernel
theorem dX12_open_29 : decode cX12_open 29 = .ok (.ireturn, 1) := by decide +kernel
theorem dX12_open_30 : decode cX12_open 30 = .ok (.iconst 0, 1) := by decide +kernel
theorem dX12_open_31 : decode cX12_open 31 = .ok (.istore 4, 2) := by decide +kernel
theorem dX12_open_33 : decode cX12_open 33 = .ok (.iconst 0, 1) := by decide +kernel
theorem dX12_open_34 : decode cX12_open 34 = .ok (.istore 5, 2) := by decide +kernel
theorem dX12_open_36 : decode cX12_open 36 = .ok (.iload 5, 2) := by decide +kernel
theorem dX12_open_38 : decode cX12_open 38 = .ok (.iload_n 3, 1) := by decide +kernel
theorem dX12_open_39 : decode cX12_open 39 = .ok (.if_icmp .ge 30, 3) := by decide +kernel
theorem dX12_open_42 : decode cX12_open 42 = .ok (.iload 4, 2) := by decide +kernel
theorem dX12_open_44 : decode cX12_open 44 = .ok (.aload_n 0, 1) := by decide +kernel
theorem dX12_open_45 : decode cX12_open 45 = .ok (.getfield 62, 3) := by decide +kernel
theorem dX12_open_48 : decode cX12_open 48 = .ok (.iload 5, 2) := by decide +kernel
theorem dX12_open_50 : decode cX12_open 50 = .ok (.iaload, 1) := by decide +kernel
theorem dX12_open_51 : decode cX12_open 51 = .ok (.iconst (-1), 1) := by decide +kernel
theorem dX12_open_52 : decode cX12_open 52 = .ok (.if_icmp .ne 7, 3) := by decide +kernel
theorem dX12_open_55 : decode cX12_open 55 = .ok (.iconst 1, 1) := by decide +kernel
theorem dX12_open_56 : decode cX12_open 56 = .ok (.goto 4, 3) := by decide +kernel
theorem dX12_open_59 : decode cX12_open 59 = .ok (.iconst 0, 1) := by decide +kernel
theorem dX12_open_60 : decode cX12_open 60 = .ok (.iadd, 1) := by decide +kernel
theorem dX12_open_61 : decode cX12_open 61 = .ok (.istore 4, 2) := by decide +kernel
theorem dX12_open_63 : decode cX12_open 63 = .ok (.iinc 5 1, 3) := by decide +kernel
theorem dX12_open_66 : decode cX12_open 66 = .ok (.goto (-30), 3) := by decide +kernel
theorem dX12_open_69 : decode cX12_open 69 = .ok (.iload 4, 2) := by decide +kernel
theorem dX12_open_71 : decode cX12_open 71 = .ok (.ireturn, 1) := by decide +kernel
