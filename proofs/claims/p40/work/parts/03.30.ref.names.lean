abbrev cX12_in : ByteArray := prog_14_method_3_code
def yX12_in : MethodName := ⟨RX12, "in", "(JJJ)Z"⟩
abbrev cX12_isSlot : ByteArray := prog_14_method_4_code
def yX12_isSlot : MethodName := ⟨RX12, "isSlot", "(I)Z"⟩
abbrev cX12_row : ByteArray := prog_14_method_5_code
def yX12_row : MethodName := ⟨RX12, "row", "(III)I"⟩
abbrev cX12_cut : ByteArray := prog_14_method_6_code
def yX12_cut : MethodName := ⟨RX12, "cut", "(JI)J"⟩
abbrev cX12_write : ByteArray := prog_14_method_7_code
def yX12_write : MethodName := ⟨RX12, "write", "(IIJ)I"⟩
abbrev cX12_paste : ByteArray := prog_14_method_8_code
def yX12_paste : MethodName := ⟨RX12, "paste", "(IIIII)I"⟩
abbrev cX12_feed : ByteArray := prog_14_method_9_code
def yX12_feed : MethodName := ⟨RX12, "feed", "(IIIII)I"⟩
abbrev cX12_four : ByteArray := prog_14_method_10_code
def yX12_four : MethodName := ⟨RX12, "four", "(I)V"⟩
abbrev cX12_end : ByteArray := prog_14_method_11_code
def yX12_end : MethodName := ⟨RX12, "end", "(I)I"⟩
abbrev cX12_isByte : ByteArray := prog_14_method_12_code
def yX12_isByte : MethodName := ⟨RX12, "isByte", "(III)Z"⟩
abbrev cX12_next : ByteArray := prog_14_method_13_code
def yX12_next : MethodName := ⟨RX12, "next", "()V"⟩
abbrev cX12_isGood : ByteArray := prog_14_method_14_code
def yX12_isGood : MethodName := ⟨RX12, "isGood", "()Z"⟩
abbrev cX12_fails : ByteArray := prog_14_method_15_code
def yX12_fails : MethodName := ⟨RX12, "fails", "(I)V"⟩
abbrev cX12_is : ByteArray := prog_14_method_16_code
def yX12_is : MethodName := ⟨RX12, "is", "(J)Z"⟩
abbrev cX12_takes : ByteArray := prog_14_method_17_code
def yX12_takes : MethodName := ⟨RX12, "takes", "(J)Z"⟩
abbrev cX12_asks : ByteArray := prog_14_method_18_code
def yX12_asks : MethodName := ⟨RX12, "asks", "(J)V"⟩
abbrev cX12_number : ByteArray := prog_14_method_19_code
def yX12_number : MethodName := ⟨RX12, "number", "(II)I"⟩
abbrev cX12_number_ : ByteArray := prog_14_method_20_code
def yX12_number_ : MethodName := ⟨RX12, "number", "(JII)I"⟩
abbrev cX12_ends : ByteArray := prog_14_method_21_code
def yX12_ends : MethodName := ⟨RX12, "ends", "()V"⟩
abbrev cX12_begins : ByteArray := prog_14_method_22_code
def yX12_begins : MethodName := ⟨RX12, "begins", "()V"⟩
abbrev cX12_isOver : ByteArray := prog_14_method_23_code
def yX12_isOver : MethodName := ⟨RX12, "isOver", "()V"⟩
abbrev cX12_fault : ByteArray := prog_14_method_24_code
def yX12_fault : MethodName := ⟨RX12, "fault", "(I)I"⟩
abbrev cX12_stepHere : ByteArray := prog_14_method_27_code
def yX12_stepHere : MethodName := ⟨RX12, "stepHere", "()I"⟩
abbrev cX12_beatHere : ByteArray := prog_14_method_28_code
def yX12_beatHere : MethodName := ⟨RX12, "beatHere", "()I"⟩
abbrev cX12_isBeat : ByteArray := prog_14_method_41_code
def yX12_isBeat : MethodName := ⟨RX12, "isBeat", "(J)Z"⟩
abbrev cX12_isStep : ByteArray := prog_14_method_42_code
def yX12_isStep : MethodName := ⟨RX12, "isStep", "(J)Z"⟩
abbrev cX12_isBit : ByteArray := prog_14_method_45_code
def yX12_isBit : MethodName := ⟨RX12, "isBit", "(II)Z"⟩
abbrev cX12_sizeOf : ByteArray := prog_14_method_46_code
def yX12_sizeOf : MethodName := ⟨RX12, "sizeOf", "(I)I"⟩
abbrev cX12_known : ByteArray := prog_14_method_98_code
def yX12_known : MethodName := ⟨RX12, "known", "(I)I"⟩
def wsX12_in : List Cond := .code yX12_in cX12_in 6 (some .boolean) :: ([])
def wsX12_isSlot : List Cond := .code yX12_isSlot cX12_isSlot 1 (some .boolean) :: ([.constantLong RX12 83 (3), .methodLink RX12 85 yX12_in, .static yX12_in, .initialized RX12, .code yX12_in cX12_in 6 (some .boolean)])
def wsX12_row : List Cond := .code yX12_row cX12_row 5 (some .int) :: ([.fieldLink RX12 80 "OverHillModel" "thrown" "I", .constantLong RX12 83 (3), .fieldLink RX12 7 "OverHillModel" "width" "[I", .fieldLink RX12 13 "OverHillModel" "many" "[I", .fieldLink RX12 16 "OverHillModel" "cells" "[J", .methodLink RX12 89 yX12_isSlot, .static yX12_isSlot, .initialized RX12, .code yX12_isSlot cX12_isSlot 1 (some .boolean), .methodLink RX12 85 yX12_in, .static yX12_in, .code yX12_in cX12_in 6 (some .boolean)] ++ wsX120)
def wsX12_cut : List Cond := .code yX12_cut cX12_cut 3 (some .long) :: ([])
def wsX12_write : List Cond := .code yX12_write cX12_write 5 (some .int) :: ([.fieldLink RX12 80 "OverHillModel" "thrown" "I", .fieldLink RX12 7 "OverHillModel" "width" "[I", .fieldLink RX12 13 "OverHillModel" "many" "[I", .fieldLink RX12 16 "OverHillModel" "cells" "[J", .methodLink RX12 89 yX12_isSlot, .static yX12_isSlot, .initialized RX12, .code yX12_isSlot cX12_isSlot 1 (some .boolean), .constantLong RX12 83 (3), .methodLink RX12 85 yX12_in, .static yX12_in, .code yX12_in cX12_in 6 (some .boolean), .methodLink RX12 93 yX12_cut, .static yX12_cut, .code yX12_cut cX12_cut 3 (some .long)] ++ wsX120)
def wsX12_paste : List Cond := .code yX12_paste cX12_paste 7 (some .int) :: ([.fieldLink RX12 80 "OverHillModel" "thrown" "I", .fieldLink RX12 7 "OverHillModel" "width" "[I", .fieldLink RX12 13 "OverHillModel" "many" "[I", .fieldLink RX12 20 "OverHillModel" "moved" "[J", .fieldLink RX12 16 "OverHillModel" "cells" "[J", .methodLink RX12 89 yX12_isSlot, .static yX12_isSlot, .initialized RX12, .code yX12_isSlot cX12_isSlot 1 (some .boolean), .constantLong RX12 83 (3), .methodLink RX12 85 yX12_in, .static yX12_in, .code yX12_in cX12_in 6 (some .boolean)] ++ wsX120)
def wsX12_four : List Cond := .code yX12_four cX12_four 3 none :: ([.fieldLink RX12 23 "OverHillModel" "tape" "[B", .fieldLink RX12 97 "OverHillModel" "taped" "I"] ++ wsX120)
def wsX12_feed : List Cond := .code yX12_feed cX12_feed 6 (some .int) :: ([.fieldLink RX12 80 "OverHillModel" "thrown" "I", .fieldLink RX12 97 "OverHillModel" "taped" "I", .methodLink RX12 100 yX12_four, .instanceMethod yX12_four, .selects RX12 yX12_four yX12_four, .initialized RX12, .code yX12_four cX12_four 3 none, .fieldLink RX12 23 "OverHillModel" "tape" "[B"] ++ wsX120)
def wsX12_end : List Cond := .code yX12_end cX12_end 2 (some .int) :: ([.fieldLink RX12 80 "OverHillModel" "thrown" "I", .fieldLink RX12 97 "OverHillModel" "taped" "I", .methodLink RX12 85 yX12_in, .static yX12_in, .initialized RX12, .code yX12_in cX12_in 6 (some .boolean)] ++ wsX120)
def wsX12_isByte : List Cond := .code yX12_isByte cX12_isByte 4 (some .boolean) :: ([.fieldLink RX12 97 "OverHillModel" "taped" "I", .fieldLink RX12 23 "OverHillModel" "tape" "[B"] ++ wsX120)
def wsX12_next : List Cond := .code yX12_next cX12_next 2 none :: ([.fieldLink RX12 104 "OverHillModel" "at" "I", .fieldLink RX12 111 "OverHillModel" "place" "I", .fieldLink RX12 114 "OverHillModel" "value" "I", .fieldLink RX12 117 "OverHillModel" "word" "J", .fieldLink RX12 97 "OverHillModel" "taped" "I", .fieldLink RX12 121 "OverHillModel" "token" "I", .constantLong RX12 124 (-1), .constantLong RX12 126 (27), .fieldLink RX12 23 "OverHillModel" "tape" "[B", .constantLong RX12 128 (96), .constant RX12 130 (100000), .constant RX12 131 (1000000), .methodLink RX12 107 yX12_isByte, .instanceMethod yX12_isByte, .selects RX12 yX12_isByte yX12_isByte, .initialized RX12, .code yX12_isByte cX12_isByte 4 (some .boolean)] ++ wsX120)
def wsX12_isGood : List Cond := .code yX12_isGood cX12_isGood 1 (some .boolean) :: ([.fieldLink RX12 132 "OverHillModel" "bad" "I"] ++ wsX120)
def wsX12_fails : List Cond := .code yX12_fails cX12_fails 2 none :: ([.fieldLink RX12 132 "OverHillModel" "bad" "I", .fieldLink RX12 111 "OverHillModel" "place" "I", .fieldLink RX12 135 "OverHillModel" "badPlace" "I"] ++ wsX120)
def wsX12_is : List Cond := .code yX12_is cX12_is 3 (some .boolean) :: ([.fieldLink RX12 132 "OverHillModel" "bad" "I", .fieldLink RX12 121 "OverHillModel" "token" "I", .fieldLink RX12 117 "OverHillModel" "word" "J"] ++ wsX120)
def wsX12_takes_r1 : List Cond := [Cond.methodLink RX12 138 yX12_is, Cond.instanceMethod yX12_is, Cond.selects RX12 yX12_is yX12_is, Cond.initialized RX12, Cond.code yX12_is cX12_is 3 (some .boolean), Cond.fieldLink RX12 132 "OverHillModel" "bad" "I", Cond.fieldLink RX12 121 "OverHillModel" "token" "I", Cond.fieldLink RX12 117 "OverHillModel" "word" "J", Cond.methodLink RX12 142 yX12_next, Cond.instanceMethod yX12_next, Cond.selects RX12 yX12_next yX12_next, Cond.code yX12_next cX12_next 2 none, Cond.fieldLink RX12 104 "OverHillModel" "at" "I", Cond.fieldLink RX12 111 "OverHillModel" "place" "I", Cond.fieldLink RX12 114 "OverHillModel" "value" "I", Cond.fieldLink RX12 97 "OverHillModel" "taped" "I", Cond.constantLong RX12 124 (-1), Cond.constantLong RX12 126 (27), Cond.fieldLink RX12 23 "OverHillModel" "tape" "[B", Cond.constantLong RX12 128 (96), Cond.constant RX12 130 (100000), Cond.constant RX12 131 (1000000), Cond.methodLink RX12 107 yX12_isByte, Cond.instanceMethod yX12_isByte]
def wsX12_takes_r2 : List Cond := [Cond.selects RX12 yX12_isByte yX12_isByte, Cond.code yX12_isByte cX12_isByte 4 (some .boolean)]
def wsX12_takes : List Cond := .code yX12_takes cX12_takes 3 (some .boolean) :: ((wsX12_takes_r1 ++ wsX12_takes_r2) ++ wsX120)
def wsX12_asks_r1 : List Cond := [Cond.methodLink RX12 145 yX12_takes, Cond.instanceMethod yX12_takes, Cond.selects RX12 yX12_takes yX12_takes, Cond.initialized RX12, Cond.code yX12_takes cX12_takes 3 (some .boolean), Cond.methodLink RX12 138 yX12_is, Cond.instanceMethod yX12_is, Cond.selects RX12 yX12_is yX12_is, Cond.code yX12_is cX12_is 3 (some .boolean), Cond.fieldLink RX12 132 "OverHillModel" "bad" "I", Cond.fieldLink RX12 121 "OverHillModel" "token" "I", Cond.fieldLink RX12 117 "OverHillModel" "word" "J", Cond.methodLink RX12 142 yX12_next, Cond.instanceMethod yX12_next, Cond.selects RX12 yX12_next yX12_next, Cond.code yX12_next cX12_next 2 none, Cond.fieldLink RX12 104 "OverHillModel" "at" "I", Cond.fieldLink RX12 111 "OverHillModel" "place" "I", Cond.fieldLink RX12 114 "OverHillModel" "value" "I", Cond.fieldLink RX12 97 "OverHillModel" "taped" "I", Cond.constantLong RX12 124 (-1), Cond.constantLong RX12 126 (27), Cond.fieldLink RX12 23 "OverHillModel" "tape" "[B", Cond.constantLong RX12 128 (96)]
def wsX12_asks_r2 : List Cond := [Cond.constant RX12 130 (100000), Cond.constant RX12 131 (1000000), Cond.methodLink RX12 107 yX12_isByte, Cond.instanceMethod yX12_isByte, Cond.selects RX12 yX12_isByte yX12_isByte, Cond.code yX12_isByte cX12_isByte 4 (some .boolean), Cond.methodLink RX12 148 yX12_fails, Cond.instanceMethod yX12_fails, Cond.selects RX12 yX12_fails yX12_fails, Cond.code yX12_fails cX12_fails 2 none, Cond.fieldLink RX12 135 "OverHillModel" "badPlace" "I"]
def wsX12_asks : List Cond := .code yX12_asks cX12_asks 3 none :: ((wsX12_asks_r1 ++ wsX12_asks_r2) ++ wsX120)
def wsX12_number_r1 : List Cond := [Cond.fieldLink RX12 132 "OverHillModel" "bad" "I", Cond.fieldLink RX12 121 "OverHillModel" "token" "I", Cond.fieldLink RX12 114 "OverHillModel" "value" "I", Cond.methodLink RX12 148 yX12_fails, Cond.instanceMethod yX12_fails, Cond.selects RX12 yX12_fails yX12_fails, Cond.initialized RX12, Cond.code yX12_fails cX12_fails 2 none, Cond.fieldLink RX12 111 "OverHillModel" "place" "I", Cond.fieldLink RX12 135 "OverHillModel" "badPlace" "I", Cond.methodLink RX12 85 yX12_in, Cond.static yX12_in, Cond.code yX12_in cX12_in 6 (some .boolean), Cond.methodLink RX12 142 yX12_next, Cond.instanceMethod yX12_next, Cond.selects RX12 yX12_next yX12_next, Cond.code yX12_next cX12_next 2 none, Cond.fieldLink RX12 104 "OverHillModel" "at" "I", Cond.fieldLink RX12 117 "OverHillModel" "word" "J", Cond.fieldLink RX12 97 "OverHillModel" "taped" "I", Cond.constantLong RX12 124 (-1), Cond.constantLong RX12 126 (27), Cond.fieldLink RX12 23 "OverHillModel" "tape" "[B", Cond.constantLong RX12 128 (96)]
def wsX12_number_r2 : List Cond := [Cond.constant RX12 130 (100000), Cond.constant RX12 131 (1000000), Cond.methodLink RX12 107 yX12_isByte, Cond.instanceMethod yX12_isByte, Cond.selects RX12 yX12_isByte yX12_isByte, Cond.code yX12_isByte cX12_isByte 4 (some .boolean)]
def wsX12_number : List Cond := .code yX12_number cX12_number 4 (some .int) :: ((wsX12_number_r1 ++ wsX12_number_r2) ++ wsX120)
def wsX12_number__r1 : List Cond := [Cond.methodLink RX12 151 yX12_asks, Cond.instanceMethod yX12_asks, Cond.selects RX12 yX12_asks yX12_asks, Cond.initialized RX12, Cond.code yX12_asks cX12_asks 3 none, Cond.methodLink RX12 145 yX12_takes, Cond.instanceMethod yX12_takes, Cond.selects RX12 yX12_takes yX12_takes, Cond.code yX12_takes cX12_takes 3 (some .boolean), Cond.methodLink RX12 138 yX12_is, Cond.instanceMethod yX12_is, Cond.selects RX12 yX12_is yX12_is, Cond.code yX12_is cX12_is 3 (some .boolean), Cond.fieldLink RX12 132 "OverHillModel" "bad" "I", Cond.fieldLink RX12 121 "OverHillModel" "token" "I", Cond.fieldLink RX12 117 "OverHillModel" "word" "J", Cond.methodLink RX12 142 yX12_next, Cond.instanceMethod yX12_next, Cond.selects RX12 yX12_next yX12_next, Cond.code yX12_next cX12_next 2 none, Cond.fieldLink RX12 104 "OverHillModel" "at" "I", Cond.fieldLink RX12 111 "OverHillModel" "place" "I", Cond.fieldLink RX12 114 "OverHillModel" "value" "I", Cond.fieldLink RX12 97 "OverHillModel" "taped" "I"]
def wsX12_number__r2 : List Cond := [Cond.constantLong RX12 124 (-1), Cond.constantLong RX12 126 (27), Cond.fieldLink RX12 23 "OverHillModel" "tape" "[B", Cond.constantLong RX12 128 (96), Cond.constant RX12 130 (100000), Cond.constant RX12 131 (1000000), Cond.methodLink RX12 107 yX12_isByte, Cond.instanceMethod yX12_isByte, Cond.selects RX12 yX12_isByte yX12_isByte, Cond.code yX12_isByte cX12_isByte 4 (some .boolean), Cond.methodLink RX12 148 yX12_fails, Cond.instanceMethod yX12_fails, Cond.selects RX12 yX12_fails yX12_fails, Cond.code yX12_fails cX12_fails 2 none, Cond.fieldLink RX12 135 "OverHillModel" "badPlace" "I", Cond.methodLink RX12 155 yX12_number, Cond.instanceMethod yX12_number, Cond.selects RX12 yX12_number yX12_number, Cond.code yX12_number cX12_number 4 (some .int), Cond.methodLink RX12 85 yX12_in, Cond.static yX12_in, Cond.code yX12_in cX12_in 6 (some .boolean)]
def wsX12_number_ : List Cond := .code yX12_number_ cX12_number_ 5 (some .int) :: ((wsX12_number__r1 ++ wsX12_number__r2) ++ wsX120)
def wsX12_ends_r1 : List Cond := [Cond.fieldLink RX12 121 "OverHillModel" "token" "I", Cond.fieldLink RX12 132 "OverHillModel" "bad" "I", Cond.methodLink RX12 148 yX12_fails, Cond.instanceMethod yX12_fails, Cond.selects RX12 yX12_fails yX12_fails, Cond.initialized RX12, Cond.code yX12_fails cX12_fails 2 none, Cond.fieldLink RX12 111 "OverHillModel" "place" "I", Cond.fieldLink RX12 135 "OverHillModel" "badPlace" "I", Cond.methodLink RX12 142 yX12_next, Cond.instanceMethod yX12_next, Cond.selects RX12 yX12_next yX12_next, Cond.code yX12_next cX12_next 2 none, Cond.fieldLink RX12 104 "OverHillModel" "at" "I", Cond.fieldLink RX12 114 "OverHillModel" "value" "I", Cond.fieldLink RX12 117 "OverHillModel" "word" "J", Cond.fieldLink RX12 97 "OverHillModel" "taped" "I", Cond.constantLong RX12 124 (-1), Cond.constantLong RX12 126 (27), Cond.fieldLink RX12 23 "OverHillModel" "tape" "[B", Cond.constantLong RX12 128 (96), Cond.constant RX12 130 (100000), Cond.constant RX12 131 (1000000), Cond.methodLink RX12 107 yX12_isByte]
def wsX12_ends_r2 : List Cond := [Cond.instanceMethod yX12_isByte, Cond.selects RX12 yX12_isByte yX12_isByte, Cond.code yX12_isByte cX12_isByte 4 (some .boolean)]
def wsX12_ends : List Cond := .code yX12_ends cX12_ends 1 none :: ((wsX12_ends_r1 ++ wsX12_ends_r2) ++ wsX120)
def wsX12_begins : List Cond := .code yX12_begins cX12_begins 1 none :: ([.fieldLink RX12 132 "OverHillModel" "bad" "I", .fieldLink RX12 135 "OverHillModel" "badPlace" "I", .fieldLink RX12 104 "OverHillModel" "at" "I", .methodLink RX12 142 yX12_next, .instanceMethod yX12_next, .selects RX12 yX12_next yX12_next, .initialized RX12, .code yX12_next cX12_next 2 none, .fieldLink RX12 111 "OverHillModel" "place" "I", .fieldLink RX12 114 "OverHillModel" "value" "I", .fieldLink RX12 117 "OverHillModel" "word" "J", .fieldLink RX12 97 "OverHillModel" "taped" "I", .fieldLink RX12 121 "OverHillModel" "token" "I", .constantLong RX12 124 (-1), .constantLong RX12 126 (27), .fieldLink RX12 23 "OverHillModel" "tape" "[B", .constantLong RX12 128 (96), .constant RX12 130 (100000), .constant RX12 131 (1000000), .methodLink RX12 107 yX12_isByte, .instanceMethod yX12_isByte, .selects RX12 yX12_isByte yX12_isByte, .code yX12_isByte cX12_isByte 4 (some .boolean)] ++ wsX120)
def wsX12_isOver : List Cond := .code yX12_isOver cX12_isOver 1 none :: ([.fieldLink RX12 97 "OverHillModel" "taped" "I", .fieldLink RX12 132 "OverHillModel" "bad" "I", .fieldLink RX12 159 "OverHillModel" "fault" "I", .fieldLink RX12 135 "OverHillModel" "badPlace" "I", .fieldLink RX12 27 "OverHillModel" "faultPlace" "I"] ++ wsX120)
def wsX12_fault : List Cond := .code yX12_fault cX12_fault 2 (some .int) :: ([.fieldLink RX12 80 "OverHillModel" "thrown" "I", .fieldLink RX12 159 "OverHillModel" "fault" "I", .fieldLink RX12 27 "OverHillModel" "faultPlace" "I"] ++ wsX120)
def wsX12_stepHere_r1 : List Cond := [Cond.methodLink RX12 155 yX12_number, Cond.instanceMethod yX12_number, Cond.selects RX12 yX12_number yX12_number, Cond.initialized RX12, Cond.code yX12_number cX12_number 4 (some .int), Cond.fieldLink RX12 132 "OverHillModel" "bad" "I", Cond.fieldLink RX12 121 "OverHillModel" "token" "I", Cond.fieldLink RX12 114 "OverHillModel" "value" "I", Cond.methodLink RX12 148 yX12_fails, Cond.instanceMethod yX12_fails, Cond.selects RX12 yX12_fails yX12_fails, Cond.code yX12_fails cX12_fails 2 none, Cond.fieldLink RX12 111 "OverHillModel" "place" "I", Cond.fieldLink RX12 135 "OverHillModel" "badPlace" "I", Cond.methodLink RX12 85 yX12_in, Cond.static yX12_in, Cond.code yX12_in cX12_in 6 (some .boolean), Cond.methodLink RX12 142 yX12_next, Cond.instanceMethod yX12_next, Cond.selects RX12 yX12_next yX12_next, Cond.code yX12_next cX12_next 2 none, Cond.fieldLink RX12 104 "OverHillModel" "at" "I", Cond.fieldLink RX12 117 "OverHillModel" "word" "J", Cond.fieldLink RX12 97 "OverHillModel" "taped" "I"]
def wsX12_stepHere_r2 : List Cond := [Cond.constantLong RX12 124 (-1), Cond.constantLong RX12 126 (27), Cond.fieldLink RX12 23 "OverHillModel" "tape" "[B", Cond.constantLong RX12 128 (96), Cond.constant RX12 130 (100000), Cond.constant RX12 131 (1000000), Cond.methodLink RX12 107 yX12_isByte, Cond.instanceMethod yX12_isByte, Cond.selects RX12 yX12_isByte yX12_isByte, Cond.code yX12_isByte cX12_isByte 4 (some .boolean)]
def wsX12_stepHere : List Cond := .code yX12_stepHere cX12_stepHere 1 (some .int) :: ((wsX12_stepHere_r1 ++ wsX12_stepHere_r2) ++ wsX120)
def wsX12_beatHere_r1 : List Cond := [Cond.methodLink RX12 155 yX12_number, Cond.instanceMethod yX12_number, Cond.selects RX12 yX12_number yX12_number, Cond.initialized RX12, Cond.code yX12_number cX12_number 4 (some .int), Cond.fieldLink RX12 132 "OverHillModel" "bad" "I", Cond.fieldLink RX12 121 "OverHillModel" "token" "I", Cond.fieldLink RX12 114 "OverHillModel" "value" "I", Cond.methodLink RX12 148 yX12_fails, Cond.instanceMethod yX12_fails, Cond.selects RX12 yX12_fails yX12_fails, Cond.code yX12_fails cX12_fails 2 none, Cond.fieldLink RX12 111 "OverHillModel" "place" "I", Cond.fieldLink RX12 135 "OverHillModel" "badPlace" "I", Cond.methodLink RX12 85 yX12_in, Cond.static yX12_in, Cond.code yX12_in cX12_in 6 (some .boolean), Cond.methodLink RX12 142 yX12_next, Cond.instanceMethod yX12_next, Cond.selects RX12 yX12_next yX12_next, Cond.code yX12_next cX12_next 2 none, Cond.fieldLink RX12 104 "OverHillModel" "at" "I", Cond.fieldLink RX12 117 "OverHillModel" "word" "J", Cond.fieldLink RX12 97 "OverHillModel" "taped" "I"]
def wsX12_beatHere_r2 : List Cond := [Cond.constantLong RX12 124 (-1), Cond.constantLong RX12 126 (27), Cond.fieldLink RX12 23 "OverHillModel" "tape" "[B", Cond.constantLong RX12 128 (96), Cond.constant RX12 130 (100000), Cond.constant RX12 131 (1000000), Cond.methodLink RX12 107 yX12_isByte, Cond.instanceMethod yX12_isByte, Cond.selects RX12 yX12_isByte yX12_isByte, Cond.code yX12_isByte cX12_isByte 4 (some .boolean)]
def wsX12_beatHere : List Cond := .code yX12_beatHere cX12_beatHere 1 (some .int) :: ((wsX12_beatHere_r1 ++ wsX12_beatHere_r2) ++ wsX120)
def wsX12_isBeat : List Cond := .code yX12_isBeat cX12_isBeat 2 (some .boolean) :: ([.constantLong RX12 257 (199), .methodLink RX12 85 yX12_in, .static yX12_in, .initialized RX12, .code yX12_in cX12_in 6 (some .boolean)])
def wsX12_isStep : List Cond := .code yX12_isStep cX12_isStep 2 (some .boolean) :: ([.constantLong RX12 259 (5), .methodLink RX12 85 yX12_in, .static yX12_in, .initialized RX12, .code yX12_in cX12_in 6 (some .boolean)])
def wsX12_isBit : List Cond := .code yX12_isBit cX12_isBit 2 (some .boolean) :: ([])
def wsX12_sizeOf : List Cond := .code yX12_sizeOf cX12_sizeOf 3 (some .int) :: ([])
def wsX12_known : List Cond := .code yX12_known cX12_known 1 (some .int) :: ([])
theorem dX12_in_0 : decode cX12_in 0 = .ok (.lload_n 0, 1) := by decide +kernel
theorem dX12_in_1 : decode cX12_in 1 = .ok (.lload_n 2, 1) := by decide +kernel
theorem dX12_in_2 : decode cX12_in 2 = .ok (.lcmp, 1) := by decide +kernel
theorem dX12_in_3 : decode cX12_in 3 = .ok (.ifCond .lt 14, 3) := by decide +kernel
theorem dX12_in_6 : decode cX12_in 6 = .ok (.lload_n 0, 1) := by decide +kernel
theorem dX12_in_7 : decode cX12_in 7 = .ok (.lload 4, 2) := by decide +kernel
theorem dX12_in_9 : decode cX12_in 9 = .ok (.lcmp, 1) := by decide +kernel
theorem dX12_in_10 : decode cX12_in 10 = .ok (.ifCond .gt 7, 3) := by decide +kernel
theorem dX12_in_13 : decode cX12_in 13 = .ok (.iconst 1, 1) := by decide +kernel
theorem dX12_in_14 : decode cX12_in 14 = .ok (.goto 4, 3) := by decide +kernel
theorem dX12_in_17 : decode cX12_in 17 = .ok (.iconst 0, 1) := by decide +kernel
theorem dX12_in_18 : decode cX12_in 18 = .ok (.ireturn, 1) := by decide +kernel
theorem wrr_wsX12_isSlot {i : Nat} {w : Cond} (h : wsX12_isSlot[i]? = some w) : w ∈ wsX12_isSlot := List.mem_of_getElem? h
set_option maxRecDepth 20000 in
theorem gw_wsX12_in : wsX12_in.all goodWord = true := by decide +kernel
set_option maxRecDepth 20000 in
theorem ggX12_isSlot_X12_in : GoodIn wsX12_isSlot wsX12_in := goodIn_sub (List.forall_mem_cons.mpr ⟨wrr_wsX12_isSlot (i := 5) rfl, (fun _ h => absurd h List.not_mem_nil)⟩) gw_wsX12_in
set_option maxRecDepth 20000 in
theorem gX12_isSlot_X12_in : GoodIn wsX12_isSlot (va_wsS RX12 85 yX12_in wsX12_in) := goodIn_app (goodIn_sub (List.forall_mem_cons.mpr ⟨wrr_wsX12_isSlot (i := 2) rfl, (List.forall_mem_cons.mpr ⟨wrr_wsX12_isSlot (i := 3) rfl, (List.forall_mem_cons.mpr ⟨wrr_wsX12_isSlot (i := 4) rfl, (fun _ h => absurd h List.not_mem_nil)⟩)⟩)⟩) (by decide +kernel)) ggX12_isSlot_X12_in
theorem dX12_isSlot_0 : decode cX12_isSlot 0 = .ok (.iload_n 0, 1) := by decide +kernel
theorem dX12_isSlot_1 : decode cX12_isSlot 1 = .ok (.i2l, 1) := by decide +kernel
theorem dX12_isSlot_2 : decode cX12_isSlot 2 = .ok (.lconst 0, 1) := by decide +kernel
theorem dX12_isSlot_3 : decode cX12_isSlot 3 = .ok (.ldc2_w 83, 3) := by decide +kernel
theorem dX12_isSlot_6 : decode cX12_isSlot 6 = .ok (.invokestatic 85, 3) := by decide +kernel
theorem dX12_isSlot_9 : decode cX12_isSlot 9 = .ok (.ireturn, 1) := by decide +kernel
theorem wrr_wsX12_row {i : Nat} {w : Cond} (h : wsX12_row[i]? = some w) : w ∈ wsX12_row := List.mem_of_getElem? h
theorem wru_wsX12_row_wsX120 : ∀ w ∈ wsX120, w ∈ wsX12_row := fun w h => (List.mem_cons_of_mem _ (List.mem_append_right _ h))
set_option maxRecDepth 20000 in
theorem gw_wsX12_isSlot : wsX12_isSlot.all goodWord = true := by decide +kernel
set_option maxRecDepth 20000 in
theorem ggX12_row_X12_isSlot : GoodIn wsX12_row wsX12_isSlot := goodIn_sub (List.forall_mem_cons.mpr ⟨wrr_wsX12_row (i := 9) rfl, (List.forall_mem_cons.mpr ⟨wrr_wsX12_row (i := 2) rfl, (List.forall_mem_cons.mpr ⟨wrr_wsX12_row (i := 10) rfl, (List.forall_mem_cons.mpr ⟨wrr_wsX12_row (i := 11) rfl, (List.forall_mem_cons.mpr ⟨wrr_wsX12_row (i := 8) rfl, (List.forall_mem_cons.mpr ⟨wrr_wsX12_row (i := 12) rfl, (fun _ h => absurd h List.not_mem_nil)⟩)⟩)⟩)⟩)⟩)⟩) gw_wsX12_isSlot
set_option maxRecDepth 20000 in
theorem gX12_row_X12_isSlot : GoodIn wsX12_row (va_wsS RX12 89 yX12_isSlot wsX12_isSlot) := goodIn_app (goodIn_sub (List.forall_mem_cons.mpr ⟨wrr_wsX12_row (i := 6) rfl, (List.forall_mem_cons.mpr ⟨wrr_wsX12_row (i := 7) rfl, (List.forall_mem_cons.mpr ⟨wrr_wsX12_row (i := 8) rfl, (fun _ h => absurd h List.not_mem_nil)⟩)⟩)⟩) (by decide +kernel)) ggX12_row_X12_isSlot
set_option maxRecDepth 20000 in
theorem ggX12_row_X12_in : GoodIn wsX12_row wsX12_in := goodIn_sub (List.forall_mem_cons.mpr ⟨wrr_wsX12_row (i := 12) rfl, (fun _ h => absurd h List.not_mem_nil)⟩) gw_wsX12_in
set_option maxRecDepth 20000 in
theorem gX12_row_X12_in : GoodIn wsX12_row (va_wsS RX12 85 yX12_in wsX12_in) := goodIn_app (goodIn_sub (List.forall_mem_cons.mpr ⟨wrr_wsX12_row (i := 10) rfl, (List.forall_mem_cons.mpr ⟨wrr_wsX12_row (i := 11) rfl, (List.forall_mem_cons.mpr ⟨wrr_wsX12_row (i := 8) rfl, (fun _ h => absurd h List.not_mem_nil)⟩)⟩)⟩) (by decide +kernel)) ggX12_row_X12_in
theorem dX12_row_0 : decode cX12_row 0 = .ok (.aload_n 0, 1) := by decide +kernel
theorem dX12_row_1 : decode cX12_row 1 = .ok (.iconst 0, 1) := by decide +kernel
theorem dX12_row_2 : decode cX12_row 2 = .ok (.putfield 80, 3) := by decide +kernel
theorem dX12_row_5 : decode cX12_row 5 = .ok (.iload_n 1, 1) := by decide +kernel
theorem dX12_row_6 : decode cX12_row 6 = .ok (.invokestatic 89, 3) := by decide +kernel
theorem dX12_row_9 : decode cX12_row 9 = .ok (.ifCond .eq 21, 3) := by decide +kernel
theorem dX12_row_12 : decode cX12_row 12 = .ok (.iload_n 2, 1) := by decide +kernel
theorem dX12_row_13 : decode cX12_row 13 = .ok (.i2l, 1) := by decide +kernel
theorem dX12_row_14 : decode cX12_row 14 = .ok (.lconst 0, 1) := by decide +kernel
theorem dX12_row_15 : decode cX12_row 15 = .ok (.ldc2_w 83, 3) := by decide +kernel
theorem dX12_row_18 : decode cX12_row 18 = .ok (.invokestatic 85, 3) := by decide +kernel
theorem dX12_row_21 : decode cX12_row 21 = .ok (.ifCond .eq 9, 3) := by decide +kernel
theorem dX12_row_24 : decode cX12_row 24 = .ok (.iload_n 3, 1) := by decide +kernel
theorem dX12_row_25 : decode cX12_row 25 = .ok (.bipush 60, 2) := by decide +kernel
theorem dX12_row_27 : decode cX12_row 27 = .ok (.if_icmp .le 6, 3) := by decide +kernel
theorem dX12_row_30 : decode cX12_row 30 = .ok (.bipush (-2), 2) := by decide +kernel
theorem dX12_row_32 : decode cX12_row 32 = .ok (.ireturn, 1) := by decide +kernel
theorem dX12_row_33 : decode cX12_row 33 = .ok (.iload_n 3, 1) := by decide +kernel
theorem dX12_row_34 : decode cX12_row 34 = .ok (.ifCond .ge 6, 3) := by decide +kernel
theorem dX12_row_37 : decode cX12_row 37 = .ok (.bipush (-3), 2) := by decide +kernel
theorem dX12_row_39 : decode cX12_row 39 = .ok (.ireturn, 1) := by decide +kernel
theorem dX12_row_40 : decode cX12_row 40 = .ok (.aload_n 0, 1) := by decide +kernel
theorem dX12_row_41 : decode cX12_row 41 = .ok (.getfield 7, 3) := by decide +kernel
theorem dX12_row_44 : decode cX12_row 44 = .ok (.iload_n 1, 1) := by decide +kernel
theorem dX12_row_45 : decode cX12_row 45 = .ok (.iload_n 2, 1) := by decide +kernel
theorem dX12_row_46 : decode cX12_row 46 = .ok (.iastore, 1) := by decide +kernel
theorem dX12_row_47 : decode cX12_row 47 = .ok (.aload_n 0, 1) := by decide +kernel
theorem dX12_row_48 : decode cX12_row 48 = .ok (.getfield 13, 3) := by decide +kernel
theorem dX12_row_51 : decode cX12_row 51 = .ok (.iload_n 1, 1) := by decide +kernel
theorem dX12_row_52 : decode cX12_row 52 = .ok (.iload_n 3, 1) := by decide +kernel
theorem dX12_row_53 : decode cX12_row 53 = .ok (.iastore, 1) := by decide +kernel
theorem dX12_row_54 : decode cX12_row 54 = .ok (.iconst 0, 1) := by decide +kernel
theorem dX12_row_55 : decode cX12_row 55 = .ok (.istore 4, 2) := by decide +kernel
theorem dX12_row_57 : decode cX12_row 57 = .ok (.iload 4, 2) := by decide +kernel
theorem dX12_row_59 : decode cX12_row 59 = .ok (.iload_n 3, 1) := by decide +kernel
theorem dX12_row_60 : decode cX12_row 60 = .ok (.if_icmp .ge 22, 3) := by decide +kernel
theorem dX12_row_63 : decode cX12_row 63 = .ok (.aload_n 0, 1) := by decide +kernel
theorem dX12_row_64 : decode cX12_row 64 = .ok (.getfield 16, 3) := by decide +kernel
theorem dX12_row_67 : decode cX12_row 67 = .ok (.bipush 60, 2) := by decide +kernel
theorem dX12_row_69 : decode cX12_row 69 = .ok (.iload_n 1, 1) := by decide +kernel
theorem dX12_row_70 : decode cX12_row 70 = .ok (.imul, 1) := by decide +kernel
theorem dX12_row_71 : decode cX12_row 71 = .ok (.iload 4, 2) := by decide +kernel
theorem dX12_row_73 : decode cX12_row 73 = .ok (.iadd, 1) := by decide +kernel
theorem dX12_row_74 : decode cX12_row 74 = .ok (.lconst 0, 1) := by decide +kernel
theorem dX12_row_75 : decode cX12_row 75 = .ok (.lastore, 1) := by decide +kernel
theorem dX12_row_76 : decode cX12_row 76 = .ok (.iinc 4 1, 3) := by decide +kernel
theorem dX12_row_79 : decode cX12_row 79 = .ok (.goto (-22), 3) := by decide +kernel
theorem dX12_row_82 : decode cX12_row 82 = .ok (.iconst 0, 1) := by decide +kernel
theorem dX12_row_83 : decode cX12_row 83 = .ok (.ireturn, 1) := by decide +kernel
theorem dX12_cut_0 : decode cX12_cut 0 = .ok (.iload_n 2, 1) := by decide +kernel
theorem dX12_cut_1 : decode cX12_cut 1 = .ok (.ifCond .ne 10, 3) := by decide +kernel
theorem dX12_cut_4 : decode cX12_cut 4 = .ok (.lload_n 0, 1) := by decide +kernel
theorem dX12_cut_5 : decode cX12_cut 5 = .ok (.l2i, 1) := by decide +kernel
theorem dX12_cut_6 : decode cX12_cut 6 = .ok (.i2b, 1) := by decide +kernel
theorem dX12_cut_7 : decode cX12_cut 7 = .ok (.i2l, 1) := by decide +kernel
theorem dX12_cut_8 : decode cX12_cut 8 = .ok (.goto 27, 3) := by decide +kernel
theorem dX12_cut_11 : decode cX12_cut 11 = .ok (.iload_n 2, 1) := by decide +kernel
theorem dX12_cut_12 : decode cX12_cut 12 = .ok (.iconst 1, 1) := by decide +kernel
theorem dX12_cut_13 : decode cX12_cut 13 = .ok (.if_icmp .ne 10, 3) := by decide +kernel
theorem dX12_cut_16 : decode cX12_cut 16 = .ok (.lload_n 0, 1) := by decide +kernel
theorem dX12_cut_17 : decode cX12_cut 17 = .ok (.l2i, 1) := by decide +kernel
theorem dX12_cut_18 : decode cX12_cut 18 = .ok (.i2s, 1) := by decide +kernel
theorem dX12_cut_19 : decode cX12_cut 19 = .ok (.i2l, 1) := by decide +kernel
theorem dX12_cut_20 : decode cX12_cut 20 = .ok (.goto 15, 3) := by decide +kernel
theorem dX12_cut_23 : decode cX12_cut 23 = .ok (.iload_n 2, 1) := by decide +kernel
theorem dX12_cut_24 : decode cX12_cut 24 = .ok (.iconst 2, 1) := by decide +kernel
theorem dX12_cut_25 : decode cX12_cut 25 = .ok (.if_icmp .ne 9, 3) := by decide +kernel
theorem dX12_cut_28 : decode cX12_cut 28 = .ok (.lload_n 0, 1) := by decide +kernel
theorem dX12_cut_29 : decode cX12_cut 29 = .ok (.l2i, 1) := by decide +kernel
theorem dX12_cut_30 : decode cX12_cut 30 = .ok (.i2l, 1) := by decide +kernel
theorem dX12_cut_31 : decode cX12_cut 31 = .ok (.goto 4, 3) := by decide +kernel
theorem dX12_cut_34 : decode cX12_cut 34 = .ok (.lload_n 0, 1) := by decide +kernel
theorem dX12_cut_35 : decode cX12_cut 35 = .ok (.lreturn, 1) := by decide +kernel
theorem wrr_wsX12_write {i : Nat} {w : Cond} (h : wsX12_write[i]? = some w) : w ∈ wsX12_write := List.mem_of_getElem? h
theorem wru_wsX12_write_wsX120 : ∀ w ∈ wsX120, w ∈ wsX12_write := fun w h => (List.mem_cons_of_mem _ (List.mem_append_right _ h))
set_option maxRecDepth 20000 in
theorem ggX12_write_X12_isSlot : GoodIn wsX12_write wsX12_isSlot := goodIn_sub (List.forall_mem_cons.mpr ⟨wrr_wsX12_write (i := 8) rfl, (List.forall_mem_cons.mpr ⟨wrr_wsX12_write (i := 9) rfl, (List.forall_mem_cons.mpr ⟨wrr_wsX12_write (i := 10) rfl, (List.forall_mem_cons.mpr ⟨wrr_wsX12_write (i := 11) rfl, (List.forall_mem_cons.mpr ⟨wrr_wsX12_write (i := 7) rfl, (List.forall_mem_cons.mpr ⟨wrr_wsX12_write (i := 12) rfl, (fun _ h => absurd h List.not_mem_nil)⟩)⟩)⟩)⟩)⟩)⟩) gw_wsX12_isSlot
set_option maxRecDepth 20000 in
theorem gX12_write_X12_isSlot : GoodIn wsX12_write (va_wsS RX12 89 yX12_isSlot wsX12_isSlot) := goodIn_app (goodIn_sub (List.forall_mem_cons.mpr ⟨wrr_wsX12_write (i := 5) rfl, (List.forall_mem_cons.mpr ⟨wrr_wsX12_write (i := 6) rfl, (List.forall_mem_cons.mpr ⟨wrr_wsX12_write (i := 7) rfl, (fun _ h => absurd h List.not_mem_nil)⟩)⟩)⟩) (by decide +kernel)) ggX12_write_X12_isSlot
set_option maxRecDepth 20000 in
theorem ggX12_write_X12_in : GoodIn wsX12_write wsX12_in := goodIn_sub (List.forall_mem_cons.mpr ⟨wrr_wsX12_write (i := 12) rfl, (fun _ h => absurd h List.not_mem_nil)⟩) gw_wsX12_in
set_option maxRecDepth 20000 in
theorem gX12_write_X12_in : GoodIn wsX12_write (va_wsS RX12 85 yX12_in wsX12_in) := goodIn_app (goodIn_sub (List.forall_mem_cons.mpr ⟨wrr_wsX12_write (i := 10) rfl, (List.forall_mem_cons.mpr ⟨wrr_wsX12_write (i := 11) rfl, (List.forall_mem_cons.mpr ⟨wrr_wsX12_write (i := 7) rfl, (fun _ h => absurd h List.not_mem_nil)⟩)⟩)⟩) (by decide +kernel)) ggX12_write_X12_in
set_option maxRecDepth 20000 in
theorem gw_wsX12_cut : wsX12_cut.all goodWord = true := by decide +kernel
set_option maxRecDepth 20000 in
theorem ggX12_write_X12_cut : GoodIn wsX12_write wsX12_cut := goodIn_sub (List.forall_mem_cons.mpr ⟨wrr_wsX12_write (i := 15) rfl, (fun _ h => absurd h List.not_mem_nil)⟩) gw_wsX12_cut
set_option maxRecDepth 20000 in
theorem gX12_write_X12_cut : GoodIn wsX12_write (va_wsS RX12 93 yX12_cut wsX12_cut) := goodIn_app (goodIn_sub (List.forall_mem_cons.mpr ⟨wrr_wsX12_write (i := 13) rfl, (List.forall_mem_cons.mpr ⟨wrr_wsX12_write (i := 14) rfl, (List.forall_mem_cons.mpr ⟨wrr_wsX12_write (i := 7) rfl, (fun _ h => absurd h List.not_mem_nil)⟩)⟩)⟩) (by decide +kernel)) ggX12_write_X12_cut
theorem dX12_write_0 : decode cX12_write 0 = .ok (.aload_n 0, 1) := by decide +kernel
theorem dX12_write_1 : decode cX12_write 1 = .ok (.iconst 0, 1) := by decide +kernel
theorem dX12_write_2 : decode cX12_write 2 = .ok (.putfield 80, 3) := by decide +kernel
theorem dX12_write_5 : decode cX12_write 5 = .ok (.iload_n 1, 1) := by decide +kernel
theorem dX12_write_6 : decode cX12_write 6 = .ok (.invokestatic 89, 3) := by decide +kernel
theorem dX12_write_9 : decode cX12_write 9 = .ok (.ifCond .ne 6, 3) := by decide +kernel
theorem dX12_write_12 : decode cX12_write 12 = .ok (.bipush (-2), 2) := by decide +kernel
theorem dX12_write_14 : decode cX12_write 14 = .ok (.ireturn, 1) := by decide +kernel
theorem dX12_write_15 : decode cX12_write 15 = .ok (.aload_n 0, 1) := by decide +kernel
theorem dX12_write_16 : decode cX12_write 16 = .ok (.getfield 7, 3) := by decide +kernel
theorem dX12_write_19 : decode cX12_write 19 = .ok (.iload_n 1, 1) := by decide +kernel
theorem dX12_write_20 : decode cX12_write 20 = .ok (.iaload, 1) := by decide +kernel
theorem dX12_write_21 : decode cX12_write 21 = .ok (.iconst (-1), 1) := by decide +kernel
theorem dX12_write_22 : decode cX12_write 22 = .ok (.if_icmp .ne 6, 3) := by decide +kernel
theorem dX12_write_25 : decode cX12_write 25 = .ok (.bipush (-6), 2) := by decide +kernel
theorem dX12_write_27 : decode cX12_write 27 = .ok (.ireturn, 1) := by decide +kernel
theorem dX12_write_28 : decode cX12_write 28 = .ok (.iload_n 2, 1) := by decide +kernel
theorem dX12_write_29 : decode cX12_write 29 = .ok (.i2l, 1) := by decide +kernel
theorem dX12_write_30 : decode cX12_write 30 = .ok (.lconst 0, 1) := by decide +kernel
theorem dX12_write_31 : decode cX12_write 31 = .ok (.aload_n 0, 1) := by decide +kernel
theorem dX12_write_32 : decode cX12_write 32 = .ok (.getfield 13, 3) := by decide +kernel
theorem dX12_write_35 : decode cX12_write 35 = .ok (.iload_n 1, 1) := by decide +kernel
theorem dX12_write_36 : decode cX12_write 36 = .ok (.iaload, 1) := by decide +kernel
theorem dX12_write_37 : decode cX12_write 37 = .ok (.iconst 1, 1) := by decide +kernel
theorem dX12_write_38 : decode cX12_write 38 = .ok (.isub, 1) := by decide +kernel
theorem dX12_write_39 : decode cX12_write 39 = .ok (.i2l, 1) := by decide +kernel
theorem dX12_write_40 : decode cX12_write 40 = .ok (.invokestatic 85, 3) := by decide +kernel
theorem dX12_write_43 : decode cX12_write 43 = .ok (.ifCond .ne 6, 3) := by decide +kernel
theorem dX12_write_46 : decode cX12_write 46 = .ok (.bipush (-7), 2) := by decide +kernel
theorem dX12_write_48 : decode cX12_write 48 = .ok (.ireturn, 1) := by decide +kernel
theorem dX12_write_49 : decode cX12_write 49 = .ok (.aload_n 0, 1) := by decide +kernel
theorem dX12_write_50 : decode cX12_write 50 = .ok (.getfield 16, 3) := by decide +kernel
theorem dX12_write_53 : decode cX12_write 53 = .ok (.bipush 60, 2) := by decide +kernel
theorem dX12_write_55 : decode cX12_write 55 = .ok (.iload_n 1, 1) := by decide +kernel
theorem dX12_write_56 : decode cX12_write 56 = .ok (.imul, 1) := by decide +kernel
theorem dX12_write_57 : decode cX12_write 57 = .ok (.iload_n 2, 1) := by decide +kernel
theorem dX12_write_58 : decode cX12_write 58 = .ok (.iadd, 1) := by decide +kernel
theorem dX12_write_59 : decode cX12_write 59 = .ok (.lload_n 3, 1) := by decide +kernel
theorem dX12_write_60 : decode cX12_write 60 = .ok (.aload_n 0, 1) := by decide +kernel
theorem dX12_write_61 : decode cX12_write 61 = .ok (.getfield 7, 3) := by decide +kernel
theorem dX12_write_64 : decode cX12_write 64 = .ok (.iload_n 1, 1) := by decide +kernel
theorem dX12_write_65 : decode cX12_write 65 = .ok (.iaload, 1) := by decide +kernel
theorem dX12_write_66 : decode cX12_write 66 = .ok (.invokestatic 93, 3) := by decide +kernel
theorem dX12_write_69 : decode cX12_write 69 = .ok (.lastore, 1) := by decide +kernel
theorem dX12_write_70 : decode cX12_write 70 = .ok (.iconst 0, 1) := by decide +kernel
theorem dX12_write_71 : decode cX12_write 71 = .ok (.ireturn, 1) := by decide +kernel
theorem wrr_wsX12_paste {i : Nat} {w : Cond} (h : wsX12_paste[i]? = some w) : w ∈ wsX12_paste := List.mem_of_getElem? h
theorem wru_wsX12_paste_wsX120 : ∀ w ∈ wsX120, w ∈ wsX12_paste := fun w h => (List.mem_cons_of_mem _ (List.mem_append_right _ h))
set_option maxRecDepth 20000 in
theorem ggX12_paste_X12_isSlot : GoodIn wsX12_paste wsX12_isSlot := goodIn_sub (List.forall_mem_cons.mpr ⟨wrr_wsX12_paste (i := 9) rfl, (List.forall_mem_cons.mpr ⟨wrr_wsX12_paste (i := 10) rfl, (List.forall_mem_cons.mpr ⟨wrr_wsX12_paste (i := 11) rfl, (List.forall_mem_cons.mpr ⟨wrr_wsX12_paste (i := 12) rfl, (List.forall_mem_cons.mpr ⟨wrr_wsX12_paste (i := 8) rfl, (List.forall_mem_cons.mpr ⟨wrr_wsX12_paste (i := 13) rfl, (fun _ h => absurd h List.not_mem_nil)⟩)⟩)⟩)⟩)⟩)⟩) gw_wsX12_isSlot
set_option maxRecDepth 20000 in
theorem gX12_paste_X12_isSlot : GoodIn wsX12_paste (va_wsS RX12 89 yX12_isSlot wsX12_isSlot) := goodIn_app (goodIn_sub (List.forall_mem_cons.mpr ⟨wrr_wsX12_paste (i := 6) rfl, (List.forall_mem_cons.mpr ⟨wrr_wsX12_paste (i := 7) rfl, (List.forall_mem_cons.mpr ⟨wrr_wsX12_paste (i := 8) rfl, (fun _ h => absurd h List.not_mem_nil)⟩)⟩)⟩) (by decide +kernel)) ggX12_paste_X12_isSlot
theorem dX12_paste_0 : decode cX12_paste 0 = .ok (.aload_n 0, 1) := by decide +kernel
theorem dX12_paste_1 : decode cX12_paste 1 = .ok (.iconst 0, 1) := by decide +kernel
theorem dX12_paste_2 : decode cX12_paste 2 = .ok (.putfield 80, 3) := by decide +kernel
theorem dX12_paste_5 : decode cX12_paste 5 = .ok (.iload_n 1, 1) := by decide +kernel
theorem dX12_paste_6 : decode cX12_paste 6 = .ok (.invokestatic 89, 3) := by decide +kernel
theorem dX12_paste_9 : decode cX12_paste 9 = .ok (.ifCond .eq 10, 3) := by decide +kernel
theorem dX12_paste_12 : decode cX12_paste 12 = .ok (.iload_n 3, 1) := by decide +kernel
theorem dX12_paste_13 : decode cX12_paste 13 = .ok (.invokestatic 89, 3) := by decide +kernel
theorem dX12_paste_16 : decode cX12_paste 16 = .ok (.ifCond .ne 6, 3) := by decide +kernel
theorem dX12_paste_19 : decode cX12_paste 19 = .ok (.bipush (-2), 2) := by decide +kernel
theorem dX12_paste_21 : decode cX12_paste 21 = .ok (.ireturn, 1) := by decide +kernel
theorem dX12_paste_22 : decode cX12_paste 22 = .ok (.aload_n 0, 1) := by decide +kernel
theorem dX12_paste_23 : decode cX12_paste 23 = .ok (.getfield 7, 3) := by decide +kernel
theorem dX12_paste_26 : decode cX12_paste 26 = .ok (.iload_n 1, 1) := by decide +kernel
theorem dX12_paste_27 : decode cX12_paste 27 = .ok (.iaload, 1) := by decide +kernel
theorem dX12_paste_28 : decode cX12_paste 28 = .ok (.iconst (-1), 1) := by decide +kernel
theorem dX12_paste_29 : decode cX12_paste 29 = .ok (.if_icmp .eq 13, 3) := by decide +kernel
theorem dX12_paste_32 : decode cX12_paste 32 = .ok (.aload_n 0, 1) := by decide +kernel
theorem dX12_paste_33 : decode cX12_paste 33 = .ok (.getfield 7, 3) := by decide +kernel
theorem dX12_paste_36 : decode cX12_paste 36 = .ok (.iload_n 3, 1) := by decide +kernel
theorem dX12_paste_37 : decode cX12_paste 37 = .ok (.iaload, 1) := by decide +kernel
theorem dX12_paste_38 : decode cX12_paste 38 = .ok (.iconst (-1), 1) := by decide +kernel
theorem dX12_paste_39 : decode cX12_paste 39 = .ok (.if_icmp .ne 6, 3) := by decide +kernel
theorem dX12_paste_42 : decode cX12_paste 42 = .ok (.bipush (-6), 2) := by decide +kernel
theorem dX12_paste_44 : decode cX12_paste 44 = .ok (.ireturn, 1) := by decide +kernel
theorem dX12_paste_45 : decode cX12_paste 45 = .ok (.aload_n 0, 1) := by decide +kernel
theorem dX12_paste_46 : decode cX12_paste 46 = .ok (.getfield 7, 3) := by decide +kernel
theorem dX12_paste_49 : decode cX12_paste 49 = .ok (.iload_n 1, 1) := by decide +kernel
theorem dX12_paste_50 : decode cX12_paste 50 = .ok (.iaload, 1) := by decide +kernel
theorem dX12_paste_51 : decode cX12_paste 51 = .ok (.aload_n 0, 1) := by decide +kernel
theorem dX12_paste_52 : decode cX12_paste 52 = .ok (.getfield 7, 3) := by decide +kernel
theorem dX12_paste_55 : decode cX12_paste 55 = .ok (.iload_n 3, 1) := by decide +kernel
theorem dX12_paste_56 : decode cX12_paste 56 = .ok (.iaload, 1) := by decide +kernel
theorem dX12_paste_57 : decode cX12_paste 57 = .ok (.if_icmp .eq 6, 3) := by decide +kernel
theorem dX12_paste_60 : decode cX12_paste 60 = .ok (.bipush (-8), 2) := by decide +kernel
theorem dX12_paste_62 : decode cX12_paste 62 = .ok (.ireturn, 1) := by decide +kernel
theorem dX12_paste_63 : decode cX12_paste 63 = .ok (.iload_n 2, 1) := by decide +kernel
theorem dX12_paste_64 : decode cX12_paste 64 = .ok (.ifCond .lt 48, 3) := by decide +kernel
theorem dX12_paste_67 : decode cX12_paste 67 = .ok (.iload 4, 2) := by decide +kernel
theorem dX12_paste_69 : decode cX12_paste 69 = .ok (.ifCond .lt 43, 3) := by decide +kernel
theorem dX12_paste_72 : decode cX12_paste 72 = .ok (.iload 5, 2) := by decide +kernel
theorem dX12_paste_74 : decode cX12_paste 74 = .ok (.ifCond .lt 38, 3) := by decide +kernel
theorem dX12_paste_77 : decode cX12_paste 77 = .ok (.iload_n 2, 1) := by decide +kernel
theorem dX12_paste_78 : decode cX12_paste 78 = .ok (.i2l, 1) := by decide +kernel
theorem dX12_paste_79 : decode cX12_paste 79 = .ok (.iload 5, 2) := by decide +kernel
theorem dX12_paste_81 : decode cX12_paste 81 = .ok (.i2l, 1) := by decide +kernel
theorem dX12_paste_82 : decode cX12_paste 82 = .ok (.ladd, 1) := by decide +kernel
theorem dX12_paste_83 : decode cX12_paste 83 = .ok (.aload_n 0, 1) := by decide +kernel
theorem dX12_paste_84 : decode cX12_paste 84 = .ok (.getfield 13, 3) := by decide +kernel
theorem dX12_paste_87 : decode cX12_paste 87 = .ok (.iload_n 1, 1) := by decide +kernel
theorem dX12_paste_88 : decode cX12_paste 88 = .ok (.iaload, 1) := by decide +kernel
theorem dX12_paste_89 : decode cX12_paste 89 = .ok (.i2l, 1) := by decide +kernel
theorem dX12_paste_90 : decode cX12_paste 90 = .ok (.lcmp, 1) := by decide +kernel
theorem dX12_paste_91 : decode cX12_paste 91 = .ok (.ifCond .gt 21, 3) := by decide +kernel
theorem dX12_paste_94 : decode cX12_paste 94 = .ok (.iload 4, 2) := by decide +kernel
theorem dX12_paste_96 : decode cX12_paste 96 = .ok (.i2l, 1) := by decide +kernel
theorem dX12_paste_97 : decode cX12_paste 97 = .ok (.iload 5, 2) := by decide +kernel
theorem dX12_paste_99 : decode cX12_paste 99 = .ok (.i2l, 1) := by decide +kernel
theorem dX12_paste_100 : decode cX12_paste 100 = .ok (.ladd, 1) := by decide +kernel
theorem dX12_paste_101 : decode cX12_paste 101 = .ok (.aload_n 0, 1) := by decide +kernel
theorem dX12_paste_102 : decode cX12_paste 102 = .ok (.getfield 13, 3) := by decide +kernel
theorem dX12_paste_105 : decode cX12_paste 105 = .ok (.iload_n 3, 1) := by decide +kernel
theorem dX12_paste_106 : decode cX12_paste 106 = .ok (.iaload, 1) := by decide +kernel
theorem dX12_paste_107 : decode cX12_paste 107 = .ok (.i2l, 1) := by decide +kernel
theorem dX12_paste_108 : decode cX12_paste 108 = .ok (.lcmp, 1) := by decide +kernel
theorem dX12_paste_109 : decode cX12_paste 109 = .ok (.ifCond .le 6, 3) := by decide +kernel
theorem dX12_paste_112 : decode cX12_paste 112 = .ok (.bipush (-7), 2) := by decide +kernel
theorem dX12_paste_114 : decode cX12_paste 114 = .ok (.ireturn, 1) := by decide +kernel
theorem dX12_paste_115 : decode cX12_paste 115 = .ok (.iconst 0, 1) := by decide +kernel
theorem dX12_paste_116 : decode cX12_paste 116 = .ok (.istore 6, 2) := by decide +kernel
theorem dX12_paste_118 : decode cX12_paste 118 = .ok (.iload 6, 2) := by decide +kernel
theorem dX12_paste_120 : decode cX12_paste 120 = .ok (.iload 5, 2) := by decide +kernel
theorem dX12_paste_122 : decode cX12_paste 122 = .ok (.if_icmp .ge 30, 3) := by decide +kernel
theorem dX12_paste_125 : decode cX12_paste 125 = .ok (.aload_n 0, 1) := by decide +kernel
theorem dX12_paste_126 : decode cX12_paste 126 = .ok (.getfield 20, 3) := by decide +kernel
theorem dX12_paste_129 : decode cX12_paste 129 = .ok (.iload 6, 2) := by decide +kernel
theorem dX12_paste_131 : decode cX12_paste 131 = .ok (.aload_n 0, 1) := by decide +kernel
theorem dX12_paste_132 : decode cX12_paste 132 = .ok (.getfield 16, 3) := by decide +kernel
theorem dX12_paste_135 : decode cX12_paste 135 = .ok (.bipush 60, 2) := by decide +kernel
theorem dX12_paste_137 : decode cX12_paste 137 = .ok (.iload_n 1, 1) := by decide +kernel
theorem dX12_paste_138 : decode cX12_paste 138 = .ok (.imul, 1) := by decide +kernel
theorem dX12_paste_139 : decode cX12_paste 139 = .ok (.iload_n 2, 1) := by decide +kernel
theorem dX12_paste_140 : decode cX12_paste 140 = .ok (.iadd, 1) := by decide +kernel
theorem dX12_paste_141 : decode cX12_paste 141 = .ok (.iload 6, 2) := by decide +kernel
theorem dX12_paste_143 : decode cX12_paste 143 = .ok (.iadd, 1) := by decide +kernel
theorem dX12_paste_144 : decode cX12_paste 144 = .ok (.laload, 1) := by decide +kernel
theorem dX12_paste_145 : decode cX12_paste 145 = .ok (.lastore, 1) := by decide +kernel
theorem dX12_paste_146 : decode cX12_paste 146 = .ok (.iinc 6 1, 3) := by decide +kernel
theorem dX12_paste_149 : decode cX12_paste 149 = .ok (.goto (-31), 3) := by decide +kernel
theorem dX12_paste_152 : decode cX12_paste 152 = .ok (.iconst 0, 1) := by decide +kernel
theorem dX12_paste_153 : decode cX12_paste 153 = .ok (.istore 6, 2) := by decide +kernel
theorem dX12_paste_155 : decode cX12_paste 155 = .ok (.iload 6, 2) := by decide +kernel
theorem dX12_paste_157 : decode cX12_paste 157 = .ok (.iload 5, 2) := by decide +kernel
theorem dX12_paste_159 : decode cX12_paste 159 = .ok (.if_icmp .ge 31, 3) := by decide +kernel
theorem dX12_paste_162 : decode cX12_paste 162 = .ok (.aload_n 0, 1) := by decide +kernel
theorem dX12_paste_163 : decode cX12_paste 163 = .ok (.getfield 16, 3) := by decide +kernel
theorem dX12_paste_166 : decode cX12_paste 166 = .ok (.bipush 60, 2) := by decide +kernel
theorem dX12_paste_168 : decode cX12_paste 168 = .ok (.iload_n 3, 1) := by decide +kernel
theorem dX12_paste_169 : decode cX12_paste 169 = .ok (.imul, 1) := by decide +kernel
theorem dX12_paste_170 : decode cX12_paste 170 = .ok (.iload 4, 2) := by decide +kernel
theorem dX12_paste_172 : decode cX12_paste 172 = .ok (.iadd, 1) := by decide +kernel
theorem dX12_paste_173 : decode cX12_paste 173 = .ok (.iload 6, 2) := by decide +kernel
theorem dX12_paste_175 : decode cX12_paste 175 = .ok (.iadd, 1) := by decide +kernel
theorem dX12_paste_176 : decode cX12_paste 176 = .ok (.aload_n 0, 1) := by decide +kernel
theorem dX12_paste_177 : decode cX12_paste 177 = .ok (.getfield 20, 3) := by decide +kernel
theorem dX12_paste_180 : decode cX12_paste 180 = .ok (.iload 6, 2) := by decide +kernel
theorem dX12_paste_182 : decode cX12_paste 182 = .ok (.laload, 1) := by decide +kernel
theorem dX12_paste_183 : decode cX12_paste 183 = .ok (.lastore, 1) := by decide +kernel
theorem dX12_paste_184 : decode cX12_paste 184 = .ok (.iinc 6 1, 3) := by decide +kernel
theorem dX12_paste_187 : decode cX12_paste 187 = .ok (.goto (-32), 3) := by decide +kernel
theorem dX12_paste_190 : decode cX12_paste 190 = .ok (.iconst 0, 1) := by decide +kernel
theorem dX12_paste_191 : decode cX12_paste 191 = .ok (.ireturn, 1) := by decide +kernel
theorem wrr_wsX12_feed {i : Nat} {w : Cond} (h : wsX12_feed[i]? = some w) : w ∈ wsX12_feed := List.mem_of_getElem? h
theorem wru_wsX12_feed_wsX120 : ∀ w ∈ wsX120, w ∈ wsX12_feed := fun w h => (List.mem_cons_of_mem _ (List.mem_append_right _ h))
set_option maxRecDepth 20000 in
theorem gw_wsX12_four : wsX12_four.all goodWord = true := by decide +kernel
set_option maxRecDepth 20000 in
theorem ggX12_feed_X12_four : GoodIn wsX12_feed wsX12_four := goodIn_sub (List.forall_mem_cons.mpr ⟨wrr_wsX12_feed (i := 7) rfl, (List.forall_mem_append.mpr ⟨(List.forall_mem_cons.mpr ⟨wrr_wsX12_feed (i := 8) rfl, (List.forall_mem_cons.mpr ⟨wrr_wsX12_feed (i := 2) rfl, (fun _ h => absurd h List.not_mem_nil)⟩)⟩), wru_wsX12_feed_wsX120⟩)⟩) gw_wsX12_four
set_option maxRecDepth 20000 in
theorem gX12_feed_X12_four : GoodIn wsX12_feed (wsV RX12 100 RX12 yX12_four wsX12_four) := goodIn_app (goodIn_sub (List.forall_mem_cons.mpr ⟨wrr_wsX12_feed (i := 3) rfl, (List.forall_mem_cons.mpr ⟨wrr_wsX12_feed (i := 4) rfl, (List.forall_mem_cons.mpr ⟨wrr_wsX12_feed (i := 5) rfl, (List.forall_mem_cons.mpr ⟨wrr_wsX12_feed (i := 6) rfl, (fun _ h => absurd h List.not_mem_nil)⟩)⟩)⟩)⟩) (by decide +kernel)) ggX12_feed_X12_four
theorem dX12_feed_0 : decode cX12_feed 0 = .ok (.aload_n 0, 1) := by decide +kernel
theorem dX12_feed_1 : decode cX12_feed 1 = .ok (.iconst 0, 1) := by decide +kernel
theorem dX12_feed_2 : decode cX12_feed 2 = .ok (.putfield 80, 3) := by decide +kernel
theorem dX12_feed_5 : decode cX12_feed 5 = .ok (.aload_n 0, 1) := by decide +kernel
theorem dX12_feed_6 : decode cX12_feed 6 = .ok (.getfield 97, 3) := by decide +kernel
theorem dX12_feed_9 : decode cX12_feed 9 = .ok (.bipush 20, 2) := by decide +kernel
theorem dX12_feed_11 : decode cX12_feed 11 = .ok (.iadd, 1) := by decide +kernel
theorem dX12_feed_12 : decode cX12_feed 12 = .ok (.sipush 1200, 3) := by decide +kernel
theorem dX12_feed_15 : decode cX12_feed 15 = .ok (.if_icmp .le 5, 3) := by decide +kernel
theorem dX12_feed_18 : decode cX12_feed 18 = .ok (.iconst (-1), 1) := by decide +kernel
theorem dX12_feed_19 : decode cX12_feed 19 = .ok (.ireturn, 1) := by decide +kernel
theorem dX12_feed_20 : decode cX12_feed 20 = .ok (.aload_n 0, 1) := by decide +kernel
theorem dX12_feed_21 : decode cX12_feed 21 = .ok (.iload_n 1, 1) := by decide +kernel
theorem dX12_feed_22 : decode cX12_feed 22 = .ok (.invokevirtual 100, 3) := by decide +kernel
theorem dX12_feed_25 : decode cX12_feed 25 = .ok (.aload_n 0, 1) := by decide +kernel
theorem dX12_feed_26 : decode cX12_feed 26 = .ok (.iload_n 2, 1) := by decide +kernel
theorem dX12_feed_27 : decode cX12_feed 27 = .ok (.invokevirtual 100, 3) := by decide +kernel
theorem dX12_feed_30 : decode cX12_feed 30 = .ok (.aload_n 0, 1) := by decide +kernel
theorem dX12_feed_31 : decode cX12_feed 31 = .ok (.iload_n 3, 1) := by decide +kernel
theorem dX12_feed_32 : decode cX12_feed 32 = .ok (.invokevirtual 100, 3) := by decide +kernel
theorem dX12_feed_35 : decode cX12_feed 35 = .ok (.aload_n 0, 1) := by decide +kernel
theorem dX12_feed_36 : decode cX12_feed 36 = .ok (.iload 4, 2) := by decide +kernel
theorem dX12_feed_38 : decode cX12_feed 38 = .ok (.invokevirtual 100, 3) := by decide +kernel
theorem dX12_feed_41 : decode cX12_feed 41 = .ok (.aload_n 0, 1) := by decide +kernel
theorem dX12_feed_42 : decode cX12_feed 42 = .ok (.iload 5, 2) := by decide +kernel
theorem dX12_feed_44 : decode cX12_feed 44 = .ok (.invokevirtual 100, 3) := by decide +kernel
theorem dX12_feed_47 : decode cX12_feed 47 = .ok (.aload_n 0, 1) := by decide +kernel
theorem dX12_feed_48 : decode cX12_feed 48 = .ok (.getfield 97, 3) := by decide +kernel
theorem dX12_feed_51 : decode cX12_feed 51 = .ok (.ireturn, 1) := by decide +kernel
theorem dX12_four_0 : decode cX12_four 0 = .ok (.bipush 24, 2) := by decide +kernel
theorem dX12_four_2 : decode cX12_four 2 = .ok (.istore_n 2, 1) := by decide +kernel
theorem dX12_four_3 : decode cX12_four 3 = .ok (.iload_n 2, 1) := by decide +kernel
theorem dX12_four_4 : decode cX12_four 4 = .ok (.ifCond .lt 32, 3) := by decide +kernel
theorem dX12_four_7 : decode cX12_four 7 = .ok (.aload_n 0, 1) := by decide +kernel
theorem dX12_four_8 : decode cX12_four 8 = .ok (.getfield 23, 3) := by decide +kernel
theorem dX12_four_11 : decode cX12_four 11 = .ok (.aload_n 0, 1) := by decide +kernel
theorem dX12_four_12 : decode cX12_four 12 = .ok (.getfield 97, 3) := by decide +kernel
theorem dX12_four_15 : decode cX12_four 15 = .ok (.iload_n 1, 1) := by decide +kernel
theorem dX12_four_16 : decode cX12_four 16 = .ok (.iload_n 2, 1) := by decide +kernel
theorem dX12_four_17 : decode cX12_four 17 = .ok (.ishr, 1) := by decide +kernel
theorem dX12_four_18 : decode cX12_four 18 = .ok (.i2b, 1) := by decide +kernel
theorem dX12_four_19 : decode cX12_four 19 = .ok (.bastore, 1) := by decide +kernel
theorem dX12_four_20 : decode cX12_four 20 = .ok (.aload_n 0, 1) := by decide +kernel
theorem dX12_four_21 : decode cX12_four 21 = .ok (.dup, 1) := by decide +kernel
theorem dX12_four_22 : decode cX12_four 22 = .ok (.getfield 97, 3) := by decide +kernel
theorem dX12_four_25 : decode cX12_four 25 = .ok (.iconst 1, 1) := by decide +kernel
theorem dX12_four_26 : decode cX12_four 26 = .ok (.iadd, 1) := by decide +kernel
theorem dX12_four_27 : decode cX12_four 27 = .ok (.putfield 97, 3) := by decide +kernel
theorem dX12_four_30 : decode cX12_four 30 = .ok (.iinc 2 (-8), 3) := by decide +kernel
theorem dX12_four_33 : decode cX12_four 33 = .ok (.goto (-30), 3) := by decide +kernel
theorem dX12_four_36 : decode cX12_four 36 = .ok (.return_, 1) := by decide +kernel
theorem wrr_wsX12_end {i : Nat} {w : Cond} (h : wsX12_end[i]? = some w) : w ∈ wsX12_end := List.mem_of_getElem? h
theorem wru_wsX12_end_wsX120 : ∀ w ∈ wsX120, w ∈ wsX12_end := fun w h => (List.mem_cons_of_mem _ (List.mem_append_right _ h))
set_option maxRecDepth 20000 in
theorem ggX12_end_X12_in : GoodIn wsX12_end wsX12_in := goodIn_sub (List.forall_mem_cons.mpr ⟨wrr_wsX12_end (i := 6) rfl, (fun _ h => absurd h List.not_mem_nil)⟩) gw_wsX12_in
set_option maxRecDepth 20000 in
theorem gX12_end_X12_in : GoodIn wsX12_end (va_wsS RX12 85 yX12_in wsX12_in) := goodIn_app (goodIn_sub (List.forall_mem_cons.mpr ⟨wrr_wsX12_end (i := 3) rfl, (List.forall_mem_cons.mpr ⟨wrr_wsX12_end (i := 4) rfl, (List.forall_mem_cons.mpr ⟨wrr_wsX12_end (i := 5) rfl, (fun _ h => absurd h List.not_mem_nil)⟩)⟩)⟩) (by decide +kernel)) ggX12_end_X12_in
theorem dX12_end_0 : decode cX12_end 0 = .ok (.aload_n 0, 1) := by decide +kernel
theorem dX12_end_1 : decode cX12_end 1 = .ok (.iconst 0, 1) := by decide +kernel
theorem dX12_end_2 : decode cX12_end 2 = .ok (.putfield 80, 3) := by decide +kernel
theorem dX12_end_5 : decode cX12_end 5 = .ok (.iload_n 1, 1) := by decide +kernel
theorem dX12_end_6 : decode cX12_end 6 = .ok (.i2l, 1) := by decide +kernel
theorem dX12_end_7 : decode cX12_end 7 = .ok (.lconst 0, 1) := by decide +kernel
theorem dX12_end_8 : decode cX12_end 8 = .ok (.aload_n 0, 1) := by decide +kernel
theorem dX12_end_9 : decode cX12_end 9 = .ok (.getfield 97, 3) := by decide +kernel
theorem dX12_end_12 : decode cX12_end 12 = .ok (.i2l, 1) := by decide +kernel
theorem dX12_end_13 : decode cX12_end 13 = .ok (.invokestatic 85, 3) := by decide +kernel
theorem dX12_end_16 : decode cX12_end 16 = .ok (.ifCond .ne 5, 3) := by decide +kernel
theorem dX12_end_19 : decode cX12_end 19 = .ok (.iconst (-1), 1) := by decide +kernel
theorem dX12_end_20 : decode cX12_end 20 = .ok (.ireturn, 1) := by decide +kernel
theorem dX12_end_21 : decode cX12_end 21 = .ok (.aload_n 0, 1) := by decide +kernel
theorem dX12_end_22 : decode cX12_end 22 = .ok (.iload_n 1, 1) := by decide +kernel
theorem dX12_end_23 : decode cX12_end 23 = .ok (.putfield 97, 3) := by decide +kernel
theorem dX12_end_26 : decode cX12_end 26 = .ok (.iload_n 1, 1) := by decide +kernel
theorem dX12_end_27 : decode cX12_end 27 = .ok (.ireturn, 1) := by decide +kernel
theorem dX12_isByte_0 : decode cX12_isByte 0 = .ok (.iload_n 1, 1) := by decide +kernel
theorem dX12_isByte_1 : decode cX12_isByte 1 = .ok (.aload_n 0, 1) := by decide +kernel
theorem dX12_isByte_2 : decode cX12_isByte 2 = .ok (.getfield 97, 3) := by decide +kernel
theorem dX12_isByte_5 : decode cX12_isByte 5 = .ok (.if_icmp .ge 27, 3) := by decide +kernel
theorem dX12_isByte_8 : decode cX12_isByte 8 = .ok (.aload_n 0, 1) := by decide +kernel
theorem dX12_isByte_9 : decode cX12_isByte 9 = .ok (.getfield 23, 3) := by decide +kernel
theorem dX12_isByte_12 : decode cX12_isByte 12 = .ok (.iload_n 1, 1) := by decide +kernel
theorem dX12_isByte_13 : decode cX12_isByte 13 = .ok (.baload, 1) := by decide +kernel
theorem dX12_isByte_14 : decode cX12_isByte 14 = .ok (.iload_n 2, 1) := by decide +kernel
theorem dX12_isByte_15 : decode cX12_isByte 15 = .ok (.if_icmp .lt 17, 3) := by decide +kernel
theorem dX12_isByte_18 : decode cX12_isByte 18 = .ok (.aload_n 0, 1) := by decide +kernel
theorem dX12_isByte_19 : decode cX12_isByte 19 = .ok (.getfield 23, 3) := by decide +kernel
theorem dX12_isByte_22 : decode cX12_isByte 22 = .ok (.iload_n 1, 1) := by decide +kernel
theorem dX12_isByte_23 : decode cX12_isByte 23 = .ok (.baload, 1) := by decide +kernel
theorem dX12_isByte_24 : decode cX12_isByte 24 = .ok (.iload_n 3, 1) := by decide +kernel
theorem dX12_isByte_25 : decode cX12_isByte 25 = .ok (.if_icmp .gt 7, 3) := by decide +kernel
theorem dX12_isByte_28 : decode cX12_isByte 28 = .ok (.iconst 1, 1) := by decide +kernel
theorem dX12_isByte_29 : decode cX12_isByte 29 = .ok (.goto 4, 3) := by decide +kernel
theorem dX12_isByte_32 : decode cX12_isByte 32 = .ok (.iconst 0, 1) := by decide +kernel
theorem dX12_isByte_33 : decode cX12_isByte 33 = .ok (.ireturn, 1) := by decide +kernel
theorem wrr_wsX12_next {i : Nat} {w : Cond} (h : wsX12_next[i]? = some w) : w ∈ wsX12_next := List.mem_of_getElem? h
theorem wru_wsX12_next_wsX120 : ∀ w ∈ wsX120, w ∈ wsX12_next := fun w h => (List.mem_cons_of_mem _ (List.mem_append_right _ h))
set_option maxRecDepth 20000 in
theorem gw_wsX12_isByte : wsX12_isByte.all goodWord = true := by decide +kernel
set_option maxRecDepth 20000 in
theorem ggX12_next_X12_isByte : GoodIn wsX12_next wsX12_isByte := goodIn_sub (List.forall_mem_cons.mpr ⟨wrr_wsX12_next (i := 17) rfl, (List.forall_mem_append.mpr ⟨(List.forall_mem_cons.mpr ⟨wrr_wsX12_next (i := 5) rfl, (List.forall_mem_cons.mpr ⟨wrr_wsX12_next (i := 9) rfl, (fun _ h => absurd h List.not_mem_nil)⟩)⟩), wru_wsX12_next_wsX120⟩)⟩) gw_wsX12_isByte
set_option maxRecDepth 20000 in
theorem gX12_next_X12_isByte : GoodIn wsX12_next (wsV RX12 107 RX12 yX12_isByte wsX12_isByte) := goodIn_app (goodIn_sub (List.forall_mem_cons.mpr ⟨wrr_wsX12_next (i := 13) rfl, (List.forall_mem_cons.mpr ⟨wrr_wsX12_next (i := 14) rfl, (List.forall_mem_cons.mpr ⟨wrr_wsX12_next (i := 15) rfl, (List.forall_mem_cons.mpr ⟨wrr_wsX12_next (i := 16) rfl, (fun _ h => absurd h List.not_mem_nil)⟩)⟩)⟩)⟩) (by decide +kernel)) ggX12_next_X12_isByte
theorem dX12_next_0 : decode cX12_next 0 = .ok (.aload_n 0, 1) := by decide +kernel
theorem dX12_next_1 : decode cX12_next 1 = .ok (.aload_n 0, 1) := by decide +kernel
theorem dX12_next_2 : decode cX12_next 2 = .ok (.getfield 104, 3) := by decide +kernel
theorem dX12_next_5 : decode cX12_next 5 = .ok (.bipush 32, 2) := by decide +kernel
theorem dX12_next_7 : decode cX12_next 7 = .ok (.bipush 32, 2) := by decide +kernel
theorem dX12_next_9 : decode cX12_next 9 = .ok (.invokevirtual 107, 3) := by decide +kernel
theorem dX12_next_12 : decode cX12_next 12 = .ok (.ifCond .ne 18, 3) := by decide +kernel
theorem dX12_next_15 : decode cX12_next 15 = .ok (.aload_n 0, 1) := by decide +kernel
theorem dX12_next_16 : decode cX12_next 16 = .ok (.aload_n 0, 1) := by decide +kernel
theorem dX12_next_17 : decode cX12_next 17 = .ok (.getfield 104, 3) := by decide +kernel
theorem dX12_next_20 : decode cX12_next 20 = .ok (.bipush 10, 2) := by decide +kernel
theorem dX12_next_22 : decode cX12_next 22 = .ok (.bipush 10, 2) := by decide +kernel
theorem dX12_next_24 : decode cX12_next 24 = .ok (.invokevirtual 107, 3) := by decide +kernel
theorem dX12_next_27 : decode cX12_next 27 = .ok (.ifCond .eq 16, 3) := by decide +kernel
theorem dX12_next_30 : decode cX12_next 30 = .ok (.aload_n 0, 1) := by decide +kernel
theorem dX12_next_31 : decode cX12_next 31 = .ok (.dup, 1) := by decide +kernel
theorem dX12_next_32 : decode cX12_next 32 = .ok (.getfield 104, 3) := by decide +kernel
theorem dX12_next_35 : decode cX12_next 35 = .ok (.iconst 1, 1) := by decide +kernel
theorem dX12_next_36 : decode cX12_next 36 = .ok (.iadd, 1) := by decide +kernel
theorem dX12_next_37 : decode cX12_next 37 = .ok (.putfield 104, 3) := by decide +kernel
theorem dX12_next_40 : decode cX12_next 40 = .ok (.goto (-40), 3) := by decide +kernel
theorem dX12_next_43 : decode cX12_next 43 = .ok (.aload_n 0, 1) := by decide +kernel
theorem dX12_next_44 : decode cX12_next 44 = .ok (.aload_n 0, 1) := by decide +kernel
theorem dX12_next_45 : decode cX12_next 45 = .ok (.getfield 104, 3) := by decide +kernel
theorem dX12_next_48 : decode cX12_next 48 = .ok (.putfield 111, 3) := by decide +kernel
theorem dX12_next_51 : decode cX12_next 51 = .ok (.aload_n 0, 1) := by decide +kernel
theorem dX12_next_52 : decode cX12_next 52 = .ok (.iconst 0, 1) := by decide +kernel
theorem dX12_next_53 : decode cX12_next 53 = .ok (.putfield 114, 3) := by decide +kernel
theorem dX12_next_56 : decode cX12_next 56 = .ok (.aload_n 0, 1) := by decide +kernel
theorem dX12_next_57 : decode cX12_next 57 = .ok (.lconst 0, 1) := by decide +kernel
theorem dX12_next_58 : decode cX12_next 58 = .ok (.putfield 117, 3) := by decide +kernel
theorem dX12_next_61 : decode cX12_next 61 = .ok (.aload_n 0, 1) := by decide +kernel
theorem dX12_next_62 : decode cX12_next 62 = .ok (.getfield 104, 3) := by decide +kernel
theorem dX12_next_65 : decode cX12_next 65 = .ok (.aload_n 0, 1) := by decide +kernel
theorem dX12_next_66 : decode cX12_next 66 = .ok (.getfield 97, 3) := by decide +kernel
theorem dX12_next_69 : decode cX12_next 69 = .ok (.if_icmp .ne 11, 3) := by decide +kernel
theorem dX12_next_72 : decode cX12_next 72 = .ok (.aload_n 0, 1) := by decide +kernel
theorem dX12_next_73 : decode cX12_next 73 = .ok (.iconst 0, 1) := by decide +kernel
theorem dX12_next_74 : decode cX12_next 74 = .ok (.putfield 121, 3) := by decide +kernel
theorem dX12_next_77 : decode cX12_next 77 = .ok (.goto 230, 3) := by decide +kernel
theorem dX12_next_80 : decode cX12_next 80 = .ok (.aload_n 0, 1) := by decide +kernel
theorem dX12_next_81 : decode cX12_next 81 = .ok (.aload_n 0, 1) := by decide +kernel
theorem dX12_next_82 : decode cX12_next 82 = .ok (.getfield 104, 3) := by decide +kernel
theorem dX12_next_85 : decode cX12_next 85 = .ok (.bipush 97, 2) := by decide +kernel
theorem dX12_next_87 : decode cX12_next 87 = .ok (.bipush 122, 2) := by decide +kernel
theorem dX12_next_89 : decode cX12_next 89 = .ok (.invokevirtual 107, 3) := by decide +kernel
theorem dX12_next_92 : decode cX12_next 92 = .ok (.ifCond .eq 96, 3) := by decide +kernel
theorem dX12_next_95 : decode cX12_next 95 = .ok (.aload_n 0, 1) := by decide +kernel
theorem dX12_next_96 : decode cX12_next 96 = .ok (.iconst 1, 1) := by decide +kernel
theorem dX12_next_97 : decode cX12_next 97 = .ok (.putfield 121, 3) := by decide +kernel
theorem dX12_next_100 : decode cX12_next 100 = .ok (.iconst 0, 1) := by decide +kernel
theorem dX12_next_101 : decode cX12_next 101 = .ok (.istore_n 1, 1) := by decide +kernel
theorem dX12_next_102 : decode cX12_next 102 = .ok (.aload_n 0, 1) := by decide +kernel
theorem dX12_next_103 : decode cX12_next 103 = .ok (.aload_n 0, 1) := by decide +kernel
theorem dX12_next_104 : decode cX12_next 104 = .ok (.getfield 104, 3) := by decide +kernel
theorem dX12_next_107 : decode cX12_next 107 = .ok (.bipush 97, 2) := by decide +kernel
theorem dX12_next_109 : decode cX12_next 109 = .ok (.bipush 122, 2) := by decide +kernel
theorem dX12_next_111 : decode cX12_next 111 = .ok (.invokevirtual 107, 3) := by decide +kernel
theorem dX12_next_114 : decode cX12_next 114 = .ok (.ifCond .eq 71, 3) := by decide +kernel
theorem dX12_next_117 : decode cX12_next 117 = .ok (.aload_n 0, 1) := by decide +kernel
theorem dX12_next_118 : decode cX12_next 118 = .ok (.iload_n 1, 1) := by decide +kernel
theorem dX12_next_119 : decode cX12_next 119 = .ok (.bipush 11, 2) := by decide +kernel
theorem dX12_next_121 : decode cX12_next 121 = .ok (.if_icmp .le 9, 3) := by decide +kernel
theorem dX12_next_124 : decode cX12_next 124 = .ok (.ldc2_w 124, 3) := by decide +kernel
theorem dX12_next_127 : decode cX12_next 127 = .ok (.goto 26, 3) := by decide +kernel
theorem dX12_next_130 : decode cX12_next 130 = .ok (.ldc2_w 126, 3) := by decide +kernel
theorem dX12_next_133 : decode cX12_next 133 = .ok (.aload_n 0, 1) := by decide +kernel
theorem dX12_next_134 : decode cX12_next 134 = .ok (.getfield 117, 3) := by decide +kernel
theorem dX12_next_137 : decode cX12_next 137 = .ok (.lmul, 1) := by decide +kernel
theorem dX12_next_138 : decode cX12_next 138 = .ok (.aload_n 0, 1) := by decide +kernel
theorem dX12_next_139 : decode cX12_next 139 = .ok (.getfield 23, 3) := by decide +kernel
theorem dX12_next_142 : decode cX12_next 142 = .ok (.aload_n 0, 1) := by decide +kernel
theorem dX12_next_143 : decode cX12_next 143 = .ok (.getfield 104, 3) := by decide +kernel
theorem dX12_next_146 : decode cX12_next 146 = .ok (.baload, 1) := by decide +kernel
theorem dX12_next_147 : decode cX12_next 147 = .ok (.i2l, 1) := by decide +kernel
theorem dX12_next_148 : decode cX12_next 148 = .ok (.ladd, 1) := by decide +kernel
theorem dX12_next_149 : decode cX12_next 149 = .ok (.ldc2_w 128, 3) := by decide +kernel
theorem dX12_next_152 : decode cX12_next 152 = .ok (.lsub, 1) := by decide +kernel
theorem dX12_next_153 : decode cX12_next 153 = .ok (.putfield 117, 3) := by decide +kernel
theorem dX12_next_156 : decode cX12_next 156 = .ok (.iload_n 1, 1) := by decide +kernel
theorem dX12_next_157 : decode cX12_next 157 = .ok (.bipush 11, 2) := by decide +kernel
theorem dX12_next_159 : decode cX12_next 159 = .ok (.if_icmp .le 10, 3) := by decide +kernel
theorem dX12_next_162 : decode cX12_next 162 = .ok (.aload_n 0, 1) := by decide +kernel
theorem dX12_next_163 : decode cX12_next 163 = .ok (.ldc2_w 124, 3) := by decide +kernel
theorem dX12_next_166 : decode cX12_next 166 = .ok (.putfield 117, 3) := by decide +kernel
theorem dX12_next_169 : decode cX12_next 169 = .ok (.aload_n 0, 1) := by decide +kernel
theorem dX12_next_170 : decode cX12_next 170 = .ok (.dup, 1) := by decide +kernel
theorem dX12_next_171 : decode cX12_next 171 = .ok (.getfield 104, 3) := by decide +kernel
theorem dX12_next_174 : decode cX12_next 174 = .ok (.iconst 1, 1) := by decide +kernel
theorem dX12_next_175 : decode cX12_next 175 = .ok (.iadd, 1) := by decide +kernel
theorem dX12_next_176 : decode cX12_next 176 = .ok (.putfield 104, 3) := by decide +kernel
theorem dX12_next_179 : decode cX12_next 179 = .ok (.iinc 1 1, 3) := by decide +kernel
theorem dX12_next_182 : decode cX12_next 182 = .ok (.goto (-80), 3) := by decide +kernel
theorem dX12_next_185 : decode cX12_next 185 = .ok (.goto 122, 3) := by decide +kernel
theorem dX12_next_188 : decode cX12_next 188 = .ok (.aload_n 0, 1) := by decide +kernel
theorem dX12_next_189 : decode cX12_next 189 = .ok (.aload_n 0, 1) := by decide +kernel
theorem dX12_next_190 : decode cX12_next 190 = .ok (.getfield 104, 3) := by decide +kernel
theorem dX12_next_193 : decode cX12_next 193 = .ok (.bipush 48, 2) := by decide +kernel
theorem dX12_next_195 : decode cX12_next 195 = .ok (.bipush 57, 2) := by decide +kernel
theorem dX12_next_197 : decode cX12_next 197 = .ok (.invokevirtual 107, 3) := by decide +kernel
theorem dX12_next_200 : decode cX12_next 200 = .ok (.ifCond .eq 74, 3) := by decide +kernel
theorem dX12_next_203 : decode cX12_next 203 = .ok (.aload_n 0, 1) := by decide +kernel
theorem dX12_next_204 : decode cX12_next 204 = .ok (.iconst 2, 1) := by decide +kernel
theorem dX12_next_205 : decode cX12_next 205 = .ok (.putfield 121, 3) := by decide +kernel
theorem dX12_next_208 : decode cX12_next 208 = .ok (.aload_n 0, 1) := by decide +kernel
theorem dX12_next_209 : decode cX12_next 209 = .ok (.aload_n 0, 1) := by decide +kernel
theorem dX12_next_210 : decode cX12_next 210 = .ok (.getfield 104, 3) := by decide +kernel
theorem dX12_next_213 : decode cX12_next 213 = .ok (.bipush 48, 2) := by decide +kernel
theorem dX12_next_215 : decode cX12_next 215 = .ok (.bipush 57, 2) := by decide +kernel
theorem dX12_next_217 : decode cX12_next 217 = .ok (.invokevirtual 107, 3) := by decide +kernel
theorem dX12_next_220 : decode cX12_next 220 = .ok (.ifCond .eq 87, 3) := by decide +kernel
theorem dX12_next_223 : decode cX12_next 223 = .ok (.aload_n 0, 1) := by decide +kernel
theorem dX12_next_224 : decode cX12_next 224 = .ok (.aload_n 0, 1) := by decide +kernel
theorem dX12_next_225 : decode cX12_next 225 = .ok (.getfield 114, 3) := by decide +kernel
theorem dX12_next_228 : decode cX12_next 228 = .ok (.ldc 130, 2) := by decide +kernel
theorem dX12_next_230 : decode cX12_next 230 = .ok (.if_icmp .le 8, 3) := by decide +kernel
theorem dX12_next_233 : decode cX12_next 233 = .ok (.ldc 131, 2) := by decide +kernel
theorem dX12_next_235 : decode cX12_next 235 = .ok (.goto 23, 3) := by decide +kernel
theorem dX12_next_238 : decode cX12_next 238 = .ok (.bipush 10, 2) := by decide +kernel
theorem dX12_next_240 : decode cX12_next 240 = .ok (.aload_n 0, 1) := by decide +kernel
theorem dX12_next_241 : decode cX12_next 241 = .ok (.getfield 114, 3) := by decide +kernel
theorem dX12_next_244 : decode cX12_next 244 = .ok (.imul, 1) := by decide +kernel
theorem dX12_next_245 : decode cX12_next 245 = .ok (.aload_n 0, 1) := by decide +kernel
theorem dX12_next_246 : decode cX12_next 246 = .ok (.getfield 23, 3) := by decide +kernel
theorem dX12_next_249 : decode cX12_next 249 = .ok (.aload_n 0, 1) := by decide +kernel
theorem dX12_next_250 : decode cX12_next 250 = .ok (.getfield 104, 3) := by decide +kernel
theorem dX12_next_253 : decode cX12_next 253 = .ok (.baload, 1) := by decide +kernel
theorem dX12_next_254 : decode cX12_next 254 = .ok (.iadd, 1) := by decide +kernel
theorem dX12_next_255 : decode cX12_next 255 = .ok (.bipush 48, 2) := by decide +kernel
theorem dX12_next_257 : decode cX12_next 257 = .ok (.isub, 1) := by decide +kernel
theorem dX12_next_258 : decode cX12_next 258 = .ok (.putfield 114, 3) := by decide +kernel
theorem dX12_next_261 : decode cX12_next 261 = .ok (.aload_n 0, 1) := by decide +kernel
theorem dX12_next_262 : decode cX12_next 262 = .ok (.dup, 1) := by decide +kernel
theorem dX12_next_263 : decode cX12_next 263 = .ok (.getfield 104, 3) := by decide +kernel
theorem dX12_next_266 : decode cX12_next 266 = .ok (.iconst 1, 1) := by decide +kernel
theorem dX12_next_267 : decode cX12_next 267 = .ok (.iadd, 1) := by decide +kernel
theorem dX12_next_268 : decode cX12_next 268 = .ok (.putfield 104, 3) := by decide +kernel
theorem dX12_next_271 : decode cX12_next 271 = .ok (.goto (-63), 3) := by decide +kernel
theorem dX12_next_274 : decode cX12_next 274 = .ok (.aload_n 0, 1) := by decide +kernel
theorem dX12_next_275 : decode cX12_next 275 = .ok (.aload_n 0, 1) := by decide +kernel
theorem dX12_next_276 : decode cX12_next 276 = .ok (.getfield 23, 3) := by decide +kernel
theorem dX12_next_279 : decode cX12_next 279 = .ok (.aload_n 0, 1) := by decide +kernel
theorem dX12_next_280 : decode cX12_next 280 = .ok (.getfield 104, 3) := by decide +kernel
theorem dX12_next_283 : decode cX12_next 283 = .ok (.baload, 1) := by decide +kernel
theorem dX12_next_284 : decode cX12_next 284 = .ok (.bipush 59, 2) := by decide +kernel
theorem dX12_next_286 : decode cX12_next 286 = .ok (.if_icmp .ne 7, 3) := by decide +kernel
theorem dX12_next_289 : decode cX12_next 289 = .ok (.iconst 3, 1) := by decide +kernel
theorem dX12_next_290 : decode cX12_next 290 = .ok (.goto 4, 3) := by decide +kernel
theorem dX12_next_293 : decode cX12_next 293 = .ok (.iconst 4, 1) := by decide +kernel
theorem dX12_next_294 : decode cX12_next 294 = .ok (.putfield 121, 3) := by decide +kernel
theorem dX12_next_297 : decode cX12_next 297 = .ok (.aload_n 0, 1) := by decide +kernel
theorem dX12_next_298 : decode cX12_next 298 = .ok (.dup, 1) := by decide +kernel
theorem dX12_next_299 : decode cX12_next 299 = .ok (.getfield 104, 3) := by decide +kernel
theorem dX12_next_302 : decode cX12_next 302 = .ok (.iconst 1, 1) := by decide +kernel
theorem dX12_next_303 : decode cX12_next 303 = .ok (.iadd, 1) := by decide +kernel
theorem dX12_next_304 : decode cX12_next 304 = .ok (.putfield 104, 3) := by decide +kernel
theorem dX12_next_307 : decode cX12_next 307 = .ok (.return_, 1) := by decide +kernel
theorem dX12_isGood_0 : decode cX12_isGood 0 = .ok (.aload_n 0, 1) := by decide +kernel
theorem dX12_isGood_1 : decode cX12_isGood 1 = .ok (.getfield 132, 3) := by decide +kernel
theorem dX12_isGood_4 : decode cX12_isGood 4 = .ok (.ifCond .ne 7, 3) := by decide +kernel
theorem dX12_isGood_7 : decode cX12_isGood 7 = .ok (.iconst 1, 1) := by decide +kernel
theorem dX12_isGood_8 : decode cX12_isGood 8 = .ok (.goto 4, 3) := by decide +kernel
theorem dX12_isGood_11 : decode cX12_isGood 11 = .ok (.iconst 0, 1) := by decide +kernel
theorem dX12_isGood_12 : decode cX12_isGood 12 = .ok (.ireturn, 1) := by decide +kernel
theorem dX12_fails_0 : decode cX12_fails 0 = .ok (.aload_n 0, 1) := by decide +kernel
theorem dX12_fails_1 : decode cX12_fails 1 = .ok (.getfield 132, 3) := by decide +kernel
theorem dX12_fails_4 : decode cX12_fails 4 = .ok (.ifCond .eq 4, 3) := by decide +kernel
theorem dX12_fails_7 : decode cX12_fails 7 = .ok (.return_, 1) := by decide +kernel
theorem dX12_fails_8 : decode cX12_fails 8 = .ok (.aload_n 0, 1) := by decide +kernel
theorem dX12_fails_9 : decode cX12_fails 9 = .ok (.iload_n 1, 1) := by decide +kernel
theorem dX12_fails_10 : decode cX12_fails 10 = .ok (.putfield 132, 3) := by decide +kernel
theorem dX12_fails_13 : decode cX12_fails 13 = .ok (.aload_n 0, 1) := by decide +kernel
theorem dX12_fails_14 : decode cX12_fails 14 = .ok (.aload_n 0, 1) := by decide +kernel
theorem dX12_fails_15 : decode cX12_fails 15 = .ok (.getfield 111, 3) := by decide +kernel
theorem dX12_fails_18 : decode cX12_fails 18 = .ok (.putfield 135, 3) := by decide +kernel
theorem dX12_fails_21 : decode cX12_fails 21 = .ok (.return_, 1) := by decide +kernel
theorem dX12_is_0 : decode cX12_is 0 = .ok (.aload_n 0, 1) := by decide +kernel
theorem dX12_is_1 : decode cX12_is 1 = .ok (.getfield 132, 3) := by decide +kernel
theorem dX12_is_4 : decode cX12_is 4 = .ok (.ifCond .ne 24, 3) := by decide +kernel
theorem dX12_is_7 : decode cX12_is 7 = .ok (.aload_n 0, 1) := by decide +kernel
theorem dX12_is_8 : decode cX12_is 8 = .ok (.getfield 121, 3) := by decide +kernel
theorem dX12_is_11 : decode cX12_is 11 = .ok (.iconst 1, 1) := by decide +kernel
theorem dX12_is_12 : decode cX12_is 12 = .ok (.if_icmp .ne 16, 3) := by decide +kernel
theorem dX12_is_15 : decode cX12_is 15 = .ok (.aload_n 0, 1) := by decide +kernel
theorem dX12_is_16 : decode cX12_is 16 = .ok (.getfield 117, 3) := by decide +kernel
theorem dX12_is_19 : decode cX12_is 19 = .ok (.lload_n 1, 1) := by decide +kernel
theorem dX12_is_20 : decode cX12_is 20 = .ok (.lcmp, 1) := by decide +kernel
theorem dX12_is_21 : decode cX12_is 21 = .ok (.ifCond .ne 7, 3) := by decide +kernel
theorem dX12_is_24 : decode cX12_is 24 = .ok (.iconst 1, 1) := by decide +kernel
theorem dX12_is_25 : decode cX12_is 25 = .ok (.goto 4, 3) := by decide +kernel
theorem dX12_is_28 : decode cX12_is 28 = .ok (.iconst 0, 1) := by decide +kernel
theorem dX12_is_29 : decode cX12_is 29 = .ok (.ireturn, 1) := by decide +kernel
theorem wrr_wsX12_takes {i : Nat} {w : Cond} (h : wsX12_takes[i]? = some w) : w ∈ wsX12_takes := List.mem_of_getElem? h
theorem wrr_wsX12_takes_wsX12_takes_r1 {i : Nat} {w : Cond} (h : wsX12_takes_r1[i]? = some w) : w ∈ wsX12_takes := (List.mem_cons_of_mem _ (List.mem_append_left _ (List.mem_append_left _ (List.mem_of_getElem? h))))
theorem wrr_wsX12_takes_wsX12_takes_r2 {i : Nat} {w : Cond} (h : wsX12_takes_r2[i]? = some w) : w ∈ wsX12_takes := (List.mem_cons_of_mem _ (List.mem_append_left _ (List.mem_append_right _ (List.mem_of_getElem? h))))
theorem wru_wsX12_takes_wsX120 : ∀ w ∈ wsX120, w ∈ wsX12_takes := fun w h => (List.mem_cons_of_mem _ (List.mem_append_right _ h))
set_option maxRecDepth 20000 in
theorem gw_wsX12_is : wsX12_is.all goodWord = true := by decide +kernel
set_option maxRecDepth 20000 in
theorem ggX12_takes_X12_is : GoodIn wsX12_takes wsX12_is := goodIn_sub (List.forall_mem_cons.mpr ⟨wrr_wsX12_takes_wsX12_takes_r1 (i := 4) rfl, (List.forall_mem_append.mpr ⟨(List.forall_mem_cons.mpr ⟨wrr_wsX12_takes_wsX12_takes_r1 (i := 5) rfl, (List.forall_mem_cons.mpr ⟨wrr_wsX12_takes_wsX12_takes_r1 (i := 6) rfl, (List.forall_mem_cons.mpr ⟨wrr_wsX12_takes_wsX12_takes_r1 (i := 7) rfl, (fun _ h => absurd h List.not_mem_nil)⟩)⟩)⟩), wru_wsX12_takes_wsX120⟩)⟩) gw_wsX12_is
set_option maxRecDepth 20000 in
theorem gX12_takes_X12_is : GoodIn wsX12_takes (wsV RX12 138 RX12 yX12_is wsX12_is) := goodIn_app (goodIn_sub (List.forall_mem_cons.mpr ⟨wrr_wsX12_takes_wsX12_takes_r1 (i := 0) rfl, (List.forall_mem_cons.mpr ⟨wrr_wsX12_takes_wsX12_takes_r1 (i := 1) rfl, (List.forall_mem_cons.mpr ⟨wrr_wsX12_takes_wsX12_takes_r1 (i := 2) rfl, (List.forall_mem_cons.mpr ⟨wrr_wsX12_takes_wsX12_takes_r1 (i := 3) rfl, (fun _ h => absurd h List.not_mem_nil)⟩)⟩)⟩)⟩) (by decide +kernel)) ggX12_takes_X12_is
set_option maxRecDepth 20000 in
theorem gw_wsX12_next : wsX12_next.all goodWord = true := by decide +kernel
set_option maxRecDepth 20000 in
theorem ggX12_takes_X12_next : GoodIn wsX12_takes wsX12_next := goodIn_sub (List.forall_mem_cons.mpr ⟨wrr_wsX12_takes_wsX12_takes_r1 (i := 11) rfl, (List.forall_mem_append.mpr ⟨(List.forall_mem_cons.mpr ⟨wrr_wsX12_takes_wsX12_takes_r1 (i := 12) rfl, (List.forall_mem_cons.mpr ⟨wrr_wsX12_takes_wsX12_takes_r1 (i := 13) rfl, (List.forall_mem_cons.mpr ⟨wrr_wsX12_takes_wsX12_takes_r1 (i := 14) rfl, (List.forall_mem_cons.mpr ⟨wrr_wsX12_takes_wsX12_takes_r1 (i := 7) rfl, (List.forall_mem_cons.mpr ⟨wrr_wsX12_takes_wsX12_takes_r1 (i := 15) rfl, (List.forall_mem_cons.mpr ⟨wrr_wsX12_takes_wsX12_takes_r1 (i := 6) rfl, (List.forall_mem_cons.mpr ⟨wrr_wsX12_takes_wsX12_takes_r1 (i := 16) rfl, (List.forall_mem_cons.mpr ⟨wrr_wsX12_takes_wsX12_takes_r1 (i := 17) rfl, (List.forall_mem_cons.mpr ⟨wrr_wsX12_takes_wsX12_takes_r1 (i := 18) rfl, (List.forall_mem_cons.mpr ⟨wrr_wsX12_takes_wsX12_takes_r1 (i := 19) rfl, (List.forall_mem_cons.mpr ⟨wrr_wsX12_takes_wsX12_takes_r1 (i := 20) rfl, (List.forall_mem_cons.mpr ⟨wrr_wsX12_takes_wsX12_takes_r1 (i := 21) rfl, (List.forall_mem_cons.mpr ⟨wrr_wsX12_takes_wsX12_takes_r1 (i := 22) rfl, (List.forall_mem_cons.mpr ⟨wrr_wsX12_takes_wsX12_takes_r1 (i := 23) rfl, (List.forall_mem_cons.mpr ⟨wrr_wsX12_takes_wsX12_takes_r2 (i := 0) rfl, (List.forall_mem_cons.mpr ⟨wrr_wsX12_takes_wsX12_takes_r1 (i := 3) rfl, (List.forall_mem_cons.mpr ⟨wrr_wsX12_takes_wsX12_takes_r2 (i := 1) rfl, (fun _ h => absurd h List.not_mem_nil)⟩)⟩)⟩)⟩)⟩)⟩)⟩)⟩)⟩)⟩)⟩)⟩)⟩)⟩)⟩)⟩)⟩), wru_wsX12_takes_wsX120⟩)⟩) gw_wsX12_next
set_option maxRecDepth 20000 in
theorem gX12_takes_X12_next : GoodIn wsX12_takes (wsV RX12 142 RX12 yX12_next wsX12_next) := goodIn_app (goodIn_sub (List.forall_mem_cons.mpr ⟨wrr_wsX12_takes_wsX12_takes_r1 (i := 8) rfl, (List.forall_mem_cons.mpr ⟨wrr_wsX12_takes_wsX12_takes_r1 (i := 9) rfl, (List.forall_mem_cons.mpr ⟨wrr_wsX12_takes_wsX12_takes_r1 (i := 10) rfl, (List.forall_mem_cons.mpr ⟨wrr_wsX12_takes_wsX12_takes_r1 (i := 3) rfl, (fun _ h => absurd h List.not_mem_nil)⟩)⟩)⟩)⟩) (by decide +kernel)) ggX12_takes_X12_next
theorem dX12_takes_0 : decode cX12_takes 0 = .ok (.aload_n 0, 1) := by decide +kernel
theorem dX12_takes_1 : decode cX12_takes 1 = .ok (.lload_n 1, 1) := by decide +kernel
theorem dX12_takes_2 : decode cX12_takes 2 = .ok (.invokevirtual 138, 3) := by decide +kernel
theorem dX12_takes_5 : decode cX12_takes 5 = .ok (.ifCond .ne 5, 3) := by decide +kernel
theorem dX12_takes_8 : decode cX12_takes 8 = .ok (.iconst 0, 1) := by decide +kernel
theorem dX12_takes_9 : decode cX12_takes 9 = .ok (.ireturn, 1) := by decide +kernel
theorem dX12_takes_10 : decode cX12_takes 10 = .ok (.aload_n 0, 1) := by decide +kernel
theorem dX12_takes_11 : decode cX12_takes 11 = .ok (.invokevirtual 142, 3) := by decide +kernel
theorem dX12_takes_14 : decode cX12_takes 14 = .ok (.iconst 1, 1) := by decide +kernel
theorem dX12_takes_15 : decode cX12_takes 15 = .ok (.ireturn, 1) := by decide +kernel
theorem wrr_wsX12_asks {i : Nat} {w : Cond} (h : wsX12_asks[i]? = some w) : w ∈ wsX12_asks := List.mem_of_getElem? h
theorem wrr_wsX12_asks_wsX12_asks_r1 {i : Nat} {w : Cond} (h : wsX12_asks_r1[i]? = some w) : w ∈ wsX12_asks := (List.mem_cons_of_mem _ (List.mem_append_left _ (List.mem_append_left _ (List.mem_of_getElem? h))))
theorem wrr_wsX12_asks_wsX12_asks_r2 {i : Nat} {w : Cond} (h : wsX12_asks_r2[i]? = some w) : w ∈ wsX12_asks := (List.mem_cons_of_mem _ (List.mem_append_left _ (List.mem_append_right _ (List.mem_of_getElem? h))))
theorem wru_wsX12_asks_wsX120 : ∀ w ∈ wsX120, w ∈ wsX12_asks := fun w h => (List.mem_cons_of_mem _ (List.mem_append_right _ h))
set_option maxRecDepth 20000 in
theorem gw_wsX12_takes : wsX12_takes.all goodWord = true := by decide +kernel
set_option maxRecDepth 20000 in
theorem ggX12_asks_X12_takes : GoodIn wsX12_asks wsX12_takes := goodIn_sub (List.forall_mem_cons.mpr ⟨wrr_wsX12_asks_wsX12_asks_r1 (i := 4) rfl, (List.forall_mem_append.mpr ⟨(List.forall_mem_append.mpr ⟨(List.forall_mem_cons.mpr ⟨wrr_wsX12_asks_wsX12_asks_r1 (i := 5) rfl, (List.forall_mem_cons.mpr ⟨wrr_wsX12_asks_wsX12_asks_r1 (i := 6) rfl, (List.forall_mem_cons.mpr ⟨wrr_wsX12_asks_wsX12_asks_r1 (i := 7) rfl, (List.forall_mem_cons.mpr ⟨wrr_wsX12_asks_wsX12_asks_r1 (i := 3) rfl, (List.forall_mem_cons.mpr ⟨wrr_wsX12_asks_wsX12_asks_r1 (i := 8) rfl, (List.forall_mem_cons.mpr ⟨wrr_wsX12_asks_wsX12_asks_r1 (i := 9) rfl, (List.forall_mem_cons.mpr ⟨wrr_wsX12_asks_wsX12_asks_r1 (i := 10) rfl, (List.forall_mem_cons.mpr ⟨wrr_wsX12_asks_wsX12_asks_r1 (i := 11) rfl, (List.forall_mem_cons.mpr ⟨wrr_wsX12_asks_wsX12_asks_r1 (i := 12) rfl, (List.forall_mem_cons.mpr ⟨wrr_wsX12_asks_wsX12_asks_r1 (i := 13) rfl, (List.forall_mem_cons.mpr ⟨wrr_wsX12_asks_wsX12_asks_r1 (i := 14) rfl, (List.forall_mem_cons.mpr ⟨wrr_wsX12_asks_wsX12_asks_r1 (i := 15) rfl, (List.forall_mem_cons.mpr ⟨wrr_wsX12_asks_wsX12_asks_r1 (i := 16) rfl, (List.forall_mem_cons.mpr ⟨wrr_wsX12_asks_wsX12_asks_r1 (i := 17) rfl, (List.forall_mem_cons.mpr ⟨wrr_wsX12_asks_wsX12_asks_r1 (i := 18) rfl, (List.forall_mem_cons.mpr ⟨wrr_wsX12_asks_wsX12_asks_r1 (i := 19) rfl, (List.forall_mem_cons.mpr ⟨wrr_wsX12_asks_wsX12_asks_r1 (i := 20) rfl, (List.forall_mem_cons.mpr ⟨wrr_wsX12_asks_wsX12_asks_r1 (i := 21) rfl, (List.forall_mem_cons.mpr ⟨wrr_wsX12_asks_wsX12_asks_r1 (i := 22) rfl, (List.forall_mem_cons.mpr ⟨wrr_wsX12_asks_wsX12_asks_r1 (i := 23) rfl, (List.forall_mem_cons.mpr ⟨wrr_wsX12_asks_wsX12_asks_r2 (i := 0) rfl, (List.forall_mem_cons.mpr ⟨wrr_wsX12_asks_wsX12_asks_r2 (i := 1) rfl, (List.forall_mem_cons.mpr ⟨wrr_wsX12_asks_wsX12_asks_r2 (i := 2) rfl, (List.forall_mem_cons.mpr ⟨wrr_wsX12_asks_wsX12_asks_r2 (i := 3) rfl, (fun _ h => absurd h List.not_mem_nil)⟩)⟩)⟩)⟩)⟩)⟩)⟩)⟩)⟩)⟩)⟩)⟩)⟩)⟩)⟩)⟩)⟩)⟩)⟩)⟩)⟩)⟩)⟩)⟩), (List.forall_mem_cons.mpr ⟨wrr_wsX12_asks_wsX12_asks_r2 (i := 4) rfl, (List.forall_mem_cons.mpr ⟨wrr_wsX12_asks_wsX12_asks_r2 (i := 5) rfl, (fun _ h => absurd h List.not_mem_nil)⟩)⟩)⟩), wru_wsX12_asks_wsX120⟩)⟩) gw_wsX12_takes
set_option maxRecDepth 20000 in
theorem gX12_asks_X12_takes : GoodIn wsX12_asks (wsV RX12 145 RX12 yX12_takes wsX12_takes) := goodIn_app (goodIn_sub (List.forall_mem_cons.mpr ⟨wrr_wsX12_asks_wsX12_asks_r1 (i := 0) rfl, (List.forall_mem_cons.mpr ⟨wrr_wsX12_asks_wsX12_asks_r1 (i := 1) rfl, (List.forall_mem_cons.mpr ⟨wrr_wsX12_asks_wsX12_asks_r1 (i := 2) rfl, (List.forall_mem_cons.mpr ⟨wrr_wsX12_asks_wsX12_asks_r1 (i := 3) rfl, (fun _ h => absurd h List.not_mem_nil)⟩)⟩)⟩)⟩) (by decide +kernel)) ggX12_asks_X12_takes
set_option maxRecDepth 20000 in
theorem gw_wsX12_fails : wsX12_fails.all goodWord = true := by decide +kernel
set_option maxRecDepth 20000 in
theorem ggX12_asks_X12_fails : GoodIn wsX12_asks wsX12_fails := goodIn_sub (List.forall_mem_cons.mpr ⟨wrr_wsX12_asks_wsX12_asks_r2 (i := 9) rfl, (List.forall_mem_append.mpr ⟨(List.forall_mem_cons.mpr ⟨wrr_wsX12_asks_wsX12_asks_r1 (i := 9) rfl, (List.forall_mem_cons.mpr ⟨wrr_wsX12_asks_wsX12_asks_r1 (i := 17) rfl, (List.forall_mem_cons.mpr ⟨wrr_wsX12_asks_wsX12_asks_r2 (i := 10) rfl, (fun _ h => absurd h List.not_mem_nil)⟩)⟩)⟩), wru_wsX12_asks_wsX120⟩)⟩) gw_wsX12_fails
set_option maxRecDepth 20000 in
theorem gX12_asks_X12_fails : GoodIn wsX12_asks (wsV RX12 148 RX12 yX12_fails wsX12_fails) := goodIn_app (goodIn_sub (List.forall_mem_cons.mpr ⟨wrr_wsX12_asks_wsX12_asks_r2 (i := 6) rfl, (List.forall_mem_cons.mpr ⟨wrr_wsX12_asks_wsX12_asks_r2 (i := 7) rfl, (List.forall_mem_cons.mpr ⟨wrr_wsX12_asks_wsX12_asks_r2 (i := 8) rfl, (List.forall_mem_cons.mpr ⟨wrr_wsX12_asks_wsX12_asks_r1 (i := 3) rfl, (fun _ h => absurd h List.not_mem_nil)⟩)⟩)⟩)⟩) (by decide +kernel)) ggX12_asks_X12_fails
theorem dX12_asks_0 : decode cX12_asks 0 = .ok (.aload_n 0, 1) := by decide +kernel
theorem dX12_asks_1 : decode cX12_asks 1 = .ok (.lload_n 1, 1) := by decide +kernel
theorem dX12_asks_2 : decode cX12_asks 2 = .ok (.invokevirtual 145, 3) := by decide +kernel
theorem dX12_asks_5 : decode cX12_asks 5 = .ok (.ifCond .ne 8, 3) := by decide +kernel
theorem dX12_asks_8 : decode cX12_asks 8 = .ok (.aload_n 0, 1) := by decide +kernel
theorem dX12_asks_9 : decode cX12_asks 9 = .ok (.iconst 1, 1) := by decide +kernel
theorem dX12_asks_10 : decode cX12_asks 10 = .ok (.invokevirtual 148, 3) := by decide +kernel
theorem dX12_asks_13 : decode cX12_asks 13 = .ok (.return_, 1) := by decide +kernel
theorem wrr_wsX12_number {i : Nat} {w : Cond} (h : wsX12_number[i]? = some w) : w ∈ wsX12_number := List.mem_of_getElem? h
theorem wrr_wsX12_number_wsX12_number_r1 {i : Nat} {w : Cond} (h : wsX12_number_r1[i]? = some w) : w ∈ wsX12_number := (List.mem_cons_of_mem _ (List.mem_append_left _ (List.mem_append_left _ (List.mem_of_getElem? h))))
theorem wrr_wsX12_number_wsX12_number_r2 {i : Nat} {w : Cond} (h : wsX12_number_r2[i]? = some w) : w ∈ wsX12_number := (List.mem_cons_of_mem _ (List.mem_append_left _ (List.mem_append_right _ (List.mem_of_getElem? h))))
theorem wru_wsX12_number_wsX120 : ∀ w ∈ wsX120, w ∈ wsX12_number := fun w h => (List.mem_cons_of_mem _ (List.mem_append_right _ h))
set_option maxRecDepth 20000 in
theorem ggX12_number_X12_fails : GoodIn wsX12_number wsX12_fails := goodIn_sub (List.forall_mem_cons.mpr ⟨wrr_wsX12_number_wsX12_number_r1 (i := 7) rfl, (List.forall_mem_append.mpr ⟨(List.forall_mem_cons.mpr ⟨wrr_wsX12_number_wsX12_number_r1 (i := 0) rfl, (List.forall_mem_cons.mpr ⟨wrr_wsX12_number_wsX12_number_r1 (i := 8) rfl, (List.forall_mem_cons.mpr ⟨wrr_wsX12_number_wsX12_number_r1 (i := 9) rfl, (fun _ h => absurd h List.not_mem_nil)⟩)⟩)⟩), wru_wsX12_number_wsX120⟩)⟩) gw_wsX12_fails
set_option maxRecDepth 20000 in
theorem gX12_number_X12_fails : GoodIn wsX12_number (wsV RX12 148 RX12 yX12_fails wsX12_fails) := goodIn_app (goodIn_sub (List.forall_mem_cons.mpr ⟨wrr_wsX12_number_wsX12_number_r1 (i := 3) rfl, (List.forall_mem_cons.mpr ⟨wrr_wsX12_number_wsX12_number_r1 (i := 4) rfl, (List.forall_mem_cons.mpr ⟨wrr_wsX12_number_wsX12_number_r1 (i := 5) rfl, (List.forall_mem_cons.mpr ⟨wrr_wsX12_number_wsX12_number_r1 (i := 6) rfl, (fun _ h => absurd h List.not_mem_nil)⟩)⟩)⟩)⟩) (by decide +kernel)) ggX12_number_X12_fails
set_option maxRecDepth 20000 in
theorem ggX12_number_X12_in : GoodIn wsX12_number wsX12_in := goodIn_sub (List.forall_mem_cons.mpr ⟨wrr_wsX12_number_wsX12_number_r1 (i := 12) rfl, (fun _ h => absurd h List.not_mem_nil)⟩) gw_wsX12_in
set_option maxRecDepth 20000 in
theorem gX12_number_X12_in : GoodIn wsX12_number (va_wsS RX12 85 yX12_in wsX12_in) := goodIn_app (goodIn_sub (List.forall_mem_cons.mpr ⟨wrr_wsX12_number_wsX12_number_r1 (i := 10) rfl, (List.forall_mem_cons.mpr ⟨wrr_wsX12_number_wsX12_number_r1 (i := 11) rfl, (List.forall_mem_cons.mpr ⟨wrr_wsX12_number_wsX12_number_r1 (i := 6) rfl, (fun _ h => absurd h List.not_mem_nil)⟩)⟩)⟩) (by decide +kernel)) ggX12_number_X12_in
set_option maxRecDepth 20000 in
theorem ggX12_number_X12_next : GoodIn wsX12_number wsX12_next := goodIn_sub (List.forall_mem_cons.mpr ⟨wrr_wsX12_number_wsX12_number_r1 (i := 16) rfl, (List.forall_mem_append.mpr ⟨(List.forall_mem_cons.mpr ⟨wrr_wsX12_number_wsX12_number_r1 (i := 17) rfl, (List.forall_mem_cons.mpr ⟨wrr_wsX12_number_wsX12_number_r1 (i := 8) rfl, (List.forall_mem_cons.mpr ⟨wrr_wsX12_number_wsX12_number_r1 (i := 2) rfl, (List.forall_mem_cons.mpr ⟨wrr_wsX12_number_wsX12_number_r1 (i := 18) rfl, (List.forall_mem_cons.mpr ⟨wrr_wsX12_number_wsX12_number_r1 (i := 19) rfl, (List.forall_mem_cons.mpr ⟨wrr_wsX12_number_wsX12_number_r1 (i := 1) rfl, (List.forall_mem_cons.mpr ⟨wrr_wsX12_number_wsX12_number_r1 (i := 20) rfl, (List.forall_mem_cons.mpr ⟨wrr_wsX12_number_wsX12_number_r1 (i := 21) rfl, (List.forall_mem_cons.mpr ⟨wrr_wsX12_number_wsX12_number_r1 (i := 22) rfl, (List.forall_mem_cons.mpr ⟨wrr_wsX12_number_wsX12_number_r1 (i := 23) rfl, (List.forall_mem_cons.mpr ⟨wrr_wsX12_number_wsX12_number_r2 (i := 0) rfl, (List.forall_mem_cons.mpr ⟨wrr_wsX12_number_wsX12_number_r2 (i := 1) rfl, (List.forall_mem_cons.mpr ⟨wrr_wsX12_number_wsX12_number_r2 (i := 2) rfl, (List.forall_mem_cons.mpr ⟨wrr_wsX12_number_wsX12_number_r2 (i := 3) rfl, (List.forall_mem_cons.mpr ⟨wrr_wsX12_number_wsX12_number_r2 (i := 4) rfl, (List.forall_mem_cons.mpr ⟨wrr_wsX12_number_wsX12_number_r1 (i := 6) rfl, (List.forall_mem_cons.mpr ⟨wrr_wsX12_number_wsX12_number_r2 (i := 5) rfl, (fun _ h => absurd h List.not_mem_nil)⟩)⟩)⟩)⟩)⟩)⟩)⟩)⟩)⟩)⟩)⟩)⟩)⟩)⟩)⟩)⟩)⟩), wru_wsX12_number_wsX120⟩)⟩) gw_wsX12_next
set_option maxRecDepth 20000 in
theorem gX12_number_X12_next : GoodIn wsX12_number (wsV RX12 142 RX12 yX12_next wsX12_next) := goodIn_app (goodIn_sub (List.forall_mem_cons.mpr ⟨wrr_wsX12_number_wsX12_number_r1 (i := 13) rfl, (List.forall_mem_cons.mpr ⟨wrr_wsX12_number_wsX12_number_r1 (i := 14) rfl, (List.forall_mem_cons.mpr ⟨wrr_wsX12_number_wsX12_number_r1 (i := 15) rfl, (List.forall_mem_cons.mpr ⟨wrr_wsX12_number_wsX12_number_r1 (i := 6) rfl, (fun _ h => absurd h List.not_mem_nil)⟩)⟩)⟩)⟩) (by decide +kernel)) ggX12_number_X12_next
theorem dX12_number_0 : decode cX12_number 0 = .ok (.aload_n 0, 1) := by decide +kernel
theorem dX12_number_1 : decode cX12_number 1 = .ok (.getfield 132, 3) := by decide +kernel
theorem dX12_number_4 : decode cX12_number 4 = .ok (.ifCond .eq 5, 3) := by decide +kernel
theorem dX12_number_7 : decode cX12_number 7 = .ok (.iload_n 1, 1) := by decide +kernel
theorem dX12_number_8 : decode cX12_number 8 = .ok (.ireturn, 1) := by decide +kernel
theorem dX12_number_9 : decode cX12_number 9 = .ok (.aload_n 0, 1) := by decide +kernel
theorem dX12_number_10 : decode cX12_number 10 = .ok (.getfield 121, 3) := by decide +kernel
theorem dX12_number_13 : decode cX12_number 13 = .ok (.iconst 2, 1) := by decide +kernel
theorem dX12_number_14 : decode cX12_number 14 = .ok (.if_icmp .eq 10, 3) := by decide +kernel
theorem dX12_number_17 : decode cX12_number 17 = .ok (.aload_n 0, 1) := by decide +kernel
theorem dX12_number_18 : decode cX12_number 18 = .ok (.iconst 1, 1) := by decide +kernel
theorem dX12_number_19 : decode cX12_number 19 = .ok (.invokevirtual 148, 3) := by decide +kernel
theorem dX12_number_22 : decode cX12_number 22 = .ok (.iload_n 1, 1) := by decide +kernel
theorem dX12_number_23 : decode cX12_number 23 = .ok (.ireturn, 1) := by decide +kernel
theorem dX12_number_24 : decode cX12_number 24 = .ok (.aload_n 0, 1) := by decide +kernel
theorem dX12_number_25 : decode cX12_number 25 = .ok (.getfield 114, 3) := by decide +kernel
theorem dX12_number_28 : decode cX12_number 28 = .ok (.i2l, 1) := by decide +kernel
theorem dX12_number_29 : decode cX12_number 29 = .ok (.iload_n 1, 1) := by decide +kernel
theorem dX12_number_30 : decode cX12_number 30 = .ok (.i2l, 1) := by decide +kernel
theorem dX12_number_31 : decode cX12_number 31 = .ok (.iload_n 2, 1) := by decide +kernel
theorem dX12_number_32 : decode cX12_number 32 = .ok (.i2l, 1) := by decide +kernel
theorem dX12_number_33 : decode cX12_number 33 = .ok (.invokestatic 85, 3) := by decide +kernel
theorem dX12_number_36 : decode cX12_number 36 = .ok (.ifCond .ne 10, 3) := by decide +kernel
theorem dX12_number_39 : decode cX12_number 39 = .ok (.aload_n 0, 1) := by decide +kernel
theorem dX12_number_40 : decode cX12_number 40 = .ok (.iconst 2, 1) := by decide +kernel
theorem dX12_number_41 : decode cX12_number 41 = .ok (.invokevirtual 148, 3) := by decide +kernel
theorem dX12_number_44 : decode cX12_number 44 = .ok (.iload_n 1, 1) := by decide +kernel
theorem dX12_number_45 : decode cX12_number 45 = .ok (.ireturn, 1) := by decide +kernel
theorem dX12_number_46 : decode cX12_number 46 = .ok (.aload_n 0, 1) := by decide +kernel
theorem dX12_number_47 : decode cX12_number 47 = .ok (.getfield 114, 3) := by decide +kernel
theorem dX12_number_50 : decode cX12_number 50 = .ok (.istore_n 3, 1) := by decide +kernel
theorem dX12_number_51 : decode cX12_number 51 = .ok (.aload_n 0, 1) := by decide +kernel
theorem dX12_number_52 : decode cX12_number 52 = .ok (.invokevirtual 142, 3) := by decide +kernel
theorem dX12_number_55 : decode cX12_number 55 = .ok (.iload_n 3, 1) := by decide +kernel
theorem dX12_number_56 : decode cX12_number 56 = .ok (.ireturn, 1) := by decide +kernel
theorem wrr_wsX12_number_ {i : Nat} {w : Cond} (h : wsX12_number_[i]? = some w) : w ∈ wsX12_number_ := List.mem_of_getElem? h
theorem wrr_wsX12_number__wsX12_number__r1 {i : Nat} {w : Cond} (h : wsX12_number__r1[i]? = some w) : w ∈ wsX12_number_ := (List.mem_cons_of_mem _ (List.mem_append_left _ (List.mem_append_left _ (List.mem_of_getElem? h))))
theorem wrr_wsX12_number__wsX12_number__r2 {i : Nat} {w : Cond} (h : wsX12_number__r2[i]? = some w) : w ∈ wsX12_number_ := (List.mem_cons_of_mem _ (List.mem_append_left _ (List.mem_append_right _ (List.mem_of_getElem? h))))
theorem wru_wsX12_number__wsX120 : ∀ w ∈ wsX120, w ∈ wsX12_number_ := fun w h => (List.mem_cons_of_mem _ (List.mem_append_right _ h))
set_option maxRecDepth 20000 in
theorem gw_wsX12_asks : wsX12_asks.all goodWord = true := by decide +kernel
set_option maxRecDepth 20000 in
theorem ggX12_number__X12_asks : GoodIn wsX12_number_ wsX12_asks := goodIn_sub (List.forall_mem_cons.mpr ⟨wrr_wsX12_number__wsX12_number__r1 (i := 4) rfl, (List.forall_mem_append.mpr ⟨(List.forall_mem_append.mpr ⟨(List.forall_mem_cons.mpr ⟨wrr_wsX12_number__wsX12_number__r1 (i := 5) rfl, (List.forall_mem_cons.mpr ⟨wrr_wsX12_number__wsX12_number__r1 (i := 6) rfl, (List.forall_mem_cons.mpr ⟨wrr_wsX12_number__wsX12_number__r1 (i := 7) rfl, (List.forall_mem_cons.mpr ⟨wrr_wsX12_number__wsX12_number__r1 (i := 3) rfl, (List.forall_mem_cons.mpr ⟨wrr_wsX12_number__wsX12_number__r1 (i := 8) rfl, (List.forall_mem_cons.mpr ⟨wrr_wsX12_number__wsX12_number__r1 (i := 9) rfl, (List.forall_mem_cons.mpr ⟨wrr_wsX12_number__wsX12_number__r1 (i := 10) rfl, (List.forall_mem_cons.mpr ⟨wrr_wsX12_number__wsX12_number__r1 (i := 11) rfl, (List.forall_mem_cons.mpr ⟨wrr_wsX12_number__wsX12_number__r1 (i := 12) rfl, (List.forall_mem_cons.mpr ⟨wrr_wsX12_number__wsX12_number__r1 (i := 13) rfl, (List.forall_mem_cons.mpr ⟨wrr_wsX12_number__wsX12_number__r1 (i := 14) rfl, (List.forall_mem_cons.mpr ⟨wrr_wsX12_number__wsX12_number__r1 (i := 15) rfl, (List.forall_mem_cons.mpr ⟨wrr_wsX12_number__wsX12_number__r1 (i := 16) rfl, (List.forall_mem_cons.mpr ⟨wrr_wsX12_number__wsX12_number__r1 (i := 17) rfl, (List.forall_mem_cons.mpr ⟨wrr_wsX12_number__wsX12_number__r1 (i := 18) rfl, (List.forall_mem_cons.mpr ⟨wrr_wsX12_number__wsX12_number__r1 (i := 19) rfl, (List.forall_mem_cons.mpr ⟨wrr_wsX12_number__wsX12_number__r1 (i := 20) rfl, (List.forall_mem_cons.mpr ⟨wrr_wsX12_number__wsX12_number__r1 (i := 21) rfl, (List.forall_mem_cons.mpr ⟨wrr_wsX12_number__wsX12_number__r1 (i := 22) rfl, (List.forall_mem_cons.mpr ⟨wrr_wsX12_number__wsX12_number__r1 (i := 23) rfl, (List.forall_mem_cons.mpr ⟨wrr_wsX12_number__wsX12_number__r2 (i := 0) rfl, (List.forall_mem_cons.mpr ⟨wrr_wsX12_number__wsX12_number__r2 (i := 1) rfl, (List.forall_mem_cons.mpr ⟨wrr_wsX12_number__wsX12_number__r2 (i := 2) rfl, (List.forall_mem_cons.mpr ⟨wrr_wsX12_number__wsX12_number__r2 (i := 3) rfl, (fun _ h => absurd h List.not_mem_nil)⟩)⟩)⟩)⟩)⟩)⟩)⟩)⟩)⟩)⟩)⟩)⟩)⟩)⟩)⟩)⟩)⟩)⟩)⟩)⟩)⟩)⟩)⟩)⟩), (List.forall_mem_cons.mpr ⟨wrr_wsX12_number__wsX12_number__r2 (i := 4) rfl, (List.forall_mem_cons.mpr ⟨wrr_wsX12_number__wsX12_number__r2 (i := 5) rfl, (List.forall_mem_cons.mpr ⟨wrr_wsX12_number__wsX12_number__r2 (i := 6) rfl, (List.forall_mem_cons.mpr ⟨wrr_wsX12_number__wsX12_number__r2 (i := 7) rfl, (List.forall_mem_cons.mpr ⟨wrr_wsX12_number__wsX12_number__r2 (i := 8) rfl, (List.forall_mem_cons.mpr ⟨wrr_wsX12_number__wsX12_number__r2 (i := 9) rfl, (List.forall_mem_cons.mpr ⟨wrr_wsX12_number__wsX12_number__r2 (i := 10) rfl, (List.forall_mem_cons.mpr ⟨wrr_wsX12_number__wsX12_number__r2 (i := 11) rfl, (List.forall_mem_cons.mpr ⟨wrr_wsX12_number__wsX12_number__r2 (i := 12) rfl, (List.forall_mem_cons.mpr ⟨wrr_wsX12_number__wsX12_number__r2 (i := 13) rfl, (List.forall_mem_cons.mpr ⟨wrr_wsX12_number__wsX12_number__r2 (i := 14) rfl, (fun _ h => absurd h List.not_mem_nil)⟩)⟩)⟩)⟩)⟩)⟩)⟩)⟩)⟩)⟩)⟩)⟩), wru_wsX12_number__wsX120⟩)⟩) gw_wsX12_asks
set_option maxRecDepth 20000 in
theorem gX12_number__X12_asks : GoodIn wsX12_number_ (wsV RX12 151 RX12 yX12_asks wsX12_asks) := goodIn_app (goodIn_sub (List.forall_mem_cons.mpr ⟨wrr_wsX12_number__wsX12_number__r1 (i := 0) rfl, (List.forall_mem_cons.mpr ⟨wrr_wsX12_number__wsX12_number__r1 (i := 1) rfl, (List.forall_mem_cons.mpr ⟨wrr_wsX12_number__wsX12_number__r1 (i := 2) rfl, (List.forall_mem_cons.mpr ⟨wrr_wsX12_number__wsX12_number__r1 (i := 3) rfl, (fun _ h => absurd h List.not_mem_nil)⟩)⟩)⟩)⟩) (by decide +kernel)) ggX12_number__X12_asks
set_option maxRecDepth 20000 in
theorem gw_wsX12_number : wsX12_number.all goodWord = true := by decide +kernel
set_option maxRecDepth 20000 in
theorem ggX12_number__X12_number : GoodIn wsX12_number_ wsX12_number := goodIn_sub (List.forall_mem_cons.mpr ⟨wrr_wsX12_number__wsX12_number__r2 (i := 18) rfl, (List.forall_mem_append.mpr ⟨(List.forall_mem_append.mpr ⟨(List.forall_mem_cons.mpr ⟨wrr_wsX12_number__wsX12_number__r1 (i := 13) rfl, (List.forall_mem_cons.mpr ⟨wrr_wsX12_number__wsX12_number__r1 (i := 14) rfl, (List.forall_mem_cons.mpr ⟨wrr_wsX12_number__wsX12_number__r1 (i := 22) rfl, (List.forall_mem_cons.mpr ⟨wrr_wsX12_number__wsX12_number__r2 (i := 10) rfl, (List.forall_mem_cons.mpr ⟨wrr_wsX12_number__wsX12_number__r2 (i := 11) rfl, (List.forall_mem_cons.mpr ⟨wrr_wsX12_number__wsX12_number__r2 (i := 12) rfl, (List.forall_mem_cons.mpr ⟨wrr_wsX12_number__wsX12_number__r1 (i := 3) rfl, (List.forall_mem_cons.mpr ⟨wrr_wsX12_number__wsX12_number__r2 (i := 13) rfl, (List.forall_mem_cons.mpr ⟨wrr_wsX12_number__wsX12_number__r1 (i := 21) rfl, (List.forall_mem_cons.mpr ⟨wrr_wsX12_number__wsX12_number__r2 (i := 14) rfl, (List.forall_mem_cons.mpr ⟨wrr_wsX12_number__wsX12_number__r2 (i := 19) rfl, (List.forall_mem_cons.mpr ⟨wrr_wsX12_number__wsX12_number__r2 (i := 20) rfl, (List.forall_mem_cons.mpr ⟨wrr_wsX12_number__wsX12_number__r2 (i := 21) rfl, (List.forall_mem_cons.mpr ⟨wrr_wsX12_number__wsX12_number__r1 (i := 16) rfl, (List.forall_mem_cons.mpr ⟨wrr_wsX12_number__wsX12_number__r1 (i := 17) rfl, (List.forall_mem_cons.mpr ⟨wrr_wsX12_number__wsX12_number__r1 (i := 18) rfl, (List.forall_mem_cons.mpr ⟨wrr_wsX12_number__wsX12_number__r1 (i := 19) rfl, (List.forall_mem_cons.mpr ⟨wrr_wsX12_number__wsX12_number__r1 (i := 20) rfl, (List.forall_mem_cons.mpr ⟨wrr_wsX12_number__wsX12_number__r1 (i := 15) rfl, (List.forall_mem_cons.mpr ⟨wrr_wsX12_number__wsX12_number__r1 (i := 23) rfl, (List.forall_mem_cons.mpr ⟨wrr_wsX12_number__wsX12_number__r2 (i := 0) rfl, (List.forall_mem_cons.mpr ⟨wrr_wsX12_number__wsX12_number__r2 (i := 1) rfl, (List.forall_mem_cons.mpr ⟨wrr_wsX12_number__wsX12_number__r2 (i := 2) rfl, (List.forall_mem_cons.mpr ⟨wrr_wsX12_number__wsX12_number__r2 (i := 3) rfl, (fun _ h => absurd h List.not_mem_nil)⟩)⟩)⟩)⟩)⟩)⟩)⟩)⟩)⟩)⟩)⟩)⟩)⟩)⟩)⟩)⟩)⟩)⟩)⟩)⟩)⟩)⟩)⟩)⟩), (List.forall_mem_cons.mpr ⟨wrr_wsX12_number__wsX12_number__r2 (i := 4) rfl, (List.forall_mem_cons.mpr ⟨wrr_wsX12_number__wsX12_number__r2 (i := 5) rfl, (List.forall_mem_cons.mpr ⟨wrr_wsX12_number__wsX12_number__r2 (i := 6) rfl, (List.forall_mem_cons.mpr ⟨wrr_wsX12_number__wsX12_number__r2 (i := 7) rfl, (List.forall_mem_cons.mpr ⟨wrr_wsX12_number__wsX12_number__r2 (i := 8) rfl, (List.forall_mem_cons.mpr ⟨wrr_wsX12_number__wsX12_number__r2 (i := 9) rfl, (fun _ h => absurd h List.not_mem_nil)⟩)⟩)⟩)⟩)⟩)⟩)⟩), wru_wsX12_number__wsX120⟩)⟩) gw_wsX12_number
set_option maxRecDepth 20000 in
theorem gX12_number__X12_number : GoodIn wsX12_number_ (wsV RX12 155 RX12 yX12_number wsX12_number) := goodIn_app (goodIn_sub (List.forall_mem_cons.mpr ⟨wrr_wsX12_number__wsX12_number__r2 (i := 15) rfl, (List.forall_mem_cons.mpr ⟨wrr_wsX12_number__wsX12_number__r2 (i := 16) rfl, (List.forall_mem_cons.mpr ⟨wrr_wsX12_number__wsX12_number__r2 (i := 17) rfl, (List.forall_mem_cons.mpr ⟨wrr_wsX12_number__wsX12_number__r1 (i := 3) rfl, (fun _ h => absurd h List.not_mem_nil)⟩)⟩)⟩)⟩) (by decide +kernel)) ggX12_number__X12_number
theorem dX12_number__0 : decode cX12_number_ 0 = .ok (.aload_n 0, 1) := by decide +kernel
theorem dX12_number__1 : decode cX12_number_ 1 = .ok (.lload_n 1, 1) := by decide +kernel
theorem dX12_number__2 : decode cX12_number_ 2 = .ok (.invokevirtual 151, 3) := by decide +kernel
theorem dX12_number__5 : decode cX12_number_ 5 = .ok (.aload_n 0, 1) := by decide +kernel
theorem dX12_number__6 : decode cX12_number_ 6 = .ok (.iload_n 3, 1) := by decide +kernel
theorem dX12_number__7 : decode cX12_number_ 7 = .ok (.iload 4, 2) := by decide +kernel
theorem dX12_number__9 : decode cX12_number_ 9 = .ok (.invokevirtual 155, 3) := by decide +kernel
theorem dX12_number__12 : decode cX12_number_ 12 = .ok (.ireturn, 1) := by decide +kernel
theorem wrr_wsX12_ends {i : Nat} {w : Cond} (h : wsX12_ends[i]? = some w) : w ∈ wsX12_ends := List.mem_of_getElem? h
theorem wrr_wsX12_ends_wsX12_ends_r1 {i : Nat} {w : Cond} (h : wsX12_ends_r1[i]? = some w) : w ∈ wsX12_ends := (List.mem_cons_of_mem _ (List.mem_append_left _ (List.mem_append_left _ (List.mem_of_getElem? h))))
theorem wrr_wsX12_ends_wsX12_ends_r2 {i : Nat} {w : Cond} (h : wsX12_ends_r2[i]? = some w) : w ∈ wsX12_ends := (List.mem_cons_of_mem _ (List.mem_append_left _ (List.mem_append_right _ (List.mem_of_getElem? h))))
theorem wru_wsX12_ends_wsX120 : ∀ w ∈ wsX120, w ∈ wsX12_ends := fun w h => (List.mem_cons_of_mem _ (List.mem_append_right _ h))
set_option maxRecDepth 20000 in
theorem ggX12_ends_X12_fails : GoodIn wsX12_ends wsX12_fails := goodIn_sub (List.forall_mem_cons.mpr ⟨wrr_wsX12_ends_wsX12_ends_r1 (i := 6) rfl, (List.forall_mem_append.mpr ⟨(List.forall_mem_cons.mpr ⟨wrr_wsX12_ends_wsX12_ends_r1 (i := 1) rfl, (List.forall_mem_cons.mpr ⟨wrr_wsX12_ends_wsX12_ends_r1 (i := 7) rfl, (List.forall_mem_cons.mpr ⟨wrr_wsX12_ends_wsX12_ends_r1 (i := 8) rfl, (fun _ h => absurd h List.not_mem_nil)⟩)⟩)⟩), wru_wsX12_ends_wsX120⟩)⟩) gw_wsX12_fails
set_option maxRecDepth 20000 in
theorem gX12_ends_X12_fails : GoodIn wsX12_ends (wsV RX12 148 RX12 yX12_fails wsX12_fails) := goodIn_app (goodIn_sub (List.forall_mem_cons.mpr ⟨wrr_wsX12_ends_wsX12_ends_r1 (i := 2) rfl, (List.forall_mem_cons.mpr ⟨wrr_wsX12_ends_wsX12_ends_r1 (i := 3) rfl, (List.forall_mem_cons.mpr ⟨wrr_wsX12_ends_wsX12_ends_r1 (i := 4) rfl, (List.forall_mem_cons.mpr ⟨wrr_wsX12_ends_wsX12_ends_r1 (i := 5) rfl, (fun _ h => absurd h List.not_mem_nil)⟩)⟩)⟩)⟩) (by decide +kernel)) ggX12_ends_X12_fails
set_option maxRecDepth 20000 in
theorem ggX12_ends_X12_next : GoodIn wsX12_ends wsX12_next := goodIn_sub (List.forall_mem_cons.mpr ⟨wrr_wsX12_ends_wsX12_ends_r1 (i := 12) rfl, (List.forall_mem_append.mpr ⟨(List.forall_mem_cons.mpr ⟨wrr_wsX12_ends_wsX12_ends_r1 (i := 13) rfl, (List.forall_mem_cons.mpr ⟨wrr_wsX12_ends_wsX12_ends_r1 (i := 7) rfl, (List.forall_mem_cons.mpr ⟨wrr_wsX12_ends_wsX12_ends_r1 (i := 14) rfl, (List.forall_mem_cons.mpr ⟨wrr_wsX12_ends_wsX12_ends_r1 (i := 15) rfl, (List.forall_mem_cons.mpr ⟨wrr_wsX12_ends_wsX12_ends_r1 (i := 16) rfl, (List.forall_mem_cons.mpr ⟨wrr_wsX12_ends_wsX12_ends_r1 (i := 0) rfl, (List.forall_mem_cons.mpr ⟨wrr_wsX12_ends_wsX12_ends_r1 (i := 17) rfl, (List.forall_mem_cons.mpr ⟨wrr_wsX12_ends_wsX12_ends_r1 (i := 18) rfl, (List.forall_mem_cons.mpr ⟨wrr_wsX12_ends_wsX12_ends_r1 (i := 19) rfl, (List.forall_mem_cons.mpr ⟨wrr_wsX12_ends_wsX12_ends_r1 (i := 20) rfl, (List.forall_mem_cons.mpr ⟨wrr_wsX12_ends_wsX12_ends_r1 (i := 21) rfl, (List.forall_mem_cons.mpr ⟨wrr_wsX12_ends_wsX12_ends_r1 (i := 22) rfl, (List.forall_mem_cons.mpr ⟨wrr_wsX12_ends_wsX12_ends_r1 (i := 23) rfl, (List.forall_mem_cons.mpr ⟨wrr_wsX12_ends_wsX12_ends_r2 (i := 0) rfl, (List.forall_mem_cons.mpr ⟨wrr_wsX12_ends_wsX12_ends_r2 (i := 1) rfl, (List.forall_mem_cons.mpr ⟨wrr_wsX12_ends_wsX12_ends_r1 (i := 5) rfl, (List.forall_mem_cons.mpr ⟨wrr_wsX12_ends_wsX12_ends_r2 (i := 2) rfl, (fun _ h => absurd h List.not_mem_nil)⟩)⟩)⟩)⟩)⟩)⟩)⟩)⟩)⟩)⟩)⟩)⟩)⟩)⟩)⟩)⟩)⟩), wru_wsX12_ends_wsX120⟩)⟩) gw_wsX12_next
set_option maxRecDepth 20000 in
theorem gX12_ends_X12_next : GoodIn wsX12_ends (wsV RX12 142 RX12 yX12_next wsX12_next) := goodIn_app (goodIn_sub (List.forall_mem_cons.mpr ⟨wrr_wsX12_ends_wsX12_ends_r1 (i := 9) rfl, (List.forall_mem_cons.mpr ⟨wrr_wsX12_ends_wsX12_ends_r1 (i := 10) rfl, (List.forall_mem_cons.mpr ⟨wrr_wsX12_ends_wsX12_ends_r1 (i := 11) rfl, (List.forall_mem_cons.mpr ⟨wrr_wsX12_ends_wsX12_ends_r1 (i := 5) rfl, (fun _ h => absurd h List.not_mem_nil)⟩)⟩)⟩)⟩) (by decide +kernel)) ggX12_ends_X12_next
theorem dX12_ends_0 : decode cX12_ends 0 = .ok (.aload_n 0, 1) := by decide +kernel
theorem dX12_ends_1 : decode cX12_ends 1 = .ok (.getfield 121, 3) := by decide +kernel
theorem dX12_ends_4 : decode cX12_ends 4 = .ok (.iconst 3, 1) := by decide +kernel
theorem dX12_ends_5 : decode cX12_ends 5 = .ok (.if_icmp .eq 8, 3) := by decide +kernel
theorem dX12_ends_8 : decode cX12_ends 8 = .ok (.aload_n 0, 1) := by decide +kernel
theorem dX12_ends_9 : decode cX12_ends 9 = .ok (.iconst 1, 1) := by decide +kernel
theorem dX12_ends_10 : decode cX12_ends 10 = .ok (.invokevirtual 148, 3) := by decide +kernel
theorem dX12_ends_13 : decode cX12_ends 13 = .ok (.aload_n 0, 1) := by decide +kernel
theorem dX12_ends_14 : decode cX12_ends 14 = .ok (.getfield 132, 3) := by decide +kernel
theorem dX12_ends_17 : decode cX12_ends 17 = .ok (.ifCond .ne 7, 3) := by decide +kernel
theorem dX12_ends_20 : decode cX12_ends 20 = .ok (.aload_n 0, 1) := by decide +kernel
theorem dX12_ends_21 : decode cX12_ends 21 = .ok (.invokevirtual 142, 3) := by decide +kernel
theorem dX12_ends_24 : decode cX12_ends 24 = .ok (.return_, 1) := by decide +kernel
theorem wrr_wsX12_begins {i : Nat} {w : Cond} (h : wsX12_begins[i]? = some w) : w ∈ wsX12_begins := List.mem_of_getElem? h
theorem wru_wsX12_begins_wsX120 : ∀ w ∈ wsX120, w ∈ wsX12_begins := fun w h => (List.mem_cons_of_mem _ (List.mem_append_right _ h))
set_option maxRecDepth 20000 in
theorem ggX12_begins_X12_next : GoodIn wsX12_begins wsX12_next := goodIn_sub (List.forall_mem_cons.mpr ⟨wrr_wsX12_begins (i := 8) rfl, (List.forall_mem_append.mpr ⟨(List.forall_mem_cons.mpr ⟨wrr_wsX12_begins (i := 3) rfl, (List.forall_mem_cons.mpr ⟨wrr_wsX12_begins (i := 9) rfl, (List.forall_mem_cons.mpr ⟨wrr_wsX12_begins (i := 10) rfl, (List.forall_mem_cons.mpr ⟨wrr_wsX12_begins (i := 11) rfl, (List.forall_mem_cons.mpr ⟨wrr_wsX12_begins (i := 12) rfl, (List.forall_mem_cons.mpr ⟨wrr_wsX12_begins (i := 13) rfl, (List.forall_mem_cons.mpr ⟨wrr_wsX12_begins (i := 14) rfl, (List.forall_mem_cons.mpr ⟨wrr_wsX12_begins (i := 15) rfl, (List.forall_mem_cons.mpr ⟨wrr_wsX12_begins (i := 16) rfl, (List.forall_mem_cons.mpr ⟨wrr_wsX12_begins (i := 17) rfl, (List.forall_mem_cons.mpr ⟨wrr_wsX12_begins (i := 18) rfl, (List.forall_mem_cons.mpr ⟨wrr_wsX12_begins (i := 19) rfl, (List.forall_mem_cons.mpr ⟨wrr_wsX12_begins (i := 20) rfl, (List.forall_mem_cons.mpr ⟨wrr_wsX12_begins (i := 21) rfl, (List.forall_mem_cons.mpr ⟨wrr_wsX12_begins (i := 22) rfl, (List.forall_mem_cons.mpr ⟨wrr_wsX12_begins (i := 7) rfl, (List.forall_mem_cons.mpr ⟨wrr_wsX12_begins (i := 23) rfl, (fun _ h => absurd h List.not_mem_nil)⟩)⟩)⟩)⟩)⟩)⟩)⟩)⟩)⟩)⟩)⟩)⟩)⟩)⟩)⟩)⟩)⟩), wru_wsX12_begins_wsX120⟩)⟩) gw_wsX12_next
set_option maxRecDepth 20000 in
theorem gX12_begins_X12_next : GoodIn wsX12_begins (wsV RX12 142 RX12 yX12_next wsX12_next) := goodIn_app (goodIn_sub (List.forall_mem_cons.mpr ⟨wrr_wsX12_begins (i := 4) rfl, (List.forall_mem_cons.mpr ⟨wrr_wsX12_begins (i := 5) rfl, (List.forall_mem_cons.mpr ⟨wrr_wsX12_begins (i := 6) rfl, (List.forall_mem_cons.mpr ⟨wrr_wsX12_begins (i := 7) rfl, (fun _ h => absurd h List.not_mem_nil)⟩)⟩)⟩)⟩) (by decide +kernel)) ggX12_begins_X12_next
theorem dX12_begins_0 : decode cX12_begins 0 = .ok (.aload_n 0, 1) := by decide +kernel
theorem dX12_begins_1 : decode cX12_begins 1 = .ok (.iconst 0, 1) := by decide +kernel
theorem dX12_begins_2 : decode cX12_begins 2 = .ok (.putfield 132, 3) := by decide +kernel
theorem dX12_begins_5 : decode cX12_begins 5 = .ok (.aload_n 0, 1) := by decide +kernel
theorem dX12_begins_6 : decode cX12_begins 6 = .ok (.iconst (-1), 1) := by decide +kernel
theorem dX12_begins_7 : decode cX12_begins 7 = .ok (.putfield 135, 3) := by decide +kernel
theorem dX12_begins_10 : decode cX12_begins 10 = .ok (.aload_n 0, 1) := by decide +kernel
theorem dX12_begins_11 : decode cX12_begins 11 = .ok (.iconst 0, 1) := by decide +kernel
theorem dX12_begins_12 : decode cX12_begins 12 = .ok (.putfield 104, 3) := by decide +kernel
theorem dX12_begins_15 : decode cX12_begins 15 = .ok (.aload_n 0, 1) := by decide +kernel
theorem dX12_begins_16 : decode cX12_begins 16 = .ok (.invokevirtual 142, 3) := by decide +kernel
theorem dX12_begins_19 : decode cX12_begins 19 = .ok (.return_, 1) := by decide +kernel
theorem dX12_isOver_0 : decode cX12_isOver 0 = .ok (.aload_n 0, 1) := by decide +kernel
theorem dX12_isOver_1 : decode cX12_isOver 1 = .ok (.iconst 0, 1) := by decide +kernel
theorem dX12_isOver_2 : decode cX12_isOver 2 = .ok (.putfield 97, 3) := by decide +kernel
theorem dX12_isOver_5 : decode cX12_isOver 5 = .ok (.aload_n 0, 1) := by decide +kernel
theorem dX12_isOver_6 : decode cX12_isOver 6 = .ok (.aload_n 0, 1) := by decide +kernel
theorem dX12_isOver_7 : decode cX12_isOver 7 = .ok (.getfield 132, 3) := by decide +kernel
theorem dX12_isOver_10 : decode cX12_isOver 10 = .ok (.putfield 159, 3) := by decide +kernel
theorem dX12_isOver_13 : decode cX12_isOver 13 = .ok (.aload_n 0, 1) := by decide +kernel
theorem dX12_isOver_14 : decode cX12_isOver 14 = .ok (.aload_n 0, 1) := by decide +kernel
theorem dX12_isOver_15 : decode cX12_isOver 15 = .ok (.getfield 132, 3) := by decide +kernel
theorem dX12_isOver_18 : decode cX12_isOver 18 = .ok (.ifCond .ne 7, 3) := by decide +kernel
theorem dX12_isOver_21 : decode cX12_isOver 21 = .ok (.iconst (-1), 1) := by decide +kernel
theorem dX12_isOver_22 : decode cX12_isOver 22 = .ok (.goto 7, 3) := by decide +kernel
theorem dX12_isOver_25 : decode cX12_isOver 25 = .ok (.aload_n 0, 1) := by decide +kernel
theorem dX12_isOver_26 : decode cX12_isOver 26 = .ok (.getfield 135, 3) := by decide +kernel
theorem dX12_isOver_29 : decode cX12_isOver 29 = .ok (.putfield 27, 3) := by decide +kernel
theorem dX12_isOver_32 : decode cX12_isOver 32 = .ok (.return_, 1) := by decide +kernel
theorem dX12_fault_0 : decode cX12_fault 0 = .ok (.aload_n 0, 1) := by decide +kernel
theorem dX12_fault_1 : decode cX12_fault 1 = .ok (.iconst 0, 1) := by decide +kernel
theorem dX12_fault_2 : decode cX12_fault 2 = .ok (.putfield 80, 3) := by decide +kernel
theorem dX12_fault_5 : decode cX12_fault 5 = .ok (.iload_n 1, 1) := by decide +kernel
theorem dX12_fault_6 : decode cX12_fault 6 = .ok (.ifCond .ne 10, 3) := by decide +kernel
theorem dX12_fault_9 : decode cX12_fault 9 = .ok (.aload_n 0, 1) := by decide +kernel
theorem dX12_fault_10 : decode cX12_fault 10 = .ok (.getfield 159, 3) := by decide +kernel
theorem dX12_fault_13 : decode cX12_fault 13 = .ok (.goto 16, 3) := by decide +kernel
theorem dX12_fault_16 : decode cX12_fault 16 = .ok (.iload_n 1, 1) := by decide +kernel
theorem dX12_fault_17 : decode cX12_fault 17 = .ok (.iconst 1, 1) := by decide +kernel
theorem dX12_fault_18 : decode cX12_fault 18 = .ok (.if_icmp .ne 10, 3) := by decide +kernel
theorem dX12_fault_21 : decode cX12_fault 21 = .ok (.aload_n 0, 1) := by decide +kernel
theorem dX12_fault_22 : decode cX12_fault 22 = .ok (.getfield 27, 3) := by decide +kernel
theorem dX12_fault_25 : decode cX12_fault 25 = .ok (.goto 4, 3) := by decide +kernel
theorem dX12_fault_28 : decode cX12_fault 28 = .ok (.iconst (-1), 1) := by decide +kernel
theorem dX12_fault_29 : decode cX12_fault 29 = .ok (.ireturn, 1) := by decide +kernel
theorem wrr_wsX12_stepHere {i : Nat} {w : Cond} (h : wsX12_stepHere[i]? = some w) : w ∈ wsX12_stepHere := List.mem_of_getElem? h
theorem wrr_wsX12_stepHere_wsX12_stepHere_r1 {i : Nat} {w : Cond} (h : wsX12_stepHere_r1[i]? = some w) : w ∈ wsX12_stepHere := (List.mem_cons_of_mem _ (List.mem_append_left _ (List.mem_append_left _ (List.mem_of_getElem? h))))
theorem wrr_wsX12_stepHere_wsX12_stepHere_r2 {i : Nat} {w : Cond} (h : wsX12_stepHere_r2[i]? = some w) : w ∈ wsX12_stepHere := (List.mem_cons_of_mem _ (List.mem_append_left _ (List.mem_append_right _ (List.mem_of_getElem? h))))
theorem wru_wsX12_stepHere_wsX120 : ∀ w ∈ wsX120, w ∈ wsX12_stepHere := fun w h => (List.mem_cons_of_mem _ (List.mem_append_right _ h))
set_option maxRecDepth 20000 in
theorem ggX12_stepHere_X12_number : GoodIn wsX12_stepHere wsX12_number := goodIn_sub (List.forall_mem_cons.mpr ⟨wrr_wsX12_stepHere_wsX12_stepHere_r1 (i := 4) rfl, (List.forall_mem_append.mpr ⟨(List.forall_mem_append.mpr ⟨(List.forall_mem_cons.mpr ⟨wrr_wsX12_stepHere_wsX12_stepHere_r1 (i := 5) rfl, (List.forall_mem_cons.mpr ⟨wrr_wsX12_stepHere_wsX12_stepHere_r1 (i := 6) rfl, (List.forall_mem_cons.mpr ⟨wrr_wsX12_stepHere_wsX12_stepHere_r1 (i := 7) rfl, (List.forall_mem_cons.mpr ⟨wrr_wsX12_stepHere_wsX12_stepHere_r1 (i := 8) rfl, (List.forall_mem_cons.mpr ⟨wrr_wsX12_stepHere_wsX12_stepHere_r1 (i := 9) rfl, (List.forall_mem_cons.mpr ⟨wrr_wsX12_stepHere_wsX12_stepHere_r1 (i := 10) rfl, (List.forall_mem_cons.mpr ⟨wrr_wsX12_stepHere_wsX12_stepHere_r1 (i := 3) rfl, (List.forall_mem_cons.mpr ⟨wrr_wsX12_stepHere_wsX12_stepHere_r1 (i := 11) rfl, (List.forall_mem_cons.mpr ⟨wrr_wsX12_stepHere_wsX12_stepHere_r1 (i := 12) rfl, (List.forall_mem_cons.mpr ⟨wrr_wsX12_stepHere_wsX12_stepHere_r1 (i := 13) rfl, (List.forall_mem_cons.mpr ⟨wrr_wsX12_stepHere_wsX12_stepHere_r1 (i := 14) rfl, (List.forall_mem_cons.mpr ⟨wrr_wsX12_stepHere_wsX12_stepHere_r1 (i := 15) rfl, (List.forall_mem_cons.mpr ⟨wrr_wsX12_stepHere_wsX12_stepHere_r1 (i := 16) rfl, (List.forall_mem_cons.mpr ⟨wrr_wsX12_stepHere_wsX12_stepHere_r1 (i := 17) rfl, (List.forall_mem_cons.mpr ⟨wrr_wsX12_stepHere_wsX12_stepHere_r1 (i := 18) rfl, (List.forall_mem_cons.mpr ⟨wrr_wsX12_stepHere_wsX12_stepHere_r1 (i := 19) rfl, (List.forall_mem_cons.mpr ⟨wrr_wsX12_stepHere_wsX12_stepHere_r1 (i := 20) rfl, (List.forall_mem_cons.mpr ⟨wrr_wsX12_stepHere_wsX12_stepHere_r1 (i := 21) rfl, (List.forall_mem_cons.mpr ⟨wrr_wsX12_stepHere_wsX12_stepHere_r1 (i := 22) rfl, (List.forall_mem_cons.mpr ⟨wrr_wsX12_stepHere_wsX12_stepHere_r1 (i := 23) rfl, (List.forall_mem_cons.mpr ⟨wrr_wsX12_stepHere_wsX12_stepHere_r2 (i := 0) rfl, (List.forall_mem_cons.mpr ⟨wrr_wsX12_stepHere_wsX12_stepHere_r2 (i := 1) rfl, (List.forall_mem_cons.mpr ⟨wrr_wsX12_stepHere_wsX12_stepHere_r2 (i := 2) rfl, (List.forall_mem_cons.mpr ⟨wrr_wsX12_stepHere_wsX12_stepHere_r2 (i := 3) rfl, (fun _ h => absurd h List.not_mem_nil)⟩)⟩)⟩)⟩)⟩)⟩)⟩)⟩)⟩)⟩)⟩)⟩)⟩)⟩)⟩)⟩)⟩)⟩)⟩)⟩)⟩)⟩)⟩)⟩), (List.forall_mem_cons.mpr ⟨wrr_wsX12_stepHere_wsX12_stepHere_r2 (i := 4) rfl, (List.forall_mem_cons.mpr ⟨wrr_wsX12_stepHere_wsX12_stepHere_r2 (i := 5) rfl, (List.forall_mem_cons.mpr ⟨wrr_wsX12_stepHere_wsX12_stepHere_r2 (i := 6) rfl, (List.forall_mem_cons.mpr ⟨wrr_wsX12_stepHere_wsX12_stepHere_r2 (i := 7) rfl, (List.forall_mem_cons.mpr ⟨wrr_wsX12_stepHere_wsX12_stepHere_r2 (i := 8) rfl, (List.forall_mem_cons.mpr ⟨wrr_wsX12_stepHere_wsX12_stepHere_r2 (i := 9) rfl, (fun _ h => absurd h List.not_mem_nil)⟩)⟩)⟩)⟩)⟩)⟩)⟩), wru_wsX12_stepHere_wsX120⟩)⟩) gw_wsX12_number
set_option maxRecDepth 20000 in
theorem gX12_stepHere_X12_number : GoodIn wsX12_stepHere (wsV RX12 155 RX12 yX12_number wsX12_number) := goodIn_app (goodIn_sub (List.forall_mem_cons.mpr ⟨wrr_wsX12_stepHere_wsX12_stepHere_r1 (i := 0) rfl, (List.forall_mem_cons.mpr ⟨wrr_wsX12_stepHere_wsX12_stepHere_r1 (i := 1) rfl, (List.forall_mem_cons.mpr ⟨wrr_wsX12_stepHere_wsX12_stepHere_r1 (i := 2) rfl, (List.forall_mem_cons.mpr ⟨wrr_wsX12_stepHere_wsX12_stepHere_r1 (i := 3) rfl, (fun _ h => absurd h List.not_mem_nil)⟩)⟩)⟩)⟩) (by decide +kernel)) ggX12_stepHere_X12_number
theorem dX12_stepHere_0 : decode cX12_stepHere 0 = .ok (.aload_n 0, 1) := by decide +kernel
theorem dX12_stepHere_1 : decode cX12_stepHere 1 = .ok (.iconst 0, 1) := by decide +kernel
theorem dX12_stepHere_2 : decode cX12_stepHere 2 = .ok (.iconst 5, 1) := by decide +kernel
theorem dX12_stepHere_3 : decode cX12_stepHere 3 = .ok (.invokevirtual 155, 3) := by decide +kernel
theorem dX12_stepHere_6 : decode cX12_stepHere 6 = .ok (.ireturn, 1) := by decide +kernel
theorem wrr_wsX12_beatHere {i : Nat} {w : Cond} (h : wsX12_beatHere[i]? = some w) : w ∈ wsX12_beatHere := List.mem_of_getElem? h
theorem wrr_wsX12_beatHere_wsX12_beatHere_r1 {i : Nat} {w : Cond} (h : wsX12_beatHere_r1[i]? = some w) : w ∈ wsX12_beatHere := (List.mem_cons_of_mem _ (List.mem_append_left _ (List.mem_append_left _ (List.mem_of_getElem? h))))
theorem wrr_wsX12_beatHere_wsX12_beatHere_r2 {i : Nat} {w : Cond} (h : wsX12_beatHere_r2[i]? = some w) : w ∈ wsX12_beatHere := (List.mem_cons_of_mem _ (List.mem_append_left _ (List.mem_append_right _ (List.mem_of_getElem? h))))
theorem wru_wsX12_beatHere_wsX120 : ∀ w ∈ wsX120, w ∈ wsX12_beatHere := fun w h => (List.mem_cons_of_mem _ (List.mem_append_right _ h))
set_option maxRecDepth 20000 in
theorem ggX12_beatHere_X12_number : GoodIn wsX12_beatHere wsX12_number := goodIn_sub (List.forall_mem_cons.mpr ⟨wrr_wsX12_beatHere_wsX12_beatHere_r1 (i := 4) rfl, (List.forall_mem_append.mpr ⟨(List.forall_mem_append.mpr ⟨(List.forall_mem_cons.mpr ⟨wrr_wsX12_beatHere_wsX12_beatHere_r1 (i := 5) rfl, (List.forall_mem_cons.mpr ⟨wrr_wsX12_beatHere_wsX12_beatHere_r1 (i := 6) rfl, (List.forall_mem_cons.mpr ⟨wrr_wsX12_beatHere_wsX12_beatHere_r1 (i := 7) rfl, (List.forall_mem_cons.mpr ⟨wrr_wsX12_beatHere_wsX12_beatHere_r1 (i := 8) rfl, (List.forall_mem_cons.mpr ⟨wrr_wsX12_beatHere_wsX12_beatHere_r1 (i := 9) rfl, (List.forall_mem_cons.mpr ⟨wrr_wsX12_beatHere_wsX12_beatHere_r1 (i := 10) rfl, (List.forall_mem_cons.mpr ⟨wrr_wsX12_beatHere_wsX12_beatHere_r1 (i := 3) rfl, (List.forall_mem_cons.mpr ⟨wrr_wsX12_beatHere_wsX12_beatHere_r1 (i := 11) rfl, (List.forall_mem_cons.mpr ⟨wrr_wsX12_beatHere_wsX12_beatHere_r1 (i := 12) rfl, (List.forall_mem_cons.mpr ⟨wrr_wsX12_beatHere_wsX12_beatHere_r1 (i := 13) rfl, (List.forall_mem_cons.mpr ⟨wrr_wsX12_beatHere_wsX12_beatHere_r1 (i := 14) rfl, (List.forall_mem_cons.mpr ⟨wrr_wsX12_beatHere_wsX12_beatHere_r1 (i := 15) rfl, (List.forall_mem_cons.mpr ⟨wrr_wsX12_beatHere_wsX12_beatHere_r1 (i := 16) rfl, (List.forall_mem_cons.mpr ⟨wrr_wsX12_beatHere_wsX12_beatHere_r1 (i := 17) rfl, (List.forall_mem_cons.mpr ⟨wrr_wsX12_beatHere_wsX12_beatHere_r1 (i := 18) rfl, (List.forall_mem_cons.mpr ⟨wrr_wsX12_beatHere_wsX12_beatHere_r1 (i := 19) rfl, (List.forall_mem_cons.mpr ⟨wrr_wsX12_beatHere_wsX12_beatHere_r1 (i := 20) rfl, (List.forall_mem_cons.mpr ⟨wrr_wsX12_beatHere_wsX12_beatHere_r1 (i := 21) rfl, (List.forall_mem_cons.mpr ⟨wrr_wsX12_beatHere_wsX12_beatHere_r1 (i := 22) rfl, (List.forall_mem_cons.mpr ⟨wrr_wsX12_beatHere_wsX12_beatHere_r1 (i := 23) rfl, (List.forall_mem_cons.mpr ⟨wrr_wsX12_beatHere_wsX12_beatHere_r2 (i := 0) rfl, (List.forall_mem_cons.mpr ⟨wrr_wsX12_beatHere_wsX12_beatHere_r2 (i := 1) rfl, (List.forall_mem_cons.mpr ⟨wrr_wsX12_beatHere_wsX12_beatHere_r2 (i := 2) rfl, (List.forall_mem_cons.mpr ⟨wrr_wsX12_beatHere_wsX12_beatHere_r2 (i := 3) rfl, (fun _ h => absurd h List.not_mem_nil)⟩)⟩)⟩)⟩)⟩)⟩)⟩)⟩)⟩)⟩)⟩)⟩)⟩)⟩)⟩)⟩)⟩)⟩)⟩)⟩)⟩)⟩)⟩)⟩), (List.forall_mem_cons.mpr ⟨wrr_wsX12_beatHere_wsX12_beatHere_r2 (i := 4) rfl, (List.forall_mem_cons.mpr ⟨wrr_wsX12_beatHere_wsX12_beatHere_r2 (i := 5) rfl, (List.forall_mem_cons.mpr ⟨wrr_wsX12_beatHere_wsX12_beatHere_r2 (i := 6) rfl, (List.forall_mem_cons.mpr ⟨wrr_wsX12_beatHere_wsX12_beatHere_r2 (i := 7) rfl, (List.forall_mem_cons.mpr ⟨wrr_wsX12_beatHere_wsX12_beatHere_r2 (i := 8) rfl, (List.forall_mem_cons.mpr ⟨wrr_wsX12_beatHere_wsX12_beatHere_r2 (i := 9) rfl, (fun _ h => absurd h List.not_mem_nil)⟩)⟩)⟩)⟩)⟩)⟩)⟩), wru_wsX12_beatHere_wsX120⟩)⟩) gw_wsX12_number
set_option maxRecDepth 20000 in
theorem gX12_beatHere_X12_number : GoodIn wsX12_beatHere (wsV RX12 155 RX12 yX12_number wsX12_number) := goodIn_app (goodIn_sub (List.forall_mem_cons.mpr ⟨wrr_wsX12_beatHere_wsX12_beatHere_r1 (i := 0) rfl, (List.forall_mem_cons.mpr ⟨wrr_wsX12_beatHere_wsX12_beatHere_r1 (i := 1) rfl, (List.forall_mem_cons.mpr ⟨wrr_wsX12_beatHere_wsX12_beatHere_r1 (i := 2) rfl, (List.forall_mem_cons.mpr ⟨wrr_wsX12_beatHere_wsX12_beatHere_r1 (i := 3) rfl, (fun _ h => absurd h List.not_mem_nil)⟩)⟩)⟩)⟩) (by decide +kernel)) ggX12_beatHere_X12_number
theorem dX12_beatHere_0 : decode cX12_beatHere 0 = .ok (.aload_n 0, 1) := by decide +kernel
theorem dX12_beatHere_1 : decode cX12_beatHere 1 = .ok (.iconst 0, 1) := by decide +kernel
theorem dX12_beatHere_2 : decode cX12_beatHere 2 = .ok (.sipush 199, 3) := by decide +kernel
theorem dX12_beatHere_5 : decode cX12_beatHere 5 = .ok (.invokevirtual 155, 3) := by decide +kernel
theorem dX12_beatHere_8 : decode cX12_beatHere 8 = .ok (.ireturn, 1) := by decide +kernel
theorem wrr_wsX12_isBeat {i : Nat} {w : Cond} (h : wsX12_isBeat[i]? = some w) : w ∈ wsX12_isBeat := List.mem_of_getElem? h
set_option maxRecDepth 20000 in
theorem ggX12_isBeat_X12_in : GoodIn wsX12_isBeat wsX12_in := goodIn_sub (List.forall_mem_cons.mpr ⟨wrr_wsX12_isBeat (i := 5) rfl, (fun _ h => absurd h List.not_mem_nil)⟩) gw_wsX12_in
set_option maxRecDepth 20000 in
theorem gX12_isBeat_X12_in : GoodIn wsX12_isBeat (va_wsS RX12 85 yX12_in wsX12_in) := goodIn_app (goodIn_sub (List.forall_mem_cons.mpr ⟨wrr_wsX12_isBeat (i := 2) rfl, (List.forall_mem_cons.mpr ⟨wrr_wsX12_isBeat (i := 3) rfl, (List.forall_mem_cons.mpr ⟨wrr_wsX12_isBeat (i := 4) rfl, (fun _ h => absurd h List.not_mem_nil)⟩)⟩)⟩) (by decide +kernel)) ggX12_isBeat_X12_in
theorem dX12_isBeat_0 : decode cX12_isBeat 0 = .ok (.lload_n 0, 1) := by decide +kernel
theorem dX12_isBeat_1 : decode cX12_isBeat 1 = .ok (.lconst 0, 1) := by decide +kernel
theorem dX12_isBeat_2 : decode cX12_isBeat 2 = .ok (.ldc2_w 257, 3) := by decide +kernel
theorem dX12_isBeat_5 : decode cX12_isBeat 5 = .ok (.invokestatic 85, 3) := by decide +kernel
theorem dX12_isBeat_8 : decode cX12_isBeat 8 = .ok (.ireturn, 1) := by decide +kernel
theorem wrr_wsX12_isStep {i : Nat} {w : Cond} (h : wsX12_isStep[i]? = some w) : w ∈ wsX12_isStep := List.mem_of_getElem? h
set_option maxRecDepth 20000 in
theorem ggX12_isStep_X12_in : GoodIn wsX12_isStep wsX12_in := goodIn_sub (List.forall_mem_cons.mpr ⟨wrr_wsX12_isStep (i := 5) rfl, (fun _ h => absurd h List.not_mem_nil)⟩) gw_wsX12_in
set_option maxRecDepth 20000 in
theorem gX12_isStep_X12_in : GoodIn wsX12_isStep (va_wsS RX12 85 yX12_in wsX12_in) := goodIn_app (goodIn_sub (List.forall_mem_cons.mpr ⟨wrr_wsX12_isStep (i := 2) rfl, (List.forall_mem_cons.mpr ⟨wrr_wsX12_isStep (i := 3) rfl, (List.forall_mem_cons.mpr ⟨wrr_wsX12_isStep (i := 4) rfl, (fun _ h => absurd h List.not_mem_nil)⟩)⟩)⟩) (by decide +kernel)) ggX12_isStep_X12_in
theorem dX12_isStep_0 : decode cX12_isStep 0 = .ok (.lload_n 0, 1) := by decide +kernel
theorem dX12_isStep_1 : decode cX12_isStep 1 = .ok (.lconst 0, 1) := by decide +kernel
theorem dX12_isStep_2 : decode cX12_isStep 2 = .ok (.ldc2_w 259, 3) := by decide +kernel
theorem dX12_isStep_5 : decode cX12_isStep 5 = .ok (.invokestatic 85, 3) := by decide +kernel
theorem dX12_isStep_8 : decode cX12_isStep 8 = .ok (.ireturn, 1) := by decide +kernel
theorem dX12_isBit_0 : decode cX12_isBit 0 = .ok (.iload_n 0, 1) := by decide +kernel
theorem dX12_isBit_1 : decode cX12_isBit 1 = .ok (.iload_n 1, 1) := by decide +kernel
theorem dX12_isBit_2 : decode cX12_isBit 2 = .ok (.ishr, 1) := by decide +kernel
theorem dX12_isBit_3 : decode cX12_isBit 3 = .ok (.iconst 1, 1) := by decide +kernel
theorem dX12_isBit_4 : decode cX12_isBit 4 = .ok (.iand, 1) := by decide +kernel
theorem dX12_isBit_5 : decode cX12_isBit 5 = .ok (.iconst 1, 1) := by decide +kernel
theorem dX12_isBit_6 : decode cX12_isBit 6 = .ok (.if_icmp .ne 7, 3) := by decide +kernel
theorem dX12_isBit_9 : decode cX12_isBit 9 = .ok (.iconst 1, 1) := by decide +kernel
theorem dX12_isBit_10 : decode cX12_isBit 10 = .ok (.goto 4, 3) := by decide +kernel
theorem dX12_isBit_13 : decode cX12_isBit 13 = .ok (.iconst 0, 1) := by decide +kernel
theorem dX12_isBit_14 : decode cX12_isBit 14 = .ok (.ireturn, 1) := by decide +kernel
theorem dX12_sizeOf_0 : decode cX12_sizeOf 0 = .ok (.iconst 0, 1) := by decide +kernel
theorem dX12_sizeOf_1 : decode cX12_sizeOf 1 = .ok (.istore_n 1, 1) := by decide +kernel
theorem dX12_sizeOf_2 : decode cX12_sizeOf 2 = .ok (.iload_n 0, 1) := by decide +kernel
theorem dX12_sizeOf_3 : decode cX12_sizeOf 3 = .ok (.istore_n 2, 1) := by decide +kernel
theorem dX12_sizeOf_4 : decode cX12_sizeOf 4 = .ok (.iload_n 2, 1) := by decide +kernel
theorem dX12_sizeOf_5 : decode cX12_sizeOf 5 = .ok (.ifCond .eq 15, 3) := by decide +kernel
theorem dX12_sizeOf_8 : decode cX12_sizeOf 8 = .ok (.iinc 1 1, 3) := by decide +kernel
theorem dX12_sizeOf_11 : decode cX12_sizeOf 11 = .ok (.iload_n 2, 1) := by decide +kernel
theorem dX12_sizeOf_12 : decode cX12_sizeOf 12 = .ok (.iload_n 2, 1) := by decide +kernel
theorem dX12_sizeOf_13 : decode cX12_sizeOf 13 = .ok (.iconst 1, 1) := by decide +kernel
theorem dX12_sizeOf_14 : decode cX12_sizeOf 14 = .ok (.isub, 1) := by decide +kernel
theorem dX12_sizeOf_15 : decode cX12_sizeOf 15 = .ok (.iand, 1) := by decide +kernel
theorem dX12_sizeOf_16 : decode cX12_sizeOf 16 = .ok (.istore_n 2, 1) := by decide +kernel
theorem dX12_sizeOf_17 : decode cX12_sizeOf 17 = .ok (.goto (-13), 3) := by decide +kernel
theorem dX12_sizeOf_20 : decode cX12_sizeOf 20 = .ok (.iload_n 1, 1) := by decide +kernel
theorem dX12_sizeOf_21 : decode cX12_sizeOf 21 = .ok (.ireturn, 1) := by decide +kernel
theorem dX12_known_0 : decode cX12_known 0 = .ok (.iload_n 0, 1) := by decide +kernel
theorem dX12_known_1 : decode cX12_known 1 = .ok (.sipush 1000, 3) := by decide +kernel
theorem dX12_known_4 : decode cX12_known 4 = .ok (.if_icmp .le 7, 3) := by decide +kernel
theorem dX12_known_7 : decode cX12_known 7 = .ok (.iconst (-1), 1) := by decide +kernel
theorem dX12_known_8 : decode cX12_known 8 = .ok (.goto 4, 3) := by decide +kernel
theorem dX12_known_11 : decode cX12_known 11 = .ok (.iload_n 0, 1) := by decide +kernel
theorem dX12_known_12 : decode cX12_known 12 = .ok (.ireturn, 1) := by decide +kernel
